theorem d_Resolver_giveSides_118 : decode b_Resolver_giveSides 118 = .ok (.aload_n 0, 1) := by decide +kernel
theorem d_Resolver_giveSides_119 : decode b_Resolver_giveSides 119 = .ok (.getfield 18, 3) := by decide +kernel
theorem d_Resolver_giveSides_122 : decode b_Resolver_giveSides 122 = .ok (.aload_n 0, 1) := by decide +kernel
theorem d_Resolver_giveSides_123 : decode b_Resolver_giveSides 123 = .ok (.getfield 43, 3) := by decide +kernel
theorem d_Resolver_giveSides_126 : decode b_Resolver_giveSides 126 = .ok (.iconst 1, 1) := by decide +kernel
theorem d_Resolver_giveSides_127 : decode b_Resolver_giveSides 127 = .ok (.isub, 1) := by decide +kernel
theorem d_Resolver_giveSides_128 : decode b_Resolver_giveSides 128 = .ok (.iaload, 1) := by decide +kernel
theorem d_Resolver_giveSides_129 : decode b_Resolver_giveSides 129 = .ok (.iastore, 1) := by decide +kernel
theorem d_Resolver_giveSides_130 : decode b_Resolver_giveSides 130 = .ok (.aload_n 0, 1) := by decide +kernel
theorem d_Resolver_giveSides_131 : decode b_Resolver_giveSides 131 = .ok (.getfield 15, 3) := by decide +kernel
theorem d_Resolver_giveSides_134 : decode b_Resolver_giveSides 134 = .ok (.aload_n 0, 1) := by decide +kernel
theorem d_Resolver_giveSides_135 : decode b_Resolver_giveSides 135 = .ok (.getfield 33, 3) := by decide +kernel
theorem d_Resolver_giveSides_138 : decode b_Resolver_giveSides 138 = .ok (.aload_n 0, 1) := by decide +kernel
theorem d_Resolver_giveSides_139 : decode b_Resolver_giveSides 139 = .ok (.getfield 21, 3) := by decide +kernel
theorem d_Resolver_giveSides_142 : decode b_Resolver_giveSides 142 = .ok (.aload_n 0, 1) := by decide +kernel
theorem d_Resolver_giveSides_143 : decode b_Resolver_giveSides 143 = .ok (.getfield 43, 3) := by decide +kernel
theorem d_Resolver_giveSides_146 : decode b_Resolver_giveSides 146 = .ok (.iconst 1, 1) := by decide +kernel
theorem d_Resolver_giveSides_147 : decode b_Resolver_giveSides 147 = .ok (.isub, 1) := by decide +kernel
theorem d_Resolver_giveSides_148 : decode b_Resolver_giveSides 148 = .ok (.iaload, 1) := by decide +kernel
theorem d_Resolver_giveSides_149 : decode b_Resolver_giveSides 149 = .ok (.iastore, 1) := by decide +kernel
theorem d_Resolver_giveSides_150 : decode b_Resolver_giveSides 150 = .ok (.aload_n 0, 1) := by decide +kernel
theorem d_Resolver_giveSides_151 : decode b_Resolver_giveSides 151 = .ok (.dup, 1) := by decide +kernel
theorem d_Resolver_giveSides_152 : decode b_Resolver_giveSides 152 = .ok (.getfield 33, 3) := by decide +kernel
theorem d_Resolver_giveSides_155 : decode b_Resolver_giveSides 155 = .ok (.iconst 1, 1) := by decide +kernel
theorem d_Resolver_giveSides_156 : decode b_Resolver_giveSides 156 = .ok (.iadd, 1) := by decide +kernel
theorem d_Resolver_giveSides_157 : decode b_Resolver_giveSides 157 = .ok (.putfield 33, 3) := by decide +kernel
theorem d_Resolver_giveSides_160 : decode b_Resolver_giveSides 160 = .ok (.return_, 1) := by decide +kernel
theorem d_Resolver_tally_0 : decode b_Resolver_tally 0 = .ok (.iconst 0, 1) := by decide +kernel
theorem d_Resolver_tally_1 : decode b_Resolver_tally 1 = .ok (.istore_n 3, 1) := by decide +kernel
theorem d_Resolver_tally_2 : decode b_Resolver_tally 2 = .ok (.iload_n 3, 1) := by decide +kernel
theorem d_Resolver_tally_3 : decode b_Resolver_tally 3 = .ok (.aload_n 0, 1) := by decide +kernel
theorem d_Resolver_tally_4 : decode b_Resolver_tally 4 = .ok (.getfield 33, 3) := by decide +kernel
theorem d_Resolver_tally_7 : decode b_Resolver_tally 7 = .ok (.if_icmp .ge 65, 3) := by decide +kernel
theorem d_Resolver_tally_10 : decode b_Resolver_tally 10 = .ok (.aload_n 0, 1) := by decide +kernel
theorem d_Resolver_tally_11 : decode b_Resolver_tally 11 = .ok (.getfield 9, 3) := by decide +kernel
theorem d_Resolver_tally_14 : decode b_Resolver_tally 14 = .ok (.iload_n 3, 1) := by decide +kernel
theorem d_Resolver_tally_15 : decode b_Resolver_tally 15 = .ok (.iaload, 1) := by decide +kernel
theorem d_Resolver_tally_16 : decode b_Resolver_tally 16 = .ok (.istore 4, 2) := by decide +kernel
theorem d_Resolver_tally_18 : decode b_Resolver_tally 18 = .ok (.aload_n 0, 1) := by decide +kernel
theorem d_Resolver_tally_19 : decode b_Resolver_tally 19 = .ok (.getfield 15, 3) := by decide +kernel
theorem d_Resolver_tally_22 : decode b_Resolver_tally 22 = .ok (.iload_n 3, 1) := by decide +kernel
theorem d_Resolver_tally_23 : decode b_Resolver_tally 23 = .ok (.iaload, 1) := by decide +kernel
theorem d_Resolver_tally_24 : decode b_Resolver_tally 24 = .ok (.istore 5, 2) := by decide +kernel
theorem d_Resolver_tally_26 : decode b_Resolver_tally 26 = .ok (.iload 4, 2) := by decide +kernel
theorem d_Resolver_tally_28 : decode b_Resolver_tally 28 = .ok (.ifCond .lt 38, 3) := by decide +kernel
theorem d_Resolver_tally_31 : decode b_Resolver_tally 31 = .ok (.iload 4, 2) := by decide +kernel
theorem d_Resolver_tally_33 : decode b_Resolver_tally 33 = .ok (.aload_n 1, 1) := by decide +kernel
theorem d_Resolver_tally_34 : decode b_Resolver_tally 34 = .ok (.arraylength, 1) := by decide +kernel
theorem d_Resolver_tally_35 : decode b_Resolver_tally 35 = .ok (.if_icmp .ge 31, 3) := by decide +kernel
theorem d_Resolver_tally_38 : decode b_Resolver_tally 38 = .ok (.iload 5, 2) := by decide +kernel
theorem d_Resolver_tally_40 : decode b_Resolver_tally 40 = .ok (.ifCond .lt 26, 3) := by decide +kernel
theorem d_Resolver_tally_43 : decode b_Resolver_tally 43 = .ok (.iload 5, 2) := by decide +kernel
theorem d_Resolver_tally_45 : decode b_Resolver_tally 45 = .ok (.aload_n 2, 1) := by decide +kernel
theorem d_Resolver_tally_46 : decode b_Resolver_tally 46 = .ok (.arraylength, 1) := by decide +kernel
theorem d_Resolver_tally_47 : decode b_Resolver_tally 47 = .ok (.if_icmp .ge 19, 3) := by decide +kernel
theorem d_Resolver_tally_50 : decode b_Resolver_tally 50 = .ok (.aload_n 1, 1) := by decide +kernel
theorem d_Resolver_tally_51 : decode b_Resolver_tally 51 = .ok (.iload 4, 2) := by decide +kernel
theorem d_Resolver_tally_53 : decode b_Resolver_tally 53 = .ok (.dup2, 1) := by decide +kernel
theorem d_Resolver_tally_54 : decode b_Resolver_tally 54 = .ok (.iaload, 1) := by decide +kernel
theorem d_Resolver_tally_55 : decode b_Resolver_tally 55 = .ok (.iconst 1, 1) := by decide +kernel
theorem d_Resolver_tally_56 : decode b_Resolver_tally 56 = .ok (.iadd, 1) := by decide +kernel
theorem d_Resolver_tally_57 : decode b_Resolver_tally 57 = .ok (.iastore, 1) := by decide +kernel
theorem d_Resolver_tally_58 : decode b_Resolver_tally 58 = .ok (.aload_n 2, 1) := by decide +kernel
theorem d_Resolver_tally_59 : decode b_Resolver_tally 59 = .ok (.iload 5, 2) := by decide +kernel
theorem d_Resolver_tally_61 : decode b_Resolver_tally 61 = .ok (.dup2, 1) := by decide +kernel
theorem d_Resolver_tally_62 : decode b_Resolver_tally 62 = .ok (.iaload, 1) := by decide +kernel
theorem d_Resolver_tally_63 : decode b_Resolver_tally 63 = .ok (.iconst 1, 1) := by decide +kernel
theorem d_Resolver_tally_64 : decode b_Resolver_tally 64 = .ok (.iadd, 1) := by decide +kernel
theorem d_Resolver_tally_65 : decode b_Resolver_tally 65 = .ok (.iastore, 1) := by decide +kernel
theorem d_Resolver_tally_66 : decode b_Resolver_tally 66 = .ok (.iinc 3 1, 3) := by decide +kernel
theorem d_Resolver_tally_69 : decode b_Resolver_tally 69 = .ok (.goto (-67), 3) := by decide +kernel
theorem d_Resolver_tally_72 : decode b_Resolver_tally 72 = .ok (.return_, 1) := by decide +kernel
theorem d_Rows_init_0 : decode b_Rows_init 0 = .ok (.aload_n 0, 1) := by decide +kernel
theorem d_Rows_init_1 : decode b_Rows_init 1 = .ok (.invokespecial 3, 3) := by decide +kernel
theorem d_Rows_init_4 : decode b_Rows_init 4 = .ok (.aload_n 0, 1) := by decide +kernel
theorem d_Rows_init_5 : decode b_Rows_init 5 = .ok (.sipush 362, 3) := by decide +kernel
theorem d_Rows_init_8 : decode b_Rows_init 8 = .ok (.newarray .int, 2) := by decide +kernel
theorem d_Rows_init_10 : decode b_Rows_init 10 = .ok (.putfield 9, 3) := by decide +kernel
theorem d_Rows_init_13 : decode b_Rows_init 13 = .ok (.aload_n 0, 1) := by decide +kernel
theorem d_Rows_init_14 : decode b_Rows_init 14 = .ok (.bipush 90, 2) := by decide +kernel
theorem d_Rows_init_16 : decode b_Rows_init 16 = .ok (.newarray .int, 2) := by decide +kernel
theorem d_Rows_init_18 : decode b_Rows_init 18 = .ok (.putfield 15, 3) := by decide +kernel
theorem d_Rows_init_21 : decode b_Rows_init 21 = .ok (.aload_n 0, 1) := by decide +kernel
theorem d_Rows_init_22 : decode b_Rows_init 22 = .ok (.sipush 362, 3) := by decide +kernel
theorem d_Rows_init_25 : decode b_Rows_init 25 = .ok (.newarray .int, 2) := by decide +kernel
theorem d_Rows_init_27 : decode b_Rows_init 27 = .ok (.putfield 18, 3) := by decide +kernel
theorem d_Rows_init_30 : decode b_Rows_init 30 = .ok (.aload_n 0, 1) := by decide +kernel
theorem d_Rows_init_31 : decode b_Rows_init 31 = .ok (.sipush 362, 3) := by decide +kernel
theorem d_Rows_init_34 : decode b_Rows_init 34 = .ok (.newarray .int, 2) := by decide +kernel
theorem d_Rows_init_36 : decode b_Rows_init 36 = .ok (.putfield 21, 3) := by decide +kernel
theorem d_Rows_init_39 : decode b_Rows_init 39 = .ok (.aload_n 0, 1) := by decide +kernel
theorem d_Rows_init_40 : decode b_Rows_init 40 = .ok (.new 24, 3) := by decide +kernel
theorem d_Rows_init_43 : decode b_Rows_init 43 = .ok (.dup, 1) := by decide +kernel
theorem d_Rows_init_44 : decode b_Rows_init 44 = .ok (.invokespecial 26, 3) := by decide +kernel
theorem d_Rows_init_47 : decode b_Rows_init 47 = .ok (.putfield 27, 3) := by decide +kernel
theorem d_Rows_init_50 : decode b_Rows_init 50 = .ok (.aload_n 0, 1) := by decide +kernel
theorem d_Rows_init_51 : decode b_Rows_init 51 = .ok (.new 31, 3) := by decide +kernel
theorem d_Rows_init_54 : decode b_Rows_init 54 = .ok (.dup, 1) := by decide +kernel
theorem d_Rows_init_55 : decode b_Rows_init 55 = .ok (.invokespecial 33, 3) := by decide +kernel
theorem d_Rows_init_58 : decode b_Rows_init 58 = .ok (.putfield 34, 3) := by decide +kernel
theorem d_Rows_init_61 : decode b_Rows_init 61 = .ok (.return_, 1) := by decide +kernel
theorem d_Rows_together_0 : decode b_Rows_together 0 = .ok (.aload_n 0, 1) := by decide +kernel
theorem d_Rows_together_1 : decode b_Rows_together 1 = .ok (.getfield 38, 3) := by decide +kernel
theorem d_Rows_together_4 : decode b_Rows_together 4 = .ok (.ireturn, 1) := by decide +kernel
theorem d_Rows_inConflict_0 : decode b_Rows_inConflict 0 = .ok (.aload_n 0, 1) := by decide +kernel
theorem d_Rows_inConflict_1 : decode b_Rows_inConflict 1 = .ok (.getfield 42, 3) := by decide +kernel
theorem d_Rows_inConflict_4 : decode b_Rows_inConflict 4 = .ok (.ireturn, 1) := by decide +kernel
theorem d_Rows_putTogether_0 : decode b_Rows_putTogether 0 = .ok (.aload_n 0, 1) := by decide +kernel
theorem d_Rows_putTogether_1 : decode b_Rows_putTogether 1 = .ok (.iconst 0, 1) := by decide +kernel
theorem d_Rows_putTogether_2 : decode b_Rows_putTogether 2 = .ok (.putfield 38, 3) := by decide +kernel
theorem d_Rows_putTogether_5 : decode b_Rows_putTogether 5 = .ok (.aload_n 0, 1) := by decide +kernel
theorem d_Rows_putTogether_6 : decode b_Rows_putTogether 6 = .ok (.iconst 0, 1) := by decide +kernel
theorem d_Rows_putTogether_7 : decode b_Rows_putTogether 7 = .ok (.putfield 42, 3) := by decide +kernel
theorem d_Rows_putTogether_10 : decode b_Rows_putTogether 10 = .ok (.aload_n 0, 1) := by decide +kernel
theorem d_Rows_putTogether_11 : decode b_Rows_putTogether 11 = .ok (.getfield 34, 3) := by decide +kernel
theorem d_Rows_putTogether_14 : decode b_Rows_putTogether 14 = .ok (.invokevirtual 45, 3) := by decide +kernel
theorem d_Rows_putTogether_17 : decode b_Rows_putTogether 17 = .ok (.aload_n 0, 1) := by decide +kernel
theorem d_Rows_putTogether_18 : decode b_Rows_putTogether 18 = .ok (.aload_n 1, 1) := by decide +kernel
theorem d_Rows_putTogether_19 : decode b_Rows_putTogether 19 = .ok (.invokevirtual 48, 3) := by decide +kernel
theorem d_Rows_putTogether_22 : decode b_Rows_putTogether 22 = .ok (.aload_n 0, 1) := by decide +kernel
theorem d_Rows_putTogether_23 : decode b_Rows_putTogether 23 = .ok (.aload_n 1, 1) := by decide +kernel
theorem d_Rows_putTogether_24 : decode b_Rows_putTogether 24 = .ok (.iconst 0, 1) := by decide +kernel
theorem d_Rows_putTogether_25 : decode b_Rows_putTogether 25 = .ok (.aload_n 1, 1) := by decide +kernel
theorem d_Rows_putTogether_26 : decode b_Rows_putTogether 26 = .ok (.invokevirtual 52, 3) := by decide +kernel
theorem d_Rows_putTogether_29 : decode b_Rows_putTogether 29 = .ok (.aload_n 2, 1) := by decide +kernel
theorem d_Rows_putTogether_30 : decode b_Rows_putTogether 30 = .ok (.invokevirtual 58, 3) := by decide +kernel
theorem d_Rows_putTogether_33 : decode b_Rows_putTogether 33 = .ok (.iconst 0, 1) := by decide +kernel
theorem d_Rows_putTogether_34 : decode b_Rows_putTogether 34 = .ok (.istore_n 3, 1) := by decide +kernel
theorem d_Rows_putTogether_35 : decode b_Rows_putTogether 35 = .ok (.iload_n 3, 1) := by decide +kernel
theorem d_Rows_putTogether_36 : decode b_Rows_putTogether 36 = .ok (.aload_n 1, 1) := by decide +kernel
theorem d_Rows_putTogether_37 : decode b_Rows_putTogether 37 = .ok (.invokevirtual 52, 3) := by decide +kernel
theorem d_Rows_putTogether_40 : decode b_Rows_putTogether 40 = .ok (.if_icmp .ge 31, 3) := by decide +kernel
theorem d_Rows_putTogether_43 : decode b_Rows_putTogether 43 = .ok (.aload_n 1, 1) := by decide +kernel
theorem d_Rows_putTogether_44 : decode b_Rows_putTogether 44 = .ok (.iload_n 3, 1) := by decide +kernel
theorem d_Rows_putTogether_45 : decode b_Rows_putTogether 45 = .ok (.invokevirtual 62, 3) := by decide +kernel
theorem d_Rows_putTogether_48 : decode b_Rows_putTogether 48 = .ok (.ifCond .eq 17, 3) := by decide +kernel
theorem d_Rows_putTogether_51 : decode b_Rows_putTogether 51 = .ok (.aload_n 0, 1) := by decide +kernel
theorem d_Rows_putTogether_52 : decode b_Rows_putTogether 52 = .ok (.aload_n 1, 1) := by decide +kernel
theorem d_Rows_putTogether_53 : decode b_Rows_putTogether 53 = .ok (.iload_n 3, 1) := by decide +kernel
theorem d_Rows_putTogether_54 : decode b_Rows_putTogether 54 = .ok (.iconst 1, 1) := by decide +kernel
theorem d_Rows_putTogether_55 : decode b_Rows_putTogether 55 = .ok (.iadd, 1) := by decide +kernel
theorem d_Rows_putTogether_56 : decode b_Rows_putTogether 56 = .ok (.aload_n 0, 1) := by decide +kernel
theorem d_Rows_putTogether_57 : decode b_Rows_putTogether 57 = .ok (.iload_n 3, 1) := by decide +kernel
theorem d_Rows_putTogether_58 : decode b_Rows_putTogether 58 = .ok (.invokevirtual 66, 3) := by decide +kernel
theorem d_Rows_putTogether_61 : decode b_Rows_putTogether 61 = .ok (.aload_n 2, 1) := by decide +kernel
theorem d_Rows_putTogether_62 : decode b_Rows_putTogether 62 = .ok (.invokevirtual 58, 3) := by decide +kernel
theorem d_Rows_putTogether_65 : decode b_Rows_putTogether 65 = .ok (.iinc 3 1, 3) := by decide +kernel
theorem d_Rows_putTogether_68 : decode b_Rows_putTogether 68 = .ok (.goto (-33), 3) := by decide +kernel
theorem d_Rows_putTogether_71 : decode b_Rows_putTogether 71 = .ok (.return_, 1) := by decide +kernel
theorem d_Rows_copyInto_0 : decode b_Rows_copyInto 0 = .ok (.iconst 0, 1) := by decide +kernel
theorem d_Rows_copyInto_1 : decode b_Rows_copyInto 1 = .ok (.istore_n 3, 1) := by decide +kernel
theorem d_Rows_copyInto_2 : decode b_Rows_copyInto 2 = .ok (.iload_n 3, 1) := by decide +kernel
theorem d_Rows_copyInto_3 : decode b_Rows_copyInto 3 = .ok (.sipush 362, 3) := by decide +kernel
theorem d_Rows_copyInto_6 : decode b_Rows_copyInto 6 = .ok (.if_icmp .ge 23, 3) := by decide +kernel
theorem d_Rows_copyInto_9 : decode b_Rows_copyInto 9 = .ok (.aload_n 0, 1) := by decide +kernel
theorem d_Rows_copyInto_10 : decode b_Rows_copyInto 10 = .ok (.getfield 18, 3) := by decide +kernel
theorem d_Rows_copyInto_13 : decode b_Rows_copyInto 13 = .ok (.iload_n 3, 1) := by decide +kernel
theorem d_Rows_copyInto_14 : decode b_Rows_copyInto 14 = .ok (.iconst 0, 1) := by decide +kernel
theorem d_Rows_copyInto_15 : decode b_Rows_copyInto 15 = .ok (.iastore, 1) := by decide +kernel
theorem d_Rows_copyInto_16 : decode b_Rows_copyInto 16 = .ok (.aload_n 0, 1) := by decide +kernel
theorem d_Rows_copyInto_17 : decode b_Rows_copyInto 17 = .ok (.getfield 21, 3) := by decide +kernel
theorem d_Rows_copyInto_20 : decode b_Rows_copyInto 20 = .ok (.iload_n 3, 1) := by decide +kernel
theorem d_Rows_copyInto_21 : decode b_Rows_copyInto 21 = .ok (.iconst 0, 1) := by decide +kernel
theorem d_Rows_copyInto_22 : decode b_Rows_copyInto 22 = .ok (.iastore, 1) := by decide +kernel
theorem d_Rows_copyInto_23 : decode b_Rows_copyInto 23 = .ok (.iinc 3 1, 3) := by decide +kernel
theorem d_Rows_copyInto_26 : decode b_Rows_copyInto 26 = .ok (.goto (-24), 3) := by decide +kernel
theorem d_Rows_copyInto_29 : decode b_Rows_copyInto 29 = .ok (.aload_n 0, 1) := by decide +kernel
theorem d_Rows_copyInto_30 : decode b_Rows_copyInto 30 = .ok (.getfield 34, 3) := by decide +kernel
theorem d_Rows_copyInto_33 : decode b_Rows_copyInto 33 = .ok (.aload_n 0, 1) := by decide +kernel
theorem d_Rows_copyInto_34 : decode b_Rows_copyInto 34 = .ok (.getfield 18, 3) := by decide +kernel
theorem d_Rows_copyInto_37 : decode b_Rows_copyInto 37 = .ok (.aload_n 0, 1) := by decide +kernel
theorem d_Rows_copyInto_38 : decode b_Rows_copyInto 38 = .ok (.getfield 21, 3) := by decide +kernel
theorem d_Rows_copyInto_41 : decode b_Rows_copyInto 41 = .ok (.invokevirtual 70, 3) := by decide +kernel
theorem d_Rows_copyInto_44 : decode b_Rows_copyInto 44 = .ok (.iconst 0, 1) := by decide +kernel
theorem d_Rows_copyInto_45 : decode b_Rows_copyInto 45 = .ok (.istore_n 3, 1) := by decide +kernel
theorem d_Rows_copyInto_46 : decode b_Rows_copyInto 46 = .ok (.iload_n 3, 1) := by decide +kernel
theorem d_Rows_copyInto_47 : decode b_Rows_copyInto 47 = .ok (.aload_n 2, 1) := by decide +kernel
theorem d_Rows_copyInto_48 : decode b_Rows_copyInto 48 = .ok (.invokevirtual 52, 3) := by decide +kernel
theorem d_Rows_copyInto_51 : decode b_Rows_copyInto 51 = .ok (.if_icmp .ge 58, 3) := by decide +kernel
theorem d_Rows_copyInto_54 : decode b_Rows_copyInto 54 = .ok (.iload_n 3, 1) := by decide +kernel
theorem d_Rows_copyInto_55 : decode b_Rows_copyInto 55 = .ok (.sipush 362, 3) := by decide +kernel
theorem d_Rows_copyInto_58 : decode b_Rows_copyInto 58 = .ok (.if_icmp .ge 51, 3) := by decide +kernel
theorem d_Rows_copyInto_61 : decode b_Rows_copyInto 61 = .ok (.aload_n 1, 1) := by decide +kernel
theorem d_Rows_copyInto_62 : decode b_Rows_copyInto 62 = .ok (.aload_n 0, 1) := by decide +kernel
theorem d_Rows_copyInto_63 : decode b_Rows_copyInto 63 = .ok (.getfield 18, 3) := by decide +kernel
theorem d_Rows_copyInto_66 : decode b_Rows_copyInto 66 = .ok (.iload_n 3, 1) := by decide +kernel
theorem d_Rows_copyInto_67 : decode b_Rows_copyInto 67 = .ok (.iaload, 1) := by decide +kernel
theorem d_Rows_copyInto_68 : decode b_Rows_copyInto 68 = .ok (.iconst 5, 1) := by decide +kernel
theorem d_Rows_copyInto_69 : decode b_Rows_copyInto 69 = .ok (.ldc2_w 74, 3) := by decide +kernel
theorem d_Rows_copyInto_72 : decode b_Rows_copyInto 72 = .ok (.invokevirtual 76, 3) := by decide +kernel
theorem d_Rows_copyInto_75 : decode b_Rows_copyInto 75 = .ok (.aload_n 1, 1) := by decide +kernel
theorem d_Rows_copyInto_76 : decode b_Rows_copyInto 76 = .ok (.aload_n 2, 1) := by decide +kernel
theorem d_Rows_copyInto_77 : decode b_Rows_copyInto 77 = .ok (.iload_n 3, 1) := by decide +kernel
theorem d_Rows_copyInto_78 : decode b_Rows_copyInto 78 = .ok (.invokevirtual 80, 3) := by decide +kernel
theorem d_Rows_copyInto_81 : decode b_Rows_copyInto 81 = .ok (.aload_n 2, 1) := by decide +kernel
theorem d_Rows_copyInto_82 : decode b_Rows_copyInto 82 = .ok (.iload_n 3, 1) := by decide +kernel
theorem d_Rows_copyInto_83 : decode b_Rows_copyInto 83 = .ok (.invokevirtual 83, 3) := by decide +kernel
theorem d_Rows_copyInto_86 : decode b_Rows_copyInto 86 = .ok (.invokevirtual 87, 3) := by decide +kernel
theorem d_Rows_copyInto_89 : decode b_Rows_copyInto 89 = .ok (.aload_n 1, 1) := by decide +kernel
theorem d_Rows_copyInto_90 : decode b_Rows_copyInto 90 = .ok (.aload_n 0, 1) := by decide +kernel
theorem d_Rows_copyInto_91 : decode b_Rows_copyInto 91 = .ok (.getfield 21, 3) := by decide +kernel
theorem d_Rows_copyInto_94 : decode b_Rows_copyInto 94 = .ok (.iload_n 3, 1) := by decide +kernel
theorem d_Rows_copyInto_95 : decode b_Rows_copyInto 95 = .ok (.iaload, 1) := by decide +kernel
theorem d_Rows_copyInto_96 : decode b_Rows_copyInto 96 = .ok (.iconst 5, 1) := by decide +kernel
theorem d_Rows_copyInto_97 : decode b_Rows_copyInto 97 = .ok (.ldc2_w 91, 3) := by decide +kernel
theorem d_Rows_copyInto_100 : decode b_Rows_copyInto 100 = .ok (.invokevirtual 76, 3) := by decide +kernel
theorem d_Rows_copyInto_103 : decode b_Rows_copyInto 103 = .ok (.iinc 3 1, 3) := by decide +kernel
theorem d_Rows_copyInto_106 : decode b_Rows_copyInto 106 = .ok (.goto (-60), 3) := by decide +kernel
theorem d_Rows_copyInto_109 : decode b_Rows_copyInto 109 = .ok (.return_, 1) := by decide +kernel
theorem d_Rows_matchBrackets_0 : decode b_Rows_matchBrackets 0 = .ok (.iconst 0, 1) := by decide +kernel
theorem d_Rows_matchBrackets_1 : decode b_Rows_matchBrackets 1 = .ok (.istore_n 2, 1) := by decide +kernel
theorem d_Rows_matchBrackets_2 : decode b_Rows_matchBrackets 2 = .ok (.iconst 0, 1) := by decide +kernel
theorem d_Rows_matchBrackets_3 : decode b_Rows_matchBrackets 3 = .ok (.istore_n 3, 1) := by decide +kernel
theorem d_Rows_matchBrackets_4 : decode b_Rows_matchBrackets 4 = .ok (.iload_n 3, 1) := by decide +kernel
theorem d_Rows_matchBrackets_5 : decode b_Rows_matchBrackets 5 = .ok (.aload_n 1, 1) := by decide +kernel
theorem d_Rows_matchBrackets_6 : decode b_Rows_matchBrackets 6 = .ok (.invokevirtual 52, 3) := by decide +kernel
theorem d_Rows_matchBrackets_9 : decode b_Rows_matchBrackets 9 = .ok (.if_icmp .ge 77, 3) := by decide +kernel
theorem d_Rows_matchBrackets_12 : decode b_Rows_matchBrackets 12 = .ok (.iload_n 3, 1) := by decide +kernel
theorem d_Rows_matchBrackets_13 : decode b_Rows_matchBrackets 13 = .ok (.sipush 362, 3) := by decide +kernel
theorem d_Rows_matchBrackets_16 : decode b_Rows_matchBrackets 16 = .ok (.if_icmp .ge 70, 3) := by decide +kernel
theorem d_Rows_matchBrackets_19 : decode b_Rows_matchBrackets 19 = .ok (.aload_n 0, 1) := by decide +kernel
theorem d_Rows_matchBrackets_20 : decode b_Rows_matchBrackets 20 = .ok (.getfield 9, 3) := by decide +kernel
theorem d_Rows_matchBrackets_23 : decode b_Rows_matchBrackets 23 = .ok (.iload_n 3, 1) := by decide +kernel
theorem d_Rows_matchBrackets_24 : decode b_Rows_matchBrackets 24 = .ok (.iload_n 3, 1) := by decide +kernel
theorem d_Rows_matchBrackets_25 : decode b_Rows_matchBrackets 25 = .ok (.iastore, 1) := by decide +kernel
theorem d_Rows_matchBrackets_26 : decode b_Rows_matchBrackets 26 = .ok (.aload_n 1, 1) := by decide +kernel
theorem d_Rows_matchBrackets_27 : decode b_Rows_matchBrackets 27 = .ok (.iload_n 3, 1) := by decide +kernel
theorem d_Rows_matchBrackets_28 : decode b_Rows_matchBrackets 28 = .ok (.invokevirtual 62, 3) := by decide +kernel
theorem d_Rows_matchBrackets_31 : decode b_Rows_matchBrackets 31 = .ok (.ifCond .eq 22, 3) := by decide +kernel
theorem d_Rows_matchBrackets_34 : decode b_Rows_matchBrackets 34 = .ok (.iload_n 2, 1) := by decide +kernel
theorem d_Rows_matchBrackets_35 : decode b_Rows_matchBrackets 35 = .ok (.bipush 90, 2) := by decide +kernel
theorem d_Rows_matchBrackets_37 : decode b_Rows_matchBrackets 37 = .ok (.if_icmp .ge 16, 3) := by decide +kernel
theorem d_Rows_matchBrackets_40 : decode b_Rows_matchBrackets 40 = .ok (.aload_n 0, 1) := by decide +kernel
theorem d_Rows_matchBrackets_41 : decode b_Rows_matchBrackets 41 = .ok (.getfield 15, 3) := by decide +kernel
theorem d_Rows_matchBrackets_44 : decode b_Rows_matchBrackets 44 = .ok (.iload_n 2, 1) := by decide +kernel
theorem d_Rows_matchBrackets_45 : decode b_Rows_matchBrackets 45 = .ok (.iload_n 3, 1) := by decide +kernel
theorem d_Rows_matchBrackets_46 : decode b_Rows_matchBrackets 46 = .ok (.iastore, 1) := by decide +kernel
theorem d_Rows_matchBrackets_47 : decode b_Rows_matchBrackets 47 = .ok (.iinc 2 1, 3) := by decide +kernel
theorem d_Rows_matchBrackets_50 : decode b_Rows_matchBrackets 50 = .ok (.goto 30, 3) := by decide +kernel
theorem d_Rows_matchBrackets_53 : decode b_Rows_matchBrackets 53 = .ok (.aload_n 1, 1) := by decide +kernel
theorem d_Rows_matchBrackets_54 : decode b_Rows_matchBrackets 54 = .ok (.iload_n 3, 1) := by decide +kernel
theorem d_Rows_matchBrackets_55 : decode b_Rows_matchBrackets 55 = .ok (.invokevirtual 93, 3) := by decide +kernel
theorem d_Rows_matchBrackets_58 : decode b_Rows_matchBrackets 58 = .ok (.ifCond .eq 22, 3) := by decide +kernel
theorem d_Rows_matchBrackets_61 : decode b_Rows_matchBrackets 61 = .ok (.iload_n 2, 1) := by decide +kernel
theorem d_Rows_matchBrackets_62 : decode b_Rows_matchBrackets 62 = .ok (.ifCond .le 18, 3) := by decide +kernel
theorem d_Rows_matchBrackets_65 : decode b_Rows_matchBrackets 65 = .ok (.iinc 2 (-1), 3) := by decide +kernel
theorem d_Rows_matchBrackets_68 : decode b_Rows_matchBrackets 68 = .ok (.aload_n 0, 1) := by decide +kernel
theorem d_Rows_matchBrackets_69 : decode b_Rows_matchBrackets 69 = .ok (.getfield 9, 3) := by decide +kernel
theorem d_Rows_matchBrackets_72 : decode b_Rows_matchBrackets 72 = .ok (.aload_n 0, 1) := by decide +kernel
theorem d_Rows_matchBrackets_73 : decode b_Rows_matchBrackets 73 = .ok (.getfield 15, 3) := by decide +kernel
theorem d_Rows_matchBrackets_76 : decode b_Rows_matchBrackets 76 = .ok (.iload_n 2, 1) := by decide +kernel
theorem d_Rows_matchBrackets_77 : decode b_Rows_matchBrackets 77 = .ok (.iaload, 1) := by decide +kernel
theorem d_Rows_matchBrackets_78 : decode b_Rows_matchBrackets 78 = .ok (.iload_n 3, 1) := by decide +kernel
theorem d_Rows_matchBrackets_79 : decode b_Rows_matchBrackets 79 = .ok (.iastore, 1) := by decide +kernel
theorem d_Rows_matchBrackets_80 : decode b_Rows_matchBrackets 80 = .ok (.iinc 3 1, 3) := by decide +kernel
theorem d_Rows_matchBrackets_83 : decode b_Rows_matchBrackets 83 = .ok (.goto (-79), 3) := by decide +kernel
theorem d_Rows_matchBrackets_86 : decode b_Rows_matchBrackets 86 = .ok (.return_, 1) := by decide +kernel
theorem d_Rows_closerOf_0 : decode b_Rows_closerOf 0 = .ok (.iload_n 1, 1) := by decide +kernel
theorem d_Rows_closerOf_1 : decode b_Rows_closerOf 1 = .ok (.ifCond .lt 19, 3) := by decide +kernel
theorem d_Rows_closerOf_4 : decode b_Rows_closerOf 4 = .ok (.iload_n 1, 1) := by decide +kernel
theorem d_Rows_closerOf_5 : decode b_Rows_closerOf 5 = .ok (.sipush 362, 3) := by decide +kernel
theorem d_Rows_closerOf_8 : decode b_Rows_closerOf 8 = .ok (.if_icmp .ge 12, 3) := by decide +kernel
theorem d_Rows_closerOf_11 : decode b_Rows_closerOf 11 = .ok (.aload_n 0, 1) := by decide +kernel
theorem d_Rows_closerOf_12 : decode b_Rows_closerOf 12 = .ok (.getfield 9, 3) := by decide +kernel
theorem d_Rows_closerOf_15 : decode b_Rows_closerOf 15 = .ok (.iload_n 1, 1) := by decide +kernel
theorem d_Rows_closerOf_16 : decode b_Rows_closerOf 16 = .ok (.iaload, 1) := by decide +kernel
theorem d_Rows_closerOf_17 : decode b_Rows_closerOf 17 = .ok (.goto 4, 3) := by decide +kernel
theorem d_Rows_closerOf_20 : decode b_Rows_closerOf 20 = .ok (.iload_n 1, 1) := by decide +kernel
theorem d_Rows_closerOf_21 : decode b_Rows_closerOf 21 = .ok (.ireturn, 1) := by decide +kernel
theorem d_Rows_putLevelTogether_0 : decode b_Rows_putLevelTogether 0 = .ok (.iload_n 2, 1) := by decide +kernel
theorem d_Rows_putLevelTogether_1 : decode b_Rows_putLevelTogether 1 = .ok (.istore 5, 2) := by decide +kernel
theorem d_Rows_putLevelTogether_3 : decode b_Rows_putLevelTogether 3 = .ok (.iload_n 2, 1) := by decide +kernel
theorem d_Rows_putLevelTogether_4 : decode b_Rows_putLevelTogether 4 = .ok (.istore 6, 2) := by decide +kernel
theorem d_Rows_putLevelTogether_6 : decode b_Rows_putLevelTogether 6 = .ok (.iload 6, 2) := by decide +kernel
theorem d_Rows_putLevelTogether_8 : decode b_Rows_putLevelTogether 8 = .ok (.iload_n 3, 1) := by decide +kernel
theorem d_Rows_putLevelTogether_9 : decode b_Rows_putLevelTogether 9 = .ok (.if_icmp .ge 44, 3) := by decide +kernel
theorem d_Rows_putLevelTogether_12 : decode b_Rows_putLevelTogether 12 = .ok (.iload 5, 2) := by decide +kernel
theorem d_Rows_putLevelTogether_14 : decode b_Rows_putLevelTogether 14 = .ok (.iload_n 3, 1) := by decide +kernel
theorem d_Rows_putLevelTogether_15 : decode b_Rows_putLevelTogether 15 = .ok (.if_icmp .ge 38, 3) := by decide +kernel
theorem d_Rows_putLevelTogether_18 : decode b_Rows_putLevelTogether 18 = .ok (.aload_n 0, 1) := by decide +kernel
theorem d_Rows_putLevelTogether_19 : decode b_Rows_putLevelTogether 19 = .ok (.aload_n 1, 1) := by decide +kernel
theorem d_Rows_putLevelTogether_20 : decode b_Rows_putLevelTogether 20 = .ok (.iload 5, 2) := by decide +kernel
theorem d_Rows_putLevelTogether_22 : decode b_Rows_putLevelTogether 22 = .ok (.iload_n 3, 1) := by decide +kernel
theorem d_Rows_putLevelTogether_23 : decode b_Rows_putLevelTogether 23 = .ok (.invokevirtual 96, 3) := by decide +kernel
theorem d_Rows_putLevelTogether_26 : decode b_Rows_putLevelTogether 26 = .ok (.iconst 1, 1) := by decide +kernel
theorem d_Rows_putLevelTogether_27 : decode b_Rows_putLevelTogether 27 = .ok (.iadd, 1) := by decide +kernel
theorem d_Rows_putLevelTogether_28 : decode b_Rows_putLevelTogether 28 = .ok (.istore 5, 2) := by decide +kernel
theorem d_Rows_putLevelTogether_30 : decode b_Rows_putLevelTogether 30 = .ok (.aload_n 0, 1) := by decide +kernel
theorem d_Rows_putLevelTogether_31 : decode b_Rows_putLevelTogether 31 = .ok (.getfield 27, 3) := by decide +kernel
theorem d_Rows_putLevelTogether_34 : decode b_Rows_putLevelTogether 34 = .ok (.invokevirtual 100, 3) := by decide +kernel
theorem d_Rows_putLevelTogether_37 : decode b_Rows_putLevelTogether 37 = .ok (.ifCond .eq 10, 3) := by decide +kernel
theorem d_Rows_putLevelTogether_40 : decode b_Rows_putLevelTogether 40 = .ok (.aload_n 0, 1) := by decide +kernel
theorem d_Rows_putLevelTogether_41 : decode b_Rows_putLevelTogether 41 = .ok (.aload_n 1, 1) := by decide +kernel
theorem d_Rows_putLevelTogether_42 : decode b_Rows_putLevelTogether 42 = .ok (.aload 4, 2) := by decide +kernel
theorem d_Rows_putLevelTogether_44 : decode b_Rows_putLevelTogether 44 = .ok (.invokevirtual 104, 3) := by decide +kernel
theorem d_Rows_putLevelTogether_47 : decode b_Rows_putLevelTogether 47 = .ok (.iinc 6 1, 3) := by decide +kernel
theorem d_Rows_putLevelTogether_50 : decode b_Rows_putLevelTogether 50 = .ok (.goto (-44), 3) := by decide +kernel
theorem d_Rows_putLevelTogether_53 : decode b_Rows_putLevelTogether 53 = .ok (.return_, 1) := by decide +kernel
theorem d_Rows_collectRow_0 : decode b_Rows_collectRow 0 = .ok (.aload_n 0, 1) := by decide +kernel
theorem d_Rows_collectRow_1 : decode b_Rows_collectRow 1 = .ok (.getfield 27, 3) := by decide +kernel
theorem d_Rows_collectRow_4 : decode b_Rows_collectRow 4 = .ok (.invokevirtual 108, 3) := by decide +kernel
theorem d_Rows_collectRow_7 : decode b_Rows_collectRow 7 = .ok (.iload_n 2, 1) := by decide +kernel
theorem d_Rows_collectRow_8 : decode b_Rows_collectRow 8 = .ok (.istore 4, 2) := by decide +kernel
theorem d_Rows_collectRow_10 : decode b_Rows_collectRow 10 = .ok (.iload_n 2, 1) := by decide +kernel
theorem d_Rows_collectRow_11 : decode b_Rows_collectRow 11 = .ok (.istore 5, 2) := by decide +kernel
theorem d_Rows_collectRow_13 : decode b_Rows_collectRow 13 = .ok (.iload 5, 2) := by decide +kernel
theorem d_Rows_collectRow_15 : decode b_Rows_collectRow 15 = .ok (.iload_n 3, 1) := by decide +kernel
theorem d_Rows_collectRow_16 : decode b_Rows_collectRow 16 = .ok (.if_icmp .ge 102, 3) := by decide +kernel
theorem d_Rows_collectRow_19 : decode b_Rows_collectRow 19 = .ok (.iload 4, 2) := by decide +kernel
theorem d_Rows_collectRow_21 : decode b_Rows_collectRow 21 = .ok (.iload_n 3, 1) := by decide +kernel
theorem d_Rows_collectRow_22 : decode b_Rows_collectRow 22 = .ok (.if_icmp .ge 96, 3) := by decide +kernel
theorem d_Rows_collectRow_25 : decode b_Rows_collectRow 25 = .ok (.aload_n 0, 1) := by decide +kernel
theorem d_Rows_collectRow_26 : decode b_Rows_collectRow 26 = .ok (.aload_n 1, 1) := by decide +kernel
theorem d_Rows_collectRow_27 : decode b_Rows_collectRow 27 = .ok (.iload 4, 2) := by decide +kernel
theorem d_Rows_collectRow_29 : decode b_Rows_collectRow 29 = .ok (.invokevirtual 109, 3) := by decide +kernel
theorem d_Rows_collectRow_32 : decode b_Rows_collectRow 32 = .ok (.istore 6, 2) := by decide +kernel
theorem d_Rows_collectRow_34 : decode b_Rows_collectRow 34 = .ok (.aload_n 1, 1) := by decide +kernel
theorem d_Rows_collectRow_35 : decode b_Rows_collectRow 35 = .ok (.iload 4, 2) := by decide +kernel
theorem d_Rows_collectRow_37 : decode b_Rows_collectRow 37 = .ok (.invokestatic 113, 3) := by decide +kernel
theorem d_Rows_collectRow_40 : decode b_Rows_collectRow 40 = .ok (.istore 7, 2) := by decide +kernel
theorem d_Rows_collectRow_42 : decode b_Rows_collectRow 42 = .ok (.iload 6, 2) := by decide +kernel
theorem d_Rows_collectRow_44 : decode b_Rows_collectRow 44 = .ok (.iload 4, 2) := by decide +kernel
theorem d_Rows_collectRow_46 : decode b_Rows_collectRow 46 = .ok (.if_icmp .le 19, 3) := by decide +kernel
theorem d_Rows_collectRow_49 : decode b_Rows_collectRow 49 = .ok (.aload_n 0, 1) := by decide +kernel
theorem d_Rows_collectRow_50 : decode b_Rows_collectRow 50 = .ok (.getfield 27, 3) := by decide +kernel
theorem d_Rows_collectRow_53 : decode b_Rows_collectRow 53 = .ok (.iload 4, 2) := by decide +kernel
theorem d_Rows_collectRow_55 : decode b_Rows_collectRow 55 = .ok (.iload 6, 2) := by decide +kernel
theorem d_Rows_collectRow_57 : decode b_Rows_collectRow 57 = .ok (.iconst 1, 1) := by decide +kernel
theorem d_Rows_collectRow_58 : decode b_Rows_collectRow 58 = .ok (.isub, 1) := by decide +kernel
theorem d_Rows_collectRow_59 : decode b_Rows_collectRow 59 = .ok (.invokevirtual 116, 3) := by decide +kernel
theorem d_Rows_collectRow_62 : decode b_Rows_collectRow 62 = .ok (.goto 41, 3) := by decide +kernel
theorem d_Rows_collectRow_65 : decode b_Rows_collectRow 65 = .ok (.iload 7, 2) := by decide +kernel
theorem d_Rows_collectRow_67 : decode b_Rows_collectRow 67 = .ok (.iload 4, 2) := by decide +kernel
theorem d_Rows_collectRow_69 : decode b_Rows_collectRow 69 = .ok (.if_icmp .le 49, 3) := by decide +kernel
theorem d_Rows_collectRow_72 : decode b_Rows_collectRow 72 = .ok (.aload_n 0, 1) := by decide +kernel
theorem d_Rows_collectRow_73 : decode b_Rows_collectRow 73 = .ok (.getfield 27, 3) := by decide +kernel
theorem d_Rows_collectRow_76 : decode b_Rows_collectRow 76 = .ok (.iload 4, 2) := by decide +kernel
theorem d_Rows_collectRow_78 : decode b_Rows_collectRow 78 = .ok (.iload 7, 2) := by decide +kernel
theorem d_Rows_collectRow_80 : decode b_Rows_collectRow 80 = .ok (.iconst 1, 1) := by decide +kernel
theorem d_Rows_collectRow_81 : decode b_Rows_collectRow 81 = .ok (.isub, 1) := by decide +kernel
theorem d_Rows_collectRow_82 : decode b_Rows_collectRow 82 = .ok (.aload_n 1, 1) := by decide +kernel
theorem d_Rows_collectRow_83 : decode b_Rows_collectRow 83 = .ok (.iload 4, 2) := by decide +kernel
theorem d_Rows_collectRow_85 : decode b_Rows_collectRow 85 = .ok (.invokevirtual 83, 3) := by decide +kernel
theorem d_Rows_collectRow_88 : decode b_Rows_collectRow 88 = .ok (.ldc2_w 120, 3) := by decide +kernel
theorem d_Rows_collectRow_91 : decode b_Rows_collectRow 91 = .ok (.lcmp, 1) := by decide +kernel
theorem d_Rows_collectRow_92 : decode b_Rows_collectRow 92 = .ok (.ifCond .ne 7, 3) := by decide +kernel
theorem d_Rows_collectRow_95 : decode b_Rows_collectRow 95 = .ok (.iconst 1, 1) := by decide +kernel
theorem d_Rows_collectRow_96 : decode b_Rows_collectRow 96 = .ok (.goto 4, 3) := by decide +kernel
theorem d_Rows_collectRow_99 : decode b_Rows_collectRow 99 = .ok (.iconst 0, 1) := by decide +kernel
theorem d_Rows_collectRow_100 : decode b_Rows_collectRow 100 = .ok (.invokevirtual 122, 3) := by decide +kernel
theorem d_Rows_collectRow_103 : decode b_Rows_collectRow 103 = .ok (.iload 6, 2) := by decide +kernel
theorem d_Rows_collectRow_105 : decode b_Rows_collectRow 105 = .ok (.iload 7, 2) := by decide +kernel
theorem d_Rows_collectRow_107 : decode b_Rows_collectRow 107 = .ok (.invokestatic 126, 3) := by decide +kernel
theorem d_Rows_collectRow_110 : decode b_Rows_collectRow 110 = .ok (.istore 4, 2) := by decide +kernel
theorem d_Rows_collectRow_112 : decode b_Rows_collectRow 112 = .ok (.iinc 5 1, 3) := by decide +kernel
theorem d_Rows_collectRow_115 : decode b_Rows_collectRow 115 = .ok (.goto (-102), 3) := by decide +kernel
theorem d_Rows_collectRow_118 : decode b_Rows_collectRow 118 = .ok (.iload 4, 2) := by decide +kernel
theorem d_Rows_collectRow_120 : decode b_Rows_collectRow 120 = .ok (.ireturn, 1) := by decide +kernel
theorem d_Rows_behindOperand_0 : decode b_Rows_behindOperand 0 = .ok (.aload_n 1, 1) := by decide +kernel
theorem d_Rows_behindOperand_1 : decode b_Rows_behindOperand 1 = .ok (.iload_n 2, 1) := by decide +kernel
theorem d_Rows_behindOperand_2 : decode b_Rows_behindOperand 2 = .ok (.invokevirtual 62, 3) := by decide +kernel
theorem d_Rows_behindOperand_5 : decode b_Rows_behindOperand 5 = .ok (.ifCond .eq 11, 3) := by decide +kernel
theorem d_Rows_behindOperand_8 : decode b_Rows_behindOperand 8 = .ok (.aload_n 0, 1) := by decide +kernel
theorem d_Rows_behindOperand_9 : decode b_Rows_behindOperand 9 = .ok (.iload_n 2, 1) := by decide +kernel
theorem d_Rows_behindOperand_10 : decode b_Rows_behindOperand 10 = .ok (.invokevirtual 66, 3) := by decide +kernel
theorem d_Rows_behindOperand_13 : decode b_Rows_behindOperand 13 = .ok (.iconst 1, 1) := by decide +kernel
theorem d_Rows_behindOperand_14 : decode b_Rows_behindOperand 14 = .ok (.iadd, 1) := by decide +kernel
theorem d_Rows_behindOperand_15 : decode b_Rows_behindOperand 15 = .ok (.ireturn, 1) := by decide +kernel
theorem d_Rows_behindOperand_16 : decode b_Rows_behindOperand 16 = .ok (.aload_n 1, 1) := by decide +kernel
theorem d_Rows_behindOperand_17 : decode b_Rows_behindOperand 17 = .ok (.iload_n 2, 1) := by decide +kernel
theorem d_Rows_behindOperand_18 : decode b_Rows_behindOperand 18 = .ok (.invokevirtual 132, 3) := by decide +kernel
theorem d_Rows_behindOperand_21 : decode b_Rows_behindOperand 21 = .ok (.ifCond .ne 12, 3) := by decide +kernel
theorem d_Rows_behindOperand_24 : decode b_Rows_behindOperand 24 = .ok (.aload_n 1, 1) := by decide +kernel
theorem d_Rows_behindOperand_25 : decode b_Rows_behindOperand 25 = .ok (.iload_n 2, 1) := by decide +kernel
theorem d_Rows_behindOperand_26 : decode b_Rows_behindOperand 26 = .ok (.invokevirtual 80, 3) := by decide +kernel
theorem d_Rows_behindOperand_29 : decode b_Rows_behindOperand 29 = .ok (.iconst 1, 1) := by decide +kernel
theorem d_Rows_behindOperand_30 : decode b_Rows_behindOperand 30 = .ok (.if_icmp .ne 9, 3) := by decide +kernel
theorem d_Rows_behindOperand_33 : decode b_Rows_behindOperand 33 = .ok (.iload_n 2, 1) := by decide +kernel
theorem d_Rows_behindOperand_34 : decode b_Rows_behindOperand 34 = .ok (.iconst 1, 1) := by decide +kernel
theorem d_Rows_behindOperand_35 : decode b_Rows_behindOperand 35 = .ok (.iadd, 1) := by decide +kernel
theorem d_Rows_behindOperand_36 : decode b_Rows_behindOperand 36 = .ok (.goto 4, 3) := by decide +kernel
theorem d_Rows_behindOperand_39 : decode b_Rows_behindOperand 39 = .ok (.iload_n 2, 1) := by decide +kernel
theorem d_Rows_behindOperand_40 : decode b_Rows_behindOperand 40 = .ok (.ireturn, 1) := by decide +kernel
theorem d_Rows_behindOperation_0 : decode b_Rows_behindOperation 0 = .ok (.aload_n 0, 1) := by decide +kernel
theorem d_Rows_behindOperation_1 : decode b_Rows_behindOperation 1 = .ok (.iload_n 1, 1) := by decide +kernel
theorem d_Rows_behindOperation_2 : decode b_Rows_behindOperation 2 = .ok (.bipush 96, 2) := by decide +kernel
theorem d_Rows_behindOperation_4 : decode b_Rows_behindOperation 4 = .ok (.invokevirtual 135, 3) := by decide +kernel
theorem d_Rows_behindOperation_7 : decode b_Rows_behindOperation 7 = .ok (.ifCond .eq 29, 3) := by decide +kernel
theorem d_Rows_behindOperation_10 : decode b_Rows_behindOperation 10 = .ok (.aload_n 0, 1) := by decide +kernel
theorem d_Rows_behindOperation_11 : decode b_Rows_behindOperation 11 = .ok (.iload_n 1, 1) := by decide +kernel
theorem d_Rows_behindOperation_12 : decode b_Rows_behindOperation 12 = .ok (.iconst 1, 1) := by decide +kernel
theorem d_Rows_behindOperation_13 : decode b_Rows_behindOperation 13 = .ok (.iadd, 1) := by decide +kernel
theorem d_Rows_behindOperation_14 : decode b_Rows_behindOperation 14 = .ok (.invokevirtual 132, 3) := by decide +kernel
theorem d_Rows_behindOperation_17 : decode b_Rows_behindOperation 17 = .ok (.ifCond .eq 19, 3) := by decide +kernel
theorem d_Rows_behindOperation_20 : decode b_Rows_behindOperation 20 = .ok (.aload_n 0, 1) := by decide +kernel
theorem d_Rows_behindOperation_21 : decode b_Rows_behindOperation 21 = .ok (.iload_n 1, 1) := by decide +kernel
theorem d_Rows_behindOperation_22 : decode b_Rows_behindOperation 22 = .ok (.iconst 2, 1) := by decide +kernel
theorem d_Rows_behindOperation_23 : decode b_Rows_behindOperation 23 = .ok (.iadd, 1) := by decide +kernel
theorem d_Rows_behindOperation_24 : decode b_Rows_behindOperation 24 = .ok (.bipush 96, 2) := by decide +kernel
theorem d_Rows_behindOperation_26 : decode b_Rows_behindOperation 26 = .ok (.invokevirtual 135, 3) := by decide +kernel
theorem d_Rows_behindOperation_29 : decode b_Rows_behindOperation 29 = .ok (.ifCond .eq 7, 3) := by decide +kernel
theorem d_Rows_behindOperation_32 : decode b_Rows_behindOperation 32 = .ok (.iload_n 1, 1) := by decide +kernel
theorem d_Rows_behindOperation_33 : decode b_Rows_behindOperation 33 = .ok (.iconst 3, 1) := by decide +kernel
theorem d_Rows_behindOperation_34 : decode b_Rows_behindOperation 34 = .ok (.iadd, 1) := by decide +kernel
theorem d_Rows_behindOperation_35 : decode b_Rows_behindOperation 35 = .ok (.ireturn, 1) := by decide +kernel
theorem d_Rows_behindOperation_36 : decode b_Rows_behindOperation 36 = .ok (.aload_n 0, 1) := by decide +kernel
theorem d_Rows_behindOperation_37 : decode b_Rows_behindOperation 37 = .ok (.iload_n 1, 1) := by decide +kernel
theorem d_Rows_behindOperation_38 : decode b_Rows_behindOperation 38 = .ok (.invokevirtual 139, 3) := by decide +kernel
theorem d_Rows_behindOperation_41 : decode b_Rows_behindOperation 41 = .ok (.ifCond .eq 9, 3) := by decide +kernel
theorem d_Rows_behindOperation_44 : decode b_Rows_behindOperation 44 = .ok (.iload_n 1, 1) := by decide +kernel
theorem d_Rows_behindOperation_45 : decode b_Rows_behindOperation 45 = .ok (.iconst 1, 1) := by decide +kernel
theorem d_Rows_behindOperation_46 : decode b_Rows_behindOperation 46 = .ok (.iadd, 1) := by decide +kernel
theorem d_Rows_behindOperation_47 : decode b_Rows_behindOperation 47 = .ok (.goto 4, 3) := by decide +kernel
theorem d_Rows_behindOperation_50 : decode b_Rows_behindOperation 50 = .ok (.iload_n 1, 1) := by decide +kernel
theorem d_Rows_behindOperation_51 : decode b_Rows_behindOperation 51 = .ok (.ireturn, 1) := by decide +kernel
theorem d_Rows_putRowTogether_0 : decode b_Rows_putRowTogether 0 = .ok (.aload_n 0, 1) := by decide +kernel
theorem d_Rows_putRowTogether_1 : decode b_Rows_putRowTogether 1 = .ok (.getfield 34, 3) := by decide +kernel
theorem d_Rows_putRowTogether_4 : decode b_Rows_putRowTogether 4 = .ok (.invokevirtual 142, 3) := by decide +kernel
theorem d_Rows_putRowTogether_7 : decode b_Rows_putRowTogether 7 = .ok (.iconst 0, 1) := by decide +kernel
theorem d_Rows_putRowTogether_8 : decode b_Rows_putRowTogether 8 = .ok (.istore_n 3, 1) := by decide +kernel
theorem d_Rows_putRowTogether_9 : decode b_Rows_putRowTogether 9 = .ok (.iload_n 3, 1) := by decide +kernel
theorem d_Rows_putRowTogether_10 : decode b_Rows_putRowTogether 10 = .ok (.aload_n 0, 1) := by decide +kernel
theorem d_Rows_putRowTogether_11 : decode b_Rows_putRowTogether 11 = .ok (.getfield 27, 3) := by decide +kernel
theorem d_Rows_putRowTogether_14 : decode b_Rows_putRowTogether 14 = .ok (.invokevirtual 145, 3) := by decide +kernel
theorem d_Rows_putRowTogether_17 : decode b_Rows_putRowTogether 17 = .ok (.if_icmp .ge 37, 3) := by decide +kernel
theorem d_Rows_putRowTogether_20 : decode b_Rows_putRowTogether 20 = .ok (.aload_n 0, 1) := by decide +kernel
theorem d_Rows_putRowTogether_21 : decode b_Rows_putRowTogether 21 = .ok (.aload_n 1, 1) := by decide +kernel
theorem d_Rows_putRowTogether_22 : decode b_Rows_putRowTogether 22 = .ok (.iload_n 3, 1) := by decide +kernel
theorem d_Rows_putRowTogether_23 : decode b_Rows_putRowTogether 23 = .ok (.aload_n 2, 1) := by decide +kernel
theorem d_Rows_putRowTogether_24 : decode b_Rows_putRowTogether 24 = .ok (.invokevirtual 146, 3) := by decide +kernel
theorem d_Rows_putRowTogether_27 : decode b_Rows_putRowTogether 27 = .ok (.ifCond .ne 21, 3) := by decide +kernel
theorem d_Rows_putRowTogether_30 : decode b_Rows_putRowTogether 30 = .ok (.aload_n 0, 1) := by decide +kernel
theorem d_Rows_putRowTogether_31 : decode b_Rows_putRowTogether 31 = .ok (.getfield 34, 3) := by decide +kernel
theorem d_Rows_putRowTogether_34 : decode b_Rows_putRowTogether 34 = .ok (.invokevirtual 150, 3) := by decide +kernel
theorem d_Rows_putRowTogether_37 : decode b_Rows_putRowTogether 37 = .ok (.aload_n 0, 1) := by decide +kernel
theorem d_Rows_putRowTogether_38 : decode b_Rows_putRowTogether 38 = .ok (.dup, 1) := by decide +kernel
theorem d_Rows_putRowTogether_39 : decode b_Rows_putRowTogether 39 = .ok (.getfield 42, 3) := by decide +kernel
theorem d_Rows_putRowTogether_42 : decode b_Rows_putRowTogether 42 = .ok (.iconst 1, 1) := by decide +kernel
theorem d_Rows_putRowTogether_43 : decode b_Rows_putRowTogether 43 = .ok (.iadd, 1) := by decide +kernel
theorem d_Rows_putRowTogether_44 : decode b_Rows_putRowTogether 44 = .ok (.putfield 42, 3) := by decide +kernel
theorem d_Rows_putRowTogether_47 : decode b_Rows_putRowTogether 47 = .ok (.return_, 1) := by decide +kernel
theorem d_Rows_putRowTogether_48 : decode b_Rows_putRowTogether 48 = .ok (.iinc 3 1, 3) := by decide +kernel
theorem d_Rows_putRowTogether_51 : decode b_Rows_putRowTogether 51 = .ok (.goto (-42), 3) := by decide +kernel
theorem d_Rows_putRowTogether_54 : decode b_Rows_putRowTogether 54 = .ok (.aload_n 0, 1) := by decide +kernel
theorem d_Rows_putRowTogether_55 : decode b_Rows_putRowTogether 55 = .ok (.getfield 34, 3) := by decide +kernel
theorem d_Rows_putRowTogether_58 : decode b_Rows_putRowTogether 58 = .ok (.invokevirtual 153, 3) := by decide +kernel
theorem d_Rows_putRowTogether_61 : decode b_Rows_putRowTogether 61 = .ok (.aload_n 0, 1) := by decide +kernel
theorem d_Rows_putRowTogether_62 : decode b_Rows_putRowTogether 62 = .ok (.dup, 1) := by decide +kernel
theorem d_Rows_putRowTogether_63 : decode b_Rows_putRowTogether 63 = .ok (.getfield 38, 3) := by decide +kernel
theorem d_Rows_putRowTogether_66 : decode b_Rows_putRowTogether 66 = .ok (.iconst 1, 1) := by decide +kernel
theorem d_Rows_putRowTogether_67 : decode b_Rows_putRowTogether 67 = .ok (.iadd, 1) := by decide +kernel
theorem d_Rows_putRowTogether_68 : decode b_Rows_putRowTogether 68 = .ok (.putfield 38, 3) := by decide +kernel
theorem d_Rows_putRowTogether_71 : decode b_Rows_putRowTogether 71 = .ok (.return_, 1) := by decide +kernel
theorem d_Rows_take_0 : decode b_Rows_take 0 = .ok (.aload_n 0, 1) := by decide +kernel
theorem d_Rows_take_1 : decode b_Rows_take 1 = .ok (.getfield 27, 3) := by decide +kernel
theorem d_Rows_take_4 : decode b_Rows_take 4 = .ok (.iload_n 2, 1) := by decide +kernel
theorem d_Rows_take_5 : decode b_Rows_take 5 = .ok (.invokevirtual 156, 3) := by decide +kernel
theorem d_Rows_take_8 : decode b_Rows_take 8 = .ok (.istore 4, 2) := by decide +kernel
theorem d_Rows_take_10 : decode b_Rows_take 10 = .ok (.aload_n 0, 1) := by decide +kernel
theorem d_Rows_take_11 : decode b_Rows_take 11 = .ok (.getfield 27, 3) := by decide +kernel
theorem d_Rows_take_14 : decode b_Rows_take 14 = .ok (.iload_n 2, 1) := by decide +kernel
theorem d_Rows_take_15 : decode b_Rows_take 15 = .ok (.invokevirtual 159, 3) := by decide +kernel
theorem d_Rows_take_18 : decode b_Rows_take 18 = .ok (.istore 5, 2) := by decide +kernel
theorem d_Rows_take_20 : decode b_Rows_take 20 = .ok (.aload_n 0, 1) := by decide +kernel
theorem d_Rows_take_21 : decode b_Rows_take 21 = .ok (.getfield 27, 3) := by decide +kernel
theorem d_Rows_take_24 : decode b_Rows_take 24 = .ok (.iload_n 2, 1) := by decide +kernel
theorem d_Rows_take_25 : decode b_Rows_take 25 = .ok (.invokevirtual 162, 3) := by decide +kernel
theorem d_Rows_take_28 : decode b_Rows_take 28 = .ok (.lookupswitch 80 #[(1, 28), (2, 70)], 28) := by decide +kernel
theorem d_Rows_take_56 : decode b_Rows_take 56 = .ok (.aload_n 1, 1) := by decide +kernel
theorem d_Rows_take_57 : decode b_Rows_take 57 = .ok (.iload 4, 2) := by decide +kernel
theorem d_Rows_take_59 : decode b_Rows_take 59 = .ok (.iload 5, 2) := by decide +kernel
theorem d_Rows_take_61 : decode b_Rows_take 61 = .ok (.if_icmp .ne 8, 3) := by decide +kernel
theorem d_Rows_take_64 : decode b_Rows_take 64 = .ok (.iload 4, 2) := by decide +kernel
theorem d_Rows_take_66 : decode b_Rows_take 66 = .ok (.goto 7, 3) := by decide +kernel
theorem d_Rows_take_69 : decode b_Rows_take 69 = .ok (.iload 4, 2) := by decide +kernel
theorem d_Rows_take_71 : decode b_Rows_take 71 = .ok (.iconst 1, 1) := by decide +kernel
theorem d_Rows_take_72 : decode b_Rows_take 72 = .ok (.iadd, 1) := by decide +kernel
theorem d_Rows_take_73 : decode b_Rows_take 73 = .ok (.invokevirtual 83, 3) := by decide +kernel
theorem d_Rows_take_76 : decode b_Rows_take 76 = .ok (.lstore 6, 2) := by decide +kernel
theorem d_Rows_take_78 : decode b_Rows_take 78 = .ok (.aload_n 0, 1) := by decide +kernel
theorem d_Rows_take_79 : decode b_Rows_take 79 = .ok (.getfield 34, 3) := by decide +kernel
theorem d_Rows_take_82 : decode b_Rows_take 82 = .ok (.aload_n 3, 1) := by decide +kernel
theorem d_Rows_take_83 : decode b_Rows_take 83 = .ok (.lload 6, 2) := by decide +kernel
theorem d_Rows_take_85 : decode b_Rows_take 85 = .ok (.invokevirtual 165, 3) := by decide +kernel
theorem d_Rows_take_88 : decode b_Rows_take 88 = .ok (.aload_n 3, 1) := by decide +kernel
theorem d_Rows_take_89 : decode b_Rows_take 89 = .ok (.lload 6, 2) := by decide +kernel
theorem d_Rows_take_91 : decode b_Rows_take 91 = .ok (.invokevirtual 171, 3) := by decide +kernel
theorem d_Rows_take_94 : decode b_Rows_take 94 = .ok (.invokevirtual 174, 3) := by decide +kernel
theorem d_Rows_take_97 : decode b_Rows_take 97 = .ok (.ireturn, 1) := by decide +kernel
theorem d_Rows_take_98 : decode b_Rows_take 98 = .ok (.aload_n 0, 1) := by decide +kernel
theorem d_Rows_take_99 : decode b_Rows_take 99 = .ok (.getfield 34, 3) := by decide +kernel
theorem d_Rows_take_102 : decode b_Rows_take 102 = .ok (.iload 4, 2) := by decide +kernel
theorem d_Rows_take_104 : decode b_Rows_take 104 = .ok (.invokevirtual 178, 3) := by decide +kernel
theorem d_Rows_take_107 : decode b_Rows_take 107 = .ok (.ireturn, 1) := by decide +kernel
theorem d_Rows_take_108 : decode b_Rows_take 108 = .ok (.aload_n 0, 1) := by decide +kernel
theorem d_Rows_take_109 : decode b_Rows_take 109 = .ok (.getfield 34, 3) := by decide +kernel
theorem d_Rows_take_112 : decode b_Rows_take 112 = .ok (.iload 4, 2) := by decide +kernel
theorem d_Rows_take_114 : decode b_Rows_take 114 = .ok (.iload 5, 2) := by decide +kernel
theorem d_Rows_take_116 : decode b_Rows_take 116 = .ok (.invokevirtual 181, 3) := by decide +kernel
theorem d_Rows_take_119 : decode b_Rows_take 119 = .ok (.iconst 1, 1) := by decide +kernel
theorem d_Rows_take_120 : decode b_Rows_take 120 = .ok (.ireturn, 1) := by decide +kernel
theorem d_LF_init_0 : decode b_LF_init 0 = .ok (.aload_n 0, 1) := by decide +kernel
theorem d_LF_init_1 : decode b_LF_init 1 = .ok (.invokespecial 3, 3) := by decide +kernel
theorem d_LF_init_4 : decode b_LF_init 4 = .ok (.aload_n 0, 1) := by decide +kernel
theorem d_LF_init_5 : decode b_LF_init 5 = .ok (.new 9, 3) := by decide +kernel
theorem d_LF_init_8 : decode b_LF_init 8 = .ok (.dup, 1) := by decide +kernel
theorem d_LF_init_9 : decode b_LF_init 9 = .ok (.invokespecial 11, 3) := by decide +kernel
theorem d_LF_init_12 : decode b_LF_init 12 = .ok (.putfield 12, 3) := by decide +kernel
theorem d_LF_init_15 : decode b_LF_init 15 = .ok (.aload_n 0, 1) := by decide +kernel
theorem d_LF_init_16 : decode b_LF_init 16 = .ok (.new 16, 3) := by decide +kernel
theorem d_LF_init_19 : decode b_LF_init 19 = .ok (.dup, 1) := by decide +kernel
theorem d_LF_init_20 : decode b_LF_init 20 = .ok (.invokespecial 18, 3) := by decide +kernel
theorem d_LF_init_23 : decode b_LF_init 23 = .ok (.putfield 19, 3) := by decide +kernel
theorem d_LF_init_26 : decode b_LF_init 26 = .ok (.aload_n 0, 1) := by decide +kernel
theorem d_LF_init_27 : decode b_LF_init 27 = .ok (.new 23, 3) := by decide +kernel
theorem d_LF_init_30 : decode b_LF_init 30 = .ok (.dup, 1) := by decide +kernel
theorem d_LF_init_31 : decode b_LF_init 31 = .ok (.invokespecial 25, 3) := by decide +kernel
theorem d_LF_init_34 : decode b_LF_init 34 = .ok (.putfield 26, 3) := by decide +kernel
theorem d_LF_init_37 : decode b_LF_init 37 = .ok (.aload_n 0, 1) := by decide +kernel
theorem d_LF_init_38 : decode b_LF_init 38 = .ok (.new 30, 3) := by decide +kernel
theorem d_LF_init_41 : decode b_LF_init 41 = .ok (.dup, 1) := by decide +kernel
theorem d_LF_init_42 : decode b_LF_init 42 = .ok (.invokespecial 32, 3) := by decide +kernel
theorem d_LF_init_45 : decode b_LF_init 45 = .ok (.putfield 33, 3) := by decide +kernel
theorem d_LF_init_48 : decode b_LF_init 48 = .ok (.aload_n 0, 1) := by decide +kernel
theorem d_LF_init_49 : decode b_LF_init 49 = .ok (.new 37, 3) := by decide +kernel
theorem d_LF_init_52 : decode b_LF_init 52 = .ok (.dup, 1) := by decide +kernel
theorem d_LF_init_53 : decode b_LF_init 53 = .ok (.invokespecial 39, 3) := by decide +kernel
theorem d_LF_init_56 : decode b_LF_init 56 = .ok (.putfield 40, 3) := by decide +kernel
theorem d_LF_init_59 : decode b_LF_init 59 = .ok (.aload_n 0, 1) := by decide +kernel
theorem d_LF_init_60 : decode b_LF_init 60 = .ok (.new 44, 3) := by decide +kernel
theorem d_LF_init_63 : decode b_LF_init 63 = .ok (.dup, 1) := by decide +kernel
theorem d_LF_init_64 : decode b_LF_init 64 = .ok (.sipush 542, 3) := by decide +kernel
theorem d_LF_init_67 : decode b_LF_init 67 = .ok (.invokespecial 46, 3) := by decide +kernel
theorem d_LF_init_70 : decode b_LF_init 70 = .ok (.putfield 49, 3) := by decide +kernel
theorem d_LF_init_73 : decode b_LF_init 73 = .ok (.aload_n 0, 1) := by decide +kernel
theorem d_LF_init_74 : decode b_LF_init 74 = .ok (.iconst 5, 1) := by decide +kernel
theorem d_LF_init_75 : decode b_LF_init 75 = .ok (.newarray .int, 2) := by decide +kernel
theorem d_LF_init_77 : decode b_LF_init 77 = .ok (.putfield 53, 3) := by decide +kernel
theorem d_LF_init_80 : decode b_LF_init 80 = .ok (.aload_n 0, 1) := by decide +kernel
theorem d_LF_init_81 : decode b_LF_init 81 = .ok (.iconst (-1), 1) := by decide +kernel
theorem d_LF_init_82 : decode b_LF_init 82 = .ok (.putfield 57, 3) := by decide +kernel
theorem d_LF_init_85 : decode b_LF_init 85 = .ok (.return_, 1) := by decide +kernel
theorem d_LF_write_0 : decode b_LF_write 0 = .ok (.iload_n 3, 1) := by decide +kernel
theorem d_LF_write_1 : decode b_LF_write 1 = .ok (.iconst 1, 1) := by decide +kernel
theorem d_LF_write_2 : decode b_LF_write 2 = .ok (.if_icmp .lt 17, 3) := by decide +kernel
theorem d_LF_write_5 : decode b_LF_write 5 = .ok (.iload_n 3, 1) := by decide +kernel
theorem d_LF_write_6 : decode b_LF_write 6 = .ok (.bipush 8, 2) := by decide +kernel
theorem d_LF_write_8 : decode b_LF_write 8 = .ok (.if_icmp .gt 11, 3) := by decide +kernel
theorem d_LF_write_11 : decode b_LF_write 11 = .ok (.lload_n 1, 1) := by decide +kernel
theorem d_LF_write_12 : decode b_LF_write 12 = .ok (.iload_n 3, 1) := by decide +kernel
theorem d_LF_write_13 : decode b_LF_write 13 = .ok (.invokestatic 61, 3) := by decide +kernel
theorem d_LF_write_16 : decode b_LF_write 16 = .ok (.ifCond .ne 13, 3) := by decide +kernel
theorem d_LF_write_19 : decode b_LF_write 19 = .ok (.new 65, 3) := by decide +kernel
theorem d_LF_write_22 : decode b_LF_write 22 = .ok (.dup, 1) := by decide +kernel
theorem d_LF_write_23 : decode b_LF_write 23 = .ok (.ldc 67, 2) := by decide +kernel
theorem d_LF_write_25 : decode b_LF_write 25 = .ok (.invokespecial 69, 3) := by decide +kernel
theorem d_LF_write_28 : decode b_LF_write 28 = .ok (.athrow, 1) := by decide +kernel
theorem d_LF_write_29 : decode b_LF_write 29 = .ok (.aload_n 0, 1) := by decide +kernel
theorem d_LF_write_30 : decode b_LF_write 30 = .ok (.getfield 12, 3) := by decide +kernel
theorem d_LF_write_33 : decode b_LF_write 33 = .ok (.iload_n 3, 1) := by decide +kernel
theorem d_LF_write_34 : decode b_LF_write 34 = .ok (.invokevirtual 72, 3) := by decide +kernel
theorem d_LF_write_37 : decode b_LF_write 37 = .ok (.ifCond .ne 13, 3) := by decide +kernel
theorem d_LF_write_40 : decode b_LF_write 40 = .ok (.new 76, 3) := by decide +kernel
theorem d_LF_write_43 : decode b_LF_write 43 = .ok (.dup, 1) := by decide +kernel
theorem d_LF_write_44 : decode b_LF_write 44 = .ok (.ldc 78, 2) := by decide +kernel
theorem d_LF_write_46 : decode b_LF_write 46 = .ok (.invokespecial 80, 3) := by decide +kernel
theorem d_LF_write_49 : decode b_LF_write 49 = .ok (.athrow, 1) := by decide +kernel
theorem d_LF_write_50 : decode b_LF_write 50 = .ok (.aload_n 0, 1) := by decide +kernel
theorem d_LF_write_51 : decode b_LF_write 51 = .ok (.getfield 12, 3) := by decide +kernel
theorem d_LF_write_54 : decode b_LF_write 54 = .ok (.lload_n 1, 1) := by decide +kernel
theorem d_LF_write_55 : decode b_LF_write 55 = .ok (.iload_n 3, 1) := by decide +kernel
theorem d_LF_write_56 : decode b_LF_write 56 = .ok (.invokevirtual 81, 3) := by decide +kernel
theorem d_LF_write_59 : decode b_LF_write 59 = .ok (.aload_n 0, 1) := by decide +kernel
theorem d_LF_write_60 : decode b_LF_write 60 = .ok (.getfield 12, 3) := by decide +kernel
theorem d_LF_write_63 : decode b_LF_write 63 = .ok (.invokevirtual 85, 3) := by decide +kernel
theorem d_LF_write_66 : decode b_LF_write 66 = .ok (.ireturn, 1) := by decide +kernel
theorem d_LF_erase_0 : decode b_LF_erase 0 = .ok (.aload_n 0, 1) := by decide +kernel
theorem d_LF_erase_1 : decode b_LF_erase 1 = .ok (.getfield 12, 3) := by decide +kernel
theorem d_LF_erase_4 : decode b_LF_erase 4 = .ok (.invokevirtual 85, 3) := by decide +kernel
theorem d_LF_erase_7 : decode b_LF_erase 7 = .ok (.istore_n 1, 1) := by decide +kernel
theorem d_LF_erase_8 : decode b_LF_erase 8 = .ok (.aload_n 0, 1) := by decide +kernel
theorem d_LF_erase_9 : decode b_LF_erase 9 = .ok (.getfield 12, 3) := by decide +kernel
theorem d_LF_erase_12 : decode b_LF_erase 12 = .ok (.invokevirtual 89, 3) := by decide +kernel
theorem d_LF_erase_15 : decode b_LF_erase 15 = .ok (.iload_n 1, 1) := by decide +kernel
theorem d_LF_erase_16 : decode b_LF_erase 16 = .ok (.ireturn, 1) := by decide +kernel
theorem d_LF_fixity_0 : decode b_LF_fixity 0 = .ok (.iload_n 3, 1) := by decide +kernel
theorem d_LF_fixity_1 : decode b_LF_fixity 1 = .ok (.ifCond .lt 20, 3) := by decide +kernel
theorem d_LF_fixity_4 : decode b_LF_fixity 4 = .ok (.iload_n 3, 1) := by decide +kernel
theorem d_LF_fixity_5 : decode b_LF_fixity 5 = .ok (.iconst 2, 1) := by decide +kernel
theorem d_LF_fixity_6 : decode b_LF_fixity 6 = .ok (.if_icmp .gt 15, 3) := by decide +kernel
theorem d_LF_fixity_9 : decode b_LF_fixity 9 = .ok (.iload 4, 2) := by decide +kernel
theorem d_LF_fixity_11 : decode b_LF_fixity 11 = .ok (.ifCond .lt 10, 3) := by decide +kernel
theorem d_LF_fixity_14 : decode b_LF_fixity 14 = .ok (.iload 4, 2) := by decide +kernel
theorem d_LF_fixity_16 : decode b_LF_fixity 16 = .ok (.bipush 9, 2) := by decide +kernel
theorem d_LF_fixity_18 : decode b_LF_fixity 18 = .ok (.if_icmp .le 13, 3) := by decide +kernel
theorem d_LF_fixity_21 : decode b_LF_fixity 21 = .ok (.new 65, 3) := by decide +kernel
theorem d_LF_fixity_24 : decode b_LF_fixity 24 = .ok (.dup, 1) := by decide +kernel
theorem d_LF_fixity_25 : decode b_LF_fixity 25 = .ok (.ldc 92, 2) := by decide +kernel
theorem d_LF_fixity_27 : decode b_LF_fixity 27 = .ok (.invokespecial 69, 3) := by decide +kernel
theorem d_LF_fixity_30 : decode b_LF_fixity 30 = .ok (.athrow, 1) := by decide +kernel
theorem d_LF_fixity_31 : decode b_LF_fixity 31 = .ok (.aload_n 0, 1) := by decide +kernel
theorem d_LF_fixity_32 : decode b_LF_fixity 32 = .ok (.getfield 19, 3) := by decide +kernel
theorem d_LF_fixity_35 : decode b_LF_fixity 35 = .ok (.lload_n 1, 1) := by decide +kernel
theorem d_LF_fixity_36 : decode b_LF_fixity 36 = .ok (.invokevirtual 94, 3) := by decide +kernel
theorem d_LF_fixity_39 : decode b_LF_fixity 39 = .ok (.ifCond .ne 13, 3) := by decide +kernel
theorem d_LF_fixity_42 : decode b_LF_fixity 42 = .ok (.new 76, 3) := by decide +kernel
theorem d_LF_fixity_45 : decode b_LF_fixity 45 = .ok (.dup, 1) := by decide +kernel
theorem d_LF_fixity_46 : decode b_LF_fixity 46 = .ok (.ldc 97, 2) := by decide +kernel
theorem d_LF_fixity_48 : decode b_LF_fixity 48 = .ok (.invokespecial 80, 3) := by decide +kernel
theorem d_LF_fixity_51 : decode b_LF_fixity 51 = .ok (.athrow, 1) := by decide +kernel
theorem d_LF_fixity_52 : decode b_LF_fixity 52 = .ok (.aload_n 0, 1) := by decide +kernel
theorem d_LF_fixity_53 : decode b_LF_fixity 53 = .ok (.getfield 19, 3) := by decide +kernel
theorem d_LF_fixity_56 : decode b_LF_fixity 56 = .ok (.lload_n 1, 1) := by decide +kernel
theorem d_LF_fixity_57 : decode b_LF_fixity 57 = .ok (.iload_n 3, 1) := by decide +kernel
theorem d_LF_fixity_58 : decode b_LF_fixity 58 = .ok (.iload 4, 2) := by decide +kernel
theorem d_LF_fixity_60 : decode b_LF_fixity 60 = .ok (.invokevirtual 99, 3) := by decide +kernel
theorem d_LF_fixity_63 : decode b_LF_fixity 63 = .ok (.aload_n 0, 1) := by decide +kernel
theorem d_LF_fixity_64 : decode b_LF_fixity 64 = .ok (.getfield 19, 3) := by decide +kernel
theorem d_LF_fixity_67 : decode b_LF_fixity 67 = .ok (.invokevirtual 103, 3) := by decide +kernel
theorem d_LF_fixity_70 : decode b_LF_fixity 70 = .ok (.ireturn, 1) := by decide +kernel
theorem d_LF_read_0 : decode b_LF_read 0 = .ok (.aload_n 0, 1) := by decide +kernel
theorem d_LF_read_1 : decode b_LF_read 1 = .ok (.getfield 49, 3) := by decide +kernel
theorem d_LF_read_4 : decode b_LF_read 4 = .ok (.invokevirtual 106, 3) := by decide +kernel
theorem d_LF_read_7 : decode b_LF_read 7 = .ok (.aload_n 0, 1) := by decide +kernel
theorem d_LF_read_8 : decode b_LF_read 8 = .ok (.aload_n 0, 1) := by decide +kernel
theorem d_LF_read_9 : decode b_LF_read 9 = .ok (.getfield 26, 3) := by decide +kernel
theorem d_LF_read_12 : decode b_LF_read 12 = .ok (.aload_n 0, 1) := by decide +kernel
theorem d_LF_read_13 : decode b_LF_read 13 = .ok (.getfield 12, 3) := by decide +kernel
theorem d_LF_read_16 : decode b_LF_read 16 = .ok (.invokevirtual 107, 3) := by decide +kernel
theorem d_LF_read_19 : decode b_LF_read 19 = .ok (.putfield 57, 3) := by decide +kernel
theorem d_LF_read_22 : decode b_LF_read 22 = .ok (.aload_n 0, 1) := by decide +kernel
theorem d_LF_read_23 : decode b_LF_read 23 = .ok (.getfield 26, 3) := by decide +kernel
theorem d_LF_read_26 : decode b_LF_read 26 = .ok (.invokevirtual 111, 3) := by decide +kernel
theorem d_LF_read_29 : decode b_LF_read 29 = .ok (.ifCond .eq 13, 3) := by decide +kernel
theorem d_LF_read_32 : decode b_LF_read 32 = .ok (.new 76, 3) := by decide +kernel
theorem d_LF_read_35 : decode b_LF_read 35 = .ok (.dup, 1) := by decide +kernel
theorem d_LF_read_36 : decode b_LF_read 36 = .ok (.ldc 115, 2) := by decide +kernel
theorem d_LF_read_38 : decode b_LF_read 38 = .ok (.invokespecial 80, 3) := by decide +kernel
theorem d_LF_read_41 : decode b_LF_read 41 = .ok (.athrow, 1) := by decide +kernel
theorem d_LF_read_42 : decode b_LF_read 42 = .ok (.aload_n 0, 1) := by decide +kernel
theorem d_LF_read_43 : decode b_LF_read 43 = .ok (.getfield 57, 3) := by decide +kernel
theorem d_LF_read_46 : decode b_LF_read 46 = .ok (.iconst (-1), 1) := by decide +kernel
theorem d_LF_read_47 : decode b_LF_read 47 = .ok (.if_icmp .ne 28, 3) := by decide +kernel
theorem d_LF_read_50 : decode b_LF_read 50 = .ok (.aload_n 0, 1) := by decide +kernel
theorem d_LF_read_51 : decode b_LF_read 51 = .ok (.aload_n 0, 1) := by decide +kernel
theorem d_LF_read_52 : decode b_LF_read 52 = .ok (.getfield 33, 3) := by decide +kernel
theorem d_LF_read_55 : decode b_LF_read 55 = .ok (.aload_n 0, 1) := by decide +kernel
theorem d_LF_read_56 : decode b_LF_read 56 = .ok (.getfield 26, 3) := by decide +kernel
theorem d_LF_read_59 : decode b_LF_read 59 = .ok (.invokevirtual 117, 3) := by decide +kernel
theorem d_LF_read_62 : decode b_LF_read 62 = .ok (.aload_n 0, 1) := by decide +kernel
theorem d_LF_read_63 : decode b_LF_read 63 = .ok (.getfield 12, 3) := by decide +kernel
theorem d_LF_read_66 : decode b_LF_read 66 = .ok (.invokevirtual 85, 3) := by decide +kernel
theorem d_LF_read_69 : decode b_LF_read 69 = .ok (.invokevirtual 121, 3) := by decide +kernel
theorem d_LF_read_72 : decode b_LF_read 72 = .ok (.putfield 57, 3) := by decide +kernel
theorem d_LF_read_75 : decode b_LF_read 75 = .ok (.aload_n 0, 1) := by decide +kernel
theorem d_LF_read_76 : decode b_LF_read 76 = .ok (.getfield 57, 3) := by decide +kernel
theorem d_LF_read_79 : decode b_LF_read 79 = .ok (.iconst (-1), 1) := by decide +kernel
theorem d_LF_read_80 : decode b_LF_read 80 = .ok (.if_icmp .eq 13, 3) := by decide +kernel
theorem d_LF_read_83 : decode b_LF_read 83 = .ok (.new 65, 3) := by decide +kernel
theorem d_LF_read_86 : decode b_LF_read 86 = .ok (.dup, 1) := by decide +kernel
theorem d_LF_read_87 : decode b_LF_read 87 = .ok (.ldc 125, 2) := by decide +kernel
theorem d_LF_read_89 : decode b_LF_read 89 = .ok (.invokespecial 69, 3) := by decide +kernel
theorem d_LF_read_92 : decode b_LF_read 92 = .ok (.athrow, 1) := by decide +kernel
theorem d_LF_read_93 : decode b_LF_read 93 = .ok (.aload_n 0, 1) := by decide +kernel
theorem d_LF_read_94 : decode b_LF_read 94 = .ok (.getfield 40, 3) := by decide +kernel
theorem d_LF_read_97 : decode b_LF_read 97 = .ok (.aload_n 0, 1) := by decide +kernel
theorem d_LF_read_98 : decode b_LF_read 98 = .ok (.getfield 33, 3) := by decide +kernel
theorem d_LF_read_101 : decode b_LF_read 101 = .ok (.invokevirtual 127, 3) := by decide +kernel
theorem d_LF_read_104 : decode b_LF_read 104 = .ok (.aload_n 0, 1) := by decide +kernel
theorem d_LF_read_105 : decode b_LF_read 105 = .ok (.getfield 19, 3) := by decide +kernel
theorem d_LF_read_108 : decode b_LF_read 108 = .ok (.invokevirtual 131, 3) := by decide +kernel
theorem d_LF_read_111 : decode b_LF_read 111 = .ok (.aload_n 0, 1) := by decide +kernel
theorem d_LF_read_112 : decode b_LF_read 112 = .ok (.getfield 40, 3) := by decide +kernel
theorem d_LF_read_115 : decode b_LF_read 115 = .ok (.aload_n 0, 1) := by decide +kernel
theorem d_LF_read_116 : decode b_LF_read 116 = .ok (.getfield 49, 3) := by decide +kernel
theorem d_LF_read_119 : decode b_LF_read 119 = .ok (.aload_n 0, 1) := by decide +kernel
theorem d_LF_read_120 : decode b_LF_read 120 = .ok (.getfield 33, 3) := by decide +kernel
theorem d_LF_read_123 : decode b_LF_read 123 = .ok (.invokevirtual 127, 3) := by decide +kernel
theorem d_LF_read_126 : decode b_LF_read 126 = .ok (.invokevirtual 135, 3) := by decide +kernel
theorem d_LF_read_129 : decode b_LF_read 129 = .ok (.aload_n 0, 1) := by decide +kernel
theorem d_LF_read_130 : decode b_LF_read 130 = .ok (.invokevirtual 139, 3) := by decide +kernel
theorem d_LF_read_133 : decode b_LF_read 133 = .ok (.aload_n 0, 1) := by decide +kernel
theorem d_LF_read_134 : decode b_LF_read 134 = .ok (.getfield 49, 3) := by decide +kernel
theorem d_LF_read_137 : decode b_LF_read 137 = .ok (.invokevirtual 142, 3) := by decide +kernel
theorem d_LF_read_140 : decode b_LF_read 140 = .ok (.ireturn, 1) := by decide +kernel
theorem d_LF_keepCounts_0 : decode b_LF_keepCounts 0 = .ok (.aload_n 0, 1) := by decide +kernel
theorem d_LF_keepCounts_1 : decode b_LF_keepCounts 1 = .ok (.getfield 53, 3) := by decide +kernel
theorem d_LF_keepCounts_4 : decode b_LF_keepCounts 4 = .ok (.iconst 0, 1) := by decide +kernel
theorem d_LF_keepCounts_5 : decode b_LF_keepCounts 5 = .ok (.aload_n 0, 1) := by decide +kernel
theorem d_LF_keepCounts_6 : decode b_LF_keepCounts 6 = .ok (.getfield 26, 3) := by decide +kernel
theorem d_LF_keepCounts_9 : decode b_LF_keepCounts 9 = .ok (.invokevirtual 117, 3) := by decide +kernel
theorem d_LF_keepCounts_12 : decode b_LF_keepCounts 12 = .ok (.invokevirtual 143, 3) := by decide +kernel
theorem d_LF_keepCounts_15 : decode b_LF_keepCounts 15 = .ok (.iastore, 1) := by decide +kernel
theorem d_LF_keepCounts_16 : decode b_LF_keepCounts 16 = .ok (.aload_n 0, 1) := by decide +kernel
theorem d_LF_keepCounts_17 : decode b_LF_keepCounts 17 = .ok (.getfield 53, 3) := by decide +kernel
theorem d_LF_keepCounts_20 : decode b_LF_keepCounts 20 = .ok (.iconst 1, 1) := by decide +kernel
theorem d_LF_keepCounts_21 : decode b_LF_keepCounts 21 = .ok (.aload_n 0, 1) := by decide +kernel
theorem d_LF_keepCounts_22 : decode b_LF_keepCounts 22 = .ok (.getfield 33, 3) := by decide +kernel
theorem d_LF_keepCounts_25 : decode b_LF_keepCounts 25 = .ok (.invokevirtual 146, 3) := by decide +kernel
theorem d_LF_keepCounts_28 : decode b_LF_keepCounts 28 = .ok (.iastore, 1) := by decide +kernel
theorem d_LF_keepCounts_29 : decode b_LF_keepCounts 29 = .ok (.aload_n 0, 1) := by decide +kernel
theorem d_LF_keepCounts_30 : decode b_LF_keepCounts 30 = .ok (.getfield 53, 3) := by decide +kernel
theorem d_LF_keepCounts_33 : decode b_LF_keepCounts 33 = .ok (.iconst 2, 1) := by decide +kernel
theorem d_LF_keepCounts_34 : decode b_LF_keepCounts 34 = .ok (.aload_n 0, 1) := by decide +kernel
theorem d_LF_keepCounts_35 : decode b_LF_keepCounts 35 = .ok (.getfield 40, 3) := by decide +kernel
theorem d_LF_keepCounts_38 : decode b_LF_keepCounts 38 = .ok (.invokevirtual 149, 3) := by decide +kernel
theorem d_LF_keepCounts_41 : decode b_LF_keepCounts 41 = .ok (.iastore, 1) := by decide +kernel
theorem d_LF_keepCounts_42 : decode b_LF_keepCounts 42 = .ok (.aload_n 0, 1) := by decide +kernel
theorem d_LF_keepCounts_43 : decode b_LF_keepCounts 43 = .ok (.getfield 53, 3) := by decide +kernel
theorem d_LF_keepCounts_46 : decode b_LF_keepCounts 46 = .ok (.iconst 3, 1) := by decide +kernel
theorem d_LF_keepCounts_47 : decode b_LF_keepCounts 47 = .ok (.aload_n 0, 1) := by decide +kernel
theorem d_LF_keepCounts_48 : decode b_LF_keepCounts 48 = .ok (.getfield 40, 3) := by decide +kernel
theorem d_LF_keepCounts_51 : decode b_LF_keepCounts 51 = .ok (.invokevirtual 152, 3) := by decide +kernel
theorem d_LF_keepCounts_54 : decode b_LF_keepCounts 54 = .ok (.iastore, 1) := by decide +kernel
theorem d_LF_keepCounts_55 : decode b_LF_keepCounts 55 = .ok (.aload_n 0, 1) := by decide +kernel
theorem d_LF_keepCounts_56 : decode b_LF_keepCounts 56 = .ok (.getfield 53, 3) := by decide +kernel
theorem d_LF_keepCounts_59 : decode b_LF_keepCounts 59 = .ok (.iconst 4, 1) := by decide +kernel
theorem d_LF_keepCounts_60 : decode b_LF_keepCounts 60 = .ok (.aload_n 0, 1) := by decide +kernel
theorem d_LF_keepCounts_61 : decode b_LF_keepCounts 61 = .ok (.getfield 33, 3) := by decide +kernel
theorem d_LF_keepCounts_64 : decode b_LF_keepCounts 64 = .ok (.invokevirtual 155, 3) := by decide +kernel
theorem d_LF_keepCounts_67 : decode b_LF_keepCounts 67 = .ok (.iastore, 1) := by decide +kernel
theorem d_LF_keepCounts_68 : decode b_LF_keepCounts 68 = .ok (.return_, 1) := by decide +kernel
theorem d_LF_place_0 : decode b_LF_place 0 = .ok (.aload_n 0, 1) := by decide +kernel
theorem d_LF_place_1 : decode b_LF_place 1 = .ok (.getfield 57, 3) := by decide +kernel
theorem d_LF_place_4 : decode b_LF_place 4 = .ok (.ireturn, 1) := by decide +kernel
theorem d_LF_kind_0 : decode b_LF_kind 0 = .ok (.aload_n 0, 1) := by decide +kernel
theorem d_LF_kind_1 : decode b_LF_kind 1 = .ok (.getfield 49, 3) := by decide +kernel
theorem d_LF_kind_4 : decode b_LF_kind 4 = .ok (.iload_n 1, 1) := by decide +kernel
theorem d_LF_kind_5 : decode b_LF_kind 5 = .ok (.invokevirtual 158, 3) := by decide +kernel
theorem d_LF_kind_8 : decode b_LF_kind 8 = .ok (.ifCond .ne 13, 3) := by decide +kernel
theorem d_LF_kind_11 : decode b_LF_kind 11 = .ok (.new 161, 3) := by decide +kernel
theorem d_LF_kind_14 : decode b_LF_kind 14 = .ok (.dup, 1) := by decide +kernel
theorem d_LF_kind_15 : decode b_LF_kind 15 = .ok (.ldc 163, 2) := by decide +kernel
theorem d_LF_kind_17 : decode b_LF_kind 17 = .ok (.invokespecial 165, 3) := by decide +kernel
theorem d_LF_kind_20 : decode b_LF_kind 20 = .ok (.athrow, 1) := by decide +kernel
theorem d_LF_kind_21 : decode b_LF_kind 21 = .ok (.aload_n 0, 1) := by decide +kernel
theorem d_LF_kind_22 : decode b_LF_kind 22 = .ok (.getfield 49, 3) := by decide +kernel
theorem d_LF_kind_25 : decode b_LF_kind 25 = .ok (.iload_n 1, 1) := by decide +kernel
theorem d_LF_kind_26 : decode b_LF_kind 26 = .ok (.invokevirtual 166, 3) := by decide +kernel
theorem d_LF_kind_29 : decode b_LF_kind 29 = .ok (.ireturn, 1) := by decide +kernel
theorem d_LF_token_0 : decode b_LF_token 0 = .ok (.aload_n 0, 1) := by decide +kernel
theorem d_LF_token_1 : decode b_LF_token 1 = .ok (.getfield 49, 3) := by decide +kernel
theorem d_LF_token_4 : decode b_LF_token 4 = .ok (.iload_n 1, 1) := by decide +kernel
theorem d_LF_token_5 : decode b_LF_token 5 = .ok (.invokevirtual 158, 3) := by decide +kernel
theorem d_LF_token_8 : decode b_LF_token 8 = .ok (.ifCond .ne 13, 3) := by decide +kernel
theorem d_LF_token_11 : decode b_LF_token 11 = .ok (.new 161, 3) := by decide +kernel
theorem d_LF_token_14 : decode b_LF_token 14 = .ok (.dup, 1) := by decide +kernel
theorem d_LF_token_15 : decode b_LF_token 15 = .ok (.ldc 163, 2) := by decide +kernel
theorem d_LF_token_17 : decode b_LF_token 17 = .ok (.invokespecial 165, 3) := by decide +kernel
theorem d_LF_token_20 : decode b_LF_token 20 = .ok (.athrow, 1) := by decide +kernel
theorem d_LF_token_21 : decode b_LF_token 21 = .ok (.aload_n 0, 1) := by decide +kernel
theorem d_LF_token_22 : decode b_LF_token 22 = .ok (.getfield 49, 3) := by decide +kernel
theorem d_LF_token_25 : decode b_LF_token 25 = .ok (.iload_n 1, 1) := by decide +kernel
theorem d_LF_token_26 : decode b_LF_token 26 = .ok (.invokevirtual 170, 3) := by decide +kernel
theorem d_LF_token_29 : decode b_LF_token 29 = .ok (.lreturn, 1) := by decide +kernel
theorem d_LF_count_0 : decode b_LF_count 0 = .ok (.iload_n 1, 1) := by decide +kernel
theorem d_LF_count_1 : decode b_LF_count 1 = .ok (.ifCond .lt 8, 3) := by decide +kernel
theorem d_LF_count_4 : decode b_LF_count 4 = .ok (.iload_n 1, 1) := by decide +kernel
theorem d_LF_count_5 : decode b_LF_count 5 = .ok (.iconst 5, 1) := by decide +kernel
theorem d_LF_count_6 : decode b_LF_count 6 = .ok (.if_icmp .lt 13, 3) := by decide +kernel
theorem d_LF_count_9 : decode b_LF_count 9 = .ok (.new 161, 3) := by decide +kernel
theorem d_LF_count_12 : decode b_LF_count 12 = .ok (.dup, 1) := by decide +kernel
theorem d_LF_count_13 : decode b_LF_count 13 = .ok (.ldc 174, 2) := by decide +kernel
theorem d_LF_count_15 : decode b_LF_count 15 = .ok (.invokespecial 165, 3) := by decide +kernel
theorem d_LF_count_18 : decode b_LF_count 18 = .ok (.athrow, 1) := by decide +kernel
theorem d_LF_count_19 : decode b_LF_count 19 = .ok (.aload_n 0, 1) := by decide +kernel
theorem d_LF_count_20 : decode b_LF_count 20 = .ok (.getfield 53, 3) := by decide +kernel
theorem d_LF_count_23 : decode b_LF_count 23 = .ok (.iload_n 1, 1) := by decide +kernel
theorem d_LF_count_24 : decode b_LF_count 24 = .ok (.iaload, 1) := by decide +kernel
theorem d_LF_count_25 : decode b_LF_count 25 = .ok (.ireturn, 1) := by decide +kernel
theorem d_Model_init_0 : decode b_Model_init 0 = .ok (.aload_n 0, 1) := by decide +kernel
theorem d_Model_init_1 : decode b_Model_init 1 = .ok (.invokespecial 1, 3) := by decide +kernel
theorem d_Model_init_4 : decode b_Model_init 4 = .ok (.aload_n 0, 1) := by decide +kernel
theorem d_Model_init_5 : decode b_Model_init 5 = .ok (.sipush 240, 3) := by decide +kernel
theorem d_Model_init_8 : decode b_Model_init 8 = .ok (.newarray .int, 2) := by decide +kernel
theorem d_Model_init_10 : decode b_Model_init 10 = .ok (.putfield 7, 3) := by decide +kernel
theorem d_Model_init_13 : decode b_Model_init 13 = .ok (.aload_n 0, 1) := by decide +kernel
theorem d_Model_init_14 : decode b_Model_init 14 = .ok (.iconst (-1), 1) := by decide +kernel
theorem d_Model_init_15 : decode b_Model_init 15 = .ok (.putfield 13, 3) := by decide +kernel
theorem d_Model_init_18 : decode b_Model_init 18 = .ok (.aload_n 0, 1) := by decide +kernel
theorem d_Model_init_19 : decode b_Model_init 19 = .ok (.bipush 91, 2) := by decide +kernel
theorem d_Model_init_21 : decode b_Model_init 21 = .ok (.newarray .int, 2) := by decide +kernel
theorem d_Model_init_23 : decode b_Model_init 23 = .ok (.putfield 17, 3) := by decide +kernel
theorem d_Model_init_26 : decode b_Model_init 26 = .ok (.aload_n 0, 1) := by decide +kernel
theorem d_Model_init_27 : decode b_Model_init 27 = .ok (.bipush 91, 2) := by decide +kernel
theorem d_Model_init_29 : decode b_Model_init 29 = .ok (.newarray .long, 2) := by decide +kernel
theorem d_Model_init_31 : decode b_Model_init 31 = .ok (.putfield 20, 3) := by decide +kernel
theorem d_Model_init_34 : decode b_Model_init 34 = .ok (.aload_n 0, 1) := by decide +kernel
theorem d_Model_init_35 : decode b_Model_init 35 = .ok (.bipush 91, 2) := by decide +kernel
theorem d_Model_init_37 : decode b_Model_init 37 = .ok (.newarray .int, 2) := by decide +kernel
theorem d_Model_init_39 : decode b_Model_init 39 = .ok (.putfield 24, 3) := by decide +kernel
theorem d_Model_init_42 : decode b_Model_init 42 = .ok (.aload_n 0, 1) := by decide +kernel
theorem d_Model_init_43 : decode b_Model_init 43 = .ok (.bipush 91, 2) := by decide +kernel
theorem d_Model_init_45 : decode b_Model_init 45 = .ok (.newarray .int, 2) := by decide +kernel
theorem d_Model_init_47 : decode b_Model_init 47 = .ok (.putfield 27, 3) := by decide +kernel
theorem d_Model_init_50 : decode b_Model_init 50 = .ok (.aload_n 0, 1) := by decide +kernel
theorem d_Model_init_51 : decode b_Model_init 51 = .ok (.bipush 91, 2) := by decide +kernel
theorem d_Model_init_53 : decode b_Model_init 53 = .ok (.newarray .boolean, 2) := by decide +kernel
theorem d_Model_init_55 : decode b_Model_init 55 = .ok (.putfield 30, 3) := by decide +kernel
theorem d_Model_init_58 : decode b_Model_init 58 = .ok (.aload_n 0, 1) := by decide +kernel
theorem d_Model_init_59 : decode b_Model_init 59 = .ok (.sipush 200, 3) := by decide +kernel
theorem d_Model_init_62 : decode b_Model_init 62 = .ok (.newarray .int, 2) := by decide +kernel
theorem d_Model_init_64 : decode b_Model_init 64 = .ok (.putfield 34, 3) := by decide +kernel
theorem d_Model_init_67 : decode b_Model_init 67 = .ok (.aload_n 0, 1) := by decide +kernel
theorem d_Model_init_68 : decode b_Model_init 68 = .ok (.sipush 600, 3) := by decide +kernel
theorem d_Model_init_71 : decode b_Model_init 71 = .ok (.newarray .int, 2) := by decide +kernel
theorem d_Model_init_73 : decode b_Model_init 73 = .ok (.putfield 37, 3) := by decide +kernel
theorem d_Model_init_76 : decode b_Model_init 76 = .ok (.aload_n 0, 1) := by decide +kernel
theorem d_Model_init_77 : decode b_Model_init 77 = .ok (.sipush 600, 3) := by decide +kernel
theorem d_Model_init_80 : decode b_Model_init 80 = .ok (.newarray .long, 2) := by decide +kernel
theorem d_Model_init_82 : decode b_Model_init 82 = .ok (.putfield 40, 3) := by decide +kernel
theorem d_Model_init_85 : decode b_Model_init 85 = .ok (.aload_n 0, 1) := by decide +kernel
theorem d_Model_init_86 : decode b_Model_init 86 = .ok (.sipush 600, 3) := by decide +kernel
theorem d_Model_init_89 : decode b_Model_init 89 = .ok (.newarray .int, 2) := by decide +kernel
theorem d_Model_init_91 : decode b_Model_init 91 = .ok (.putfield 43, 3) := by decide +kernel
theorem d_Model_init_94 : decode b_Model_init 94 = .ok (.aload_n 0, 1) := by decide +kernel
theorem d_Model_init_95 : decode b_Model_init 95 = .ok (.sipush 600, 3) := by decide +kernel
theorem d_Model_init_98 : decode b_Model_init 98 = .ok (.newarray .int, 2) := by decide +kernel
theorem d_Model_init_100 : decode b_Model_init 100 = .ok (.putfield 46, 3) := by decide +kernel
theorem d_Model_init_103 : decode b_Model_init 103 = .ok (.aload_n 0, 1) := by decide +kernel
theorem d_Model_init_104 : decode b_Model_init 104 = .ok (.sipush 600, 3) := by decide +kernel
theorem d_Model_init_107 : decode b_Model_init 107 = .ok (.newarray .int, 2) := by decide +kernel
theorem d_Model_init_109 : decode b_Model_init 109 = .ok (.putfield 49, 3) := by decide +kernel
theorem d_Model_init_112 : decode b_Model_init 112 = .ok (.aload_n 0, 1) := by decide +kernel
theorem d_Model_init_113 : decode b_Model_init 113 = .ok (.sipush 600, 3) := by decide +kernel
theorem d_Model_init_116 : decode b_Model_init 116 = .ok (.newarray .boolean, 2) := by decide +kernel
theorem d_Model_init_118 : decode b_Model_init 118 = .ok (.putfield 52, 3) := by decide +kernel
theorem d_Model_init_121 : decode b_Model_init 121 = .ok (.aload_n 0, 1) := by decide +kernel
theorem d_Model_init_122 : decode b_Model_init 122 = .ok (.sipush 900, 3) := by decide +kernel
theorem d_Model_init_125 : decode b_Model_init 125 = .ok (.newarray .int, 2) := by decide +kernel
theorem d_Model_init_127 : decode b_Model_init 127 = .ok (.putfield 55, 3) := by decide +kernel
theorem d_Model_init_130 : decode b_Model_init 130 = .ok (.aload_n 0, 1) := by decide +kernel
theorem d_Model_init_131 : decode b_Model_init 131 = .ok (.sipush 900, 3) := by decide +kernel
theorem d_Model_init_134 : decode b_Model_init 134 = .ok (.newarray .long, 2) := by decide +kernel
theorem d_Model_init_136 : decode b_Model_init 136 = .ok (.putfield 58, 3) := by decide +kernel
theorem d_Model_init_139 : decode b_Model_init 139 = .ok (.aload_n 0, 1) := by decide +kernel
theorem d_Model_init_140 : decode b_Model_init 140 = .ok (.bipush 12, 2) := by decide +kernel
theorem d_Model_init_142 : decode b_Model_init 142 = .ok (.newarray .long, 2) := by decide +kernel
theorem d_Model_init_144 : decode b_Model_init 144 = .ok (.putfield 61, 3) := by decide +kernel
theorem d_Model_init_147 : decode b_Model_init 147 = .ok (.aload_n 0, 1) := by decide +kernel
theorem d_Model_init_148 : decode b_Model_init 148 = .ok (.bipush 12, 2) := by decide +kernel
theorem d_Model_init_150 : decode b_Model_init 150 = .ok (.newarray .int, 2) := by decide +kernel
theorem d_Model_init_152 : decode b_Model_init 152 = .ok (.putfield 64, 3) := by decide +kernel
theorem d_Model_init_155 : decode b_Model_init 155 = .ok (.aload_n 0, 1) := by decide +kernel
theorem d_Model_init_156 : decode b_Model_init 156 = .ok (.bipush 12, 2) := by decide +kernel
theorem d_Model_init_158 : decode b_Model_init 158 = .ok (.newarray .int, 2) := by decide +kernel
theorem d_Model_init_160 : decode b_Model_init 160 = .ok (.putfield 67, 3) := by decide +kernel
theorem d_Model_init_163 : decode b_Model_init 163 = .ok (.aload_n 0, 1) := by decide +kernel
theorem d_Model_init_164 : decode b_Model_init 164 = .ok (.bipush 96, 2) := by decide +kernel
theorem d_Model_init_166 : decode b_Model_init 166 = .ok (.newarray .int, 2) := by decide +kernel
theorem d_Model_init_168 : decode b_Model_init 168 = .ok (.putfield 70, 3) := by decide +kernel
theorem d_Model_init_171 : decode b_Model_init 171 = .ok (.aload_n 0, 1) := by decide +kernel
theorem d_Model_init_172 : decode b_Model_init 172 = .ok (.bipush 96, 2) := by decide +kernel
theorem d_Model_init_174 : decode b_Model_init 174 = .ok (.newarray .int, 2) := by decide +kernel
theorem d_Model_init_176 : decode b_Model_init 176 = .ok (.putfield 73, 3) := by decide +kernel
theorem d_Model_init_179 : decode b_Model_init 179 = .ok (.aload_n 0, 1) := by decide +kernel
theorem d_Model_init_180 : decode b_Model_init 180 = .ok (.bipush 96, 2) := by decide +kernel
theorem d_Model_init_182 : decode b_Model_init 182 = .ok (.newarray .int, 2) := by decide +kernel
theorem d_Model_init_184 : decode b_Model_init 184 = .ok (.putfield 76, 3) := by decide +kernel
theorem d_Model_init_187 : decode b_Model_init 187 = .ok (.aload_n 0, 1) := by decide +kernel
theorem d_Model_init_188 : decode b_Model_init 188 = .ok (.bipush 96, 2) := by decide +kernel
theorem d_Model_init_190 : decode b_Model_init 190 = .ok (.newarray .int, 2) := by decide +kernel
theorem d_Model_init_192 : decode b_Model_init 192 = .ok (.putfield 79, 3) := by decide +kernel
theorem d_Model_init_195 : decode b_Model_init 195 = .ok (.aload_n 0, 1) := by decide +kernel
theorem d_Model_init_196 : decode b_Model_init 196 = .ok (.bipush 96, 2) := by decide +kernel
theorem d_Model_init_198 : decode b_Model_init 198 = .ok (.newarray .int, 2) := by decide +kernel
theorem d_Model_init_200 : decode b_Model_init 200 = .ok (.putfield 82, 3) := by decide +kernel
theorem d_Model_init_203 : decode b_Model_init 203 = .ok (.aload_n 0, 1) := by decide +kernel
theorem d_Model_init_204 : decode b_Model_init 204 = .ok (.bipush 96, 2) := by decide +kernel
theorem d_Model_init_206 : decode b_Model_init 206 = .ok (.newarray .int, 2) := by decide +kernel
theorem d_Model_init_208 : decode b_Model_init 208 = .ok (.putfield 85, 3) := by decide +kernel
theorem d_Model_init_211 : decode b_Model_init 211 = .ok (.aload_n 0, 1) := by decide +kernel
theorem d_Model_init_212 : decode b_Model_init 212 = .ok (.bipush 96, 2) := by decide +kernel
theorem d_Model_init_214 : decode b_Model_init 214 = .ok (.newarray .int, 2) := by decide +kernel
theorem d_Model_init_216 : decode b_Model_init 216 = .ok (.putfield 88, 3) := by decide +kernel
theorem d_Model_init_219 : decode b_Model_init 219 = .ok (.aload_n 0, 1) := by decide +kernel
theorem d_Model_init_220 : decode b_Model_init 220 = .ok (.bipush 96, 2) := by decide +kernel
theorem d_Model_init_222 : decode b_Model_init 222 = .ok (.newarray .int, 2) := by decide +kernel
theorem d_Model_init_224 : decode b_Model_init 224 = .ok (.putfield 91, 3) := by decide +kernel
theorem d_Model_init_227 : decode b_Model_init 227 = .ok (.aload_n 0, 1) := by decide +kernel
theorem d_Model_init_228 : decode b_Model_init 228 = .ok (.bipush 96, 2) := by decide +kernel
theorem d_Model_init_230 : decode b_Model_init 230 = .ok (.newarray .int, 2) := by decide +kernel
theorem d_Model_init_232 : decode b_Model_init 232 = .ok (.putfield 94, 3) := by decide +kernel
theorem d_Model_init_235 : decode b_Model_init 235 = .ok (.return_, 1) := by decide +kernel
theorem d_Model_thrown_0 : decode b_Model_thrown 0 = .ok (.aload_n 0, 1) := by decide +kernel
theorem d_Model_thrown_1 : decode b_Model_thrown 1 = .ok (.getfield 97, 3) := by decide +kernel
theorem d_Model_thrown_4 : decode b_Model_thrown 4 = .ok (.ireturn, 1) := by decide +kernel
theorem d_Model_fail_0 : decode b_Model_fail 0 = .ok (.aload_n 0, 1) := by decide +kernel
theorem d_Model_fail_1 : decode b_Model_fail 1 = .ok (.iload_n 1, 1) := by decide +kernel
theorem d_Model_fail_2 : decode b_Model_fail 2 = .ok (.putfield 97, 3) := by decide +kernel
theorem d_Model_fail_5 : decode b_Model_fail 5 = .ok (.iconst 0, 1) := by decide +kernel
theorem d_Model_fail_6 : decode b_Model_fail 6 = .ok (.ireturn, 1) := by decide +kernel
theorem d_Model_within_0 : decode b_Model_within 0 = .ok (.iload_n 0, 1) := by decide +kernel
theorem d_Model_within_1 : decode b_Model_within 1 = .ok (.iload_n 1, 1) := by decide +kernel
theorem d_Model_within_2 : decode b_Model_within 2 = .ok (.if_icmp .lt 12, 3) := by decide +kernel
theorem d_Model_within_5 : decode b_Model_within 5 = .ok (.iload_n 0, 1) := by decide +kernel
theorem d_Model_within_6 : decode b_Model_within 6 = .ok (.iload_n 2, 1) := by decide +kernel
theorem d_Model_within_7 : decode b_Model_within 7 = .ok (.if_icmp .gt 7, 3) := by decide +kernel
theorem d_Model_within_10 : decode b_Model_within 10 = .ok (.iconst 1, 1) := by decide +kernel
theorem d_Model_within_11 : decode b_Model_within 11 = .ok (.goto 4, 3) := by decide +kernel
theorem d_Model_within_14 : decode b_Model_within 14 = .ok (.iconst 0, 1) := by decide +kernel
theorem d_Model_within_15 : decode b_Model_within 15 = .ok (.ireturn, 1) := by decide +kernel
theorem d_Model_write_0 : decode b_Model_write 0 = .ok (.aload_n 0, 1) := by decide +kernel
theorem d_Model_write_1 : decode b_Model_write 1 = .ok (.iconst 0, 1) := by decide +kernel
theorem d_Model_write_2 : decode b_Model_write 2 = .ok (.putfield 97, 3) := by decide +kernel
theorem d_Model_write_5 : decode b_Model_write 5 = .ok (.iload_n 3, 1) := by decide +kernel
theorem d_Model_write_6 : decode b_Model_write 6 = .ok (.iconst 1, 1) := by decide +kernel
theorem d_Model_write_7 : decode b_Model_write 7 = .ok (.bipush 8, 2) := by decide +kernel
theorem d_Model_write_9 : decode b_Model_write 9 = .ok (.invokestatic 100, 3) := by decide +kernel
theorem d_Model_write_12 : decode b_Model_write 12 = .ok (.ifCond .ne 9, 3) := by decide +kernel
theorem d_Model_write_15 : decode b_Model_write 15 = .ok (.aload_n 0, 1) := by decide +kernel
theorem d_Model_write_16 : decode b_Model_write 16 = .ok (.iconst 1, 1) := by decide +kernel
theorem d_Model_write_17 : decode b_Model_write 17 = .ok (.invokevirtual 104, 3) := by decide +kernel
theorem d_Model_write_20 : decode b_Model_write 20 = .ok (.ireturn, 1) := by decide +kernel
theorem d_Model_write_21 : decode b_Model_write 21 = .ok (.iconst 1, 1) := by decide +kernel
theorem d_Model_write_22 : decode b_Model_write 22 = .ok (.istore 4, 2) := by decide +kernel
theorem d_Model_write_24 : decode b_Model_write 24 = .ok (.iconst 0, 1) := by decide +kernel
theorem d_Model_write_25 : decode b_Model_write 25 = .ok (.istore 5, 2) := by decide +kernel
theorem d_Model_write_27 : decode b_Model_write 27 = .ok (.iload 5, 2) := by decide +kernel
theorem d_Model_write_29 : decode b_Model_write 29 = .ok (.iload_n 3, 1) := by decide +kernel
theorem d_Model_write_30 : decode b_Model_write 30 = .ok (.if_icmp .ge 54, 3) := by decide +kernel
theorem d_Model_write_33 : decode b_Model_write 33 = .ok (.lload_n 1, 1) := by decide +kernel
theorem d_Model_write_34 : decode b_Model_write 34 = .ok (.bipush 8, 2) := by decide +kernel
theorem d_Model_write_36 : decode b_Model_write 36 = .ok (.iload 5, 2) := by decide +kernel
theorem d_Model_write_38 : decode b_Model_write 38 = .ok (.imul, 1) := by decide +kernel
theorem d_Model_write_39 : decode b_Model_write 39 = .ok (.lshr, 1) := by decide +kernel
theorem d_Model_write_40 : decode b_Model_write 40 = .ok (.ldc2_w 108, 3) := by decide +kernel
theorem d_Model_write_43 : decode b_Model_write 43 = .ok (.land, 1) := by decide +kernel
theorem d_Model_write_44 : decode b_Model_write 44 = .ok (.l2i, 1) := by decide +kernel
theorem d_Model_write_45 : decode b_Model_write 45 = .ok (.istore 6, 2) := by decide +kernel
theorem d_Model_write_47 : decode b_Model_write 47 = .ok (.iload 4, 2) := by decide +kernel
theorem d_Model_write_49 : decode b_Model_write 49 = .ok (.ifCond .eq 26, 3) := by decide +kernel
theorem d_Model_write_52 : decode b_Model_write 52 = .ok (.iload 6, 2) := by decide +kernel
theorem d_Model_write_54 : decode b_Model_write 54 = .ok (.bipush 10, 2) := by decide +kernel
theorem d_Model_write_56 : decode b_Model_write 56 = .ok (.if_icmp .eq 15, 3) := by decide +kernel
theorem d_Model_write_59 : decode b_Model_write 59 = .ok (.iload 6, 2) := by decide +kernel
theorem d_Model_write_61 : decode b_Model_write 61 = .ok (.bipush 32, 2) := by decide +kernel
theorem d_Model_write_63 : decode b_Model_write 63 = .ok (.bipush 126, 2) := by decide +kernel
theorem d_Model_write_65 : decode b_Model_write 65 = .ok (.invokestatic 100, 3) := by decide +kernel
theorem d_Model_write_68 : decode b_Model_write 68 = .ok (.ifCond .eq 7, 3) := by decide +kernel
theorem d_Model_write_71 : decode b_Model_write 71 = .ok (.iconst 1, 1) := by decide +kernel
theorem d_Model_write_72 : decode b_Model_write 72 = .ok (.goto 4, 3) := by decide +kernel
theorem d_Model_write_75 : decode b_Model_write 75 = .ok (.iconst 0, 1) := by decide +kernel
theorem d_Model_write_76 : decode b_Model_write 76 = .ok (.istore 4, 2) := by decide +kernel
theorem d_Model_write_78 : decode b_Model_write 78 = .ok (.iinc 5 1, 3) := by decide +kernel
theorem d_Model_write_81 : decode b_Model_write 81 = .ok (.goto (-54), 3) := by decide +kernel
theorem d_Model_write_84 : decode b_Model_write 84 = .ok (.iload 4, 2) := by decide +kernel
theorem d_Model_write_86 : decode b_Model_write 86 = .ok (.ifCond .ne 9, 3) := by decide +kernel
theorem d_Model_write_89 : decode b_Model_write 89 = .ok (.aload_n 0, 1) := by decide +kernel
theorem d_Model_write_90 : decode b_Model_write 90 = .ok (.iconst 1, 1) := by decide +kernel
theorem d_Model_write_91 : decode b_Model_write 91 = .ok (.invokevirtual 104, 3) := by decide +kernel
theorem d_Model_write_94 : decode b_Model_write 94 = .ok (.ireturn, 1) := by decide +kernel
theorem d_Model_write_95 : decode b_Model_write 95 = .ok (.aload_n 0, 1) := by decide +kernel
theorem d_Model_write_96 : decode b_Model_write 96 = .ok (.getfield 110, 3) := by decide +kernel
theorem d_Model_write_99 : decode b_Model_write 99 = .ok (.iload_n 3, 1) := by decide +kernel
theorem d_Model_write_100 : decode b_Model_write 100 = .ok (.iadd, 1) := by decide +kernel
theorem d_Model_write_101 : decode b_Model_write 101 = .ok (.sipush 240, 3) := by decide +kernel
theorem d_Model_write_104 : decode b_Model_write 104 = .ok (.if_icmp .le 9, 3) := by decide +kernel
theorem d_Model_write_107 : decode b_Model_write 107 = .ok (.aload_n 0, 1) := by decide +kernel
theorem d_Model_write_108 : decode b_Model_write 108 = .ok (.iconst 2, 1) := by decide +kernel
theorem d_Model_write_109 : decode b_Model_write 109 = .ok (.invokevirtual 104, 3) := by decide +kernel
theorem d_Model_write_112 : decode b_Model_write 112 = .ok (.ireturn, 1) := by decide +kernel
theorem d_Model_write_113 : decode b_Model_write 113 = .ok (.iconst 0, 1) := by decide +kernel
theorem d_Model_write_114 : decode b_Model_write 114 = .ok (.istore 5, 2) := by decide +kernel
theorem d_Model_write_116 : decode b_Model_write 116 = .ok (.iload 5, 2) := by decide +kernel
theorem d_Model_write_118 : decode b_Model_write 118 = .ok (.iload_n 3, 1) := by decide +kernel
theorem d_Model_write_119 : decode b_Model_write 119 = .ok (.if_icmp .ge 33, 3) := by decide +kernel
theorem d_Model_write_122 : decode b_Model_write 122 = .ok (.aload_n 0, 1) := by decide +kernel
theorem d_Model_write_123 : decode b_Model_write 123 = .ok (.getfield 7, 3) := by decide +kernel
theorem d_Model_write_126 : decode b_Model_write 126 = .ok (.aload_n 0, 1) := by decide +kernel
theorem d_Model_write_127 : decode b_Model_write 127 = .ok (.getfield 110, 3) := by decide +kernel
theorem d_Model_write_130 : decode b_Model_write 130 = .ok (.iload 5, 2) := by decide +kernel
theorem d_Model_write_132 : decode b_Model_write 132 = .ok (.iadd, 1) := by decide +kernel
theorem d_Model_write_133 : decode b_Model_write 133 = .ok (.lload_n 1, 1) := by decide +kernel
theorem d_Model_write_134 : decode b_Model_write 134 = .ok (.bipush 8, 2) := by decide +kernel
theorem d_Model_write_136 : decode b_Model_write 136 = .ok (.iload 5, 2) := by decide +kernel
theorem d_Model_write_138 : decode b_Model_write 138 = .ok (.imul, 1) := by decide +kernel
theorem d_Model_write_139 : decode b_Model_write 139 = .ok (.lshr, 1) := by decide +kernel
theorem d_Model_write_140 : decode b_Model_write 140 = .ok (.ldc2_w 108, 3) := by decide +kernel
theorem d_Model_write_143 : decode b_Model_write 143 = .ok (.land, 1) := by decide +kernel
theorem d_Model_write_144 : decode b_Model_write 144 = .ok (.l2i, 1) := by decide +kernel
theorem d_Model_write_145 : decode b_Model_write 145 = .ok (.iastore, 1) := by decide +kernel
theorem d_Model_write_146 : decode b_Model_write 146 = .ok (.iinc 5 1, 3) := by decide +kernel
theorem d_Model_write_149 : decode b_Model_write 149 = .ok (.goto (-33), 3) := by decide +kernel
theorem d_Model_write_152 : decode b_Model_write 152 = .ok (.aload_n 0, 1) := by decide +kernel
theorem d_Model_write_153 : decode b_Model_write 153 = .ok (.dup, 1) := by decide +kernel
theorem d_Model_write_154 : decode b_Model_write 154 = .ok (.getfield 110, 3) := by decide +kernel
theorem d_Model_write_157 : decode b_Model_write 157 = .ok (.iload_n 3, 1) := by decide +kernel
theorem d_Model_write_158 : decode b_Model_write 158 = .ok (.iadd, 1) := by decide +kernel
theorem d_Model_write_159 : decode b_Model_write 159 = .ok (.putfield 110, 3) := by decide +kernel
theorem d_Model_write_162 : decode b_Model_write 162 = .ok (.aload_n 0, 1) := by decide +kernel
theorem d_Model_write_163 : decode b_Model_write 163 = .ok (.getfield 110, 3) := by decide +kernel
theorem d_Model_write_166 : decode b_Model_write 166 = .ok (.ireturn, 1) := by decide +kernel
theorem d_Model_erase_0 : decode b_Model_erase 0 = .ok (.aload_n 0, 1) := by decide +kernel
theorem d_Model_erase_1 : decode b_Model_erase 1 = .ok (.iconst 0, 1) := by decide +kernel
theorem d_Model_erase_2 : decode b_Model_erase 2 = .ok (.putfield 97, 3) := by decide +kernel
theorem d_Model_erase_5 : decode b_Model_erase 5 = .ok (.aload_n 0, 1) := by decide +kernel
theorem d_Model_erase_6 : decode b_Model_erase 6 = .ok (.getfield 110, 3) := by decide +kernel
theorem d_Model_erase_9 : decode b_Model_erase 9 = .ok (.istore_n 1, 1) := by decide +kernel
theorem d_Model_erase_10 : decode b_Model_erase 10 = .ok (.aload_n 0, 1) := by decide +kernel
