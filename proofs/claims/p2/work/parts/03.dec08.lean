theorem d_Resolver_giveSides_118 : decode b_Resolver_giveSides 118 = .ok (.aload_n 0, 1) := by decide +kernel
theorem d_Resolver_giveSides_119 : decode b_Resolver_giveSides 119 = .ok (.getfield 18, 3) := by decide +kernel
theorem d_Resolver_giveSides_122 : decode b_Resolver_giveSides 122 = .ok (.aload_n 0, 1) := by decide +kernel
theorem d_Resolver_giveSides_123 : decode b_Resolver_giveSides 123 = .ok (.getfield 43, 3) := by decide +kernel
theorem d_Resolver_giveSides_126 : decode b_Resolver_giveSides 126 = .ok (.iconst 1, 1) := by decide +kernel
theorem d_Resolver_giveSides_127 : decode b_Resolver_giveSides 127 = .ok (.isub, 1) := by decide +kernel
theorem d_Resolver_giveSides_128 : decode b_Resolver_giveSides 128 = .ok (.iaload, 1) := by decide +kernel
theorem d_Resolver_giveSides_129 : decode b_Resolver_giveSides 129 = .ok (.iastore, 1) := by decide +kernel
theorem d_Resolver_giveSides_130 : decode b_Resolver_giveSides 130 = .ok (.aload_n 0, 1) := by decide +kernel
theorem d_Resolver_giveSides_131 : decode b_Resolver_giveSides 131 = .ok (.getfield 15, 3) := by decide +kernel
theorem d_Resolver_giveSides_134 : decode b_Resolver_giveSides 134 = .ok (.aload_n 0, 1) := by decide +kernel
theorem d_Resolver_giveSides_135 : decode b_Resolver_giveSides 135 = .ok (.getfield 33, 3) := by decide +kernel
theorem d_Resolver_giveSides_138 : decode b_Resolver_giveSides 138 = .ok (.aload_n 0, 1) := by decide +kernel
theorem d_Resolver_giveSides_139 : decode b_Resolver_giveSides 139 = .ok (.getfield 21, 3) := by decide +kernel
theorem d_Resolver_giveSides_142 : decode b_Resolver_giveSides 142 = .ok (.aload_n 0, 1) := by decide +kernel
theorem d_Resolver_giveSides_143 : decode b_Resolver_giveSides 143 = .ok (.getfield 43, 3) := by decide +kernel
theorem d_Resolver_giveSides_146 : decode b_Resolver_giveSides 146 = .ok (.iconst 1, 1) := by decide +kernel
theorem d_Resolver_giveSides_147 : decode b_Resolver_giveSides 147 = .ok (.isub, 1) := by decide +kernel
theorem d_Resolver_giveSides_148 : decode b_Resolver_giveSides 148 = .ok (.iaload, 1) := by decide +kernel
theorem d_Resolver_giveSides_149 : decode b_Resolver_giveSides 149 = .ok (.iastore, 1) := by decide +kernel
theorem d_Resolver_giveSides_150 : decode b_Resolver_giveSides 150 = .ok (.aload_n 0, 1) := by decide +kernel
theorem d_Resolver_giveSides_151 : decode b_Resolver_giveSides 151 = .ok (.dup, 1) := by decide +kernel
theorem d_Resolver_giveSides_152 : decode b_Resolver_giveSides 152 = .ok (.getfield 33, 3) := by decide +kernel
theorem d_Resolver_giveSides_155 : decode b_Resolver_giveSides 155 = .ok (.iconst 1, 1) := by decide +kernel
theorem d_Resolver_giveSides_156 : decode b_Resolver_giveSides 156 = .ok (.iadd, 1) := by decide +kernel
theorem d_Resolver_giveSides_157 : decode b_Resolver_giveSides 157 = .ok (.putfield 33, 3) := by decide +kernel
theorem d_Resolver_giveSides_160 : decode b_Resolver_giveSides 160 = .ok (.return_, 1) := by decide +kernel
theorem d_Resolver_tally_0 : decode b_Resolver_tally 0 = .ok (.iconst 0, 1) := by decide +kernel
theorem d_Resolver_tally_1 : decode b_Resolver_tally 1 = .ok (.istore_n 3, 1) := by decide +kernel
theorem d_Resolver_tally_2 : decode b_Resolver_tally 2 = .ok (.iload_n 3, 1) := by decide +kernel
theorem d_Resolver_tally_3 : decode b_Resolver_tally 3 = .ok (.aload_n 0, 1) := by decide +kernel
theorem d_Resolver_tally_4 : decode b_Resolver_tally 4 = .ok (.getfield 33, 3) := by decide +kernel
theorem d_Resolver_tally_7 : decode b_Resolver_tally 7 = .ok (.if_icmp .ge 65, 3) := by decide +kernel
theorem d_Resolver_tally_10 : decode b_Resolver_tally 10 = .ok (.aload_n 0, 1) := by decide +kernel
theorem d_Resolver_tally_11 : decode b_Resolver_tally 11 = .ok (.getfield 9, 3) := by decide +kernel
theorem d_Resolver_tally_14 : decode b_Resolver_tally 14 = .ok (.iload_n 3, 1) := by decide +kernel
theorem d_Resolver_tally_15 : decode b_Resolver_tally 15 = .ok (.iaload, 1) := by decide +kernel
theorem d_Resolver_tally_16 : decode b_Resolver_tally 16 = .ok (.istore 4, 2) := by decide +kernel
theorem d_Resolver_tally_18 : decode b_Resolver_tally 18 = .ok (.aload_n 0, 1) := by decide +kernel
theorem d_Resolver_tally_19 : decode b_Resolver_tally 19 = .ok (.getfield 15, 3) := by decide +kernel
theorem d_Resolver_tally_22 : decode b_Resolver_tally 22 = .ok (.iload_n 3, 1) := by decide +kernel
theorem d_Resolver_tally_23 : decode b_Resolver_tally 23 = .ok (.iaload, 1) := by decide +kernel
theorem d_Resolver_tally_24 : decode b_Resolver_tally 24 = .ok (.istore 5, 2) := by decide +kernel
theorem d_Resolver_tally_26 : decode b_Resolver_tally 26 = .ok (.iload 4, 2) := by decide +kernel
theorem d_Resolver_tally_28 : decode b_Resolver_tally 28 = .ok (.ifCond .lt 38, 3) := by decide +kernel
theorem d_Resolver_tally_31 : decode b_Resolver_tally 31 = .ok (.iload 4, 2) := by decide +kernel
theorem d_Resolver_tally_33 : decode b_Resolver_tally 33 = .ok (.aload_n 1, 1) := by decide +kernel
theorem d_Resolver_tally_34 : decode b_Resolver_tally 34 = .ok (.arraylength, 1) := by decide +kernel
theorem d_Resolver_tally_35 : decode b_Resolver_tally 35 = .ok (.if_icmp .ge 31, 3) := by decide +kernel
theorem d_Resolver_tally_38 : decode b_Resolver_tally 38 = .ok (.iload 5, 2) := by decide +kernel
theorem d_Resolver_tally_40 : decode b_Resolver_tally 40 = .ok (.ifCond .lt 26, 3) := by decide +kernel
theorem d_Resolver_tally_43 : decode b_Resolver_tally 43 = .ok (.iload 5, 2) := by decide +kernel
theorem d_Resolver_tally_45 : decode b_Resolver_tally 45 = .ok (.aload_n 2, 1) := by decide +kernel
theorem d_Resolver_tally_46 : decode b_Resolver_tally 46 = .ok (.arraylength, 1) := by decide +kernel
theorem d_Resolver_tally_47 : decode b_Resolver_tally 47 = .ok (.if_icmp .ge 19, 3) := by decide +kernel
theorem d_Resolver_tally_50 : decode b_Resolver_tally 50 = .ok (.aload_n 1, 1) := by decide +kernel
theorem d_Resolver_tally_51 : decode b_Resolver_tally 51 = .ok (.iload 4, 2) := by decide +kernel
theorem d_Resolver_tally_53 : decode b_Resolver_tally 53 = .ok (.dup2, 1) := by decide +kernel
theorem d_Resolver_tally_54 : decode b_Resolver_tally 54 = .ok (.iaload, 1) := by decide +kernel
theorem d_Resolver_tally_55 : decode b_Resolver_tally 55 = .ok (.iconst 1, 1) := by decide +kernel
theorem d_Resolver_tally_56 : decode b_Resolver_tally 56 = .ok (.iadd, 1) := by decide +kernel
theorem d_Resolver_tally_57 : decode b_Resolver_tally 57 = .ok (.iastore, 1) := by decide +kernel
theorem d_Resolver_tally_58 : decode b_Resolver_tally 58 = .ok (.aload_n 2, 1) := by decide +kernel
theorem d_Resolver_tally_59 : decode b_Resolver_tally 59 = .ok (.iload 5, 2) := by decide +kernel
theorem d_Resolver_tally_61 : decode b_Resolver_tally 61 = .ok (.dup2, 1) := by decide +kernel
theorem d_Resolver_tally_62 : decode b_Resolver_tally 62 = .ok (.iaload, 1) := by decide +kernel
theorem d_Resolver_tally_63 : decode b_Resolver_tally 63 = .ok (.iconst 1, 1) := by decide +kernel
theorem d_Resolver_tally_64 : decode b_Resolver_tally 64 = .ok (.iadd, 1) := by decide +kernel
theorem d_Resolver_tally_65 : decode b_Resolver_tally 65 = .ok (.iastore, 1) := by decide +kernel
theorem d_Resolver_tally_66 : decode b_Resolver_tally 66 = .ok (.iinc 3 1, 3) := by decide +kernel
theorem d_Resolver_tally_69 : decode b_Resolver_tally 69 = .ok (.goto (-67), 3) := by decide +kernel
theorem d_Resolver_tally_72 : decode b_Resolver_tally 72 = .ok (.return_, 1) := by decide +kernel
theorem d_Rows_init_0 : decode b_Rows_init 0 = .ok (.aload_n 0, 1) := by decide +kernel
theorem d_Rows_init_1 : decode b_Rows_init 1 = .ok (.invokespecial 3, 3) := by decide +kernel
theorem d_Rows_init_4 : decode b_Rows_init 4 = .ok (.aload_n 0, 1) := by decide +kernel
theorem d_Rows_init_5 : decode b_Rows_init 5 = .ok (.sipush 362, 3) := by decide +kernel
theorem d_Rows_init_8 : decode b_Rows_init 8 = .ok (.newarray .int, 2) := by decide +kernel
theorem d_Rows_init_10 : decode b_Rows_init 10 = .ok (.putfield 9, 3) := by decide +kernel
theorem d_Rows_init_13 : decode b_Rows_init 13 = .ok (.aload_n 0, 1) := by decide +kernel
theorem d_Rows_init_14 : decode b_Rows_init 14 = .ok (.bipush 90, 2) := by decide +kernel
theorem d_Rows_init_16 : decode b_Rows_init 16 = .ok (.newarray .int, 2) := by decide +kernel
theorem d_Rows_init_18 : decode b_Rows_init 18 = .ok (.putfield 15, 3) := by decide +kernel
theorem d_Rows_init_21 : decode b_Rows_init 21 = .ok (.aload_n 0, 1) := by decide +kernel
theorem d_Rows_init_22 : decode b_Rows_init 22 = .ok (.sipush 362, 3) := by decide +kernel
theorem d_Rows_init_25 : decode b_Rows_init 25 = .ok (.newarray .int, 2) := by decide +kernel
theorem d_Rows_init_27 : decode b_Rows_init 27 = .ok (.putfield 18, 3) := by decide +kernel
theorem d_Rows_init_30 : decode b_Rows_init 30 = .ok (.aload_n 0, 1) := by decide +kernel
theorem d_Rows_init_31 : decode b_Rows_init 31 = .ok (.sipush 362, 3) := by decide +kernel
theorem d_Rows_init_34 : decode b_Rows_init 34 = .ok (.newarray .int, 2) := by decide +kernel
theorem d_Rows_init_36 : decode b_Rows_init 36 = .ok (.putfield 21, 3) := by decide +kernel
theorem d_Rows_init_39 : decode b_Rows_init 39 = .ok (.aload_n 0, 1) := by decide +kernel
theorem d_Rows_init_40 : decode b_Rows_init 40 = .ok (.new 24, 3) := by decide +kernel
theorem d_Rows_init_43 : decode b_Rows_init 43 = .ok (.dup, 1) := by decide +kernel
theorem d_Rows_init_44 : decode b_Rows_init 44 = .ok (.invokespecial 26, 3) := by decide +kernel
theorem d_Rows_init_47 : decode b_Rows_init 47 = .ok (.putfield 27, 3) := by decide +kernel
theorem d_Rows_init_50 : decode b_Rows_init 50 = .ok (.aload_n 0, 1) := by decide +kernel
theorem d_Rows_init_51 : decode b_Rows_init 51 = .ok (.new 31, 3) := by decide +kernel
theorem d_Rows_init_54 : decode b_Rows_init 54 = .ok (.dup, 1) := by decide +kernel
theorem d_Rows_init_55 : decode b_Rows_init 55 = .ok (.invokespecial 33, 3) := by decide +kernel
theorem d_Rows_init_58 : decode b_Rows_init 58 = .ok (.putfield 34, 3) := by decide +kernel
theorem d_Rows_init_61 : decode b_Rows_init 61 = .ok (.return_, 1) := by decide +kernel
theorem d_Rows_together_0 : decode b_Rows_together 0 = .ok (.aload_n 0, 1) := by decide +kernel
theorem d_Rows_together_1 : decode b_Rows_together 1 = .ok (.getfield 38, 3) := by decide +kernel
theorem d_Rows_together_4 : decode b_Rows_together 4 = .ok (.ireturn, 1) := by decide +kernel
theorem d_Rows_inConflict_0 : decode b_Rows_inConflict 0 = .ok (.aload_n 0, 1) := by decide +kernel
theorem d_Rows_inConflict_1 : decode b_Rows_inConflict 1 = .ok (.getfield 42, 3) := by decide +kernel
theorem d_Rows_inConflict_4 : decode b_Rows_inConflict 4 = .ok (.ireturn, 1) := by decide +kernel
theorem d_Rows_putTogether_0 : decode b_Rows_putTogether 0 = .ok (.aload_n 0, 1) := by decide +kernel
theorem d_Rows_putTogether_1 : decode b_Rows_putTogether 1 = .ok (.iconst 0, 1) := by decide +kernel
theorem d_Rows_putTogether_2 : decode b_Rows_putTogether 2 = .ok (.putfield 38, 3) := by decide +kernel
theorem d_Rows_putTogether_5 : decode b_Rows_putTogether 5 = .ok (.aload_n 0, 1) := by decide +kernel
theorem d_Rows_putTogether_6 : decode b_Rows_putTogether 6 = .ok (.iconst 0, 1) := by decide +kernel
theorem d_Rows_putTogether_7 : decode b_Rows_putTogether 7 = .ok (.putfield 42, 3) := by decide +kernel
theorem d_Rows_putTogether_10 : decode b_Rows_putTogether 10 = .ok (.aload_n 0, 1) := by decide +kernel
theorem d_Rows_putTogether_11 : decode b_Rows_putTogether 11 = .ok (.getfield 34, 3) := by decide +kernel
theorem d_Rows_putTogether_14 : decode b_Rows_putTogether 14 = .ok (.invokevirtual 45, 3) := by decide +kernel
theorem d_Rows_putTogether_17 : decode b_Rows_putTogether 17 = .ok (.aload_n 0, 1) := by decide +kernel
theorem d_Rows_putTogether_18 : decode b_Rows_putTogether 18 = .ok (.aload_n 1, 1) := by decide +kernel
theorem d_Rows_putTogether_19 : decode b_Rows_putTogether 19 = .ok (.invokevirtual 48, 3) := by decide +kernel
theorem d_Rows_putTogether_22 : decode b_Rows_putTogether 22 = .ok (.aload_n 0, 1) := by decide +kernel
theorem d_Rows_putTogether_23 : decode b_Rows_putTogether 23 = .ok (.aload_n 1, 1) := by decide +kernel
theorem d_Rows_putTogether_24 : decode b_Rows_putTogether 24 = .ok (.iconst 0, 1) := by decide +kernel
theorem d_Rows_putTogether_25 : decode b_Rows_putTogether 25 = .ok (.aload_n 1, 1) := by decide +kernel
theorem d_Rows_putTogether_26 : decode b_Rows_putTogether 26 = .ok (.invokevirtual 52, 3) := by decide +kernel
theorem d_Rows_putTogether_29 : decode b_Rows_putTogether 29 = .ok (.aload_n 2, 1) := by decide +kernel
theorem d_Rows_putTogether_30 : decode b_Rows_putTogether 30 = .ok (.invokevirtual 58, 3) := by decide +kernel
theorem d_Rows_putTogether_33 : decode b_Rows_putTogether 33 = .ok (.iconst 0, 1) := by decide +kernel
theorem d_Rows_putTogether_34 : decode b_Rows_putTogether 34 = .ok (.istore_n 3, 1) := by decide +kernel
theorem d_Rows_putTogether_35 : decode b_Rows_putTogether 35 = .ok (.iload_n 3, 1) := by decide +kernel
theorem d_Rows_putTogether_36 : decode b_Rows_putTogether 36 = .ok (.aload_n 1, 1) := by decide +kernel
theorem d_Rows_putTogether_37 : decode b_Rows_putTogether 37 = .ok (.invokevirtual 52, 3) := by decide +kernel
theorem d_Rows_putTogether_40 : decode b_Rows_putTogether 40 = .ok (.if_icmp .ge 31, 3) := by decide +kernel
theorem d_Rows_putTogether_43 : decode b_Rows_putTogether 43 = .ok (.aload_n 1, 1) := by decide +kernel
theorem d_Rows_putTogether_44 : decode b_Rows_putTogether 44 = .ok (.iload_n 3, 1) := by decide +kernel
theorem d_Rows_putTogether_45 : decode b_Rows_putTogether 45 = .ok (.invokevirtual 62, 3) := by decide +kernel
theorem d_Rows_putTogether_48 : decode b_Rows_putTogether 48 = .ok (.ifCond .eq 17, 3) := by decide +kernel
theorem d_Rows_putTogether_51 : decode b_Rows_putTogether 51 = .ok (.aload_n 0, 1) := by decide +kernel
theorem d_Rows_putTogether_52 : decode b_Rows_putTogether 52 = .ok (.aload_n 1, 1) := by decide +kernel
theorem d_Rows_putTogether_53 : decode b_Rows_putTogether 53 = .ok (.iload_n 3, 1) := by decide +kernel
theorem d_Rows_putTogether_54 : decode b_Rows_putTogether 54 = .ok (.iconst 1, 1) := by decide +kernel
theorem d_Rows_putTogether_55 : decode b_Rows_putTogether 55 = .ok (.iadd, 1) := by decide +kernel
theorem d_Rows_putTogether_56 : decode b_Rows_putTogether 56 = .ok (.aload_n 0, 1) := by decide +kernel
theorem d_Rows_putTogether_57 : decode b_Rows_putTogether 57 = .ok (.iload_n 3, 1) := by decide +kernel
theorem d_Rows_putTogether_58 : decode b_Rows_putTogether 58 = .ok (.invokevirtual 66, 3) := by decide +kernel
theorem d_Rows_putTogether_61 : decode b_Rows_putTogether 61 = .ok (.aload_n 2, 1) := by decide +kernel
theorem d_Rows_putTogether_62 : decode b_Rows_putTogether 62 = .ok (.invokevirtual 58, 3) := by decide +kernel
theorem d_Rows_putTogether_65 : decode b_Rows_putTogether 65 = .ok (.iinc 3 1, 3) := by decide +kernel
theorem d_Rows_putTogether_68 : decode b_Rows_putTogether 68 = .ok (.goto (-33), 3) := by decide +kernel
theorem d_Rows_putTogether_71 : decode b_Rows_putTogether 71 = .ok (.return_, 1) := by decide +kernel
theorem d_Rows_copyInto_0 : decode b_Rows_copyInto 0 = .ok (.iconst 0, 1) := by decide +kernel
theorem d_Rows_copyInto_1 : decode b_Rows_copyInto 1 = .ok (.istore_n 3, 1) := by decide +kernel
theorem d_Rows_copyInto_2 : decode b_Rows_copyInto 2 = .ok (.iload_n 3, 1) := by decide +kernel
theorem d_Rows_copyInto_3 : decode b_Rows_copyInto 3 = .ok (.sipush 362, 3) := by decide +kernel
theorem d_Rows_copyInto_6 : decode b_Rows_copyInto 6 = .ok (.if_icmp .ge 23, 3) := by decide +kernel
theorem d_Rows_copyInto_9 : decode b_Rows_copyInto 9 = .ok (.aload_n 0, 1) := by decide +kernel
theorem d_Rows_copyInto_10 : decode b_Rows_copyInto 10 = .ok (.getfield 18, 3) := by decide +kernel
theorem d_Rows_copyInto_13 : decode b_Rows_copyInto 13 = .ok (.iload_n 3, 1) := by decide +kernel
theorem d_Rows_copyInto_14 : decode b_Rows_copyInto 14 = .ok (.iconst 0, 1) := by decide +kernel
theorem d_Rows_copyInto_15 : decode b_Rows_copyInto 15 = .ok (.iastore, 1) := by decide +kernel
theorem d_Rows_copyInto_16 : decode b_Rows_copyInto 16 = .ok (.aload_n 0, 1) := by decide +kernel
theorem d_Rows_copyInto_17 : decode b_Rows_copyInto 17 = .ok (.getfield 21, 3) := by decide +kernel
theorem d_Rows_copyInto_20 : decode b_Rows_copyInto 20 = .ok (.iload_n 3, 1) := by decide +kernel
theorem d_Rows_copyInto_21 : decode b_Rows_copyInto 21 = .ok (.iconst 0, 1) := by decide +kernel
theorem d_Rows_copyInto_22 : decode b_Rows_copyInto 22 = .ok (.iastore, 1) := by decide +kernel
theorem d_Rows_copyInto_23 : decode b_Rows_copyInto 23 = .ok (.iinc 3 1, 3) := by decide +kernel
theorem d_Rows_copyInto_26 : decode b_Rows_copyInto 26 = .ok (.goto (-24), 3) := by decide +kernel
theorem d_Rows_copyInto_29 : decode b_Rows_copyInto 29 = .ok (.aload_n 0, 1) := by decide +kernel
theorem d_Rows_copyInto_30 : decode b_Rows_copyInto 30 = .ok (.getfield 34, 3) := by decide +kernel
theorem d_Rows_copyInto_33 : decode b_Rows_copyInto 33 = .ok (.aload_n 0, 1) := by decide +kernel
theorem d_Rows_copyInto_34 : decode b_Rows_copyInto 34 = .ok (.getfield 18, 3) := by decide +kernel
theorem d_Rows_copyInto_37 : decode b_Rows_copyInto 37 = .ok (.aload_n 0, 1) := by decide +kernel
theorem d_Rows_copyInto_38 : decode b_Rows_copyInto 38 = .ok (.getfield 21, 3) := by decide +kernel
theorem d_Rows_copyInto_41 : decode b_Rows_copyInto 41 = .ok (.invokevirtual 70, 3) := by decide +kernel
theorem d_Rows_copyInto_44 : decode b_Rows_copyInto 44 = .ok (.iconst 0, 1) := by decide +kernel
theorem d_Rows_copyInto_45 : decode b_Rows_copyInto 45 = .ok (.istore_n 3, 1) := by decide +kernel
theorem d_Rows_copyInto_46 : decode b_Rows_copyInto 46 = .ok (.iload_n 3, 1) := by decide +kernel
theorem d_Rows_copyInto_47 : decode b_Rows_copyInto 47 = .ok (.aload_n 2, 1) := by decide +kernel
theorem d_Rows_copyInto_48 : decode b_Rows_copyInto 48 = .ok (.invokevirtual 52, 3) := by decide +kernel
theorem d_Rows_copyInto_51 : decode b_Rows_copyInto 51 = .ok (.if_icmp .ge 58, 3) := by decide +kernel
theorem d_Rows_copyInto_54 : decode b_Rows_copyInto 54 = .ok (.iload_n 3, 1) := by decide +kernel
theorem d_Rows_copyInto_55 : decode b_Rows_copyInto 55 = .ok (.sipush 362, 3) := by decide +kernel
theorem d_Rows_copyInto_58 : decode b_Rows_copyInto 58 = .ok (.if_icmp .ge 51, 3) := by decide +kernel
theorem d_Rows_copyInto_61 : decode b_Rows_copyInto 61 = .ok (.aload_n 1, 1) := by decide +kernel
theorem d_Rows_copyInto_62 : decode b_Rows_copyInto 62 = .ok (.aload_n 0, 1) := by decide +kernel
theorem d_Rows_copyInto_63 : decode b_Rows_copyInto 63 = .ok (.getfield 18, 3) := by decide +kernel
theorem d_Rows_copyInto_66 : decode b_Rows_copyInto 66 = .ok (.iload_n 3, 1) := by decide +kernel
theorem d_Rows_copyInto_67 : decode b_Rows_copyInto 67 = .ok (.iaload, 1) := by decide +kernel
theorem d_Rows_copyInto_68 : decode b_Rows_copyInto 68 = .ok (.iconst 5, 1) := by decide +kernel
theorem d_Rows_copyInto_69 : decode b_Rows_copyInto 69 = .ok (.ldc2_w 74, 3) := by decide +kernel
theorem d_Rows_copyInto_72 : decode b_Rows_copyInto 72 = .ok (.invokevirtual 76, 3) := by decide +kernel
theorem d_Rows_copyInto_75 : decode b_Rows_copyInto 75 = .ok (.aload_n 1, 1) := by decide +kernel
theorem d_Rows_copyInto_76 : decode b_Rows_copyInto 76 = .ok (.aload_n 2, 1) := by decide +kernel
theorem d_Rows_copyInto_77 : decode b_Rows_copyInto 77 = .ok (.iload_n 3, 1) := by decide +kernel
theorem d_Rows_copyInto_78 : decode b_Rows_copyInto 78 = .ok (.invokevirtual 80, 3) := by decide +kernel
theorem d_Rows_copyInto_81 : decode b_Rows_copyInto 81 = .ok (.aload_n 2, 1) := by decide +kernel
theorem d_Rows_copyInto_82 : decode b_Rows_copyInto 82 = .ok (.iload_n 3, 1) := by decide +kernel
theorem d_Rows_copyInto_83 : decode b_Rows_copyInto 83 = .ok (.invokevirtual 83, 3) := by decide +kernel
theorem d_Rows_copyInto_86 : decode b_Rows_copyInto 86 = .ok (.invokevirtual 87, 3) := by decide +kernel
theorem d_Rows_copyInto_89 : decode b_Rows_copyInto 89 = .ok (.aload_n 1, 1) := by decide +kernel
theorem d_Rows_copyInto_90 : decode b_Rows_copyInto 90 = .ok (.aload_n 0, 1) := by decide +kernel
theorem d_Rows_copyInto_91 : decode b_Rows_copyInto 91 = .ok (.getfield 21, 3) := by decide +kernel
theorem d_Rows_copyInto_94 : decode b_Rows_copyInto 94 = .ok (.iload_n 3, 1) := by decide +kernel
theorem d_Rows_copyInto_95 : decode b_Rows_copyInto 95 = .ok (.iaload, 1) := by decide +kernel
theorem d_Rows_copyInto_96 : decode b_Rows_copyInto 96 = .ok (.iconst 5, 1) := by decide +kernel
theorem d_Rows_copyInto_97 : decode b_Rows_copyInto 97 = .ok (.ldc2_w 91, 3) := by decide +kernel
theorem d_Rows_copyInto_100 : decode b_Rows_copyInto 100 = .ok (.invokevirtual 76, 3) := by decide +kernel
theorem d_Rows_copyInto_103 : decode b_Rows_copyInto 103 = .ok (.iinc 3 1, 3) := by decide +kernel
theorem d_Rows_copyInto_106 : decode b_Rows_copyInto 106 = .ok (.goto (-60), 3) := by decide +kernel
theorem d_Rows_copyInto_109 : decode b_Rows_copyInto 109 = .ok (.return_, 1) := by decide +kernel
theorem d_Rows_matchBrackets_0 : decode b_Rows_matchBrackets 0 = .ok (.iconst 0, 1) := by decide +kernel
theorem d_Rows_matchBrackets_1 : decode b_Rows_matchBrackets 1 = .ok (.istore_n 2, 1) := by decide +kernel
theorem d_Rows_matchBrackets_2 : decode b_Rows_matchBrackets 2 = .ok (.iconst 0, 1) := by decide +kernel
theorem d_Rows_matchBrackets_3 : decode b_Rows_matchBrackets 3 = .ok (.istore_n 3, 1) := by decide +kernel
theorem d_Rows_matchBrackets_4 : decode b_Rows_matchBrackets 4 = .ok (.iload_n 3, 1) := by decide +kernel
theorem d_Rows_matchBrackets_5 : decode b_Rows_matchBrackets 5 = .ok (.aload_n 1, 1) := by decide +kernel
theorem d_Rows_matchBrackets_6 : decode b_Rows_matchBrackets 6 = .ok (.invokevirtual 52, 3) := by decide +kernel
theorem d_Rows_matchBrackets_9 : decode b_Rows_matchBrackets 9 = .ok (.if_icmp .ge 77, 3) := by decide +kernel
theorem d_Rows_matchBrackets_12 : decode b_Rows_matchBrackets 12 = .ok (.iload_n 3, 1) := by decide +kernel
theorem d_Rows_matchBrackets_13 : decode b_Rows_matchBrackets 13 = .ok (.sipush 362, 3) := by decide +kernel
theorem d_Rows_matchBrackets_16 : decode b_Rows_matchBrackets 16 = .ok (.if_icmp .ge 70, 3) := by decide +kernel
theorem d_Rows_matchBrackets_19 : decode b_Rows_matchBrackets 19 = .ok (.aload_n 0, 1) := by decide +kernel
theorem d_Rows_matchBrackets_20 : decode b_Rows_matchBrackets 20 = .ok (.getfield 9, 3) := by decide +kernel
theorem d_Rows_matchBrackets_23 : decode b_Rows_matchBrackets 23 = .ok (.iload_n 3, 1) := by decide +kernel
theorem d_Rows_matchBrackets_24 : decode b_Rows_matchBrackets 24 = .ok (.iload_n 3, 1) := by decide +kernel
theorem d_Rows_matchBrackets_25 : decode b_Rows_matchBrackets 25 = .ok (.iastore, 1) := by decide +kernel
theorem d_Rows_matchBrackets_26 : decode b_Rows_matchBrackets 26 = .ok (.aload_n 1, 1) := by decide +kernel
theorem d_Rows_matchBrackets_27 : decode b_Rows_matchBrackets 27 = .ok (.iload_n 3, 1) := by decide +kernel
theorem d_Rows_matchBrackets_28 : decode b_Rows_matchBrackets 28 = .ok (.invokevirtual 62, 3) := by decide +kernel
theorem d_Rows_matchBrackets_31 : decode b_Rows_matchBrackets 31 = .ok (.ifCond .eq 22, 3) := by decide +kernel
theorem d_Rows_matchBrackets_34 : decode b_Rows_matchBrackets 34 = .ok (.iload_n 2, 1) := by decide +kernel
theorem d_Rows_matchBrackets_35 : decode b_Rows_matchBrackets 35 = .ok (.bipush 90, 2) := by decide +kernel
theorem d_Rows_matchBrackets_37 : decode b_Rows_matchBrackets 37 = .ok (.if_icmp .ge 16, 3) := by decide +kernel
theorem d_Rows_matchBrackets_40 : decode b_Rows_matchBrackets 40 = .ok (.aload_n 0, 1) := by decide +kernel
theorem d_Rows_matchBrackets_41 : decode b_Rows_matchBrackets 41 = .ok (.getfield 15, 3) := by decide +kernel
theorem d_Rows_matchBrackets_44 : decode b_Rows_matchBrackets 44 = .ok (.iload_n 2, 1) := by decide +kernel
theorem d_Rows_matchBrackets_45 : decode b_Rows_matchBrackets 45 = .ok (.iload_n 3, 1) := by decide +kernel
theorem d_Rows_matchBrackets_46 : decode b_Rows_matchBrackets 46 = .ok (.iastore, 1) := by decide +kernel
theorem d_Rows_matchBrackets_47 : decode b_Rows_matchBrackets 47 = .ok (.iinc 2 1, 3) := by decide +kernel
theorem d_Rows_matchBrackets_50 : decode b_Rows_matchBrackets 50 = .ok (.goto 30, 3) := by decide +kernel
theorem d_Rows_matchBrackets_53 : decode b_Rows_matchBrackets 53 = .ok (.aload_n 1, 1) := by decide +kernel
theorem d_Rows_matchBrackets_54 : decode b_Rows_matchBrackets 54 = .ok (.iload_n 3, 1) := by decide +kernel
theorem d_Rows_matchBrackets_55 : decode b_Rows_matchBrackets 55 = .ok (.invokevirtual 93, 3) := by decide +kernel
theorem d_Rows_matchBrackets_58 : decode b_Rows_matchBrackets 58 = .ok (.ifCond .eq 22, 3) := by decide +kernel
theorem d_Rows_matchBrackets_61 : decode b_Rows_matchBrackets 61 = .ok (.iload_n 2, 1) := by decide +kernel
theorem d_Rows_matchBrackets_62 : decode b_Rows_matchBrackets 62 = .ok (.ifCond .le 18, 3) := by decide +kernel
theorem d_Rows_matchBrackets_65 : decode b_Rows_matchBrackets 65 = .ok (.iinc 2 (-1), 3) := by decide +kernel
theorem d_Rows_matchBrackets_68 : decode b_Rows_matchBrackets 68 = .ok (.aload_n 0, 1) := by decide +kernel
theorem d_Rows_matchBrackets_69 : decode b_Rows_matchBrackets 69 = .ok (.getfield 9, 3) := by decide +kernel
theorem d_Rows_matchBrackets_72 : decode b_Rows_matchBrackets 72 = .ok (.aload_n 0, 1) := by decide +kernel
theorem d_Rows_matchBrackets_73 : decode b_Rows_matchBrackets 73 = .ok (.getfield 15, 3) := by decide +kernel
