theorem d_Rows_take_120 : decode b_Rows_take 120 = .ok (.ireturn, 1) := by decide +kernel
theorem d_LF_init_0 : decode b_LF_init 0 = .ok (.aload_n 0, 1) := by decide +kernel
theorem d_LF_init_1 : decode b_LF_init 1 = .ok (.invokespecial 3, 3) := by decide +kernel
theorem d_LF_init_4 : decode b_LF_init 4 = .ok (.aload_n 0, 1) := by decide +kernel
theorem d_LF_init_5 : decode b_LF_init 5 = .ok (.new 9, 3) := by decide +kernel
theorem d_LF_init_8 : decode b_LF_init 8 = .ok (.dup, 1) := by decide +kernel
theorem d_LF_init_9 : decode b_LF_init 9 = .ok (.invokespecial 11, 3) := by decide +kernel
theorem d_LF_init_12 : decode b_LF_init 12 = .ok (.putfield 12, 3) := by decide +kernel
theorem d_LF_init_15 : decode b_LF_init 15 = .ok (.aload_n 0, 1) := by decide +kernel
theorem d_LF_init_16 : decode b_LF_init 16 = .ok (.new 16, 3) := by decide +kernel
theorem d_LF_init_19 : decode b_LF_init 19 = .ok (.dup, 1) := by decide +kernel
theorem d_LF_init_20 : decode b_LF_init 20 = .ok (.invokespecial 18, 3) := by decide +kernel
theorem d_LF_init_23 : decode b_LF_init 23 = .ok (.putfield 19, 3) := by decide +kernel
theorem d_LF_init_26 : decode b_LF_init 26 = .ok (.aload_n 0, 1) := by decide +kernel
theorem d_LF_init_27 : decode b_LF_init 27 = .ok (.new 23, 3) := by decide +kernel
theorem d_LF_init_30 : decode b_LF_init 30 = .ok (.dup, 1) := by decide +kernel
theorem d_LF_init_31 : decode b_LF_init 31 = .ok (.invokespecial 25, 3) := by decide +kernel
theorem d_LF_init_34 : decode b_LF_init 34 = .ok (.putfield 26, 3) := by decide +kernel
theorem d_LF_init_37 : decode b_LF_init 37 = .ok (.aload_n 0, 1) := by decide +kernel
theorem d_LF_init_38 : decode b_LF_init 38 = .ok (.new 30, 3) := by decide +kernel
theorem d_LF_init_41 : decode b_LF_init 41 = .ok (.dup, 1) := by decide +kernel
theorem d_LF_init_42 : decode b_LF_init 42 = .ok (.invokespecial 32, 3) := by decide +kernel
theorem d_LF_init_45 : decode b_LF_init 45 = .ok (.putfield 33, 3) := by decide +kernel
theorem d_LF_init_48 : decode b_LF_init 48 = .ok (.aload_n 0, 1) := by decide +kernel
theorem d_LF_init_49 : decode b_LF_init 49 = .ok (.new 37, 3) := by decide +kernel
theorem d_LF_init_52 : decode b_LF_init 52 = .ok (.dup, 1) := by decide +kernel
theorem d_LF_init_53 : decode b_LF_init 53 = .ok (.invokespecial 39, 3) := by decide +kernel
theorem d_LF_init_56 : decode b_LF_init 56 = .ok (.putfield 40, 3) := by decide +kernel
theorem d_LF_init_59 : decode b_LF_init 59 = .ok (.aload_n 0, 1) := by decide +kernel
theorem d_LF_init_60 : decode b_LF_init 60 = .ok (.new 44, 3) := by decide +kernel
theorem d_LF_init_63 : decode b_LF_init 63 = .ok (.dup, 1) := by decide +kernel
theorem d_LF_init_64 : decode b_LF_init 64 = .ok (.sipush 542, 3) := by decide +kernel
theorem d_LF_init_67 : decode b_LF_init 67 = .ok (.invokespecial 46, 3) := by decide +kernel
theorem d_LF_init_70 : decode b_LF_init 70 = .ok (.putfield 49, 3) := by decide +kernel
theorem d_LF_init_73 : decode b_LF_init 73 = .ok (.aload_n 0, 1) := by decide +kernel
theorem d_LF_init_74 : decode b_LF_init 74 = .ok (.iconst 5, 1) := by decide +kernel
theorem d_LF_init_75 : decode b_LF_init 75 = .ok (.newarray .int, 2) := by decide +kernel
theorem d_LF_init_77 : decode b_LF_init 77 = .ok (.putfield 53, 3) := by decide +kernel
theorem d_LF_init_80 : decode b_LF_init 80 = .ok (.aload_n 0, 1) := by decide +kernel
theorem d_LF_init_81 : decode b_LF_init 81 = .ok (.iconst (-1), 1) := by decide +kernel
theorem d_LF_init_82 : decode b_LF_init 82 = .ok (.putfield 57, 3) := by decide +kernel
theorem d_LF_init_85 : decode b_LF_init 85 = .ok (.return_, 1) := by decide +kernel
theorem d_LF_write_0 : decode b_LF_write 0 = .ok (.iload_n 3, 1) := by decide +kernel
theorem d_LF_write_1 : decode b_LF_write 1 = .ok (.iconst 1, 1) := by decide +kernel
theorem d_LF_write_2 : decode b_LF_write 2 = .ok (.if_icmp .lt 17, 3) := by decide +kernel
theorem d_LF_write_5 : decode b_LF_write 5 = .ok (.iload_n 3, 1) := by decide +kernel
theorem d_LF_write_6 : decode b_LF_write 6 = .ok (.bipush 8, 2) := by decide +kernel
theorem d_LF_write_8 : decode b_LF_write 8 = .ok (.if_icmp .gt 11, 3) := by decide +kernel
theorem d_LF_write_11 : decode b_LF_write 11 = .ok (.lload_n 1, 1) := by decide +kernel
theorem d_LF_write_12 : decode b_LF_write 12 = .ok (.iload_n 3, 1) := by decide +kernel
theorem d_LF_write_13 : decode b_LF_write 13 = .ok (.invokestatic 61, 3) := by decide +kernel
theorem d_LF_write_16 : decode b_LF_write 16 = .ok (.ifCond .ne 13, 3) := by decide +kernel
theorem d_LF_write_19 : decode b_LF_write 19 = .ok (.new 65, 3) := by decide +kernel
theorem d_LF_write_22 : decode b_LF_write 22 = .ok (.dup, 1) := by decide +kernel
theorem d_LF_write_23 : decode b_LF_write 23 = .ok (.ldc 67, 2) := by decide +kernel
theorem d_LF_write_25 : decode b_LF_write 25 = .ok (.invokespecial 69, 3) := by decide +kernel
theorem d_LF_write_28 : decode b_LF_write 28 = .ok (.athrow, 1) := by decide +kernel
theorem d_LF_write_29 : decode b_LF_write 29 = .ok (.aload_n 0, 1) := by decide +kernel
theorem d_LF_write_30 : decode b_LF_write 30 = .ok (.getfield 12, 3) := by decide +kernel
theorem d_LF_write_33 : decode b_LF_write 33 = .ok (.iload_n 3, 1) := by decide +kernel
theorem d_LF_write_34 : decode b_LF_write 34 = .ok (.invokevirtual 72, 3) := by decide +kernel
theorem d_LF_write_37 : decode b_LF_write 37 = .ok (.ifCond .ne 13, 3) := by decide +kernel
theorem d_LF_write_40 : decode b_LF_write 40 = .ok (.new 76, 3) := by decide +kernel
theorem d_LF_write_43 : decode b_LF_write 43 = .ok (.dup, 1) := by decide +kernel
theorem d_LF_write_44 : decode b_LF_write 44 = .ok (.ldc 78, 2) := by decide +kernel
theorem d_LF_write_46 : decode b_LF_write 46 = .ok (.invokespecial 80, 3) := by decide +kernel
theorem d_LF_write_49 : decode b_LF_write 49 = .ok (.athrow, 1) := by decide +kernel
theorem d_LF_write_50 : decode b_LF_write 50 = .ok (.aload_n 0, 1) := by decide +kernel
theorem d_LF_write_51 : decode b_LF_write 51 = .ok (.getfield 12, 3) := by decide +kernel
theorem d_LF_write_54 : decode b_LF_write 54 = .ok (.lload_n 1, 1) := by decide +kernel
theorem d_LF_write_55 : decode b_LF_write 55 = .ok (.iload_n 3, 1) := by decide +kernel
theorem d_LF_write_56 : decode b_LF_write 56 = .ok (.invokevirtual 81, 3) := by decide +kernel
theorem d_LF_write_59 : decode b_LF_write 59 = .ok (.aload_n 0, 1) := by decide +kernel
theorem d_LF_write_60 : decode b_LF_write 60 = .ok (.getfield 12, 3) := by decide +kernel
theorem d_LF_write_63 : decode b_LF_write 63 = .ok (.invokevirtual 85, 3) := by decide +kernel
theorem d_LF_write_66 : decode b_LF_write 66 = .ok (.ireturn, 1) := by decide +kernel
theorem d_LF_erase_0 : decode b_LF_erase 0 = .ok (.aload_n 0, 1) := by decide +kernel
theorem d_LF_erase_1 : decode b_LF_erase 1 = .ok (.getfield 12, 3) := by decide +kernel
theorem d_LF_erase_4 : decode b_LF_erase 4 = .ok (.invokevirtual 85, 3) := by decide +kernel
theorem d_LF_erase_7 : decode b_LF_erase 7 = .ok (.istore_n 1, 1) := by decide +kernel
theorem d_LF_erase_8 : decode b_LF_erase 8 = .ok (.aload_n 0, 1) := by decide +kernel
theorem d_LF_erase_9 : decode b_LF_erase 9 = .ok (.getfield 12, 3) := by decide +kernel
theorem d_LF_erase_12 : decode b_LF_erase 12 = .ok (.invokevirtual 89, 3) := by decide +kernel
theorem d_LF_erase_15 : decode b_LF_erase 15 = .ok (.iload_n 1, 1) := by decide +kernel
theorem d_LF_erase_16 : decode b_LF_erase 16 = .ok (.ireturn, 1) := by decide +kernel
theorem d_LF_fixity_0 : decode b_LF_fixity 0 = .ok (.iload_n 3, 1) := by decide +kernel
theorem d_LF_fixity_1 : decode b_LF_fixity 1 = .ok (.ifCond .lt 20, 3) := by decide +kernel
theorem d_LF_fixity_4 : decode b_LF_fixity 4 = .ok (.iload_n 3, 1) := by decide +kernel
theorem d_LF_fixity_5 : decode b_LF_fixity 5 = .ok (.iconst 2, 1) := by decide +kernel
theorem d_LF_fixity_6 : decode b_LF_fixity 6 = .ok (.if_icmp .gt 15, 3) := by decide +kernel
theorem d_LF_fixity_9 : decode b_LF_fixity 9 = .ok (.iload 4, 2) := by decide +kernel
theorem d_LF_fixity_11 : decode b_LF_fixity 11 = .ok (.ifCond .lt 10, 3) := by decide +kernel
theorem d_LF_fixity_14 : decode b_LF_fixity 14 = .ok (.iload 4, 2) := by decide +kernel
theorem d_LF_fixity_16 : decode b_LF_fixity 16 = .ok (.bipush 9, 2) := by decide +kernel
theorem d_LF_fixity_18 : decode b_LF_fixity 18 = .ok (.if_icmp .le 13, 3) := by decide +kernel
theorem d_LF_fixity_21 : decode b_LF_fixity 21 = .ok (.new 65, 3) := by decide +kernel
theorem d_LF_fixity_24 : decode b_LF_fixity 24 = .ok (.dup, 1) := by decide +kernel
theorem d_LF_fixity_25 : decode b_LF_fixity 25 = .ok (.ldc 92, 2) := by decide +kernel
theorem d_LF_fixity_27 : decode b_LF_fixity 27 = .ok (.invokespecial 69, 3) := by decide +kernel
theorem d_LF_fixity_30 : decode b_LF_fixity 30 = .ok (.athrow, 1) := by decide +kernel
theorem d_LF_fixity_31 : decode b_LF_fixity 31 = .ok (.aload_n 0, 1) := by decide +kernel
theorem d_LF_fixity_32 : decode b_LF_fixity 32 = .ok (.getfield 19, 3) := by decide +kernel
theorem d_LF_fixity_35 : decode b_LF_fixity 35 = .ok (.lload_n 1, 1) := by decide +kernel
theorem d_LF_fixity_36 : decode b_LF_fixity 36 = .ok (.invokevirtual 94, 3) := by decide +kernel
theorem d_LF_fixity_39 : decode b_LF_fixity 39 = .ok (.ifCond .ne 13, 3) := by decide +kernel
theorem d_LF_fixity_42 : decode b_LF_fixity 42 = .ok (.new 76, 3) := by decide +kernel
theorem d_LF_fixity_45 : decode b_LF_fixity 45 = .ok (.dup, 1) := by decide +kernel
theorem d_LF_fixity_46 : decode b_LF_fixity 46 = .ok (.ldc 97, 2) := by decide +kernel
theorem d_LF_fixity_48 : decode b_LF_fixity 48 = .ok (.invokespecial 80, 3) := by decide +kernel
theorem d_LF_fixity_51 : decode b_LF_fixity 51 = .ok (.athrow, 1) := by decide +kernel
theorem d_LF_fixity_52 : decode b_LF_fixity 52 = .ok (.aload_n 0, 1) := by decide +kernel
theorem d_LF_fixity_53 : decode b_LF_fixity 53 = .ok (.getfield 19, 3) := by decide +kernel
theorem d_LF_fixity_56 : decode b_LF_fixity 56 = .ok (.lload_n 1, 1) := by decide +kernel
theorem d_LF_fixity_57 : decode b_LF_fixity 57 = .ok (.iload_n 3, 1) := by decide +kernel
theorem d_LF_fixity_58 : decode b_LF_fixity 58 = .ok (.iload 4, 2) := by decide +kernel
theorem d_LF_fixity_60 : decode b_LF_fixity 60 = .ok (.invokevirtual 99, 3) := by decide +kernel
theorem d_LF_fixity_63 : decode b_LF_fixity 63 = .ok (.aload_n 0, 1) := by decide +kernel
theorem d_LF_fixity_64 : decode b_LF_fixity 64 = .ok (.getfield 19, 3) := by decide +kernel
theorem d_LF_fixity_67 : decode b_LF_fixity 67 = .ok (.invokevirtual 103, 3) := by decide +kernel
theorem d_LF_fixity_70 : decode b_LF_fixity 70 = .ok (.ireturn, 1) := by decide +kernel
theorem d_LF_read_0 : decode b_LF_read 0 = .ok (.aload_n 0, 1) := by decide +kernel
theorem d_LF_read_1 : decode b_LF_read 1 = .ok (.getfield 49, 3) := by decide +kernel
theorem d_LF_read_4 : decode b_LF_read 4 = .ok (.invokevirtual 106, 3) := by decide +kernel
theorem d_LF_read_7 : decode b_LF_read 7 = .ok (.aload_n 0, 1) := by decide +kernel
theorem d_LF_read_8 : decode b_LF_read 8 = .ok (.aload_n 0, 1) := by decide +kernel
theorem d_LF_read_9 : decode b_LF_read 9 = .ok (.getfield 26, 3) := by decide +kernel
theorem d_LF_read_12 : decode b_LF_read 12 = .ok (.aload_n 0, 1) := by decide +kernel
theorem d_LF_read_13 : decode b_LF_read 13 = .ok (.getfield 12, 3) := by decide +kernel
theorem d_LF_read_16 : decode b_LF_read 16 = .ok (.invokevirtual 107, 3) := by decide +kernel
theorem d_LF_read_19 : decode b_LF_read 19 = .ok (.putfield 57, 3) := by decide +kernel
theorem d_LF_read_22 : decode b_LF_read 22 = .ok (.aload_n 0, 1) := by decide +kernel
theorem d_LF_read_23 : decode b_LF_read 23 = .ok (.getfield 26, 3) := by decide +kernel
theorem d_LF_read_26 : decode b_LF_read 26 = .ok (.invokevirtual 111, 3) := by decide +kernel
theorem d_LF_read_29 : decode b_LF_read 29 = .ok (.ifCond .eq 13, 3) := by decide +kernel
theorem d_LF_read_32 : decode b_LF_read 32 = .ok (.new 76, 3) := by decide +kernel
theorem d_LF_read_35 : decode b_LF_read 35 = .ok (.dup, 1) := by decide +kernel
theorem d_LF_read_36 : decode b_LF_read 36 = .ok (.ldc 115, 2) := by decide +kernel
theorem d_LF_read_38 : decode b_LF_read 38 = .ok (.invokespecial 80, 3) := by decide +kernel
theorem d_LF_read_41 : decode b_LF_read 41 = .ok (.athrow, 1) := by decide +kernel
theorem d_LF_read_42 : decode b_LF_read 42 = .ok (.aload_n 0, 1) := by decide +kernel
theorem d_LF_read_43 : decode b_LF_read 43 = .ok (.getfield 57, 3) := by decide +kernel
theorem d_LF_read_46 : decode b_LF_read 46 = .ok (.iconst (-1), 1) := by decide +kernel
theorem d_LF_read_47 : decode b_LF_read 47 = .ok (.if_icmp .ne 28, 3) := by decide +kernel
theorem d_LF_read_50 : decode b_LF_read 50 = .ok (.aload_n 0, 1) := by decide +kernel
theorem d_LF_read_51 : decode b_LF_read 51 = .ok (.aload_n 0, 1) := by decide +kernel
theorem d_LF_read_52 : decode b_LF_read 52 = .ok (.getfield 33, 3) := by decide +kernel
theorem d_LF_read_55 : decode b_LF_read 55 = .ok (.aload_n 0, 1) := by decide +kernel
theorem d_LF_read_56 : decode b_LF_read 56 = .ok (.getfield 26, 3) := by decide +kernel
theorem d_LF_read_59 : decode b_LF_read 59 = .ok (.invokevirtual 117, 3) := by decide +kernel
theorem d_LF_read_62 : decode b_LF_read 62 = .ok (.aload_n 0, 1) := by decide +kernel
theorem d_LF_read_63 : decode b_LF_read 63 = .ok (.getfield 12, 3) := by decide +kernel
theorem d_LF_read_66 : decode b_LF_read 66 = .ok (.invokevirtual 85, 3) := by decide +kernel
theorem d_LF_read_69 : decode b_LF_read 69 = .ok (.invokevirtual 121, 3) := by decide +kernel
theorem d_LF_read_72 : decode b_LF_read 72 = .ok (.putfield 57, 3) := by decide +kernel
theorem d_LF_read_75 : decode b_LF_read 75 = .ok (.aload_n 0, 1) := by decide +kernel
theorem d_LF_read_76 : decode b_LF_read 76 = .ok (.getfield 57, 3) := by decide +kernel
theorem d_LF_read_79 : decode b_LF_read 79 = .ok (.iconst (-1), 1) := by decide +kernel
theorem d_LF_read_80 : decode b_LF_read 80 = .ok (.if_icmp .eq 13, 3) := by decide +kernel
theorem d_LF_read_83 : decode b_LF_read 83 = .ok (.new 65, 3) := by decide +kernel
theorem d_LF_read_86 : decode b_LF_read 86 = .ok (.dup, 1) := by decide +kernel
theorem d_LF_read_87 : decode b_LF_read 87 = .ok (.ldc 125, 2) := by decide +kernel
theorem d_LF_read_89 : decode b_LF_read 89 = .ok (.invokespecial 69, 3) := by decide +kernel
theorem d_LF_read_92 : decode b_LF_read 92 = .ok (.athrow, 1) := by decide +kernel
theorem d_LF_read_93 : decode b_LF_read 93 = .ok (.aload_n 0, 1) := by decide +kernel
theorem d_LF_read_94 : decode b_LF_read 94 = .ok (.getfield 40, 3) := by decide +kernel
theorem d_LF_read_97 : decode b_LF_read 97 = .ok (.aload_n 0, 1) := by decide +kernel
theorem d_LF_read_98 : decode b_LF_read 98 = .ok (.getfield 33, 3) := by decide +kernel
theorem d_LF_read_101 : decode b_LF_read 101 = .ok (.invokevirtual 127, 3) := by decide +kernel
theorem d_LF_read_104 : decode b_LF_read 104 = .ok (.aload_n 0, 1) := by decide +kernel
theorem d_LF_read_105 : decode b_LF_read 105 = .ok (.getfield 19, 3) := by decide +kernel
theorem d_LF_read_108 : decode b_LF_read 108 = .ok (.invokevirtual 131, 3) := by decide +kernel
theorem d_LF_read_111 : decode b_LF_read 111 = .ok (.aload_n 0, 1) := by decide +kernel
theorem d_LF_read_112 : decode b_LF_read 112 = .ok (.getfield 40, 3) := by decide +kernel
theorem d_LF_read_115 : decode b_LF_read 115 = .ok (.aload_n 0, 1) := by decide +kernel
theorem d_LF_read_116 : decode b_LF_read 116 = .ok (.getfield 49, 3) := by decide +kernel
theorem d_LF_read_119 : decode b_LF_read 119 = .ok (.aload_n 0, 1) := by decide +kernel
theorem d_LF_read_120 : decode b_LF_read 120 = .ok (.getfield 33, 3) := by decide +kernel
theorem d_LF_read_123 : decode b_LF_read 123 = .ok (.invokevirtual 127, 3) := by decide +kernel
theorem d_LF_read_126 : decode b_LF_read 126 = .ok (.invokevirtual 135, 3) := by decide +kernel
theorem d_LF_read_129 : decode b_LF_read 129 = .ok (.aload_n 0, 1) := by decide +kernel
theorem d_LF_read_130 : decode b_LF_read 130 = .ok (.invokevirtual 139, 3) := by decide +kernel
theorem d_LF_read_133 : decode b_LF_read 133 = .ok (.aload_n 0, 1) := by decide +kernel
theorem d_LF_read_134 : decode b_LF_read 134 = .ok (.getfield 49, 3) := by decide +kernel
theorem d_LF_read_137 : decode b_LF_read 137 = .ok (.invokevirtual 142, 3) := by decide +kernel
theorem d_LF_read_140 : decode b_LF_read 140 = .ok (.ireturn, 1) := by decide +kernel
theorem d_LF_keepCounts_0 : decode b_LF_keepCounts 0 = .ok (.aload_n 0, 1) := by decide +kernel
theorem d_LF_keepCounts_1 : decode b_LF_keepCounts 1 = .ok (.getfield 53, 3) := by decide +kernel
theorem d_LF_keepCounts_4 : decode b_LF_keepCounts 4 = .ok (.iconst 0, 1) := by decide +kernel
theorem d_LF_keepCounts_5 : decode b_LF_keepCounts 5 = .ok (.aload_n 0, 1) := by decide +kernel
theorem d_LF_keepCounts_6 : decode b_LF_keepCounts 6 = .ok (.getfield 26, 3) := by decide +kernel
theorem d_LF_keepCounts_9 : decode b_LF_keepCounts 9 = .ok (.invokevirtual 117, 3) := by decide +kernel
theorem d_LF_keepCounts_12 : decode b_LF_keepCounts 12 = .ok (.invokevirtual 143, 3) := by decide +kernel
theorem d_LF_keepCounts_15 : decode b_LF_keepCounts 15 = .ok (.iastore, 1) := by decide +kernel
theorem d_LF_keepCounts_16 : decode b_LF_keepCounts 16 = .ok (.aload_n 0, 1) := by decide +kernel
theorem d_LF_keepCounts_17 : decode b_LF_keepCounts 17 = .ok (.getfield 53, 3) := by decide +kernel
theorem d_LF_keepCounts_20 : decode b_LF_keepCounts 20 = .ok (.iconst 1, 1) := by decide +kernel
theorem d_LF_keepCounts_21 : decode b_LF_keepCounts 21 = .ok (.aload_n 0, 1) := by decide +kernel
theorem d_LF_keepCounts_22 : decode b_LF_keepCounts 22 = .ok (.getfield 33, 3) := by decide +kernel
theorem d_LF_keepCounts_25 : decode b_LF_keepCounts 25 = .ok (.invokevirtual 146, 3) := by decide +kernel
theorem d_LF_keepCounts_28 : decode b_LF_keepCounts 28 = .ok (.iastore, 1) := by decide +kernel
theorem d_LF_keepCounts_29 : decode b_LF_keepCounts 29 = .ok (.aload_n 0, 1) := by decide +kernel
theorem d_LF_keepCounts_30 : decode b_LF_keepCounts 30 = .ok (.getfield 53, 3) := by decide +kernel
theorem d_LF_keepCounts_33 : decode b_LF_keepCounts 33 = .ok (.iconst 2, 1) := by decide +kernel
theorem d_LF_keepCounts_34 : decode b_LF_keepCounts 34 = .ok (.aload_n 0, 1) := by decide +kernel
theorem d_LF_keepCounts_35 : decode b_LF_keepCounts 35 = .ok (.getfield 40, 3) := by decide +kernel
theorem d_LF_keepCounts_38 : decode b_LF_keepCounts 38 = .ok (.invokevirtual 149, 3) := by decide +kernel
theorem d_LF_keepCounts_41 : decode b_LF_keepCounts 41 = .ok (.iastore, 1) := by decide +kernel
theorem d_LF_keepCounts_42 : decode b_LF_keepCounts 42 = .ok (.aload_n 0, 1) := by decide +kernel
theorem d_LF_keepCounts_43 : decode b_LF_keepCounts 43 = .ok (.getfield 53, 3) := by decide +kernel
theorem d_LF_keepCounts_46 : decode b_LF_keepCounts 46 = .ok (.iconst 3, 1) := by decide +kernel
theorem d_LF_keepCounts_47 : decode b_LF_keepCounts 47 = .ok (.aload_n 0, 1) := by decide +kernel
theorem d_LF_keepCounts_48 : decode b_LF_keepCounts 48 = .ok (.getfield 40, 3) := by decide +kernel
theorem d_LF_keepCounts_51 : decode b_LF_keepCounts 51 = .ok (.invokevirtual 152, 3) := by decide +kernel
theorem d_LF_keepCounts_54 : decode b_LF_keepCounts 54 = .ok (.iastore, 1) := by decide +kernel
theorem d_LF_keepCounts_55 : decode b_LF_keepCounts 55 = .ok (.aload_n 0, 1) := by decide +kernel
theorem d_LF_keepCounts_56 : decode b_LF_keepCounts 56 = .ok (.getfield 53, 3) := by decide +kernel
theorem d_LF_keepCounts_59 : decode b_LF_keepCounts 59 = .ok (.iconst 4, 1) := by decide +kernel
theorem d_LF_keepCounts_60 : decode b_LF_keepCounts 60 = .ok (.aload_n 0, 1) := by decide +kernel
theorem d_LF_keepCounts_61 : decode b_LF_keepCounts 61 = .ok (.getfield 33, 3) := by decide +kernel
theorem d_LF_keepCounts_64 : decode b_LF_keepCounts 64 = .ok (.invokevirtual 155, 3) := by decide +kernel
theorem d_LF_keepCounts_67 : decode b_LF_keepCounts 67 = .ok (.iastore, 1) := by decide +kernel
theorem d_LF_keepCounts_68 : decode b_LF_keepCounts 68 = .ok (.return_, 1) := by decide +kernel
theorem d_LF_place_0 : decode b_LF_place 0 = .ok (.aload_n 0, 1) := by decide +kernel
theorem d_LF_place_1 : decode b_LF_place 1 = .ok (.getfield 57, 3) := by decide +kernel
theorem d_LF_place_4 : decode b_LF_place 4 = .ok (.ireturn, 1) := by decide +kernel
theorem d_LF_kind_0 : decode b_LF_kind 0 = .ok (.aload_n 0, 1) := by decide +kernel
theorem d_LF_kind_1 : decode b_LF_kind 1 = .ok (.getfield 49, 3) := by decide +kernel
theorem d_LF_kind_4 : decode b_LF_kind 4 = .ok (.iload_n 1, 1) := by decide +kernel
theorem d_LF_kind_5 : decode b_LF_kind 5 = .ok (.invokevirtual 158, 3) := by decide +kernel
theorem d_LF_kind_8 : decode b_LF_kind 8 = .ok (.ifCond .ne 13, 3) := by decide +kernel
theorem d_LF_kind_11 : decode b_LF_kind 11 = .ok (.new 161, 3) := by decide +kernel
theorem d_LF_kind_14 : decode b_LF_kind 14 = .ok (.dup, 1) := by decide +kernel
theorem d_LF_kind_15 : decode b_LF_kind 15 = .ok (.ldc 163, 2) := by decide +kernel
theorem d_LF_kind_17 : decode b_LF_kind 17 = .ok (.invokespecial 165, 3) := by decide +kernel
theorem d_LF_kind_20 : decode b_LF_kind 20 = .ok (.athrow, 1) := by decide +kernel
theorem d_LF_kind_21 : decode b_LF_kind 21 = .ok (.aload_n 0, 1) := by decide +kernel
theorem d_LF_kind_22 : decode b_LF_kind 22 = .ok (.getfield 49, 3) := by decide +kernel
theorem d_LF_kind_25 : decode b_LF_kind 25 = .ok (.iload_n 1, 1) := by decide +kernel
theorem d_LF_kind_26 : decode b_LF_kind 26 = .ok (.invokevirtual 166, 3) := by decide +kernel
theorem d_LF_kind_29 : decode b_LF_kind 29 = .ok (.ireturn, 1) := by decide +kernel
theorem d_LF_token_0 : decode b_LF_token 0 = .ok (.aload_n 0, 1) := by decide +kernel
theorem d_LF_token_1 : decode b_LF_token 1 = .ok (.getfield 49, 3) := by decide +kernel
theorem d_LF_token_4 : decode b_LF_token 4 = .ok (.iload_n 1, 1) := by decide +kernel
theorem d_LF_token_5 : decode b_LF_token 5 = .ok (.invokevirtual 158, 3) := by decide +kernel
theorem d_LF_token_8 : decode b_LF_token 8 = .ok (.ifCond .ne 13, 3) := by decide +kernel
theorem d_LF_token_11 : decode b_LF_token 11 = .ok (.new 161, 3) := by decide +kernel
theorem d_LF_token_14 : decode b_LF_token 14 = .ok (.dup, 1) := by decide +kernel
theorem d_LF_token_15 : decode b_LF_token 15 = .ok (.ldc 163, 2) := by decide +kernel
theorem d_LF_token_17 : decode b_LF_token 17 = .ok (.invokespecial 165, 3) := by decide +kernel
theorem d_LF_token_20 : decode b_LF_token 20 = .ok (.athrow, 1) := by decide +kernel
