theorem d_Fixities_find_7 : decode b_Fixities_find 7 = .ok (.if_icmp .ge 22, 3) := by decide +kernel
theorem d_Fixities_find_29 : decode b_Fixities_find 29 = .ok (.iconst (-1), 1) := by decide +kernel
theorem d_Fixities_find_30 : decode b_Fixities_find 30 = .ok (.ireturn, 1) := by decide +kernel
theorem d_Fixities_set_0 : decode b_Fixities_set 0 = .ok (.aload_n 0, 1) := by decide +kernel
theorem d_Fixities_set_1 : decode b_Fixities_set 1 = .ok (.lload_n 1, 1) := by decide +kernel
theorem d_Fixities_set_2 : decode b_Fixities_set 2 = .ok (.invokevirtual 26, 3) := by decide +kernel
theorem d_Fixities_set_5 : decode b_Fixities_set 5 = .ok (.istore 5, 2) := by decide +kernel
theorem d_Fixities_set_7 : decode b_Fixities_set 7 = .ok (.iload 5, 2) := by decide +kernel
theorem d_Fixities_set_9 : decode b_Fixities_set 9 = .ok (.iconst (-1), 1) := by decide +kernel
theorem d_Fixities_set_10 : decode b_Fixities_set 10 = .ok (.if_icmp .ne 9, 3) := by decide +kernel
theorem d_Fixities_set_13 : decode b_Fixities_set 13 = .ok (.aload_n 0, 1) := by decide +kernel
theorem d_Fixities_set_14 : decode b_Fixities_set 14 = .ok (.getfield 22, 3) := by decide +kernel
theorem d_Fixities_set_17 : decode b_Fixities_set 17 = .ok (.istore 5, 2) := by decide +kernel
theorem d_Fixities_set_19 : decode b_Fixities_set 19 = .ok (.iload 5, 2) := by decide +kernel
theorem d_Fixities_set_21 : decode b_Fixities_set 21 = .ok (.bipush 12, 2) := by decide +kernel
theorem d_Fixities_set_23 : decode b_Fixities_set 23 = .ok (.if_icmp .ge 43, 3) := by decide +kernel
theorem d_Fixities_set_26 : decode b_Fixities_set 26 = .ok (.aload_n 0, 1) := by decide +kernel
theorem d_Fixities_set_27 : decode b_Fixities_set 27 = .ok (.getfield 9, 3) := by decide +kernel
theorem d_Fixities_set_30 : decode b_Fixities_set 30 = .ok (.iload 5, 2) := by decide +kernel
theorem d_Fixities_set_32 : decode b_Fixities_set 32 = .ok (.lload_n 1, 1) := by decide +kernel
theorem d_Fixities_set_33 : decode b_Fixities_set 33 = .ok (.lastore, 1) := by decide +kernel
theorem d_Fixities_set_34 : decode b_Fixities_set 34 = .ok (.aload_n 0, 1) := by decide +kernel
theorem d_Fixities_set_35 : decode b_Fixities_set 35 = .ok (.getfield 15, 3) := by decide +kernel
theorem d_Fixities_set_38 : decode b_Fixities_set 38 = .ok (.iload 5, 2) := by decide +kernel
theorem d_Fixities_set_40 : decode b_Fixities_set 40 = .ok (.iload_n 3, 1) := by decide +kernel
theorem d_Fixities_set_41 : decode b_Fixities_set 41 = .ok (.iastore, 1) := by decide +kernel
theorem d_Fixities_set_42 : decode b_Fixities_set 42 = .ok (.aload_n 0, 1) := by decide +kernel
theorem d_Fixities_set_43 : decode b_Fixities_set 43 = .ok (.getfield 19, 3) := by decide +kernel
theorem d_Fixities_set_46 : decode b_Fixities_set 46 = .ok (.iload 5, 2) := by decide +kernel
theorem d_Fixities_set_48 : decode b_Fixities_set 48 = .ok (.iload 4, 2) := by decide +kernel
theorem d_Fixities_set_50 : decode b_Fixities_set 50 = .ok (.iastore, 1) := by decide +kernel
theorem d_Fixities_set_51 : decode b_Fixities_set 51 = .ok (.aload_n 0, 1) := by decide +kernel
theorem d_Fixities_set_52 : decode b_Fixities_set 52 = .ok (.aload_n 0, 1) := by decide +kernel
theorem d_Fixities_set_53 : decode b_Fixities_set 53 = .ok (.getfield 22, 3) := by decide +kernel
theorem d_Fixities_set_56 : decode b_Fixities_set 56 = .ok (.iload 5, 2) := by decide +kernel
theorem d_Fixities_set_58 : decode b_Fixities_set 58 = .ok (.iconst 1, 1) := by decide +kernel
theorem d_Fixities_set_59 : decode b_Fixities_set 59 = .ok (.iadd, 1) := by decide +kernel
theorem d_Fixities_set_60 : decode b_Fixities_set 60 = .ok (.invokestatic 30, 3) := by decide +kernel
theorem d_Fixities_set_63 : decode b_Fixities_set 63 = .ok (.putfield 22, 3) := by decide +kernel
theorem d_Fixities_set_66 : decode b_Fixities_set 66 = .ok (.return_, 1) := by decide +kernel
theorem d_Fixities_size_0 : decode b_Fixities_size 0 = .ok (.aload_n 0, 1) := by decide +kernel
theorem d_Fixities_size_1 : decode b_Fixities_size 1 = .ok (.getfield 22, 3) := by decide +kernel
theorem d_Fixities_size_4 : decode b_Fixities_size 4 = .ok (.ireturn, 1) := by decide +kernel
theorem d_LF_fixity_0 : decode b_LF_fixity 0 = .ok (.iload_n 3, 1) := by decide +kernel
theorem d_LF_fixity_1 : decode b_LF_fixity 1 = .ok (.ifCond .lt 20, 3) := by decide +kernel
theorem d_LF_fixity_4 : decode b_LF_fixity 4 = .ok (.iload_n 3, 1) := by decide +kernel
theorem d_LF_fixity_5 : decode b_LF_fixity 5 = .ok (.iconst 2, 1) := by decide +kernel
theorem d_LF_fixity_6 : decode b_LF_fixity 6 = .ok (.if_icmp .gt 15, 3) := by decide +kernel
theorem d_LF_fixity_9 : decode b_LF_fixity 9 = .ok (.iload 4, 2) := by decide +kernel
theorem d_LF_fixity_11 : decode b_LF_fixity 11 = .ok (.ifCond .lt 10, 3) := by decide +kernel
theorem d_LF_fixity_14 : decode b_LF_fixity 14 = .ok (.iload 4, 2) := by decide +kernel
theorem d_LF_fixity_16 : decode b_LF_fixity 16 = .ok (.bipush 9, 2) := by decide +kernel
theorem d_LF_fixity_18 : decode b_LF_fixity 18 = .ok (.if_icmp .le 13, 3) := by decide +kernel
theorem d_LF_fixity_21 : decode b_LF_fixity 21 = .ok (.new 65, 3) := by decide +kernel
theorem d_LF_fixity_24 : decode b_LF_fixity 24 = .ok (.dup, 1) := by decide +kernel
theorem d_LF_fixity_25 : decode b_LF_fixity 25 = .ok (.ldc 92, 2) := by decide +kernel
theorem d_LF_fixity_27 : decode b_LF_fixity 27 = .ok (.invokespecial 69, 3) := by decide +kernel
theorem d_LF_fixity_30 : decode b_LF_fixity 30 = .ok (.athrow, 1) := by decide +kernel
theorem d_LF_fixity_31 : decode b_LF_fixity 31 = .ok (.aload_n 0, 1) := by decide +kernel
theorem d_LF_fixity_32 : decode b_LF_fixity 32 = .ok (.getfield 19, 3) := by decide +kernel
theorem d_LF_fixity_35 : decode b_LF_fixity 35 = .ok (.lload_n 1, 1) := by decide +kernel
theorem d_LF_fixity_36 : decode b_LF_fixity 36 = .ok (.invokevirtual 94, 3) := by decide +kernel
theorem d_LF_fixity_39 : decode b_LF_fixity 39 = .ok (.ifCond .ne 13, 3) := by decide +kernel
theorem d_LF_fixity_52 : decode b_LF_fixity 52 = .ok (.aload_n 0, 1) := by decide +kernel
theorem d_LF_fixity_53 : decode b_LF_fixity 53 = .ok (.getfield 19, 3) := by decide +kernel
theorem d_LF_fixity_56 : decode b_LF_fixity 56 = .ok (.lload_n 1, 1) := by decide +kernel
theorem d_LF_fixity_57 : decode b_LF_fixity 57 = .ok (.iload_n 3, 1) := by decide +kernel
theorem d_LF_fixity_58 : decode b_LF_fixity 58 = .ok (.iload 4, 2) := by decide +kernel
theorem d_LF_fixity_60 : decode b_LF_fixity 60 = .ok (.invokevirtual 99, 3) := by decide +kernel
theorem d_LF_fixity_63 : decode b_LF_fixity 63 = .ok (.aload_n 0, 1) := by decide +kernel
theorem d_LF_fixity_64 : decode b_LF_fixity 64 = .ok (.getfield 19, 3) := by decide +kernel
theorem d_LF_fixity_67 : decode b_LF_fixity 67 = .ok (.invokevirtual 103, 3) := by decide +kernel
theorem d_LF_fixity_70 : decode b_LF_fixity 70 = .ok (.ireturn, 1) := by decide +kernel
theorem d_Law_fixity_0 : decode b_Law_fixity 0 = .ok (.aload 5, 2) := by decide +kernel
theorem d_Law_fixity_2 : decode b_Law_fixity 2 = .ok (.iconst 0, 1) := by decide +kernel
theorem d_Law_fixity_3 : decode b_Law_fixity 3 = .ok (.aload_n 0, 1) := by decide +kernel
theorem d_Law_fixity_4 : decode b_Law_fixity 4 = .ok (.lload_n 1, 1) := by decide +kernel
theorem d_Law_fixity_5 : decode b_Law_fixity 5 = .ok (.iload_n 3, 1) := by decide +kernel
theorem d_Law_fixity_6 : decode b_Law_fixity 6 = .ok (.iload 4, 2) := by decide +kernel
theorem d_Law_fixity_8 : decode b_Law_fixity 8 = .ok (.invokevirtual 17, 3) := by decide +kernel
theorem d_Law_fixity_11 : decode b_Law_fixity 11 = .ok (.i2l, 1) := by decide +kernel
theorem d_Law_fixity_12 : decode b_Law_fixity 12 = .ok (.lastore, 1) := by decide +kernel
theorem d_Law_fixity_13 : decode b_Law_fixity 13 = .ok (.goto 11, 3) := by decide +kernel
theorem d_Law_fixity_16 : decode b_Law_fixity 16 = .ok (.astore 6, 2) := by decide +kernel
theorem d_Law_fixity_18 : decode b_Law_fixity 18 = .ok (.iconst 1, 1) := by decide +kernel
theorem d_Law_fixity_19 : decode b_Law_fixity 19 = .ok (.ireturn, 1) := by decide +kernel
theorem d_Law_fixity_24 : decode b_Law_fixity 24 = .ok (.iconst 0, 1) := by decide +kernel
theorem d_Law_fixity_25 : decode b_Law_fixity 25 = .ok (.ireturn, 1) := by decide +kernel
theorem d_Model_find_0 : decode b_Model_find 0 = .ok (.iconst (-1), 1) := by decide +kernel
theorem d_Model_find_1 : decode b_Model_find 1 = .ok (.istore_n 3, 1) := by decide +kernel
theorem d_Model_find_2 : decode b_Model_find 2 = .ok (.iconst 0, 1) := by decide +kernel
theorem d_Model_find_3 : decode b_Model_find 3 = .ok (.istore 4, 2) := by decide +kernel
theorem d_Model_find_5 : decode b_Model_find 5 = .ok (.iload 4, 2) := by decide +kernel
theorem d_Model_find_7 : decode b_Model_find 7 = .ok (.aload_n 0, 1) := by decide +kernel
theorem d_Model_find_8 : decode b_Model_find 8 = .ok (.getfield 113, 3) := by decide +kernel
theorem d_Model_find_11 : decode b_Model_find 11 = .ok (.if_icmp .ge 28, 3) := by decide +kernel
theorem d_Model_find_39 : decode b_Model_find 39 = .ok (.iload_n 3, 1) := by decide +kernel
theorem d_Model_find_40 : decode b_Model_find 40 = .ok (.ireturn, 1) := by decide +kernel
theorem d_Model_fixity_0 : decode b_Model_fixity 0 = .ok (.aload_n 0, 1) := by decide +kernel
theorem d_Model_fixity_1 : decode b_Model_fixity 1 = .ok (.iconst 0, 1) := by decide +kernel
theorem d_Model_fixity_2 : decode b_Model_fixity 2 = .ok (.putfield 97, 3) := by decide +kernel
theorem d_Model_fixity_5 : decode b_Model_fixity 5 = .ok (.iload_n 3, 1) := by decide +kernel
theorem d_Model_fixity_6 : decode b_Model_fixity 6 = .ok (.iconst 0, 1) := by decide +kernel
theorem d_Model_fixity_7 : decode b_Model_fixity 7 = .ok (.iconst 2, 1) := by decide +kernel
theorem d_Model_fixity_8 : decode b_Model_fixity 8 = .ok (.invokestatic 100, 3) := by decide +kernel
theorem d_Model_fixity_11 : decode b_Model_fixity 11 = .ok (.ifCond .eq 14, 3) := by decide +kernel
theorem d_Model_fixity_14 : decode b_Model_fixity 14 = .ok (.iload 4, 2) := by decide +kernel
theorem d_Model_fixity_16 : decode b_Model_fixity 16 = .ok (.iconst 0, 1) := by decide +kernel
theorem d_Model_fixity_17 : decode b_Model_fixity 17 = .ok (.bipush 9, 2) := by decide +kernel
theorem d_Model_fixity_19 : decode b_Model_fixity 19 = .ok (.invokestatic 100, 3) := by decide +kernel
theorem d_Model_fixity_22 : decode b_Model_fixity 22 = .ok (.ifCond .ne 9, 3) := by decide +kernel
theorem d_Model_fixity_25 : decode b_Model_fixity 25 = .ok (.aload_n 0, 1) := by decide +kernel
theorem d_Model_fixity_26 : decode b_Model_fixity 26 = .ok (.iconst 1, 1) := by decide +kernel
theorem d_Model_fixity_27 : decode b_Model_fixity 27 = .ok (.invokevirtual 104, 3) := by decide +kernel
theorem d_Model_fixity_30 : decode b_Model_fixity 30 = .ok (.ireturn, 1) := by decide +kernel
theorem d_Model_fixity_31 : decode b_Model_fixity 31 = .ok (.aload_n 0, 1) := by decide +kernel
theorem d_Model_fixity_32 : decode b_Model_fixity 32 = .ok (.lload_n 1, 1) := by decide +kernel
theorem d_Model_fixity_33 : decode b_Model_fixity 33 = .ok (.invokevirtual 116, 3) := by decide +kernel
theorem d_Model_fixity_36 : decode b_Model_fixity 36 = .ok (.istore 5, 2) := by decide +kernel
theorem d_Model_fixity_38 : decode b_Model_fixity 38 = .ok (.iload 5, 2) := by decide +kernel
theorem d_Model_fixity_40 : decode b_Model_fixity 40 = .ok (.ifCond .ge 18, 3) := by decide +kernel
theorem d_Model_fixity_43 : decode b_Model_fixity 43 = .ok (.aload_n 0, 1) := by decide +kernel
theorem d_Model_fixity_44 : decode b_Model_fixity 44 = .ok (.getfield 113, 3) := by decide +kernel
theorem d_Model_fixity_47 : decode b_Model_fixity 47 = .ok (.bipush 12, 2) := by decide +kernel
theorem d_Model_fixity_49 : decode b_Model_fixity 49 = .ok (.if_icmp .ne 9, 3) := by decide +kernel
theorem d_Model_fixity_58 : decode b_Model_fixity 58 = .ok (.iload 5, 2) := by decide +kernel
theorem d_Model_fixity_60 : decode b_Model_fixity 60 = .ok (.ifCond .ge 19, 3) := by decide +kernel
theorem d_Model_fixity_63 : decode b_Model_fixity 63 = .ok (.aload_n 0, 1) := by decide +kernel
theorem d_Model_fixity_64 : decode b_Model_fixity 64 = .ok (.getfield 113, 3) := by decide +kernel
theorem d_Model_fixity_67 : decode b_Model_fixity 67 = .ok (.istore 5, 2) := by decide +kernel
theorem d_Model_fixity_69 : decode b_Model_fixity 69 = .ok (.aload_n 0, 1) := by decide +kernel
theorem d_Model_fixity_70 : decode b_Model_fixity 70 = .ok (.dup, 1) := by decide +kernel
theorem d_Model_fixity_71 : decode b_Model_fixity 71 = .ok (.getfield 113, 3) := by decide +kernel
theorem d_Model_fixity_74 : decode b_Model_fixity 74 = .ok (.iconst 1, 1) := by decide +kernel
theorem d_Model_fixity_75 : decode b_Model_fixity 75 = .ok (.iadd, 1) := by decide +kernel
theorem d_Model_fixity_76 : decode b_Model_fixity 76 = .ok (.putfield 113, 3) := by decide +kernel
theorem d_Model_fixity_79 : decode b_Model_fixity 79 = .ok (.aload_n 0, 1) := by decide +kernel
theorem d_Model_fixity_80 : decode b_Model_fixity 80 = .ok (.getfield 61, 3) := by decide +kernel
theorem d_Model_fixity_83 : decode b_Model_fixity 83 = .ok (.iload 5, 2) := by decide +kernel
theorem d_Model_fixity_85 : decode b_Model_fixity 85 = .ok (.lload_n 1, 1) := by decide +kernel
theorem d_Model_fixity_86 : decode b_Model_fixity 86 = .ok (.lastore, 1) := by decide +kernel
theorem d_Model_fixity_87 : decode b_Model_fixity 87 = .ok (.aload_n 0, 1) := by decide +kernel
theorem d_Model_fixity_88 : decode b_Model_fixity 88 = .ok (.getfield 64, 3) := by decide +kernel
theorem d_Model_fixity_91 : decode b_Model_fixity 91 = .ok (.iload 5, 2) := by decide +kernel
theorem d_Model_fixity_93 : decode b_Model_fixity 93 = .ok (.iload_n 3, 1) := by decide +kernel
theorem d_Model_fixity_94 : decode b_Model_fixity 94 = .ok (.iastore, 1) := by decide +kernel
theorem d_Model_fixity_95 : decode b_Model_fixity 95 = .ok (.aload_n 0, 1) := by decide +kernel
theorem d_Model_fixity_96 : decode b_Model_fixity 96 = .ok (.getfield 67, 3) := by decide +kernel
theorem d_Model_fixity_99 : decode b_Model_fixity 99 = .ok (.iload 5, 2) := by decide +kernel
theorem d_Model_fixity_101 : decode b_Model_fixity 101 = .ok (.iload 4, 2) := by decide +kernel
theorem d_Model_fixity_103 : decode b_Model_fixity 103 = .ok (.iastore, 1) := by decide +kernel
theorem d_Model_fixity_104 : decode b_Model_fixity 104 = .ok (.aload_n 0, 1) := by decide +kernel
theorem d_Model_fixity_105 : decode b_Model_fixity 105 = .ok (.getfield 113, 3) := by decide +kernel
theorem d_Model_fixity_108 : decode b_Model_fixity 108 = .ok (.ireturn, 1) := by decide +kernel
theorem d_Model_thrown_0 : decode b_Model_thrown 0 = .ok (.aload_n 0, 1) := by decide +kernel
theorem d_Model_thrown_1 : decode b_Model_thrown 1 = .ok (.getfield 97, 3) := by decide +kernel
theorem d_Model_thrown_4 : decode b_Model_thrown 4 = .ok (.ireturn, 1) := by decide +kernel
theorem d_LF_kind_0 : decode b_LF_kind 0 = .ok (.aload_n 0, 1) := by decide +kernel
theorem d_LF_kind_1 : decode b_LF_kind 1 = .ok (.getfield 49, 3) := by decide +kernel
theorem d_LF_kind_4 : decode b_LF_kind 4 = .ok (.iload_n 1, 1) := by decide +kernel
theorem d_LF_kind_5 : decode b_LF_kind 5 = .ok (.invokevirtual 158, 3) := by decide +kernel
theorem d_LF_kind_8 : decode b_LF_kind 8 = .ok (.ifCond .ne 13, 3) := by decide +kernel
theorem d_LF_kind_11 : decode b_LF_kind 11 = .ok (.new 161, 3) := by decide +kernel
theorem d_LF_kind_14 : decode b_LF_kind 14 = .ok (.dup, 1) := by decide +kernel
theorem d_LF_kind_15 : decode b_LF_kind 15 = .ok (.ldc 163, 2) := by decide +kernel
theorem d_LF_kind_17 : decode b_LF_kind 17 = .ok (.invokespecial 165, 3) := by decide +kernel
theorem d_LF_kind_20 : decode b_LF_kind 20 = .ok (.athrow, 1) := by decide +kernel
theorem d_LF_token_0 : decode b_LF_token 0 = .ok (.aload_n 0, 1) := by decide +kernel
theorem d_LF_token_1 : decode b_LF_token 1 = .ok (.getfield 49, 3) := by decide +kernel
theorem d_LF_token_4 : decode b_LF_token 4 = .ok (.iload_n 1, 1) := by decide +kernel
theorem d_LF_token_5 : decode b_LF_token 5 = .ok (.invokevirtual 158, 3) := by decide +kernel
theorem d_LF_token_8 : decode b_LF_token 8 = .ok (.ifCond .ne 13, 3) := by decide +kernel
theorem d_LF_token_11 : decode b_LF_token 11 = .ok (.new 161, 3) := by decide +kernel
theorem d_LF_token_14 : decode b_LF_token 14 = .ok (.dup, 1) := by decide +kernel
theorem d_LF_token_15 : decode b_LF_token 15 = .ok (.ldc 163, 2) := by decide +kernel
theorem d_LF_token_17 : decode b_LF_token 17 = .ok (.invokespecial 165, 3) := by decide +kernel
theorem d_LF_token_20 : decode b_LF_token 20 = .ok (.athrow, 1) := by decide +kernel
theorem d_Law_kind_0 : decode b_Law_kind 0 = .ok (.aload_n 2, 1) := by decide +kernel
theorem d_Law_kind_1 : decode b_Law_kind 1 = .ok (.iconst 0, 1) := by decide +kernel
theorem d_Law_kind_2 : decode b_Law_kind 2 = .ok (.aload_n 0, 1) := by decide +kernel
theorem d_Law_kind_3 : decode b_Law_kind 3 = .ok (.iload_n 1, 1) := by decide +kernel
theorem d_Law_kind_4 : decode b_Law_kind 4 = .ok (.invokevirtual 25, 3) := by decide +kernel
theorem d_Law_kind_12 : decode b_Law_kind 12 = .ok (.astore_n 3, 1) := by decide +kernel
theorem d_Law_kind_13 : decode b_Law_kind 13 = .ok (.iconst 1, 1) := by decide +kernel
theorem d_Law_kind_14 : decode b_Law_kind 14 = .ok (.ireturn, 1) := by decide +kernel
theorem d_Law_token_0 : decode b_Law_token 0 = .ok (.aload_n 2, 1) := by decide +kernel
theorem d_Law_token_1 : decode b_Law_token 1 = .ok (.iconst 0, 1) := by decide +kernel
theorem d_Law_token_2 : decode b_Law_token 2 = .ok (.aload_n 0, 1) := by decide +kernel
theorem d_Law_token_3 : decode b_Law_token 3 = .ok (.iload_n 1, 1) := by decide +kernel
theorem d_Law_token_4 : decode b_Law_token 4 = .ok (.invokevirtual 31, 3) := by decide +kernel
theorem d_Law_token_11 : decode b_Law_token 11 = .ok (.astore_n 3, 1) := by decide +kernel
theorem d_Law_token_12 : decode b_Law_token 12 = .ok (.iconst 1, 1) := by decide +kernel
theorem d_Law_token_13 : decode b_Law_token 13 = .ok (.ireturn, 1) := by decide +kernel
theorem d_LF_write_0 : decode b_LF_write 0 = .ok (.iload_n 3, 1) := by decide +kernel
theorem d_LF_write_1 : decode b_LF_write 1 = .ok (.iconst 1, 1) := by decide +kernel
theorem d_LF_write_2 : decode b_LF_write 2 = .ok (.if_icmp .lt 17, 3) := by decide +kernel
theorem d_LF_write_5 : decode b_LF_write 5 = .ok (.iload_n 3, 1) := by decide +kernel
theorem d_LF_write_6 : decode b_LF_write 6 = .ok (.bipush 8, 2) := by decide +kernel
theorem d_LF_write_8 : decode b_LF_write 8 = .ok (.if_icmp .gt 11, 3) := by decide +kernel
theorem d_LF_write_11 : decode b_LF_write 11 = .ok (.lload_n 1, 1) := by decide +kernel
theorem d_LF_write_12 : decode b_LF_write 12 = .ok (.iload_n 3, 1) := by decide +kernel
theorem d_LF_write_13 : decode b_LF_write 13 = .ok (.invokestatic 61, 3) := by decide +kernel
theorem d_LF_write_16 : decode b_LF_write 16 = .ok (.ifCond .ne 13, 3) := by decide +kernel
theorem d_LF_write_19 : decode b_LF_write 19 = .ok (.new 65, 3) := by decide +kernel
theorem d_LF_write_22 : decode b_LF_write 22 = .ok (.dup, 1) := by decide +kernel
theorem d_LF_write_23 : decode b_LF_write 23 = .ok (.ldc 67, 2) := by decide +kernel
theorem d_LF_write_25 : decode b_LF_write 25 = .ok (.invokespecial 69, 3) := by decide +kernel
theorem d_LF_write_28 : decode b_LF_write 28 = .ok (.athrow, 1) := by decide +kernel
theorem d_LF_write_29 : decode b_LF_write 29 = .ok (.aload_n 0, 1) := by decide +kernel
theorem d_LF_write_30 : decode b_LF_write 30 = .ok (.getfield 12, 3) := by decide +kernel
theorem d_LF_write_33 : decode b_LF_write 33 = .ok (.iload_n 3, 1) := by decide +kernel
theorem d_LF_write_34 : decode b_LF_write 34 = .ok (.invokevirtual 72, 3) := by decide +kernel
theorem d_LF_write_37 : decode b_LF_write 37 = .ok (.ifCond .ne 13, 3) := by decide +kernel
theorem d_LF_write_40 : decode b_LF_write 40 = .ok (.new 76, 3) := by decide +kernel
theorem d_LF_write_43 : decode b_LF_write 43 = .ok (.dup, 1) := by decide +kernel
theorem d_LF_write_44 : decode b_LF_write 44 = .ok (.ldc 78, 2) := by decide +kernel
theorem d_LF_write_46 : decode b_LF_write 46 = .ok (.invokespecial 80, 3) := by decide +kernel
theorem d_LF_write_49 : decode b_LF_write 49 = .ok (.athrow, 1) := by decide +kernel
theorem d_LF_write_50 : decode b_LF_write 50 = .ok (.aload_n 0, 1) := by decide +kernel
theorem d_LF_write_51 : decode b_LF_write 51 = .ok (.getfield 12, 3) := by decide +kernel
theorem d_LF_write_54 : decode b_LF_write 54 = .ok (.lload_n 1, 1) := by decide +kernel
theorem d_LF_write_55 : decode b_LF_write 55 = .ok (.iload_n 3, 1) := by decide +kernel
theorem d_LF_write_56 : decode b_LF_write 56 = .ok (.invokevirtual 81, 3) := by decide +kernel
theorem d_LF_write_59 : decode b_LF_write 59 = .ok (.aload_n 0, 1) := by decide +kernel
theorem d_LF_write_60 : decode b_LF_write 60 = .ok (.getfield 12, 3) := by decide +kernel
theorem d_LF_write_63 : decode b_LF_write 63 = .ok (.invokevirtual 85, 3) := by decide +kernel
theorem d_LF_write_66 : decode b_LF_write 66 = .ok (.ireturn, 1) := by decide +kernel
theorem d_Text_areCharacters_0 : decode b_Text_areCharacters 0 = .ok (.iconst 0, 1) := by decide +kernel
theorem d_Text_areCharacters_1 : decode b_Text_areCharacters 1 = .ok (.istore_n 3, 1) := by decide +kernel
theorem d_Text_areCharacters_2 : decode b_Text_areCharacters 2 = .ok (.iload_n 3, 1) := by decide +kernel
theorem d_Text_areCharacters_3 : decode b_Text_areCharacters 3 = .ok (.iload_n 2, 1) := by decide +kernel
theorem d_Text_areCharacters_4 : decode b_Text_areCharacters 4 = .ok (.if_icmp .ge 39, 3) := by decide +kernel
theorem d_Text_areCharacters_7 : decode b_Text_areCharacters 7 = .ok (.lload_n 0, 1) := by decide +kernel
theorem d_Text_areCharacters_8 : decode b_Text_areCharacters 8 = .ok (.iload_n 3, 1) := by decide +kernel
theorem d_Text_areCharacters_9 : decode b_Text_areCharacters 9 = .ok (.invokestatic 15, 3) := by decide +kernel
theorem d_Text_areCharacters_12 : decode b_Text_areCharacters 12 = .ok (.istore 4, 2) := by decide +kernel
theorem d_Text_areCharacters_14 : decode b_Text_areCharacters 14 = .ok (.iload 4, 2) := by decide +kernel
theorem d_Text_areCharacters_16 : decode b_Text_areCharacters 16 = .ok (.bipush 10, 2) := by decide +kernel
theorem d_Text_areCharacters_18 : decode b_Text_areCharacters 18 = .ok (.if_icmp .eq 19, 3) := by decide +kernel
theorem d_Text_areCharacters_21 : decode b_Text_areCharacters 21 = .ok (.iload 4, 2) := by decide +kernel
theorem d_Text_areCharacters_23 : decode b_Text_areCharacters 23 = .ok (.bipush 32, 2) := by decide +kernel
theorem d_Text_areCharacters_25 : decode b_Text_areCharacters 25 = .ok (.if_icmp .lt 10, 3) := by decide +kernel
theorem d_Text_areCharacters_28 : decode b_Text_areCharacters 28 = .ok (.iload 4, 2) := by decide +kernel
theorem d_Text_areCharacters_30 : decode b_Text_areCharacters 30 = .ok (.bipush 126, 2) := by decide +kernel
theorem d_Text_areCharacters_32 : decode b_Text_areCharacters 32 = .ok (.if_icmp .le 5, 3) := by decide +kernel
theorem d_Text_areCharacters_35 : decode b_Text_areCharacters 35 = .ok (.iconst 0, 1) := by decide +kernel
theorem d_Text_areCharacters_36 : decode b_Text_areCharacters 36 = .ok (.ireturn, 1) := by decide +kernel
theorem d_Text_areCharacters_37 : decode b_Text_areCharacters 37 = .ok (.iinc 3 1, 3) := by decide +kernel
theorem d_Text_areCharacters_40 : decode b_Text_areCharacters 40 = .ok (.goto (-38), 3) := by decide +kernel
theorem d_Text_areCharacters_43 : decode b_Text_areCharacters 43 = .ok (.iconst 1, 1) := by decide +kernel
