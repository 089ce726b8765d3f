theorem d_Model_erase_11 : decode b_Model_erase 11 = .ok (.iconst 0, 1) := by decide +kernel
theorem d_Model_erase_12 : decode b_Model_erase 12 = .ok (.putfield 110, 3) := by decide +kernel
theorem d_Model_erase_15 : decode b_Model_erase 15 = .ok (.iload_n 1, 1) := by decide +kernel
theorem d_Model_erase_16 : decode b_Model_erase 16 = .ok (.ireturn, 1) := by decide +kernel
theorem d_Model_find_0 : decode b_Model_find 0 = .ok (.iconst (-1), 1) := by decide +kernel
theorem d_Model_find_1 : decode b_Model_find 1 = .ok (.istore_n 3, 1) := by decide +kernel
theorem d_Model_find_2 : decode b_Model_find 2 = .ok (.iconst 0, 1) := by decide +kernel
theorem d_Model_find_3 : decode b_Model_find 3 = .ok (.istore 4, 2) := by decide +kernel
theorem d_Model_find_5 : decode b_Model_find 5 = .ok (.iload 4, 2) := by decide +kernel
theorem d_Model_find_7 : decode b_Model_find 7 = .ok (.aload_n 0, 1) := by decide +kernel
theorem d_Model_find_8 : decode b_Model_find 8 = .ok (.getfield 113, 3) := by decide +kernel
theorem d_Model_find_11 : decode b_Model_find 11 = .ok (.if_icmp .ge 28, 3) := by decide +kernel
theorem d_Model_find_14 : decode b_Model_find 14 = .ok (.aload_n 0, 1) := by decide +kernel
theorem d_Model_find_15 : decode b_Model_find 15 = .ok (.getfield 61, 3) := by decide +kernel
theorem d_Model_find_18 : decode b_Model_find 18 = .ok (.iload 4, 2) := by decide +kernel
theorem d_Model_find_20 : decode b_Model_find 20 = .ok (.laload, 1) := by decide +kernel
theorem d_Model_find_21 : decode b_Model_find 21 = .ok (.lload_n 1, 1) := by decide +kernel
theorem d_Model_find_22 : decode b_Model_find 22 = .ok (.lcmp, 1) := by decide +kernel
theorem d_Model_find_23 : decode b_Model_find 23 = .ok (.ifCond .ne 8, 3) := by decide +kernel
theorem d_Model_find_26 : decode b_Model_find 26 = .ok (.iload 4, 2) := by decide +kernel
theorem d_Model_find_28 : decode b_Model_find 28 = .ok (.goto 4, 3) := by decide +kernel
theorem d_Model_find_31 : decode b_Model_find 31 = .ok (.iload_n 3, 1) := by decide +kernel
theorem d_Model_find_32 : decode b_Model_find 32 = .ok (.istore_n 3, 1) := by decide +kernel
theorem d_Model_find_33 : decode b_Model_find 33 = .ok (.iinc 4 1, 3) := by decide +kernel
theorem d_Model_find_36 : decode b_Model_find 36 = .ok (.goto (-31), 3) := by decide +kernel
theorem d_Model_find_39 : decode b_Model_find 39 = .ok (.iload_n 3, 1) := by decide +kernel
theorem d_Model_find_40 : decode b_Model_find 40 = .ok (.ireturn, 1) := by decide +kernel
theorem d_Model_fixity_0 : decode b_Model_fixity 0 = .ok (.aload_n 0, 1) := by decide +kernel
theorem d_Model_fixity_1 : decode b_Model_fixity 1 = .ok (.iconst 0, 1) := by decide +kernel
theorem d_Model_fixity_2 : decode b_Model_fixity 2 = .ok (.putfield 97, 3) := by decide +kernel
theorem d_Model_fixity_5 : decode b_Model_fixity 5 = .ok (.iload_n 3, 1) := by decide +kernel
theorem d_Model_fixity_6 : decode b_Model_fixity 6 = .ok (.iconst 0, 1) := by decide +kernel
theorem d_Model_fixity_7 : decode b_Model_fixity 7 = .ok (.iconst 2, 1) := by decide +kernel
theorem d_Model_fixity_8 : decode b_Model_fixity 8 = .ok (.invokestatic 100, 3) := by decide +kernel
theorem d_Model_fixity_11 : decode b_Model_fixity 11 = .ok (.ifCond .eq 14, 3) := by decide +kernel
theorem d_Model_fixity_14 : decode b_Model_fixity 14 = .ok (.iload 4, 2) := by decide +kernel
theorem d_Model_fixity_16 : decode b_Model_fixity 16 = .ok (.iconst 0, 1) := by decide +kernel
theorem d_Model_fixity_17 : decode b_Model_fixity 17 = .ok (.bipush 9, 2) := by decide +kernel
theorem d_Model_fixity_19 : decode b_Model_fixity 19 = .ok (.invokestatic 100, 3) := by decide +kernel
theorem d_Model_fixity_22 : decode b_Model_fixity 22 = .ok (.ifCond .ne 9, 3) := by decide +kernel
theorem d_Model_fixity_25 : decode b_Model_fixity 25 = .ok (.aload_n 0, 1) := by decide +kernel
theorem d_Model_fixity_26 : decode b_Model_fixity 26 = .ok (.iconst 1, 1) := by decide +kernel
theorem d_Model_fixity_27 : decode b_Model_fixity 27 = .ok (.invokevirtual 104, 3) := by decide +kernel
theorem d_Model_fixity_30 : decode b_Model_fixity 30 = .ok (.ireturn, 1) := by decide +kernel
theorem d_Model_fixity_31 : decode b_Model_fixity 31 = .ok (.aload_n 0, 1) := by decide +kernel
theorem d_Model_fixity_32 : decode b_Model_fixity 32 = .ok (.lload_n 1, 1) := by decide +kernel
theorem d_Model_fixity_33 : decode b_Model_fixity 33 = .ok (.invokevirtual 116, 3) := by decide +kernel
theorem d_Model_fixity_36 : decode b_Model_fixity 36 = .ok (.istore 5, 2) := by decide +kernel
theorem d_Model_fixity_38 : decode b_Model_fixity 38 = .ok (.iload 5, 2) := by decide +kernel
theorem d_Model_fixity_40 : decode b_Model_fixity 40 = .ok (.ifCond .ge 18, 3) := by decide +kernel
theorem d_Model_fixity_43 : decode b_Model_fixity 43 = .ok (.aload_n 0, 1) := by decide +kernel
theorem d_Model_fixity_44 : decode b_Model_fixity 44 = .ok (.getfield 113, 3) := by decide +kernel
theorem d_Model_fixity_47 : decode b_Model_fixity 47 = .ok (.bipush 12, 2) := by decide +kernel
theorem d_Model_fixity_49 : decode b_Model_fixity 49 = .ok (.if_icmp .ne 9, 3) := by decide +kernel
theorem d_Model_fixity_52 : decode b_Model_fixity 52 = .ok (.aload_n 0, 1) := by decide +kernel
theorem d_Model_fixity_53 : decode b_Model_fixity 53 = .ok (.iconst 2, 1) := by decide +kernel
theorem d_Model_fixity_54 : decode b_Model_fixity 54 = .ok (.invokevirtual 104, 3) := by decide +kernel
theorem d_Model_fixity_57 : decode b_Model_fixity 57 = .ok (.ireturn, 1) := by decide +kernel
theorem d_Model_fixity_58 : decode b_Model_fixity 58 = .ok (.iload 5, 2) := by decide +kernel
theorem d_Model_fixity_60 : decode b_Model_fixity 60 = .ok (.ifCond .ge 19, 3) := by decide +kernel
theorem d_Model_fixity_63 : decode b_Model_fixity 63 = .ok (.aload_n 0, 1) := by decide +kernel
theorem d_Model_fixity_64 : decode b_Model_fixity 64 = .ok (.getfield 113, 3) := by decide +kernel
theorem d_Model_fixity_67 : decode b_Model_fixity 67 = .ok (.istore 5, 2) := by decide +kernel
theorem d_Model_fixity_69 : decode b_Model_fixity 69 = .ok (.aload_n 0, 1) := by decide +kernel
theorem d_Model_fixity_70 : decode b_Model_fixity 70 = .ok (.dup, 1) := by decide +kernel
theorem d_Model_fixity_71 : decode b_Model_fixity 71 = .ok (.getfield 113, 3) := by decide +kernel
theorem d_Model_fixity_74 : decode b_Model_fixity 74 = .ok (.iconst 1, 1) := by decide +kernel
theorem d_Model_fixity_75 : decode b_Model_fixity 75 = .ok (.iadd, 1) := by decide +kernel
theorem d_Model_fixity_76 : decode b_Model_fixity 76 = .ok (.putfield 113, 3) := by decide +kernel
theorem d_Model_fixity_79 : decode b_Model_fixity 79 = .ok (.aload_n 0, 1) := by decide +kernel
theorem d_Model_fixity_80 : decode b_Model_fixity 80 = .ok (.getfield 61, 3) := by decide +kernel
theorem d_Model_fixity_83 : decode b_Model_fixity 83 = .ok (.iload 5, 2) := by decide +kernel
theorem d_Model_fixity_85 : decode b_Model_fixity 85 = .ok (.lload_n 1, 1) := by decide +kernel
theorem d_Model_fixity_86 : decode b_Model_fixity 86 = .ok (.lastore, 1) := by decide +kernel
theorem d_Model_fixity_87 : decode b_Model_fixity 87 = .ok (.aload_n 0, 1) := by decide +kernel
theorem d_Model_fixity_88 : decode b_Model_fixity 88 = .ok (.getfield 64, 3) := by decide +kernel
theorem d_Model_fixity_91 : decode b_Model_fixity 91 = .ok (.iload 5, 2) := by decide +kernel
theorem d_Model_fixity_93 : decode b_Model_fixity 93 = .ok (.iload_n 3, 1) := by decide +kernel
theorem d_Model_fixity_94 : decode b_Model_fixity 94 = .ok (.iastore, 1) := by decide +kernel
theorem d_Model_fixity_95 : decode b_Model_fixity 95 = .ok (.aload_n 0, 1) := by decide +kernel
theorem d_Model_fixity_96 : decode b_Model_fixity 96 = .ok (.getfield 67, 3) := by decide +kernel
theorem d_Model_fixity_99 : decode b_Model_fixity 99 = .ok (.iload 5, 2) := by decide +kernel
theorem d_Model_fixity_101 : decode b_Model_fixity 101 = .ok (.iload 4, 2) := by decide +kernel
theorem d_Model_fixity_103 : decode b_Model_fixity 103 = .ok (.iastore, 1) := by decide +kernel
theorem d_Model_fixity_104 : decode b_Model_fixity 104 = .ok (.aload_n 0, 1) := by decide +kernel
theorem d_Model_fixity_105 : decode b_Model_fixity 105 = .ok (.getfield 113, 3) := by decide +kernel
theorem d_Model_fixity_108 : decode b_Model_fixity 108 = .ok (.ireturn, 1) := by decide +kernel
theorem d_Model_here_0 : decode b_Model_here 0 = .ok (.aload_n 0, 1) := by decide +kernel
theorem d_Model_here_1 : decode b_Model_here 1 = .ok (.getfield 120, 3) := by decide +kernel
theorem d_Model_here_4 : decode b_Model_here 4 = .ok (.aload_n 0, 1) := by decide +kernel
theorem d_Model_here_5 : decode b_Model_here 5 = .ok (.getfield 110, 3) := by decide +kernel
theorem d_Model_here_8 : decode b_Model_here 8 = .ok (.if_icmp .ge 15, 3) := by decide +kernel
theorem d_Model_here_11 : decode b_Model_here 11 = .ok (.aload_n 0, 1) := by decide +kernel
theorem d_Model_here_12 : decode b_Model_here 12 = .ok (.getfield 7, 3) := by decide +kernel
theorem d_Model_here_15 : decode b_Model_here 15 = .ok (.aload_n 0, 1) := by decide +kernel
theorem d_Model_here_16 : decode b_Model_here 16 = .ok (.getfield 120, 3) := by decide +kernel
theorem d_Model_here_19 : decode b_Model_here 19 = .ok (.iaload, 1) := by decide +kernel
theorem d_Model_here_20 : decode b_Model_here 20 = .ok (.goto 4, 3) := by decide +kernel
theorem d_Model_here_23 : decode b_Model_here 23 = .ok (.iconst (-1), 1) := by decide +kernel
theorem d_Model_here_24 : decode b_Model_here 24 = .ok (.ireturn, 1) := by decide +kernel
theorem d_Model_letter_0 : decode b_Model_letter 0 = .ok (.iload_n 0, 1) := by decide +kernel
theorem d_Model_letter_1 : decode b_Model_letter 1 = .ok (.bipush 97, 2) := by decide +kernel
theorem d_Model_letter_3 : decode b_Model_letter 3 = .ok (.bipush 122, 2) := by decide +kernel
theorem d_Model_letter_5 : decode b_Model_letter 5 = .ok (.invokestatic 100, 3) := by decide +kernel
theorem d_Model_letter_8 : decode b_Model_letter 8 = .ok (.ifCond .ne 20, 3) := by decide +kernel
theorem d_Model_letter_11 : decode b_Model_letter 11 = .ok (.iload_n 0, 1) := by decide +kernel
theorem d_Model_letter_12 : decode b_Model_letter 12 = .ok (.bipush 65, 2) := by decide +kernel
theorem d_Model_letter_14 : decode b_Model_letter 14 = .ok (.bipush 90, 2) := by decide +kernel
theorem d_Model_letter_16 : decode b_Model_letter 16 = .ok (.invokestatic 100, 3) := by decide +kernel
theorem d_Model_letter_19 : decode b_Model_letter 19 = .ok (.ifCond .ne 9, 3) := by decide +kernel
theorem d_Model_letter_22 : decode b_Model_letter 22 = .ok (.iload_n 0, 1) := by decide +kernel
theorem d_Model_letter_23 : decode b_Model_letter 23 = .ok (.bipush 95, 2) := by decide +kernel
theorem d_Model_letter_25 : decode b_Model_letter 25 = .ok (.if_icmp .ne 7, 3) := by decide +kernel
theorem d_Model_letter_28 : decode b_Model_letter 28 = .ok (.iconst 1, 1) := by decide +kernel
theorem d_Model_letter_29 : decode b_Model_letter 29 = .ok (.goto 4, 3) := by decide +kernel
theorem d_Model_letter_32 : decode b_Model_letter 32 = .ok (.iconst 0, 1) := by decide +kernel
theorem d_Model_letter_33 : decode b_Model_letter 33 = .ok (.ireturn, 1) := by decide +kernel
theorem d_Model_digit_0 : decode b_Model_digit 0 = .ok (.iload_n 0, 1) := by decide +kernel
theorem d_Model_digit_1 : decode b_Model_digit 1 = .ok (.bipush 48, 2) := by decide +kernel
theorem d_Model_digit_3 : decode b_Model_digit 3 = .ok (.bipush 57, 2) := by decide +kernel
theorem d_Model_digit_5 : decode b_Model_digit 5 = .ok (.invokestatic 100, 3) := by decide +kernel
theorem d_Model_digit_8 : decode b_Model_digit 8 = .ok (.ireturn, 1) := by decide +kernel
theorem d_Model_operator_0 : decode b_Model_operator 0 = .ok (.iload_n 0, 1) := by decide +kernel
theorem d_Model_operator_1 : decode b_Model_operator 1 = .ok (.bipush 33, 2) := by decide +kernel
theorem d_Model_operator_3 : decode b_Model_operator 3 = .ok (.if_icmp .eq 78, 3) := by decide +kernel
theorem d_Model_operator_6 : decode b_Model_operator 6 = .ok (.iload_n 0, 1) := by decide +kernel
theorem d_Model_operator_7 : decode b_Model_operator 7 = .ok (.bipush 35, 2) := by decide +kernel
theorem d_Model_operator_9 : decode b_Model_operator 9 = .ok (.bipush 38, 2) := by decide +kernel
theorem d_Model_operator_11 : decode b_Model_operator 11 = .ok (.invokestatic 100, 3) := by decide +kernel
theorem d_Model_operator_14 : decode b_Model_operator 14 = .ok (.ifCond .ne 67, 3) := by decide +kernel
theorem d_Model_operator_17 : decode b_Model_operator 17 = .ok (.iload_n 0, 1) := by decide +kernel
theorem d_Model_operator_18 : decode b_Model_operator 18 = .ok (.bipush 42, 2) := by decide +kernel
theorem d_Model_operator_20 : decode b_Model_operator 20 = .ok (.if_icmp .eq 61, 3) := by decide +kernel
theorem d_Model_operator_23 : decode b_Model_operator 23 = .ok (.iload_n 0, 1) := by decide +kernel
theorem d_Model_operator_24 : decode b_Model_operator 24 = .ok (.bipush 43, 2) := by decide +kernel
theorem d_Model_operator_26 : decode b_Model_operator 26 = .ok (.if_icmp .eq 55, 3) := by decide +kernel
theorem d_Model_operator_29 : decode b_Model_operator 29 = .ok (.iload_n 0, 1) := by decide +kernel
theorem d_Model_operator_30 : decode b_Model_operator 30 = .ok (.bipush 45, 2) := by decide +kernel
theorem d_Model_operator_32 : decode b_Model_operator 32 = .ok (.bipush 47, 2) := by decide +kernel
theorem d_Model_operator_34 : decode b_Model_operator 34 = .ok (.invokestatic 100, 3) := by decide +kernel
theorem d_Model_operator_37 : decode b_Model_operator 37 = .ok (.ifCond .ne 44, 3) := by decide +kernel
theorem d_Model_operator_40 : decode b_Model_operator 40 = .ok (.iload_n 0, 1) := by decide +kernel
theorem d_Model_operator_41 : decode b_Model_operator 41 = .ok (.bipush 58, 2) := by decide +kernel
theorem d_Model_operator_43 : decode b_Model_operator 43 = .ok (.if_icmp .eq 38, 3) := by decide +kernel
theorem d_Model_operator_46 : decode b_Model_operator 46 = .ok (.iload_n 0, 1) := by decide +kernel
theorem d_Model_operator_47 : decode b_Model_operator 47 = .ok (.bipush 60, 2) := by decide +kernel
theorem d_Model_operator_49 : decode b_Model_operator 49 = .ok (.bipush 64, 2) := by decide +kernel
theorem d_Model_operator_51 : decode b_Model_operator 51 = .ok (.invokestatic 100, 3) := by decide +kernel
theorem d_Model_operator_54 : decode b_Model_operator 54 = .ok (.ifCond .ne 27, 3) := by decide +kernel
theorem d_Model_operator_57 : decode b_Model_operator 57 = .ok (.iload_n 0, 1) := by decide +kernel
theorem d_Model_operator_58 : decode b_Model_operator 58 = .ok (.bipush 92, 2) := by decide +kernel
theorem d_Model_operator_60 : decode b_Model_operator 60 = .ok (.if_icmp .eq 21, 3) := by decide +kernel
theorem d_Model_operator_63 : decode b_Model_operator 63 = .ok (.iload_n 0, 1) := by decide +kernel
theorem d_Model_operator_64 : decode b_Model_operator 64 = .ok (.bipush 94, 2) := by decide +kernel
theorem d_Model_operator_66 : decode b_Model_operator 66 = .ok (.if_icmp .eq 15, 3) := by decide +kernel
theorem d_Model_operator_69 : decode b_Model_operator 69 = .ok (.iload_n 0, 1) := by decide +kernel
theorem d_Model_operator_70 : decode b_Model_operator 70 = .ok (.bipush 124, 2) := by decide +kernel
theorem d_Model_operator_72 : decode b_Model_operator 72 = .ok (.if_icmp .eq 9, 3) := by decide +kernel
theorem d_Model_operator_75 : decode b_Model_operator 75 = .ok (.iload_n 0, 1) := by decide +kernel
theorem d_Model_operator_76 : decode b_Model_operator 76 = .ok (.bipush 126, 2) := by decide +kernel
theorem d_Model_operator_78 : decode b_Model_operator 78 = .ok (.if_icmp .ne 7, 3) := by decide +kernel
theorem d_Model_operator_81 : decode b_Model_operator 81 = .ok (.iconst 1, 1) := by decide +kernel
theorem d_Model_operator_82 : decode b_Model_operator 82 = .ok (.goto 4, 3) := by decide +kernel
theorem d_Model_operator_85 : decode b_Model_operator 85 = .ok (.iconst 0, 1) := by decide +kernel
theorem d_Model_operator_86 : decode b_Model_operator 86 = .ok (.ireturn, 1) := by decide +kernel
theorem d_Model_sign_0 : decode b_Model_sign 0 = .ok (.iload_n 0, 1) := by decide +kernel
theorem d_Model_sign_1 : decode b_Model_sign 1 = .ok (.bipush 40, 2) := by decide +kernel
theorem d_Model_sign_3 : decode b_Model_sign 3 = .ok (.if_icmp .eq 51, 3) := by decide +kernel
theorem d_Model_sign_6 : decode b_Model_sign 6 = .ok (.iload_n 0, 1) := by decide +kernel
theorem d_Model_sign_7 : decode b_Model_sign 7 = .ok (.bipush 41, 2) := by decide +kernel
theorem d_Model_sign_9 : decode b_Model_sign 9 = .ok (.if_icmp .eq 45, 3) := by decide +kernel
theorem d_Model_sign_12 : decode b_Model_sign 12 = .ok (.iload_n 0, 1) := by decide +kernel
theorem d_Model_sign_13 : decode b_Model_sign 13 = .ok (.bipush 91, 2) := by decide +kernel
theorem d_Model_sign_15 : decode b_Model_sign 15 = .ok (.if_icmp .eq 39, 3) := by decide +kernel
theorem d_Model_sign_18 : decode b_Model_sign 18 = .ok (.iload_n 0, 1) := by decide +kernel
theorem d_Model_sign_19 : decode b_Model_sign 19 = .ok (.bipush 93, 2) := by decide +kernel
theorem d_Model_sign_21 : decode b_Model_sign 21 = .ok (.if_icmp .eq 33, 3) := by decide +kernel
theorem d_Model_sign_24 : decode b_Model_sign 24 = .ok (.iload_n 0, 1) := by decide +kernel
theorem d_Model_sign_25 : decode b_Model_sign 25 = .ok (.bipush 123, 2) := by decide +kernel
theorem d_Model_sign_27 : decode b_Model_sign 27 = .ok (.if_icmp .eq 27, 3) := by decide +kernel
theorem d_Model_sign_30 : decode b_Model_sign 30 = .ok (.iload_n 0, 1) := by decide +kernel
theorem d_Model_sign_31 : decode b_Model_sign 31 = .ok (.bipush 125, 2) := by decide +kernel
theorem d_Model_sign_33 : decode b_Model_sign 33 = .ok (.if_icmp .eq 21, 3) := by decide +kernel
theorem d_Model_sign_36 : decode b_Model_sign 36 = .ok (.iload_n 0, 1) := by decide +kernel
theorem d_Model_sign_37 : decode b_Model_sign 37 = .ok (.bipush 44, 2) := by decide +kernel
theorem d_Model_sign_39 : decode b_Model_sign 39 = .ok (.if_icmp .eq 15, 3) := by decide +kernel
theorem d_Model_sign_42 : decode b_Model_sign 42 = .ok (.iload_n 0, 1) := by decide +kernel
theorem d_Model_sign_43 : decode b_Model_sign 43 = .ok (.bipush 59, 2) := by decide +kernel
theorem d_Model_sign_45 : decode b_Model_sign 45 = .ok (.if_icmp .eq 9, 3) := by decide +kernel
theorem d_Model_sign_48 : decode b_Model_sign 48 = .ok (.iload_n 0, 1) := by decide +kernel
theorem d_Model_sign_49 : decode b_Model_sign 49 = .ok (.bipush 96, 2) := by decide +kernel
theorem d_Model_sign_51 : decode b_Model_sign 51 = .ok (.if_icmp .ne 7, 3) := by decide +kernel
theorem d_Model_sign_54 : decode b_Model_sign 54 = .ok (.iconst 1, 1) := by decide +kernel
theorem d_Model_sign_55 : decode b_Model_sign 55 = .ok (.goto 4, 3) := by decide +kernel
theorem d_Model_sign_58 : decode b_Model_sign 58 = .ok (.iconst 0, 1) := by decide +kernel
theorem d_Model_sign_59 : decode b_Model_sign 59 = .ok (.ireturn, 1) := by decide +kernel
theorem d_Model_wrong_0 : decode b_Model_wrong 0 = .ok (.aload_n 0, 1) := by decide +kernel
theorem d_Model_wrong_1 : decode b_Model_wrong 1 = .ok (.getfield 123, 3) := by decide +kernel
theorem d_Model_wrong_4 : decode b_Model_wrong 4 = .ok (.ifCond .ne 13, 3) := by decide +kernel
theorem d_Model_wrong_7 : decode b_Model_wrong 7 = .ok (.aload_n 0, 1) := by decide +kernel
theorem d_Model_wrong_8 : decode b_Model_wrong 8 = .ok (.iload_n 1, 1) := by decide +kernel
theorem d_Model_wrong_9 : decode b_Model_wrong 9 = .ok (.putfield 123, 3) := by decide +kernel
theorem d_Model_wrong_12 : decode b_Model_wrong 12 = .ok (.aload_n 0, 1) := by decide +kernel
theorem d_Model_wrong_13 : decode b_Model_wrong 13 = .ok (.iload_n 2, 1) := by decide +kernel
theorem d_Model_wrong_14 : decode b_Model_wrong 14 = .ok (.putfield 13, 3) := by decide +kernel
theorem d_Model_wrong_17 : decode b_Model_wrong 17 = .ok (.return_, 1) := by decide +kernel
theorem d_Model_run_0 : decode b_Model_run 0 = .ok (.aload_n 0, 1) := by decide +kernel
theorem d_Model_run_1 : decode b_Model_run 1 = .ok (.getfield 120, 3) := by decide +kernel
theorem d_Model_run_4 : decode b_Model_run 4 = .ok (.istore_n 2, 1) := by decide +kernel
theorem d_Model_run_5 : decode b_Model_run 5 = .ok (.iconst 1, 1) := by decide +kernel
theorem d_Model_run_6 : decode b_Model_run 6 = .ok (.istore_n 3, 1) := by decide +kernel
theorem d_Model_run_7 : decode b_Model_run 7 = .ok (.iload_n 3, 1) := by decide +kernel
theorem d_Model_run_8 : decode b_Model_run 8 = .ok (.ifCond .eq 88, 3) := by decide +kernel
theorem d_Model_run_11 : decode b_Model_run 11 = .ok (.iload_n 2, 1) := by decide +kernel
theorem d_Model_run_12 : decode b_Model_run 12 = .ok (.aload_n 0, 1) := by decide +kernel
theorem d_Model_run_13 : decode b_Model_run 13 = .ok (.getfield 110, 3) := by decide +kernel
theorem d_Model_run_16 : decode b_Model_run 16 = .ok (.if_icmp .ge 80, 3) := by decide +kernel
theorem d_Model_run_19 : decode b_Model_run 19 = .ok (.aload_n 0, 1) := by decide +kernel
theorem d_Model_run_20 : decode b_Model_run 20 = .ok (.getfield 7, 3) := by decide +kernel
theorem d_Model_run_23 : decode b_Model_run 23 = .ok (.iload_n 2, 1) := by decide +kernel
theorem d_Model_run_24 : decode b_Model_run 24 = .ok (.iaload, 1) := by decide +kernel
theorem d_Model_run_25 : decode b_Model_run 25 = .ok (.istore 4, 2) := by decide +kernel
theorem d_Model_run_27 : decode b_Model_run 27 = .ok (.iload_n 1, 1) := by decide +kernel
theorem d_Model_run_28 : decode b_Model_run 28 = .ok (.ifCond .ne 34, 3) := by decide +kernel
theorem d_Model_run_31 : decode b_Model_run 31 = .ok (.iload 4, 2) := by decide +kernel
theorem d_Model_run_33 : decode b_Model_run 33 = .ok (.invokestatic 126, 3) := by decide +kernel
theorem d_Model_run_36 : decode b_Model_run 36 = .ok (.ifCond .ne 18, 3) := by decide +kernel
theorem d_Model_run_39 : decode b_Model_run 39 = .ok (.iload 4, 2) := by decide +kernel
theorem d_Model_run_41 : decode b_Model_run 41 = .ok (.invokestatic 130, 3) := by decide +kernel
theorem d_Model_run_44 : decode b_Model_run 44 = .ok (.ifCond .ne 10, 3) := by decide +kernel
theorem d_Model_run_47 : decode b_Model_run 47 = .ok (.iload 4, 2) := by decide +kernel
theorem d_Model_run_49 : decode b_Model_run 49 = .ok (.bipush 39, 2) := by decide +kernel
theorem d_Model_run_51 : decode b_Model_run 51 = .ok (.if_icmp .ne 7, 3) := by decide +kernel
theorem d_Model_run_54 : decode b_Model_run 54 = .ok (.iconst 1, 1) := by decide +kernel
theorem d_Model_run_55 : decode b_Model_run 55 = .ok (.goto 25, 3) := by decide +kernel
theorem d_Model_run_58 : decode b_Model_run 58 = .ok (.iconst 0, 1) := by decide +kernel
theorem d_Model_run_59 : decode b_Model_run 59 = .ok (.goto 21, 3) := by decide +kernel
theorem d_Model_run_62 : decode b_Model_run 62 = .ok (.iload_n 1, 1) := by decide +kernel
theorem d_Model_run_63 : decode b_Model_run 63 = .ok (.iconst 1, 1) := by decide +kernel
theorem d_Model_run_64 : decode b_Model_run 64 = .ok (.if_icmp .ne 11, 3) := by decide +kernel
theorem d_Model_run_67 : decode b_Model_run 67 = .ok (.iload 4, 2) := by decide +kernel
theorem d_Model_run_69 : decode b_Model_run 69 = .ok (.invokestatic 130, 3) := by decide +kernel
theorem d_Model_run_72 : decode b_Model_run 72 = .ok (.goto 8, 3) := by decide +kernel
theorem d_Model_run_75 : decode b_Model_run 75 = .ok (.iload 4, 2) := by decide +kernel
theorem d_Model_run_77 : decode b_Model_run 77 = .ok (.invokestatic 133, 3) := by decide +kernel
theorem d_Model_run_80 : decode b_Model_run 80 = .ok (.istore_n 3, 1) := by decide +kernel
theorem d_Model_run_81 : decode b_Model_run 81 = .ok (.iload_n 2, 1) := by decide +kernel
theorem d_Model_run_82 : decode b_Model_run 82 = .ok (.iload_n 3, 1) := by decide +kernel
theorem d_Model_run_83 : decode b_Model_run 83 = .ok (.ifCond .eq 7, 3) := by decide +kernel
theorem d_Model_run_86 : decode b_Model_run 86 = .ok (.iconst 1, 1) := by decide +kernel
