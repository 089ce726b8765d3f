theorem d_Model_erase_11 : decode b_Model_erase 11 = .ok (.iconst 0, 1) := by decide +kernel
theorem d_Model_erase_12 : decode b_Model_erase 12 = .ok (.putfield 110, 3) := by decide +kernel
theorem d_Model_erase_15 : decode b_Model_erase 15 = .ok (.iload_n 1, 1) := by decide +kernel
theorem d_Model_erase_16 : decode b_Model_erase 16 = .ok (.ireturn, 1) := by decide +kernel
theorem d_Model_find_0 : decode b_Model_find 0 = .ok (.iconst (-1), 1) := by decide +kernel
theorem d_Model_find_1 : decode b_Model_find 1 = .ok (.istore_n 3, 1) := by decide +kernel
theorem d_Model_find_2 : decode b_Model_find 2 = .ok (.iconst 0, 1) := by decide +kernel
theorem d_Model_find_3 : decode b_Model_find 3 = .ok (.istore 4, 2) := by decide +kernel
theorem d_Model_find_5 : decode b_Model_find 5 = .ok (.iload 4, 2) := by decide +kernel
theorem d_Model_find_7 : decode b_Model_find 7 = .ok (.aload_n 0, 1) := by decide +kernel
theorem d_Model_find_8 : decode b_Model_find 8 = .ok (.getfield 113, 3) := by decide +kernel
theorem d_Model_find_11 : decode b_Model_find 11 = .ok (.if_icmp .ge 28, 3) := by decide +kernel
theorem d_Model_find_14 : decode b_Model_find 14 = .ok (.aload_n 0, 1) := by decide +kernel
theorem d_Model_find_15 : decode b_Model_find 15 = .ok (.getfield 61, 3) := by decide +kernel
theorem d_Model_find_18 : decode b_Model_find 18 = .ok (.iload 4, 2) := by decide +kernel
theorem d_Model_find_20 : decode b_Model_find 20 = .ok (.laload, 1) := by decide +kernel
theorem d_Model_find_21 : decode b_Model_find 21 = .ok (.lload_n 1, 1) := by decide +kernel
theorem d_Model_find_22 : decode b_Model_find 22 = .ok (.lcmp, 1) := by decide +kernel
theorem d_Model_find_23 : decode b_Model_find 23 = .ok (.ifCond .ne 8, 3) := by decide +kernel
theorem d_Model_find_26 : decode b_Model_find 26 = .ok (.iload 4, 2) := by decide +kernel
theorem d_Model_find_28 : decode b_Model_find 28 = .ok (.goto 4, 3) := by decide +kernel
theorem d_Model_find_31 : decode b_Model_find 31 = .ok (.iload_n 3, 1) := by decide +kernel
theorem d_Model_find_32 : decode b_Model_find 32 = .ok (.istore_n 3, 1) := by decide +kernel
theorem d_Model_find_33 : decode b_Model_find 33 = .ok (.iinc 4 1, 3) := by decide +kernel
theorem d_Model_find_36 : decode b_Model_find 36 = .ok (.goto (-31), 3) := by decide +kernel
theorem d_Model_find_39 : decode b_Model_find 39 = .ok (.iload_n 3, 1) := by decide +kernel
theorem d_Model_find_40 : decode b_Model_find 40 = .ok (.ireturn, 1) := by decide +kernel
theorem d_Model_fixity_0 : decode b_Model_fixity 0 = .ok (.aload_n 0, 1) := by decide +kernel
theorem d_Model_fixity_1 : decode b_Model_fixity 1 = .ok (.iconst 0, 1) := by decide +kernel
theorem d_Model_fixity_2 : decode b_Model_fixity 2 = .ok (.putfield 97, 3) := by decide +kernel
theorem d_Model_fixity_5 : decode b_Model_fixity 5 = .ok (.iload_n 3, 1) := by decide +kernel
theorem d_Model_fixity_6 : decode b_Model_fixity 6 = .ok (.iconst 0, 1) := by decide +kernel
theorem d_Model_fixity_7 : decode b_Model_fixity 7 = .ok (.iconst 2, 1) := by decide +kernel
theorem d_Model_fixity_8 : decode b_Model_fixity 8 = .ok (.invokestatic 100, 3) := by decide +kernel
theorem d_Model_fixity_11 : decode b_Model_fixity 11 = .ok (.ifCond .eq 14, 3) := by decide +kernel
theorem d_Model_fixity_14 : decode b_Model_fixity 14 = .ok (.iload 4, 2) := by decide +kernel
theorem d_Model_fixity_16 : decode b_Model_fixity 16 = .ok (.iconst 0, 1) := by decide +kernel
theorem d_Model_fixity_17 : decode b_Model_fixity 17 = .ok (.bipush 9, 2) := by decide +kernel
theorem d_Model_fixity_19 : decode b_Model_fixity 19 = .ok (.invokestatic 100, 3) := by decide +kernel
theorem d_Model_fixity_22 : decode b_Model_fixity 22 = .ok (.ifCond .ne 9, 3) := by decide +kernel
theorem d_Model_fixity_25 : decode b_Model_fixity 25 = .ok (.aload_n 0, 1) := by decide +kernel
theorem d_Model_fixity_26 : decode b_Model_fixity 26 = .ok (.iconst 1, 1) := by decide +kernel
theorem d_Model_fixity_27 : decode b_Model_fixity 27 = .ok (.invokevirtual 104, 3) := by decide +kernel
theorem d_Model_fixity_30 : decode b_Model_fixity 30 = .ok (.ireturn, 1) := by decide +kernel
theorem d_Model_fixity_31 : decode b_Model_fixity 31 = .ok (.aload_n 0, 1) := by decide +kernel
theorem d_Model_fixity_32 : decode b_Model_fixity 32 = .ok (.lload_n 1, 1) := by decide +kernel
theorem d_Model_fixity_33 : decode b_Model_fixity 33 = .ok (.invokevirtual 116, 3) := by decide +kernel
theorem d_Model_fixity_36 : decode b_Model_fixity 36 = .ok (.istore 5, 2) := by decide +kernel
theorem d_Model_fixity_38 : decode b_Model_fixity 38 = .ok (.iload 5, 2) := by decide +kernel
theorem d_Model_fixity_40 : decode b_Model_fixity 40 = .ok (.ifCond .ge 18, 3) := by decide +kernel
theorem d_Model_fixity_43 : decode b_Model_fixity 43 = .ok (.aload_n 0, 1) := by decide +kernel
theorem d_Model_fixity_44 : decode b_Model_fixity 44 = .ok (.getfield 113, 3) := by decide +kernel
theorem d_Model_fixity_47 : decode b_Model_fixity 47 = .ok (.bipush 12, 2) := by decide +kernel
theorem d_Model_fixity_49 : decode b_Model_fixity 49 = .ok (.if_icmp .ne 9, 3) := by decide +kernel
theorem d_Model_fixity_52 : decode b_Model_fixity 52 = .ok (.aload_n 0, 1) := by decide +kernel
theorem d_Model_fixity_53 : decode b_Model_fixity 53 = .ok (.iconst 2, 1) := by decide +kernel
theorem d_Model_fixity_54 : decode b_Model_fixity 54 = .ok (.invokevirtual 104, 3) := by decide +kernel
theorem d_Model_fixity_57 : decode b_Model_fixity 57 = .ok (.ireturn, 1) := by decide +kernel
theorem d_Model_fixity_58 : decode b_Model_fixity 58 = .ok (.iload 5, 2) := by decide +kernel
theorem d_Model_fixity_60 : decode b_Model_fixity 60 = .ok (.ifCond .ge 19, 3) := by decide +kernel
theorem d_Model_fixity_63 : decode b_Model_fixity 63 = .ok (.aload_n 0, 1) := by decide +kernel
theorem d_Model_fixity_64 : decode b_Model_fixity 64 = .ok (.getfield 113, 3) := by decide +kernel
theorem d_Model_fixity_67 : decode b_Model_fixity 67 = .ok (.istore 5, 2) := by decide +kernel
theorem d_Model_fixity_69 : decode b_Model_fixity 69 = .ok (.aload_n 0, 1) := by decide +kernel
theorem d_Model_fixity_70 : decode b_Model_fixity 70 = .ok (.dup, 1) := by decide +kernel
theorem d_Model_fixity_71 : decode b_Model_fixity 71 = .ok (.getfield 113, 3) := by decide +kernel
theorem d_Model_fixity_74 : decode b_Model_fixity 74 = .ok (.iconst 1, 1) := by decide +kernel
theorem d_Model_fixity_75 : decode b_Model_fixity 75 = .ok (.iadd, 1) := by decide +kernel
theorem d_Model_fixity_76 : decode b_Model_fixity 76 = .ok (.putfield 113, 3) := by decide +kernel
theorem d_Model_fixity_79 : decode b_Model_fixity 79 = .ok (.aload_n 0, 1) := by decide +kernel
theorem d_Model_fixity_80 : decode b_Model_fixity 80 = .ok (.getfield 61, 3) := by decide +kernel
theorem d_Model_fixity_83 : decode b_Model_fixity 83 = .ok (.iload 5, 2) := by decide +kernel
theorem d_Model_fixity_85 : decode b_Model_fixity 85 = .ok (.lload_n 1, 1) := by decide +kernel
theorem d_Model_fixity_86 : decode b_Model_fixity 86 = .ok (.lastore, 1) := by decide +kernel
theorem d_Model_fixity_87 : decode b_Model_fixity 87 = .ok (.aload_n 0, 1) := by decide +kernel
theorem d_Model_fixity_88 : decode b_Model_fixity 88 = .ok (.getfield 64, 3) := by decide +kernel
theorem d_Model_fixity_91 : decode b_Model_fixity 91 = .ok (.iload 5, 2) := by decide +kernel
theorem d_Model_fixity_93 : decode b_Model_fixity 93 = .ok (.iload_n 3, 1) := by decide +kernel
theorem d_Model_fixity_94 : decode b_Model_fixity 94 = .ok (.iastore, 1) := by decide +kernel
theorem d_Model_fixity_95 : decode b_Model_fixity 95 = .ok (.aload_n 0, 1) := by decide +kernel
theorem d_Model_fixity_96 : decode b_Model_fixity 96 = .ok (.getfield 67, 3) := by decide +kernel
theorem d_Model_fixity_99 : decode b_Model_fixity 99 = .ok (.iload 5, 2) := by decide +kernel
theorem d_Model_fixity_101 : decode b_Model_fixity 101 = .ok (.iload 4, 2) := by decide +kernel
theorem d_Model_fixity_103 : decode b_Model_fixity 103 = .ok (.iastore, 1) := by decide +kernel
theorem d_Model_fixity_104 : decode b_Model_fixity 104 = .ok (.aload_n 0, 1) := by decide +kernel
theorem d_Model_fixity_105 : decode b_Model_fixity 105 = .ok (.getfield 113, 3) := by decide +kernel
theorem d_Model_fixity_108 : decode b_Model_fixity 108 = .ok (.ireturn, 1) := by decide +kernel
theorem d_Model_here_0 : decode b_Model_here 0 = .ok (.aload_n 0, 1) := by decide +kernel
theorem d_Model_here_1 : decode b_Model_here 1 = .ok (.getfield 120, 3) := by decide +kernel
theorem d_Model_here_4 : decode b_Model_here 4 = .ok (.aload_n 0, 1) := by decide +kernel
theorem d_Model_here_5 : decode b_Model_here 5 = .ok (.getfield 110, 3) := by decide +kernel
theorem d_Model_here_8 : decode b_Model_here 8 = .ok (.if_icmp .ge 15, 3) := by decide +kernel
theorem d_Model_here_11 : decode b_Model_here 11 = .ok (.aload_n 0, 1) := by decide +kernel
theorem d_Model_here_12 : decode b_Model_here 12 = .ok (.getfield 7, 3) := by decide +kernel
theorem d_Model_here_15 : decode b_Model_here 15 = .ok (.aload_n 0, 1) := by decide +kernel
theorem d_Model_here_16 : decode b_Model_here 16 = .ok (.getfield 120, 3) := by decide +kernel
theorem d_Model_here_19 : decode b_Model_here 19 = .ok (.iaload, 1) := by decide +kernel
theorem d_Model_here_20 : decode b_Model_here 20 = .ok (.goto 4, 3) := by decide +kernel
theorem d_Model_here_23 : decode b_Model_here 23 = .ok (.iconst (-1), 1) := by decide +kernel
theorem d_Model_here_24 : decode b_Model_here 24 = .ok (.ireturn, 1) := by decide +kernel
theorem d_Model_letter_0 : decode b_Model_letter 0 = .ok (.iload_n 0, 1) := by decide +kernel
theorem d_Model_letter_1 : decode b_Model_letter 1 = .ok (.bipush 97, 2) := by decide +kernel
theorem d_Model_letter_3 : decode b_Model_letter 3 = .ok (.bipush 122, 2) := by decide +kernel
theorem d_Model_letter_5 : decode b_Model_letter 5 = .ok (.invokestatic 100, 3) := by decide +kernel
theorem d_Model_letter_8 : decode b_Model_letter 8 = .ok (.ifCond .ne 20, 3) := by decide +kernel
theorem d_Model_letter_11 : decode b_Model_letter 11 = .ok (.iload_n 0, 1) := by decide +kernel
theorem d_Model_letter_12 : decode b_Model_letter 12 = .ok (.bipush 65, 2) := by decide +kernel
theorem d_Model_letter_14 : decode b_Model_letter 14 = .ok (.bipush 90, 2) := by decide +kernel
theorem d_Model_letter_16 : decode b_Model_letter 16 = .ok (.invokestatic 100, 3) := by decide +kernel
theorem d_Model_letter_19 : decode b_Model_letter 19 = .ok (.ifCond .ne 9, 3) := by decide +kernel
theorem d_Model_letter_22 : decode b_Model_letter 22 = .ok (.iload_n 0, 1) := by decide +kernel
theorem d_Model_letter_23 : decode b_Model_letter 23 = .ok (.bipush 95, 2) := by decide +kernel
theorem d_Model_letter_25 : decode b_Model_letter 25 = .ok (.if_icmp .ne 7, 3) := by decide +kernel
theorem d_Model_letter_28 : decode b_Model_letter 28 = .ok (.iconst 1, 1) := by decide +kernel
theorem d_Model_letter_29 : decode b_Model_letter 29 = .ok (.goto 4, 3) := by decide +kernel
theorem d_Model_letter_32 : decode b_Model_letter 32 = .ok (.iconst 0, 1) := by decide +kernel
theorem d_Model_letter_33 : decode b_Model_letter 33 = .ok (.ireturn, 1) := by decide +kernel
theorem d_Model_digit_0 : decode b_Model_digit 0 = .ok (.iload_n 0, 1) := by decide +kernel
theorem d_Model_digit_1 : decode b_Model_digit 1 = .ok (.bipush 48, 2) := by decide +kernel
theorem d_Model_digit_3 : decode b_Model_digit 3 = .ok (.bipush 57, 2) := by decide +kernel
theorem d_Model_digit_5 : decode b_Model_digit 5 = .ok (.invokestatic 100, 3) := by decide +kernel
theorem d_Model_digit_8 : decode b_Model_digit 8 = .ok (.ireturn, 1) := by decide +kernel
theorem d_Model_operator_0 : decode b_Model_operator 0 = .ok (.iload_n 0, 1) := by decide +kernel
theorem d_Model_operator_1 : decode b_Model_operator 1 = .ok (.bipush 33, 2) := by decide +kernel
theorem d_Model_operator_3 : decode b_Model_operator 3 = .ok (.if_icmp .eq 78, 3) := by decide +kernel
theorem d_Model_operator_6 : decode b_Model_operator 6 = .ok (.iload_n 0, 1) := by decide +kernel
theorem d_Model_operator_7 : decode b_Model_operator 7 = .ok (.bipush 35, 2) := by decide +kernel
theorem d_Model_operator_9 : decode b_Model_operator 9 = .ok (.bipush 38, 2) := by decide +kernel
theorem d_Model_operator_11 : decode b_Model_operator 11 = .ok (.invokestatic 100, 3) := by decide +kernel
theorem d_Model_operator_14 : decode b_Model_operator 14 = .ok (.ifCond .ne 67, 3) := by decide +kernel
theorem d_Model_operator_17 : decode b_Model_operator 17 = .ok (.iload_n 0, 1) := by decide +kernel
theorem d_Model_operator_18 : decode b_Model_operator 18 = .ok (.bipush 42, 2) := by decide +kernel
theorem d_Model_operator_20 : decode b_Model_operator 20 = .ok (.if_icmp .eq 61, 3) := by decide +kernel
theorem d_Model_operator_23 : decode b_Model_operator 23 = .ok (.iload_n 0, 1) := by decide +kernel
theorem d_Model_operator_24 : decode b_Model_operator 24 = .ok (.bipush 43, 2) := by decide +kernel
theorem d_Model_operator_26 : decode b_Model_operator 26 = .ok (.if_icmp .eq 55, 3) := by decide +kernel
theorem d_Model_operator_29 : decode b_Model_operator 29 = .ok (.iload_n 0, 1) := by decide +kernel
theorem d_Model_operator_30 : decode b_Model_operator 30 = .ok (.bipush 45, 2) := by decide +kernel
theorem d_Model_operator_32 : decode b_Model_operator 32 = .ok (.bipush 47, 2) := by decide +kernel
theorem d_Model_operator_34 : decode b_Model_operator 34 = .ok (.invokestatic 100, 3) := by decide +kernel
theorem d_Model_operator_37 : decode b_Model_operator 37 = .ok (.ifCond .ne 44, 3) := by decide +kernel
theorem d_Model_operator_40 : decode b_Model_operator 40 = .ok (.iload_n 0, 1) := by decide +kernel
theorem d_Model_operator_41 : decode b_Model_operator 41 = .ok (.bipush 58, 2) := by decide +kernel
theorem d_Model_operator_43 : decode b_Model_operator 43 = .ok (.if_icmp .eq 38, 3) := by decide +kernel
theorem d_Model_operator_46 : decode b_Model_operator 46 = .ok (.iload_n 0, 1) := by decide +kernel
theorem d_Model_operator_47 : decode b_Model_operator 47 = .ok (.bipush 60, 2) := by decide +kernel
theorem d_Model_operator_49 : decode b_Model_operator 49 = .ok (.bipush 64, 2) := by decide +kernel
theorem d_Model_operator_51 : decode b_Model_operator 51 = .ok (.invokestatic 100, 3) := by decide +kernel
theorem d_Model_operator_54 : decode b_Model_operator 54 = .ok (.ifCond .ne 27, 3) := by decide +kernel
theorem d_Model_operator_57 : decode b_Model_operator 57 = .ok (.iload_n 0, 1) := by decide +kernel
theorem d_Model_operator_58 : decode b_Model_operator 58 = .ok (.bipush 92, 2) := by decide +kernel
theorem d_Model_operator_60 : decode b_Model_operator 60 = .ok (.if_icmp .eq 21, 3) := by decide +kernel
theorem d_Model_operator_63 : decode b_Model_operator 63 = .ok (.iload_n 0, 1) := by decide +kernel
theorem d_Model_operator_64 : decode b_Model_operator 64 = .ok (.bipush 94, 2) := by decide +kernel
theorem d_Model_operator_66 : decode b_Model_operator 66 = .ok (.if_icmp .eq 15, 3) := by decide +kernel
theorem d_Model_operator_69 : decode b_Model_operator 69 = .ok (.iload_n 0, 1) := by decide +kernel
theorem d_Model_operator_70 : decode b_Model_operator 70 = .ok (.bipush 124, 2) := by decide +kernel
theorem d_Model_operator_72 : decode b_Model_operator 72 = .ok (.if_icmp .eq 9, 3) := by decide +kernel
theorem d_Model_operator_75 : decode b_Model_operator 75 = .ok (.iload_n 0, 1) := by decide +kernel
theorem d_Model_operator_76 : decode b_Model_operator 76 = .ok (.bipush 126, 2) := by decide +kernel
theorem d_Model_operator_78 : decode b_Model_operator 78 = .ok (.if_icmp .ne 7, 3) := by decide +kernel
theorem d_Model_operator_81 : decode b_Model_operator 81 = .ok (.iconst 1, 1) := by decide +kernel
theorem d_Model_operator_82 : decode b_Model_operator 82 = .ok (.goto 4, 3) := by decide +kernel
theorem d_Model_operator_85 : decode b_Model_operator 85 = .ok (.iconst 0, 1) := by decide +kernel
theorem d_Model_operator_86 : decode b_Model_operator 86 = .ok (.ireturn, 1) := by decide +kernel
theorem d_Model_sign_0 : decode b_Model_sign 0 = .ok (.iload_n 0, 1) := by decide +kernel
theorem d_Model_sign_1 : decode b_Model_sign 1 = .ok (.bipush 40, 2) := by decide +kernel
theorem d_Model_sign_3 : decode b_Model_sign 3 = .ok (.if_icmp .eq 51, 3) := by decide +kernel
theorem d_Model_sign_6 : decode b_Model_sign 6 = .ok (.iload_n 0, 1) := by decide +kernel
theorem d_Model_sign_7 : decode b_Model_sign 7 = .ok (.bipush 41, 2) := by decide +kernel
theorem d_Model_sign_9 : decode b_Model_sign 9 = .ok (.if_icmp .eq 45, 3) := by decide +kernel
theorem d_Model_sign_12 : decode b_Model_sign 12 = .ok (.iload_n 0, 1) := by decide +kernel
theorem d_Model_sign_13 : decode b_Model_sign 13 = .ok (.bipush 91, 2) := by decide +kernel
theorem d_Model_sign_15 : decode b_Model_sign 15 = .ok (.if_icmp .eq 39, 3) := by decide +kernel
theorem d_Model_sign_18 : decode b_Model_sign 18 = .ok (.iload_n 0, 1) := by decide +kernel
theorem d_Model_sign_19 : decode b_Model_sign 19 = .ok (.bipush 93, 2) := by decide +kernel
theorem d_Model_sign_21 : decode b_Model_sign 21 = .ok (.if_icmp .eq 33, 3) := by decide +kernel
theorem d_Model_sign_24 : decode b_Model_sign 24 = .ok (.iload_n 0, 1) := by decide +kernel
theorem d_Model_sign_25 : decode b_Model_sign 25 = .ok (.bipush 123, 2) := by decide +kernel
theorem d_Model_sign_27 : decode b_Model_sign 27 = .ok (.if_icmp .eq 27, 3) := by decide +kernel
theorem d_Model_sign_30 : decode b_Model_sign 30 = .ok (.iload_n 0, 1) := by decide +kernel
theorem d_Model_sign_31 : decode b_Model_sign 31 = .ok (.bipush 125, 2) := by decide +kernel
theorem d_Model_sign_33 : decode b_Model_sign 33 = .ok (.if_icmp .eq 21, 3) := by decide +kernel
theorem d_Model_sign_36 : decode b_Model_sign 36 = .ok (.iload_n 0, 1) := by decide +kernel
theorem d_Model_sign_37 : decode b_Model_sign 37 = .ok (.bipush 44, 2) := by decide +kernel
theorem d_Model_sign_39 : decode b_Model_sign 39 = .ok (.if_icmp .eq 15, 3) := by decide +kernel
theorem d_Model_sign_42 : decode b_Model_sign 42 = .ok (.iload_n 0, 1) := by decide +kernel
theorem d_Model_sign_43 : decode b_Model_sign 43 = .ok (.bipush 59, 2) := by decide +kernel
theorem d_Model_sign_45 : decode b_Model_sign 45 = .ok (.if_icmp .eq 9, 3) := by decide +kernel
theorem d_Model_sign_48 : decode b_Model_sign 48 = .ok (.iload_n 0, 1) := by decide +kernel
theorem d_Model_sign_49 : decode b_Model_sign 49 = .ok (.bipush 96, 2) := by decide +kernel
theorem d_Model_sign_51 : decode b_Model_sign 51 = .ok (.if_icmp .ne 7, 3) := by decide +kernel
theorem d_Model_sign_54 : decode b_Model_sign 54 = .ok (.iconst 1, 1) := by decide +kernel
theorem d_Model_sign_55 : decode b_Model_sign 55 = .ok (.goto 4, 3) := by decide +kernel
theorem d_Model_sign_58 : decode b_Model_sign 58 = .ok (.iconst 0, 1) := by decide +kernel
theorem d_Model_sign_59 : decode b_Model_sign 59 = .ok (.ireturn, 1) := by decide +kernel
theorem d_Model_wrong_0 : decode b_Model_wrong 0 = .ok (.aload_n 0, 1) := by decide +kernel
theorem d_Model_wrong_1 : decode b_Model_wrong 1 = .ok (.getfield 123, 3) := by decide +kernel
theorem d_Model_wrong_4 : decode b_Model_wrong 4 = .ok (.ifCond .ne 13, 3) := by decide +kernel
theorem d_Model_wrong_7 : decode b_Model_wrong 7 = .ok (.aload_n 0, 1) := by decide +kernel
theorem d_Model_wrong_8 : decode b_Model_wrong 8 = .ok (.iload_n 1, 1) := by decide +kernel
theorem d_Model_wrong_9 : decode b_Model_wrong 9 = .ok (.putfield 123, 3) := by decide +kernel
theorem d_Model_wrong_12 : decode b_Model_wrong 12 = .ok (.aload_n 0, 1) := by decide +kernel
theorem d_Model_wrong_13 : decode b_Model_wrong 13 = .ok (.iload_n 2, 1) := by decide +kernel
theorem d_Model_wrong_14 : decode b_Model_wrong 14 = .ok (.putfield 13, 3) := by decide +kernel
theorem d_Model_wrong_17 : decode b_Model_wrong 17 = .ok (.return_, 1) := by decide +kernel
theorem d_Model_run_0 : decode b_Model_run 0 = .ok (.aload_n 0, 1) := by decide +kernel
theorem d_Model_run_1 : decode b_Model_run 1 = .ok (.getfield 120, 3) := by decide +kernel
theorem d_Model_run_4 : decode b_Model_run 4 = .ok (.istore_n 2, 1) := by decide +kernel
theorem d_Model_run_5 : decode b_Model_run 5 = .ok (.iconst 1, 1) := by decide +kernel
theorem d_Model_run_6 : decode b_Model_run 6 = .ok (.istore_n 3, 1) := by decide +kernel
theorem d_Model_run_7 : decode b_Model_run 7 = .ok (.iload_n 3, 1) := by decide +kernel
theorem d_Model_run_8 : decode b_Model_run 8 = .ok (.ifCond .eq 88, 3) := by decide +kernel
theorem d_Model_run_11 : decode b_Model_run 11 = .ok (.iload_n 2, 1) := by decide +kernel
theorem d_Model_run_12 : decode b_Model_run 12 = .ok (.aload_n 0, 1) := by decide +kernel
theorem d_Model_run_13 : decode b_Model_run 13 = .ok (.getfield 110, 3) := by decide +kernel
theorem d_Model_run_16 : decode b_Model_run 16 = .ok (.if_icmp .ge 80, 3) := by decide +kernel
theorem d_Model_run_19 : decode b_Model_run 19 = .ok (.aload_n 0, 1) := by decide +kernel
theorem d_Model_run_20 : decode b_Model_run 20 = .ok (.getfield 7, 3) := by decide +kernel
theorem d_Model_run_23 : decode b_Model_run 23 = .ok (.iload_n 2, 1) := by decide +kernel
theorem d_Model_run_24 : decode b_Model_run 24 = .ok (.iaload, 1) := by decide +kernel
theorem d_Model_run_25 : decode b_Model_run 25 = .ok (.istore 4, 2) := by decide +kernel
theorem d_Model_run_27 : decode b_Model_run 27 = .ok (.iload_n 1, 1) := by decide +kernel
theorem d_Model_run_28 : decode b_Model_run 28 = .ok (.ifCond .ne 34, 3) := by decide +kernel
theorem d_Model_run_31 : decode b_Model_run 31 = .ok (.iload 4, 2) := by decide +kernel
theorem d_Model_run_33 : decode b_Model_run 33 = .ok (.invokestatic 126, 3) := by decide +kernel
theorem d_Model_run_36 : decode b_Model_run 36 = .ok (.ifCond .ne 18, 3) := by decide +kernel
theorem d_Model_run_39 : decode b_Model_run 39 = .ok (.iload 4, 2) := by decide +kernel
theorem d_Model_run_41 : decode b_Model_run 41 = .ok (.invokestatic 130, 3) := by decide +kernel
theorem d_Model_run_44 : decode b_Model_run 44 = .ok (.ifCond .ne 10, 3) := by decide +kernel
theorem d_Model_run_47 : decode b_Model_run 47 = .ok (.iload 4, 2) := by decide +kernel
theorem d_Model_run_49 : decode b_Model_run 49 = .ok (.bipush 39, 2) := by decide +kernel
theorem d_Model_run_51 : decode b_Model_run 51 = .ok (.if_icmp .ne 7, 3) := by decide +kernel
theorem d_Model_run_54 : decode b_Model_run 54 = .ok (.iconst 1, 1) := by decide +kernel
theorem d_Model_run_55 : decode b_Model_run 55 = .ok (.goto 25, 3) := by decide +kernel
theorem d_Model_run_58 : decode b_Model_run 58 = .ok (.iconst 0, 1) := by decide +kernel
theorem d_Model_run_59 : decode b_Model_run 59 = .ok (.goto 21, 3) := by decide +kernel
theorem d_Model_run_62 : decode b_Model_run 62 = .ok (.iload_n 1, 1) := by decide +kernel
theorem d_Model_run_63 : decode b_Model_run 63 = .ok (.iconst 1, 1) := by decide +kernel
theorem d_Model_run_64 : decode b_Model_run 64 = .ok (.if_icmp .ne 11, 3) := by decide +kernel
theorem d_Model_run_67 : decode b_Model_run 67 = .ok (.iload 4, 2) := by decide +kernel
theorem d_Model_run_69 : decode b_Model_run 69 = .ok (.invokestatic 130, 3) := by decide +kernel
theorem d_Model_run_72 : decode b_Model_run 72 = .ok (.goto 8, 3) := by decide +kernel
theorem d_Model_run_75 : decode b_Model_run 75 = .ok (.iload 4, 2) := by decide +kernel
theorem d_Model_run_77 : decode b_Model_run 77 = .ok (.invokestatic 133, 3) := by decide +kernel
theorem d_Model_run_80 : decode b_Model_run 80 = .ok (.istore_n 3, 1) := by decide +kernel
theorem d_Model_run_81 : decode b_Model_run 81 = .ok (.iload_n 2, 1) := by decide +kernel
theorem d_Model_run_82 : decode b_Model_run 82 = .ok (.iload_n 3, 1) := by decide +kernel
theorem d_Model_run_83 : decode b_Model_run 83 = .ok (.ifCond .eq 7, 3) := by decide +kernel
theorem d_Model_run_86 : decode b_Model_run 86 = .ok (.iconst 1, 1) := by decide +kernel
theorem d_Model_run_87 : decode b_Model_run 87 = .ok (.goto 4, 3) := by decide +kernel
theorem d_Model_run_90 : decode b_Model_run 90 = .ok (.iconst 0, 1) := by decide +kernel
theorem d_Model_run_91 : decode b_Model_run 91 = .ok (.iadd, 1) := by decide +kernel
theorem d_Model_run_92 : decode b_Model_run 92 = .ok (.istore_n 2, 1) := by decide +kernel
theorem d_Model_run_93 : decode b_Model_run 93 = .ok (.goto (-86), 3) := by decide +kernel
theorem d_Model_run_96 : decode b_Model_run 96 = .ok (.iload_n 2, 1) := by decide +kernel
theorem d_Model_run_97 : decode b_Model_run 97 = .ok (.aload_n 0, 1) := by decide +kernel
theorem d_Model_run_98 : decode b_Model_run 98 = .ok (.getfield 120, 3) := by decide +kernel
theorem d_Model_run_101 : decode b_Model_run 101 = .ok (.isub, 1) := by decide +kernel
theorem d_Model_run_102 : decode b_Model_run 102 = .ok (.ireturn, 1) := by decide +kernel
theorem d_Model_dashes_0 : decode b_Model_dashes 0 = .ok (.iload_n 1, 1) := by decide +kernel
theorem d_Model_dashes_1 : decode b_Model_dashes 1 = .ok (.iconst 1, 1) := by decide +kernel
theorem d_Model_dashes_2 : decode b_Model_dashes 2 = .ok (.if_icmp .le 7, 3) := by decide +kernel
theorem d_Model_dashes_5 : decode b_Model_dashes 5 = .ok (.iconst 1, 1) := by decide +kernel
theorem d_Model_dashes_6 : decode b_Model_dashes 6 = .ok (.goto 4, 3) := by decide +kernel
theorem d_Model_dashes_9 : decode b_Model_dashes 9 = .ok (.iconst 0, 1) := by decide +kernel
theorem d_Model_dashes_10 : decode b_Model_dashes 10 = .ok (.istore_n 2, 1) := by decide +kernel
theorem d_Model_dashes_11 : decode b_Model_dashes 11 = .ok (.iconst 0, 1) := by decide +kernel
theorem d_Model_dashes_12 : decode b_Model_dashes 12 = .ok (.istore_n 3, 1) := by decide +kernel
theorem d_Model_dashes_13 : decode b_Model_dashes 13 = .ok (.iload_n 3, 1) := by decide +kernel
theorem d_Model_dashes_14 : decode b_Model_dashes 14 = .ok (.iload_n 1, 1) := by decide +kernel
theorem d_Model_dashes_15 : decode b_Model_dashes 15 = .ok (.if_icmp .ge 35, 3) := by decide +kernel
theorem d_Model_dashes_18 : decode b_Model_dashes 18 = .ok (.iload_n 2, 1) := by decide +kernel
theorem d_Model_dashes_19 : decode b_Model_dashes 19 = .ok (.ifCond .eq 23, 3) := by decide +kernel
theorem d_Model_dashes_22 : decode b_Model_dashes 22 = .ok (.aload_n 0, 1) := by decide +kernel
theorem d_Model_dashes_23 : decode b_Model_dashes 23 = .ok (.getfield 7, 3) := by decide +kernel
theorem d_Model_dashes_26 : decode b_Model_dashes 26 = .ok (.aload_n 0, 1) := by decide +kernel
theorem d_Model_dashes_27 : decode b_Model_dashes 27 = .ok (.getfield 120, 3) := by decide +kernel
theorem d_Model_dashes_30 : decode b_Model_dashes 30 = .ok (.iload_n 3, 1) := by decide +kernel
theorem d_Model_dashes_31 : decode b_Model_dashes 31 = .ok (.iadd, 1) := by decide +kernel
theorem d_Model_dashes_32 : decode b_Model_dashes 32 = .ok (.iaload, 1) := by decide +kernel
theorem d_Model_dashes_33 : decode b_Model_dashes 33 = .ok (.bipush 45, 2) := by decide +kernel
theorem d_Model_dashes_35 : decode b_Model_dashes 35 = .ok (.if_icmp .ne 7, 3) := by decide +kernel
theorem d_Model_dashes_38 : decode b_Model_dashes 38 = .ok (.iconst 1, 1) := by decide +kernel
theorem d_Model_dashes_39 : decode b_Model_dashes 39 = .ok (.goto 4, 3) := by decide +kernel
theorem d_Model_dashes_42 : decode b_Model_dashes 42 = .ok (.iconst 0, 1) := by decide +kernel
theorem d_Model_dashes_43 : decode b_Model_dashes 43 = .ok (.istore_n 2, 1) := by decide +kernel
theorem d_Model_dashes_44 : decode b_Model_dashes 44 = .ok (.iinc 3 1, 3) := by decide +kernel
theorem d_Model_dashes_47 : decode b_Model_dashes 47 = .ok (.goto (-34), 3) := by decide +kernel
theorem d_Model_dashes_50 : decode b_Model_dashes 50 = .ok (.iload_n 2, 1) := by decide +kernel
theorem d_Model_dashes_51 : decode b_Model_dashes 51 = .ok (.ireturn, 1) := by decide +kernel
theorem d_Model_nested_0 : decode b_Model_nested 0 = .ok (.aload_n 0, 1) := by decide +kernel
theorem d_Model_nested_1 : decode b_Model_nested 1 = .ok (.getfield 120, 3) := by decide +kernel
theorem d_Model_nested_4 : decode b_Model_nested 4 = .ok (.istore_n 1, 1) := by decide +kernel
theorem d_Model_nested_5 : decode b_Model_nested 5 = .ok (.iconst 0, 1) := by decide +kernel
theorem d_Model_nested_6 : decode b_Model_nested 6 = .ok (.istore_n 2, 1) := by decide +kernel
theorem d_Model_nested_7 : decode b_Model_nested 7 = .ok (.iconst 1, 1) := by decide +kernel
theorem d_Model_nested_8 : decode b_Model_nested 8 = .ok (.istore_n 3, 1) := by decide +kernel
theorem d_Model_nested_9 : decode b_Model_nested 9 = .ok (.iload_n 3, 1) := by decide +kernel
theorem d_Model_nested_10 : decode b_Model_nested 10 = .ok (.ifCond .eq 163, 3) := by decide +kernel
theorem d_Model_nested_13 : decode b_Model_nested 13 = .ok (.aload_n 0, 1) := by decide +kernel
theorem d_Model_nested_14 : decode b_Model_nested 14 = .ok (.invokevirtual 136, 3) := by decide +kernel
theorem d_Model_nested_17 : decode b_Model_nested 17 = .ok (.bipush 123, 2) := by decide +kernel
theorem d_Model_nested_19 : decode b_Model_nested 19 = .ok (.if_icmp .ne 36, 3) := by decide +kernel
theorem d_Model_nested_22 : decode b_Model_nested 22 = .ok (.aload_n 0, 1) := by decide +kernel
theorem d_Model_nested_23 : decode b_Model_nested 23 = .ok (.getfield 120, 3) := by decide +kernel
theorem d_Model_nested_26 : decode b_Model_nested 26 = .ok (.iconst 1, 1) := by decide +kernel
theorem d_Model_nested_27 : decode b_Model_nested 27 = .ok (.iadd, 1) := by decide +kernel
theorem d_Model_nested_28 : decode b_Model_nested 28 = .ok (.aload_n 0, 1) := by decide +kernel
theorem d_Model_nested_29 : decode b_Model_nested 29 = .ok (.getfield 110, 3) := by decide +kernel
theorem d_Model_nested_32 : decode b_Model_nested 32 = .ok (.if_icmp .ge 23, 3) := by decide +kernel
theorem d_Model_nested_35 : decode b_Model_nested 35 = .ok (.aload_n 0, 1) := by decide +kernel
theorem d_Model_nested_36 : decode b_Model_nested 36 = .ok (.getfield 7, 3) := by decide +kernel
theorem d_Model_nested_39 : decode b_Model_nested 39 = .ok (.aload_n 0, 1) := by decide +kernel
theorem d_Model_nested_40 : decode b_Model_nested 40 = .ok (.getfield 120, 3) := by decide +kernel
theorem d_Model_nested_43 : decode b_Model_nested 43 = .ok (.iconst 1, 1) := by decide +kernel
theorem d_Model_nested_44 : decode b_Model_nested 44 = .ok (.iadd, 1) := by decide +kernel
theorem d_Model_nested_45 : decode b_Model_nested 45 = .ok (.iaload, 1) := by decide +kernel
theorem d_Model_nested_46 : decode b_Model_nested 46 = .ok (.bipush 45, 2) := by decide +kernel
theorem d_Model_nested_48 : decode b_Model_nested 48 = .ok (.if_icmp .ne 7, 3) := by decide +kernel
theorem d_Model_nested_51 : decode b_Model_nested 51 = .ok (.iconst 1, 1) := by decide +kernel
theorem d_Model_nested_52 : decode b_Model_nested 52 = .ok (.goto 4, 3) := by decide +kernel
theorem d_Model_nested_55 : decode b_Model_nested 55 = .ok (.iconst 0, 1) := by decide +kernel
theorem d_Model_nested_56 : decode b_Model_nested 56 = .ok (.istore 4, 2) := by decide +kernel
theorem d_Model_nested_58 : decode b_Model_nested 58 = .ok (.aload_n 0, 1) := by decide +kernel
theorem d_Model_nested_59 : decode b_Model_nested 59 = .ok (.invokevirtual 136, 3) := by decide +kernel
theorem d_Model_nested_62 : decode b_Model_nested 62 = .ok (.bipush 45, 2) := by decide +kernel
theorem d_Model_nested_64 : decode b_Model_nested 64 = .ok (.if_icmp .ne 36, 3) := by decide +kernel
theorem d_Model_nested_67 : decode b_Model_nested 67 = .ok (.aload_n 0, 1) := by decide +kernel
theorem d_Model_nested_68 : decode b_Model_nested 68 = .ok (.getfield 120, 3) := by decide +kernel
theorem d_Model_nested_71 : decode b_Model_nested 71 = .ok (.iconst 1, 1) := by decide +kernel
theorem d_Model_nested_72 : decode b_Model_nested 72 = .ok (.iadd, 1) := by decide +kernel
theorem d_Model_nested_73 : decode b_Model_nested 73 = .ok (.aload_n 0, 1) := by decide +kernel
theorem d_Model_nested_74 : decode b_Model_nested 74 = .ok (.getfield 110, 3) := by decide +kernel
theorem d_Model_nested_77 : decode b_Model_nested 77 = .ok (.if_icmp .ge 23, 3) := by decide +kernel
theorem d_Model_nested_80 : decode b_Model_nested 80 = .ok (.aload_n 0, 1) := by decide +kernel
theorem d_Model_nested_81 : decode b_Model_nested 81 = .ok (.getfield 7, 3) := by decide +kernel
theorem d_Model_nested_84 : decode b_Model_nested 84 = .ok (.aload_n 0, 1) := by decide +kernel
theorem d_Model_nested_85 : decode b_Model_nested 85 = .ok (.getfield 120, 3) := by decide +kernel
theorem d_Model_nested_88 : decode b_Model_nested 88 = .ok (.iconst 1, 1) := by decide +kernel
theorem d_Model_nested_89 : decode b_Model_nested 89 = .ok (.iadd, 1) := by decide +kernel
theorem d_Model_nested_90 : decode b_Model_nested 90 = .ok (.iaload, 1) := by decide +kernel
theorem d_Model_nested_91 : decode b_Model_nested 91 = .ok (.bipush 125, 2) := by decide +kernel
theorem d_Model_nested_93 : decode b_Model_nested 93 = .ok (.if_icmp .ne 7, 3) := by decide +kernel
theorem d_Model_nested_96 : decode b_Model_nested 96 = .ok (.iconst 1, 1) := by decide +kernel
theorem d_Model_nested_97 : decode b_Model_nested 97 = .ok (.goto 4, 3) := by decide +kernel
theorem d_Model_nested_100 : decode b_Model_nested 100 = .ok (.iconst 0, 1) := by decide +kernel
theorem d_Model_nested_101 : decode b_Model_nested 101 = .ok (.istore 5, 2) := by decide +kernel
theorem d_Model_nested_103 : decode b_Model_nested 103 = .ok (.iload_n 2, 1) := by decide +kernel
theorem d_Model_nested_104 : decode b_Model_nested 104 = .ok (.iload 4, 2) := by decide +kernel
theorem d_Model_nested_106 : decode b_Model_nested 106 = .ok (.ifCond .eq 7, 3) := by decide +kernel
theorem d_Model_nested_109 : decode b_Model_nested 109 = .ok (.iconst 1, 1) := by decide +kernel
theorem d_Model_nested_110 : decode b_Model_nested 110 = .ok (.goto 13, 3) := by decide +kernel
theorem d_Model_nested_113 : decode b_Model_nested 113 = .ok (.iload 5, 2) := by decide +kernel
theorem d_Model_nested_115 : decode b_Model_nested 115 = .ok (.ifCond .eq 7, 3) := by decide +kernel
theorem d_Model_nested_118 : decode b_Model_nested 118 = .ok (.iconst (-1), 1) := by decide +kernel
theorem d_Model_nested_119 : decode b_Model_nested 119 = .ok (.goto 4, 3) := by decide +kernel
theorem d_Model_nested_122 : decode b_Model_nested 122 = .ok (.iconst 0, 1) := by decide +kernel
theorem d_Model_nested_123 : decode b_Model_nested 123 = .ok (.iadd, 1) := by decide +kernel
theorem d_Model_nested_124 : decode b_Model_nested 124 = .ok (.istore_n 2, 1) := by decide +kernel
theorem d_Model_nested_125 : decode b_Model_nested 125 = .ok (.aload_n 0, 1) := by decide +kernel
theorem d_Model_nested_126 : decode b_Model_nested 126 = .ok (.dup, 1) := by decide +kernel
theorem d_Model_nested_127 : decode b_Model_nested 127 = .ok (.getfield 120, 3) := by decide +kernel
theorem d_Model_nested_130 : decode b_Model_nested 130 = .ok (.iload 4, 2) := by decide +kernel
theorem d_Model_nested_132 : decode b_Model_nested 132 = .ok (.ifCond .ne 8, 3) := by decide +kernel
theorem d_Model_nested_135 : decode b_Model_nested 135 = .ok (.iload 5, 2) := by decide +kernel
theorem d_Model_nested_137 : decode b_Model_nested 137 = .ok (.ifCond .eq 7, 3) := by decide +kernel
theorem d_Model_nested_140 : decode b_Model_nested 140 = .ok (.iconst 2, 1) := by decide +kernel
theorem d_Model_nested_141 : decode b_Model_nested 141 = .ok (.goto 4, 3) := by decide +kernel
theorem d_Model_nested_144 : decode b_Model_nested 144 = .ok (.iconst 1, 1) := by decide +kernel
theorem d_Model_nested_145 : decode b_Model_nested 145 = .ok (.iadd, 1) := by decide +kernel
theorem d_Model_nested_146 : decode b_Model_nested 146 = .ok (.putfield 120, 3) := by decide +kernel
theorem d_Model_nested_149 : decode b_Model_nested 149 = .ok (.iload_n 2, 1) := by decide +kernel
theorem d_Model_nested_150 : decode b_Model_nested 150 = .ok (.ifCond .le 18, 3) := by decide +kernel
theorem d_Model_nested_153 : decode b_Model_nested 153 = .ok (.aload_n 0, 1) := by decide +kernel
theorem d_Model_nested_154 : decode b_Model_nested 154 = .ok (.getfield 120, 3) := by decide +kernel
theorem d_Model_nested_157 : decode b_Model_nested 157 = .ok (.aload_n 0, 1) := by decide +kernel
theorem d_Model_nested_158 : decode b_Model_nested 158 = .ok (.getfield 110, 3) := by decide +kernel
theorem d_Model_nested_161 : decode b_Model_nested 161 = .ok (.if_icmp .ge 7, 3) := by decide +kernel
theorem d_Model_nested_164 : decode b_Model_nested 164 = .ok (.iconst 1, 1) := by decide +kernel
theorem d_Model_nested_165 : decode b_Model_nested 165 = .ok (.goto 4, 3) := by decide +kernel
theorem d_Model_nested_168 : decode b_Model_nested 168 = .ok (.iconst 0, 1) := by decide +kernel
theorem d_Model_nested_169 : decode b_Model_nested 169 = .ok (.istore_n 3, 1) := by decide +kernel
theorem d_Model_nested_170 : decode b_Model_nested 170 = .ok (.goto (-161), 3) := by decide +kernel
theorem d_Model_nested_173 : decode b_Model_nested 173 = .ok (.iload_n 2, 1) := by decide +kernel
theorem d_Model_nested_174 : decode b_Model_nested 174 = .ok (.ifCond .le 9, 3) := by decide +kernel
theorem d_Model_nested_177 : decode b_Model_nested 177 = .ok (.aload_n 0, 1) := by decide +kernel
theorem d_Model_nested_178 : decode b_Model_nested 178 = .ok (.iconst 1, 1) := by decide +kernel
theorem d_Model_nested_179 : decode b_Model_nested 179 = .ok (.iload_n 1, 1) := by decide +kernel
theorem d_Model_nested_180 : decode b_Model_nested 180 = .ok (.invokevirtual 140, 3) := by decide +kernel
theorem d_Model_nested_183 : decode b_Model_nested 183 = .ok (.return_, 1) := by decide +kernel
theorem d_Model_packed_0 : decode b_Model_packed 0 = .ok (.lconst 0, 1) := by decide +kernel
theorem d_Model_packed_1 : decode b_Model_packed 1 = .ok (.lstore_n 2, 1) := by decide +kernel
theorem d_Model_packed_2 : decode b_Model_packed 2 = .ok (.iconst 0, 1) := by decide +kernel
theorem d_Model_packed_3 : decode b_Model_packed 3 = .ok (.istore 4, 2) := by decide +kernel
theorem d_Model_packed_5 : decode b_Model_packed 5 = .ok (.iload 4, 2) := by decide +kernel
theorem d_Model_packed_7 : decode b_Model_packed 7 = .ok (.iload_n 1, 1) := by decide +kernel
theorem d_Model_packed_8 : decode b_Model_packed 8 = .ok (.if_icmp .ge 38, 3) := by decide +kernel
theorem d_Model_packed_11 : decode b_Model_packed 11 = .ok (.iload 4, 2) := by decide +kernel
theorem d_Model_packed_13 : decode b_Model_packed 13 = .ok (.bipush 8, 2) := by decide +kernel
theorem d_Model_packed_15 : decode b_Model_packed 15 = .ok (.if_icmp .ge 31, 3) := by decide +kernel
theorem d_Model_packed_18 : decode b_Model_packed 18 = .ok (.lload_n 2, 1) := by decide +kernel
theorem d_Model_packed_19 : decode b_Model_packed 19 = .ok (.aload_n 0, 1) := by decide +kernel
theorem d_Model_packed_20 : decode b_Model_packed 20 = .ok (.getfield 7, 3) := by decide +kernel
theorem d_Model_packed_23 : decode b_Model_packed 23 = .ok (.aload_n 0, 1) := by decide +kernel
theorem d_Model_packed_24 : decode b_Model_packed 24 = .ok (.getfield 120, 3) := by decide +kernel
theorem d_Model_packed_27 : decode b_Model_packed 27 = .ok (.iload 4, 2) := by decide +kernel
theorem d_Model_packed_29 : decode b_Model_packed 29 = .ok (.iadd, 1) := by decide +kernel
theorem d_Model_packed_30 : decode b_Model_packed 30 = .ok (.iaload, 1) := by decide +kernel
theorem d_Model_packed_31 : decode b_Model_packed 31 = .ok (.i2l, 1) := by decide +kernel
theorem d_Model_packed_32 : decode b_Model_packed 32 = .ok (.bipush 8, 2) := by decide +kernel
theorem d_Model_packed_34 : decode b_Model_packed 34 = .ok (.iload 4, 2) := by decide +kernel
theorem d_Model_packed_36 : decode b_Model_packed 36 = .ok (.imul, 1) := by decide +kernel
theorem d_Model_packed_37 : decode b_Model_packed 37 = .ok (.lshl, 1) := by decide +kernel
theorem d_Model_packed_38 : decode b_Model_packed 38 = .ok (.lor, 1) := by decide +kernel
theorem d_Model_packed_39 : decode b_Model_packed 39 = .ok (.lstore_n 2, 1) := by decide +kernel
theorem d_Model_packed_40 : decode b_Model_packed 40 = .ok (.iinc 4 1, 3) := by decide +kernel
theorem d_Model_packed_43 : decode b_Model_packed 43 = .ok (.goto (-38), 3) := by decide +kernel
theorem d_Model_packed_46 : decode b_Model_packed 46 = .ok (.lload_n 2, 1) := by decide +kernel
theorem d_Model_packed_47 : decode b_Model_packed 47 = .ok (.lreturn, 1) := by decide +kernel
theorem d_Model_lexeme_0 : decode b_Model_lexeme 0 = .ok (.aload_n 0, 1) := by decide +kernel
theorem d_Model_lexeme_1 : decode b_Model_lexeme 1 = .ok (.getfield 144, 3) := by decide +kernel
theorem d_Model_lexeme_4 : decode b_Model_lexeme 4 = .ok (.bipush 90, 2) := by decide +kernel
theorem d_Model_lexeme_6 : decode b_Model_lexeme 6 = .ok (.if_icmp .ne 13, 3) := by decide +kernel
theorem d_Model_lexeme_9 : decode b_Model_lexeme 9 = .ok (.aload_n 0, 1) := by decide +kernel
theorem d_Model_lexeme_10 : decode b_Model_lexeme 10 = .ok (.iconst 2, 1) := by decide +kernel
theorem d_Model_lexeme_11 : decode b_Model_lexeme 11 = .ok (.aload_n 0, 1) := by decide +kernel
theorem d_Model_lexeme_12 : decode b_Model_lexeme 12 = .ok (.getfield 120, 3) := by decide +kernel
theorem d_Model_lexeme_15 : decode b_Model_lexeme 15 = .ok (.invokevirtual 140, 3) := by decide +kernel
theorem d_Model_lexeme_18 : decode b_Model_lexeme 18 = .ok (.return_, 1) := by decide +kernel
theorem d_Model_lexeme_19 : decode b_Model_lexeme 19 = .ok (.iload_n 2, 1) := by decide +kernel
theorem d_Model_lexeme_20 : decode b_Model_lexeme 20 = .ok (.iload_n 1, 1) := by decide +kernel
theorem d_Model_lexeme_21 : decode b_Model_lexeme 21 = .ok (.iconst 1, 1) := by decide +kernel
theorem d_Model_lexeme_22 : decode b_Model_lexeme 22 = .ok (.if_icmp .ne 8, 3) := by decide +kernel
theorem d_Model_lexeme_25 : decode b_Model_lexeme 25 = .ok (.bipush 9, 2) := by decide +kernel
theorem d_Model_lexeme_27 : decode b_Model_lexeme 27 = .ok (.goto 5, 3) := by decide +kernel
theorem d_Model_lexeme_30 : decode b_Model_lexeme 30 = .ok (.bipush 7, 2) := by decide +kernel
theorem d_Model_lexeme_32 : decode b_Model_lexeme 32 = .ok (.if_icmp .le 13, 3) := by decide +kernel
theorem d_Model_lexeme_35 : decode b_Model_lexeme 35 = .ok (.aload_n 0, 1) := by decide +kernel
theorem d_Model_lexeme_36 : decode b_Model_lexeme 36 = .ok (.iconst 1, 1) := by decide +kernel
theorem d_Model_lexeme_37 : decode b_Model_lexeme 37 = .ok (.aload_n 0, 1) := by decide +kernel
theorem d_Model_lexeme_38 : decode b_Model_lexeme 38 = .ok (.getfield 120, 3) := by decide +kernel
theorem d_Model_lexeme_41 : decode b_Model_lexeme 41 = .ok (.invokevirtual 140, 3) := by decide +kernel
theorem d_Model_lexeme_44 : decode b_Model_lexeme 44 = .ok (.return_, 1) := by decide +kernel
theorem d_Model_lexeme_45 : decode b_Model_lexeme 45 = .ok (.aload_n 0, 1) := by decide +kernel
theorem d_Model_lexeme_46 : decode b_Model_lexeme 46 = .ok (.getfield 120, 3) := by decide +kernel
theorem d_Model_lexeme_49 : decode b_Model_lexeme 49 = .ok (.istore_n 3, 1) := by decide +kernel
theorem d_Model_lexeme_50 : decode b_Model_lexeme 50 = .ok (.iload_n 3, 1) := by decide +kernel
theorem d_Model_lexeme_51 : decode b_Model_lexeme 51 = .ok (.ifCond .le 22, 3) := by decide +kernel
theorem d_Model_lexeme_54 : decode b_Model_lexeme 54 = .ok (.aload_n 0, 1) := by decide +kernel
theorem d_Model_lexeme_55 : decode b_Model_lexeme 55 = .ok (.getfield 7, 3) := by decide +kernel
theorem d_Model_lexeme_58 : decode b_Model_lexeme 58 = .ok (.iload_n 3, 1) := by decide +kernel
theorem d_Model_lexeme_59 : decode b_Model_lexeme 59 = .ok (.iconst 1, 1) := by decide +kernel
theorem d_Model_lexeme_60 : decode b_Model_lexeme 60 = .ok (.isub, 1) := by decide +kernel
theorem d_Model_lexeme_61 : decode b_Model_lexeme 61 = .ok (.iaload, 1) := by decide +kernel
theorem d_Model_lexeme_62 : decode b_Model_lexeme 62 = .ok (.bipush 10, 2) := by decide +kernel
theorem d_Model_lexeme_64 : decode b_Model_lexeme 64 = .ok (.if_icmp .eq 9, 3) := by decide +kernel
theorem d_Model_lexeme_67 : decode b_Model_lexeme 67 = .ok (.iinc 3 (-1), 3) := by decide +kernel
theorem d_Model_lexeme_70 : decode b_Model_lexeme 70 = .ok (.goto (-20), 3) := by decide +kernel
theorem d_Model_lexeme_73 : decode b_Model_lexeme 73 = .ok (.aload_n 0, 1) := by decide +kernel
theorem d_Model_lexeme_74 : decode b_Model_lexeme 74 = .ok (.iload_n 2, 1) := by decide +kernel
theorem d_Model_lexeme_75 : decode b_Model_lexeme 75 = .ok (.invokevirtual 147, 3) := by decide +kernel
theorem d_Model_lexeme_78 : decode b_Model_lexeme 78 = .ok (.lstore 4, 2) := by decide +kernel
theorem d_Model_lexeme_80 : decode b_Model_lexeme 80 = .ok (.iload_n 1, 1) := by decide +kernel
theorem d_Model_lexeme_81 : decode b_Model_lexeme 81 = .ok (.iconst 1, 1) := by decide +kernel
theorem d_Model_lexeme_82 : decode b_Model_lexeme 82 = .ok (.if_icmp .ne 47, 3) := by decide +kernel
theorem d_Model_lexeme_85 : decode b_Model_lexeme 85 = .ok (.lconst 0, 1) := by decide +kernel
theorem d_Model_lexeme_86 : decode b_Model_lexeme 86 = .ok (.lstore 4, 2) := by decide +kernel
theorem d_Model_lexeme_88 : decode b_Model_lexeme 88 = .ok (.iconst 0, 1) := by decide +kernel
theorem d_Model_lexeme_89 : decode b_Model_lexeme 89 = .ok (.istore 6, 2) := by decide +kernel
theorem d_Model_lexeme_91 : decode b_Model_lexeme 91 = .ok (.iload 6, 2) := by decide +kernel
theorem d_Model_lexeme_93 : decode b_Model_lexeme 93 = .ok (.iload_n 2, 1) := by decide +kernel
theorem d_Model_lexeme_94 : decode b_Model_lexeme 94 = .ok (.if_icmp .ge 35, 3) := by decide +kernel
theorem d_Model_lexeme_97 : decode b_Model_lexeme 97 = .ok (.ldc2_w 151, 3) := by decide +kernel
theorem d_Model_lexeme_100 : decode b_Model_lexeme 100 = .ok (.lload 4, 2) := by decide +kernel
theorem d_Model_lexeme_102 : decode b_Model_lexeme 102 = .ok (.lmul, 1) := by decide +kernel
theorem d_Model_lexeme_103 : decode b_Model_lexeme 103 = .ok (.aload_n 0, 1) := by decide +kernel
theorem d_Model_lexeme_104 : decode b_Model_lexeme 104 = .ok (.getfield 7, 3) := by decide +kernel
theorem d_Model_lexeme_107 : decode b_Model_lexeme 107 = .ok (.aload_n 0, 1) := by decide +kernel
theorem d_Model_lexeme_108 : decode b_Model_lexeme 108 = .ok (.getfield 120, 3) := by decide +kernel
theorem d_Model_lexeme_111 : decode b_Model_lexeme 111 = .ok (.iload 6, 2) := by decide +kernel
theorem d_Model_lexeme_113 : decode b_Model_lexeme 113 = .ok (.iadd, 1) := by decide +kernel
theorem d_Model_lexeme_114 : decode b_Model_lexeme 114 = .ok (.iaload, 1) := by decide +kernel
theorem d_Model_lexeme_115 : decode b_Model_lexeme 115 = .ok (.i2l, 1) := by decide +kernel
theorem d_Model_lexeme_116 : decode b_Model_lexeme 116 = .ok (.ladd, 1) := by decide +kernel
theorem d_Model_lexeme_117 : decode b_Model_lexeme 117 = .ok (.ldc2_w 153, 3) := by decide +kernel
theorem d_Model_lexeme_120 : decode b_Model_lexeme 120 = .ok (.lsub, 1) := by decide +kernel
theorem d_Model_lexeme_121 : decode b_Model_lexeme 121 = .ok (.lstore 4, 2) := by decide +kernel
theorem d_Model_lexeme_123 : decode b_Model_lexeme 123 = .ok (.iinc 6 1, 3) := by decide +kernel
theorem d_Model_lexeme_126 : decode b_Model_lexeme 126 = .ok (.goto (-35), 3) := by decide +kernel
theorem d_Model_lexeme_129 : decode b_Model_lexeme 129 = .ok (.aload_n 0, 1) := by decide +kernel
theorem d_Model_lexeme_130 : decode b_Model_lexeme 130 = .ok (.getfield 17, 3) := by decide +kernel
theorem d_Model_lexeme_133 : decode b_Model_lexeme 133 = .ok (.aload_n 0, 1) := by decide +kernel
theorem d_Model_lexeme_134 : decode b_Model_lexeme 134 = .ok (.getfield 144, 3) := by decide +kernel
theorem d_Model_lexeme_137 : decode b_Model_lexeme 137 = .ok (.iload_n 1, 1) := by decide +kernel
theorem d_Model_lexeme_138 : decode b_Model_lexeme 138 = .ok (.iastore, 1) := by decide +kernel
theorem d_Model_lexeme_139 : decode b_Model_lexeme 139 = .ok (.aload_n 0, 1) := by decide +kernel
theorem d_Model_lexeme_140 : decode b_Model_lexeme 140 = .ok (.getfield 20, 3) := by decide +kernel
theorem d_Model_lexeme_143 : decode b_Model_lexeme 143 = .ok (.aload_n 0, 1) := by decide +kernel
theorem d_Model_lexeme_144 : decode b_Model_lexeme 144 = .ok (.getfield 144, 3) := by decide +kernel
theorem d_Model_lexeme_147 : decode b_Model_lexeme 147 = .ok (.lload 4, 2) := by decide +kernel
theorem d_Model_lexeme_149 : decode b_Model_lexeme 149 = .ok (.lastore, 1) := by decide +kernel
theorem d_Model_lexeme_150 : decode b_Model_lexeme 150 = .ok (.aload_n 0, 1) := by decide +kernel
theorem d_Model_lexeme_151 : decode b_Model_lexeme 151 = .ok (.getfield 24, 3) := by decide +kernel
theorem d_Model_lexeme_154 : decode b_Model_lexeme 154 = .ok (.aload_n 0, 1) := by decide +kernel
theorem d_Model_lexeme_155 : decode b_Model_lexeme 155 = .ok (.getfield 144, 3) := by decide +kernel
theorem d_Model_lexeme_158 : decode b_Model_lexeme 158 = .ok (.aload_n 0, 1) := by decide +kernel
theorem d_Model_lexeme_159 : decode b_Model_lexeme 159 = .ok (.getfield 120, 3) := by decide +kernel
theorem d_Model_lexeme_162 : decode b_Model_lexeme 162 = .ok (.iastore, 1) := by decide +kernel
theorem d_Model_lexeme_163 : decode b_Model_lexeme 163 = .ok (.aload_n 0, 1) := by decide +kernel
theorem d_Model_lexeme_164 : decode b_Model_lexeme 164 = .ok (.getfield 27, 3) := by decide +kernel
theorem d_Model_lexeme_167 : decode b_Model_lexeme 167 = .ok (.aload_n 0, 1) := by decide +kernel
theorem d_Model_lexeme_168 : decode b_Model_lexeme 168 = .ok (.getfield 144, 3) := by decide +kernel
theorem d_Model_lexeme_171 : decode b_Model_lexeme 171 = .ok (.aload_n 0, 1) := by decide +kernel
theorem d_Model_lexeme_172 : decode b_Model_lexeme 172 = .ok (.getfield 120, 3) := by decide +kernel
theorem d_Model_lexeme_175 : decode b_Model_lexeme 175 = .ok (.iload_n 3, 1) := by decide +kernel
theorem d_Model_lexeme_176 : decode b_Model_lexeme 176 = .ok (.isub, 1) := by decide +kernel
theorem d_Model_lexeme_177 : decode b_Model_lexeme 177 = .ok (.iconst 1, 1) := by decide +kernel
theorem d_Model_lexeme_178 : decode b_Model_lexeme 178 = .ok (.iadd, 1) := by decide +kernel
theorem d_Model_lexeme_179 : decode b_Model_lexeme 179 = .ok (.iastore, 1) := by decide +kernel
theorem d_Model_lexeme_180 : decode b_Model_lexeme 180 = .ok (.aload_n 0, 1) := by decide +kernel
theorem d_Model_lexeme_181 : decode b_Model_lexeme 181 = .ok (.getfield 30, 3) := by decide +kernel
theorem d_Model_lexeme_184 : decode b_Model_lexeme 184 = .ok (.aload_n 0, 1) := by decide +kernel
theorem d_Model_lexeme_185 : decode b_Model_lexeme 185 = .ok (.getfield 144, 3) := by decide +kernel
theorem d_Model_lexeme_188 : decode b_Model_lexeme 188 = .ok (.aload_n 0, 1) := by decide +kernel
theorem d_Model_lexeme_189 : decode b_Model_lexeme 189 = .ok (.getfield 144, 3) := by decide +kernel
theorem d_Model_lexeme_192 : decode b_Model_lexeme 192 = .ok (.ifCond .eq 18, 3) := by decide +kernel
theorem d_Model_lexeme_195 : decode b_Model_lexeme 195 = .ok (.aload_n 0, 1) := by decide +kernel
theorem d_Model_lexeme_196 : decode b_Model_lexeme 196 = .ok (.getfield 24, 3) := by decide +kernel
theorem d_Model_lexeme_199 : decode b_Model_lexeme 199 = .ok (.aload_n 0, 1) := by decide +kernel
theorem d_Model_lexeme_200 : decode b_Model_lexeme 200 = .ok (.getfield 144, 3) := by decide +kernel
theorem d_Model_lexeme_203 : decode b_Model_lexeme 203 = .ok (.iconst 1, 1) := by decide +kernel
theorem d_Model_lexeme_204 : decode b_Model_lexeme 204 = .ok (.isub, 1) := by decide +kernel
theorem d_Model_lexeme_205 : decode b_Model_lexeme 205 = .ok (.iaload, 1) := by decide +kernel
theorem d_Model_lexeme_206 : decode b_Model_lexeme 206 = .ok (.iload_n 3, 1) := by decide +kernel
theorem d_Model_lexeme_207 : decode b_Model_lexeme 207 = .ok (.if_icmp .ge 7, 3) := by decide +kernel
theorem d_Model_lexeme_210 : decode b_Model_lexeme 210 = .ok (.iconst 1, 1) := by decide +kernel
theorem d_Model_lexeme_211 : decode b_Model_lexeme 211 = .ok (.goto 4, 3) := by decide +kernel
theorem d_Model_lexeme_214 : decode b_Model_lexeme 214 = .ok (.iconst 0, 1) := by decide +kernel
theorem d_Model_lexeme_215 : decode b_Model_lexeme 215 = .ok (.bastore, 1) := by decide +kernel
theorem d_Model_lexeme_216 : decode b_Model_lexeme 216 = .ok (.aload_n 0, 1) := by decide +kernel
theorem d_Model_lexeme_217 : decode b_Model_lexeme 217 = .ok (.dup, 1) := by decide +kernel
theorem d_Model_lexeme_218 : decode b_Model_lexeme 218 = .ok (.getfield 144, 3) := by decide +kernel
theorem d_Model_lexeme_221 : decode b_Model_lexeme 221 = .ok (.iconst 1, 1) := by decide +kernel
theorem d_Model_lexeme_222 : decode b_Model_lexeme 222 = .ok (.iadd, 1) := by decide +kernel
theorem d_Model_lexeme_223 : decode b_Model_lexeme 223 = .ok (.putfield 144, 3) := by decide +kernel
theorem d_Model_lexeme_226 : decode b_Model_lexeme 226 = .ok (.aload_n 0, 1) := by decide +kernel
theorem d_Model_lexeme_227 : decode b_Model_lexeme 227 = .ok (.dup, 1) := by decide +kernel
theorem d_Model_lexeme_228 : decode b_Model_lexeme 228 = .ok (.getfield 120, 3) := by decide +kernel
theorem d_Model_lexeme_231 : decode b_Model_lexeme 231 = .ok (.iload_n 2, 1) := by decide +kernel
theorem d_Model_lexeme_232 : decode b_Model_lexeme 232 = .ok (.iadd, 1) := by decide +kernel
theorem d_Model_lexeme_233 : decode b_Model_lexeme 233 = .ok (.putfield 120, 3) := by decide +kernel
theorem d_Model_lexeme_236 : decode b_Model_lexeme 236 = .ok (.return_, 1) := by decide +kernel
theorem d_Model_cut_0 : decode b_Model_cut 0 = .ok (.aload_n 0, 1) := by decide +kernel
theorem d_Model_cut_1 : decode b_Model_cut 1 = .ok (.iconst 0, 1) := by decide +kernel
theorem d_Model_cut_2 : decode b_Model_cut 2 = .ok (.putfield 120, 3) := by decide +kernel
theorem d_Model_cut_5 : decode b_Model_cut 5 = .ok (.aload_n 0, 1) := by decide +kernel
theorem d_Model_cut_6 : decode b_Model_cut 6 = .ok (.iconst 0, 1) := by decide +kernel
theorem d_Model_cut_7 : decode b_Model_cut 7 = .ok (.putfield 144, 3) := by decide +kernel
theorem d_Model_cut_10 : decode b_Model_cut 10 = .ok (.aload_n 0, 1) := by decide +kernel
theorem d_Model_cut_11 : decode b_Model_cut 11 = .ok (.getfield 120, 3) := by decide +kernel
theorem d_Model_cut_14 : decode b_Model_cut 14 = .ok (.aload_n 0, 1) := by decide +kernel
theorem d_Model_cut_15 : decode b_Model_cut 15 = .ok (.getfield 110, 3) := by decide +kernel
theorem d_Model_cut_18 : decode b_Model_cut 18 = .ok (.if_icmp .ge 227, 3) := by decide +kernel
theorem d_Model_cut_21 : decode b_Model_cut 21 = .ok (.aload_n 0, 1) := by decide +kernel
theorem d_Model_cut_22 : decode b_Model_cut 22 = .ok (.getfield 123, 3) := by decide +kernel
theorem d_Model_cut_25 : decode b_Model_cut 25 = .ok (.ifCond .ne 220, 3) := by decide +kernel
theorem d_Model_cut_28 : decode b_Model_cut 28 = .ok (.aload_n 0, 1) := by decide +kernel
theorem d_Model_cut_29 : decode b_Model_cut 29 = .ok (.invokevirtual 136, 3) := by decide +kernel
theorem d_Model_cut_32 : decode b_Model_cut 32 = .ok (.istore_n 1, 1) := by decide +kernel
theorem d_Model_cut_33 : decode b_Model_cut 33 = .ok (.iload_n 1, 1) := by decide +kernel
theorem d_Model_cut_34 : decode b_Model_cut 34 = .ok (.bipush 32, 2) := by decide +kernel
theorem d_Model_cut_36 : decode b_Model_cut 36 = .ok (.if_icmp .eq 9, 3) := by decide +kernel
theorem d_Model_cut_39 : decode b_Model_cut 39 = .ok (.iload_n 1, 1) := by decide +kernel
theorem d_Model_cut_40 : decode b_Model_cut 40 = .ok (.bipush 10, 2) := by decide +kernel
theorem d_Model_cut_42 : decode b_Model_cut 42 = .ok (.if_icmp .ne 16, 3) := by decide +kernel
theorem d_Model_cut_45 : decode b_Model_cut 45 = .ok (.aload_n 0, 1) := by decide +kernel
theorem d_Model_cut_46 : decode b_Model_cut 46 = .ok (.dup, 1) := by decide +kernel
theorem d_Model_cut_47 : decode b_Model_cut 47 = .ok (.getfield 120, 3) := by decide +kernel
theorem d_Model_cut_50 : decode b_Model_cut 50 = .ok (.iconst 1, 1) := by decide +kernel
theorem d_Model_cut_51 : decode b_Model_cut 51 = .ok (.iadd, 1) := by decide +kernel
theorem d_Model_cut_52 : decode b_Model_cut 52 = .ok (.putfield 120, 3) := by decide +kernel
theorem d_Model_cut_55 : decode b_Model_cut 55 = .ok (.goto 187, 3) := by decide +kernel
theorem d_Model_cut_58 : decode b_Model_cut 58 = .ok (.iload_n 1, 1) := by decide +kernel
theorem d_Model_cut_59 : decode b_Model_cut 59 = .ok (.bipush 123, 2) := by decide +kernel
theorem d_Model_cut_61 : decode b_Model_cut 61 = .ok (.if_icmp .ne 39, 3) := by decide +kernel
theorem d_Model_cut_64 : decode b_Model_cut 64 = .ok (.aload_n 0, 1) := by decide +kernel
theorem d_Model_cut_65 : decode b_Model_cut 65 = .ok (.getfield 120, 3) := by decide +kernel
theorem d_Model_cut_68 : decode b_Model_cut 68 = .ok (.iconst 1, 1) := by decide +kernel
theorem d_Model_cut_69 : decode b_Model_cut 69 = .ok (.iadd, 1) := by decide +kernel
theorem d_Model_cut_70 : decode b_Model_cut 70 = .ok (.aload_n 0, 1) := by decide +kernel
theorem d_Model_cut_71 : decode b_Model_cut 71 = .ok (.getfield 110, 3) := by decide +kernel
theorem d_Model_cut_74 : decode b_Model_cut 74 = .ok (.if_icmp .ge 26, 3) := by decide +kernel
theorem d_Model_cut_77 : decode b_Model_cut 77 = .ok (.aload_n 0, 1) := by decide +kernel
theorem d_Model_cut_78 : decode b_Model_cut 78 = .ok (.getfield 7, 3) := by decide +kernel
theorem d_Model_cut_81 : decode b_Model_cut 81 = .ok (.aload_n 0, 1) := by decide +kernel
theorem d_Model_cut_82 : decode b_Model_cut 82 = .ok (.getfield 120, 3) := by decide +kernel
theorem d_Model_cut_85 : decode b_Model_cut 85 = .ok (.iconst 1, 1) := by decide +kernel
theorem d_Model_cut_86 : decode b_Model_cut 86 = .ok (.iadd, 1) := by decide +kernel
theorem d_Model_cut_87 : decode b_Model_cut 87 = .ok (.iaload, 1) := by decide +kernel
theorem d_Model_cut_88 : decode b_Model_cut 88 = .ok (.bipush 45, 2) := by decide +kernel
theorem d_Model_cut_90 : decode b_Model_cut 90 = .ok (.if_icmp .ne 10, 3) := by decide +kernel
theorem d_Model_cut_93 : decode b_Model_cut 93 = .ok (.aload_n 0, 1) := by decide +kernel
theorem d_Model_cut_94 : decode b_Model_cut 94 = .ok (.invokevirtual 155, 3) := by decide +kernel
theorem d_Model_cut_97 : decode b_Model_cut 97 = .ok (.goto 145, 3) := by decide +kernel
theorem d_Model_cut_100 : decode b_Model_cut 100 = .ok (.iload_n 1, 1) := by decide +kernel
theorem d_Model_cut_101 : decode b_Model_cut 101 = .ok (.invokestatic 126, 3) := by decide +kernel
theorem d_Model_cut_104 : decode b_Model_cut 104 = .ok (.ifCond .eq 16, 3) := by decide +kernel
theorem d_Model_cut_107 : decode b_Model_cut 107 = .ok (.aload_n 0, 1) := by decide +kernel
theorem d_Model_cut_108 : decode b_Model_cut 108 = .ok (.iconst 0, 1) := by decide +kernel
theorem d_Model_cut_109 : decode b_Model_cut 109 = .ok (.aload_n 0, 1) := by decide +kernel
theorem d_Model_cut_110 : decode b_Model_cut 110 = .ok (.iconst 0, 1) := by decide +kernel
theorem d_Model_cut_111 : decode b_Model_cut 111 = .ok (.invokevirtual 158, 3) := by decide +kernel
theorem d_Model_cut_114 : decode b_Model_cut 114 = .ok (.invokevirtual 161, 3) := by decide +kernel
theorem d_Model_cut_117 : decode b_Model_cut 117 = .ok (.goto 125, 3) := by decide +kernel
theorem d_Model_cut_120 : decode b_Model_cut 120 = .ok (.iload_n 1, 1) := by decide +kernel
theorem d_Model_cut_121 : decode b_Model_cut 121 = .ok (.invokestatic 130, 3) := by decide +kernel
theorem d_Model_cut_124 : decode b_Model_cut 124 = .ok (.ifCond .eq 16, 3) := by decide +kernel
theorem d_Model_cut_127 : decode b_Model_cut 127 = .ok (.aload_n 0, 1) := by decide +kernel
theorem d_Model_cut_128 : decode b_Model_cut 128 = .ok (.iconst 1, 1) := by decide +kernel
theorem d_Model_cut_129 : decode b_Model_cut 129 = .ok (.aload_n 0, 1) := by decide +kernel
theorem d_Model_cut_130 : decode b_Model_cut 130 = .ok (.iconst 1, 1) := by decide +kernel
theorem d_Model_cut_131 : decode b_Model_cut 131 = .ok (.invokevirtual 158, 3) := by decide +kernel
theorem d_Model_cut_134 : decode b_Model_cut 134 = .ok (.invokevirtual 161, 3) := by decide +kernel
theorem d_Model_cut_137 : decode b_Model_cut 137 = .ok (.goto 105, 3) := by decide +kernel
theorem d_Model_cut_140 : decode b_Model_cut 140 = .ok (.iload_n 1, 1) := by decide +kernel
theorem d_Model_cut_141 : decode b_Model_cut 141 = .ok (.invokestatic 133, 3) := by decide +kernel
theorem d_Model_cut_144 : decode b_Model_cut 144 = .ok (.ifCond .eq 53, 3) := by decide +kernel
theorem d_Model_cut_147 : decode b_Model_cut 147 = .ok (.aload_n 0, 1) := by decide +kernel
theorem d_Model_cut_148 : decode b_Model_cut 148 = .ok (.aload_n 0, 1) := by decide +kernel
theorem d_Model_cut_149 : decode b_Model_cut 149 = .ok (.iconst 2, 1) := by decide +kernel
theorem d_Model_cut_150 : decode b_Model_cut 150 = .ok (.invokevirtual 158, 3) := by decide +kernel
theorem d_Model_cut_153 : decode b_Model_cut 153 = .ok (.invokevirtual 164, 3) := by decide +kernel
theorem d_Model_cut_156 : decode b_Model_cut 156 = .ok (.ifCond .eq 41, 3) := by decide +kernel
theorem d_Model_cut_159 : decode b_Model_cut 159 = .ok (.aload_n 0, 1) := by decide +kernel
theorem d_Model_cut_160 : decode b_Model_cut 160 = .ok (.getfield 120, 3) := by decide +kernel
theorem d_Model_cut_163 : decode b_Model_cut 163 = .ok (.aload_n 0, 1) := by decide +kernel
theorem d_Model_cut_164 : decode b_Model_cut 164 = .ok (.getfield 110, 3) := by decide +kernel
theorem d_Model_cut_167 : decode b_Model_cut 167 = .ok (.if_icmp .ge 75, 3) := by decide +kernel
theorem d_Model_cut_170 : decode b_Model_cut 170 = .ok (.aload_n 0, 1) := by decide +kernel
theorem d_Model_cut_171 : decode b_Model_cut 171 = .ok (.getfield 7, 3) := by decide +kernel
theorem d_Model_cut_174 : decode b_Model_cut 174 = .ok (.aload_n 0, 1) := by decide +kernel
theorem d_Model_cut_175 : decode b_Model_cut 175 = .ok (.getfield 120, 3) := by decide +kernel
theorem d_Model_cut_178 : decode b_Model_cut 178 = .ok (.iaload, 1) := by decide +kernel
theorem d_Model_cut_179 : decode b_Model_cut 179 = .ok (.bipush 10, 2) := by decide +kernel
theorem d_Model_cut_181 : decode b_Model_cut 181 = .ok (.if_icmp .eq 61, 3) := by decide +kernel
theorem d_Model_cut_184 : decode b_Model_cut 184 = .ok (.aload_n 0, 1) := by decide +kernel
theorem d_Model_cut_185 : decode b_Model_cut 185 = .ok (.dup, 1) := by decide +kernel
theorem d_Model_cut_186 : decode b_Model_cut 186 = .ok (.getfield 120, 3) := by decide +kernel
theorem d_Model_cut_189 : decode b_Model_cut 189 = .ok (.iconst 1, 1) := by decide +kernel
theorem d_Model_cut_190 : decode b_Model_cut 190 = .ok (.iadd, 1) := by decide +kernel
theorem d_Model_cut_191 : decode b_Model_cut 191 = .ok (.putfield 120, 3) := by decide +kernel
theorem d_Model_cut_194 : decode b_Model_cut 194 = .ok (.goto (-35), 3) := by decide +kernel
theorem d_Model_cut_197 : decode b_Model_cut 197 = .ok (.iload_n 1, 1) := by decide +kernel
theorem d_Model_cut_198 : decode b_Model_cut 198 = .ok (.invokestatic 133, 3) := by decide +kernel
theorem d_Model_cut_201 : decode b_Model_cut 201 = .ok (.ifCond .eq 16, 3) := by decide +kernel
theorem d_Model_cut_204 : decode b_Model_cut 204 = .ok (.aload_n 0, 1) := by decide +kernel
theorem d_Model_cut_205 : decode b_Model_cut 205 = .ok (.iconst 2, 1) := by decide +kernel
theorem d_Model_cut_206 : decode b_Model_cut 206 = .ok (.aload_n 0, 1) := by decide +kernel
theorem d_Model_cut_207 : decode b_Model_cut 207 = .ok (.iconst 2, 1) := by decide +kernel
theorem d_Model_cut_208 : decode b_Model_cut 208 = .ok (.invokevirtual 158, 3) := by decide +kernel
theorem d_Model_cut_211 : decode b_Model_cut 211 = .ok (.invokevirtual 161, 3) := by decide +kernel
theorem d_Model_cut_214 : decode b_Model_cut 214 = .ok (.goto 28, 3) := by decide +kernel
theorem d_Model_cut_217 : decode b_Model_cut 217 = .ok (.iload_n 1, 1) := by decide +kernel
theorem d_Model_cut_218 : decode b_Model_cut 218 = .ok (.invokestatic 167, 3) := by decide +kernel
theorem d_Model_cut_221 : decode b_Model_cut 221 = .ok (.ifCond .eq 12, 3) := by decide +kernel
theorem d_Model_cut_224 : decode b_Model_cut 224 = .ok (.aload_n 0, 1) := by decide +kernel
theorem d_Model_cut_225 : decode b_Model_cut 225 = .ok (.iconst 3, 1) := by decide +kernel
theorem d_Model_cut_226 : decode b_Model_cut 226 = .ok (.iconst 1, 1) := by decide +kernel
theorem d_Model_cut_227 : decode b_Model_cut 227 = .ok (.invokevirtual 161, 3) := by decide +kernel
theorem d_Model_cut_230 : decode b_Model_cut 230 = .ok (.goto 12, 3) := by decide +kernel
theorem d_Model_cut_233 : decode b_Model_cut 233 = .ok (.aload_n 0, 1) := by decide +kernel
theorem d_Model_cut_234 : decode b_Model_cut 234 = .ok (.iconst 1, 1) := by decide +kernel
theorem d_Model_cut_235 : decode b_Model_cut 235 = .ok (.aload_n 0, 1) := by decide +kernel
theorem d_Model_cut_236 : decode b_Model_cut 236 = .ok (.getfield 120, 3) := by decide +kernel
theorem d_Model_cut_239 : decode b_Model_cut 239 = .ok (.invokevirtual 140, 3) := by decide +kernel
theorem d_Model_cut_242 : decode b_Model_cut 242 = .ok (.goto (-232), 3) := by decide +kernel
theorem d_Model_cut_245 : decode b_Model_cut 245 = .ok (.return_, 1) := by decide +kernel
theorem d_Model_word_0 : decode b_Model_word 0 = .ok (.lload_n 0, 1) := by decide +kernel
theorem d_Model_word_1 : decode b_Model_word 1 = .ok (.ldc2_w 170, 3) := by decide +kernel
theorem d_Model_word_4 : decode b_Model_word 4 = .ok (.lcmp, 1) := by decide +kernel
theorem d_Model_word_5 : decode b_Model_word 5 = .ok (.ifCond .eq 67, 3) := by decide +kernel
theorem d_Model_word_8 : decode b_Model_word 8 = .ok (.lload_n 0, 1) := by decide +kernel
theorem d_Model_word_9 : decode b_Model_word 9 = .ok (.ldc2_w 172, 3) := by decide +kernel
theorem d_Model_word_12 : decode b_Model_word 12 = .ok (.lcmp, 1) := by decide +kernel
theorem d_Model_word_13 : decode b_Model_word 13 = .ok (.ifCond .eq 59, 3) := by decide +kernel
theorem d_Model_word_16 : decode b_Model_word 16 = .ok (.lload_n 0, 1) := by decide +kernel
theorem d_Model_word_17 : decode b_Model_word 17 = .ok (.ldc2_w 174, 3) := by decide +kernel
theorem d_Model_word_20 : decode b_Model_word 20 = .ok (.lcmp, 1) := by decide +kernel
theorem d_Model_word_21 : decode b_Model_word 21 = .ok (.ifCond .eq 51, 3) := by decide +kernel
theorem d_Model_word_24 : decode b_Model_word 24 = .ok (.lload_n 0, 1) := by decide +kernel
theorem d_Model_word_25 : decode b_Model_word 25 = .ok (.ldc2_w 176, 3) := by decide +kernel
theorem d_Model_word_28 : decode b_Model_word 28 = .ok (.lcmp, 1) := by decide +kernel
theorem d_Model_word_29 : decode b_Model_word 29 = .ok (.ifCond .eq 43, 3) := by decide +kernel
theorem d_Model_word_32 : decode b_Model_word 32 = .ok (.lload_n 0, 1) := by decide +kernel
theorem d_Model_word_33 : decode b_Model_word 33 = .ok (.ldc2_w 178, 3) := by decide +kernel
theorem d_Model_word_36 : decode b_Model_word 36 = .ok (.lcmp, 1) := by decide +kernel
theorem d_Model_word_37 : decode b_Model_word 37 = .ok (.ifCond .eq 35, 3) := by decide +kernel
theorem d_Model_word_40 : decode b_Model_word 40 = .ok (.lload_n 0, 1) := by decide +kernel
theorem d_Model_word_41 : decode b_Model_word 41 = .ok (.ldc2_w 180, 3) := by decide +kernel
theorem d_Model_word_44 : decode b_Model_word 44 = .ok (.lcmp, 1) := by decide +kernel
theorem d_Model_word_45 : decode b_Model_word 45 = .ok (.ifCond .eq 27, 3) := by decide +kernel
theorem d_Model_word_48 : decode b_Model_word 48 = .ok (.lload_n 0, 1) := by decide +kernel
theorem d_Model_word_49 : decode b_Model_word 49 = .ok (.ldc2_w 182, 3) := by decide +kernel
theorem d_Model_word_52 : decode b_Model_word 52 = .ok (.lcmp, 1) := by decide +kernel
theorem d_Model_word_53 : decode b_Model_word 53 = .ok (.ifCond .eq 19, 3) := by decide +kernel
theorem d_Model_word_56 : decode b_Model_word 56 = .ok (.lload_n 0, 1) := by decide +kernel
theorem d_Model_word_57 : decode b_Model_word 57 = .ok (.ldc2_w 184, 3) := by decide +kernel
theorem d_Model_word_60 : decode b_Model_word 60 = .ok (.lcmp, 1) := by decide +kernel
theorem d_Model_word_61 : decode b_Model_word 61 = .ok (.ifCond .eq 11, 3) := by decide +kernel
theorem d_Model_word_64 : decode b_Model_word 64 = .ok (.lload_n 0, 1) := by decide +kernel
theorem d_Model_word_65 : decode b_Model_word 65 = .ok (.ldc2_w 186, 3) := by decide +kernel
theorem d_Model_word_68 : decode b_Model_word 68 = .ok (.lcmp, 1) := by decide +kernel
theorem d_Model_word_69 : decode b_Model_word 69 = .ok (.ifCond .ne 7, 3) := by decide +kernel
theorem d_Model_word_72 : decode b_Model_word 72 = .ok (.iconst 1, 1) := by decide +kernel
theorem d_Model_word_73 : decode b_Model_word 73 = .ok (.goto 4, 3) := by decide +kernel
theorem d_Model_word_76 : decode b_Model_word 76 = .ok (.iconst 0, 1) := by decide +kernel
theorem d_Model_word_77 : decode b_Model_word 77 = .ok (.ireturn, 1) := by decide +kernel
theorem d_Model_emit_0 : decode b_Model_emit 0 = .ok (.aload_n 0, 1) := by decide +kernel
theorem d_Model_emit_1 : decode b_Model_emit 1 = .ok (.getfield 37, 3) := by decide +kernel
theorem d_Model_emit_4 : decode b_Model_emit 4 = .ok (.aload_n 0, 1) := by decide +kernel
theorem d_Model_emit_5 : decode b_Model_emit 5 = .ok (.getfield 188, 3) := by decide +kernel
theorem d_Model_emit_8 : decode b_Model_emit 8 = .ok (.iload_n 1, 1) := by decide +kernel
theorem d_Model_emit_9 : decode b_Model_emit 9 = .ok (.iastore, 1) := by decide +kernel
theorem d_Model_emit_10 : decode b_Model_emit 10 = .ok (.aload_n 0, 1) := by decide +kernel
theorem d_Model_emit_11 : decode b_Model_emit 11 = .ok (.getfield 40, 3) := by decide +kernel
theorem d_Model_emit_14 : decode b_Model_emit 14 = .ok (.aload_n 0, 1) := by decide +kernel
theorem d_Model_emit_15 : decode b_Model_emit 15 = .ok (.getfield 188, 3) := by decide +kernel
theorem d_Model_emit_18 : decode b_Model_emit 18 = .ok (.lload_n 2, 1) := by decide +kernel
theorem d_Model_emit_19 : decode b_Model_emit 19 = .ok (.lastore, 1) := by decide +kernel
theorem d_Model_emit_20 : decode b_Model_emit 20 = .ok (.aload_n 0, 1) := by decide +kernel
theorem d_Model_emit_21 : decode b_Model_emit 21 = .ok (.getfield 43, 3) := by decide +kernel
theorem d_Model_emit_24 : decode b_Model_emit 24 = .ok (.aload_n 0, 1) := by decide +kernel
theorem d_Model_emit_25 : decode b_Model_emit 25 = .ok (.getfield 188, 3) := by decide +kernel
theorem d_Model_emit_28 : decode b_Model_emit 28 = .ok (.iconst 0, 1) := by decide +kernel
theorem d_Model_emit_29 : decode b_Model_emit 29 = .ok (.iastore, 1) := by decide +kernel
theorem d_Model_emit_30 : decode b_Model_emit 30 = .ok (.aload_n 0, 1) := by decide +kernel
theorem d_Model_emit_31 : decode b_Model_emit 31 = .ok (.getfield 46, 3) := by decide +kernel
theorem d_Model_emit_34 : decode b_Model_emit 34 = .ok (.aload_n 0, 1) := by decide +kernel
theorem d_Model_emit_35 : decode b_Model_emit 35 = .ok (.getfield 188, 3) := by decide +kernel
theorem d_Model_emit_38 : decode b_Model_emit 38 = .ok (.iconst 0, 1) := by decide +kernel
theorem d_Model_emit_39 : decode b_Model_emit 39 = .ok (.iastore, 1) := by decide +kernel
theorem d_Model_emit_40 : decode b_Model_emit 40 = .ok (.aload_n 0, 1) := by decide +kernel
theorem d_Model_emit_41 : decode b_Model_emit 41 = .ok (.getfield 52, 3) := by decide +kernel
theorem d_Model_emit_44 : decode b_Model_emit 44 = .ok (.aload_n 0, 1) := by decide +kernel
theorem d_Model_emit_45 : decode b_Model_emit 45 = .ok (.getfield 188, 3) := by decide +kernel
theorem d_Model_emit_48 : decode b_Model_emit 48 = .ok (.iconst 0, 1) := by decide +kernel
theorem d_Model_emit_49 : decode b_Model_emit 49 = .ok (.bastore, 1) := by decide +kernel
theorem d_Model_emit_50 : decode b_Model_emit 50 = .ok (.aload_n 0, 1) := by decide +kernel
theorem d_Model_emit_51 : decode b_Model_emit 51 = .ok (.dup, 1) := by decide +kernel
theorem d_Model_emit_52 : decode b_Model_emit 52 = .ok (.getfield 188, 3) := by decide +kernel
theorem d_Model_emit_55 : decode b_Model_emit 55 = .ok (.iconst 1, 1) := by decide +kernel
theorem d_Model_emit_56 : decode b_Model_emit 56 = .ok (.iadd, 1) := by decide +kernel
theorem d_Model_emit_57 : decode b_Model_emit 57 = .ok (.putfield 188, 3) := by decide +kernel
theorem d_Model_emit_60 : decode b_Model_emit 60 = .ok (.return_, 1) := by decide +kernel
theorem d_Model_push_0 : decode b_Model_push 0 = .ok (.aload_n 0, 1) := by decide +kernel
theorem d_Model_push_1 : decode b_Model_push 1 = .ok (.getfield 34, 3) := by decide +kernel
theorem d_Model_push_4 : decode b_Model_push 4 = .ok (.aload_n 0, 1) := by decide +kernel
theorem d_Model_push_5 : decode b_Model_push 5 = .ok (.getfield 191, 3) := by decide +kernel
theorem d_Model_push_8 : decode b_Model_push 8 = .ok (.iload_n 1, 1) := by decide +kernel
theorem d_Model_push_9 : decode b_Model_push 9 = .ok (.iastore, 1) := by decide +kernel
theorem d_Model_push_10 : decode b_Model_push 10 = .ok (.aload_n 0, 1) := by decide +kernel
theorem d_Model_push_11 : decode b_Model_push 11 = .ok (.dup, 1) := by decide +kernel
theorem d_Model_push_12 : decode b_Model_push 12 = .ok (.getfield 191, 3) := by decide +kernel
theorem d_Model_push_15 : decode b_Model_push 15 = .ok (.iconst 1, 1) := by decide +kernel
theorem d_Model_push_16 : decode b_Model_push 16 = .ok (.iadd, 1) := by decide +kernel
theorem d_Model_push_17 : decode b_Model_push 17 = .ok (.putfield 191, 3) := by decide +kernel
theorem d_Model_push_20 : decode b_Model_push 20 = .ok (.aload_n 0, 1) := by decide +kernel
theorem d_Model_push_21 : decode b_Model_push 21 = .ok (.aload_n 0, 1) := by decide +kernel
theorem d_Model_push_22 : decode b_Model_push 22 = .ok (.getfield 191, 3) := by decide +kernel
theorem d_Model_push_25 : decode b_Model_push 25 = .ok (.aload_n 0, 1) := by decide +kernel
theorem d_Model_push_26 : decode b_Model_push 26 = .ok (.getfield 194, 3) := by decide +kernel
theorem d_Model_push_29 : decode b_Model_push 29 = .ok (.if_icmp .le 10, 3) := by decide +kernel
theorem d_Model_push_32 : decode b_Model_push 32 = .ok (.aload_n 0, 1) := by decide +kernel
theorem d_Model_push_33 : decode b_Model_push 33 = .ok (.getfield 191, 3) := by decide +kernel
theorem d_Model_push_36 : decode b_Model_push 36 = .ok (.goto 7, 3) := by decide +kernel
theorem d_Model_push_39 : decode b_Model_push 39 = .ok (.aload_n 0, 1) := by decide +kernel
theorem d_Model_push_40 : decode b_Model_push 40 = .ok (.getfield 194, 3) := by decide +kernel
theorem d_Model_push_43 : decode b_Model_push 43 = .ok (.putfield 194, 3) := by decide +kernel
theorem d_Model_push_46 : decode b_Model_push 46 = .ok (.return_, 1) := by decide +kernel
theorem d_Model_top_0 : decode b_Model_top 0 = .ok (.aload_n 0, 1) := by decide +kernel
theorem d_Model_top_1 : decode b_Model_top 1 = .ok (.getfield 191, 3) := by decide +kernel
theorem d_Model_top_4 : decode b_Model_top 4 = .ok (.ifCond .le 17, 3) := by decide +kernel
theorem d_Model_top_7 : decode b_Model_top 7 = .ok (.aload_n 0, 1) := by decide +kernel
theorem d_Model_top_8 : decode b_Model_top 8 = .ok (.getfield 34, 3) := by decide +kernel
theorem d_Model_top_11 : decode b_Model_top 11 = .ok (.aload_n 0, 1) := by decide +kernel
theorem d_Model_top_12 : decode b_Model_top 12 = .ok (.getfield 191, 3) := by decide +kernel
theorem d_Model_top_15 : decode b_Model_top 15 = .ok (.iconst 1, 1) := by decide +kernel
theorem d_Model_top_16 : decode b_Model_top 16 = .ok (.isub, 1) := by decide +kernel
theorem d_Model_top_17 : decode b_Model_top 17 = .ok (.iaload, 1) := by decide +kernel
theorem d_Model_top_18 : decode b_Model_top 18 = .ok (.goto 5, 3) := by decide +kernel
theorem d_Model_top_21 : decode b_Model_top 21 = .ok (.bipush (-11), 2) := by decide +kernel
theorem d_Model_top_23 : decode b_Model_top 23 = .ok (.ireturn, 1) := by decide +kernel
theorem d_Model_belowLets_0 : decode b_Model_belowLets 0 = .ok (.aload_n 0, 1) := by decide +kernel
theorem d_Model_belowLets_1 : decode b_Model_belowLets 1 = .ok (.getfield 191, 3) := by decide +kernel
theorem d_Model_belowLets_4 : decode b_Model_belowLets 4 = .ok (.iconst 1, 1) := by decide +kernel
theorem d_Model_belowLets_5 : decode b_Model_belowLets 5 = .ok (.isub, 1) := by decide +kernel
theorem d_Model_belowLets_6 : decode b_Model_belowLets 6 = .ok (.istore_n 1, 1) := by decide +kernel
theorem d_Model_belowLets_7 : decode b_Model_belowLets 7 = .ok (.iload_n 1, 1) := by decide +kernel
theorem d_Model_belowLets_8 : decode b_Model_belowLets 8 = .ok (.ifCond .lt 19, 3) := by decide +kernel
theorem d_Model_belowLets_11 : decode b_Model_belowLets 11 = .ok (.aload_n 0, 1) := by decide +kernel
theorem d_Model_belowLets_12 : decode b_Model_belowLets 12 = .ok (.getfield 34, 3) := by decide +kernel
theorem d_Model_belowLets_15 : decode b_Model_belowLets 15 = .ok (.iload_n 1, 1) := by decide +kernel
theorem d_Model_belowLets_16 : decode b_Model_belowLets 16 = .ok (.iaload, 1) := by decide +kernel
theorem d_Model_belowLets_17 : decode b_Model_belowLets 17 = .ok (.iconst (-1), 1) := by decide +kernel
theorem d_Model_belowLets_18 : decode b_Model_belowLets 18 = .ok (.if_icmp .ne 9, 3) := by decide +kernel
theorem d_Model_belowLets_21 : decode b_Model_belowLets 21 = .ok (.iinc 1 (-1), 3) := by decide +kernel
theorem d_Model_belowLets_24 : decode b_Model_belowLets 24 = .ok (.goto (-17), 3) := by decide +kernel
theorem d_Model_belowLets_27 : decode b_Model_belowLets 27 = .ok (.iload_n 1, 1) := by decide +kernel
theorem d_Model_belowLets_28 : decode b_Model_belowLets 28 = .ok (.ifCond .lt 12, 3) := by decide +kernel
theorem d_Model_belowLets_31 : decode b_Model_belowLets 31 = .ok (.aload_n 0, 1) := by decide +kernel
theorem d_Model_belowLets_32 : decode b_Model_belowLets 32 = .ok (.getfield 34, 3) := by decide +kernel
theorem d_Model_belowLets_35 : decode b_Model_belowLets 35 = .ok (.iload_n 1, 1) := by decide +kernel
theorem d_Model_belowLets_36 : decode b_Model_belowLets 36 = .ok (.iaload, 1) := by decide +kernel
theorem d_Model_belowLets_37 : decode b_Model_belowLets 37 = .ok (.goto 5, 3) := by decide +kernel
theorem d_Model_belowLets_40 : decode b_Model_belowLets 40 = .ok (.bipush (-11), 2) := by decide +kernel
theorem d_Model_belowLets_42 : decode b_Model_belowLets 42 = .ok (.ireturn, 1) := by decide +kernel
theorem d_Model_dropLets_0 : decode b_Model_dropLets 0 = .ok (.aload_n 0, 1) := by decide +kernel
theorem d_Model_dropLets_1 : decode b_Model_dropLets 1 = .ok (.invokevirtual 197, 3) := by decide +kernel
theorem d_Model_dropLets_4 : decode b_Model_dropLets 4 = .ok (.iconst (-1), 1) := by decide +kernel
theorem d_Model_dropLets_5 : decode b_Model_dropLets 5 = .ok (.if_icmp .ne 16, 3) := by decide +kernel
theorem d_Model_dropLets_8 : decode b_Model_dropLets 8 = .ok (.aload_n 0, 1) := by decide +kernel
theorem d_Model_dropLets_9 : decode b_Model_dropLets 9 = .ok (.dup, 1) := by decide +kernel
theorem d_Model_dropLets_10 : decode b_Model_dropLets 10 = .ok (.getfield 191, 3) := by decide +kernel
theorem d_Model_dropLets_13 : decode b_Model_dropLets 13 = .ok (.iconst 1, 1) := by decide +kernel
theorem d_Model_dropLets_14 : decode b_Model_dropLets 14 = .ok (.isub, 1) := by decide +kernel
theorem d_Model_dropLets_15 : decode b_Model_dropLets 15 = .ok (.putfield 191, 3) := by decide +kernel
theorem d_Model_dropLets_18 : decode b_Model_dropLets 18 = .ok (.goto (-18), 3) := by decide +kernel
theorem d_Model_dropLets_21 : decode b_Model_dropLets 21 = .ok (.return_, 1) := by decide +kernel
theorem d_Model_mark_0 : decode b_Model_mark 0 = .ok (.aload_n 0, 1) := by decide +kernel
theorem d_Model_mark_1 : decode b_Model_mark 1 = .ok (.invokevirtual 200, 3) := by decide +kernel
theorem d_Model_mark_4 : decode b_Model_mark 4 = .ok (.iload_n 1, 1) := by decide +kernel
theorem d_Model_mark_5 : decode b_Model_mark 5 = .ok (.if_icmp .le 28, 3) := by decide +kernel
theorem d_Model_mark_8 : decode b_Model_mark 8 = .ok (.aload_n 0, 1) := by decide +kernel
theorem d_Model_mark_9 : decode b_Model_mark 9 = .ok (.invokevirtual 203, 3) := by decide +kernel
theorem d_Model_mark_12 : decode b_Model_mark 12 = .ok (.aload_n 0, 1) := by decide +kernel
theorem d_Model_mark_13 : decode b_Model_mark 13 = .ok (.iconst 4, 1) := by decide +kernel
theorem d_Model_mark_14 : decode b_Model_mark 14 = .ok (.ldc2_w 206, 3) := by decide +kernel
theorem d_Model_mark_17 : decode b_Model_mark 17 = .ok (.invokevirtual 208, 3) := by decide +kernel
theorem d_Model_mark_20 : decode b_Model_mark 20 = .ok (.aload_n 0, 1) := by decide +kernel
theorem d_Model_mark_21 : decode b_Model_mark 21 = .ok (.dup, 1) := by decide +kernel
theorem d_Model_mark_22 : decode b_Model_mark 22 = .ok (.getfield 191, 3) := by decide +kernel
theorem d_Model_mark_25 : decode b_Model_mark 25 = .ok (.iconst 1, 1) := by decide +kernel
theorem d_Model_mark_26 : decode b_Model_mark 26 = .ok (.isub, 1) := by decide +kernel
theorem d_Model_mark_27 : decode b_Model_mark 27 = .ok (.putfield 191, 3) := by decide +kernel
theorem d_Model_mark_30 : decode b_Model_mark 30 = .ok (.goto (-30), 3) := by decide +kernel
theorem d_Model_mark_33 : decode b_Model_mark 33 = .ok (.aload_n 0, 1) := by decide +kernel
theorem d_Model_mark_34 : decode b_Model_mark 34 = .ok (.invokevirtual 200, 3) := by decide +kernel
theorem d_Model_mark_37 : decode b_Model_mark 37 = .ok (.iload_n 1, 1) := by decide +kernel
theorem d_Model_mark_38 : decode b_Model_mark 38 = .ok (.if_icmp .ne 15, 3) := by decide +kernel
theorem d_Model_mark_41 : decode b_Model_mark 41 = .ok (.aload_n 0, 1) := by decide +kernel
theorem d_Model_mark_42 : decode b_Model_mark 42 = .ok (.invokevirtual 203, 3) := by decide +kernel
theorem d_Model_mark_45 : decode b_Model_mark 45 = .ok (.aload_n 0, 1) := by decide +kernel
theorem d_Model_mark_46 : decode b_Model_mark 46 = .ok (.iconst 4, 1) := by decide +kernel
theorem d_Model_mark_47 : decode b_Model_mark 47 = .ok (.ldc2_w 212, 3) := by decide +kernel
theorem d_Model_mark_50 : decode b_Model_mark 50 = .ok (.invokevirtual 208, 3) := by decide +kernel
theorem d_Model_mark_53 : decode b_Model_mark 53 = .ok (.return_, 1) := by decide +kernel
theorem d_Model_leave_0 : decode b_Model_leave 0 = .ok (.aload_n 0, 1) := by decide +kernel
theorem d_Model_leave_1 : decode b_Model_leave 1 = .ok (.invokevirtual 197, 3) := by decide +kernel
theorem d_Model_leave_4 : decode b_Model_leave 4 = .ok (.ifCond .gt 15, 3) := by decide +kernel
theorem d_Model_leave_7 : decode b_Model_leave 7 = .ok (.iload_n 1, 1) := by decide +kernel
theorem d_Model_leave_8 : decode b_Model_leave 8 = .ok (.ifCond .eq 39, 3) := by decide +kernel
theorem d_Model_leave_11 : decode b_Model_leave 11 = .ok (.aload_n 0, 1) := by decide +kernel
theorem d_Model_leave_12 : decode b_Model_leave 12 = .ok (.invokevirtual 197, 3) := by decide +kernel
theorem d_Model_leave_15 : decode b_Model_leave 15 = .ok (.iconst (-1), 1) := by decide +kernel
theorem d_Model_leave_16 : decode b_Model_leave 16 = .ok (.if_icmp .ne 31, 3) := by decide +kernel
theorem d_Model_leave_19 : decode b_Model_leave 19 = .ok (.aload_n 0, 1) := by decide +kernel
theorem d_Model_leave_20 : decode b_Model_leave 20 = .ok (.invokevirtual 197, 3) := by decide +kernel
theorem d_Model_leave_23 : decode b_Model_leave 23 = .ok (.ifCond .le 11, 3) := by decide +kernel
theorem d_Model_leave_26 : decode b_Model_leave 26 = .ok (.aload_n 0, 1) := by decide +kernel
theorem d_Model_leave_27 : decode b_Model_leave 27 = .ok (.iconst 4, 1) := by decide +kernel
theorem d_Model_leave_28 : decode b_Model_leave 28 = .ok (.ldc2_w 206, 3) := by decide +kernel
theorem d_Model_leave_31 : decode b_Model_leave 31 = .ok (.invokevirtual 208, 3) := by decide +kernel
theorem d_Model_leave_34 : decode b_Model_leave 34 = .ok (.aload_n 0, 1) := by decide +kernel
theorem d_Model_leave_35 : decode b_Model_leave 35 = .ok (.dup, 1) := by decide +kernel
theorem d_Model_leave_36 : decode b_Model_leave 36 = .ok (.getfield 191, 3) := by decide +kernel
theorem d_Model_leave_39 : decode b_Model_leave 39 = .ok (.iconst 1, 1) := by decide +kernel
theorem d_Model_leave_40 : decode b_Model_leave 40 = .ok (.isub, 1) := by decide +kernel
theorem d_Model_leave_41 : decode b_Model_leave 41 = .ok (.putfield 191, 3) := by decide +kernel
theorem d_Model_leave_44 : decode b_Model_leave 44 = .ok (.goto (-44), 3) := by decide +kernel
theorem d_Model_leave_47 : decode b_Model_leave 47 = .ok (.return_, 1) := by decide +kernel
theorem d_Model_closes_0 : decode b_Model_closes 0 = .ok (.aload_n 0, 1) := by decide +kernel
theorem d_Model_closes_1 : decode b_Model_closes 1 = .ok (.iload_n 1, 1) := by decide +kernel
theorem d_Model_closes_2 : decode b_Model_closes 2 = .ok (.iconst (-1), 1) := by decide +kernel
theorem d_Model_closes_3 : decode b_Model_closes 3 = .ok (.if_icmp .eq 7, 3) := by decide +kernel
theorem d_Model_closes_6 : decode b_Model_closes 6 = .ok (.iconst 1, 1) := by decide +kernel
theorem d_Model_closes_7 : decode b_Model_closes 7 = .ok (.goto 4, 3) := by decide +kernel
theorem d_Model_closes_10 : decode b_Model_closes 10 = .ok (.iconst 0, 1) := by decide +kernel
theorem d_Model_closes_11 : decode b_Model_closes 11 = .ok (.invokevirtual 214, 3) := by decide +kernel
theorem d_Model_closes_14 : decode b_Model_closes 14 = .ok (.aload_n 0, 1) := by decide +kernel
theorem d_Model_closes_15 : decode b_Model_closes 15 = .ok (.invokevirtual 197, 3) := by decide +kernel
theorem d_Model_closes_18 : decode b_Model_closes 18 = .ok (.iload_n 1, 1) := by decide +kernel
theorem d_Model_closes_19 : decode b_Model_closes 19 = .ok (.if_icmp .eq 17, 3) := by decide +kernel
theorem d_Model_closes_22 : decode b_Model_closes 22 = .ok (.aload_n 0, 1) := by decide +kernel
theorem d_Model_closes_23 : decode b_Model_closes 23 = .ok (.iconst 1, 1) := by decide +kernel
theorem d_Model_closes_24 : decode b_Model_closes 24 = .ok (.aload_n 0, 1) := by decide +kernel
theorem d_Model_closes_25 : decode b_Model_closes 25 = .ok (.getfield 24, 3) := by decide +kernel
theorem d_Model_closes_28 : decode b_Model_closes 28 = .ok (.iload_n 3, 1) := by decide +kernel
theorem d_Model_closes_29 : decode b_Model_closes 29 = .ok (.iaload, 1) := by decide +kernel
theorem d_Model_closes_30 : decode b_Model_closes 30 = .ok (.invokevirtual 140, 3) := by decide +kernel
theorem d_Model_closes_33 : decode b_Model_closes 33 = .ok (.goto 13, 3) := by decide +kernel
theorem d_Model_closes_36 : decode b_Model_closes 36 = .ok (.aload_n 0, 1) := by decide +kernel
theorem d_Model_closes_37 : decode b_Model_closes 37 = .ok (.dup, 1) := by decide +kernel
theorem d_Model_closes_38 : decode b_Model_closes 38 = .ok (.getfield 191, 3) := by decide +kernel
theorem d_Model_closes_41 : decode b_Model_closes 41 = .ok (.iconst 1, 1) := by decide +kernel
theorem d_Model_closes_42 : decode b_Model_closes 42 = .ok (.isub, 1) := by decide +kernel
theorem d_Model_closes_43 : decode b_Model_closes 43 = .ok (.putfield 191, 3) := by decide +kernel
theorem d_Model_closes_46 : decode b_Model_closes 46 = .ok (.aload_n 0, 1) := by decide +kernel
theorem d_Model_closes_47 : decode b_Model_closes 47 = .ok (.getfield 123, 3) := by decide +kernel
theorem d_Model_closes_50 : decode b_Model_closes 50 = .ok (.ifCond .ne 12, 3) := by decide +kernel
theorem d_Model_closes_53 : decode b_Model_closes 53 = .ok (.iload_n 2, 1) := by decide +kernel
theorem d_Model_closes_54 : decode b_Model_closes 54 = .ok (.ifCond .eq 8, 3) := by decide +kernel
theorem d_Model_closes_57 : decode b_Model_closes 57 = .ok (.aload_n 0, 1) := by decide +kernel
theorem d_Model_closes_58 : decode b_Model_closes 58 = .ok (.iload_n 2, 1) := by decide +kernel
theorem d_Model_closes_59 : decode b_Model_closes 59 = .ok (.invokevirtual 218, 3) := by decide +kernel
theorem d_Model_closes_62 : decode b_Model_closes 62 = .ok (.return_, 1) := by decide +kernel
theorem d_Model_comma_0 : decode b_Model_comma 0 = .ok (.aload_n 0, 1) := by decide +kernel
theorem d_Model_comma_1 : decode b_Model_comma 1 = .ok (.getfield 191, 3) := by decide +kernel
theorem d_Model_comma_4 : decode b_Model_comma 4 = .ok (.iconst 1, 1) := by decide +kernel
theorem d_Model_comma_5 : decode b_Model_comma 5 = .ok (.isub, 1) := by decide +kernel
theorem d_Model_comma_6 : decode b_Model_comma 6 = .ok (.istore_n 1, 1) := by decide +kernel
theorem d_Model_comma_7 : decode b_Model_comma 7 = .ok (.iload_n 1, 1) := by decide +kernel
theorem d_Model_comma_8 : decode b_Model_comma 8 = .ok (.ifCond .lt 28, 3) := by decide +kernel
theorem d_Model_comma_11 : decode b_Model_comma 11 = .ok (.aload_n 0, 1) := by decide +kernel
theorem d_Model_comma_12 : decode b_Model_comma 12 = .ok (.getfield 34, 3) := by decide +kernel
theorem d_Model_comma_15 : decode b_Model_comma 15 = .ok (.iload_n 1, 1) := by decide +kernel
theorem d_Model_comma_16 : decode b_Model_comma 16 = .ok (.iaload, 1) := by decide +kernel
theorem d_Model_comma_17 : decode b_Model_comma 17 = .ok (.iconst (-1), 1) := by decide +kernel
theorem d_Model_comma_18 : decode b_Model_comma 18 = .ok (.if_icmp .eq 12, 3) := by decide +kernel
theorem d_Model_comma_21 : decode b_Model_comma 21 = .ok (.aload_n 0, 1) := by decide +kernel
theorem d_Model_comma_22 : decode b_Model_comma 22 = .ok (.getfield 34, 3) := by decide +kernel
theorem d_Model_comma_25 : decode b_Model_comma 25 = .ok (.iload_n 1, 1) := by decide +kernel
theorem d_Model_comma_26 : decode b_Model_comma 26 = .ok (.iaload, 1) := by decide +kernel
theorem d_Model_comma_27 : decode b_Model_comma 27 = .ok (.ifCond .le 9, 3) := by decide +kernel
theorem d_Model_comma_30 : decode b_Model_comma 30 = .ok (.iinc 1 (-1), 3) := by decide +kernel
theorem d_Model_comma_33 : decode b_Model_comma 33 = .ok (.goto (-26), 3) := by decide +kernel
theorem d_Model_comma_36 : decode b_Model_comma 36 = .ok (.iload_n 1, 1) := by decide +kernel
theorem d_Model_comma_37 : decode b_Model_comma 37 = .ok (.ifCond .lt 30, 3) := by decide +kernel
theorem d_Model_comma_40 : decode b_Model_comma 40 = .ok (.aload_n 0, 1) := by decide +kernel
theorem d_Model_comma_41 : decode b_Model_comma 41 = .ok (.getfield 34, 3) := by decide +kernel
theorem d_Model_comma_44 : decode b_Model_comma 44 = .ok (.iload_n 1, 1) := by decide +kernel
theorem d_Model_comma_45 : decode b_Model_comma 45 = .ok (.iaload, 1) := by decide +kernel
theorem d_Model_comma_46 : decode b_Model_comma 46 = .ok (.bipush (-5), 2) := by decide +kernel
theorem d_Model_comma_48 : decode b_Model_comma 48 = .ok (.if_icmp .eq 14, 3) := by decide +kernel
theorem d_Model_comma_51 : decode b_Model_comma 51 = .ok (.aload_n 0, 1) := by decide +kernel
theorem d_Model_comma_52 : decode b_Model_comma 52 = .ok (.getfield 34, 3) := by decide +kernel
theorem d_Model_comma_55 : decode b_Model_comma 55 = .ok (.iload_n 1, 1) := by decide +kernel
theorem d_Model_comma_56 : decode b_Model_comma 56 = .ok (.iaload, 1) := by decide +kernel
theorem d_Model_comma_57 : decode b_Model_comma 57 = .ok (.bipush (-6), 2) := by decide +kernel
theorem d_Model_comma_59 : decode b_Model_comma 59 = .ok (.if_icmp .ne 8, 3) := by decide +kernel
theorem d_Model_comma_62 : decode b_Model_comma 62 = .ok (.aload_n 0, 1) := by decide +kernel
theorem d_Model_comma_63 : decode b_Model_comma 63 = .ok (.iconst 1, 1) := by decide +kernel
theorem d_Model_comma_64 : decode b_Model_comma 64 = .ok (.invokevirtual 214, 3) := by decide +kernel
theorem d_Model_comma_67 : decode b_Model_comma 67 = .ok (.return_, 1) := by decide +kernel
theorem d_Model_signs_0 : decode b_Model_signs 0 = .ok (.lload_n 2, 1) := by decide +kernel
theorem d_Model_signs_1 : decode b_Model_signs 1 = .ok (.ldc2_w 222, 3) := by decide +kernel
theorem d_Model_signs_4 : decode b_Model_signs 4 = .ok (.lcmp, 1) := by decide +kernel
theorem d_Model_signs_5 : decode b_Model_signs 5 = .ok (.ifCond .ne 9, 3) := by decide +kernel
theorem d_Model_signs_8 : decode b_Model_signs 8 = .ok (.aload_n 0, 1) := by decide +kernel
theorem d_Model_signs_9 : decode b_Model_signs 9 = .ok (.bipush (-5), 2) := by decide +kernel
theorem d_Model_signs_11 : decode b_Model_signs 11 = .ok (.invokevirtual 218, 3) := by decide +kernel
theorem d_Model_signs_14 : decode b_Model_signs 14 = .ok (.lload_n 2, 1) := by decide +kernel
theorem d_Model_signs_15 : decode b_Model_signs 15 = .ok (.ldc2_w 224, 3) := by decide +kernel
theorem d_Model_signs_18 : decode b_Model_signs 18 = .ok (.lcmp, 1) := by decide +kernel
theorem d_Model_signs_19 : decode b_Model_signs 19 = .ok (.ifCond .ne 9, 3) := by decide +kernel
theorem d_Model_signs_22 : decode b_Model_signs 22 = .ok (.aload_n 0, 1) := by decide +kernel
theorem d_Model_signs_23 : decode b_Model_signs 23 = .ok (.bipush (-6), 2) := by decide +kernel
theorem d_Model_signs_25 : decode b_Model_signs 25 = .ok (.invokevirtual 218, 3) := by decide +kernel
theorem d_Model_signs_28 : decode b_Model_signs 28 = .ok (.lload_n 2, 1) := by decide +kernel
theorem d_Model_signs_29 : decode b_Model_signs 29 = .ok (.ldc2_w 226, 3) := by decide +kernel
theorem d_Model_signs_32 : decode b_Model_signs 32 = .ok (.lcmp, 1) := by decide +kernel
theorem d_Model_signs_33 : decode b_Model_signs 33 = .ok (.ifCond .ne 11, 3) := by decide +kernel
theorem d_Model_signs_36 : decode b_Model_signs 36 = .ok (.aload_n 0, 1) := by decide +kernel
theorem d_Model_signs_37 : decode b_Model_signs 37 = .ok (.bipush (-5), 2) := by decide +kernel
theorem d_Model_signs_39 : decode b_Model_signs 39 = .ok (.iconst 0, 1) := by decide +kernel
theorem d_Model_signs_40 : decode b_Model_signs 40 = .ok (.iload_n 1, 1) := by decide +kernel
theorem d_Model_signs_41 : decode b_Model_signs 41 = .ok (.invokevirtual 228, 3) := by decide +kernel
theorem d_Model_signs_44 : decode b_Model_signs 44 = .ok (.lload_n 2, 1) := by decide +kernel
theorem d_Model_signs_45 : decode b_Model_signs 45 = .ok (.ldc2_w 231, 3) := by decide +kernel
theorem d_Model_signs_48 : decode b_Model_signs 48 = .ok (.lcmp, 1) := by decide +kernel
theorem d_Model_signs_49 : decode b_Model_signs 49 = .ok (.ifCond .ne 11, 3) := by decide +kernel
theorem d_Model_signs_52 : decode b_Model_signs 52 = .ok (.aload_n 0, 1) := by decide +kernel
theorem d_Model_signs_53 : decode b_Model_signs 53 = .ok (.bipush (-6), 2) := by decide +kernel
theorem d_Model_signs_55 : decode b_Model_signs 55 = .ok (.iconst 0, 1) := by decide +kernel
theorem d_Model_signs_56 : decode b_Model_signs 56 = .ok (.iload_n 1, 1) := by decide +kernel
theorem d_Model_signs_57 : decode b_Model_signs 57 = .ok (.invokevirtual 228, 3) := by decide +kernel
theorem d_Model_signs_60 : decode b_Model_signs 60 = .ok (.lload_n 2, 1) := by decide +kernel
theorem d_Model_signs_61 : decode b_Model_signs 61 = .ok (.ldc2_w 233, 3) := by decide +kernel
theorem d_Model_signs_64 : decode b_Model_signs 64 = .ok (.lcmp, 1) := by decide +kernel
theorem d_Model_signs_65 : decode b_Model_signs 65 = .ok (.ifCond .ne 7, 3) := by decide +kernel
theorem d_Model_signs_68 : decode b_Model_signs 68 = .ok (.aload_n 0, 1) := by decide +kernel
theorem d_Model_signs_69 : decode b_Model_signs 69 = .ok (.invokevirtual 235, 3) := by decide +kernel
theorem d_Model_signs_72 : decode b_Model_signs 72 = .ok (.lload_n 2, 1) := by decide +kernel
theorem d_Model_signs_73 : decode b_Model_signs 73 = .ok (.ldc2_w 238, 3) := by decide +kernel
theorem d_Model_signs_76 : decode b_Model_signs 76 = .ok (.lcmp, 1) := by decide +kernel
theorem d_Model_signs_77 : decode b_Model_signs 77 = .ok (.ifCond .ne 8, 3) := by decide +kernel
theorem d_Model_signs_80 : decode b_Model_signs 80 = .ok (.aload_n 0, 1) := by decide +kernel
theorem d_Model_signs_81 : decode b_Model_signs 81 = .ok (.iconst 0, 1) := by decide +kernel
theorem d_Model_signs_82 : decode b_Model_signs 82 = .ok (.invokevirtual 218, 3) := by decide +kernel
theorem d_Model_signs_85 : decode b_Model_signs 85 = .ok (.lload_n 2, 1) := by decide +kernel
