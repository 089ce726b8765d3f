theorem d_Rows_matchBrackets_76 : decode b_Rows_matchBrackets 76 = .ok (.iload_n 2, 1) := by decide +kernel
theorem d_Rows_matchBrackets_77 : decode b_Rows_matchBrackets 77 = .ok (.iaload, 1) := by decide +kernel
theorem d_Rows_matchBrackets_78 : decode b_Rows_matchBrackets 78 = .ok (.iload_n 3, 1) := by decide +kernel
theorem d_Rows_matchBrackets_79 : decode b_Rows_matchBrackets 79 = .ok (.iastore, 1) := by decide +kernel
theorem d_Rows_matchBrackets_80 : decode b_Rows_matchBrackets 80 = .ok (.iinc 3 1, 3) := by decide +kernel
theorem d_Rows_matchBrackets_83 : decode b_Rows_matchBrackets 83 = .ok (.goto (-79), 3) := by decide +kernel
theorem d_Rows_matchBrackets_86 : decode b_Rows_matchBrackets 86 = .ok (.return_, 1) := by decide +kernel
theorem d_Rows_closerOf_0 : decode b_Rows_closerOf 0 = .ok (.iload_n 1, 1) := by decide +kernel
theorem d_Rows_closerOf_1 : decode b_Rows_closerOf 1 = .ok (.ifCond .lt 19, 3) := by decide +kernel
theorem d_Rows_closerOf_4 : decode b_Rows_closerOf 4 = .ok (.iload_n 1, 1) := by decide +kernel
theorem d_Rows_closerOf_5 : decode b_Rows_closerOf 5 = .ok (.sipush 362, 3) := by decide +kernel
theorem d_Rows_closerOf_8 : decode b_Rows_closerOf 8 = .ok (.if_icmp .ge 12, 3) := by decide +kernel
theorem d_Rows_closerOf_11 : decode b_Rows_closerOf 11 = .ok (.aload_n 0, 1) := by decide +kernel
theorem d_Rows_closerOf_12 : decode b_Rows_closerOf 12 = .ok (.getfield 9, 3) := by decide +kernel
theorem d_Rows_closerOf_15 : decode b_Rows_closerOf 15 = .ok (.iload_n 1, 1) := by decide +kernel
theorem d_Rows_closerOf_16 : decode b_Rows_closerOf 16 = .ok (.iaload, 1) := by decide +kernel
theorem d_Rows_closerOf_17 : decode b_Rows_closerOf 17 = .ok (.goto 4, 3) := by decide +kernel
theorem d_Rows_closerOf_20 : decode b_Rows_closerOf 20 = .ok (.iload_n 1, 1) := by decide +kernel
theorem d_Rows_closerOf_21 : decode b_Rows_closerOf 21 = .ok (.ireturn, 1) := by decide +kernel
theorem d_Rows_putLevelTogether_0 : decode b_Rows_putLevelTogether 0 = .ok (.iload_n 2, 1) := by decide +kernel
theorem d_Rows_putLevelTogether_1 : decode b_Rows_putLevelTogether 1 = .ok (.istore 5, 2) := by decide +kernel
theorem d_Rows_putLevelTogether_3 : decode b_Rows_putLevelTogether 3 = .ok (.iload_n 2, 1) := by decide +kernel
theorem d_Rows_putLevelTogether_4 : decode b_Rows_putLevelTogether 4 = .ok (.istore 6, 2) := by decide +kernel
theorem d_Rows_putLevelTogether_6 : decode b_Rows_putLevelTogether 6 = .ok (.iload 6, 2) := by decide +kernel
theorem d_Rows_putLevelTogether_8 : decode b_Rows_putLevelTogether 8 = .ok (.iload_n 3, 1) := by decide +kernel
theorem d_Rows_putLevelTogether_9 : decode b_Rows_putLevelTogether 9 = .ok (.if_icmp .ge 44, 3) := by decide +kernel
theorem d_Rows_putLevelTogether_12 : decode b_Rows_putLevelTogether 12 = .ok (.iload 5, 2) := by decide +kernel
theorem d_Rows_putLevelTogether_14 : decode b_Rows_putLevelTogether 14 = .ok (.iload_n 3, 1) := by decide +kernel
theorem d_Rows_putLevelTogether_15 : decode b_Rows_putLevelTogether 15 = .ok (.if_icmp .ge 38, 3) := by decide +kernel
theorem d_Rows_putLevelTogether_18 : decode b_Rows_putLevelTogether 18 = .ok (.aload_n 0, 1) := by decide +kernel
theorem d_Rows_putLevelTogether_19 : decode b_Rows_putLevelTogether 19 = .ok (.aload_n 1, 1) := by decide +kernel
theorem d_Rows_putLevelTogether_20 : decode b_Rows_putLevelTogether 20 = .ok (.iload 5, 2) := by decide +kernel
theorem d_Rows_putLevelTogether_22 : decode b_Rows_putLevelTogether 22 = .ok (.iload_n 3, 1) := by decide +kernel
theorem d_Rows_putLevelTogether_23 : decode b_Rows_putLevelTogether 23 = .ok (.invokevirtual 96, 3) := by decide +kernel
theorem d_Rows_putLevelTogether_26 : decode b_Rows_putLevelTogether 26 = .ok (.iconst 1, 1) := by decide +kernel
theorem d_Rows_putLevelTogether_27 : decode b_Rows_putLevelTogether 27 = .ok (.iadd, 1) := by decide +kernel
theorem d_Rows_putLevelTogether_28 : decode b_Rows_putLevelTogether 28 = .ok (.istore 5, 2) := by decide +kernel
theorem d_Rows_putLevelTogether_30 : decode b_Rows_putLevelTogether 30 = .ok (.aload_n 0, 1) := by decide +kernel
theorem d_Rows_putLevelTogether_31 : decode b_Rows_putLevelTogether 31 = .ok (.getfield 27, 3) := by decide +kernel
theorem d_Rows_putLevelTogether_34 : decode b_Rows_putLevelTogether 34 = .ok (.invokevirtual 100, 3) := by decide +kernel
theorem d_Rows_putLevelTogether_37 : decode b_Rows_putLevelTogether 37 = .ok (.ifCond .eq 10, 3) := by decide +kernel
theorem d_Rows_putLevelTogether_40 : decode b_Rows_putLevelTogether 40 = .ok (.aload_n 0, 1) := by decide +kernel
theorem d_Rows_putLevelTogether_41 : decode b_Rows_putLevelTogether 41 = .ok (.aload_n 1, 1) := by decide +kernel
theorem d_Rows_putLevelTogether_42 : decode b_Rows_putLevelTogether 42 = .ok (.aload 4, 2) := by decide +kernel
theorem d_Rows_putLevelTogether_44 : decode b_Rows_putLevelTogether 44 = .ok (.invokevirtual 104, 3) := by decide +kernel
theorem d_Rows_putLevelTogether_47 : decode b_Rows_putLevelTogether 47 = .ok (.iinc 6 1, 3) := by decide +kernel
theorem d_Rows_putLevelTogether_50 : decode b_Rows_putLevelTogether 50 = .ok (.goto (-44), 3) := by decide +kernel
theorem d_Rows_putLevelTogether_53 : decode b_Rows_putLevelTogether 53 = .ok (.return_, 1) := by decide +kernel
theorem d_Rows_collectRow_0 : decode b_Rows_collectRow 0 = .ok (.aload_n 0, 1) := by decide +kernel
theorem d_Rows_collectRow_1 : decode b_Rows_collectRow 1 = .ok (.getfield 27, 3) := by decide +kernel
theorem d_Rows_collectRow_4 : decode b_Rows_collectRow 4 = .ok (.invokevirtual 108, 3) := by decide +kernel
theorem d_Rows_collectRow_7 : decode b_Rows_collectRow 7 = .ok (.iload_n 2, 1) := by decide +kernel
theorem d_Rows_collectRow_8 : decode b_Rows_collectRow 8 = .ok (.istore 4, 2) := by decide +kernel
theorem d_Rows_collectRow_10 : decode b_Rows_collectRow 10 = .ok (.iload_n 2, 1) := by decide +kernel
theorem d_Rows_collectRow_11 : decode b_Rows_collectRow 11 = .ok (.istore 5, 2) := by decide +kernel
theorem d_Rows_collectRow_13 : decode b_Rows_collectRow 13 = .ok (.iload 5, 2) := by decide +kernel
theorem d_Rows_collectRow_15 : decode b_Rows_collectRow 15 = .ok (.iload_n 3, 1) := by decide +kernel
theorem d_Rows_collectRow_16 : decode b_Rows_collectRow 16 = .ok (.if_icmp .ge 102, 3) := by decide +kernel
theorem d_Rows_collectRow_19 : decode b_Rows_collectRow 19 = .ok (.iload 4, 2) := by decide +kernel
theorem d_Rows_collectRow_21 : decode b_Rows_collectRow 21 = .ok (.iload_n 3, 1) := by decide +kernel
theorem d_Rows_collectRow_22 : decode b_Rows_collectRow 22 = .ok (.if_icmp .ge 96, 3) := by decide +kernel
theorem d_Rows_collectRow_25 : decode b_Rows_collectRow 25 = .ok (.aload_n 0, 1) := by decide +kernel
theorem d_Rows_collectRow_26 : decode b_Rows_collectRow 26 = .ok (.aload_n 1, 1) := by decide +kernel
theorem d_Rows_collectRow_27 : decode b_Rows_collectRow 27 = .ok (.iload 4, 2) := by decide +kernel
theorem d_Rows_collectRow_29 : decode b_Rows_collectRow 29 = .ok (.invokevirtual 109, 3) := by decide +kernel
theorem d_Rows_collectRow_32 : decode b_Rows_collectRow 32 = .ok (.istore 6, 2) := by decide +kernel
theorem d_Rows_collectRow_34 : decode b_Rows_collectRow 34 = .ok (.aload_n 1, 1) := by decide +kernel
theorem d_Rows_collectRow_35 : decode b_Rows_collectRow 35 = .ok (.iload 4, 2) := by decide +kernel
theorem d_Rows_collectRow_37 : decode b_Rows_collectRow 37 = .ok (.invokestatic 113, 3) := by decide +kernel
theorem d_Rows_collectRow_40 : decode b_Rows_collectRow 40 = .ok (.istore 7, 2) := by decide +kernel
theorem d_Rows_collectRow_42 : decode b_Rows_collectRow 42 = .ok (.iload 6, 2) := by decide +kernel
theorem d_Rows_collectRow_44 : decode b_Rows_collectRow 44 = .ok (.iload 4, 2) := by decide +kernel
theorem d_Rows_collectRow_46 : decode b_Rows_collectRow 46 = .ok (.if_icmp .le 19, 3) := by decide +kernel
theorem d_Rows_collectRow_49 : decode b_Rows_collectRow 49 = .ok (.aload_n 0, 1) := by decide +kernel
theorem d_Rows_collectRow_50 : decode b_Rows_collectRow 50 = .ok (.getfield 27, 3) := by decide +kernel
theorem d_Rows_collectRow_53 : decode b_Rows_collectRow 53 = .ok (.iload 4, 2) := by decide +kernel
theorem d_Rows_collectRow_55 : decode b_Rows_collectRow 55 = .ok (.iload 6, 2) := by decide +kernel
theorem d_Rows_collectRow_57 : decode b_Rows_collectRow 57 = .ok (.iconst 1, 1) := by decide +kernel
theorem d_Rows_collectRow_58 : decode b_Rows_collectRow 58 = .ok (.isub, 1) := by decide +kernel
theorem d_Rows_collectRow_59 : decode b_Rows_collectRow 59 = .ok (.invokevirtual 116, 3) := by decide +kernel
theorem d_Rows_collectRow_62 : decode b_Rows_collectRow 62 = .ok (.goto 41, 3) := by decide +kernel
theorem d_Rows_collectRow_65 : decode b_Rows_collectRow 65 = .ok (.iload 7, 2) := by decide +kernel
theorem d_Rows_collectRow_67 : decode b_Rows_collectRow 67 = .ok (.iload 4, 2) := by decide +kernel
theorem d_Rows_collectRow_69 : decode b_Rows_collectRow 69 = .ok (.if_icmp .le 49, 3) := by decide +kernel
theorem d_Rows_collectRow_72 : decode b_Rows_collectRow 72 = .ok (.aload_n 0, 1) := by decide +kernel
theorem d_Rows_collectRow_73 : decode b_Rows_collectRow 73 = .ok (.getfield 27, 3) := by decide +kernel
theorem d_Rows_collectRow_76 : decode b_Rows_collectRow 76 = .ok (.iload 4, 2) := by decide +kernel
theorem d_Rows_collectRow_78 : decode b_Rows_collectRow 78 = .ok (.iload 7, 2) := by decide +kernel
theorem d_Rows_collectRow_80 : decode b_Rows_collectRow 80 = .ok (.iconst 1, 1) := by decide +kernel
theorem d_Rows_collectRow_81 : decode b_Rows_collectRow 81 = .ok (.isub, 1) := by decide +kernel
theorem d_Rows_collectRow_82 : decode b_Rows_collectRow 82 = .ok (.aload_n 1, 1) := by decide +kernel
theorem d_Rows_collectRow_83 : decode b_Rows_collectRow 83 = .ok (.iload 4, 2) := by decide +kernel
theorem d_Rows_collectRow_85 : decode b_Rows_collectRow 85 = .ok (.invokevirtual 83, 3) := by decide +kernel
theorem d_Rows_collectRow_88 : decode b_Rows_collectRow 88 = .ok (.ldc2_w 120, 3) := by decide +kernel
theorem d_Rows_collectRow_91 : decode b_Rows_collectRow 91 = .ok (.lcmp, 1) := by decide +kernel
theorem d_Rows_collectRow_92 : decode b_Rows_collectRow 92 = .ok (.ifCond .ne 7, 3) := by decide +kernel
theorem d_Rows_collectRow_95 : decode b_Rows_collectRow 95 = .ok (.iconst 1, 1) := by decide +kernel
theorem d_Rows_collectRow_96 : decode b_Rows_collectRow 96 = .ok (.goto 4, 3) := by decide +kernel
theorem d_Rows_collectRow_99 : decode b_Rows_collectRow 99 = .ok (.iconst 0, 1) := by decide +kernel
theorem d_Rows_collectRow_100 : decode b_Rows_collectRow 100 = .ok (.invokevirtual 122, 3) := by decide +kernel
theorem d_Rows_collectRow_103 : decode b_Rows_collectRow 103 = .ok (.iload 6, 2) := by decide +kernel
theorem d_Rows_collectRow_105 : decode b_Rows_collectRow 105 = .ok (.iload 7, 2) := by decide +kernel
theorem d_Rows_collectRow_107 : decode b_Rows_collectRow 107 = .ok (.invokestatic 126, 3) := by decide +kernel
theorem d_Rows_collectRow_110 : decode b_Rows_collectRow 110 = .ok (.istore 4, 2) := by decide +kernel
theorem d_Rows_collectRow_112 : decode b_Rows_collectRow 112 = .ok (.iinc 5 1, 3) := by decide +kernel
theorem d_Rows_collectRow_115 : decode b_Rows_collectRow 115 = .ok (.goto (-102), 3) := by decide +kernel
theorem d_Rows_collectRow_118 : decode b_Rows_collectRow 118 = .ok (.iload 4, 2) := by decide +kernel
theorem d_Rows_collectRow_120 : decode b_Rows_collectRow 120 = .ok (.ireturn, 1) := by decide +kernel
theorem d_Rows_behindOperand_0 : decode b_Rows_behindOperand 0 = .ok (.aload_n 1, 1) := by decide +kernel
theorem d_Rows_behindOperand_1 : decode b_Rows_behindOperand 1 = .ok (.iload_n 2, 1) := by decide +kernel
theorem d_Rows_behindOperand_2 : decode b_Rows_behindOperand 2 = .ok (.invokevirtual 62, 3) := by decide +kernel
theorem d_Rows_behindOperand_5 : decode b_Rows_behindOperand 5 = .ok (.ifCond .eq 11, 3) := by decide +kernel
theorem d_Rows_behindOperand_8 : decode b_Rows_behindOperand 8 = .ok (.aload_n 0, 1) := by decide +kernel
theorem d_Rows_behindOperand_9 : decode b_Rows_behindOperand 9 = .ok (.iload_n 2, 1) := by decide +kernel
theorem d_Rows_behindOperand_10 : decode b_Rows_behindOperand 10 = .ok (.invokevirtual 66, 3) := by decide +kernel
theorem d_Rows_behindOperand_13 : decode b_Rows_behindOperand 13 = .ok (.iconst 1, 1) := by decide +kernel
theorem d_Rows_behindOperand_14 : decode b_Rows_behindOperand 14 = .ok (.iadd, 1) := by decide +kernel
theorem d_Rows_behindOperand_15 : decode b_Rows_behindOperand 15 = .ok (.ireturn, 1) := by decide +kernel
theorem d_Rows_behindOperand_16 : decode b_Rows_behindOperand 16 = .ok (.aload_n 1, 1) := by decide +kernel
theorem d_Rows_behindOperand_17 : decode b_Rows_behindOperand 17 = .ok (.iload_n 2, 1) := by decide +kernel
theorem d_Rows_behindOperand_18 : decode b_Rows_behindOperand 18 = .ok (.invokevirtual 132, 3) := by decide +kernel
theorem d_Rows_behindOperand_21 : decode b_Rows_behindOperand 21 = .ok (.ifCond .ne 12, 3) := by decide +kernel
theorem d_Rows_behindOperand_24 : decode b_Rows_behindOperand 24 = .ok (.aload_n 1, 1) := by decide +kernel
theorem d_Rows_behindOperand_25 : decode b_Rows_behindOperand 25 = .ok (.iload_n 2, 1) := by decide +kernel
theorem d_Rows_behindOperand_26 : decode b_Rows_behindOperand 26 = .ok (.invokevirtual 80, 3) := by decide +kernel
theorem d_Rows_behindOperand_29 : decode b_Rows_behindOperand 29 = .ok (.iconst 1, 1) := by decide +kernel
theorem d_Rows_behindOperand_30 : decode b_Rows_behindOperand 30 = .ok (.if_icmp .ne 9, 3) := by decide +kernel
theorem d_Rows_behindOperand_33 : decode b_Rows_behindOperand 33 = .ok (.iload_n 2, 1) := by decide +kernel
theorem d_Rows_behindOperand_34 : decode b_Rows_behindOperand 34 = .ok (.iconst 1, 1) := by decide +kernel
theorem d_Rows_behindOperand_35 : decode b_Rows_behindOperand 35 = .ok (.iadd, 1) := by decide +kernel
theorem d_Rows_behindOperand_36 : decode b_Rows_behindOperand 36 = .ok (.goto 4, 3) := by decide +kernel
theorem d_Rows_behindOperand_39 : decode b_Rows_behindOperand 39 = .ok (.iload_n 2, 1) := by decide +kernel
theorem d_Rows_behindOperand_40 : decode b_Rows_behindOperand 40 = .ok (.ireturn, 1) := by decide +kernel
theorem d_Rows_behindOperation_0 : decode b_Rows_behindOperation 0 = .ok (.aload_n 0, 1) := by decide +kernel
theorem d_Rows_behindOperation_1 : decode b_Rows_behindOperation 1 = .ok (.iload_n 1, 1) := by decide +kernel
theorem d_Rows_behindOperation_2 : decode b_Rows_behindOperation 2 = .ok (.bipush 96, 2) := by decide +kernel
theorem d_Rows_behindOperation_4 : decode b_Rows_behindOperation 4 = .ok (.invokevirtual 135, 3) := by decide +kernel
theorem d_Rows_behindOperation_7 : decode b_Rows_behindOperation 7 = .ok (.ifCond .eq 29, 3) := by decide +kernel
theorem d_Rows_behindOperation_10 : decode b_Rows_behindOperation 10 = .ok (.aload_n 0, 1) := by decide +kernel
theorem d_Rows_behindOperation_11 : decode b_Rows_behindOperation 11 = .ok (.iload_n 1, 1) := by decide +kernel
theorem d_Rows_behindOperation_12 : decode b_Rows_behindOperation 12 = .ok (.iconst 1, 1) := by decide +kernel
theorem d_Rows_behindOperation_13 : decode b_Rows_behindOperation 13 = .ok (.iadd, 1) := by decide +kernel
theorem d_Rows_behindOperation_14 : decode b_Rows_behindOperation 14 = .ok (.invokevirtual 132, 3) := by decide +kernel
theorem d_Rows_behindOperation_17 : decode b_Rows_behindOperation 17 = .ok (.ifCond .eq 19, 3) := by decide +kernel
theorem d_Rows_behindOperation_20 : decode b_Rows_behindOperation 20 = .ok (.aload_n 0, 1) := by decide +kernel
theorem d_Rows_behindOperation_21 : decode b_Rows_behindOperation 21 = .ok (.iload_n 1, 1) := by decide +kernel
theorem d_Rows_behindOperation_22 : decode b_Rows_behindOperation 22 = .ok (.iconst 2, 1) := by decide +kernel
theorem d_Rows_behindOperation_23 : decode b_Rows_behindOperation 23 = .ok (.iadd, 1) := by decide +kernel
theorem d_Rows_behindOperation_24 : decode b_Rows_behindOperation 24 = .ok (.bipush 96, 2) := by decide +kernel
theorem d_Rows_behindOperation_26 : decode b_Rows_behindOperation 26 = .ok (.invokevirtual 135, 3) := by decide +kernel
theorem d_Rows_behindOperation_29 : decode b_Rows_behindOperation 29 = .ok (.ifCond .eq 7, 3) := by decide +kernel
theorem d_Rows_behindOperation_32 : decode b_Rows_behindOperation 32 = .ok (.iload_n 1, 1) := by decide +kernel
theorem d_Rows_behindOperation_33 : decode b_Rows_behindOperation 33 = .ok (.iconst 3, 1) := by decide +kernel
theorem d_Rows_behindOperation_34 : decode b_Rows_behindOperation 34 = .ok (.iadd, 1) := by decide +kernel
theorem d_Rows_behindOperation_35 : decode b_Rows_behindOperation 35 = .ok (.ireturn, 1) := by decide +kernel
theorem d_Rows_behindOperation_36 : decode b_Rows_behindOperation 36 = .ok (.aload_n 0, 1) := by decide +kernel
theorem d_Rows_behindOperation_37 : decode b_Rows_behindOperation 37 = .ok (.iload_n 1, 1) := by decide +kernel
theorem d_Rows_behindOperation_38 : decode b_Rows_behindOperation 38 = .ok (.invokevirtual 139, 3) := by decide +kernel
theorem d_Rows_behindOperation_41 : decode b_Rows_behindOperation 41 = .ok (.ifCond .eq 9, 3) := by decide +kernel
theorem d_Rows_behindOperation_44 : decode b_Rows_behindOperation 44 = .ok (.iload_n 1, 1) := by decide +kernel
theorem d_Rows_behindOperation_45 : decode b_Rows_behindOperation 45 = .ok (.iconst 1, 1) := by decide +kernel
theorem d_Rows_behindOperation_46 : decode b_Rows_behindOperation 46 = .ok (.iadd, 1) := by decide +kernel
theorem d_Rows_behindOperation_47 : decode b_Rows_behindOperation 47 = .ok (.goto 4, 3) := by decide +kernel
theorem d_Rows_behindOperation_50 : decode b_Rows_behindOperation 50 = .ok (.iload_n 1, 1) := by decide +kernel
theorem d_Rows_behindOperation_51 : decode b_Rows_behindOperation 51 = .ok (.ireturn, 1) := by decide +kernel
theorem d_Rows_putRowTogether_0 : decode b_Rows_putRowTogether 0 = .ok (.aload_n 0, 1) := by decide +kernel
theorem d_Rows_putRowTogether_1 : decode b_Rows_putRowTogether 1 = .ok (.getfield 34, 3) := by decide +kernel
theorem d_Rows_putRowTogether_4 : decode b_Rows_putRowTogether 4 = .ok (.invokevirtual 142, 3) := by decide +kernel
theorem d_Rows_putRowTogether_7 : decode b_Rows_putRowTogether 7 = .ok (.iconst 0, 1) := by decide +kernel
theorem d_Rows_putRowTogether_8 : decode b_Rows_putRowTogether 8 = .ok (.istore_n 3, 1) := by decide +kernel
theorem d_Rows_putRowTogether_9 : decode b_Rows_putRowTogether 9 = .ok (.iload_n 3, 1) := by decide +kernel
theorem d_Rows_putRowTogether_10 : decode b_Rows_putRowTogether 10 = .ok (.aload_n 0, 1) := by decide +kernel
theorem d_Rows_putRowTogether_11 : decode b_Rows_putRowTogether 11 = .ok (.getfield 27, 3) := by decide +kernel
theorem d_Rows_putRowTogether_14 : decode b_Rows_putRowTogether 14 = .ok (.invokevirtual 145, 3) := by decide +kernel
theorem d_Rows_putRowTogether_17 : decode b_Rows_putRowTogether 17 = .ok (.if_icmp .ge 37, 3) := by decide +kernel
theorem d_Rows_putRowTogether_20 : decode b_Rows_putRowTogether 20 = .ok (.aload_n 0, 1) := by decide +kernel
theorem d_Rows_putRowTogether_21 : decode b_Rows_putRowTogether 21 = .ok (.aload_n 1, 1) := by decide +kernel
theorem d_Rows_putRowTogether_22 : decode b_Rows_putRowTogether 22 = .ok (.iload_n 3, 1) := by decide +kernel
theorem d_Rows_putRowTogether_23 : decode b_Rows_putRowTogether 23 = .ok (.aload_n 2, 1) := by decide +kernel
theorem d_Rows_putRowTogether_24 : decode b_Rows_putRowTogether 24 = .ok (.invokevirtual 146, 3) := by decide +kernel
theorem d_Rows_putRowTogether_27 : decode b_Rows_putRowTogether 27 = .ok (.ifCond .ne 21, 3) := by decide +kernel
theorem d_Rows_putRowTogether_30 : decode b_Rows_putRowTogether 30 = .ok (.aload_n 0, 1) := by decide +kernel
theorem d_Rows_putRowTogether_31 : decode b_Rows_putRowTogether 31 = .ok (.getfield 34, 3) := by decide +kernel
theorem d_Rows_putRowTogether_34 : decode b_Rows_putRowTogether 34 = .ok (.invokevirtual 150, 3) := by decide +kernel
theorem d_Rows_putRowTogether_37 : decode b_Rows_putRowTogether 37 = .ok (.aload_n 0, 1) := by decide +kernel
theorem d_Rows_putRowTogether_38 : decode b_Rows_putRowTogether 38 = .ok (.dup, 1) := by decide +kernel
theorem d_Rows_putRowTogether_39 : decode b_Rows_putRowTogether 39 = .ok (.getfield 42, 3) := by decide +kernel
theorem d_Rows_putRowTogether_42 : decode b_Rows_putRowTogether 42 = .ok (.iconst 1, 1) := by decide +kernel
theorem d_Rows_putRowTogether_43 : decode b_Rows_putRowTogether 43 = .ok (.iadd, 1) := by decide +kernel
theorem d_Rows_putRowTogether_44 : decode b_Rows_putRowTogether 44 = .ok (.putfield 42, 3) := by decide +kernel
theorem d_Rows_putRowTogether_47 : decode b_Rows_putRowTogether 47 = .ok (.return_, 1) := by decide +kernel
theorem d_Rows_putRowTogether_48 : decode b_Rows_putRowTogether 48 = .ok (.iinc 3 1, 3) := by decide +kernel
theorem d_Rows_putRowTogether_51 : decode b_Rows_putRowTogether 51 = .ok (.goto (-42), 3) := by decide +kernel
theorem d_Rows_putRowTogether_54 : decode b_Rows_putRowTogether 54 = .ok (.aload_n 0, 1) := by decide +kernel
theorem d_Rows_putRowTogether_55 : decode b_Rows_putRowTogether 55 = .ok (.getfield 34, 3) := by decide +kernel
theorem d_Rows_putRowTogether_58 : decode b_Rows_putRowTogether 58 = .ok (.invokevirtual 153, 3) := by decide +kernel
theorem d_Rows_putRowTogether_61 : decode b_Rows_putRowTogether 61 = .ok (.aload_n 0, 1) := by decide +kernel
theorem d_Rows_putRowTogether_62 : decode b_Rows_putRowTogether 62 = .ok (.dup, 1) := by decide +kernel
theorem d_Rows_putRowTogether_63 : decode b_Rows_putRowTogether 63 = .ok (.getfield 38, 3) := by decide +kernel
theorem d_Rows_putRowTogether_66 : decode b_Rows_putRowTogether 66 = .ok (.iconst 1, 1) := by decide +kernel
theorem d_Rows_putRowTogether_67 : decode b_Rows_putRowTogether 67 = .ok (.iadd, 1) := by decide +kernel
theorem d_Rows_putRowTogether_68 : decode b_Rows_putRowTogether 68 = .ok (.putfield 38, 3) := by decide +kernel
theorem d_Rows_putRowTogether_71 : decode b_Rows_putRowTogether 71 = .ok (.return_, 1) := by decide +kernel
theorem d_Rows_take_0 : decode b_Rows_take 0 = .ok (.aload_n 0, 1) := by decide +kernel
theorem d_Rows_take_1 : decode b_Rows_take 1 = .ok (.getfield 27, 3) := by decide +kernel
theorem d_Rows_take_4 : decode b_Rows_take 4 = .ok (.iload_n 2, 1) := by decide +kernel
theorem d_Rows_take_5 : decode b_Rows_take 5 = .ok (.invokevirtual 156, 3) := by decide +kernel
theorem d_Rows_take_8 : decode b_Rows_take 8 = .ok (.istore 4, 2) := by decide +kernel
theorem d_Rows_take_10 : decode b_Rows_take 10 = .ok (.aload_n 0, 1) := by decide +kernel
theorem d_Rows_take_11 : decode b_Rows_take 11 = .ok (.getfield 27, 3) := by decide +kernel
theorem d_Rows_take_14 : decode b_Rows_take 14 = .ok (.iload_n 2, 1) := by decide +kernel
theorem d_Rows_take_15 : decode b_Rows_take 15 = .ok (.invokevirtual 159, 3) := by decide +kernel
theorem d_Rows_take_18 : decode b_Rows_take 18 = .ok (.istore 5, 2) := by decide +kernel
theorem d_Rows_take_20 : decode b_Rows_take 20 = .ok (.aload_n 0, 1) := by decide +kernel
theorem d_Rows_take_21 : decode b_Rows_take 21 = .ok (.getfield 27, 3) := by decide +kernel
theorem d_Rows_take_24 : decode b_Rows_take 24 = .ok (.iload_n 2, 1) := by decide +kernel
theorem d_Rows_take_25 : decode b_Rows_take 25 = .ok (.invokevirtual 162, 3) := by decide +kernel
theorem d_Rows_take_28 : decode b_Rows_take 28 = .ok (.lookupswitch 80 #[(1, 28), (2, 70)], 28) := by decide +kernel
theorem d_Rows_take_56 : decode b_Rows_take 56 = .ok (.aload_n 1, 1) := by decide +kernel
theorem d_Rows_take_57 : decode b_Rows_take 57 = .ok (.iload 4, 2) := by decide +kernel
theorem d_Rows_take_59 : decode b_Rows_take 59 = .ok (.iload 5, 2) := by decide +kernel
theorem d_Rows_take_61 : decode b_Rows_take 61 = .ok (.if_icmp .ne 8, 3) := by decide +kernel
theorem d_Rows_take_64 : decode b_Rows_take 64 = .ok (.iload 4, 2) := by decide +kernel
theorem d_Rows_take_66 : decode b_Rows_take 66 = .ok (.goto 7, 3) := by decide +kernel
theorem d_Rows_take_69 : decode b_Rows_take 69 = .ok (.iload 4, 2) := by decide +kernel
theorem d_Rows_take_71 : decode b_Rows_take 71 = .ok (.iconst 1, 1) := by decide +kernel
theorem d_Rows_take_72 : decode b_Rows_take 72 = .ok (.iadd, 1) := by decide +kernel
theorem d_Rows_take_73 : decode b_Rows_take 73 = .ok (.invokevirtual 83, 3) := by decide +kernel
theorem d_Rows_take_76 : decode b_Rows_take 76 = .ok (.lstore 6, 2) := by decide +kernel
theorem d_Rows_take_78 : decode b_Rows_take 78 = .ok (.aload_n 0, 1) := by decide +kernel
theorem d_Rows_take_79 : decode b_Rows_take 79 = .ok (.getfield 34, 3) := by decide +kernel
theorem d_Rows_take_82 : decode b_Rows_take 82 = .ok (.aload_n 3, 1) := by decide +kernel
theorem d_Rows_take_83 : decode b_Rows_take 83 = .ok (.lload 6, 2) := by decide +kernel
theorem d_Rows_take_85 : decode b_Rows_take 85 = .ok (.invokevirtual 165, 3) := by decide +kernel
theorem d_Rows_take_88 : decode b_Rows_take 88 = .ok (.aload_n 3, 1) := by decide +kernel
theorem d_Rows_take_89 : decode b_Rows_take 89 = .ok (.lload 6, 2) := by decide +kernel
theorem d_Rows_take_91 : decode b_Rows_take 91 = .ok (.invokevirtual 171, 3) := by decide +kernel
theorem d_Rows_take_94 : decode b_Rows_take 94 = .ok (.invokevirtual 174, 3) := by decide +kernel
theorem d_Rows_take_97 : decode b_Rows_take 97 = .ok (.ireturn, 1) := by decide +kernel
theorem d_Rows_take_98 : decode b_Rows_take 98 = .ok (.aload_n 0, 1) := by decide +kernel
theorem d_Rows_take_99 : decode b_Rows_take 99 = .ok (.getfield 34, 3) := by decide +kernel
theorem d_Rows_take_102 : decode b_Rows_take 102 = .ok (.iload 4, 2) := by decide +kernel
theorem d_Rows_take_104 : decode b_Rows_take 104 = .ok (.invokevirtual 178, 3) := by decide +kernel
theorem d_Rows_take_107 : decode b_Rows_take 107 = .ok (.ireturn, 1) := by decide +kernel
theorem d_Rows_take_108 : decode b_Rows_take 108 = .ok (.aload_n 0, 1) := by decide +kernel
theorem d_Rows_take_109 : decode b_Rows_take 109 = .ok (.getfield 34, 3) := by decide +kernel
theorem d_Rows_take_112 : decode b_Rows_take 112 = .ok (.iload 4, 2) := by decide +kernel
theorem d_Rows_take_114 : decode b_Rows_take 114 = .ok (.iload 5, 2) := by decide +kernel
theorem d_Rows_take_116 : decode b_Rows_take 116 = .ok (.invokevirtual 181, 3) := by decide +kernel
theorem d_Rows_take_119 : decode b_Rows_take 119 = .ok (.iconst 1, 1) := by decide +kernel
