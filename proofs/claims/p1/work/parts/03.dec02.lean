theorem d_Rows_matchBrackets_58 : decode b_Rows_matchBrackets 58 = .ok (.ifCond .eq 22, 3) := by decide +kernel
theorem d_Rows_matchBrackets_80 : decode b_Rows_matchBrackets 80 = .ok (.iinc 3 1, 3) := by decide +kernel
theorem d_Rows_matchBrackets_83 : decode b_Rows_matchBrackets 83 = .ok (.goto (-79), 3) := by decide +kernel
theorem d_Rows_matchBrackets_86 : decode b_Rows_matchBrackets 86 = .ok (.return_, 1) := by decide +kernel
theorem d_Row_clear_0 : decode b_Row_clear 0 = .ok (.aload_n 0, 1) := by decide +kernel
theorem d_Row_clear_1 : decode b_Row_clear 1 = .ok (.iconst 0, 1) := by decide +kernel
theorem d_Row_clear_2 : decode b_Row_clear 2 = .ok (.putfield 21, 3) := by decide +kernel
theorem d_Row_clear_5 : decode b_Row_clear 5 = .ok (.aload_n 0, 1) := by decide +kernel
theorem d_Row_clear_6 : decode b_Row_clear 6 = .ok (.iconst 0, 1) := by decide +kernel
theorem d_Row_clear_7 : decode b_Row_clear 7 = .ok (.putfield 25, 3) := by decide +kernel
theorem d_Row_clear_10 : decode b_Row_clear 10 = .ok (.aload_n 0, 1) := by decide +kernel
theorem d_Row_clear_11 : decode b_Row_clear 11 = .ok (.iconst 0, 1) := by decide +kernel
theorem d_Row_clear_12 : decode b_Row_clear 12 = .ok (.putfield 29, 3) := by decide +kernel
theorem d_Row_clear_15 : decode b_Row_clear 15 = .ok (.return_, 1) := by decide +kernel
theorem d_Tokens_isFreeName_0 : decode b_Tokens_isFreeName 0 = .ok (.aload_n 0, 1) := by decide +kernel
theorem d_Tokens_isFreeName_1 : decode b_Tokens_isFreeName 1 = .ok (.iload_n 1, 1) := by decide +kernel
theorem d_Tokens_isFreeName_2 : decode b_Tokens_isFreeName 2 = .ok (.invokevirtual 27, 3) := by decide +kernel
theorem d_Tokens_isFreeName_5 : decode b_Tokens_isFreeName 5 = .ok (.ifCond .eq 32, 3) := by decide +kernel
theorem d_Tokens_isFreeName_8 : decode b_Tokens_isFreeName 8 = .ok (.aload_n 0, 1) := by decide +kernel
theorem d_Tokens_isFreeName_9 : decode b_Tokens_isFreeName 9 = .ok (.getfield 9, 3) := by decide +kernel
theorem d_Tokens_isFreeName_12 : decode b_Tokens_isFreeName 12 = .ok (.iload_n 1, 1) := by decide +kernel
theorem d_Tokens_isFreeName_13 : decode b_Tokens_isFreeName 13 = .ok (.iaload, 1) := by decide +kernel
theorem d_Tokens_isFreeName_14 : decode b_Tokens_isFreeName 14 = .ok (.ifCond .ne 23, 3) := by decide +kernel
theorem d_Tokens_isFreeName_37 : decode b_Tokens_isFreeName 37 = .ok (.iconst 0, 1) := by decide +kernel
theorem d_Tokens_isFreeName_38 : decode b_Tokens_isFreeName 38 = .ok (.ireturn, 1) := by decide +kernel
theorem d_Tokens_kindAt_0 : decode b_Tokens_kindAt 0 = .ok (.aload_n 0, 1) := by decide +kernel
theorem d_Tokens_kindAt_1 : decode b_Tokens_kindAt 1 = .ok (.iload_n 1, 1) := by decide +kernel
theorem d_Tokens_kindAt_2 : decode b_Tokens_kindAt 2 = .ok (.invokevirtual 27, 3) := by decide +kernel
theorem d_Tokens_kindAt_5 : decode b_Tokens_kindAt 5 = .ok (.ifCond .eq 12, 3) := by decide +kernel
theorem d_Tokens_kindAt_8 : decode b_Tokens_kindAt 8 = .ok (.aload_n 0, 1) := by decide +kernel
theorem d_Tokens_kindAt_9 : decode b_Tokens_kindAt 9 = .ok (.getfield 9, 3) := by decide +kernel
theorem d_Tokens_kindAt_12 : decode b_Tokens_kindAt 12 = .ok (.iload_n 1, 1) := by decide +kernel
theorem d_Tokens_kindAt_13 : decode b_Tokens_kindAt 13 = .ok (.iaload, 1) := by decide +kernel
theorem d_Tokens_kindAt_14 : decode b_Tokens_kindAt 14 = .ok (.goto 4, 3) := by decide +kernel
theorem d_Tokens_kindAt_18 : decode b_Tokens_kindAt 18 = .ok (.ireturn, 1) := by decide +kernel
theorem d_Rows_behindOperand_0 : decode b_Rows_behindOperand 0 = .ok (.aload_n 1, 1) := by decide +kernel
theorem d_Rows_behindOperand_1 : decode b_Rows_behindOperand 1 = .ok (.iload_n 2, 1) := by decide +kernel
theorem d_Rows_behindOperand_2 : decode b_Rows_behindOperand 2 = .ok (.invokevirtual 62, 3) := by decide +kernel
theorem d_Rows_behindOperand_5 : decode b_Rows_behindOperand 5 = .ok (.ifCond .eq 11, 3) := by decide +kernel
theorem d_Rows_behindOperand_16 : decode b_Rows_behindOperand 16 = .ok (.aload_n 1, 1) := by decide +kernel
theorem d_Rows_behindOperand_17 : decode b_Rows_behindOperand 17 = .ok (.iload_n 2, 1) := by decide +kernel
theorem d_Rows_behindOperand_18 : decode b_Rows_behindOperand 18 = .ok (.invokevirtual 132, 3) := by decide +kernel
theorem d_Rows_behindOperand_21 : decode b_Rows_behindOperand 21 = .ok (.ifCond .ne 12, 3) := by decide +kernel
theorem d_Rows_behindOperand_24 : decode b_Rows_behindOperand 24 = .ok (.aload_n 1, 1) := by decide +kernel
theorem d_Rows_behindOperand_25 : decode b_Rows_behindOperand 25 = .ok (.iload_n 2, 1) := by decide +kernel
theorem d_Rows_behindOperand_26 : decode b_Rows_behindOperand 26 = .ok (.invokevirtual 80, 3) := by decide +kernel
theorem d_Rows_behindOperand_29 : decode b_Rows_behindOperand 29 = .ok (.iconst 1, 1) := by decide +kernel
theorem d_Rows_behindOperand_30 : decode b_Rows_behindOperand 30 = .ok (.if_icmp .ne 9, 3) := by decide +kernel
theorem d_Rows_behindOperand_39 : decode b_Rows_behindOperand 39 = .ok (.iload_n 2, 1) := by decide +kernel
theorem d_Rows_behindOperand_40 : decode b_Rows_behindOperand 40 = .ok (.ireturn, 1) := by decide +kernel
theorem d_Tokens_isFreeOperator_0 : decode b_Tokens_isFreeOperator 0 = .ok (.aload_n 0, 1) := by decide +kernel
theorem d_Tokens_isFreeOperator_1 : decode b_Tokens_isFreeOperator 1 = .ok (.iload_n 1, 1) := by decide +kernel
theorem d_Tokens_isFreeOperator_2 : decode b_Tokens_isFreeOperator 2 = .ok (.invokevirtual 27, 3) := by decide +kernel
theorem d_Tokens_isFreeOperator_5 : decode b_Tokens_isFreeOperator 5 = .ok (.ifCond .eq 33, 3) := by decide +kernel
theorem d_Tokens_isFreeOperator_8 : decode b_Tokens_isFreeOperator 8 = .ok (.aload_n 0, 1) := by decide +kernel
theorem d_Tokens_isFreeOperator_9 : decode b_Tokens_isFreeOperator 9 = .ok (.getfield 9, 3) := by decide +kernel
theorem d_Tokens_isFreeOperator_12 : decode b_Tokens_isFreeOperator 12 = .ok (.iload_n 1, 1) := by decide +kernel
theorem d_Tokens_isFreeOperator_13 : decode b_Tokens_isFreeOperator 13 = .ok (.iaload, 1) := by decide +kernel
theorem d_Tokens_isFreeOperator_14 : decode b_Tokens_isFreeOperator 14 = .ok (.iconst 2, 1) := by decide +kernel
theorem d_Tokens_isFreeOperator_15 : decode b_Tokens_isFreeOperator 15 = .ok (.if_icmp .ne 23, 3) := by decide +kernel
theorem d_Tokens_isFreeOperator_38 : decode b_Tokens_isFreeOperator 38 = .ok (.iconst 0, 1) := by decide +kernel
theorem d_Tokens_isFreeOperator_39 : decode b_Tokens_isFreeOperator 39 = .ok (.ireturn, 1) := by decide +kernel
theorem d_Rows_behindOperation_0 : decode b_Rows_behindOperation 0 = .ok (.aload_n 0, 1) := by decide +kernel
theorem d_Rows_behindOperation_1 : decode b_Rows_behindOperation 1 = .ok (.iload_n 1, 1) := by decide +kernel
theorem d_Rows_behindOperation_2 : decode b_Rows_behindOperation 2 = .ok (.bipush 96, 2) := by decide +kernel
theorem d_Rows_behindOperation_4 : decode b_Rows_behindOperation 4 = .ok (.invokevirtual 135, 3) := by decide +kernel
theorem d_Rows_behindOperation_7 : decode b_Rows_behindOperation 7 = .ok (.ifCond .eq 29, 3) := by decide +kernel
theorem d_Rows_behindOperation_36 : decode b_Rows_behindOperation 36 = .ok (.aload_n 0, 1) := by decide +kernel
theorem d_Rows_behindOperation_37 : decode b_Rows_behindOperation 37 = .ok (.iload_n 1, 1) := by decide +kernel
theorem d_Rows_behindOperation_38 : decode b_Rows_behindOperation 38 = .ok (.invokevirtual 139, 3) := by decide +kernel
theorem d_Rows_behindOperation_41 : decode b_Rows_behindOperation 41 = .ok (.ifCond .eq 9, 3) := by decide +kernel
theorem d_Rows_behindOperation_50 : decode b_Rows_behindOperation 50 = .ok (.iload_n 1, 1) := by decide +kernel
theorem d_Rows_behindOperation_51 : decode b_Rows_behindOperation 51 = .ok (.ireturn, 1) := by decide +kernel
theorem d_Rows_collectRow_0 : decode b_Rows_collectRow 0 = .ok (.aload_n 0, 1) := by decide +kernel
theorem d_Rows_collectRow_1 : decode b_Rows_collectRow 1 = .ok (.getfield 27, 3) := by decide +kernel
theorem d_Rows_collectRow_4 : decode b_Rows_collectRow 4 = .ok (.invokevirtual 108, 3) := by decide +kernel
theorem d_Rows_collectRow_7 : decode b_Rows_collectRow 7 = .ok (.iload_n 2, 1) := by decide +kernel
theorem d_Rows_collectRow_8 : decode b_Rows_collectRow 8 = .ok (.istore 4, 2) := by decide +kernel
theorem d_Rows_collectRow_10 : decode b_Rows_collectRow 10 = .ok (.iload_n 2, 1) := by decide +kernel
theorem d_Rows_collectRow_11 : decode b_Rows_collectRow 11 = .ok (.istore 5, 2) := by decide +kernel
theorem d_Rows_collectRow_13 : decode b_Rows_collectRow 13 = .ok (.iload 5, 2) := by decide +kernel
theorem d_Rows_collectRow_15 : decode b_Rows_collectRow 15 = .ok (.iload_n 3, 1) := by decide +kernel
theorem d_Rows_collectRow_16 : decode b_Rows_collectRow 16 = .ok (.if_icmp .ge 102, 3) := by decide +kernel
theorem d_Rows_collectRow_19 : decode b_Rows_collectRow 19 = .ok (.iload 4, 2) := by decide +kernel
theorem d_Rows_collectRow_21 : decode b_Rows_collectRow 21 = .ok (.iload_n 3, 1) := by decide +kernel
theorem d_Rows_collectRow_22 : decode b_Rows_collectRow 22 = .ok (.if_icmp .ge 96, 3) := by decide +kernel
theorem d_Rows_collectRow_25 : decode b_Rows_collectRow 25 = .ok (.aload_n 0, 1) := by decide +kernel
theorem d_Rows_collectRow_26 : decode b_Rows_collectRow 26 = .ok (.aload_n 1, 1) := by decide +kernel
theorem d_Rows_collectRow_27 : decode b_Rows_collectRow 27 = .ok (.iload 4, 2) := by decide +kernel
theorem d_Rows_collectRow_29 : decode b_Rows_collectRow 29 = .ok (.invokevirtual 109, 3) := by decide +kernel
theorem d_Rows_collectRow_32 : decode b_Rows_collectRow 32 = .ok (.istore 6, 2) := by decide +kernel
theorem d_Rows_collectRow_34 : decode b_Rows_collectRow 34 = .ok (.aload_n 1, 1) := by decide +kernel
theorem d_Rows_collectRow_35 : decode b_Rows_collectRow 35 = .ok (.iload 4, 2) := by decide +kernel
theorem d_Rows_collectRow_37 : decode b_Rows_collectRow 37 = .ok (.invokestatic 113, 3) := by decide +kernel
theorem d_Rows_collectRow_40 : decode b_Rows_collectRow 40 = .ok (.istore 7, 2) := by decide +kernel
theorem d_Rows_collectRow_42 : decode b_Rows_collectRow 42 = .ok (.iload 6, 2) := by decide +kernel
theorem d_Rows_collectRow_44 : decode b_Rows_collectRow 44 = .ok (.iload 4, 2) := by decide +kernel
theorem d_Rows_collectRow_46 : decode b_Rows_collectRow 46 = .ok (.if_icmp .le 19, 3) := by decide +kernel
theorem d_Rows_collectRow_65 : decode b_Rows_collectRow 65 = .ok (.iload 7, 2) := by decide +kernel
theorem d_Rows_collectRow_67 : decode b_Rows_collectRow 67 = .ok (.iload 4, 2) := by decide +kernel
theorem d_Rows_collectRow_69 : decode b_Rows_collectRow 69 = .ok (.if_icmp .le 49, 3) := by decide +kernel
theorem d_Rows_collectRow_118 : decode b_Rows_collectRow 118 = .ok (.iload 4, 2) := by decide +kernel
theorem d_Rows_collectRow_120 : decode b_Rows_collectRow 120 = .ok (.ireturn, 1) := by decide +kernel
theorem d_Row_isWhole_0 : decode b_Row_isWhole 0 = .ok (.aload_n 0, 1) := by decide +kernel
theorem d_Row_isWhole_1 : decode b_Row_isWhole 1 = .ok (.getfield 25, 3) := by decide +kernel
theorem d_Row_isWhole_4 : decode b_Row_isWhole 4 = .ok (.ifCond .eq 21, 3) := by decide +kernel
theorem d_Row_isWhole_25 : decode b_Row_isWhole 25 = .ok (.iconst 0, 1) := by decide +kernel
theorem d_Row_isWhole_26 : decode b_Row_isWhole 26 = .ok (.ireturn, 1) := by decide +kernel
theorem d_Rows_putLevelTogether_0 : decode b_Rows_putLevelTogether 0 = .ok (.iload_n 2, 1) := by decide +kernel
theorem d_Rows_putLevelTogether_1 : decode b_Rows_putLevelTogether 1 = .ok (.istore 5, 2) := by decide +kernel
theorem d_Rows_putLevelTogether_3 : decode b_Rows_putLevelTogether 3 = .ok (.iload_n 2, 1) := by decide +kernel
theorem d_Rows_putLevelTogether_4 : decode b_Rows_putLevelTogether 4 = .ok (.istore 6, 2) := by decide +kernel
theorem d_Rows_putLevelTogether_6 : decode b_Rows_putLevelTogether 6 = .ok (.iload 6, 2) := by decide +kernel
theorem d_Rows_putLevelTogether_8 : decode b_Rows_putLevelTogether 8 = .ok (.iload_n 3, 1) := by decide +kernel
theorem d_Rows_putLevelTogether_9 : decode b_Rows_putLevelTogether 9 = .ok (.if_icmp .ge 44, 3) := by decide +kernel
theorem d_Rows_putLevelTogether_12 : decode b_Rows_putLevelTogether 12 = .ok (.iload 5, 2) := by decide +kernel
theorem d_Rows_putLevelTogether_14 : decode b_Rows_putLevelTogether 14 = .ok (.iload_n 3, 1) := by decide +kernel
theorem d_Rows_putLevelTogether_15 : decode b_Rows_putLevelTogether 15 = .ok (.if_icmp .ge 38, 3) := by decide +kernel
theorem d_Rows_putLevelTogether_18 : decode b_Rows_putLevelTogether 18 = .ok (.aload_n 0, 1) := by decide +kernel
theorem d_Rows_putLevelTogether_19 : decode b_Rows_putLevelTogether 19 = .ok (.aload_n 1, 1) := by decide +kernel
theorem d_Rows_putLevelTogether_20 : decode b_Rows_putLevelTogether 20 = .ok (.iload 5, 2) := by decide +kernel
theorem d_Rows_putLevelTogether_22 : decode b_Rows_putLevelTogether 22 = .ok (.iload_n 3, 1) := by decide +kernel
theorem d_Rows_putLevelTogether_23 : decode b_Rows_putLevelTogether 23 = .ok (.invokevirtual 96, 3) := by decide +kernel
theorem d_Rows_putLevelTogether_26 : decode b_Rows_putLevelTogether 26 = .ok (.iconst 1, 1) := by decide +kernel
theorem d_Rows_putLevelTogether_27 : decode b_Rows_putLevelTogether 27 = .ok (.iadd, 1) := by decide +kernel
theorem d_Rows_putLevelTogether_28 : decode b_Rows_putLevelTogether 28 = .ok (.istore 5, 2) := by decide +kernel
theorem d_Rows_putLevelTogether_30 : decode b_Rows_putLevelTogether 30 = .ok (.aload_n 0, 1) := by decide +kernel
theorem d_Rows_putLevelTogether_31 : decode b_Rows_putLevelTogether 31 = .ok (.getfield 27, 3) := by decide +kernel
theorem d_Rows_putLevelTogether_34 : decode b_Rows_putLevelTogether 34 = .ok (.invokevirtual 100, 3) := by decide +kernel
theorem d_Rows_putLevelTogether_37 : decode b_Rows_putLevelTogether 37 = .ok (.ifCond .eq 10, 3) := by decide +kernel
theorem d_Rows_putLevelTogether_47 : decode b_Rows_putLevelTogether 47 = .ok (.iinc 6 1, 3) := by decide +kernel
theorem d_Rows_putLevelTogether_50 : decode b_Rows_putLevelTogether 50 = .ok (.goto (-44), 3) := by decide +kernel
theorem d_Rows_putLevelTogether_53 : decode b_Rows_putLevelTogether 53 = .ok (.return_, 1) := by decide +kernel
theorem d_Rows_putTogether_0 : decode b_Rows_putTogether 0 = .ok (.aload_n 0, 1) := by decide +kernel
theorem d_Rows_putTogether_1 : decode b_Rows_putTogether 1 = .ok (.iconst 0, 1) := by decide +kernel
theorem d_Rows_putTogether_2 : decode b_Rows_putTogether 2 = .ok (.putfield 38, 3) := by decide +kernel
theorem d_Rows_putTogether_5 : decode b_Rows_putTogether 5 = .ok (.aload_n 0, 1) := by decide +kernel
theorem d_Rows_putTogether_6 : decode b_Rows_putTogether 6 = .ok (.iconst 0, 1) := by decide +kernel
theorem d_Rows_putTogether_7 : decode b_Rows_putTogether 7 = .ok (.putfield 42, 3) := by decide +kernel
theorem d_Rows_putTogether_10 : decode b_Rows_putTogether 10 = .ok (.aload_n 0, 1) := by decide +kernel
theorem d_Rows_putTogether_11 : decode b_Rows_putTogether 11 = .ok (.getfield 34, 3) := by decide +kernel
theorem d_Rows_putTogether_14 : decode b_Rows_putTogether 14 = .ok (.invokevirtual 45, 3) := by decide +kernel
theorem d_Rows_putTogether_17 : decode b_Rows_putTogether 17 = .ok (.aload_n 0, 1) := by decide +kernel
theorem d_Rows_putTogether_18 : decode b_Rows_putTogether 18 = .ok (.aload_n 1, 1) := by decide +kernel
theorem d_Rows_putTogether_19 : decode b_Rows_putTogether 19 = .ok (.invokevirtual 48, 3) := by decide +kernel
theorem d_Rows_putTogether_22 : decode b_Rows_putTogether 22 = .ok (.aload_n 0, 1) := by decide +kernel
theorem d_Rows_putTogether_23 : decode b_Rows_putTogether 23 = .ok (.aload_n 1, 1) := by decide +kernel
theorem d_Rows_putTogether_24 : decode b_Rows_putTogether 24 = .ok (.iconst 0, 1) := by decide +kernel
theorem d_Rows_putTogether_25 : decode b_Rows_putTogether 25 = .ok (.aload_n 1, 1) := by decide +kernel
theorem d_Rows_putTogether_26 : decode b_Rows_putTogether 26 = .ok (.invokevirtual 52, 3) := by decide +kernel
theorem d_Rows_putTogether_29 : decode b_Rows_putTogether 29 = .ok (.aload_n 2, 1) := by decide +kernel
theorem d_Rows_putTogether_30 : decode b_Rows_putTogether 30 = .ok (.invokevirtual 58, 3) := by decide +kernel
theorem d_Rows_putTogether_33 : decode b_Rows_putTogether 33 = .ok (.iconst 0, 1) := by decide +kernel
theorem d_Rows_putTogether_34 : decode b_Rows_putTogether 34 = .ok (.istore_n 3, 1) := by decide +kernel
theorem d_Rows_putTogether_35 : decode b_Rows_putTogether 35 = .ok (.iload_n 3, 1) := by decide +kernel
theorem d_Rows_putTogether_36 : decode b_Rows_putTogether 36 = .ok (.aload_n 1, 1) := by decide +kernel
theorem d_Rows_putTogether_37 : decode b_Rows_putTogether 37 = .ok (.invokevirtual 52, 3) := by decide +kernel
theorem d_Rows_putTogether_40 : decode b_Rows_putTogether 40 = .ok (.if_icmp .ge 31, 3) := by decide +kernel
theorem d_Rows_putTogether_43 : decode b_Rows_putTogether 43 = .ok (.aload_n 1, 1) := by decide +kernel
theorem d_Rows_putTogether_44 : decode b_Rows_putTogether 44 = .ok (.iload_n 3, 1) := by decide +kernel
theorem d_Rows_putTogether_45 : decode b_Rows_putTogether 45 = .ok (.invokevirtual 62, 3) := by decide +kernel
theorem d_Rows_putTogether_48 : decode b_Rows_putTogether 48 = .ok (.ifCond .eq 17, 3) := by decide +kernel
theorem d_Rows_putTogether_65 : decode b_Rows_putTogether 65 = .ok (.iinc 3 1, 3) := by decide +kernel
theorem d_Rows_putTogether_68 : decode b_Rows_putTogether 68 = .ok (.goto (-33), 3) := by decide +kernel
theorem d_Rows_putTogether_71 : decode b_Rows_putTogether 71 = .ok (.return_, 1) := by decide +kernel
theorem d_Resolver_tally_0 : decode b_Resolver_tally 0 = .ok (.iconst 0, 1) := by decide +kernel
theorem d_Resolver_tally_1 : decode b_Resolver_tally 1 = .ok (.istore_n 3, 1) := by decide +kernel
theorem d_Resolver_tally_2 : decode b_Resolver_tally 2 = .ok (.iload_n 3, 1) := by decide +kernel
theorem d_Resolver_tally_3 : decode b_Resolver_tally 3 = .ok (.aload_n 0, 1) := by decide +kernel
theorem d_Resolver_tally_4 : decode b_Resolver_tally 4 = .ok (.getfield 33, 3) := by decide +kernel
theorem d_Resolver_tally_7 : decode b_Resolver_tally 7 = .ok (.if_icmp .ge 65, 3) := by decide +kernel
theorem d_Resolver_tally_72 : decode b_Resolver_tally 72 = .ok (.return_, 1) := by decide +kernel
theorem d_Tokens_addTimes_0 : decode b_Tokens_addTimes 0 = .ok (.iconst 0, 1) := by decide +kernel
theorem d_Tokens_addTimes_1 : decode b_Tokens_addTimes 1 = .ok (.istore 5, 2) := by decide +kernel
theorem d_Tokens_addTimes_3 : decode b_Tokens_addTimes 3 = .ok (.iload 5, 2) := by decide +kernel
theorem d_Tokens_addTimes_5 : decode b_Tokens_addTimes 5 = .ok (.iload_n 1, 1) := by decide +kernel
theorem d_Tokens_addTimes_6 : decode b_Tokens_addTimes 6 = .ok (.if_icmp .ge 15, 3) := by decide +kernel
theorem d_Tokens_addTimes_21 : decode b_Tokens_addTimes 21 = .ok (.return_, 1) := by decide +kernel
theorem d_Tokens_valueAt_0 : decode b_Tokens_valueAt 0 = .ok (.aload_n 0, 1) := by decide +kernel
theorem d_Tokens_valueAt_1 : decode b_Tokens_valueAt 1 = .ok (.iload_n 1, 1) := by decide +kernel
theorem d_Tokens_valueAt_2 : decode b_Tokens_valueAt 2 = .ok (.invokevirtual 27, 3) := by decide +kernel
theorem d_Tokens_valueAt_5 : decode b_Tokens_valueAt 5 = .ok (.ifCond .eq 12, 3) := by decide +kernel
theorem d_Tokens_valueAt_8 : decode b_Tokens_valueAt 8 = .ok (.aload_n 0, 1) := by decide +kernel
theorem d_Tokens_valueAt_9 : decode b_Tokens_valueAt 9 = .ok (.getfield 15, 3) := by decide +kernel
theorem d_Tokens_valueAt_12 : decode b_Tokens_valueAt 12 = .ok (.iload_n 1, 1) := by decide +kernel
theorem d_Tokens_valueAt_13 : decode b_Tokens_valueAt 13 = .ok (.laload, 1) := by decide +kernel
theorem d_Tokens_valueAt_14 : decode b_Tokens_valueAt 14 = .ok (.goto 4, 3) := by decide +kernel
theorem d_Tokens_valueAt_18 : decode b_Tokens_valueAt 18 = .ok (.lreturn, 1) := by decide +kernel
theorem d_Rows_copyInto_0 : decode b_Rows_copyInto 0 = .ok (.iconst 0, 1) := by decide +kernel
theorem d_Rows_copyInto_1 : decode b_Rows_copyInto 1 = .ok (.istore_n 3, 1) := by decide +kernel
theorem d_Rows_copyInto_2 : decode b_Rows_copyInto 2 = .ok (.iload_n 3, 1) := by decide +kernel
theorem d_Rows_copyInto_3 : decode b_Rows_copyInto 3 = .ok (.sipush 362, 3) := by decide +kernel
theorem d_Rows_copyInto_6 : decode b_Rows_copyInto 6 = .ok (.if_icmp .ge 23, 3) := by decide +kernel
theorem d_Rows_copyInto_9 : decode b_Rows_copyInto 9 = .ok (.aload_n 0, 1) := by decide +kernel
theorem d_Rows_copyInto_10 : decode b_Rows_copyInto 10 = .ok (.getfield 18, 3) := by decide +kernel
theorem d_Rows_copyInto_13 : decode b_Rows_copyInto 13 = .ok (.iload_n 3, 1) := by decide +kernel
theorem d_Rows_copyInto_14 : decode b_Rows_copyInto 14 = .ok (.iconst 0, 1) := by decide +kernel
theorem d_Rows_copyInto_15 : decode b_Rows_copyInto 15 = .ok (.iastore, 1) := by decide +kernel
theorem d_Rows_copyInto_16 : decode b_Rows_copyInto 16 = .ok (.aload_n 0, 1) := by decide +kernel
theorem d_Rows_copyInto_17 : decode b_Rows_copyInto 17 = .ok (.getfield 21, 3) := by decide +kernel
theorem d_Rows_copyInto_20 : decode b_Rows_copyInto 20 = .ok (.iload_n 3, 1) := by decide +kernel
theorem d_Rows_copyInto_21 : decode b_Rows_copyInto 21 = .ok (.iconst 0, 1) := by decide +kernel
theorem d_Rows_copyInto_22 : decode b_Rows_copyInto 22 = .ok (.iastore, 1) := by decide +kernel
theorem d_Rows_copyInto_23 : decode b_Rows_copyInto 23 = .ok (.iinc 3 1, 3) := by decide +kernel
theorem d_Rows_copyInto_26 : decode b_Rows_copyInto 26 = .ok (.goto (-24), 3) := by decide +kernel
theorem d_Rows_copyInto_29 : decode b_Rows_copyInto 29 = .ok (.aload_n 0, 1) := by decide +kernel
theorem d_Rows_copyInto_30 : decode b_Rows_copyInto 30 = .ok (.getfield 34, 3) := by decide +kernel
theorem d_Rows_copyInto_33 : decode b_Rows_copyInto 33 = .ok (.aload_n 0, 1) := by decide +kernel
theorem d_Rows_copyInto_34 : decode b_Rows_copyInto 34 = .ok (.getfield 18, 3) := by decide +kernel
theorem d_Rows_copyInto_37 : decode b_Rows_copyInto 37 = .ok (.aload_n 0, 1) := by decide +kernel
theorem d_Rows_copyInto_38 : decode b_Rows_copyInto 38 = .ok (.getfield 21, 3) := by decide +kernel
theorem d_Rows_copyInto_41 : decode b_Rows_copyInto 41 = .ok (.invokevirtual 70, 3) := by decide +kernel
theorem d_Rows_copyInto_44 : decode b_Rows_copyInto 44 = .ok (.iconst 0, 1) := by decide +kernel
theorem d_Rows_copyInto_45 : decode b_Rows_copyInto 45 = .ok (.istore_n 3, 1) := by decide +kernel
theorem d_Rows_copyInto_46 : decode b_Rows_copyInto 46 = .ok (.iload_n 3, 1) := by decide +kernel
theorem d_Rows_copyInto_47 : decode b_Rows_copyInto 47 = .ok (.aload_n 2, 1) := by decide +kernel
theorem d_Rows_copyInto_48 : decode b_Rows_copyInto 48 = .ok (.invokevirtual 52, 3) := by decide +kernel
theorem d_Rows_copyInto_51 : decode b_Rows_copyInto 51 = .ok (.if_icmp .ge 58, 3) := by decide +kernel
theorem d_Rows_copyInto_54 : decode b_Rows_copyInto 54 = .ok (.iload_n 3, 1) := by decide +kernel
theorem d_Rows_copyInto_55 : decode b_Rows_copyInto 55 = .ok (.sipush 362, 3) := by decide +kernel
theorem d_Rows_copyInto_58 : decode b_Rows_copyInto 58 = .ok (.if_icmp .ge 51, 3) := by decide +kernel
theorem d_Rows_copyInto_61 : decode b_Rows_copyInto 61 = .ok (.aload_n 1, 1) := by decide +kernel
theorem d_Rows_copyInto_62 : decode b_Rows_copyInto 62 = .ok (.aload_n 0, 1) := by decide +kernel
theorem d_Rows_copyInto_63 : decode b_Rows_copyInto 63 = .ok (.getfield 18, 3) := by decide +kernel
theorem d_Rows_copyInto_66 : decode b_Rows_copyInto 66 = .ok (.iload_n 3, 1) := by decide +kernel
theorem d_Rows_copyInto_67 : decode b_Rows_copyInto 67 = .ok (.iaload, 1) := by decide +kernel
theorem d_Rows_copyInto_68 : decode b_Rows_copyInto 68 = .ok (.iconst 5, 1) := by decide +kernel
theorem d_Rows_copyInto_69 : decode b_Rows_copyInto 69 = .ok (.ldc2_w 74, 3) := by decide +kernel
theorem d_Rows_copyInto_72 : decode b_Rows_copyInto 72 = .ok (.invokevirtual 76, 3) := by decide +kernel
theorem d_Rows_copyInto_75 : decode b_Rows_copyInto 75 = .ok (.aload_n 1, 1) := by decide +kernel
theorem d_Rows_copyInto_76 : decode b_Rows_copyInto 76 = .ok (.aload_n 2, 1) := by decide +kernel
theorem d_Rows_copyInto_77 : decode b_Rows_copyInto 77 = .ok (.iload_n 3, 1) := by decide +kernel
theorem d_Rows_copyInto_78 : decode b_Rows_copyInto 78 = .ok (.invokevirtual 80, 3) := by decide +kernel
theorem d_Rows_copyInto_81 : decode b_Rows_copyInto 81 = .ok (.aload_n 2, 1) := by decide +kernel
theorem d_Rows_copyInto_82 : decode b_Rows_copyInto 82 = .ok (.iload_n 3, 1) := by decide +kernel
theorem d_Rows_copyInto_83 : decode b_Rows_copyInto 83 = .ok (.invokevirtual 83, 3) := by decide +kernel
theorem d_Rows_copyInto_86 : decode b_Rows_copyInto 86 = .ok (.invokevirtual 87, 3) := by decide +kernel
theorem d_Rows_copyInto_89 : decode b_Rows_copyInto 89 = .ok (.aload_n 1, 1) := by decide +kernel
theorem d_Rows_copyInto_90 : decode b_Rows_copyInto 90 = .ok (.aload_n 0, 1) := by decide +kernel
theorem d_Rows_copyInto_91 : decode b_Rows_copyInto 91 = .ok (.getfield 21, 3) := by decide +kernel
theorem d_Rows_copyInto_94 : decode b_Rows_copyInto 94 = .ok (.iload_n 3, 1) := by decide +kernel
theorem d_Rows_copyInto_95 : decode b_Rows_copyInto 95 = .ok (.iaload, 1) := by decide +kernel
theorem d_Rows_copyInto_96 : decode b_Rows_copyInto 96 = .ok (.iconst 5, 1) := by decide +kernel
theorem d_Rows_copyInto_97 : decode b_Rows_copyInto 97 = .ok (.ldc2_w 91, 3) := by decide +kernel
theorem d_Rows_copyInto_100 : decode b_Rows_copyInto 100 = .ok (.invokevirtual 76, 3) := by decide +kernel
theorem d_Rows_copyInto_103 : decode b_Rows_copyInto 103 = .ok (.iinc 3 1, 3) := by decide +kernel
theorem d_Rows_copyInto_106 : decode b_Rows_copyInto 106 = .ok (.goto (-60), 3) := by decide +kernel
theorem d_Rows_copyInto_109 : decode b_Rows_copyInto 109 = .ok (.return_, 1) := by decide +kernel
theorem d_Blocks_begun_0 : decode b_Blocks_begun 0 = .ok (.aload_n 0, 1) := by decide +kernel
theorem d_Blocks_begun_1 : decode b_Blocks_begun 1 = .ok (.getfield 27, 3) := by decide +kernel
