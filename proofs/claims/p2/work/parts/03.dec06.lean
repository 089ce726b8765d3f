theorem d_Blocks_passBrace_31 : decode b_Blocks_passBrace 31 = .ok (.invokevirtual 119, 3) := by decide +kernel
theorem d_Blocks_passBrace_34 : decode b_Blocks_passBrace 34 = .ok (.iload_n 1, 1) := by decide +kernel
theorem d_Blocks_passBrace_35 : decode b_Blocks_passBrace 35 = .ok (.ireturn, 1) := by decide +kernel
theorem d_Blocks_passComma_0 : decode b_Blocks_passComma 0 = .ok (.aload_n 0, 1) := by decide +kernel
theorem d_Blocks_passComma_1 : decode b_Blocks_passComma 1 = .ok (.getfield 12, 3) := by decide +kernel
theorem d_Blocks_passComma_4 : decode b_Blocks_passComma 4 = .ok (.invokevirtual 135, 3) := by decide +kernel
theorem d_Blocks_passComma_7 : decode b_Blocks_passComma 7 = .ok (.istore_n 1, 1) := by decide +kernel
theorem d_Blocks_passComma_8 : decode b_Blocks_passComma 8 = .ok (.iload_n 1, 1) := by decide +kernel
theorem d_Blocks_passComma_9 : decode b_Blocks_passComma 9 = .ok (.bipush (-5), 2) := by decide +kernel
theorem d_Blocks_passComma_11 : decode b_Blocks_passComma 11 = .ok (.if_icmp .eq 9, 3) := by decide +kernel
theorem d_Blocks_passComma_14 : decode b_Blocks_passComma 14 = .ok (.iload_n 1, 1) := by decide +kernel
theorem d_Blocks_passComma_15 : decode b_Blocks_passComma 15 = .ok (.bipush (-6), 2) := by decide +kernel
theorem d_Blocks_passComma_17 : decode b_Blocks_passComma 17 = .ok (.if_icmp .ne 8, 3) := by decide +kernel
theorem d_Blocks_passComma_20 : decode b_Blocks_passComma 20 = .ok (.aload_n 0, 1) := by decide +kernel
theorem d_Blocks_passComma_21 : decode b_Blocks_passComma 21 = .ok (.iconst 1, 1) := by decide +kernel
theorem d_Blocks_passComma_22 : decode b_Blocks_passComma 22 = .ok (.invokevirtual 78, 3) := by decide +kernel
theorem d_Blocks_passComma_25 : decode b_Blocks_passComma 25 = .ok (.return_, 1) := by decide +kernel
theorem d_Blocks_end_0 : decode b_Blocks_end 0 = .ok (.aload_n 0, 1) := by decide +kernel
theorem d_Blocks_end_1 : decode b_Blocks_end 1 = .ok (.iload_n 1, 1) := by decide +kernel
theorem d_Blocks_end_2 : decode b_Blocks_end 2 = .ok (.iconst (-1), 1) := by decide +kernel
theorem d_Blocks_end_3 : decode b_Blocks_end 3 = .ok (.if_icmp .eq 7, 3) := by decide +kernel
theorem d_Blocks_end_6 : decode b_Blocks_end 6 = .ok (.iconst 1, 1) := by decide +kernel
theorem d_Blocks_end_7 : decode b_Blocks_end 7 = .ok (.goto 4, 3) := by decide +kernel
theorem d_Blocks_end_10 : decode b_Blocks_end 10 = .ok (.iconst 0, 1) := by decide +kernel
theorem d_Blocks_end_11 : decode b_Blocks_end 11 = .ok (.invokevirtual 78, 3) := by decide +kernel
theorem d_Blocks_end_14 : decode b_Blocks_end 14 = .ok (.aload_n 0, 1) := by decide +kernel
theorem d_Blocks_end_15 : decode b_Blocks_end 15 = .ok (.getfield 12, 3) := by decide +kernel
theorem d_Blocks_end_18 : decode b_Blocks_end 18 = .ok (.invokevirtual 132, 3) := by decide +kernel
theorem d_Blocks_end_21 : decode b_Blocks_end 21 = .ok (.iload_n 1, 1) := by decide +kernel
theorem d_Blocks_end_22 : decode b_Blocks_end 22 = .ok (.if_icmp .ne 7, 3) := by decide +kernel
theorem d_Blocks_end_25 : decode b_Blocks_end 25 = .ok (.iconst 1, 1) := by decide +kernel
theorem d_Blocks_end_26 : decode b_Blocks_end 26 = .ok (.goto 4, 3) := by decide +kernel
theorem d_Blocks_end_29 : decode b_Blocks_end 29 = .ok (.iconst 0, 1) := by decide +kernel
theorem d_Blocks_end_30 : decode b_Blocks_end 30 = .ok (.istore_n 2, 1) := by decide +kernel
theorem d_Blocks_end_31 : decode b_Blocks_end 31 = .ok (.iload_n 2, 1) := by decide +kernel
theorem d_Blocks_end_32 : decode b_Blocks_end 32 = .ok (.ifCond .eq 10, 3) := by decide +kernel
theorem d_Blocks_end_35 : decode b_Blocks_end 35 = .ok (.aload_n 0, 1) := by decide +kernel
theorem d_Blocks_end_36 : decode b_Blocks_end 36 = .ok (.getfield 12, 3) := by decide +kernel
theorem d_Blocks_end_39 : decode b_Blocks_end 39 = .ok (.invokevirtual 119, 3) := by decide +kernel
theorem d_Blocks_end_42 : decode b_Blocks_end 42 = .ok (.iload_n 2, 1) := by decide +kernel
theorem d_Blocks_end_43 : decode b_Blocks_end 43 = .ok (.ireturn, 1) := by decide +kernel
theorem d_Blocks_closeBlocks_0 : decode b_Blocks_closeBlocks 0 = .ok (.aload_n 0, 1) := by decide +kernel
theorem d_Blocks_closeBlocks_1 : decode b_Blocks_closeBlocks 1 = .ok (.getfield 12, 3) := by decide +kernel
theorem d_Blocks_closeBlocks_4 : decode b_Blocks_closeBlocks 4 = .ok (.invokevirtual 82, 3) := by decide +kernel
theorem d_Blocks_closeBlocks_7 : decode b_Blocks_closeBlocks 7 = .ok (.istore_n 2, 1) := by decide +kernel
theorem d_Blocks_closeBlocks_8 : decode b_Blocks_closeBlocks 8 = .ok (.iload_n 2, 1) := by decide +kernel
theorem d_Blocks_closeBlocks_9 : decode b_Blocks_closeBlocks 9 = .ok (.ifCond .le 53, 3) := by decide +kernel
theorem d_Blocks_closeBlocks_12 : decode b_Blocks_closeBlocks 12 = .ok (.aload_n 0, 1) := by decide +kernel
theorem d_Blocks_closeBlocks_13 : decode b_Blocks_closeBlocks 13 = .ok (.getfield 12, 3) := by decide +kernel
theorem d_Blocks_closeBlocks_16 : decode b_Blocks_closeBlocks 16 = .ok (.invokevirtual 132, 3) := by decide +kernel
theorem d_Blocks_closeBlocks_19 : decode b_Blocks_closeBlocks 19 = .ok (.ifCond .le 12, 3) := by decide +kernel
theorem d_Blocks_closeBlocks_22 : decode b_Blocks_closeBlocks 22 = .ok (.aload_n 0, 1) := by decide +kernel
theorem d_Blocks_closeBlocks_23 : decode b_Blocks_closeBlocks 23 = .ok (.bipush 125, 2) := by decide +kernel
theorem d_Blocks_closeBlocks_25 : decode b_Blocks_closeBlocks 25 = .ok (.invokevirtual 103, 3) := by decide +kernel
theorem d_Blocks_closeBlocks_28 : decode b_Blocks_closeBlocks 28 = .ok (.goto 21, 3) := by decide +kernel
theorem d_Blocks_closeBlocks_31 : decode b_Blocks_closeBlocks 31 = .ok (.iload_n 1, 1) := by decide +kernel
theorem d_Blocks_closeBlocks_32 : decode b_Blocks_closeBlocks 32 = .ok (.ifCond .eq 30, 3) := by decide +kernel
theorem d_Blocks_closeBlocks_35 : decode b_Blocks_closeBlocks 35 = .ok (.aload_n 0, 1) := by decide +kernel
theorem d_Blocks_closeBlocks_36 : decode b_Blocks_closeBlocks 36 = .ok (.getfield 12, 3) := by decide +kernel
theorem d_Blocks_closeBlocks_39 : decode b_Blocks_closeBlocks 39 = .ok (.invokevirtual 132, 3) := by decide +kernel
theorem d_Blocks_closeBlocks_42 : decode b_Blocks_closeBlocks 42 = .ok (.iconst (-1), 1) := by decide +kernel
theorem d_Blocks_closeBlocks_43 : decode b_Blocks_closeBlocks 43 = .ok (.if_icmp .eq 6, 3) := by decide +kernel
theorem d_Blocks_closeBlocks_46 : decode b_Blocks_closeBlocks 46 = .ok (.goto 16, 3) := by decide +kernel
theorem d_Blocks_closeBlocks_49 : decode b_Blocks_closeBlocks 49 = .ok (.aload_n 0, 1) := by decide +kernel
theorem d_Blocks_closeBlocks_50 : decode b_Blocks_closeBlocks 50 = .ok (.getfield 12, 3) := by decide +kernel
theorem d_Blocks_closeBlocks_53 : decode b_Blocks_closeBlocks 53 = .ok (.invokevirtual 119, 3) := by decide +kernel
theorem d_Blocks_closeBlocks_56 : decode b_Blocks_closeBlocks 56 = .ok (.iinc 2 (-1), 3) := by decide +kernel
theorem d_Blocks_closeBlocks_59 : decode b_Blocks_closeBlocks 59 = .ok (.goto (-51), 3) := by decide +kernel
theorem d_Blocks_closeBlocks_62 : decode b_Blocks_closeBlocks 62 = .ok (.return_, 1) := by decide +kernel
theorem d_Row_init_0 : decode b_Row_init 0 = .ok (.aload_n 0, 1) := by decide +kernel
theorem d_Row_init_1 : decode b_Row_init 1 = .ok (.invokespecial 3, 3) := by decide +kernel
theorem d_Row_init_4 : decode b_Row_init 4 = .ok (.aload_n 0, 1) := by decide +kernel
theorem d_Row_init_5 : decode b_Row_init 5 = .ok (.bipush 90, 2) := by decide +kernel
theorem d_Row_init_7 : decode b_Row_init 7 = .ok (.newarray .int, 2) := by decide +kernel
theorem d_Row_init_9 : decode b_Row_init 9 = .ok (.putfield 9, 3) := by decide +kernel
theorem d_Row_init_12 : decode b_Row_init 12 = .ok (.aload_n 0, 1) := by decide +kernel
theorem d_Row_init_13 : decode b_Row_init 13 = .ok (.bipush 90, 2) := by decide +kernel
theorem d_Row_init_15 : decode b_Row_init 15 = .ok (.newarray .int, 2) := by decide +kernel
theorem d_Row_init_17 : decode b_Row_init 17 = .ok (.putfield 15, 3) := by decide +kernel
theorem d_Row_init_20 : decode b_Row_init 20 = .ok (.aload_n 0, 1) := by decide +kernel
theorem d_Row_init_21 : decode b_Row_init 21 = .ok (.bipush 90, 2) := by decide +kernel
theorem d_Row_init_23 : decode b_Row_init 23 = .ok (.newarray .int, 2) := by decide +kernel
theorem d_Row_init_25 : decode b_Row_init 25 = .ok (.putfield 18, 3) := by decide +kernel
theorem d_Row_init_28 : decode b_Row_init 28 = .ok (.return_, 1) := by decide +kernel
theorem d_Row_clear_0 : decode b_Row_clear 0 = .ok (.aload_n 0, 1) := by decide +kernel
theorem d_Row_clear_1 : decode b_Row_clear 1 = .ok (.iconst 0, 1) := by decide +kernel
theorem d_Row_clear_2 : decode b_Row_clear 2 = .ok (.putfield 21, 3) := by decide +kernel
theorem d_Row_clear_5 : decode b_Row_clear 5 = .ok (.aload_n 0, 1) := by decide +kernel
theorem d_Row_clear_6 : decode b_Row_clear 6 = .ok (.iconst 0, 1) := by decide +kernel
theorem d_Row_clear_7 : decode b_Row_clear 7 = .ok (.putfield 25, 3) := by decide +kernel
theorem d_Row_clear_10 : decode b_Row_clear 10 = .ok (.aload_n 0, 1) := by decide +kernel
theorem d_Row_clear_11 : decode b_Row_clear 11 = .ok (.iconst 0, 1) := by decide +kernel
theorem d_Row_clear_12 : decode b_Row_clear 12 = .ok (.putfield 29, 3) := by decide +kernel
theorem d_Row_clear_15 : decode b_Row_clear 15 = .ok (.return_, 1) := by decide +kernel
theorem d_Row_size_0 : decode b_Row_size 0 = .ok (.aload_n 0, 1) := by decide +kernel
theorem d_Row_size_1 : decode b_Row_size 1 = .ok (.getfield 21, 3) := by decide +kernel
theorem d_Row_size_4 : decode b_Row_size 4 = .ok (.ireturn, 1) := by decide +kernel
theorem d_Row_isWhole_0 : decode b_Row_isWhole 0 = .ok (.aload_n 0, 1) := by decide +kernel
theorem d_Row_isWhole_1 : decode b_Row_isWhole 1 = .ok (.getfield 25, 3) := by decide +kernel
theorem d_Row_isWhole_4 : decode b_Row_isWhole 4 = .ok (.ifCond .eq 21, 3) := by decide +kernel
theorem d_Row_isWhole_7 : decode b_Row_isWhole 7 = .ok (.aload_n 0, 1) := by decide +kernel
theorem d_Row_isWhole_8 : decode b_Row_isWhole 8 = .ok (.getfield 29, 3) := by decide +kernel
theorem d_Row_isWhole_11 : decode b_Row_isWhole 11 = .ok (.ifCond .ne 14, 3) := by decide +kernel
theorem d_Row_isWhole_14 : decode b_Row_isWhole 14 = .ok (.aload_n 0, 1) := by decide +kernel
theorem d_Row_isWhole_15 : decode b_Row_isWhole 15 = .ok (.invokevirtual 32, 3) := by decide +kernel
theorem d_Row_isWhole_18 : decode b_Row_isWhole 18 = .ok (.ifCond .eq 7, 3) := by decide +kernel
theorem d_Row_isWhole_21 : decode b_Row_isWhole 21 = .ok (.iconst 1, 1) := by decide +kernel
theorem d_Row_isWhole_22 : decode b_Row_isWhole 22 = .ok (.goto 4, 3) := by decide +kernel
theorem d_Row_isWhole_25 : decode b_Row_isWhole 25 = .ok (.iconst 0, 1) := by decide +kernel
theorem d_Row_isWhole_26 : decode b_Row_isWhole 26 = .ok (.ireturn, 1) := by decide +kernel
theorem d_Row_endsWithOperand_0 : decode b_Row_endsWithOperand 0 = .ok (.aload_n 0, 1) := by decide +kernel
theorem d_Row_endsWithOperand_1 : decode b_Row_endsWithOperand 1 = .ok (.getfield 21, 3) := by decide +kernel
theorem d_Row_endsWithOperand_4 : decode b_Row_endsWithOperand 4 = .ok (.ifCond .le 21, 3) := by decide +kernel
theorem d_Row_endsWithOperand_7 : decode b_Row_endsWithOperand 7 = .ok (.aload_n 0, 1) := by decide +kernel
theorem d_Row_endsWithOperand_8 : decode b_Row_endsWithOperand 8 = .ok (.getfield 9, 3) := by decide +kernel
theorem d_Row_endsWithOperand_11 : decode b_Row_endsWithOperand 11 = .ok (.aload_n 0, 1) := by decide +kernel
theorem d_Row_endsWithOperand_12 : decode b_Row_endsWithOperand 12 = .ok (.getfield 21, 3) := by decide +kernel
theorem d_Row_endsWithOperand_15 : decode b_Row_endsWithOperand 15 = .ok (.iconst 1, 1) := by decide +kernel
theorem d_Row_endsWithOperand_16 : decode b_Row_endsWithOperand 16 = .ok (.isub, 1) := by decide +kernel
theorem d_Row_endsWithOperand_17 : decode b_Row_endsWithOperand 17 = .ok (.iaload, 1) := by decide +kernel
theorem d_Row_endsWithOperand_18 : decode b_Row_endsWithOperand 18 = .ok (.ifCond .ne 7, 3) := by decide +kernel
theorem d_Row_endsWithOperand_21 : decode b_Row_endsWithOperand 21 = .ok (.iconst 1, 1) := by decide +kernel
theorem d_Row_endsWithOperand_22 : decode b_Row_endsWithOperand 22 = .ok (.goto 4, 3) := by decide +kernel
theorem d_Row_endsWithOperand_25 : decode b_Row_endsWithOperand 25 = .ok (.iconst 0, 1) := by decide +kernel
theorem d_Row_endsWithOperand_26 : decode b_Row_endsWithOperand 26 = .ok (.ireturn, 1) := by decide +kernel
theorem d_Row_addOperand_0 : decode b_Row_addOperand 0 = .ok (.aload_n 0, 1) := by decide +kernel
theorem d_Row_addOperand_1 : decode b_Row_addOperand 1 = .ok (.invokevirtual 32, 3) := by decide +kernel
theorem d_Row_addOperand_4 : decode b_Row_addOperand 4 = .ok (.ifCond .eq 18, 3) := by decide +kernel
theorem d_Row_addOperand_7 : decode b_Row_addOperand 7 = .ok (.aload_n 0, 1) := by decide +kernel
theorem d_Row_addOperand_8 : decode b_Row_addOperand 8 = .ok (.getfield 18, 3) := by decide +kernel
theorem d_Row_addOperand_11 : decode b_Row_addOperand 11 = .ok (.aload_n 0, 1) := by decide +kernel
theorem d_Row_addOperand_12 : decode b_Row_addOperand 12 = .ok (.getfield 21, 3) := by decide +kernel
theorem d_Row_addOperand_15 : decode b_Row_addOperand 15 = .ok (.iconst 1, 1) := by decide +kernel
theorem d_Row_addOperand_16 : decode b_Row_addOperand 16 = .ok (.isub, 1) := by decide +kernel
theorem d_Row_addOperand_17 : decode b_Row_addOperand 17 = .ok (.iload_n 2, 1) := by decide +kernel
theorem d_Row_addOperand_18 : decode b_Row_addOperand 18 = .ok (.iastore, 1) := by decide +kernel
theorem d_Row_addOperand_19 : decode b_Row_addOperand 19 = .ok (.goto 10, 3) := by decide +kernel
theorem d_Row_addOperand_22 : decode b_Row_addOperand 22 = .ok (.aload_n 0, 1) := by decide +kernel
theorem d_Row_addOperand_23 : decode b_Row_addOperand 23 = .ok (.iconst 0, 1) := by decide +kernel
theorem d_Row_addOperand_24 : decode b_Row_addOperand 24 = .ok (.iload_n 1, 1) := by decide +kernel
theorem d_Row_addOperand_25 : decode b_Row_addOperand 25 = .ok (.iload_n 2, 1) := by decide +kernel
theorem d_Row_addOperand_26 : decode b_Row_addOperand 26 = .ok (.invokevirtual 36, 3) := by decide +kernel
theorem d_Row_addOperand_29 : decode b_Row_addOperand 29 = .ok (.return_, 1) := by decide +kernel
theorem d_Row_addOperation_0 : decode b_Row_addOperation 0 = .ok (.aload_n 0, 1) := by decide +kernel
theorem d_Row_addOperation_1 : decode b_Row_addOperation 1 = .ok (.invokevirtual 32, 3) := by decide +kernel
theorem d_Row_addOperation_4 : decode b_Row_addOperation 4 = .ok (.ifCond .ne 7, 3) := by decide +kernel
theorem d_Row_addOperation_7 : decode b_Row_addOperation 7 = .ok (.iconst 1, 1) := by decide +kernel
theorem d_Row_addOperation_8 : decode b_Row_addOperation 8 = .ok (.goto 4, 3) := by decide +kernel
theorem d_Row_addOperation_11 : decode b_Row_addOperation 11 = .ok (.iconst 0, 1) := by decide +kernel
theorem d_Row_addOperation_12 : decode b_Row_addOperation 12 = .ok (.istore 4, 2) := by decide +kernel
theorem d_Row_addOperation_14 : decode b_Row_addOperation 14 = .ok (.aload_n 0, 1) := by decide +kernel
theorem d_Row_addOperation_15 : decode b_Row_addOperation 15 = .ok (.iconst 1, 1) := by decide +kernel
theorem d_Row_addOperation_16 : decode b_Row_addOperation 16 = .ok (.putfield 25, 3) := by decide +kernel
theorem d_Row_addOperation_19 : decode b_Row_addOperation 19 = .ok (.aload_n 0, 1) := by decide +kernel
theorem d_Row_addOperation_20 : decode b_Row_addOperation 20 = .ok (.aload_n 0, 1) := by decide +kernel
theorem d_Row_addOperation_21 : decode b_Row_addOperation 21 = .ok (.getfield 29, 3) := by decide +kernel
theorem d_Row_addOperation_24 : decode b_Row_addOperation 24 = .ok (.ifCond .ne 12, 3) := by decide +kernel
theorem d_Row_addOperation_27 : decode b_Row_addOperation 27 = .ok (.iload 4, 2) := by decide +kernel
theorem d_Row_addOperation_29 : decode b_Row_addOperation 29 = .ok (.ifCond .eq 11, 3) := by decide +kernel
theorem d_Row_addOperation_32 : decode b_Row_addOperation 32 = .ok (.iload_n 3, 1) := by decide +kernel
theorem d_Row_addOperation_33 : decode b_Row_addOperation 33 = .ok (.ifCond .ne 7, 3) := by decide +kernel
theorem d_Row_addOperation_36 : decode b_Row_addOperation 36 = .ok (.iconst 1, 1) := by decide +kernel
theorem d_Row_addOperation_37 : decode b_Row_addOperation 37 = .ok (.goto 4, 3) := by decide +kernel
theorem d_Row_addOperation_40 : decode b_Row_addOperation 40 = .ok (.iconst 0, 1) := by decide +kernel
theorem d_Row_addOperation_41 : decode b_Row_addOperation 41 = .ok (.putfield 29, 3) := by decide +kernel
theorem d_Row_addOperation_44 : decode b_Row_addOperation 44 = .ok (.aload_n 0, 1) := by decide +kernel
theorem d_Row_addOperation_45 : decode b_Row_addOperation 45 = .ok (.iload 4, 2) := by decide +kernel
theorem d_Row_addOperation_47 : decode b_Row_addOperation 47 = .ok (.ifCond .eq 7, 3) := by decide +kernel
theorem d_Row_addOperation_50 : decode b_Row_addOperation 50 = .ok (.iconst 2, 1) := by decide +kernel
theorem d_Row_addOperation_51 : decode b_Row_addOperation 51 = .ok (.goto 4, 3) := by decide +kernel
theorem d_Row_addOperation_54 : decode b_Row_addOperation 54 = .ok (.iconst 1, 1) := by decide +kernel
theorem d_Row_addOperation_55 : decode b_Row_addOperation 55 = .ok (.iload_n 1, 1) := by decide +kernel
theorem d_Row_addOperation_56 : decode b_Row_addOperation 56 = .ok (.iload_n 2, 1) := by decide +kernel
theorem d_Row_addOperation_57 : decode b_Row_addOperation 57 = .ok (.invokevirtual 36, 3) := by decide +kernel
theorem d_Row_addOperation_60 : decode b_Row_addOperation 60 = .ok (.return_, 1) := by decide +kernel
theorem d_Row_add_0 : decode b_Row_add 0 = .ok (.aload_n 0, 1) := by decide +kernel
theorem d_Row_add_1 : decode b_Row_add 1 = .ok (.getfield 21, 3) := by decide +kernel
theorem d_Row_add_4 : decode b_Row_add 4 = .ok (.bipush 90, 2) := by decide +kernel
theorem d_Row_add_6 : decode b_Row_add 6 = .ok (.if_icmp .ge 43, 3) := by decide +kernel
theorem d_Row_add_9 : decode b_Row_add 9 = .ok (.aload_n 0, 1) := by decide +kernel
theorem d_Row_add_10 : decode b_Row_add 10 = .ok (.getfield 9, 3) := by decide +kernel
theorem d_Row_add_13 : decode b_Row_add 13 = .ok (.aload_n 0, 1) := by decide +kernel
theorem d_Row_add_14 : decode b_Row_add 14 = .ok (.getfield 21, 3) := by decide +kernel
theorem d_Row_add_17 : decode b_Row_add 17 = .ok (.iload_n 1, 1) := by decide +kernel
theorem d_Row_add_18 : decode b_Row_add 18 = .ok (.iastore, 1) := by decide +kernel
theorem d_Row_add_19 : decode b_Row_add 19 = .ok (.aload_n 0, 1) := by decide +kernel
theorem d_Row_add_20 : decode b_Row_add 20 = .ok (.getfield 15, 3) := by decide +kernel
theorem d_Row_add_23 : decode b_Row_add 23 = .ok (.aload_n 0, 1) := by decide +kernel
theorem d_Row_add_24 : decode b_Row_add 24 = .ok (.getfield 21, 3) := by decide +kernel
theorem d_Row_add_27 : decode b_Row_add 27 = .ok (.iload_n 2, 1) := by decide +kernel
theorem d_Row_add_28 : decode b_Row_add 28 = .ok (.iastore, 1) := by decide +kernel
theorem d_Row_add_29 : decode b_Row_add 29 = .ok (.aload_n 0, 1) := by decide +kernel
theorem d_Row_add_30 : decode b_Row_add 30 = .ok (.getfield 18, 3) := by decide +kernel
theorem d_Row_add_33 : decode b_Row_add 33 = .ok (.aload_n 0, 1) := by decide +kernel
theorem d_Row_add_34 : decode b_Row_add 34 = .ok (.getfield 21, 3) := by decide +kernel
theorem d_Row_add_37 : decode b_Row_add 37 = .ok (.iload_n 3, 1) := by decide +kernel
theorem d_Row_add_38 : decode b_Row_add 38 = .ok (.iastore, 1) := by decide +kernel
theorem d_Row_add_39 : decode b_Row_add 39 = .ok (.aload_n 0, 1) := by decide +kernel
theorem d_Row_add_40 : decode b_Row_add 40 = .ok (.dup, 1) := by decide +kernel
theorem d_Row_add_41 : decode b_Row_add 41 = .ok (.getfield 21, 3) := by decide +kernel
theorem d_Row_add_44 : decode b_Row_add 44 = .ok (.iconst 1, 1) := by decide +kernel
theorem d_Row_add_45 : decode b_Row_add 45 = .ok (.iadd, 1) := by decide +kernel
theorem d_Row_add_46 : decode b_Row_add 46 = .ok (.putfield 21, 3) := by decide +kernel
theorem d_Row_add_49 : decode b_Row_add 49 = .ok (.return_, 1) := by decide +kernel
theorem d_Row_has_0 : decode b_Row_has 0 = .ok (.iload_n 1, 1) := by decide +kernel
theorem d_Row_has_1 : decode b_Row_has 1 = .ok (.ifCond .lt 15, 3) := by decide +kernel
theorem d_Row_has_4 : decode b_Row_has 4 = .ok (.iload_n 1, 1) := by decide +kernel
theorem d_Row_has_5 : decode b_Row_has 5 = .ok (.aload_n 0, 1) := by decide +kernel
theorem d_Row_has_6 : decode b_Row_has 6 = .ok (.getfield 21, 3) := by decide +kernel
theorem d_Row_has_9 : decode b_Row_has 9 = .ok (.if_icmp .ge 7, 3) := by decide +kernel
theorem d_Row_has_12 : decode b_Row_has 12 = .ok (.iconst 1, 1) := by decide +kernel
theorem d_Row_has_13 : decode b_Row_has 13 = .ok (.goto 4, 3) := by decide +kernel
theorem d_Row_has_16 : decode b_Row_has 16 = .ok (.iconst 0, 1) := by decide +kernel
theorem d_Row_has_17 : decode b_Row_has 17 = .ok (.ireturn, 1) := by decide +kernel
theorem d_Row_partAt_0 : decode b_Row_partAt 0 = .ok (.aload_n 0, 1) := by decide +kernel
theorem d_Row_partAt_1 : decode b_Row_partAt 1 = .ok (.iload_n 1, 1) := by decide +kernel
theorem d_Row_partAt_2 : decode b_Row_partAt 2 = .ok (.invokevirtual 40, 3) := by decide +kernel
theorem d_Row_partAt_5 : decode b_Row_partAt 5 = .ok (.ifCond .eq 12, 3) := by decide +kernel
theorem d_Row_partAt_8 : decode b_Row_partAt 8 = .ok (.aload_n 0, 1) := by decide +kernel
theorem d_Row_partAt_9 : decode b_Row_partAt 9 = .ok (.getfield 9, 3) := by decide +kernel
theorem d_Row_partAt_12 : decode b_Row_partAt 12 = .ok (.iload_n 1, 1) := by decide +kernel
theorem d_Row_partAt_13 : decode b_Row_partAt 13 = .ok (.iaload, 1) := by decide +kernel
theorem d_Row_partAt_14 : decode b_Row_partAt 14 = .ok (.goto 4, 3) := by decide +kernel
theorem d_Row_partAt_17 : decode b_Row_partAt 17 = .ok (.iconst (-1), 1) := by decide +kernel
theorem d_Row_partAt_18 : decode b_Row_partAt 18 = .ok (.ireturn, 1) := by decide +kernel
theorem d_Row_firstAt_0 : decode b_Row_firstAt 0 = .ok (.aload_n 0, 1) := by decide +kernel
theorem d_Row_firstAt_1 : decode b_Row_firstAt 1 = .ok (.iload_n 1, 1) := by decide +kernel
theorem d_Row_firstAt_2 : decode b_Row_firstAt 2 = .ok (.invokevirtual 40, 3) := by decide +kernel
theorem d_Row_firstAt_5 : decode b_Row_firstAt 5 = .ok (.ifCond .eq 12, 3) := by decide +kernel
theorem d_Row_firstAt_8 : decode b_Row_firstAt 8 = .ok (.aload_n 0, 1) := by decide +kernel
theorem d_Row_firstAt_9 : decode b_Row_firstAt 9 = .ok (.getfield 15, 3) := by decide +kernel
theorem d_Row_firstAt_12 : decode b_Row_firstAt 12 = .ok (.iload_n 1, 1) := by decide +kernel
theorem d_Row_firstAt_13 : decode b_Row_firstAt 13 = .ok (.iaload, 1) := by decide +kernel
theorem d_Row_firstAt_14 : decode b_Row_firstAt 14 = .ok (.goto 4, 3) := by decide +kernel
theorem d_Row_firstAt_17 : decode b_Row_firstAt 17 = .ok (.iconst (-1), 1) := by decide +kernel
theorem d_Row_firstAt_18 : decode b_Row_firstAt 18 = .ok (.ireturn, 1) := by decide +kernel
theorem d_Row_lastAt_0 : decode b_Row_lastAt 0 = .ok (.aload_n 0, 1) := by decide +kernel
theorem d_Row_lastAt_1 : decode b_Row_lastAt 1 = .ok (.iload_n 1, 1) := by decide +kernel
theorem d_Row_lastAt_2 : decode b_Row_lastAt 2 = .ok (.invokevirtual 40, 3) := by decide +kernel
theorem d_Row_lastAt_5 : decode b_Row_lastAt 5 = .ok (.ifCond .eq 12, 3) := by decide +kernel
theorem d_Row_lastAt_8 : decode b_Row_lastAt 8 = .ok (.aload_n 0, 1) := by decide +kernel
theorem d_Row_lastAt_9 : decode b_Row_lastAt 9 = .ok (.getfield 18, 3) := by decide +kernel
theorem d_Row_lastAt_12 : decode b_Row_lastAt 12 = .ok (.iload_n 1, 1) := by decide +kernel
theorem d_Row_lastAt_13 : decode b_Row_lastAt 13 = .ok (.iaload, 1) := by decide +kernel
theorem d_Row_lastAt_14 : decode b_Row_lastAt 14 = .ok (.goto 4, 3) := by decide +kernel
theorem d_Row_lastAt_17 : decode b_Row_lastAt 17 = .ok (.iconst (-1), 1) := by decide +kernel
theorem d_Row_lastAt_18 : decode b_Row_lastAt 18 = .ok (.ireturn, 1) := by decide +kernel
theorem d_Resolver_init_0 : decode b_Resolver_init 0 = .ok (.aload_n 0, 1) := by decide +kernel
theorem d_Resolver_init_1 : decode b_Resolver_init 1 = .ok (.invokespecial 3, 3) := by decide +kernel
theorem d_Resolver_init_4 : decode b_Resolver_init 4 = .ok (.aload_n 0, 1) := by decide +kernel
