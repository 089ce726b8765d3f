theorem d_Cutter_isLetter_21 : decode b_Cutter_isLetter 21 = .ok (.if_icmp .le 9, 3) := by decide +kernel
theorem d_Cutter_isLetter_24 : decode b_Cutter_isLetter 24 = .ok (.iload_n 0, 1) := by decide +kernel
theorem d_Cutter_isLetter_25 : decode b_Cutter_isLetter 25 = .ok (.bipush 95, 2) := by decide +kernel
theorem d_Cutter_isLetter_27 : decode b_Cutter_isLetter 27 = .ok (.if_icmp .ne 7, 3) := by decide +kernel
theorem d_Cutter_isLetter_30 : decode b_Cutter_isLetter 30 = .ok (.iconst 1, 1) := by decide +kernel
theorem d_Cutter_isLetter_31 : decode b_Cutter_isLetter 31 = .ok (.goto 4, 3) := by decide +kernel
theorem d_Cutter_isLetter_34 : decode b_Cutter_isLetter 34 = .ok (.iconst 0, 1) := by decide +kernel
theorem d_Cutter_isLetter_35 : decode b_Cutter_isLetter 35 = .ok (.ireturn, 1) := by decide +kernel
theorem d_Cutter_isDigit_0 : decode b_Cutter_isDigit 0 = .ok (.iload_n 0, 1) := by decide +kernel
theorem d_Cutter_isDigit_1 : decode b_Cutter_isDigit 1 = .ok (.bipush 48, 2) := by decide +kernel
theorem d_Cutter_isDigit_3 : decode b_Cutter_isDigit 3 = .ok (.if_icmp .lt 13, 3) := by decide +kernel
theorem d_Cutter_isDigit_6 : decode b_Cutter_isDigit 6 = .ok (.iload_n 0, 1) := by decide +kernel
theorem d_Cutter_isDigit_7 : decode b_Cutter_isDigit 7 = .ok (.bipush 57, 2) := by decide +kernel
theorem d_Cutter_isDigit_9 : decode b_Cutter_isDigit 9 = .ok (.if_icmp .gt 7, 3) := by decide +kernel
theorem d_Cutter_isDigit_12 : decode b_Cutter_isDigit 12 = .ok (.iconst 1, 1) := by decide +kernel
theorem d_Cutter_isDigit_13 : decode b_Cutter_isDigit 13 = .ok (.goto 4, 3) := by decide +kernel
theorem d_Cutter_isDigit_16 : decode b_Cutter_isDigit 16 = .ok (.iconst 0, 1) := by decide +kernel
theorem d_Cutter_isDigit_17 : decode b_Cutter_isDigit 17 = .ok (.ireturn, 1) := by decide +kernel
theorem d_Cutter_isOperatorPart_0 : decode b_Cutter_isOperatorPart 0 = .ok (.ldc 122, 2) := by decide +kernel
theorem d_Cutter_isOperatorPart_2 : decode b_Cutter_isOperatorPart 2 = .ok (.iload_n 0, 1) := by decide +kernel
theorem d_Cutter_isOperatorPart_3 : decode b_Cutter_isOperatorPart 3 = .ok (.invokevirtual 124, 3) := by decide +kernel
theorem d_Cutter_isOperatorPart_6 : decode b_Cutter_isOperatorPart 6 = .ok (.ifCond .lt 7, 3) := by decide +kernel
theorem d_Cutter_isOperatorPart_9 : decode b_Cutter_isOperatorPart 9 = .ok (.iconst 1, 1) := by decide +kernel
theorem d_Cutter_isOperatorPart_10 : decode b_Cutter_isOperatorPart 10 = .ok (.goto 4, 3) := by decide +kernel
theorem d_Cutter_isOperatorPart_13 : decode b_Cutter_isOperatorPart 13 = .ok (.iconst 0, 1) := by decide +kernel
theorem d_Cutter_isOperatorPart_14 : decode b_Cutter_isOperatorPart 14 = .ok (.ireturn, 1) := by decide +kernel
theorem d_Cutter_isSign_0 : decode b_Cutter_isSign 0 = .ok (.ldc 129, 2) := by decide +kernel
theorem d_Cutter_isSign_2 : decode b_Cutter_isSign 2 = .ok (.iload_n 0, 1) := by decide +kernel
theorem d_Cutter_isSign_3 : decode b_Cutter_isSign 3 = .ok (.invokevirtual 124, 3) := by decide +kernel
theorem d_Cutter_isSign_6 : decode b_Cutter_isSign 6 = .ok (.ifCond .lt 7, 3) := by decide +kernel
theorem d_Cutter_isSign_9 : decode b_Cutter_isSign 9 = .ok (.iconst 1, 1) := by decide +kernel
theorem d_Cutter_isSign_10 : decode b_Cutter_isSign 10 = .ok (.goto 4, 3) := by decide +kernel
theorem d_Cutter_isSign_13 : decode b_Cutter_isSign 13 = .ok (.iconst 0, 1) := by decide +kernel
theorem d_Cutter_isSign_14 : decode b_Cutter_isSign 14 = .ok (.ireturn, 1) := by decide +kernel
theorem d_Open_init_0 : decode b_Open_init 0 = .ok (.aload_n 0, 1) := by decide +kernel
theorem d_Open_init_1 : decode b_Open_init 1 = .ok (.invokespecial 3, 3) := by decide +kernel
theorem d_Open_init_4 : decode b_Open_init 4 = .ok (.aload_n 0, 1) := by decide +kernel
theorem d_Open_init_5 : decode b_Open_init 5 = .ok (.sipush 181, 3) := by decide +kernel
theorem d_Open_init_8 : decode b_Open_init 8 = .ok (.newarray .int, 2) := by decide +kernel
theorem d_Open_init_10 : decode b_Open_init 10 = .ok (.putfield 9, 3) := by decide +kernel
theorem d_Open_init_13 : decode b_Open_init 13 = .ok (.return_, 1) := by decide +kernel
theorem d_Open_clear_0 : decode b_Open_clear 0 = .ok (.aload_n 0, 1) := by decide +kernel
theorem d_Open_clear_1 : decode b_Open_clear 1 = .ok (.iconst 0, 1) := by decide +kernel
theorem d_Open_clear_2 : decode b_Open_clear 2 = .ok (.putfield 15, 3) := by decide +kernel
theorem d_Open_clear_5 : decode b_Open_clear 5 = .ok (.aload_n 0, 1) := by decide +kernel
theorem d_Open_clear_6 : decode b_Open_clear 6 = .ok (.iconst 0, 1) := by decide +kernel
theorem d_Open_clear_7 : decode b_Open_clear 7 = .ok (.putfield 19, 3) := by decide +kernel
theorem d_Open_clear_10 : decode b_Open_clear 10 = .ok (.return_, 1) := by decide +kernel
theorem d_Open_size_0 : decode b_Open_size 0 = .ok (.aload_n 0, 1) := by decide +kernel
theorem d_Open_size_1 : decode b_Open_size 1 = .ok (.getfield 15, 3) := by decide +kernel
theorem d_Open_size_4 : decode b_Open_size 4 = .ok (.ireturn, 1) := by decide +kernel
theorem d_Open_most_0 : decode b_Open_most 0 = .ok (.aload_n 0, 1) := by decide +kernel
theorem d_Open_most_1 : decode b_Open_most 1 = .ok (.getfield 19, 3) := by decide +kernel
theorem d_Open_most_4 : decode b_Open_most 4 = .ok (.ireturn, 1) := by decide +kernel
theorem d_Open_push_0 : decode b_Open_push 0 = .ok (.aload_n 0, 1) := by decide +kernel
theorem d_Open_push_1 : decode b_Open_push 1 = .ok (.getfield 15, 3) := by decide +kernel
theorem d_Open_push_4 : decode b_Open_push 4 = .ok (.sipush 181, 3) := by decide +kernel
theorem d_Open_push_7 : decode b_Open_push 7 = .ok (.if_icmp .ge 38, 3) := by decide +kernel
theorem d_Open_push_10 : decode b_Open_push 10 = .ok (.aload_n 0, 1) := by decide +kernel
theorem d_Open_push_11 : decode b_Open_push 11 = .ok (.getfield 9, 3) := by decide +kernel
theorem d_Open_push_14 : decode b_Open_push 14 = .ok (.aload_n 0, 1) := by decide +kernel
theorem d_Open_push_15 : decode b_Open_push 15 = .ok (.getfield 15, 3) := by decide +kernel
theorem d_Open_push_18 : decode b_Open_push 18 = .ok (.iload_n 1, 1) := by decide +kernel
theorem d_Open_push_19 : decode b_Open_push 19 = .ok (.iastore, 1) := by decide +kernel
theorem d_Open_push_20 : decode b_Open_push 20 = .ok (.aload_n 0, 1) := by decide +kernel
theorem d_Open_push_21 : decode b_Open_push 21 = .ok (.dup, 1) := by decide +kernel
theorem d_Open_push_22 : decode b_Open_push 22 = .ok (.getfield 15, 3) := by decide +kernel
theorem d_Open_push_25 : decode b_Open_push 25 = .ok (.iconst 1, 1) := by decide +kernel
theorem d_Open_push_26 : decode b_Open_push 26 = .ok (.iadd, 1) := by decide +kernel
theorem d_Open_push_27 : decode b_Open_push 27 = .ok (.putfield 15, 3) := by decide +kernel
theorem d_Open_push_30 : decode b_Open_push 30 = .ok (.aload_n 0, 1) := by decide +kernel
theorem d_Open_push_31 : decode b_Open_push 31 = .ok (.aload_n 0, 1) := by decide +kernel
theorem d_Open_push_32 : decode b_Open_push 32 = .ok (.getfield 19, 3) := by decide +kernel
theorem d_Open_push_35 : decode b_Open_push 35 = .ok (.aload_n 0, 1) := by decide +kernel
theorem d_Open_push_36 : decode b_Open_push 36 = .ok (.getfield 15, 3) := by decide +kernel
theorem d_Open_push_39 : decode b_Open_push 39 = .ok (.invokestatic 22, 3) := by decide +kernel
theorem d_Open_push_42 : decode b_Open_push 42 = .ok (.putfield 19, 3) := by decide +kernel
theorem d_Open_push_45 : decode b_Open_push 45 = .ok (.return_, 1) := by decide +kernel
theorem d_Open_pop_0 : decode b_Open_pop 0 = .ok (.aload_n 0, 1) := by decide +kernel
theorem d_Open_pop_1 : decode b_Open_pop 1 = .ok (.getfield 15, 3) := by decide +kernel
theorem d_Open_pop_4 : decode b_Open_pop 4 = .ok (.ifCond .le 13, 3) := by decide +kernel
theorem d_Open_pop_7 : decode b_Open_pop 7 = .ok (.aload_n 0, 1) := by decide +kernel
theorem d_Open_pop_8 : decode b_Open_pop 8 = .ok (.dup, 1) := by decide +kernel
theorem d_Open_pop_9 : decode b_Open_pop 9 = .ok (.getfield 15, 3) := by decide +kernel
theorem d_Open_pop_12 : decode b_Open_pop 12 = .ok (.iconst 1, 1) := by decide +kernel
theorem d_Open_pop_13 : decode b_Open_pop 13 = .ok (.isub, 1) := by decide +kernel
theorem d_Open_pop_14 : decode b_Open_pop 14 = .ok (.putfield 15, 3) := by decide +kernel
theorem d_Open_pop_17 : decode b_Open_pop 17 = .ok (.return_, 1) := by decide +kernel
theorem d_Open_top_0 : decode b_Open_top 0 = .ok (.aload_n 0, 1) := by decide +kernel
theorem d_Open_top_1 : decode b_Open_top 1 = .ok (.aload_n 0, 1) := by decide +kernel
theorem d_Open_top_2 : decode b_Open_top 2 = .ok (.getfield 15, 3) := by decide +kernel
theorem d_Open_top_5 : decode b_Open_top 5 = .ok (.iconst 1, 1) := by decide +kernel
theorem d_Open_top_6 : decode b_Open_top 6 = .ok (.isub, 1) := by decide +kernel
theorem d_Open_top_7 : decode b_Open_top 7 = .ok (.invokevirtual 28, 3) := by decide +kernel
theorem d_Open_top_10 : decode b_Open_top 10 = .ok (.ireturn, 1) := by decide +kernel
theorem d_Open_at_0 : decode b_Open_at 0 = .ok (.iload_n 1, 1) := by decide +kernel
theorem d_Open_at_1 : decode b_Open_at 1 = .ok (.ifCond .lt 20, 3) := by decide +kernel
theorem d_Open_at_4 : decode b_Open_at 4 = .ok (.iload_n 1, 1) := by decide +kernel
theorem d_Open_at_5 : decode b_Open_at 5 = .ok (.aload_n 0, 1) := by decide +kernel
theorem d_Open_at_6 : decode b_Open_at 6 = .ok (.getfield 15, 3) := by decide +kernel
theorem d_Open_at_9 : decode b_Open_at 9 = .ok (.if_icmp .ge 12, 3) := by decide +kernel
theorem d_Open_at_12 : decode b_Open_at 12 = .ok (.aload_n 0, 1) := by decide +kernel
theorem d_Open_at_13 : decode b_Open_at 13 = .ok (.getfield 9, 3) := by decide +kernel
theorem d_Open_at_16 : decode b_Open_at 16 = .ok (.iload_n 1, 1) := by decide +kernel
theorem d_Open_at_17 : decode b_Open_at 17 = .ok (.iaload, 1) := by decide +kernel
theorem d_Open_at_18 : decode b_Open_at 18 = .ok (.goto 5, 3) := by decide +kernel
theorem d_Open_at_21 : decode b_Open_at 21 = .ok (.bipush (-7), 2) := by decide +kernel
theorem d_Open_at_23 : decode b_Open_at 23 = .ok (.ireturn, 1) := by decide +kernel
theorem d_Open_belowLets_0 : decode b_Open_belowLets 0 = .ok (.aload_n 0, 1) := by decide +kernel
theorem d_Open_belowLets_1 : decode b_Open_belowLets 1 = .ok (.getfield 15, 3) := by decide +kernel
theorem d_Open_belowLets_4 : decode b_Open_belowLets 4 = .ok (.iconst 1, 1) := by decide +kernel
theorem d_Open_belowLets_5 : decode b_Open_belowLets 5 = .ok (.isub, 1) := by decide +kernel
theorem d_Open_belowLets_6 : decode b_Open_belowLets 6 = .ok (.istore_n 1, 1) := by decide +kernel
theorem d_Open_belowLets_7 : decode b_Open_belowLets 7 = .ok (.iload_n 1, 1) := by decide +kernel
theorem d_Open_belowLets_8 : decode b_Open_belowLets 8 = .ok (.ifCond .lt 18, 3) := by decide +kernel
theorem d_Open_belowLets_11 : decode b_Open_belowLets 11 = .ok (.aload_n 0, 1) := by decide +kernel
theorem d_Open_belowLets_12 : decode b_Open_belowLets 12 = .ok (.iload_n 1, 1) := by decide +kernel
theorem d_Open_belowLets_13 : decode b_Open_belowLets 13 = .ok (.invokevirtual 28, 3) := by decide +kernel
theorem d_Open_belowLets_16 : decode b_Open_belowLets 16 = .ok (.iconst (-1), 1) := by decide +kernel
theorem d_Open_belowLets_17 : decode b_Open_belowLets 17 = .ok (.if_icmp .ne 9, 3) := by decide +kernel
theorem d_Open_belowLets_20 : decode b_Open_belowLets 20 = .ok (.iinc 1 (-1), 3) := by decide +kernel
theorem d_Open_belowLets_23 : decode b_Open_belowLets 23 = .ok (.goto (-16), 3) := by decide +kernel
theorem d_Open_belowLets_26 : decode b_Open_belowLets 26 = .ok (.aload_n 0, 1) := by decide +kernel
theorem d_Open_belowLets_27 : decode b_Open_belowLets 27 = .ok (.iload_n 1, 1) := by decide +kernel
theorem d_Open_belowLets_28 : decode b_Open_belowLets 28 = .ok (.invokevirtual 28, 3) := by decide +kernel
theorem d_Open_belowLets_31 : decode b_Open_belowLets 31 = .ok (.ireturn, 1) := by decide +kernel
theorem d_Open_belowLetsAndLaidBlocks_0 : decode b_Open_belowLetsAndLaidBlocks 0 = .ok (.aload_n 0, 1) := by decide +kernel
theorem d_Open_belowLetsAndLaidBlocks_1 : decode b_Open_belowLetsAndLaidBlocks 1 = .ok (.getfield 15, 3) := by decide +kernel
theorem d_Open_belowLetsAndLaidBlocks_4 : decode b_Open_belowLetsAndLaidBlocks 4 = .ok (.iconst 1, 1) := by decide +kernel
theorem d_Open_belowLetsAndLaidBlocks_5 : decode b_Open_belowLetsAndLaidBlocks 5 = .ok (.isub, 1) := by decide +kernel
theorem d_Open_belowLetsAndLaidBlocks_6 : decode b_Open_belowLetsAndLaidBlocks 6 = .ok (.istore_n 1, 1) := by decide +kernel
theorem d_Open_belowLetsAndLaidBlocks_7 : decode b_Open_belowLetsAndLaidBlocks 7 = .ok (.iload_n 1, 1) := by decide +kernel
theorem d_Open_belowLetsAndLaidBlocks_8 : decode b_Open_belowLetsAndLaidBlocks 8 = .ok (.ifCond .lt 26, 3) := by decide +kernel
theorem d_Open_belowLetsAndLaidBlocks_11 : decode b_Open_belowLetsAndLaidBlocks 11 = .ok (.aload_n 0, 1) := by decide +kernel
theorem d_Open_belowLetsAndLaidBlocks_12 : decode b_Open_belowLetsAndLaidBlocks 12 = .ok (.iload_n 1, 1) := by decide +kernel
theorem d_Open_belowLetsAndLaidBlocks_13 : decode b_Open_belowLetsAndLaidBlocks 13 = .ok (.invokevirtual 28, 3) := by decide +kernel
theorem d_Open_belowLetsAndLaidBlocks_16 : decode b_Open_belowLetsAndLaidBlocks 16 = .ok (.iconst (-1), 1) := by decide +kernel
theorem d_Open_belowLetsAndLaidBlocks_17 : decode b_Open_belowLetsAndLaidBlocks 17 = .ok (.if_icmp .eq 11, 3) := by decide +kernel
theorem d_Open_belowLetsAndLaidBlocks_20 : decode b_Open_belowLetsAndLaidBlocks 20 = .ok (.aload_n 0, 1) := by decide +kernel
theorem d_Open_belowLetsAndLaidBlocks_21 : decode b_Open_belowLetsAndLaidBlocks 21 = .ok (.iload_n 1, 1) := by decide +kernel
theorem d_Open_belowLetsAndLaidBlocks_22 : decode b_Open_belowLetsAndLaidBlocks 22 = .ok (.invokevirtual 28, 3) := by decide +kernel
theorem d_Open_belowLetsAndLaidBlocks_25 : decode b_Open_belowLetsAndLaidBlocks 25 = .ok (.ifCond .le 9, 3) := by decide +kernel
theorem d_Open_belowLetsAndLaidBlocks_28 : decode b_Open_belowLetsAndLaidBlocks 28 = .ok (.iinc 1 (-1), 3) := by decide +kernel
theorem d_Open_belowLetsAndLaidBlocks_31 : decode b_Open_belowLetsAndLaidBlocks 31 = .ok (.goto (-24), 3) := by decide +kernel
theorem d_Open_belowLetsAndLaidBlocks_34 : decode b_Open_belowLetsAndLaidBlocks 34 = .ok (.aload_n 0, 1) := by decide +kernel
theorem d_Open_belowLetsAndLaidBlocks_35 : decode b_Open_belowLetsAndLaidBlocks 35 = .ok (.iload_n 1, 1) := by decide +kernel
theorem d_Open_belowLetsAndLaidBlocks_36 : decode b_Open_belowLetsAndLaidBlocks 36 = .ok (.invokevirtual 28, 3) := by decide +kernel
theorem d_Open_belowLetsAndLaidBlocks_39 : decode b_Open_belowLetsAndLaidBlocks 39 = .ok (.ireturn, 1) := by decide +kernel
theorem d_Open_dropLets_0 : decode b_Open_dropLets 0 = .ok (.aload_n 0, 1) := by decide +kernel
theorem d_Open_dropLets_1 : decode b_Open_dropLets 1 = .ok (.getfield 15, 3) := by decide +kernel
theorem d_Open_dropLets_4 : decode b_Open_dropLets 4 = .ok (.ifCond .le 30, 3) := by decide +kernel
theorem d_Open_dropLets_7 : decode b_Open_dropLets 7 = .ok (.aload_n 0, 1) := by decide +kernel
theorem d_Open_dropLets_8 : decode b_Open_dropLets 8 = .ok (.aload_n 0, 1) := by decide +kernel
theorem d_Open_dropLets_9 : decode b_Open_dropLets 9 = .ok (.getfield 15, 3) := by decide +kernel
theorem d_Open_dropLets_12 : decode b_Open_dropLets 12 = .ok (.iconst 1, 1) := by decide +kernel
theorem d_Open_dropLets_13 : decode b_Open_dropLets 13 = .ok (.isub, 1) := by decide +kernel
theorem d_Open_dropLets_14 : decode b_Open_dropLets 14 = .ok (.invokevirtual 28, 3) := by decide +kernel
theorem d_Open_dropLets_17 : decode b_Open_dropLets 17 = .ok (.iconst (-1), 1) := by decide +kernel
theorem d_Open_dropLets_18 : decode b_Open_dropLets 18 = .ok (.if_icmp .ne 16, 3) := by decide +kernel
theorem d_Open_dropLets_21 : decode b_Open_dropLets 21 = .ok (.aload_n 0, 1) := by decide +kernel
theorem d_Open_dropLets_22 : decode b_Open_dropLets 22 = .ok (.dup, 1) := by decide +kernel
theorem d_Open_dropLets_23 : decode b_Open_dropLets 23 = .ok (.getfield 15, 3) := by decide +kernel
theorem d_Open_dropLets_26 : decode b_Open_dropLets 26 = .ok (.iconst 1, 1) := by decide +kernel
theorem d_Open_dropLets_27 : decode b_Open_dropLets 27 = .ok (.isub, 1) := by decide +kernel
theorem d_Open_dropLets_28 : decode b_Open_dropLets 28 = .ok (.putfield 15, 3) := by decide +kernel
theorem d_Open_dropLets_31 : decode b_Open_dropLets 31 = .ok (.goto (-31), 3) := by decide +kernel
theorem d_Open_dropLets_34 : decode b_Open_dropLets 34 = .ok (.return_, 1) := by decide +kernel
theorem d_Open_latestColumn_0 : decode b_Open_latestColumn 0 = .ok (.aload_n 0, 1) := by decide +kernel
theorem d_Open_latestColumn_1 : decode b_Open_latestColumn 1 = .ok (.getfield 15, 3) := by decide +kernel
theorem d_Open_latestColumn_4 : decode b_Open_latestColumn 4 = .ok (.iconst 1, 1) := by decide +kernel
theorem d_Open_latestColumn_5 : decode b_Open_latestColumn 5 = .ok (.isub, 1) := by decide +kernel
theorem d_Open_latestColumn_6 : decode b_Open_latestColumn 6 = .ok (.istore_n 1, 1) := by decide +kernel
theorem d_Open_latestColumn_7 : decode b_Open_latestColumn 7 = .ok (.iload_n 1, 1) := by decide +kernel
theorem d_Open_latestColumn_8 : decode b_Open_latestColumn 8 = .ok (.ifCond .lt 23, 3) := by decide +kernel
theorem d_Open_latestColumn_11 : decode b_Open_latestColumn 11 = .ok (.aload_n 0, 1) := by decide +kernel
theorem d_Open_latestColumn_12 : decode b_Open_latestColumn 12 = .ok (.iload_n 1, 1) := by decide +kernel
theorem d_Open_latestColumn_13 : decode b_Open_latestColumn 13 = .ok (.invokevirtual 28, 3) := by decide +kernel
theorem d_Open_latestColumn_16 : decode b_Open_latestColumn 16 = .ok (.ifCond .lt 9, 3) := by decide +kernel
theorem d_Open_latestColumn_19 : decode b_Open_latestColumn 19 = .ok (.aload_n 0, 1) := by decide +kernel
theorem d_Open_latestColumn_20 : decode b_Open_latestColumn 20 = .ok (.iload_n 1, 1) := by decide +kernel
theorem d_Open_latestColumn_21 : decode b_Open_latestColumn 21 = .ok (.invokevirtual 28, 3) := by decide +kernel
theorem d_Open_latestColumn_24 : decode b_Open_latestColumn 24 = .ok (.ireturn, 1) := by decide +kernel
theorem d_Open_latestColumn_25 : decode b_Open_latestColumn 25 = .ok (.iinc 1 (-1), 3) := by decide +kernel
theorem d_Open_latestColumn_28 : decode b_Open_latestColumn 28 = .ok (.goto (-21), 3) := by decide +kernel
theorem d_Open_latestColumn_31 : decode b_Open_latestColumn 31 = .ok (.iconst 0, 1) := by decide +kernel
theorem d_Open_latestColumn_32 : decode b_Open_latestColumn 32 = .ok (.ireturn, 1) := by decide +kernel
theorem d_Blocks_init_0 : decode b_Blocks_init 0 = .ok (.aload_n 0, 1) := by decide +kernel
theorem d_Blocks_init_1 : decode b_Blocks_init 1 = .ok (.invokespecial 3, 3) := by decide +kernel
theorem d_Blocks_init_4 : decode b_Blocks_init 4 = .ok (.aload_n 0, 1) := by decide +kernel
theorem d_Blocks_init_5 : decode b_Blocks_init 5 = .ok (.new 9, 3) := by decide +kernel
theorem d_Blocks_init_8 : decode b_Blocks_init 8 = .ok (.dup, 1) := by decide +kernel
theorem d_Blocks_init_9 : decode b_Blocks_init 9 = .ok (.invokespecial 11, 3) := by decide +kernel
theorem d_Blocks_init_12 : decode b_Blocks_init 12 = .ok (.putfield 12, 3) := by decide +kernel
theorem d_Blocks_init_15 : decode b_Blocks_init 15 = .ok (.aload_n 0, 1) := by decide +kernel
theorem d_Blocks_init_16 : decode b_Blocks_init 16 = .ok (.new 18, 3) := by decide +kernel
theorem d_Blocks_init_19 : decode b_Blocks_init 19 = .ok (.dup, 1) := by decide +kernel
theorem d_Blocks_init_20 : decode b_Blocks_init 20 = .ok (.sipush 362, 3) := by decide +kernel
theorem d_Blocks_init_23 : decode b_Blocks_init 23 = .ok (.invokespecial 20, 3) := by decide +kernel
theorem d_Blocks_init_26 : decode b_Blocks_init 26 = .ok (.putfield 23, 3) := by decide +kernel
theorem d_Blocks_init_29 : decode b_Blocks_init 29 = .ok (.return_, 1) := by decide +kernel
theorem d_Blocks_laid_0 : decode b_Blocks_laid 0 = .ok (.aload_n 0, 1) := by decide +kernel
theorem d_Blocks_laid_1 : decode b_Blocks_laid 1 = .ok (.getfield 23, 3) := by decide +kernel
theorem d_Blocks_laid_4 : decode b_Blocks_laid 4 = .ok (.areturn, 1) := by decide +kernel
theorem d_Blocks_begun_0 : decode b_Blocks_begun 0 = .ok (.aload_n 0, 1) := by decide +kernel
theorem d_Blocks_begun_1 : decode b_Blocks_begun 1 = .ok (.getfield 27, 3) := by decide +kernel
theorem d_Blocks_begun_4 : decode b_Blocks_begun 4 = .ok (.ireturn, 1) := by decide +kernel
theorem d_Blocks_mostOpen_0 : decode b_Blocks_mostOpen 0 = .ok (.aload_n 0, 1) := by decide +kernel
theorem d_Blocks_mostOpen_1 : decode b_Blocks_mostOpen 1 = .ok (.getfield 12, 3) := by decide +kernel
theorem d_Blocks_mostOpen_4 : decode b_Blocks_mostOpen 4 = .ok (.invokevirtual 31, 3) := by decide +kernel
theorem d_Blocks_mostOpen_7 : decode b_Blocks_mostOpen 7 = .ok (.ireturn, 1) := by decide +kernel
theorem d_Blocks_lay_0 : decode b_Blocks_lay 0 = .ok (.aload_n 0, 1) := by decide +kernel
theorem d_Blocks_lay_1 : decode b_Blocks_lay 1 = .ok (.getfield 12, 3) := by decide +kernel
theorem d_Blocks_lay_4 : decode b_Blocks_lay 4 = .ok (.invokevirtual 35, 3) := by decide +kernel
theorem d_Blocks_lay_7 : decode b_Blocks_lay 7 = .ok (.aload_n 0, 1) := by decide +kernel
theorem d_Blocks_lay_8 : decode b_Blocks_lay 8 = .ok (.getfield 23, 3) := by decide +kernel
theorem d_Blocks_lay_11 : decode b_Blocks_lay 11 = .ok (.invokevirtual 38, 3) := by decide +kernel
theorem d_Blocks_lay_14 : decode b_Blocks_lay 14 = .ok (.aload_n 0, 1) := by decide +kernel
theorem d_Blocks_lay_15 : decode b_Blocks_lay 15 = .ok (.iconst 0, 1) := by decide +kernel
theorem d_Blocks_lay_16 : decode b_Blocks_lay 16 = .ok (.putfield 27, 3) := by decide +kernel
theorem d_Blocks_lay_19 : decode b_Blocks_lay 19 = .ok (.iconst 0, 1) := by decide +kernel
theorem d_Blocks_lay_20 : decode b_Blocks_lay 20 = .ok (.istore_n 3, 1) := by decide +kernel
theorem d_Blocks_lay_21 : decode b_Blocks_lay 21 = .ok (.iload_n 3, 1) := by decide +kernel
theorem d_Blocks_lay_22 : decode b_Blocks_lay 22 = .ok (.aload_n 1, 1) := by decide +kernel
theorem d_Blocks_lay_23 : decode b_Blocks_lay 23 = .ok (.invokevirtual 39, 3) := by decide +kernel
theorem d_Blocks_lay_26 : decode b_Blocks_lay 26 = .ok (.if_icmp .ge 88, 3) := by decide +kernel
theorem d_Blocks_lay_29 : decode b_Blocks_lay 29 = .ok (.aload_n 0, 1) := by decide +kernel
theorem d_Blocks_lay_30 : decode b_Blocks_lay 30 = .ok (.aload_n 1, 1) := by decide +kernel
theorem d_Blocks_lay_31 : decode b_Blocks_lay 31 = .ok (.iload_n 3, 1) := by decide +kernel
theorem d_Blocks_lay_32 : decode b_Blocks_lay 32 = .ok (.invokevirtual 44, 3) := by decide +kernel
theorem d_Blocks_lay_35 : decode b_Blocks_lay 35 = .ok (.aload_n 1, 1) := by decide +kernel
theorem d_Blocks_lay_36 : decode b_Blocks_lay 36 = .ok (.invokevirtual 48, 3) := by decide +kernel
theorem d_Blocks_lay_39 : decode b_Blocks_lay 39 = .ok (.iload_n 3, 1) := by decide +kernel
theorem d_Blocks_lay_40 : decode b_Blocks_lay 40 = .ok (.invokevirtual 52, 3) := by decide +kernel
theorem d_Blocks_lay_43 : decode b_Blocks_lay 43 = .ok (.istore 4, 2) := by decide +kernel
theorem d_Blocks_lay_45 : decode b_Blocks_lay 45 = .ok (.aload_n 1, 1) := by decide +kernel
theorem d_Blocks_lay_46 : decode b_Blocks_lay 46 = .ok (.invokevirtual 48, 3) := by decide +kernel
theorem d_Blocks_lay_49 : decode b_Blocks_lay 49 = .ok (.iload_n 3, 1) := by decide +kernel
theorem d_Blocks_lay_50 : decode b_Blocks_lay 50 = .ok (.invokevirtual 56, 3) := by decide +kernel
theorem d_Blocks_lay_53 : decode b_Blocks_lay 53 = .ok (.lstore 5, 2) := by decide +kernel
theorem d_Blocks_lay_55 : decode b_Blocks_lay 55 = .ok (.iload 4, 2) := by decide +kernel
theorem d_Blocks_lay_57 : decode b_Blocks_lay 57 = .ok (.iconst 3, 1) := by decide +kernel
theorem d_Blocks_lay_58 : decode b_Blocks_lay 58 = .ok (.if_icmp .ne 14, 3) := by decide +kernel
theorem d_Blocks_lay_61 : decode b_Blocks_lay 61 = .ok (.aload_n 0, 1) := by decide +kernel
theorem d_Blocks_lay_62 : decode b_Blocks_lay 62 = .ok (.lload 5, 2) := by decide +kernel
theorem d_Blocks_lay_64 : decode b_Blocks_lay 64 = .ok (.l2i, 1) := by decide +kernel
theorem d_Blocks_lay_65 : decode b_Blocks_lay 65 = .ok (.i2c, 1) := by decide +kernel
theorem d_Blocks_lay_66 : decode b_Blocks_lay 66 = .ok (.invokevirtual 60, 3) := by decide +kernel
theorem d_Blocks_lay_69 : decode b_Blocks_lay 69 = .ok (.goto 15, 3) := by decide +kernel
theorem d_Blocks_lay_72 : decode b_Blocks_lay 72 = .ok (.aload_n 0, 1) := by decide +kernel
theorem d_Blocks_lay_73 : decode b_Blocks_lay 73 = .ok (.aload_n 1, 1) := by decide +kernel
