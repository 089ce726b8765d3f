theorem d_Cutter_isLetter_21 : decode b_Cutter_isLetter 21 = .ok (.if_icmp .le 9, 3) := by decide +kernel
theorem d_Cutter_isLetter_24 : decode b_Cutter_isLetter 24 = .ok (.iload_n 0, 1) := by decide +kernel
theorem d_Cutter_isLetter_25 : decode b_Cutter_isLetter 25 = .ok (.bipush 95, 2) := by decide +kernel
theorem d_Cutter_isLetter_27 : decode b_Cutter_isLetter 27 = .ok (.if_icmp .ne 7, 3) := by decide +kernel
theorem d_Cutter_isLetter_30 : decode b_Cutter_isLetter 30 = .ok (.iconst 1, 1) := by decide +kernel
theorem d_Cutter_isLetter_31 : decode b_Cutter_isLetter 31 = .ok (.goto 4, 3) := by decide +kernel
theorem d_Cutter_isLetter_34 : decode b_Cutter_isLetter 34 = .ok (.iconst 0, 1) := by decide +kernel
theorem d_Cutter_isLetter_35 : decode b_Cutter_isLetter 35 = .ok (.ireturn, 1) := by decide +kernel
theorem d_Cutter_isDigit_0 : decode b_Cutter_isDigit 0 = .ok (.iload_n 0, 1) := by decide +kernel
theorem d_Cutter_isDigit_1 : decode b_Cutter_isDigit 1 = .ok (.bipush 48, 2) := by decide +kernel
theorem d_Cutter_isDigit_3 : decode b_Cutter_isDigit 3 = .ok (.if_icmp .lt 13, 3) := by decide +kernel
theorem d_Cutter_isDigit_6 : decode b_Cutter_isDigit 6 = .ok (.iload_n 0, 1) := by decide +kernel
theorem d_Cutter_isDigit_7 : decode b_Cutter_isDigit 7 = .ok (.bipush 57, 2) := by decide +kernel
theorem d_Cutter_isDigit_9 : decode b_Cutter_isDigit 9 = .ok (.if_icmp .gt 7, 3) := by decide +kernel
theorem d_Cutter_isDigit_12 : decode b_Cutter_isDigit 12 = .ok (.iconst 1, 1) := by decide +kernel
theorem d_Cutter_isDigit_13 : decode b_Cutter_isDigit 13 = .ok (.goto 4, 3) := by decide +kernel
theorem d_Cutter_isDigit_16 : decode b_Cutter_isDigit 16 = .ok (.iconst 0, 1) := by decide +kernel
theorem d_Cutter_isDigit_17 : decode b_Cutter_isDigit 17 = .ok (.ireturn, 1) := by decide +kernel
theorem d_Cutter_isOperatorPart_0 : decode b_Cutter_isOperatorPart 0 = .ok (.ldc 122, 2) := by decide +kernel
theorem d_Cutter_isOperatorPart_2 : decode b_Cutter_isOperatorPart 2 = .ok (.iload_n 0, 1) := by decide +kernel
theorem d_Cutter_isOperatorPart_3 : decode b_Cutter_isOperatorPart 3 = .ok (.invokevirtual 124, 3) := by decide +kernel
theorem d_Cutter_isOperatorPart_6 : decode b_Cutter_isOperatorPart 6 = .ok (.ifCond .lt 7, 3) := by decide +kernel
theorem d_Cutter_isOperatorPart_9 : decode b_Cutter_isOperatorPart 9 = .ok (.iconst 1, 1) := by decide +kernel
theorem d_Cutter_isOperatorPart_10 : decode b_Cutter_isOperatorPart 10 = .ok (.goto 4, 3) := by decide +kernel
theorem d_Cutter_isOperatorPart_13 : decode b_Cutter_isOperatorPart 13 = .ok (.iconst 0, 1) := by decide +kernel
theorem d_Cutter_isOperatorPart_14 : decode b_Cutter_isOperatorPart 14 = .ok (.ireturn, 1) := by decide +kernel
theorem d_Cutter_isSign_0 : decode b_Cutter_isSign 0 = .ok (.ldc 129, 2) := by decide +kernel
theorem d_Cutter_isSign_2 : decode b_Cutter_isSign 2 = .ok (.iload_n 0, 1) := by decide +kernel
theorem d_Cutter_isSign_3 : decode b_Cutter_isSign 3 = .ok (.invokevirtual 124, 3) := by decide +kernel
theorem d_Cutter_isSign_6 : decode b_Cutter_isSign 6 = .ok (.ifCond .lt 7, 3) := by decide +kernel
theorem d_Cutter_isSign_9 : decode b_Cutter_isSign 9 = .ok (.iconst 1, 1) := by decide +kernel
theorem d_Cutter_isSign_10 : decode b_Cutter_isSign 10 = .ok (.goto 4, 3) := by decide +kernel
theorem d_Cutter_isSign_13 : decode b_Cutter_isSign 13 = .ok (.iconst 0, 1) := by decide +kernel
theorem d_Cutter_isSign_14 : decode b_Cutter_isSign 14 = .ok (.ireturn, 1) := by decide +kernel
theorem d_Open_init_0 : decode b_Open_init 0 = .ok (.aload_n 0, 1) := by decide +kernel
theorem d_Open_init_1 : decode b_Open_init 1 = .ok (.invokespecial 3, 3) := by decide +kernel
theorem d_Open_init_4 : decode b_Open_init 4 = .ok (.aload_n 0, 1) := by decide +kernel
theorem d_Open_init_5 : decode b_Open_init 5 = .ok (.sipush 181, 3) := by decide +kernel
theorem d_Open_init_8 : decode b_Open_init 8 = .ok (.newarray .int, 2) := by decide +kernel
theorem d_Open_init_10 : decode b_Open_init 10 = .ok (.putfield 9, 3) := by decide +kernel
theorem d_Open_init_13 : decode b_Open_init 13 = .ok (.return_, 1) := by decide +kernel
theorem d_Open_clear_0 : decode b_Open_clear 0 = .ok (.aload_n 0, 1) := by decide +kernel
theorem d_Open_clear_1 : decode b_Open_clear 1 = .ok (.iconst 0, 1) := by decide +kernel
theorem d_Open_clear_2 : decode b_Open_clear 2 = .ok (.putfield 15, 3) := by decide +kernel
theorem d_Open_clear_5 : decode b_Open_clear 5 = .ok (.aload_n 0, 1) := by decide +kernel
theorem d_Open_clear_6 : decode b_Open_clear 6 = .ok (.iconst 0, 1) := by decide +kernel
theorem d_Open_clear_7 : decode b_Open_clear 7 = .ok (.putfield 19, 3) := by decide +kernel
theorem d_Open_clear_10 : decode b_Open_clear 10 = .ok (.return_, 1) := by decide +kernel
theorem d_Open_size_0 : decode b_Open_size 0 = .ok (.aload_n 0, 1) := by decide +kernel
theorem d_Open_size_1 : decode b_Open_size 1 = .ok (.getfield 15, 3) := by decide +kernel
theorem d_Open_size_4 : decode b_Open_size 4 = .ok (.ireturn, 1) := by decide +kernel
theorem d_Open_most_0 : decode b_Open_most 0 = .ok (.aload_n 0, 1) := by decide +kernel
theorem d_Open_most_1 : decode b_Open_most 1 = .ok (.getfield 19, 3) := by decide +kernel
theorem d_Open_most_4 : decode b_Open_most 4 = .ok (.ireturn, 1) := by decide +kernel
theorem d_Open_push_0 : decode b_Open_push 0 = .ok (.aload_n 0, 1) := by decide +kernel
theorem d_Open_push_1 : decode b_Open_push 1 = .ok (.getfield 15, 3) := by decide +kernel
theorem d_Open_push_4 : decode b_Open_push 4 = .ok (.sipush 181, 3) := by decide +kernel
theorem d_Open_push_7 : decode b_Open_push 7 = .ok (.if_icmp .ge 38, 3) := by decide +kernel
theorem d_Open_push_10 : decode b_Open_push 10 = .ok (.aload_n 0, 1) := by decide +kernel
theorem d_Open_push_11 : decode b_Open_push 11 = .ok (.getfield 9, 3) := by decide +kernel
theorem d_Open_push_14 : decode b_Open_push 14 = .ok (.aload_n 0, 1) := by decide +kernel
theorem d_Open_push_15 : decode b_Open_push 15 = .ok (.getfield 15, 3) := by decide +kernel
theorem d_Open_push_18 : decode b_Open_push 18 = .ok (.iload_n 1, 1) := by decide +kernel
theorem d_Open_push_19 : decode b_Open_push 19 = .ok (.iastore, 1) := by decide +kernel
theorem d_Open_push_20 : decode b_Open_push 20 = .ok (.aload_n 0, 1) := by decide +kernel
theorem d_Open_push_21 : decode b_Open_push 21 = .ok (.dup, 1) := by decide +kernel
theorem d_Open_push_22 : decode b_Open_push 22 = .ok (.getfield 15, 3) := by decide +kernel
theorem d_Open_push_25 : decode b_Open_push 25 = .ok (.iconst 1, 1) := by decide +kernel
theorem d_Open_push_26 : decode b_Open_push 26 = .ok (.iadd, 1) := by decide +kernel
theorem d_Open_push_27 : decode b_Open_push 27 = .ok (.putfield 15, 3) := by decide +kernel
theorem d_Open_push_30 : decode b_Open_push 30 = .ok (.aload_n 0, 1) := by decide +kernel
theorem d_Open_push_31 : decode b_Open_push 31 = .ok (.aload_n 0, 1) := by decide +kernel
theorem d_Open_push_32 : decode b_Open_push 32 = .ok (.getfield 19, 3) := by decide +kernel
theorem d_Open_push_35 : decode b_Open_push 35 = .ok (.aload_n 0, 1) := by decide +kernel
theorem d_Open_push_36 : decode b_Open_push 36 = .ok (.getfield 15, 3) := by decide +kernel
theorem d_Open_push_39 : decode b_Open_push 39 = .ok (.invokestatic 22, 3) := by decide +kernel
theorem d_Open_push_42 : decode b_Open_push 42 = .ok (.putfield 19, 3) := by decide +kernel
theorem d_Open_push_45 : decode b_Open_push 45 = .ok (.return_, 1) := by decide +kernel
theorem d_Open_pop_0 : decode b_Open_pop 0 = .ok (.aload_n 0, 1) := by decide +kernel
theorem d_Open_pop_1 : decode b_Open_pop 1 = .ok (.getfield 15, 3) := by decide +kernel
theorem d_Open_pop_4 : decode b_Open_pop 4 = .ok (.ifCond .le 13, 3) := by decide +kernel
theorem d_Open_pop_7 : decode b_Open_pop 7 = .ok (.aload_n 0, 1) := by decide +kernel
theorem d_Open_pop_8 : decode b_Open_pop 8 = .ok (.dup, 1) := by decide +kernel
theorem d_Open_pop_9 : decode b_Open_pop 9 = .ok (.getfield 15, 3) := by decide +kernel
theorem d_Open_pop_12 : decode b_Open_pop 12 = .ok (.iconst 1, 1) := by decide +kernel
theorem d_Open_pop_13 : decode b_Open_pop 13 = .ok (.isub, 1) := by decide +kernel
theorem d_Open_pop_14 : decode b_Open_pop 14 = .ok (.putfield 15, 3) := by decide +kernel
theorem d_Open_pop_17 : decode b_Open_pop 17 = .ok (.return_, 1) := by decide +kernel
theorem d_Open_top_0 : decode b_Open_top 0 = .ok (.aload_n 0, 1) := by decide +kernel
theorem d_Open_top_1 : decode b_Open_top 1 = .ok (.aload_n 0, 1) := by decide +kernel
theorem d_Open_top_2 : decode b_Open_top 2 = .ok (.getfield 15, 3) := by decide +kernel
theorem d_Open_top_5 : decode b_Open_top 5 = .ok (.iconst 1, 1) := by decide +kernel
theorem d_Open_top_6 : decode b_Open_top 6 = .ok (.isub, 1) := by decide +kernel
theorem d_Open_top_7 : decode b_Open_top 7 = .ok (.invokevirtual 28, 3) := by decide +kernel
theorem d_Open_top_10 : decode b_Open_top 10 = .ok (.ireturn, 1) := by decide +kernel
theorem d_Open_at_0 : decode b_Open_at 0 = .ok (.iload_n 1, 1) := by decide +kernel
theorem d_Open_at_1 : decode b_Open_at 1 = .ok (.ifCond .lt 20, 3) := by decide +kernel
theorem d_Open_at_4 : decode b_Open_at 4 = .ok (.iload_n 1, 1) := by decide +kernel
theorem d_Open_at_5 : decode b_Open_at 5 = .ok (.aload_n 0, 1) := by decide +kernel
theorem d_Open_at_6 : decode b_Open_at 6 = .ok (.getfield 15, 3) := by decide +kernel
theorem d_Open_at_9 : decode b_Open_at 9 = .ok (.if_icmp .ge 12, 3) := by decide +kernel
theorem d_Open_at_12 : decode b_Open_at 12 = .ok (.aload_n 0, 1) := by decide +kernel
theorem d_Open_at_13 : decode b_Open_at 13 = .ok (.getfield 9, 3) := by decide +kernel
theorem d_Open_at_16 : decode b_Open_at 16 = .ok (.iload_n 1, 1) := by decide +kernel
theorem d_Open_at_17 : decode b_Open_at 17 = .ok (.iaload, 1) := by decide +kernel
theorem d_Open_at_18 : decode b_Open_at 18 = .ok (.goto 5, 3) := by decide +kernel
theorem d_Open_at_21 : decode b_Open_at 21 = .ok (.bipush (-7), 2) := by decide +kernel
theorem d_Open_at_23 : decode b_Open_at 23 = .ok (.ireturn, 1) := by decide +kernel
theorem d_Open_belowLets_0 : decode b_Open_belowLets 0 = .ok (.aload_n 0, 1) := by decide +kernel
theorem d_Open_belowLets_1 : decode b_Open_belowLets 1 = .ok (.getfield 15, 3) := by decide +kernel
theorem d_Open_belowLets_4 : decode b_Open_belowLets 4 = .ok (.iconst 1, 1) := by decide +kernel
theorem d_Open_belowLets_5 : decode b_Open_belowLets 5 = .ok (.isub, 1) := by decide +kernel
theorem d_Open_belowLets_6 : decode b_Open_belowLets 6 = .ok (.istore_n 1, 1) := by decide +kernel
theorem d_Open_belowLets_7 : decode b_Open_belowLets 7 = .ok (.iload_n 1, 1) := by decide +kernel
theorem d_Open_belowLets_8 : decode b_Open_belowLets 8 = .ok (.ifCond .lt 18, 3) := by decide +kernel
theorem d_Open_belowLets_11 : decode b_Open_belowLets 11 = .ok (.aload_n 0, 1) := by decide +kernel
theorem d_Open_belowLets_12 : decode b_Open_belowLets 12 = .ok (.iload_n 1, 1) := by decide +kernel
theorem d_Open_belowLets_13 : decode b_Open_belowLets 13 = .ok (.invokevirtual 28, 3) := by decide +kernel
theorem d_Open_belowLets_16 : decode b_Open_belowLets 16 = .ok (.iconst (-1), 1) := by decide +kernel
theorem d_Open_belowLets_17 : decode b_Open_belowLets 17 = .ok (.if_icmp .ne 9, 3) := by decide +kernel
theorem d_Open_belowLets_20 : decode b_Open_belowLets 20 = .ok (.iinc 1 (-1), 3) := by decide +kernel
theorem d_Open_belowLets_23 : decode b_Open_belowLets 23 = .ok (.goto (-16), 3) := by decide +kernel
theorem d_Open_belowLets_26 : decode b_Open_belowLets 26 = .ok (.aload_n 0, 1) := by decide +kernel
theorem d_Open_belowLets_27 : decode b_Open_belowLets 27 = .ok (.iload_n 1, 1) := by decide +kernel
theorem d_Open_belowLets_28 : decode b_Open_belowLets 28 = .ok (.invokevirtual 28, 3) := by decide +kernel
theorem d_Open_belowLets_31 : decode b_Open_belowLets 31 = .ok (.ireturn, 1) := by decide +kernel
theorem d_Open_belowLetsAndLaidBlocks_0 : decode b_Open_belowLetsAndLaidBlocks 0 = .ok (.aload_n 0, 1) := by decide +kernel
theorem d_Open_belowLetsAndLaidBlocks_1 : decode b_Open_belowLetsAndLaidBlocks 1 = .ok (.getfield 15, 3) := by decide +kernel
theorem d_Open_belowLetsAndLaidBlocks_4 : decode b_Open_belowLetsAndLaidBlocks 4 = .ok (.iconst 1, 1) := by decide +kernel
theorem d_Open_belowLetsAndLaidBlocks_5 : decode b_Open_belowLetsAndLaidBlocks 5 = .ok (.isub, 1) := by decide +kernel
theorem d_Open_belowLetsAndLaidBlocks_6 : decode b_Open_belowLetsAndLaidBlocks 6 = .ok (.istore_n 1, 1) := by decide +kernel
theorem d_Open_belowLetsAndLaidBlocks_7 : decode b_Open_belowLetsAndLaidBlocks 7 = .ok (.iload_n 1, 1) := by decide +kernel
theorem d_Open_belowLetsAndLaidBlocks_8 : decode b_Open_belowLetsAndLaidBlocks 8 = .ok (.ifCond .lt 26, 3) := by decide +kernel
theorem d_Open_belowLetsAndLaidBlocks_11 : decode b_Open_belowLetsAndLaidBlocks 11 = .ok (.aload_n 0, 1) := by decide +kernel
theorem d_Open_belowLetsAndLaidBlocks_12 : decode b_Open_belowLetsAndLaidBlocks 12 = .ok (.iload_n 1, 1) := by decide +kernel
theorem d_Open_belowLetsAndLaidBlocks_13 : decode b_Open_belowLetsAndLaidBlocks 13 = .ok (.invokevirtual 28, 3) := by decide +kernel
theorem d_Open_belowLetsAndLaidBlocks_16 : decode b_Open_belowLetsAndLaidBlocks 16 = .ok (.iconst (-1), 1) := by decide +kernel
theorem d_Open_belowLetsAndLaidBlocks_17 : decode b_Open_belowLetsAndLaidBlocks 17 = .ok (.if_icmp .eq 11, 3) := by decide +kernel
theorem d_Open_belowLetsAndLaidBlocks_20 : decode b_Open_belowLetsAndLaidBlocks 20 = .ok (.aload_n 0, 1) := by decide +kernel
theorem d_Open_belowLetsAndLaidBlocks_21 : decode b_Open_belowLetsAndLaidBlocks 21 = .ok (.iload_n 1, 1) := by decide +kernel
theorem d_Open_belowLetsAndLaidBlocks_22 : decode b_Open_belowLetsAndLaidBlocks 22 = .ok (.invokevirtual 28, 3) := by decide +kernel
theorem d_Open_belowLetsAndLaidBlocks_25 : decode b_Open_belowLetsAndLaidBlocks 25 = .ok (.ifCond .le 9, 3) := by decide +kernel
theorem d_Open_belowLetsAndLaidBlocks_28 : decode b_Open_belowLetsAndLaidBlocks 28 = .ok (.iinc 1 (-1), 3) := by decide +kernel
theorem d_Open_belowLetsAndLaidBlocks_31 : decode b_Open_belowLetsAndLaidBlocks 31 = .ok (.goto (-24), 3) := by decide +kernel
theorem d_Open_belowLetsAndLaidBlocks_34 : decode b_Open_belowLetsAndLaidBlocks 34 = .ok (.aload_n 0, 1) := by decide +kernel
theorem d_Open_belowLetsAndLaidBlocks_35 : decode b_Open_belowLetsAndLaidBlocks 35 = .ok (.iload_n 1, 1) := by decide +kernel
theorem d_Open_belowLetsAndLaidBlocks_36 : decode b_Open_belowLetsAndLaidBlocks 36 = .ok (.invokevirtual 28, 3) := by decide +kernel
theorem d_Open_belowLetsAndLaidBlocks_39 : decode b_Open_belowLetsAndLaidBlocks 39 = .ok (.ireturn, 1) := by decide +kernel
theorem d_Open_dropLets_0 : decode b_Open_dropLets 0 = .ok (.aload_n 0, 1) := by decide +kernel
theorem d_Open_dropLets_1 : decode b_Open_dropLets 1 = .ok (.getfield 15, 3) := by decide +kernel
theorem d_Open_dropLets_4 : decode b_Open_dropLets 4 = .ok (.ifCond .le 30, 3) := by decide +kernel
theorem d_Open_dropLets_7 : decode b_Open_dropLets 7 = .ok (.aload_n 0, 1) := by decide +kernel
theorem d_Open_dropLets_8 : decode b_Open_dropLets 8 = .ok (.aload_n 0, 1) := by decide +kernel
theorem d_Open_dropLets_9 : decode b_Open_dropLets 9 = .ok (.getfield 15, 3) := by decide +kernel
theorem d_Open_dropLets_12 : decode b_Open_dropLets 12 = .ok (.iconst 1, 1) := by decide +kernel
theorem d_Open_dropLets_13 : decode b_Open_dropLets 13 = .ok (.isub, 1) := by decide +kernel
theorem d_Open_dropLets_14 : decode b_Open_dropLets 14 = .ok (.invokevirtual 28, 3) := by decide +kernel
theorem d_Open_dropLets_17 : decode b_Open_dropLets 17 = .ok (.iconst (-1), 1) := by decide +kernel
theorem d_Open_dropLets_18 : decode b_Open_dropLets 18 = .ok (.if_icmp .ne 16, 3) := by decide +kernel
theorem d_Open_dropLets_21 : decode b_Open_dropLets 21 = .ok (.aload_n 0, 1) := by decide +kernel
theorem d_Open_dropLets_22 : decode b_Open_dropLets 22 = .ok (.dup, 1) := by decide +kernel
theorem d_Open_dropLets_23 : decode b_Open_dropLets 23 = .ok (.getfield 15, 3) := by decide +kernel
theorem d_Open_dropLets_26 : decode b_Open_dropLets 26 = .ok (.iconst 1, 1) := by decide +kernel
theorem d_Open_dropLets_27 : decode b_Open_dropLets 27 = .ok (.isub, 1) := by decide +kernel
theorem d_Open_dropLets_28 : decode b_Open_dropLets 28 = .ok (.putfield 15, 3) := by decide +kernel
theorem d_Open_dropLets_31 : decode b_Open_dropLets 31 = .ok (.goto (-31), 3) := by decide +kernel
theorem d_Open_dropLets_34 : decode b_Open_dropLets 34 = .ok (.return_, 1) := by decide +kernel
theorem d_Open_latestColumn_0 : decode b_Open_latestColumn 0 = .ok (.aload_n 0, 1) := by decide +kernel
theorem d_Open_latestColumn_1 : decode b_Open_latestColumn 1 = .ok (.getfield 15, 3) := by decide +kernel
theorem d_Open_latestColumn_4 : decode b_Open_latestColumn 4 = .ok (.iconst 1, 1) := by decide +kernel
theorem d_Open_latestColumn_5 : decode b_Open_latestColumn 5 = .ok (.isub, 1) := by decide +kernel
theorem d_Open_latestColumn_6 : decode b_Open_latestColumn 6 = .ok (.istore_n 1, 1) := by decide +kernel
theorem d_Open_latestColumn_7 : decode b_Open_latestColumn 7 = .ok (.iload_n 1, 1) := by decide +kernel
theorem d_Open_latestColumn_8 : decode b_Open_latestColumn 8 = .ok (.ifCond .lt 23, 3) := by decide +kernel
theorem d_Open_latestColumn_11 : decode b_Open_latestColumn 11 = .ok (.aload_n 0, 1) := by decide +kernel
theorem d_Open_latestColumn_12 : decode b_Open_latestColumn 12 = .ok (.iload_n 1, 1) := by decide +kernel
theorem d_Open_latestColumn_13 : decode b_Open_latestColumn 13 = .ok (.invokevirtual 28, 3) := by decide +kernel
theorem d_Open_latestColumn_16 : decode b_Open_latestColumn 16 = .ok (.ifCond .lt 9, 3) := by decide +kernel
theorem d_Open_latestColumn_19 : decode b_Open_latestColumn 19 = .ok (.aload_n 0, 1) := by decide +kernel
theorem d_Open_latestColumn_20 : decode b_Open_latestColumn 20 = .ok (.iload_n 1, 1) := by decide +kernel
theorem d_Open_latestColumn_21 : decode b_Open_latestColumn 21 = .ok (.invokevirtual 28, 3) := by decide +kernel
theorem d_Open_latestColumn_24 : decode b_Open_latestColumn 24 = .ok (.ireturn, 1) := by decide +kernel
theorem d_Open_latestColumn_25 : decode b_Open_latestColumn 25 = .ok (.iinc 1 (-1), 3) := by decide +kernel
theorem d_Open_latestColumn_28 : decode b_Open_latestColumn 28 = .ok (.goto (-21), 3) := by decide +kernel
theorem d_Open_latestColumn_31 : decode b_Open_latestColumn 31 = .ok (.iconst 0, 1) := by decide +kernel
theorem d_Open_latestColumn_32 : decode b_Open_latestColumn 32 = .ok (.ireturn, 1) := by decide +kernel
theorem d_Blocks_init_0 : decode b_Blocks_init 0 = .ok (.aload_n 0, 1) := by decide +kernel
theorem d_Blocks_init_1 : decode b_Blocks_init 1 = .ok (.invokespecial 3, 3) := by decide +kernel
theorem d_Blocks_init_4 : decode b_Blocks_init 4 = .ok (.aload_n 0, 1) := by decide +kernel
theorem d_Blocks_init_5 : decode b_Blocks_init 5 = .ok (.new 9, 3) := by decide +kernel
theorem d_Blocks_init_8 : decode b_Blocks_init 8 = .ok (.dup, 1) := by decide +kernel
theorem d_Blocks_init_9 : decode b_Blocks_init 9 = .ok (.invokespecial 11, 3) := by decide +kernel
theorem d_Blocks_init_12 : decode b_Blocks_init 12 = .ok (.putfield 12, 3) := by decide +kernel
theorem d_Blocks_init_15 : decode b_Blocks_init 15 = .ok (.aload_n 0, 1) := by decide +kernel
theorem d_Blocks_init_16 : decode b_Blocks_init 16 = .ok (.new 18, 3) := by decide +kernel
theorem d_Blocks_init_19 : decode b_Blocks_init 19 = .ok (.dup, 1) := by decide +kernel
theorem d_Blocks_init_20 : decode b_Blocks_init 20 = .ok (.sipush 362, 3) := by decide +kernel
theorem d_Blocks_init_23 : decode b_Blocks_init 23 = .ok (.invokespecial 20, 3) := by decide +kernel
theorem d_Blocks_init_26 : decode b_Blocks_init 26 = .ok (.putfield 23, 3) := by decide +kernel
theorem d_Blocks_init_29 : decode b_Blocks_init 29 = .ok (.return_, 1) := by decide +kernel
theorem d_Blocks_laid_0 : decode b_Blocks_laid 0 = .ok (.aload_n 0, 1) := by decide +kernel
theorem d_Blocks_laid_1 : decode b_Blocks_laid 1 = .ok (.getfield 23, 3) := by decide +kernel
theorem d_Blocks_laid_4 : decode b_Blocks_laid 4 = .ok (.areturn, 1) := by decide +kernel
theorem d_Blocks_begun_0 : decode b_Blocks_begun 0 = .ok (.aload_n 0, 1) := by decide +kernel
theorem d_Blocks_begun_1 : decode b_Blocks_begun 1 = .ok (.getfield 27, 3) := by decide +kernel
theorem d_Blocks_begun_4 : decode b_Blocks_begun 4 = .ok (.ireturn, 1) := by decide +kernel
theorem d_Blocks_mostOpen_0 : decode b_Blocks_mostOpen 0 = .ok (.aload_n 0, 1) := by decide +kernel
theorem d_Blocks_mostOpen_1 : decode b_Blocks_mostOpen 1 = .ok (.getfield 12, 3) := by decide +kernel
theorem d_Blocks_mostOpen_4 : decode b_Blocks_mostOpen 4 = .ok (.invokevirtual 31, 3) := by decide +kernel
theorem d_Blocks_mostOpen_7 : decode b_Blocks_mostOpen 7 = .ok (.ireturn, 1) := by decide +kernel
theorem d_Blocks_lay_0 : decode b_Blocks_lay 0 = .ok (.aload_n 0, 1) := by decide +kernel
theorem d_Blocks_lay_1 : decode b_Blocks_lay 1 = .ok (.getfield 12, 3) := by decide +kernel
theorem d_Blocks_lay_4 : decode b_Blocks_lay 4 = .ok (.invokevirtual 35, 3) := by decide +kernel
theorem d_Blocks_lay_7 : decode b_Blocks_lay 7 = .ok (.aload_n 0, 1) := by decide +kernel
theorem d_Blocks_lay_8 : decode b_Blocks_lay 8 = .ok (.getfield 23, 3) := by decide +kernel
theorem d_Blocks_lay_11 : decode b_Blocks_lay 11 = .ok (.invokevirtual 38, 3) := by decide +kernel
theorem d_Blocks_lay_14 : decode b_Blocks_lay 14 = .ok (.aload_n 0, 1) := by decide +kernel
theorem d_Blocks_lay_15 : decode b_Blocks_lay 15 = .ok (.iconst 0, 1) := by decide +kernel
theorem d_Blocks_lay_16 : decode b_Blocks_lay 16 = .ok (.putfield 27, 3) := by decide +kernel
theorem d_Blocks_lay_19 : decode b_Blocks_lay 19 = .ok (.iconst 0, 1) := by decide +kernel
theorem d_Blocks_lay_20 : decode b_Blocks_lay 20 = .ok (.istore_n 3, 1) := by decide +kernel
theorem d_Blocks_lay_21 : decode b_Blocks_lay 21 = .ok (.iload_n 3, 1) := by decide +kernel
theorem d_Blocks_lay_22 : decode b_Blocks_lay 22 = .ok (.aload_n 1, 1) := by decide +kernel
theorem d_Blocks_lay_23 : decode b_Blocks_lay 23 = .ok (.invokevirtual 39, 3) := by decide +kernel
theorem d_Blocks_lay_26 : decode b_Blocks_lay 26 = .ok (.if_icmp .ge 88, 3) := by decide +kernel
theorem d_Blocks_lay_29 : decode b_Blocks_lay 29 = .ok (.aload_n 0, 1) := by decide +kernel
theorem d_Blocks_lay_30 : decode b_Blocks_lay 30 = .ok (.aload_n 1, 1) := by decide +kernel
theorem d_Blocks_lay_31 : decode b_Blocks_lay 31 = .ok (.iload_n 3, 1) := by decide +kernel
theorem d_Blocks_lay_32 : decode b_Blocks_lay 32 = .ok (.invokevirtual 44, 3) := by decide +kernel
theorem d_Blocks_lay_35 : decode b_Blocks_lay 35 = .ok (.aload_n 1, 1) := by decide +kernel
theorem d_Blocks_lay_36 : decode b_Blocks_lay 36 = .ok (.invokevirtual 48, 3) := by decide +kernel
theorem d_Blocks_lay_39 : decode b_Blocks_lay 39 = .ok (.iload_n 3, 1) := by decide +kernel
theorem d_Blocks_lay_40 : decode b_Blocks_lay 40 = .ok (.invokevirtual 52, 3) := by decide +kernel
theorem d_Blocks_lay_43 : decode b_Blocks_lay 43 = .ok (.istore 4, 2) := by decide +kernel
theorem d_Blocks_lay_45 : decode b_Blocks_lay 45 = .ok (.aload_n 1, 1) := by decide +kernel
theorem d_Blocks_lay_46 : decode b_Blocks_lay 46 = .ok (.invokevirtual 48, 3) := by decide +kernel
theorem d_Blocks_lay_49 : decode b_Blocks_lay 49 = .ok (.iload_n 3, 1) := by decide +kernel
theorem d_Blocks_lay_50 : decode b_Blocks_lay 50 = .ok (.invokevirtual 56, 3) := by decide +kernel
theorem d_Blocks_lay_53 : decode b_Blocks_lay 53 = .ok (.lstore 5, 2) := by decide +kernel
theorem d_Blocks_lay_55 : decode b_Blocks_lay 55 = .ok (.iload 4, 2) := by decide +kernel
theorem d_Blocks_lay_57 : decode b_Blocks_lay 57 = .ok (.iconst 3, 1) := by decide +kernel
theorem d_Blocks_lay_58 : decode b_Blocks_lay 58 = .ok (.if_icmp .ne 14, 3) := by decide +kernel
theorem d_Blocks_lay_61 : decode b_Blocks_lay 61 = .ok (.aload_n 0, 1) := by decide +kernel
theorem d_Blocks_lay_62 : decode b_Blocks_lay 62 = .ok (.lload 5, 2) := by decide +kernel
theorem d_Blocks_lay_64 : decode b_Blocks_lay 64 = .ok (.l2i, 1) := by decide +kernel
theorem d_Blocks_lay_65 : decode b_Blocks_lay 65 = .ok (.i2c, 1) := by decide +kernel
theorem d_Blocks_lay_66 : decode b_Blocks_lay 66 = .ok (.invokevirtual 60, 3) := by decide +kernel
theorem d_Blocks_lay_69 : decode b_Blocks_lay 69 = .ok (.goto 15, 3) := by decide +kernel
theorem d_Blocks_lay_72 : decode b_Blocks_lay 72 = .ok (.aload_n 0, 1) := by decide +kernel
theorem d_Blocks_lay_73 : decode b_Blocks_lay 73 = .ok (.aload_n 1, 1) := by decide +kernel
theorem d_Blocks_lay_74 : decode b_Blocks_lay 74 = .ok (.invokevirtual 48, 3) := by decide +kernel
theorem d_Blocks_lay_77 : decode b_Blocks_lay 77 = .ok (.iload_n 3, 1) := by decide +kernel
theorem d_Blocks_lay_78 : decode b_Blocks_lay 78 = .ok (.invokevirtual 64, 3) := by decide +kernel
theorem d_Blocks_lay_81 : decode b_Blocks_lay 81 = .ok (.invokevirtual 67, 3) := by decide +kernel
theorem d_Blocks_lay_84 : decode b_Blocks_lay 84 = .ok (.istore 7, 2) := by decide +kernel
theorem d_Blocks_lay_86 : decode b_Blocks_lay 86 = .ok (.iload 7, 2) := by decide +kernel
theorem d_Blocks_lay_88 : decode b_Blocks_lay 88 = .ok (.ifCond .ne 9, 3) := by decide +kernel
theorem d_Blocks_lay_91 : decode b_Blocks_lay 91 = .ok (.aload_n 1, 1) := by decide +kernel
theorem d_Blocks_lay_92 : decode b_Blocks_lay 92 = .ok (.iload_n 3, 1) := by decide +kernel
theorem d_Blocks_lay_93 : decode b_Blocks_lay 93 = .ok (.invokevirtual 71, 3) := by decide +kernel
theorem d_Blocks_lay_96 : decode b_Blocks_lay 96 = .ok (.ireturn, 1) := by decide +kernel
theorem d_Blocks_lay_97 : decode b_Blocks_lay 97 = .ok (.aload_n 0, 1) := by decide +kernel
theorem d_Blocks_lay_98 : decode b_Blocks_lay 98 = .ok (.getfield 23, 3) := by decide +kernel
theorem d_Blocks_lay_101 : decode b_Blocks_lay 101 = .ok (.iload 4, 2) := by decide +kernel
theorem d_Blocks_lay_103 : decode b_Blocks_lay 103 = .ok (.lload 5, 2) := by decide +kernel
theorem d_Blocks_lay_105 : decode b_Blocks_lay 105 = .ok (.invokevirtual 74, 3) := by decide +kernel
theorem d_Blocks_lay_108 : decode b_Blocks_lay 108 = .ok (.iinc 3 1, 3) := by decide +kernel
theorem d_Blocks_lay_111 : decode b_Blocks_lay 111 = .ok (.goto (-90), 3) := by decide +kernel
theorem d_Blocks_lay_114 : decode b_Blocks_lay 114 = .ok (.aload_n 0, 1) := by decide +kernel
theorem d_Blocks_lay_115 : decode b_Blocks_lay 115 = .ok (.aload_n 1, 1) := by decide +kernel
theorem d_Blocks_lay_116 : decode b_Blocks_lay 116 = .ok (.aload_n 1, 1) := by decide +kernel
theorem d_Blocks_lay_117 : decode b_Blocks_lay 117 = .ok (.invokevirtual 39, 3) := by decide +kernel
theorem d_Blocks_lay_120 : decode b_Blocks_lay 120 = .ok (.invokevirtual 44, 3) := by decide +kernel
theorem d_Blocks_lay_123 : decode b_Blocks_lay 123 = .ok (.aload_n 0, 1) := by decide +kernel
theorem d_Blocks_lay_124 : decode b_Blocks_lay 124 = .ok (.iconst 1, 1) := by decide +kernel
theorem d_Blocks_lay_125 : decode b_Blocks_lay 125 = .ok (.invokevirtual 78, 3) := by decide +kernel
theorem d_Blocks_lay_128 : decode b_Blocks_lay 128 = .ok (.aload_n 0, 1) := by decide +kernel
theorem d_Blocks_lay_129 : decode b_Blocks_lay 129 = .ok (.getfield 12, 3) := by decide +kernel
theorem d_Blocks_lay_132 : decode b_Blocks_lay 132 = .ok (.invokevirtual 82, 3) := by decide +kernel
theorem d_Blocks_lay_135 : decode b_Blocks_lay 135 = .ok (.ifCond .ne 7, 3) := by decide +kernel
theorem d_Blocks_lay_138 : decode b_Blocks_lay 138 = .ok (.iconst (-1), 1) := by decide +kernel
theorem d_Blocks_lay_139 : decode b_Blocks_lay 139 = .ok (.goto 4, 3) := by decide +kernel
theorem d_Blocks_lay_142 : decode b_Blocks_lay 142 = .ok (.iload_n 2, 1) := by decide +kernel
theorem d_Blocks_lay_143 : decode b_Blocks_lay 143 = .ok (.ireturn, 1) := by decide +kernel
theorem d_Blocks_putBefore_0 : decode b_Blocks_putBefore 0 = .ok (.aload_n 1, 1) := by decide +kernel
theorem d_Blocks_putBefore_1 : decode b_Blocks_putBefore 1 = .ok (.invokevirtual 48, 3) := by decide +kernel
theorem d_Blocks_putBefore_4 : decode b_Blocks_putBefore 4 = .ok (.iload_n 2, 1) := by decide +kernel
theorem d_Blocks_putBefore_5 : decode b_Blocks_putBefore 5 = .ok (.invokestatic 83, 3) := by decide +kernel
theorem d_Blocks_putBefore_8 : decode b_Blocks_putBefore 8 = .ok (.ifCond .eq 15, 3) := by decide +kernel
theorem d_Blocks_putBefore_11 : decode b_Blocks_putBefore 11 = .ok (.aload_n 0, 1) := by decide +kernel
theorem d_Blocks_putBefore_12 : decode b_Blocks_putBefore 12 = .ok (.aload_n 1, 1) := by decide +kernel
theorem d_Blocks_putBefore_13 : decode b_Blocks_putBefore 13 = .ok (.iload_n 2, 1) := by decide +kernel
theorem d_Blocks_putBefore_14 : decode b_Blocks_putBefore 14 = .ok (.invokevirtual 87, 3) := by decide +kernel
theorem d_Blocks_putBefore_17 : decode b_Blocks_putBefore 17 = .ok (.invokevirtual 90, 3) := by decide +kernel
theorem d_Blocks_putBefore_20 : decode b_Blocks_putBefore 20 = .ok (.goto 24, 3) := by decide +kernel
theorem d_Blocks_putBefore_23 : decode b_Blocks_putBefore 23 = .ok (.iload_n 2, 1) := by decide +kernel
theorem d_Blocks_putBefore_24 : decode b_Blocks_putBefore 24 = .ok (.ifCond .le 20, 3) := by decide +kernel
theorem d_Blocks_putBefore_27 : decode b_Blocks_putBefore 27 = .ok (.aload_n 1, 1) := by decide +kernel
theorem d_Blocks_putBefore_28 : decode b_Blocks_putBefore 28 = .ok (.iload_n 2, 1) := by decide +kernel
theorem d_Blocks_putBefore_29 : decode b_Blocks_putBefore 29 = .ok (.invokevirtual 93, 3) := by decide +kernel
theorem d_Blocks_putBefore_32 : decode b_Blocks_putBefore 32 = .ok (.ifCond .eq 12, 3) := by decide +kernel
theorem d_Blocks_putBefore_35 : decode b_Blocks_putBefore 35 = .ok (.aload_n 0, 1) := by decide +kernel
theorem d_Blocks_putBefore_36 : decode b_Blocks_putBefore 36 = .ok (.aload_n 1, 1) := by decide +kernel
theorem d_Blocks_putBefore_37 : decode b_Blocks_putBefore 37 = .ok (.iload_n 2, 1) := by decide +kernel
theorem d_Blocks_putBefore_38 : decode b_Blocks_putBefore 38 = .ok (.invokevirtual 87, 3) := by decide +kernel
theorem d_Blocks_putBefore_41 : decode b_Blocks_putBefore 41 = .ok (.invokevirtual 96, 3) := by decide +kernel
theorem d_Blocks_putBefore_44 : decode b_Blocks_putBefore 44 = .ok (.return_, 1) := by decide +kernel
theorem d_Blocks_beginsBlock_0 : decode b_Blocks_beginsBlock 0 = .ok (.aload_n 0, 1) := by decide +kernel
theorem d_Blocks_beginsBlock_1 : decode b_Blocks_beginsBlock 1 = .ok (.iload_n 1, 1) := by decide +kernel
theorem d_Blocks_beginsBlock_2 : decode b_Blocks_beginsBlock 2 = .ok (.bipush 123, 2) := by decide +kernel
theorem d_Blocks_beginsBlock_4 : decode b_Blocks_beginsBlock 4 = .ok (.invokevirtual 99, 3) := by decide +kernel
theorem d_Blocks_beginsBlock_7 : decode b_Blocks_beginsBlock 7 = .ok (.ifCond .eq 5, 3) := by decide +kernel
theorem d_Blocks_beginsBlock_10 : decode b_Blocks_beginsBlock 10 = .ok (.iconst 0, 1) := by decide +kernel
theorem d_Blocks_beginsBlock_11 : decode b_Blocks_beginsBlock 11 = .ok (.ireturn, 1) := by decide +kernel
theorem d_Blocks_beginsBlock_12 : decode b_Blocks_beginsBlock 12 = .ok (.aload_n 0, 1) := by decide +kernel
theorem d_Blocks_beginsBlock_13 : decode b_Blocks_beginsBlock 13 = .ok (.iload_n 1, 1) := by decide +kernel
theorem d_Blocks_beginsBlock_14 : decode b_Blocks_beginsBlock 14 = .ok (.iconst 1, 1) := by decide +kernel
theorem d_Blocks_beginsBlock_15 : decode b_Blocks_beginsBlock 15 = .ok (.isub, 1) := by decide +kernel
theorem d_Blocks_beginsBlock_16 : decode b_Blocks_beginsBlock 16 = .ok (.invokevirtual 64, 3) := by decide +kernel
theorem d_Blocks_beginsBlock_19 : decode b_Blocks_beginsBlock 19 = .ok (.tableswitch 31 0 3 #[29, 29, 29, 29], 29) := by decide +kernel
theorem d_Blocks_beginsBlock_48 : decode b_Blocks_beginsBlock 48 = .ok (.iconst 1, 1) := by decide +kernel
theorem d_Blocks_beginsBlock_49 : decode b_Blocks_beginsBlock 49 = .ok (.ireturn, 1) := by decide +kernel
theorem d_Blocks_beginsBlock_50 : decode b_Blocks_beginsBlock 50 = .ok (.iload_n 1, 1) := by decide +kernel
theorem d_Blocks_beginsBlock_51 : decode b_Blocks_beginsBlock 51 = .ok (.ifCond .ne 7, 3) := by decide +kernel
theorem d_Blocks_beginsBlock_54 : decode b_Blocks_beginsBlock 54 = .ok (.iconst 1, 1) := by decide +kernel
theorem d_Blocks_beginsBlock_55 : decode b_Blocks_beginsBlock 55 = .ok (.goto 4, 3) := by decide +kernel
theorem d_Blocks_beginsBlock_58 : decode b_Blocks_beginsBlock 58 = .ok (.iconst 0, 1) := by decide +kernel
theorem d_Blocks_beginsBlock_59 : decode b_Blocks_beginsBlock 59 = .ok (.ireturn, 1) := by decide +kernel
theorem d_Blocks_begin_0 : decode b_Blocks_begin 0 = .ok (.aload_n 0, 1) := by decide +kernel
theorem d_Blocks_begin_1 : decode b_Blocks_begin 1 = .ok (.dup, 1) := by decide +kernel
theorem d_Blocks_begin_2 : decode b_Blocks_begin 2 = .ok (.getfield 27, 3) := by decide +kernel
theorem d_Blocks_begin_5 : decode b_Blocks_begin 5 = .ok (.iconst 1, 1) := by decide +kernel
theorem d_Blocks_begin_6 : decode b_Blocks_begin 6 = .ok (.iadd, 1) := by decide +kernel
theorem d_Blocks_begin_7 : decode b_Blocks_begin 7 = .ok (.putfield 27, 3) := by decide +kernel
theorem d_Blocks_begin_10 : decode b_Blocks_begin 10 = .ok (.aload_n 0, 1) := by decide +kernel
theorem d_Blocks_begin_11 : decode b_Blocks_begin 11 = .ok (.bipush 123, 2) := by decide +kernel
theorem d_Blocks_begin_13 : decode b_Blocks_begin 13 = .ok (.invokevirtual 103, 3) := by decide +kernel
theorem d_Blocks_begin_16 : decode b_Blocks_begin 16 = .ok (.iload_n 1, 1) := by decide +kernel
theorem d_Blocks_begin_17 : decode b_Blocks_begin 17 = .ok (.aload_n 0, 1) := by decide +kernel
theorem d_Blocks_begin_18 : decode b_Blocks_begin 18 = .ok (.getfield 12, 3) := by decide +kernel
theorem d_Blocks_begin_21 : decode b_Blocks_begin 21 = .ok (.invokevirtual 107, 3) := by decide +kernel
theorem d_Blocks_begin_24 : decode b_Blocks_begin 24 = .ok (.if_icmp .le 14, 3) := by decide +kernel
theorem d_Blocks_begin_27 : decode b_Blocks_begin 27 = .ok (.aload_n 0, 1) := by decide +kernel
theorem d_Blocks_begin_28 : decode b_Blocks_begin 28 = .ok (.getfield 12, 3) := by decide +kernel
theorem d_Blocks_begin_31 : decode b_Blocks_begin 31 = .ok (.iload_n 1, 1) := by decide +kernel
theorem d_Blocks_begin_32 : decode b_Blocks_begin 32 = .ok (.invokevirtual 110, 3) := by decide +kernel
theorem d_Blocks_begin_35 : decode b_Blocks_begin 35 = .ok (.goto 18, 3) := by decide +kernel
theorem d_Blocks_begin_38 : decode b_Blocks_begin 38 = .ok (.aload_n 0, 1) := by decide +kernel
theorem d_Blocks_begin_39 : decode b_Blocks_begin 39 = .ok (.bipush 125, 2) := by decide +kernel
theorem d_Blocks_begin_41 : decode b_Blocks_begin 41 = .ok (.invokevirtual 103, 3) := by decide +kernel
theorem d_Blocks_begin_44 : decode b_Blocks_begin 44 = .ok (.iload_n 1, 1) := by decide +kernel
theorem d_Blocks_begin_45 : decode b_Blocks_begin 45 = .ok (.ifCond .le 8, 3) := by decide +kernel
theorem d_Blocks_begin_48 : decode b_Blocks_begin 48 = .ok (.aload_n 0, 1) := by decide +kernel
theorem d_Blocks_begin_49 : decode b_Blocks_begin 49 = .ok (.iload_n 1, 1) := by decide +kernel
theorem d_Blocks_begin_50 : decode b_Blocks_begin 50 = .ok (.invokevirtual 96, 3) := by decide +kernel
theorem d_Blocks_begin_53 : decode b_Blocks_begin 53 = .ok (.return_, 1) := by decide +kernel
theorem d_Blocks_mark_0 : decode b_Blocks_mark 0 = .ok (.aload_n 0, 1) := by decide +kernel
theorem d_Blocks_mark_1 : decode b_Blocks_mark 1 = .ok (.getfield 12, 3) := by decide +kernel
theorem d_Blocks_mark_4 : decode b_Blocks_mark 4 = .ok (.invokevirtual 82, 3) := by decide +kernel
theorem d_Blocks_mark_7 : decode b_Blocks_mark 7 = .ok (.istore_n 2, 1) := by decide +kernel
theorem d_Blocks_mark_8 : decode b_Blocks_mark 8 = .ok (.iload_n 2, 1) := by decide +kernel
theorem d_Blocks_mark_9 : decode b_Blocks_mark 9 = .ok (.ifCond .le 40, 3) := by decide +kernel
theorem d_Blocks_mark_12 : decode b_Blocks_mark 12 = .ok (.aload_n 0, 1) := by decide +kernel
theorem d_Blocks_mark_13 : decode b_Blocks_mark 13 = .ok (.getfield 12, 3) := by decide +kernel
theorem d_Blocks_mark_16 : decode b_Blocks_mark 16 = .ok (.invokevirtual 113, 3) := by decide +kernel
theorem d_Blocks_mark_19 : decode b_Blocks_mark 19 = .ok (.iload_n 1, 1) := by decide +kernel
theorem d_Blocks_mark_20 : decode b_Blocks_mark 20 = .ok (.if_icmp .le 29, 3) := by decide +kernel
theorem d_Blocks_mark_23 : decode b_Blocks_mark 23 = .ok (.aload_n 0, 1) := by decide +kernel
theorem d_Blocks_mark_24 : decode b_Blocks_mark 24 = .ok (.getfield 12, 3) := by decide +kernel
theorem d_Blocks_mark_27 : decode b_Blocks_mark 27 = .ok (.invokevirtual 116, 3) := by decide +kernel
theorem d_Blocks_mark_30 : decode b_Blocks_mark 30 = .ok (.aload_n 0, 1) := by decide +kernel
theorem d_Blocks_mark_31 : decode b_Blocks_mark 31 = .ok (.bipush 125, 2) := by decide +kernel
theorem d_Blocks_mark_33 : decode b_Blocks_mark 33 = .ok (.invokevirtual 103, 3) := by decide +kernel
theorem d_Blocks_mark_36 : decode b_Blocks_mark 36 = .ok (.aload_n 0, 1) := by decide +kernel
theorem d_Blocks_mark_37 : decode b_Blocks_mark 37 = .ok (.getfield 12, 3) := by decide +kernel
theorem d_Blocks_mark_40 : decode b_Blocks_mark 40 = .ok (.invokevirtual 119, 3) := by decide +kernel
theorem d_Blocks_mark_43 : decode b_Blocks_mark 43 = .ok (.iinc 2 (-1), 3) := by decide +kernel
theorem d_Blocks_mark_46 : decode b_Blocks_mark 46 = .ok (.goto (-38), 3) := by decide +kernel
theorem d_Blocks_mark_49 : decode b_Blocks_mark 49 = .ok (.aload_n 0, 1) := by decide +kernel
theorem d_Blocks_mark_50 : decode b_Blocks_mark 50 = .ok (.getfield 12, 3) := by decide +kernel
theorem d_Blocks_mark_53 : decode b_Blocks_mark 53 = .ok (.invokevirtual 113, 3) := by decide +kernel
theorem d_Blocks_mark_56 : decode b_Blocks_mark 56 = .ok (.iload_n 1, 1) := by decide +kernel
theorem d_Blocks_mark_57 : decode b_Blocks_mark 57 = .ok (.if_icmp .ne 16, 3) := by decide +kernel
theorem d_Blocks_mark_60 : decode b_Blocks_mark 60 = .ok (.aload_n 0, 1) := by decide +kernel
theorem d_Blocks_mark_61 : decode b_Blocks_mark 61 = .ok (.getfield 12, 3) := by decide +kernel
theorem d_Blocks_mark_64 : decode b_Blocks_mark 64 = .ok (.invokevirtual 116, 3) := by decide +kernel
theorem d_Blocks_mark_67 : decode b_Blocks_mark 67 = .ok (.aload_n 0, 1) := by decide +kernel
theorem d_Blocks_mark_68 : decode b_Blocks_mark 68 = .ok (.bipush 59, 2) := by decide +kernel
theorem d_Blocks_mark_70 : decode b_Blocks_mark 70 = .ok (.invokevirtual 103, 3) := by decide +kernel
theorem d_Blocks_mark_73 : decode b_Blocks_mark 73 = .ok (.return_, 1) := by decide +kernel
theorem d_Blocks_putIn_0 : decode b_Blocks_putIn 0 = .ok (.aload_n 0, 1) := by decide +kernel
theorem d_Blocks_putIn_1 : decode b_Blocks_putIn 1 = .ok (.getfield 23, 3) := by decide +kernel
theorem d_Blocks_putIn_4 : decode b_Blocks_putIn 4 = .ok (.iconst 4, 1) := by decide +kernel
theorem d_Blocks_putIn_5 : decode b_Blocks_putIn 5 = .ok (.iload_n 1, 1) := by decide +kernel
theorem d_Blocks_putIn_6 : decode b_Blocks_putIn 6 = .ok (.i2l, 1) := by decide +kernel
theorem d_Blocks_putIn_7 : decode b_Blocks_putIn 7 = .ok (.invokevirtual 74, 3) := by decide +kernel
theorem d_Blocks_putIn_10 : decode b_Blocks_putIn 10 = .ok (.return_, 1) := by decide +kernel
theorem d_Blocks_passWord_0 : decode b_Blocks_passWord 0 = .ok (.iload_n 1, 1) := by decide +kernel
theorem d_Blocks_passWord_1 : decode b_Blocks_passWord 1 = .ok (.tableswitch 125 0 8 #[51, 125, 125, 112, 119, 61, 83, 105, 72], 51) := by decide +kernel
theorem d_Blocks_passWord_52 : decode b_Blocks_passWord 52 = .ok (.aload_n 0, 1) := by decide +kernel
theorem d_Blocks_passWord_53 : decode b_Blocks_passWord 53 = .ok (.getfield 12, 3) := by decide +kernel
theorem d_Blocks_passWord_56 : decode b_Blocks_passWord 56 = .ok (.iconst (-1), 1) := by decide +kernel
theorem d_Blocks_passWord_57 : decode b_Blocks_passWord 57 = .ok (.invokevirtual 110, 3) := by decide +kernel
theorem d_Blocks_passWord_60 : decode b_Blocks_passWord 60 = .ok (.iconst 1, 1) := by decide +kernel
theorem d_Blocks_passWord_61 : decode b_Blocks_passWord 61 = .ok (.ireturn, 1) := by decide +kernel
theorem d_Blocks_passWord_62 : decode b_Blocks_passWord 62 = .ok (.aload_n 0, 1) := by decide +kernel
theorem d_Blocks_passWord_63 : decode b_Blocks_passWord 63 = .ok (.getfield 12, 3) := by decide +kernel
theorem d_Blocks_passWord_66 : decode b_Blocks_passWord 66 = .ok (.bipush (-2), 2) := by decide +kernel
theorem d_Blocks_passWord_68 : decode b_Blocks_passWord 68 = .ok (.invokevirtual 110, 3) := by decide +kernel
theorem d_Blocks_passWord_71 : decode b_Blocks_passWord 71 = .ok (.iconst 1, 1) := by decide +kernel
theorem d_Blocks_passWord_72 : decode b_Blocks_passWord 72 = .ok (.ireturn, 1) := by decide +kernel
theorem d_Blocks_passWord_73 : decode b_Blocks_passWord 73 = .ok (.aload_n 0, 1) := by decide +kernel
theorem d_Blocks_passWord_74 : decode b_Blocks_passWord 74 = .ok (.getfield 12, 3) := by decide +kernel
theorem d_Blocks_passWord_77 : decode b_Blocks_passWord 77 = .ok (.bipush (-4), 2) := by decide +kernel
theorem d_Blocks_passWord_79 : decode b_Blocks_passWord 79 = .ok (.invokevirtual 110, 3) := by decide +kernel
theorem d_Blocks_passWord_82 : decode b_Blocks_passWord 82 = .ok (.iconst 1, 1) := by decide +kernel
theorem d_Blocks_passWord_83 : decode b_Blocks_passWord 83 = .ok (.ireturn, 1) := by decide +kernel
theorem d_Blocks_passWord_84 : decode b_Blocks_passWord 84 = .ok (.aload_n 0, 1) := by decide +kernel
theorem d_Blocks_passWord_85 : decode b_Blocks_passWord 85 = .ok (.bipush (-2), 2) := by decide +kernel
theorem d_Blocks_passWord_87 : decode b_Blocks_passWord 87 = .ok (.invokevirtual 122, 3) := by decide +kernel
theorem d_Blocks_passWord_90 : decode b_Blocks_passWord 90 = .ok (.istore_n 2, 1) := by decide +kernel
theorem d_Blocks_passWord_91 : decode b_Blocks_passWord 91 = .ok (.iload_n 2, 1) := by decide +kernel
theorem d_Blocks_passWord_92 : decode b_Blocks_passWord 92 = .ok (.ifCond .eq 12, 3) := by decide +kernel
theorem d_Blocks_passWord_95 : decode b_Blocks_passWord 95 = .ok (.aload_n 0, 1) := by decide +kernel
theorem d_Blocks_passWord_96 : decode b_Blocks_passWord 96 = .ok (.getfield 12, 3) := by decide +kernel
theorem d_Blocks_passWord_99 : decode b_Blocks_passWord 99 = .ok (.bipush (-3), 2) := by decide +kernel
theorem d_Blocks_passWord_101 : decode b_Blocks_passWord 101 = .ok (.invokevirtual 110, 3) := by decide +kernel
theorem d_Blocks_passWord_104 : decode b_Blocks_passWord 104 = .ok (.iload_n 2, 1) := by decide +kernel
theorem d_Blocks_passWord_105 : decode b_Blocks_passWord 105 = .ok (.ireturn, 1) := by decide +kernel
theorem d_Blocks_passWord_106 : decode b_Blocks_passWord 106 = .ok (.aload_n 0, 1) := by decide +kernel
theorem d_Blocks_passWord_107 : decode b_Blocks_passWord 107 = .ok (.bipush (-3), 2) := by decide +kernel
theorem d_Blocks_passWord_109 : decode b_Blocks_passWord 109 = .ok (.invokevirtual 122, 3) := by decide +kernel
theorem d_Blocks_passWord_112 : decode b_Blocks_passWord 112 = .ok (.ireturn, 1) := by decide +kernel
theorem d_Blocks_passWord_113 : decode b_Blocks_passWord 113 = .ok (.aload_n 0, 1) := by decide +kernel
theorem d_Blocks_passWord_114 : decode b_Blocks_passWord 114 = .ok (.bipush (-4), 2) := by decide +kernel
theorem d_Blocks_passWord_116 : decode b_Blocks_passWord 116 = .ok (.invokevirtual 122, 3) := by decide +kernel
theorem d_Blocks_passWord_119 : decode b_Blocks_passWord 119 = .ok (.ireturn, 1) := by decide +kernel
theorem d_Blocks_passWord_120 : decode b_Blocks_passWord 120 = .ok (.aload_n 0, 1) := by decide +kernel
theorem d_Blocks_passWord_121 : decode b_Blocks_passWord 121 = .ok (.iconst (-1), 1) := by decide +kernel
theorem d_Blocks_passWord_122 : decode b_Blocks_passWord 122 = .ok (.invokevirtual 122, 3) := by decide +kernel
theorem d_Blocks_passWord_125 : decode b_Blocks_passWord 125 = .ok (.ireturn, 1) := by decide +kernel
theorem d_Blocks_passWord_126 : decode b_Blocks_passWord 126 = .ok (.iconst 1, 1) := by decide +kernel
theorem d_Blocks_passWord_127 : decode b_Blocks_passWord 127 = .ok (.ireturn, 1) := by decide +kernel
theorem d_Blocks_passSign_0 : decode b_Blocks_passSign 0 = .ok (.iload_n 1, 1) := by decide +kernel
theorem d_Blocks_passSign_1 : decode b_Blocks_passSign 1 = .ok (.lookupswitch 141 #[(40, 75), (41, 107), (44, 126), (59, 132), (91, 86), (93, 114), (123, 97), (125, 121)], 75) := by decide +kernel
theorem d_Blocks_passSign_76 : decode b_Blocks_passSign 76 = .ok (.aload_n 0, 1) := by decide +kernel
theorem d_Blocks_passSign_77 : decode b_Blocks_passSign 77 = .ok (.getfield 12, 3) := by decide +kernel
theorem d_Blocks_passSign_80 : decode b_Blocks_passSign 80 = .ok (.bipush (-5), 2) := by decide +kernel
theorem d_Blocks_passSign_82 : decode b_Blocks_passSign 82 = .ok (.invokevirtual 110, 3) := by decide +kernel
theorem d_Blocks_passSign_85 : decode b_Blocks_passSign 85 = .ok (.iconst 1, 1) := by decide +kernel
theorem d_Blocks_passSign_86 : decode b_Blocks_passSign 86 = .ok (.ireturn, 1) := by decide +kernel
theorem d_Blocks_passSign_87 : decode b_Blocks_passSign 87 = .ok (.aload_n 0, 1) := by decide +kernel
theorem d_Blocks_passSign_88 : decode b_Blocks_passSign 88 = .ok (.getfield 12, 3) := by decide +kernel
theorem d_Blocks_passSign_91 : decode b_Blocks_passSign 91 = .ok (.bipush (-6), 2) := by decide +kernel
theorem d_Blocks_passSign_93 : decode b_Blocks_passSign 93 = .ok (.invokevirtual 110, 3) := by decide +kernel
theorem d_Blocks_passSign_96 : decode b_Blocks_passSign 96 = .ok (.iconst 1, 1) := by decide +kernel
theorem d_Blocks_passSign_97 : decode b_Blocks_passSign 97 = .ok (.ireturn, 1) := by decide +kernel
theorem d_Blocks_passSign_98 : decode b_Blocks_passSign 98 = .ok (.aload_n 0, 1) := by decide +kernel
theorem d_Blocks_passSign_99 : decode b_Blocks_passSign 99 = .ok (.getfield 12, 3) := by decide +kernel
theorem d_Blocks_passSign_102 : decode b_Blocks_passSign 102 = .ok (.iconst 0, 1) := by decide +kernel
theorem d_Blocks_passSign_103 : decode b_Blocks_passSign 103 = .ok (.invokevirtual 110, 3) := by decide +kernel
theorem d_Blocks_passSign_106 : decode b_Blocks_passSign 106 = .ok (.iconst 1, 1) := by decide +kernel
theorem d_Blocks_passSign_107 : decode b_Blocks_passSign 107 = .ok (.ireturn, 1) := by decide +kernel
theorem d_Blocks_passSign_108 : decode b_Blocks_passSign 108 = .ok (.aload_n 0, 1) := by decide +kernel
theorem d_Blocks_passSign_109 : decode b_Blocks_passSign 109 = .ok (.bipush (-5), 2) := by decide +kernel
theorem d_Blocks_passSign_111 : decode b_Blocks_passSign 111 = .ok (.invokevirtual 122, 3) := by decide +kernel
theorem d_Blocks_passSign_114 : decode b_Blocks_passSign 114 = .ok (.ireturn, 1) := by decide +kernel
theorem d_Blocks_passSign_115 : decode b_Blocks_passSign 115 = .ok (.aload_n 0, 1) := by decide +kernel
theorem d_Blocks_passSign_116 : decode b_Blocks_passSign 116 = .ok (.bipush (-6), 2) := by decide +kernel
theorem d_Blocks_passSign_118 : decode b_Blocks_passSign 118 = .ok (.invokevirtual 122, 3) := by decide +kernel
theorem d_Blocks_passSign_121 : decode b_Blocks_passSign 121 = .ok (.ireturn, 1) := by decide +kernel
theorem d_Blocks_passSign_122 : decode b_Blocks_passSign 122 = .ok (.aload_n 0, 1) := by decide +kernel
theorem d_Blocks_passSign_123 : decode b_Blocks_passSign 123 = .ok (.invokevirtual 125, 3) := by decide +kernel
theorem d_Blocks_passSign_126 : decode b_Blocks_passSign 126 = .ok (.ireturn, 1) := by decide +kernel
theorem d_Blocks_passSign_127 : decode b_Blocks_passSign 127 = .ok (.aload_n 0, 1) := by decide +kernel
theorem d_Blocks_passSign_128 : decode b_Blocks_passSign 128 = .ok (.invokevirtual 129, 3) := by decide +kernel
theorem d_Blocks_passSign_131 : decode b_Blocks_passSign 131 = .ok (.iconst 1, 1) := by decide +kernel
theorem d_Blocks_passSign_132 : decode b_Blocks_passSign 132 = .ok (.ireturn, 1) := by decide +kernel
theorem d_Blocks_passSign_133 : decode b_Blocks_passSign 133 = .ok (.aload_n 0, 1) := by decide +kernel
theorem d_Blocks_passSign_134 : decode b_Blocks_passSign 134 = .ok (.getfield 12, 3) := by decide +kernel
theorem d_Blocks_passSign_137 : decode b_Blocks_passSign 137 = .ok (.invokevirtual 116, 3) := by decide +kernel
theorem d_Blocks_passSign_140 : decode b_Blocks_passSign 140 = .ok (.iconst 1, 1) := by decide +kernel
theorem d_Blocks_passSign_141 : decode b_Blocks_passSign 141 = .ok (.ireturn, 1) := by decide +kernel
theorem d_Blocks_passSign_142 : decode b_Blocks_passSign 142 = .ok (.iconst 1, 1) := by decide +kernel
theorem d_Blocks_passSign_143 : decode b_Blocks_passSign 143 = .ok (.ireturn, 1) := by decide +kernel
theorem d_Blocks_passBrace_0 : decode b_Blocks_passBrace 0 = .ok (.aload_n 0, 1) := by decide +kernel
theorem d_Blocks_passBrace_1 : decode b_Blocks_passBrace 1 = .ok (.getfield 12, 3) := by decide +kernel
theorem d_Blocks_passBrace_4 : decode b_Blocks_passBrace 4 = .ok (.invokevirtual 116, 3) := by decide +kernel
theorem d_Blocks_passBrace_7 : decode b_Blocks_passBrace 7 = .ok (.aload_n 0, 1) := by decide +kernel
theorem d_Blocks_passBrace_8 : decode b_Blocks_passBrace 8 = .ok (.getfield 12, 3) := by decide +kernel
theorem d_Blocks_passBrace_11 : decode b_Blocks_passBrace 11 = .ok (.invokevirtual 132, 3) := by decide +kernel
theorem d_Blocks_passBrace_14 : decode b_Blocks_passBrace 14 = .ok (.ifCond .ne 7, 3) := by decide +kernel
theorem d_Blocks_passBrace_17 : decode b_Blocks_passBrace 17 = .ok (.iconst 1, 1) := by decide +kernel
theorem d_Blocks_passBrace_18 : decode b_Blocks_passBrace 18 = .ok (.goto 4, 3) := by decide +kernel
theorem d_Blocks_passBrace_21 : decode b_Blocks_passBrace 21 = .ok (.iconst 0, 1) := by decide +kernel
theorem d_Blocks_passBrace_22 : decode b_Blocks_passBrace 22 = .ok (.istore_n 1, 1) := by decide +kernel
theorem d_Blocks_passBrace_23 : decode b_Blocks_passBrace 23 = .ok (.iload_n 1, 1) := by decide +kernel
theorem d_Blocks_passBrace_24 : decode b_Blocks_passBrace 24 = .ok (.ifCond .eq 10, 3) := by decide +kernel
theorem d_Blocks_passBrace_27 : decode b_Blocks_passBrace 27 = .ok (.aload_n 0, 1) := by decide +kernel
theorem d_Blocks_passBrace_28 : decode b_Blocks_passBrace 28 = .ok (.getfield 12, 3) := by decide +kernel
theorem d_Blocks_passBrace_31 : decode b_Blocks_passBrace 31 = .ok (.invokevirtual 119, 3) := by decide +kernel
theorem d_Blocks_passBrace_34 : decode b_Blocks_passBrace 34 = .ok (.iload_n 1, 1) := by decide +kernel
theorem d_Blocks_passBrace_35 : decode b_Blocks_passBrace 35 = .ok (.ireturn, 1) := by decide +kernel
theorem d_Blocks_passComma_0 : decode b_Blocks_passComma 0 = .ok (.aload_n 0, 1) := by decide +kernel
theorem d_Blocks_passComma_1 : decode b_Blocks_passComma 1 = .ok (.getfield 12, 3) := by decide +kernel
theorem d_Blocks_passComma_4 : decode b_Blocks_passComma 4 = .ok (.invokevirtual 135, 3) := by decide +kernel
theorem d_Blocks_passComma_7 : decode b_Blocks_passComma 7 = .ok (.istore_n 1, 1) := by decide +kernel
theorem d_Blocks_passComma_8 : decode b_Blocks_passComma 8 = .ok (.iload_n 1, 1) := by decide +kernel
theorem d_Blocks_passComma_9 : decode b_Blocks_passComma 9 = .ok (.bipush (-5), 2) := by decide +kernel
theorem d_Blocks_passComma_11 : decode b_Blocks_passComma 11 = .ok (.if_icmp .eq 9, 3) := by decide +kernel
theorem d_Blocks_passComma_14 : decode b_Blocks_passComma 14 = .ok (.iload_n 1, 1) := by decide +kernel
theorem d_Blocks_passComma_15 : decode b_Blocks_passComma 15 = .ok (.bipush (-6), 2) := by decide +kernel
theorem d_Blocks_passComma_17 : decode b_Blocks_passComma 17 = .ok (.if_icmp .ne 8, 3) := by decide +kernel
theorem d_Blocks_passComma_20 : decode b_Blocks_passComma 20 = .ok (.aload_n 0, 1) := by decide +kernel
theorem d_Blocks_passComma_21 : decode b_Blocks_passComma 21 = .ok (.iconst 1, 1) := by decide +kernel
theorem d_Blocks_passComma_22 : decode b_Blocks_passComma 22 = .ok (.invokevirtual 78, 3) := by decide +kernel
theorem d_Blocks_passComma_25 : decode b_Blocks_passComma 25 = .ok (.return_, 1) := by decide +kernel
theorem d_Blocks_end_0 : decode b_Blocks_end 0 = .ok (.aload_n 0, 1) := by decide +kernel
theorem d_Blocks_end_1 : decode b_Blocks_end 1 = .ok (.iload_n 1, 1) := by decide +kernel
theorem d_Blocks_end_2 : decode b_Blocks_end 2 = .ok (.iconst (-1), 1) := by decide +kernel
theorem d_Blocks_end_3 : decode b_Blocks_end 3 = .ok (.if_icmp .eq 7, 3) := by decide +kernel
theorem d_Blocks_end_6 : decode b_Blocks_end 6 = .ok (.iconst 1, 1) := by decide +kernel
theorem d_Blocks_end_7 : decode b_Blocks_end 7 = .ok (.goto 4, 3) := by decide +kernel
theorem d_Blocks_end_10 : decode b_Blocks_end 10 = .ok (.iconst 0, 1) := by decide +kernel
theorem d_Blocks_end_11 : decode b_Blocks_end 11 = .ok (.invokevirtual 78, 3) := by decide +kernel
theorem d_Blocks_end_14 : decode b_Blocks_end 14 = .ok (.aload_n 0, 1) := by decide +kernel
theorem d_Blocks_end_15 : decode b_Blocks_end 15 = .ok (.getfield 12, 3) := by decide +kernel
theorem d_Blocks_end_18 : decode b_Blocks_end 18 = .ok (.invokevirtual 132, 3) := by decide +kernel
theorem d_Blocks_end_21 : decode b_Blocks_end 21 = .ok (.iload_n 1, 1) := by decide +kernel
theorem d_Blocks_end_22 : decode b_Blocks_end 22 = .ok (.if_icmp .ne 7, 3) := by decide +kernel
theorem d_Blocks_end_25 : decode b_Blocks_end 25 = .ok (.iconst 1, 1) := by decide +kernel
theorem d_Blocks_end_26 : decode b_Blocks_end 26 = .ok (.goto 4, 3) := by decide +kernel
theorem d_Blocks_end_29 : decode b_Blocks_end 29 = .ok (.iconst 0, 1) := by decide +kernel
theorem d_Blocks_end_30 : decode b_Blocks_end 30 = .ok (.istore_n 2, 1) := by decide +kernel
theorem d_Blocks_end_31 : decode b_Blocks_end 31 = .ok (.iload_n 2, 1) := by decide +kernel
theorem d_Blocks_end_32 : decode b_Blocks_end 32 = .ok (.ifCond .eq 10, 3) := by decide +kernel
theorem d_Blocks_end_35 : decode b_Blocks_end 35 = .ok (.aload_n 0, 1) := by decide +kernel
theorem d_Blocks_end_36 : decode b_Blocks_end 36 = .ok (.getfield 12, 3) := by decide +kernel
theorem d_Blocks_end_39 : decode b_Blocks_end 39 = .ok (.invokevirtual 119, 3) := by decide +kernel
theorem d_Blocks_end_42 : decode b_Blocks_end 42 = .ok (.iload_n 2, 1) := by decide +kernel
theorem d_Blocks_end_43 : decode b_Blocks_end 43 = .ok (.ireturn, 1) := by decide +kernel
theorem d_Blocks_closeBlocks_0 : decode b_Blocks_closeBlocks 0 = .ok (.aload_n 0, 1) := by decide +kernel
theorem d_Blocks_closeBlocks_1 : decode b_Blocks_closeBlocks 1 = .ok (.getfield 12, 3) := by decide +kernel
theorem d_Blocks_closeBlocks_4 : decode b_Blocks_closeBlocks 4 = .ok (.invokevirtual 82, 3) := by decide +kernel
theorem d_Blocks_closeBlocks_7 : decode b_Blocks_closeBlocks 7 = .ok (.istore_n 2, 1) := by decide +kernel
theorem d_Blocks_closeBlocks_8 : decode b_Blocks_closeBlocks 8 = .ok (.iload_n 2, 1) := by decide +kernel
theorem d_Blocks_closeBlocks_9 : decode b_Blocks_closeBlocks 9 = .ok (.ifCond .le 53, 3) := by decide +kernel
theorem d_Blocks_closeBlocks_12 : decode b_Blocks_closeBlocks 12 = .ok (.aload_n 0, 1) := by decide +kernel
theorem d_Blocks_closeBlocks_13 : decode b_Blocks_closeBlocks 13 = .ok (.getfield 12, 3) := by decide +kernel
theorem d_Blocks_closeBlocks_16 : decode b_Blocks_closeBlocks 16 = .ok (.invokevirtual 132, 3) := by decide +kernel
theorem d_Blocks_closeBlocks_19 : decode b_Blocks_closeBlocks 19 = .ok (.ifCond .le 12, 3) := by decide +kernel
theorem d_Blocks_closeBlocks_22 : decode b_Blocks_closeBlocks 22 = .ok (.aload_n 0, 1) := by decide +kernel
theorem d_Blocks_closeBlocks_23 : decode b_Blocks_closeBlocks 23 = .ok (.bipush 125, 2) := by decide +kernel
theorem d_Blocks_closeBlocks_25 : decode b_Blocks_closeBlocks 25 = .ok (.invokevirtual 103, 3) := by decide +kernel
theorem d_Blocks_closeBlocks_28 : decode b_Blocks_closeBlocks 28 = .ok (.goto 21, 3) := by decide +kernel
theorem d_Blocks_closeBlocks_31 : decode b_Blocks_closeBlocks 31 = .ok (.iload_n 1, 1) := by decide +kernel
theorem d_Blocks_closeBlocks_32 : decode b_Blocks_closeBlocks 32 = .ok (.ifCond .eq 30, 3) := by decide +kernel
theorem d_Blocks_closeBlocks_35 : decode b_Blocks_closeBlocks 35 = .ok (.aload_n 0, 1) := by decide +kernel
theorem d_Blocks_closeBlocks_36 : decode b_Blocks_closeBlocks 36 = .ok (.getfield 12, 3) := by decide +kernel
theorem d_Blocks_closeBlocks_39 : decode b_Blocks_closeBlocks 39 = .ok (.invokevirtual 132, 3) := by decide +kernel
theorem d_Blocks_closeBlocks_42 : decode b_Blocks_closeBlocks 42 = .ok (.iconst (-1), 1) := by decide +kernel
theorem d_Blocks_closeBlocks_43 : decode b_Blocks_closeBlocks 43 = .ok (.if_icmp .eq 6, 3) := by decide +kernel
theorem d_Blocks_closeBlocks_46 : decode b_Blocks_closeBlocks 46 = .ok (.goto 16, 3) := by decide +kernel
theorem d_Blocks_closeBlocks_49 : decode b_Blocks_closeBlocks 49 = .ok (.aload_n 0, 1) := by decide +kernel
theorem d_Blocks_closeBlocks_50 : decode b_Blocks_closeBlocks 50 = .ok (.getfield 12, 3) := by decide +kernel
theorem d_Blocks_closeBlocks_53 : decode b_Blocks_closeBlocks 53 = .ok (.invokevirtual 119, 3) := by decide +kernel
theorem d_Blocks_closeBlocks_56 : decode b_Blocks_closeBlocks 56 = .ok (.iinc 2 (-1), 3) := by decide +kernel
theorem d_Blocks_closeBlocks_59 : decode b_Blocks_closeBlocks 59 = .ok (.goto (-51), 3) := by decide +kernel
theorem d_Blocks_closeBlocks_62 : decode b_Blocks_closeBlocks 62 = .ok (.return_, 1) := by decide +kernel
theorem d_Row_init_0 : decode b_Row_init 0 = .ok (.aload_n 0, 1) := by decide +kernel
theorem d_Row_init_1 : decode b_Row_init 1 = .ok (.invokespecial 3, 3) := by decide +kernel
theorem d_Row_init_4 : decode b_Row_init 4 = .ok (.aload_n 0, 1) := by decide +kernel
theorem d_Row_init_5 : decode b_Row_init 5 = .ok (.bipush 90, 2) := by decide +kernel
theorem d_Row_init_7 : decode b_Row_init 7 = .ok (.newarray .int, 2) := by decide +kernel
theorem d_Row_init_9 : decode b_Row_init 9 = .ok (.putfield 9, 3) := by decide +kernel
theorem d_Row_init_12 : decode b_Row_init 12 = .ok (.aload_n 0, 1) := by decide +kernel
theorem d_Row_init_13 : decode b_Row_init 13 = .ok (.bipush 90, 2) := by decide +kernel
theorem d_Row_init_15 : decode b_Row_init 15 = .ok (.newarray .int, 2) := by decide +kernel
theorem d_Row_init_17 : decode b_Row_init 17 = .ok (.putfield 15, 3) := by decide +kernel
theorem d_Row_init_20 : decode b_Row_init 20 = .ok (.aload_n 0, 1) := by decide +kernel
theorem d_Row_init_21 : decode b_Row_init 21 = .ok (.bipush 90, 2) := by decide +kernel
theorem d_Row_init_23 : decode b_Row_init 23 = .ok (.newarray .int, 2) := by decide +kernel
theorem d_Row_init_25 : decode b_Row_init 25 = .ok (.putfield 18, 3) := by decide +kernel
theorem d_Row_init_28 : decode b_Row_init 28 = .ok (.return_, 1) := by decide +kernel
theorem d_Row_clear_0 : decode b_Row_clear 0 = .ok (.aload_n 0, 1) := by decide +kernel
theorem d_Row_clear_1 : decode b_Row_clear 1 = .ok (.iconst 0, 1) := by decide +kernel
theorem d_Row_clear_2 : decode b_Row_clear 2 = .ok (.putfield 21, 3) := by decide +kernel
theorem d_Row_clear_5 : decode b_Row_clear 5 = .ok (.aload_n 0, 1) := by decide +kernel
theorem d_Row_clear_6 : decode b_Row_clear 6 = .ok (.iconst 0, 1) := by decide +kernel
theorem d_Row_clear_7 : decode b_Row_clear 7 = .ok (.putfield 25, 3) := by decide +kernel
theorem d_Row_clear_10 : decode b_Row_clear 10 = .ok (.aload_n 0, 1) := by decide +kernel
theorem d_Row_clear_11 : decode b_Row_clear 11 = .ok (.iconst 0, 1) := by decide +kernel
theorem d_Row_clear_12 : decode b_Row_clear 12 = .ok (.putfield 29, 3) := by decide +kernel
theorem d_Row_clear_15 : decode b_Row_clear 15 = .ok (.return_, 1) := by decide +kernel
theorem d_Row_size_0 : decode b_Row_size 0 = .ok (.aload_n 0, 1) := by decide +kernel
theorem d_Row_size_1 : decode b_Row_size 1 = .ok (.getfield 21, 3) := by decide +kernel
theorem d_Row_size_4 : decode b_Row_size 4 = .ok (.ireturn, 1) := by decide +kernel
theorem d_Row_isWhole_0 : decode b_Row_isWhole 0 = .ok (.aload_n 0, 1) := by decide +kernel
theorem d_Row_isWhole_1 : decode b_Row_isWhole 1 = .ok (.getfield 25, 3) := by decide +kernel
theorem d_Row_isWhole_4 : decode b_Row_isWhole 4 = .ok (.ifCond .eq 21, 3) := by decide +kernel
theorem d_Row_isWhole_7 : decode b_Row_isWhole 7 = .ok (.aload_n 0, 1) := by decide +kernel
theorem d_Row_isWhole_8 : decode b_Row_isWhole 8 = .ok (.getfield 29, 3) := by decide +kernel
theorem d_Row_isWhole_11 : decode b_Row_isWhole 11 = .ok (.ifCond .ne 14, 3) := by decide +kernel
theorem d_Row_isWhole_14 : decode b_Row_isWhole 14 = .ok (.aload_n 0, 1) := by decide +kernel
theorem d_Row_isWhole_15 : decode b_Row_isWhole 15 = .ok (.invokevirtual 32, 3) := by decide +kernel
theorem d_Row_isWhole_18 : decode b_Row_isWhole 18 = .ok (.ifCond .eq 7, 3) := by decide +kernel
theorem d_Row_isWhole_21 : decode b_Row_isWhole 21 = .ok (.iconst 1, 1) := by decide +kernel
theorem d_Row_isWhole_22 : decode b_Row_isWhole 22 = .ok (.goto 4, 3) := by decide +kernel
theorem d_Row_isWhole_25 : decode b_Row_isWhole 25 = .ok (.iconst 0, 1) := by decide +kernel
theorem d_Row_isWhole_26 : decode b_Row_isWhole 26 = .ok (.ireturn, 1) := by decide +kernel
theorem d_Row_endsWithOperand_0 : decode b_Row_endsWithOperand 0 = .ok (.aload_n 0, 1) := by decide +kernel
theorem d_Row_endsWithOperand_1 : decode b_Row_endsWithOperand 1 = .ok (.getfield 21, 3) := by decide +kernel
theorem d_Row_endsWithOperand_4 : decode b_Row_endsWithOperand 4 = .ok (.ifCond .le 21, 3) := by decide +kernel
theorem d_Row_endsWithOperand_7 : decode b_Row_endsWithOperand 7 = .ok (.aload_n 0, 1) := by decide +kernel
theorem d_Row_endsWithOperand_8 : decode b_Row_endsWithOperand 8 = .ok (.getfield 9, 3) := by decide +kernel
theorem d_Row_endsWithOperand_11 : decode b_Row_endsWithOperand 11 = .ok (.aload_n 0, 1) := by decide +kernel
theorem d_Row_endsWithOperand_12 : decode b_Row_endsWithOperand 12 = .ok (.getfield 21, 3) := by decide +kernel
theorem d_Row_endsWithOperand_15 : decode b_Row_endsWithOperand 15 = .ok (.iconst 1, 1) := by decide +kernel
theorem d_Row_endsWithOperand_16 : decode b_Row_endsWithOperand 16 = .ok (.isub, 1) := by decide +kernel
theorem d_Row_endsWithOperand_17 : decode b_Row_endsWithOperand 17 = .ok (.iaload, 1) := by decide +kernel
theorem d_Row_endsWithOperand_18 : decode b_Row_endsWithOperand 18 = .ok (.ifCond .ne 7, 3) := by decide +kernel
theorem d_Row_endsWithOperand_21 : decode b_Row_endsWithOperand 21 = .ok (.iconst 1, 1) := by decide +kernel
theorem d_Row_endsWithOperand_22 : decode b_Row_endsWithOperand 22 = .ok (.goto 4, 3) := by decide +kernel
theorem d_Row_endsWithOperand_25 : decode b_Row_endsWithOperand 25 = .ok (.iconst 0, 1) := by decide +kernel
theorem d_Row_endsWithOperand_26 : decode b_Row_endsWithOperand 26 = .ok (.ireturn, 1) := by decide +kernel
theorem d_Row_addOperand_0 : decode b_Row_addOperand 0 = .ok (.aload_n 0, 1) := by decide +kernel
theorem d_Row_addOperand_1 : decode b_Row_addOperand 1 = .ok (.invokevirtual 32, 3) := by decide +kernel
theorem d_Row_addOperand_4 : decode b_Row_addOperand 4 = .ok (.ifCond .eq 18, 3) := by decide +kernel
theorem d_Row_addOperand_7 : decode b_Row_addOperand 7 = .ok (.aload_n 0, 1) := by decide +kernel
theorem d_Row_addOperand_8 : decode b_Row_addOperand 8 = .ok (.getfield 18, 3) := by decide +kernel
theorem d_Row_addOperand_11 : decode b_Row_addOperand 11 = .ok (.aload_n 0, 1) := by decide +kernel
theorem d_Row_addOperand_12 : decode b_Row_addOperand 12 = .ok (.getfield 21, 3) := by decide +kernel
theorem d_Row_addOperand_15 : decode b_Row_addOperand 15 = .ok (.iconst 1, 1) := by decide +kernel
theorem d_Row_addOperand_16 : decode b_Row_addOperand 16 = .ok (.isub, 1) := by decide +kernel
theorem d_Row_addOperand_17 : decode b_Row_addOperand 17 = .ok (.iload_n 2, 1) := by decide +kernel
theorem d_Row_addOperand_18 : decode b_Row_addOperand 18 = .ok (.iastore, 1) := by decide +kernel
theorem d_Row_addOperand_19 : decode b_Row_addOperand 19 = .ok (.goto 10, 3) := by decide +kernel
theorem d_Row_addOperand_22 : decode b_Row_addOperand 22 = .ok (.aload_n 0, 1) := by decide +kernel
theorem d_Row_addOperand_23 : decode b_Row_addOperand 23 = .ok (.iconst 0, 1) := by decide +kernel
theorem d_Row_addOperand_24 : decode b_Row_addOperand 24 = .ok (.iload_n 1, 1) := by decide +kernel
theorem d_Row_addOperand_25 : decode b_Row_addOperand 25 = .ok (.iload_n 2, 1) := by decide +kernel
theorem d_Row_addOperand_26 : decode b_Row_addOperand 26 = .ok (.invokevirtual 36, 3) := by decide +kernel
theorem d_Row_addOperand_29 : decode b_Row_addOperand 29 = .ok (.return_, 1) := by decide +kernel
theorem d_Row_addOperation_0 : decode b_Row_addOperation 0 = .ok (.aload_n 0, 1) := by decide +kernel
theorem d_Row_addOperation_1 : decode b_Row_addOperation 1 = .ok (.invokevirtual 32, 3) := by decide +kernel
theorem d_Row_addOperation_4 : decode b_Row_addOperation 4 = .ok (.ifCond .ne 7, 3) := by decide +kernel
theorem d_Row_addOperation_7 : decode b_Row_addOperation 7 = .ok (.iconst 1, 1) := by decide +kernel
theorem d_Row_addOperation_8 : decode b_Row_addOperation 8 = .ok (.goto 4, 3) := by decide +kernel
theorem d_Row_addOperation_11 : decode b_Row_addOperation 11 = .ok (.iconst 0, 1) := by decide +kernel
theorem d_Row_addOperation_12 : decode b_Row_addOperation 12 = .ok (.istore 4, 2) := by decide +kernel
theorem d_Row_addOperation_14 : decode b_Row_addOperation 14 = .ok (.aload_n 0, 1) := by decide +kernel
theorem d_Row_addOperation_15 : decode b_Row_addOperation 15 = .ok (.iconst 1, 1) := by decide +kernel
theorem d_Row_addOperation_16 : decode b_Row_addOperation 16 = .ok (.putfield 25, 3) := by decide +kernel
theorem d_Row_addOperation_19 : decode b_Row_addOperation 19 = .ok (.aload_n 0, 1) := by decide +kernel
theorem d_Row_addOperation_20 : decode b_Row_addOperation 20 = .ok (.aload_n 0, 1) := by decide +kernel
theorem d_Row_addOperation_21 : decode b_Row_addOperation 21 = .ok (.getfield 29, 3) := by decide +kernel
theorem d_Row_addOperation_24 : decode b_Row_addOperation 24 = .ok (.ifCond .ne 12, 3) := by decide +kernel
theorem d_Row_addOperation_27 : decode b_Row_addOperation 27 = .ok (.iload 4, 2) := by decide +kernel
theorem d_Row_addOperation_29 : decode b_Row_addOperation 29 = .ok (.ifCond .eq 11, 3) := by decide +kernel
theorem d_Row_addOperation_32 : decode b_Row_addOperation 32 = .ok (.iload_n 3, 1) := by decide +kernel
theorem d_Row_addOperation_33 : decode b_Row_addOperation 33 = .ok (.ifCond .ne 7, 3) := by decide +kernel
theorem d_Row_addOperation_36 : decode b_Row_addOperation 36 = .ok (.iconst 1, 1) := by decide +kernel
theorem d_Row_addOperation_37 : decode b_Row_addOperation 37 = .ok (.goto 4, 3) := by decide +kernel
theorem d_Row_addOperation_40 : decode b_Row_addOperation 40 = .ok (.iconst 0, 1) := by decide +kernel
theorem d_Row_addOperation_41 : decode b_Row_addOperation 41 = .ok (.putfield 29, 3) := by decide +kernel
theorem d_Row_addOperation_44 : decode b_Row_addOperation 44 = .ok (.aload_n 0, 1) := by decide +kernel
theorem d_Row_addOperation_45 : decode b_Row_addOperation 45 = .ok (.iload 4, 2) := by decide +kernel
theorem d_Row_addOperation_47 : decode b_Row_addOperation 47 = .ok (.ifCond .eq 7, 3) := by decide +kernel
theorem d_Row_addOperation_50 : decode b_Row_addOperation 50 = .ok (.iconst 2, 1) := by decide +kernel
theorem d_Row_addOperation_51 : decode b_Row_addOperation 51 = .ok (.goto 4, 3) := by decide +kernel
theorem d_Row_addOperation_54 : decode b_Row_addOperation 54 = .ok (.iconst 1, 1) := by decide +kernel
theorem d_Row_addOperation_55 : decode b_Row_addOperation 55 = .ok (.iload_n 1, 1) := by decide +kernel
theorem d_Row_addOperation_56 : decode b_Row_addOperation 56 = .ok (.iload_n 2, 1) := by decide +kernel
theorem d_Row_addOperation_57 : decode b_Row_addOperation 57 = .ok (.invokevirtual 36, 3) := by decide +kernel
theorem d_Row_addOperation_60 : decode b_Row_addOperation 60 = .ok (.return_, 1) := by decide +kernel
theorem d_Row_add_0 : decode b_Row_add 0 = .ok (.aload_n 0, 1) := by decide +kernel
theorem d_Row_add_1 : decode b_Row_add 1 = .ok (.getfield 21, 3) := by decide +kernel
theorem d_Row_add_4 : decode b_Row_add 4 = .ok (.bipush 90, 2) := by decide +kernel
theorem d_Row_add_6 : decode b_Row_add 6 = .ok (.if_icmp .ge 43, 3) := by decide +kernel
theorem d_Row_add_9 : decode b_Row_add 9 = .ok (.aload_n 0, 1) := by decide +kernel
theorem d_Row_add_10 : decode b_Row_add 10 = .ok (.getfield 9, 3) := by decide +kernel
theorem d_Row_add_13 : decode b_Row_add 13 = .ok (.aload_n 0, 1) := by decide +kernel
theorem d_Row_add_14 : decode b_Row_add 14 = .ok (.getfield 21, 3) := by decide +kernel
theorem d_Row_add_17 : decode b_Row_add 17 = .ok (.iload_n 1, 1) := by decide +kernel
theorem d_Row_add_18 : decode b_Row_add 18 = .ok (.iastore, 1) := by decide +kernel
theorem d_Row_add_19 : decode b_Row_add 19 = .ok (.aload_n 0, 1) := by decide +kernel
theorem d_Row_add_20 : decode b_Row_add 20 = .ok (.getfield 15, 3) := by decide +kernel
theorem d_Row_add_23 : decode b_Row_add 23 = .ok (.aload_n 0, 1) := by decide +kernel
theorem d_Row_add_24 : decode b_Row_add 24 = .ok (.getfield 21, 3) := by decide +kernel
theorem d_Row_add_27 : decode b_Row_add 27 = .ok (.iload_n 2, 1) := by decide +kernel
theorem d_Row_add_28 : decode b_Row_add 28 = .ok (.iastore, 1) := by decide +kernel
theorem d_Row_add_29 : decode b_Row_add 29 = .ok (.aload_n 0, 1) := by decide +kernel
theorem d_Row_add_30 : decode b_Row_add 30 = .ok (.getfield 18, 3) := by decide +kernel
theorem d_Row_add_33 : decode b_Row_add 33 = .ok (.aload_n 0, 1) := by decide +kernel
theorem d_Row_add_34 : decode b_Row_add 34 = .ok (.getfield 21, 3) := by decide +kernel
theorem d_Row_add_37 : decode b_Row_add 37 = .ok (.iload_n 3, 1) := by decide +kernel
theorem d_Row_add_38 : decode b_Row_add 38 = .ok (.iastore, 1) := by decide +kernel
theorem d_Row_add_39 : decode b_Row_add 39 = .ok (.aload_n 0, 1) := by decide +kernel
theorem d_Row_add_40 : decode b_Row_add 40 = .ok (.dup, 1) := by decide +kernel
theorem d_Row_add_41 : decode b_Row_add 41 = .ok (.getfield 21, 3) := by decide +kernel
theorem d_Row_add_44 : decode b_Row_add 44 = .ok (.iconst 1, 1) := by decide +kernel
theorem d_Row_add_45 : decode b_Row_add 45 = .ok (.iadd, 1) := by decide +kernel
theorem d_Row_add_46 : decode b_Row_add 46 = .ok (.putfield 21, 3) := by decide +kernel
theorem d_Row_add_49 : decode b_Row_add 49 = .ok (.return_, 1) := by decide +kernel
theorem d_Row_has_0 : decode b_Row_has 0 = .ok (.iload_n 1, 1) := by decide +kernel
theorem d_Row_has_1 : decode b_Row_has 1 = .ok (.ifCond .lt 15, 3) := by decide +kernel
theorem d_Row_has_4 : decode b_Row_has 4 = .ok (.iload_n 1, 1) := by decide +kernel
theorem d_Row_has_5 : decode b_Row_has 5 = .ok (.aload_n 0, 1) := by decide +kernel
theorem d_Row_has_6 : decode b_Row_has 6 = .ok (.getfield 21, 3) := by decide +kernel
theorem d_Row_has_9 : decode b_Row_has 9 = .ok (.if_icmp .ge 7, 3) := by decide +kernel
theorem d_Row_has_12 : decode b_Row_has 12 = .ok (.iconst 1, 1) := by decide +kernel
theorem d_Row_has_13 : decode b_Row_has 13 = .ok (.goto 4, 3) := by decide +kernel
theorem d_Row_has_16 : decode b_Row_has 16 = .ok (.iconst 0, 1) := by decide +kernel
theorem d_Row_has_17 : decode b_Row_has 17 = .ok (.ireturn, 1) := by decide +kernel
theorem d_Row_partAt_0 : decode b_Row_partAt 0 = .ok (.aload_n 0, 1) := by decide +kernel
theorem d_Row_partAt_1 : decode b_Row_partAt 1 = .ok (.iload_n 1, 1) := by decide +kernel
theorem d_Row_partAt_2 : decode b_Row_partAt 2 = .ok (.invokevirtual 40, 3) := by decide +kernel
theorem d_Row_partAt_5 : decode b_Row_partAt 5 = .ok (.ifCond .eq 12, 3) := by decide +kernel
theorem d_Row_partAt_8 : decode b_Row_partAt 8 = .ok (.aload_n 0, 1) := by decide +kernel
theorem d_Row_partAt_9 : decode b_Row_partAt 9 = .ok (.getfield 9, 3) := by decide +kernel
theorem d_Row_partAt_12 : decode b_Row_partAt 12 = .ok (.iload_n 1, 1) := by decide +kernel
theorem d_Row_partAt_13 : decode b_Row_partAt 13 = .ok (.iaload, 1) := by decide +kernel
theorem d_Row_partAt_14 : decode b_Row_partAt 14 = .ok (.goto 4, 3) := by decide +kernel
theorem d_Row_partAt_17 : decode b_Row_partAt 17 = .ok (.iconst (-1), 1) := by decide +kernel
theorem d_Row_partAt_18 : decode b_Row_partAt 18 = .ok (.ireturn, 1) := by decide +kernel
theorem d_Row_firstAt_0 : decode b_Row_firstAt 0 = .ok (.aload_n 0, 1) := by decide +kernel
theorem d_Row_firstAt_1 : decode b_Row_firstAt 1 = .ok (.iload_n 1, 1) := by decide +kernel
theorem d_Row_firstAt_2 : decode b_Row_firstAt 2 = .ok (.invokevirtual 40, 3) := by decide +kernel
theorem d_Row_firstAt_5 : decode b_Row_firstAt 5 = .ok (.ifCond .eq 12, 3) := by decide +kernel
theorem d_Row_firstAt_8 : decode b_Row_firstAt 8 = .ok (.aload_n 0, 1) := by decide +kernel
theorem d_Row_firstAt_9 : decode b_Row_firstAt 9 = .ok (.getfield 15, 3) := by decide +kernel
theorem d_Row_firstAt_12 : decode b_Row_firstAt 12 = .ok (.iload_n 1, 1) := by decide +kernel
theorem d_Row_firstAt_13 : decode b_Row_firstAt 13 = .ok (.iaload, 1) := by decide +kernel
theorem d_Row_firstAt_14 : decode b_Row_firstAt 14 = .ok (.goto 4, 3) := by decide +kernel
theorem d_Row_firstAt_17 : decode b_Row_firstAt 17 = .ok (.iconst (-1), 1) := by decide +kernel
theorem d_Row_firstAt_18 : decode b_Row_firstAt 18 = .ok (.ireturn, 1) := by decide +kernel
theorem d_Row_lastAt_0 : decode b_Row_lastAt 0 = .ok (.aload_n 0, 1) := by decide +kernel
theorem d_Row_lastAt_1 : decode b_Row_lastAt 1 = .ok (.iload_n 1, 1) := by decide +kernel
theorem d_Row_lastAt_2 : decode b_Row_lastAt 2 = .ok (.invokevirtual 40, 3) := by decide +kernel
theorem d_Row_lastAt_5 : decode b_Row_lastAt 5 = .ok (.ifCond .eq 12, 3) := by decide +kernel
theorem d_Row_lastAt_8 : decode b_Row_lastAt 8 = .ok (.aload_n 0, 1) := by decide +kernel
theorem d_Row_lastAt_9 : decode b_Row_lastAt 9 = .ok (.getfield 18, 3) := by decide +kernel
theorem d_Row_lastAt_12 : decode b_Row_lastAt 12 = .ok (.iload_n 1, 1) := by decide +kernel
theorem d_Row_lastAt_13 : decode b_Row_lastAt 13 = .ok (.iaload, 1) := by decide +kernel
theorem d_Row_lastAt_14 : decode b_Row_lastAt 14 = .ok (.goto 4, 3) := by decide +kernel
theorem d_Row_lastAt_17 : decode b_Row_lastAt 17 = .ok (.iconst (-1), 1) := by decide +kernel
theorem d_Row_lastAt_18 : decode b_Row_lastAt 18 = .ok (.ireturn, 1) := by decide +kernel
theorem d_Resolver_init_0 : decode b_Resolver_init 0 = .ok (.aload_n 0, 1) := by decide +kernel
theorem d_Resolver_init_1 : decode b_Resolver_init 1 = .ok (.invokespecial 3, 3) := by decide +kernel
theorem d_Resolver_init_4 : decode b_Resolver_init 4 = .ok (.aload_n 0, 1) := by decide +kernel
theorem d_Resolver_init_5 : decode b_Resolver_init 5 = .ok (.bipush 90, 2) := by decide +kernel
theorem d_Resolver_init_7 : decode b_Resolver_init 7 = .ok (.newarray .int, 2) := by decide +kernel
theorem d_Resolver_init_9 : decode b_Resolver_init 9 = .ok (.putfield 9, 3) := by decide +kernel
theorem d_Resolver_init_12 : decode b_Resolver_init 12 = .ok (.aload_n 0, 1) := by decide +kernel
theorem d_Resolver_init_13 : decode b_Resolver_init 13 = .ok (.bipush 90, 2) := by decide +kernel
theorem d_Resolver_init_15 : decode b_Resolver_init 15 = .ok (.newarray .int, 2) := by decide +kernel
theorem d_Resolver_init_17 : decode b_Resolver_init 17 = .ok (.putfield 15, 3) := by decide +kernel
theorem d_Resolver_init_20 : decode b_Resolver_init 20 = .ok (.aload_n 0, 1) := by decide +kernel
theorem d_Resolver_init_21 : decode b_Resolver_init 21 = .ok (.bipush 90, 2) := by decide +kernel
theorem d_Resolver_init_23 : decode b_Resolver_init 23 = .ok (.newarray .int, 2) := by decide +kernel
theorem d_Resolver_init_25 : decode b_Resolver_init 25 = .ok (.putfield 18, 3) := by decide +kernel
theorem d_Resolver_init_28 : decode b_Resolver_init 28 = .ok (.aload_n 0, 1) := by decide +kernel
theorem d_Resolver_init_29 : decode b_Resolver_init 29 = .ok (.bipush 90, 2) := by decide +kernel
theorem d_Resolver_init_31 : decode b_Resolver_init 31 = .ok (.newarray .int, 2) := by decide +kernel
theorem d_Resolver_init_33 : decode b_Resolver_init 33 = .ok (.putfield 21, 3) := by decide +kernel
theorem d_Resolver_init_36 : decode b_Resolver_init 36 = .ok (.aload_n 0, 1) := by decide +kernel
theorem d_Resolver_init_37 : decode b_Resolver_init 37 = .ok (.bipush 90, 2) := by decide +kernel
theorem d_Resolver_init_39 : decode b_Resolver_init 39 = .ok (.newarray .int, 2) := by decide +kernel
theorem d_Resolver_init_41 : decode b_Resolver_init 41 = .ok (.putfield 24, 3) := by decide +kernel
theorem d_Resolver_init_44 : decode b_Resolver_init 44 = .ok (.aload_n 0, 1) := by decide +kernel
theorem d_Resolver_init_45 : decode b_Resolver_init 45 = .ok (.bipush 90, 2) := by decide +kernel
theorem d_Resolver_init_47 : decode b_Resolver_init 47 = .ok (.newarray .int, 2) := by decide +kernel
theorem d_Resolver_init_49 : decode b_Resolver_init 49 = .ok (.putfield 27, 3) := by decide +kernel
theorem d_Resolver_init_52 : decode b_Resolver_init 52 = .ok (.aload_n 0, 1) := by decide +kernel
theorem d_Resolver_init_53 : decode b_Resolver_init 53 = .ok (.bipush 90, 2) := by decide +kernel
theorem d_Resolver_init_55 : decode b_Resolver_init 55 = .ok (.newarray .int, 2) := by decide +kernel
theorem d_Resolver_init_57 : decode b_Resolver_init 57 = .ok (.putfield 30, 3) := by decide +kernel
theorem d_Resolver_init_60 : decode b_Resolver_init 60 = .ok (.return_, 1) := by decide +kernel
theorem d_Resolver_clear_0 : decode b_Resolver_clear 0 = .ok (.aload_n 0, 1) := by decide +kernel
theorem d_Resolver_clear_1 : decode b_Resolver_clear 1 = .ok (.iconst 0, 1) := by decide +kernel
theorem d_Resolver_clear_2 : decode b_Resolver_clear 2 = .ok (.putfield 33, 3) := by decide +kernel
theorem d_Resolver_clear_5 : decode b_Resolver_clear 5 = .ok (.aload_n 0, 1) := by decide +kernel
theorem d_Resolver_clear_6 : decode b_Resolver_clear 6 = .ok (.invokevirtual 37, 3) := by decide +kernel
theorem d_Resolver_clear_9 : decode b_Resolver_clear 9 = .ok (.return_, 1) := by decide +kernel
theorem d_Resolver_startRow_0 : decode b_Resolver_startRow 0 = .ok (.aload_n 0, 1) := by decide +kernel
theorem d_Resolver_startRow_1 : decode b_Resolver_startRow 1 = .ok (.aload_n 0, 1) := by decide +kernel
theorem d_Resolver_startRow_2 : decode b_Resolver_startRow 2 = .ok (.getfield 33, 3) := by decide +kernel
theorem d_Resolver_startRow_5 : decode b_Resolver_startRow 5 = .ok (.putfield 40, 3) := by decide +kernel
theorem d_Resolver_startRow_8 : decode b_Resolver_startRow 8 = .ok (.aload_n 0, 1) := by decide +kernel
theorem d_Resolver_startRow_9 : decode b_Resolver_startRow 9 = .ok (.iconst 0, 1) := by decide +kernel
theorem d_Resolver_startRow_10 : decode b_Resolver_startRow 10 = .ok (.putfield 43, 3) := by decide +kernel
theorem d_Resolver_startRow_13 : decode b_Resolver_startRow 13 = .ok (.aload_n 0, 1) := by decide +kernel
theorem d_Resolver_startRow_14 : decode b_Resolver_startRow 14 = .ok (.iconst 0, 1) := by decide +kernel
theorem d_Resolver_startRow_15 : decode b_Resolver_startRow 15 = .ok (.putfield 46, 3) := by decide +kernel
theorem d_Resolver_startRow_18 : decode b_Resolver_startRow 18 = .ok (.return_, 1) := by decide +kernel
theorem d_Resolver_giveUpRow_0 : decode b_Resolver_giveUpRow 0 = .ok (.aload_n 0, 1) := by decide +kernel
theorem d_Resolver_giveUpRow_1 : decode b_Resolver_giveUpRow 1 = .ok (.aload_n 0, 1) := by decide +kernel
theorem d_Resolver_giveUpRow_2 : decode b_Resolver_giveUpRow 2 = .ok (.getfield 40, 3) := by decide +kernel
theorem d_Resolver_giveUpRow_5 : decode b_Resolver_giveUpRow 5 = .ok (.putfield 33, 3) := by decide +kernel
theorem d_Resolver_giveUpRow_8 : decode b_Resolver_giveUpRow 8 = .ok (.return_, 1) := by decide +kernel
theorem d_Resolver_finishRow_0 : decode b_Resolver_finishRow 0 = .ok (.aload_n 0, 1) := by decide +kernel
theorem d_Resolver_finishRow_1 : decode b_Resolver_finishRow 1 = .ok (.getfield 46, 3) := by decide +kernel
theorem d_Resolver_finishRow_4 : decode b_Resolver_finishRow 4 = .ok (.istore_n 1, 1) := by decide +kernel
theorem d_Resolver_finishRow_5 : decode b_Resolver_finishRow 5 = .ok (.iload_n 1, 1) := by decide +kernel
theorem d_Resolver_finishRow_6 : decode b_Resolver_finishRow 6 = .ok (.ifCond .le 13, 3) := by decide +kernel
theorem d_Resolver_finishRow_9 : decode b_Resolver_finishRow 9 = .ok (.aload_n 0, 1) := by decide +kernel
theorem d_Resolver_finishRow_10 : decode b_Resolver_finishRow 10 = .ok (.invokevirtual 49, 3) := by decide +kernel
theorem d_Resolver_finishRow_13 : decode b_Resolver_finishRow 13 = .ok (.iinc 1 (-1), 3) := by decide +kernel
theorem d_Resolver_finishRow_16 : decode b_Resolver_finishRow 16 = .ok (.goto (-11), 3) := by decide +kernel
theorem d_Resolver_finishRow_19 : decode b_Resolver_finishRow 19 = .ok (.return_, 1) := by decide +kernel
theorem d_Resolver_takeOperand_0 : decode b_Resolver_takeOperand 0 = .ok (.aload_n 0, 1) := by decide +kernel
theorem d_Resolver_takeOperand_1 : decode b_Resolver_takeOperand 1 = .ok (.getfield 43, 3) := by decide +kernel
theorem d_Resolver_takeOperand_4 : decode b_Resolver_takeOperand 4 = .ok (.bipush 90, 2) := by decide +kernel
theorem d_Resolver_takeOperand_6 : decode b_Resolver_takeOperand 6 = .ok (.if_icmp .ge 33, 3) := by decide +kernel
theorem d_Resolver_takeOperand_9 : decode b_Resolver_takeOperand 9 = .ok (.aload_n 0, 1) := by decide +kernel
theorem d_Resolver_takeOperand_10 : decode b_Resolver_takeOperand 10 = .ok (.getfield 18, 3) := by decide +kernel
theorem d_Resolver_takeOperand_13 : decode b_Resolver_takeOperand 13 = .ok (.aload_n 0, 1) := by decide +kernel
theorem d_Resolver_takeOperand_14 : decode b_Resolver_takeOperand 14 = .ok (.getfield 43, 3) := by decide +kernel
theorem d_Resolver_takeOperand_17 : decode b_Resolver_takeOperand 17 = .ok (.iload_n 1, 1) := by decide +kernel
theorem d_Resolver_takeOperand_18 : decode b_Resolver_takeOperand 18 = .ok (.iastore, 1) := by decide +kernel
theorem d_Resolver_takeOperand_19 : decode b_Resolver_takeOperand 19 = .ok (.aload_n 0, 1) := by decide +kernel
theorem d_Resolver_takeOperand_20 : decode b_Resolver_takeOperand 20 = .ok (.getfield 21, 3) := by decide +kernel
theorem d_Resolver_takeOperand_23 : decode b_Resolver_takeOperand 23 = .ok (.aload_n 0, 1) := by decide +kernel
theorem d_Resolver_takeOperand_24 : decode b_Resolver_takeOperand 24 = .ok (.getfield 43, 3) := by decide +kernel
theorem d_Resolver_takeOperand_27 : decode b_Resolver_takeOperand 27 = .ok (.iload_n 2, 1) := by decide +kernel
theorem d_Resolver_takeOperand_28 : decode b_Resolver_takeOperand 28 = .ok (.iastore, 1) := by decide +kernel
theorem d_Resolver_takeOperand_29 : decode b_Resolver_takeOperand 29 = .ok (.aload_n 0, 1) := by decide +kernel
theorem d_Resolver_takeOperand_30 : decode b_Resolver_takeOperand 30 = .ok (.dup, 1) := by decide +kernel
theorem d_Resolver_takeOperand_31 : decode b_Resolver_takeOperand 31 = .ok (.getfield 43, 3) := by decide +kernel
theorem d_Resolver_takeOperand_34 : decode b_Resolver_takeOperand 34 = .ok (.iconst 1, 1) := by decide +kernel
theorem d_Resolver_takeOperand_35 : decode b_Resolver_takeOperand 35 = .ok (.iadd, 1) := by decide +kernel
theorem d_Resolver_takeOperand_36 : decode b_Resolver_takeOperand 36 = .ok (.putfield 43, 3) := by decide +kernel
theorem d_Resolver_takeOperand_39 : decode b_Resolver_takeOperand 39 = .ok (.return_, 1) := by decide +kernel
theorem d_Resolver_takeMinus_0 : decode b_Resolver_takeMinus 0 = .ok (.aload_n 0, 1) := by decide +kernel
theorem d_Resolver_takeMinus_1 : decode b_Resolver_takeMinus 1 = .ok (.getfield 46, 3) := by decide +kernel
theorem d_Resolver_takeMinus_4 : decode b_Resolver_takeMinus 4 = .ok (.ifCond .le 21, 3) := by decide +kernel
theorem d_Resolver_takeMinus_7 : decode b_Resolver_takeMinus 7 = .ok (.aload_n 0, 1) := by decide +kernel
theorem d_Resolver_takeMinus_8 : decode b_Resolver_takeMinus 8 = .ok (.getfield 24, 3) := by decide +kernel
theorem d_Resolver_takeMinus_11 : decode b_Resolver_takeMinus 11 = .ok (.aload_n 0, 1) := by decide +kernel
theorem d_Resolver_takeMinus_12 : decode b_Resolver_takeMinus 12 = .ok (.getfield 46, 3) := by decide +kernel
theorem d_Resolver_takeMinus_15 : decode b_Resolver_takeMinus 15 = .ok (.iconst 1, 1) := by decide +kernel
theorem d_Resolver_takeMinus_16 : decode b_Resolver_takeMinus 16 = .ok (.isub, 1) := by decide +kernel
theorem d_Resolver_takeMinus_17 : decode b_Resolver_takeMinus 17 = .ok (.iaload, 1) := by decide +kernel
theorem d_Resolver_takeMinus_18 : decode b_Resolver_takeMinus 18 = .ok (.bipush 6, 2) := by decide +kernel
theorem d_Resolver_takeMinus_20 : decode b_Resolver_takeMinus 20 = .ok (.if_icmp .lt 5, 3) := by decide +kernel
theorem d_Resolver_takeMinus_23 : decode b_Resolver_takeMinus 23 = .ok (.iconst 0, 1) := by decide +kernel
theorem d_Resolver_takeMinus_24 : decode b_Resolver_takeMinus 24 = .ok (.ireturn, 1) := by decide +kernel
theorem d_Resolver_takeMinus_25 : decode b_Resolver_takeMinus 25 = .ok (.aload_n 0, 1) := by decide +kernel
theorem d_Resolver_takeMinus_26 : decode b_Resolver_takeMinus 26 = .ok (.bipush 6, 2) := by decide +kernel
theorem d_Resolver_takeMinus_28 : decode b_Resolver_takeMinus 28 = .ok (.iconst 0, 1) := by decide +kernel
theorem d_Resolver_takeMinus_29 : decode b_Resolver_takeMinus 29 = .ok (.iload_n 1, 1) := by decide +kernel
theorem d_Resolver_takeMinus_30 : decode b_Resolver_takeMinus 30 = .ok (.invokevirtual 52, 3) := by decide +kernel
theorem d_Resolver_takeMinus_33 : decode b_Resolver_takeMinus 33 = .ok (.iconst 1, 1) := by decide +kernel
theorem d_Resolver_takeMinus_34 : decode b_Resolver_takeMinus 34 = .ok (.ireturn, 1) := by decide +kernel
theorem d_Resolver_takeOperation_0 : decode b_Resolver_takeOperation 0 = .ok (.aload_n 0, 1) := by decide +kernel
theorem d_Resolver_takeOperation_1 : decode b_Resolver_takeOperation 1 = .ok (.getfield 46, 3) := by decide +kernel
theorem d_Resolver_takeOperation_4 : decode b_Resolver_takeOperation 4 = .ok (.iconst 1, 1) := by decide +kernel
theorem d_Resolver_takeOperation_5 : decode b_Resolver_takeOperation 5 = .ok (.isub, 1) := by decide +kernel
theorem d_Resolver_takeOperation_6 : decode b_Resolver_takeOperation 6 = .ok (.istore_n 3, 1) := by decide +kernel
theorem d_Resolver_takeOperation_7 : decode b_Resolver_takeOperation 7 = .ok (.iload_n 3, 1) := by decide +kernel
theorem d_Resolver_takeOperation_8 : decode b_Resolver_takeOperation 8 = .ok (.ifCond .lt 74, 3) := by decide +kernel
theorem d_Resolver_takeOperation_11 : decode b_Resolver_takeOperation 11 = .ok (.aload_n 0, 1) := by decide +kernel
theorem d_Resolver_takeOperation_12 : decode b_Resolver_takeOperation 12 = .ok (.getfield 24, 3) := by decide +kernel
theorem d_Resolver_takeOperation_15 : decode b_Resolver_takeOperation 15 = .ok (.iload_n 3, 1) := by decide +kernel
theorem d_Resolver_takeOperation_16 : decode b_Resolver_takeOperation 16 = .ok (.iaload, 1) := by decide +kernel
theorem d_Resolver_takeOperation_17 : decode b_Resolver_takeOperation 17 = .ok (.iload_n 1, 1) := by decide +kernel
theorem d_Resolver_takeOperation_18 : decode b_Resolver_takeOperation 18 = .ok (.if_icmp .ne 7, 3) := by decide +kernel
theorem d_Resolver_takeOperation_21 : decode b_Resolver_takeOperation 21 = .ok (.iconst 1, 1) := by decide +kernel
theorem d_Resolver_takeOperation_22 : decode b_Resolver_takeOperation 22 = .ok (.goto 4, 3) := by decide +kernel
theorem d_Resolver_takeOperation_25 : decode b_Resolver_takeOperation 25 = .ok (.iconst 0, 1) := by decide +kernel
theorem d_Resolver_takeOperation_26 : decode b_Resolver_takeOperation 26 = .ok (.istore 4, 2) := by decide +kernel
theorem d_Resolver_takeOperation_28 : decode b_Resolver_takeOperation 28 = .ok (.iload 4, 2) := by decide +kernel
theorem d_Resolver_takeOperation_30 : decode b_Resolver_takeOperation 30 = .ok (.ifCond .eq 20, 3) := by decide +kernel
theorem d_Resolver_takeOperation_33 : decode b_Resolver_takeOperation 33 = .ok (.aload_n 0, 1) := by decide +kernel
theorem d_Resolver_takeOperation_34 : decode b_Resolver_takeOperation 34 = .ok (.getfield 27, 3) := by decide +kernel
theorem d_Resolver_takeOperation_37 : decode b_Resolver_takeOperation 37 = .ok (.iload_n 3, 1) := by decide +kernel
theorem d_Resolver_takeOperation_38 : decode b_Resolver_takeOperation 38 = .ok (.iaload, 1) := by decide +kernel
theorem d_Resolver_takeOperation_39 : decode b_Resolver_takeOperation 39 = .ok (.iload_n 2, 1) := by decide +kernel
theorem d_Resolver_takeOperation_40 : decode b_Resolver_takeOperation 40 = .ok (.if_icmp .ne 8, 3) := by decide +kernel
theorem d_Resolver_takeOperation_43 : decode b_Resolver_takeOperation 43 = .ok (.iload_n 2, 1) := by decide +kernel
theorem d_Resolver_takeOperation_44 : decode b_Resolver_takeOperation 44 = .ok (.iconst 2, 1) := by decide +kernel
theorem d_Resolver_takeOperation_45 : decode b_Resolver_takeOperation 45 = .ok (.if_icmp .ne 5, 3) := by decide +kernel
theorem d_Resolver_takeOperation_48 : decode b_Resolver_takeOperation 48 = .ok (.iconst 0, 1) := by decide +kernel
theorem d_Resolver_takeOperation_49 : decode b_Resolver_takeOperation 49 = .ok (.ireturn, 1) := by decide +kernel
theorem d_Resolver_takeOperation_50 : decode b_Resolver_takeOperation 50 = .ok (.aload_n 0, 1) := by decide +kernel
theorem d_Resolver_takeOperation_51 : decode b_Resolver_takeOperation 51 = .ok (.getfield 24, 3) := by decide +kernel
theorem d_Resolver_takeOperation_54 : decode b_Resolver_takeOperation 54 = .ok (.iload_n 3, 1) := by decide +kernel
theorem d_Resolver_takeOperation_55 : decode b_Resolver_takeOperation 55 = .ok (.iaload, 1) := by decide +kernel
theorem d_Resolver_takeOperation_56 : decode b_Resolver_takeOperation 56 = .ok (.iload_n 1, 1) := by decide +kernel
theorem d_Resolver_takeOperation_57 : decode b_Resolver_takeOperation 57 = .ok (.if_icmp .lt 25, 3) := by decide +kernel
theorem d_Resolver_takeOperation_60 : decode b_Resolver_takeOperation 60 = .ok (.iload 4, 2) := by decide +kernel
theorem d_Resolver_takeOperation_62 : decode b_Resolver_takeOperation 62 = .ok (.ifCond .eq 10, 3) := by decide +kernel
theorem d_Resolver_takeOperation_65 : decode b_Resolver_takeOperation 65 = .ok (.iload_n 2, 1) := by decide +kernel
theorem d_Resolver_takeOperation_66 : decode b_Resolver_takeOperation 66 = .ok (.ifCond .eq 6, 3) := by decide +kernel
theorem d_Resolver_takeOperation_69 : decode b_Resolver_takeOperation 69 = .ok (.goto 13, 3) := by decide +kernel
theorem d_Resolver_takeOperation_72 : decode b_Resolver_takeOperation 72 = .ok (.aload_n 0, 1) := by decide +kernel
theorem d_Resolver_takeOperation_73 : decode b_Resolver_takeOperation 73 = .ok (.invokevirtual 49, 3) := by decide +kernel
theorem d_Resolver_takeOperation_76 : decode b_Resolver_takeOperation 76 = .ok (.iinc 3 (-1), 3) := by decide +kernel
theorem d_Resolver_takeOperation_79 : decode b_Resolver_takeOperation 79 = .ok (.goto (-72), 3) := by decide +kernel
theorem d_Resolver_takeOperation_82 : decode b_Resolver_takeOperation 82 = .ok (.aload_n 0, 1) := by decide +kernel
theorem d_Resolver_takeOperation_83 : decode b_Resolver_takeOperation 83 = .ok (.iload_n 1, 1) := by decide +kernel
theorem d_Resolver_takeOperation_84 : decode b_Resolver_takeOperation 84 = .ok (.iload_n 2, 1) := by decide +kernel
theorem d_Resolver_takeOperation_85 : decode b_Resolver_takeOperation 85 = .ok (.iconst (-1), 1) := by decide +kernel
theorem d_Resolver_takeOperation_86 : decode b_Resolver_takeOperation 86 = .ok (.invokevirtual 52, 3) := by decide +kernel
theorem d_Resolver_takeOperation_89 : decode b_Resolver_takeOperation 89 = .ok (.iconst 1, 1) := by decide +kernel
theorem d_Resolver_takeOperation_90 : decode b_Resolver_takeOperation 90 = .ok (.ireturn, 1) := by decide +kernel
theorem d_Resolver_letWait_0 : decode b_Resolver_letWait 0 = .ok (.aload_n 0, 1) := by decide +kernel
theorem d_Resolver_letWait_1 : decode b_Resolver_letWait 1 = .ok (.getfield 46, 3) := by decide +kernel
theorem d_Resolver_letWait_4 : decode b_Resolver_letWait 4 = .ok (.bipush 90, 2) := by decide +kernel
theorem d_Resolver_letWait_6 : decode b_Resolver_letWait 6 = .ok (.if_icmp .ge 43, 3) := by decide +kernel
theorem d_Resolver_letWait_9 : decode b_Resolver_letWait 9 = .ok (.aload_n 0, 1) := by decide +kernel
theorem d_Resolver_letWait_10 : decode b_Resolver_letWait 10 = .ok (.getfield 24, 3) := by decide +kernel
theorem d_Resolver_letWait_13 : decode b_Resolver_letWait 13 = .ok (.aload_n 0, 1) := by decide +kernel
theorem d_Resolver_letWait_14 : decode b_Resolver_letWait 14 = .ok (.getfield 46, 3) := by decide +kernel
theorem d_Resolver_letWait_17 : decode b_Resolver_letWait 17 = .ok (.iload_n 1, 1) := by decide +kernel
theorem d_Resolver_letWait_18 : decode b_Resolver_letWait 18 = .ok (.iastore, 1) := by decide +kernel
theorem d_Resolver_letWait_19 : decode b_Resolver_letWait 19 = .ok (.aload_n 0, 1) := by decide +kernel
theorem d_Resolver_letWait_20 : decode b_Resolver_letWait 20 = .ok (.getfield 27, 3) := by decide +kernel
theorem d_Resolver_letWait_23 : decode b_Resolver_letWait 23 = .ok (.aload_n 0, 1) := by decide +kernel
theorem d_Resolver_letWait_24 : decode b_Resolver_letWait 24 = .ok (.getfield 46, 3) := by decide +kernel
theorem d_Resolver_letWait_27 : decode b_Resolver_letWait 27 = .ok (.iload_n 2, 1) := by decide +kernel
theorem d_Resolver_letWait_28 : decode b_Resolver_letWait 28 = .ok (.iastore, 1) := by decide +kernel
theorem d_Resolver_letWait_29 : decode b_Resolver_letWait 29 = .ok (.aload_n 0, 1) := by decide +kernel
theorem d_Resolver_letWait_30 : decode b_Resolver_letWait 30 = .ok (.getfield 30, 3) := by decide +kernel
theorem d_Resolver_letWait_33 : decode b_Resolver_letWait 33 = .ok (.aload_n 0, 1) := by decide +kernel
theorem d_Resolver_letWait_34 : decode b_Resolver_letWait 34 = .ok (.getfield 46, 3) := by decide +kernel
theorem d_Resolver_letWait_37 : decode b_Resolver_letWait 37 = .ok (.iload_n 3, 1) := by decide +kernel
theorem d_Resolver_letWait_38 : decode b_Resolver_letWait 38 = .ok (.iastore, 1) := by decide +kernel
theorem d_Resolver_letWait_39 : decode b_Resolver_letWait 39 = .ok (.aload_n 0, 1) := by decide +kernel
theorem d_Resolver_letWait_40 : decode b_Resolver_letWait 40 = .ok (.dup, 1) := by decide +kernel
theorem d_Resolver_letWait_41 : decode b_Resolver_letWait 41 = .ok (.getfield 46, 3) := by decide +kernel
theorem d_Resolver_letWait_44 : decode b_Resolver_letWait 44 = .ok (.iconst 1, 1) := by decide +kernel
theorem d_Resolver_letWait_45 : decode b_Resolver_letWait 45 = .ok (.iadd, 1) := by decide +kernel
theorem d_Resolver_letWait_46 : decode b_Resolver_letWait 46 = .ok (.putfield 46, 3) := by decide +kernel
theorem d_Resolver_letWait_49 : decode b_Resolver_letWait 49 = .ok (.return_, 1) := by decide +kernel
theorem d_Resolver_giveSides_0 : decode b_Resolver_giveSides 0 = .ok (.aload_n 0, 1) := by decide +kernel
theorem d_Resolver_giveSides_1 : decode b_Resolver_giveSides 1 = .ok (.getfield 46, 3) := by decide +kernel
theorem d_Resolver_giveSides_4 : decode b_Resolver_giveSides 4 = .ok (.iconst 1, 1) := by decide +kernel
theorem d_Resolver_giveSides_5 : decode b_Resolver_giveSides 5 = .ok (.if_icmp .lt 11, 3) := by decide +kernel
theorem d_Resolver_giveSides_8 : decode b_Resolver_giveSides 8 = .ok (.aload_n 0, 1) := by decide +kernel
theorem d_Resolver_giveSides_9 : decode b_Resolver_giveSides 9 = .ok (.getfield 43, 3) := by decide +kernel
theorem d_Resolver_giveSides_12 : decode b_Resolver_giveSides 12 = .ok (.iconst 1, 1) := by decide +kernel
theorem d_Resolver_giveSides_13 : decode b_Resolver_giveSides 13 = .ok (.if_icmp .ge 4, 3) := by decide +kernel
theorem d_Resolver_giveSides_16 : decode b_Resolver_giveSides 16 = .ok (.return_, 1) := by decide +kernel
theorem d_Resolver_giveSides_17 : decode b_Resolver_giveSides 17 = .ok (.aload_n 0, 1) := by decide +kernel
theorem d_Resolver_giveSides_18 : decode b_Resolver_giveSides 18 = .ok (.dup, 1) := by decide +kernel
theorem d_Resolver_giveSides_19 : decode b_Resolver_giveSides 19 = .ok (.getfield 46, 3) := by decide +kernel
theorem d_Resolver_giveSides_22 : decode b_Resolver_giveSides 22 = .ok (.iconst 1, 1) := by decide +kernel
theorem d_Resolver_giveSides_23 : decode b_Resolver_giveSides 23 = .ok (.isub, 1) := by decide +kernel
theorem d_Resolver_giveSides_24 : decode b_Resolver_giveSides 24 = .ok (.putfield 46, 3) := by decide +kernel
theorem d_Resolver_giveSides_27 : decode b_Resolver_giveSides 27 = .ok (.aload_n 0, 1) := by decide +kernel
theorem d_Resolver_giveSides_28 : decode b_Resolver_giveSides 28 = .ok (.getfield 30, 3) := by decide +kernel
theorem d_Resolver_giveSides_31 : decode b_Resolver_giveSides 31 = .ok (.aload_n 0, 1) := by decide +kernel
theorem d_Resolver_giveSides_32 : decode b_Resolver_giveSides 32 = .ok (.getfield 46, 3) := by decide +kernel
theorem d_Resolver_giveSides_35 : decode b_Resolver_giveSides 35 = .ok (.iaload, 1) := by decide +kernel
theorem d_Resolver_giveSides_36 : decode b_Resolver_giveSides 36 = .ok (.iconst (-1), 1) := by decide +kernel
theorem d_Resolver_giveSides_37 : decode b_Resolver_giveSides 37 = .ok (.if_icmp .eq 26, 3) := by decide +kernel
theorem d_Resolver_giveSides_40 : decode b_Resolver_giveSides 40 = .ok (.aload_n 0, 1) := by decide +kernel
theorem d_Resolver_giveSides_41 : decode b_Resolver_giveSides 41 = .ok (.getfield 18, 3) := by decide +kernel
theorem d_Resolver_giveSides_44 : decode b_Resolver_giveSides 44 = .ok (.aload_n 0, 1) := by decide +kernel
theorem d_Resolver_giveSides_45 : decode b_Resolver_giveSides 45 = .ok (.getfield 43, 3) := by decide +kernel
theorem d_Resolver_giveSides_48 : decode b_Resolver_giveSides 48 = .ok (.iconst 1, 1) := by decide +kernel
theorem d_Resolver_giveSides_49 : decode b_Resolver_giveSides 49 = .ok (.isub, 1) := by decide +kernel
theorem d_Resolver_giveSides_50 : decode b_Resolver_giveSides 50 = .ok (.aload_n 0, 1) := by decide +kernel
theorem d_Resolver_giveSides_51 : decode b_Resolver_giveSides 51 = .ok (.getfield 30, 3) := by decide +kernel
theorem d_Resolver_giveSides_54 : decode b_Resolver_giveSides 54 = .ok (.aload_n 0, 1) := by decide +kernel
theorem d_Resolver_giveSides_55 : decode b_Resolver_giveSides 55 = .ok (.getfield 46, 3) := by decide +kernel
theorem d_Resolver_giveSides_58 : decode b_Resolver_giveSides 58 = .ok (.iaload, 1) := by decide +kernel
theorem d_Resolver_giveSides_59 : decode b_Resolver_giveSides 59 = .ok (.iastore, 1) := by decide +kernel
theorem d_Resolver_giveSides_60 : decode b_Resolver_giveSides 60 = .ok (.goto 41, 3) := by decide +kernel
theorem d_Resolver_giveSides_63 : decode b_Resolver_giveSides 63 = .ok (.aload_n 0, 1) := by decide +kernel
theorem d_Resolver_giveSides_64 : decode b_Resolver_giveSides 64 = .ok (.getfield 43, 3) := by decide +kernel
theorem d_Resolver_giveSides_67 : decode b_Resolver_giveSides 67 = .ok (.iconst 2, 1) := by decide +kernel
theorem d_Resolver_giveSides_68 : decode b_Resolver_giveSides 68 = .ok (.if_icmp .lt 33, 3) := by decide +kernel
theorem d_Resolver_giveSides_71 : decode b_Resolver_giveSides 71 = .ok (.aload_n 0, 1) := by decide +kernel
theorem d_Resolver_giveSides_72 : decode b_Resolver_giveSides 72 = .ok (.dup, 1) := by decide +kernel
theorem d_Resolver_giveSides_73 : decode b_Resolver_giveSides 73 = .ok (.getfield 43, 3) := by decide +kernel
theorem d_Resolver_giveSides_76 : decode b_Resolver_giveSides 76 = .ok (.iconst 1, 1) := by decide +kernel
theorem d_Resolver_giveSides_77 : decode b_Resolver_giveSides 77 = .ok (.isub, 1) := by decide +kernel
theorem d_Resolver_giveSides_78 : decode b_Resolver_giveSides 78 = .ok (.putfield 43, 3) := by decide +kernel
theorem d_Resolver_giveSides_81 : decode b_Resolver_giveSides 81 = .ok (.aload_n 0, 1) := by decide +kernel
theorem d_Resolver_giveSides_82 : decode b_Resolver_giveSides 82 = .ok (.getfield 21, 3) := by decide +kernel
theorem d_Resolver_giveSides_85 : decode b_Resolver_giveSides 85 = .ok (.aload_n 0, 1) := by decide +kernel
theorem d_Resolver_giveSides_86 : decode b_Resolver_giveSides 86 = .ok (.getfield 43, 3) := by decide +kernel
theorem d_Resolver_giveSides_89 : decode b_Resolver_giveSides 89 = .ok (.iconst 1, 1) := by decide +kernel
theorem d_Resolver_giveSides_90 : decode b_Resolver_giveSides 90 = .ok (.isub, 1) := by decide +kernel
theorem d_Resolver_giveSides_91 : decode b_Resolver_giveSides 91 = .ok (.aload_n 0, 1) := by decide +kernel
theorem d_Resolver_giveSides_92 : decode b_Resolver_giveSides 92 = .ok (.getfield 21, 3) := by decide +kernel
theorem d_Resolver_giveSides_95 : decode b_Resolver_giveSides 95 = .ok (.aload_n 0, 1) := by decide +kernel
theorem d_Resolver_giveSides_96 : decode b_Resolver_giveSides 96 = .ok (.getfield 43, 3) := by decide +kernel
theorem d_Resolver_giveSides_99 : decode b_Resolver_giveSides 99 = .ok (.iaload, 1) := by decide +kernel
theorem d_Resolver_giveSides_100 : decode b_Resolver_giveSides 100 = .ok (.iastore, 1) := by decide +kernel
theorem d_Resolver_giveSides_101 : decode b_Resolver_giveSides 101 = .ok (.aload_n 0, 1) := by decide +kernel
theorem d_Resolver_giveSides_102 : decode b_Resolver_giveSides 102 = .ok (.getfield 33, 3) := by decide +kernel
theorem d_Resolver_giveSides_105 : decode b_Resolver_giveSides 105 = .ok (.bipush 90, 2) := by decide +kernel
theorem d_Resolver_giveSides_107 : decode b_Resolver_giveSides 107 = .ok (.if_icmp .ge 53, 3) := by decide +kernel
theorem d_Resolver_giveSides_110 : decode b_Resolver_giveSides 110 = .ok (.aload_n 0, 1) := by decide +kernel
theorem d_Resolver_giveSides_111 : decode b_Resolver_giveSides 111 = .ok (.getfield 9, 3) := by decide +kernel
theorem d_Resolver_giveSides_114 : decode b_Resolver_giveSides 114 = .ok (.aload_n 0, 1) := by decide +kernel
theorem d_Resolver_giveSides_115 : decode b_Resolver_giveSides 115 = .ok (.getfield 33, 3) := by decide +kernel
