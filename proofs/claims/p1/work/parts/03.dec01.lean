theorem d_Open_clear_0 : decode b_Open_clear 0 = .ok (.aload_n 0, 1) := by decide +kernel
theorem d_Open_clear_1 : decode b_Open_clear 1 = .ok (.iconst 0, 1) := by decide +kernel
theorem d_Open_clear_2 : decode b_Open_clear 2 = .ok (.putfield 15, 3) := by decide +kernel
theorem d_Open_clear_5 : decode b_Open_clear 5 = .ok (.aload_n 0, 1) := by decide +kernel
theorem d_Open_clear_6 : decode b_Open_clear 6 = .ok (.iconst 0, 1) := by decide +kernel
theorem d_Open_clear_7 : decode b_Open_clear 7 = .ok (.putfield 19, 3) := by decide +kernel
theorem d_Open_clear_10 : decode b_Open_clear 10 = .ok (.return_, 1) := by decide +kernel
theorem d_Tokens_size_0 : decode b_Tokens_size 0 = .ok (.aload_n 0, 1) := by decide +kernel
theorem d_Tokens_size_1 : decode b_Tokens_size 1 = .ok (.getfield 19, 3) := by decide +kernel
theorem d_Tokens_size_4 : decode b_Tokens_size 4 = .ok (.ireturn, 1) := by decide +kernel
theorem d_Lexemes_size_0 : decode b_Lexemes_size 0 = .ok (.aload_n 0, 1) := by decide +kernel
theorem d_Lexemes_size_1 : decode b_Lexemes_size 1 = .ok (.getfield 14, 3) := by decide +kernel
theorem d_Lexemes_size_4 : decode b_Lexemes_size 4 = .ok (.invokevirtual 34, 3) := by decide +kernel
theorem d_Lexemes_size_7 : decode b_Lexemes_size 7 = .ok (.ireturn, 1) := by decide +kernel
theorem d_Lexemes_tokens_0 : decode b_Lexemes_tokens 0 = .ok (.aload_n 0, 1) := by decide +kernel
theorem d_Lexemes_tokens_1 : decode b_Lexemes_tokens 1 = .ok (.getfield 14, 3) := by decide +kernel
theorem d_Lexemes_tokens_4 : decode b_Lexemes_tokens 4 = .ok (.areturn, 1) := by decide +kernel
theorem d_Tokens_isSign_0 : decode b_Tokens_isSign 0 = .ok (.iload_n 1, 1) := by decide +kernel
theorem d_Tokens_isSign_1 : decode b_Tokens_isSign 1 = .ok (.ifCond .lt 37, 3) := by decide +kernel
theorem d_Tokens_isSign_4 : decode b_Tokens_isSign 4 = .ok (.iload_n 1, 1) := by decide +kernel
theorem d_Tokens_isSign_5 : decode b_Tokens_isSign 5 = .ok (.aload_n 0, 1) := by decide +kernel
theorem d_Tokens_isSign_6 : decode b_Tokens_isSign 6 = .ok (.getfield 19, 3) := by decide +kernel
theorem d_Tokens_isSign_9 : decode b_Tokens_isSign 9 = .ok (.if_icmp .ge 29, 3) := by decide +kernel
theorem d_Tokens_isSign_12 : decode b_Tokens_isSign 12 = .ok (.aload_n 0, 1) := by decide +kernel
theorem d_Tokens_isSign_13 : decode b_Tokens_isSign 13 = .ok (.getfield 9, 3) := by decide +kernel
theorem d_Tokens_isSign_16 : decode b_Tokens_isSign 16 = .ok (.iload_n 1, 1) := by decide +kernel
theorem d_Tokens_isSign_17 : decode b_Tokens_isSign 17 = .ok (.iaload, 1) := by decide +kernel
theorem d_Tokens_isSign_18 : decode b_Tokens_isSign 18 = .ok (.iconst 3, 1) := by decide +kernel
theorem d_Tokens_isSign_19 : decode b_Tokens_isSign 19 = .ok (.if_icmp .ne 19, 3) := by decide +kernel
theorem d_Tokens_isSign_38 : decode b_Tokens_isSign 38 = .ok (.iconst 0, 1) := by decide +kernel
theorem d_Tokens_isSign_39 : decode b_Tokens_isSign 39 = .ok (.ireturn, 1) := by decide +kernel
theorem d_Tokens_has_0 : decode b_Tokens_has 0 = .ok (.iload_n 1, 1) := by decide +kernel
theorem d_Tokens_has_1 : decode b_Tokens_has 1 = .ok (.ifCond .lt 15, 3) := by decide +kernel
theorem d_Tokens_has_4 : decode b_Tokens_has 4 = .ok (.iload_n 1, 1) := by decide +kernel
theorem d_Tokens_has_5 : decode b_Tokens_has 5 = .ok (.aload_n 0, 1) := by decide +kernel
theorem d_Tokens_has_6 : decode b_Tokens_has 6 = .ok (.getfield 19, 3) := by decide +kernel
theorem d_Tokens_has_9 : decode b_Tokens_has 9 = .ok (.if_icmp .ge 7, 3) := by decide +kernel
theorem d_Tokens_has_12 : decode b_Tokens_has 12 = .ok (.iconst 1, 1) := by decide +kernel
theorem d_Tokens_has_13 : decode b_Tokens_has 13 = .ok (.goto 4, 3) := by decide +kernel
theorem d_Tokens_has_16 : decode b_Tokens_has 16 = .ok (.iconst 0, 1) := by decide +kernel
theorem d_Tokens_has_17 : decode b_Tokens_has 17 = .ok (.ireturn, 1) := by decide +kernel
theorem d_Tokens_wordAt_0 : decode b_Tokens_wordAt 0 = .ok (.aload_n 0, 1) := by decide +kernel
theorem d_Tokens_wordAt_1 : decode b_Tokens_wordAt 1 = .ok (.iload_n 1, 1) := by decide +kernel
theorem d_Tokens_wordAt_2 : decode b_Tokens_wordAt 2 = .ok (.invokevirtual 27, 3) := by decide +kernel
theorem d_Tokens_wordAt_5 : decode b_Tokens_wordAt 5 = .ok (.ifCond .eq 27, 3) := by decide +kernel
theorem d_Tokens_wordAt_32 : decode b_Tokens_wordAt 32 = .ok (.iconst (-1), 1) := by decide +kernel
theorem d_Tokens_wordAt_33 : decode b_Tokens_wordAt 33 = .ok (.ireturn, 1) := by decide +kernel
theorem d_Blocks_beginsBlock_0 : decode b_Blocks_beginsBlock 0 = .ok (.aload_n 0, 1) := by decide +kernel
theorem d_Blocks_beginsBlock_1 : decode b_Blocks_beginsBlock 1 = .ok (.iload_n 1, 1) := by decide +kernel
theorem d_Blocks_beginsBlock_2 : decode b_Blocks_beginsBlock 2 = .ok (.bipush 123, 2) := by decide +kernel
theorem d_Blocks_beginsBlock_4 : decode b_Blocks_beginsBlock 4 = .ok (.invokevirtual 99, 3) := by decide +kernel
theorem d_Blocks_beginsBlock_7 : decode b_Blocks_beginsBlock 7 = .ok (.ifCond .eq 5, 3) := by decide +kernel
theorem d_Blocks_beginsBlock_12 : decode b_Blocks_beginsBlock 12 = .ok (.aload_n 0, 1) := by decide +kernel
theorem d_Blocks_beginsBlock_13 : decode b_Blocks_beginsBlock 13 = .ok (.iload_n 1, 1) := by decide +kernel
theorem d_Blocks_beginsBlock_14 : decode b_Blocks_beginsBlock 14 = .ok (.iconst 1, 1) := by decide +kernel
theorem d_Blocks_beginsBlock_15 : decode b_Blocks_beginsBlock 15 = .ok (.isub, 1) := by decide +kernel
theorem d_Blocks_beginsBlock_16 : decode b_Blocks_beginsBlock 16 = .ok (.invokevirtual 64, 3) := by decide +kernel
theorem d_Blocks_beginsBlock_19 : decode b_Blocks_beginsBlock 19 = .ok (.tableswitch 31 0 3 #[29, 29, 29, 29], 29) := by decide +kernel
theorem d_Blocks_beginsBlock_50 : decode b_Blocks_beginsBlock 50 = .ok (.iload_n 1, 1) := by decide +kernel
theorem d_Blocks_beginsBlock_51 : decode b_Blocks_beginsBlock 51 = .ok (.ifCond .ne 7, 3) := by decide +kernel
theorem d_Blocks_beginsBlock_54 : decode b_Blocks_beginsBlock 54 = .ok (.iconst 1, 1) := by decide +kernel
theorem d_Blocks_beginsBlock_55 : decode b_Blocks_beginsBlock 55 = .ok (.goto 4, 3) := by decide +kernel
theorem d_Blocks_beginsBlock_59 : decode b_Blocks_beginsBlock 59 = .ok (.ireturn, 1) := by decide +kernel
theorem d_Lexemes_columnAt_0 : decode b_Lexemes_columnAt 0 = .ok (.aload_n 0, 1) := by decide +kernel
theorem d_Lexemes_columnAt_1 : decode b_Lexemes_columnAt 1 = .ok (.getfield 14, 3) := by decide +kernel
theorem d_Lexemes_columnAt_4 : decode b_Lexemes_columnAt 4 = .ok (.iload_n 1, 1) := by decide +kernel
theorem d_Lexemes_columnAt_5 : decode b_Lexemes_columnAt 5 = .ok (.invokevirtual 42, 3) := by decide +kernel
theorem d_Lexemes_columnAt_8 : decode b_Lexemes_columnAt 8 = .ok (.ifCond .eq 12, 3) := by decide +kernel
theorem d_Lexemes_columnAt_20 : decode b_Lexemes_columnAt 20 = .ok (.iconst 0, 1) := by decide +kernel
theorem d_Lexemes_columnAt_21 : decode b_Lexemes_columnAt 21 = .ok (.ireturn, 1) := by decide +kernel
theorem d_Tokens_add_0 : decode b_Tokens_add 0 = .ok (.aload_n 0, 1) := by decide +kernel
theorem d_Tokens_add_1 : decode b_Tokens_add 1 = .ok (.getfield 19, 3) := by decide +kernel
theorem d_Tokens_add_4 : decode b_Tokens_add 4 = .ok (.aload_n 0, 1) := by decide +kernel
theorem d_Tokens_add_5 : decode b_Tokens_add 5 = .ok (.getfield 9, 3) := by decide +kernel
theorem d_Tokens_add_8 : decode b_Tokens_add 8 = .ok (.arraylength, 1) := by decide +kernel
theorem d_Tokens_add_9 : decode b_Tokens_add 9 = .ok (.if_icmp .ge 33, 3) := by decide +kernel
theorem d_Tokens_add_12 : decode b_Tokens_add 12 = .ok (.aload_n 0, 1) := by decide +kernel
theorem d_Tokens_add_13 : decode b_Tokens_add 13 = .ok (.getfield 9, 3) := by decide +kernel
theorem d_Tokens_add_16 : decode b_Tokens_add 16 = .ok (.aload_n 0, 1) := by decide +kernel
theorem d_Tokens_add_17 : decode b_Tokens_add 17 = .ok (.getfield 19, 3) := by decide +kernel
theorem d_Tokens_add_20 : decode b_Tokens_add 20 = .ok (.iload_n 1, 1) := by decide +kernel
theorem d_Tokens_add_21 : decode b_Tokens_add 21 = .ok (.iastore, 1) := by decide +kernel
theorem d_Tokens_add_22 : decode b_Tokens_add 22 = .ok (.aload_n 0, 1) := by decide +kernel
theorem d_Tokens_add_23 : decode b_Tokens_add 23 = .ok (.getfield 15, 3) := by decide +kernel
theorem d_Tokens_add_26 : decode b_Tokens_add 26 = .ok (.aload_n 0, 1) := by decide +kernel
theorem d_Tokens_add_27 : decode b_Tokens_add 27 = .ok (.getfield 19, 3) := by decide +kernel
theorem d_Tokens_add_30 : decode b_Tokens_add 30 = .ok (.lload_n 2, 1) := by decide +kernel
theorem d_Tokens_add_31 : decode b_Tokens_add 31 = .ok (.lastore, 1) := by decide +kernel
theorem d_Tokens_add_32 : decode b_Tokens_add 32 = .ok (.aload_n 0, 1) := by decide +kernel
theorem d_Tokens_add_33 : decode b_Tokens_add 33 = .ok (.dup, 1) := by decide +kernel
theorem d_Tokens_add_34 : decode b_Tokens_add 34 = .ok (.getfield 19, 3) := by decide +kernel
theorem d_Tokens_add_37 : decode b_Tokens_add 37 = .ok (.iconst 1, 1) := by decide +kernel
theorem d_Tokens_add_38 : decode b_Tokens_add 38 = .ok (.iadd, 1) := by decide +kernel
theorem d_Tokens_add_39 : decode b_Tokens_add 39 = .ok (.putfield 19, 3) := by decide +kernel
theorem d_Tokens_add_42 : decode b_Tokens_add 42 = .ok (.return_, 1) := by decide +kernel
theorem d_Blocks_putIn_0 : decode b_Blocks_putIn 0 = .ok (.aload_n 0, 1) := by decide +kernel
theorem d_Blocks_putIn_1 : decode b_Blocks_putIn 1 = .ok (.getfield 23, 3) := by decide +kernel
theorem d_Blocks_putIn_4 : decode b_Blocks_putIn 4 = .ok (.iconst 4, 1) := by decide +kernel
theorem d_Blocks_putIn_5 : decode b_Blocks_putIn 5 = .ok (.iload_n 1, 1) := by decide +kernel
theorem d_Blocks_putIn_6 : decode b_Blocks_putIn 6 = .ok (.i2l, 1) := by decide +kernel
theorem d_Blocks_putIn_7 : decode b_Blocks_putIn 7 = .ok (.invokevirtual 74, 3) := by decide +kernel
theorem d_Blocks_putIn_10 : decode b_Blocks_putIn 10 = .ok (.return_, 1) := by decide +kernel
theorem d_Open_latestColumn_0 : decode b_Open_latestColumn 0 = .ok (.aload_n 0, 1) := by decide +kernel
theorem d_Open_latestColumn_1 : decode b_Open_latestColumn 1 = .ok (.getfield 15, 3) := by decide +kernel
theorem d_Open_latestColumn_4 : decode b_Open_latestColumn 4 = .ok (.iconst 1, 1) := by decide +kernel
theorem d_Open_latestColumn_5 : decode b_Open_latestColumn 5 = .ok (.isub, 1) := by decide +kernel
theorem d_Open_latestColumn_6 : decode b_Open_latestColumn 6 = .ok (.istore_n 1, 1) := by decide +kernel
theorem d_Open_latestColumn_7 : decode b_Open_latestColumn 7 = .ok (.iload_n 1, 1) := by decide +kernel
theorem d_Open_latestColumn_8 : decode b_Open_latestColumn 8 = .ok (.ifCond .lt 23, 3) := by decide +kernel
theorem d_Open_latestColumn_31 : decode b_Open_latestColumn 31 = .ok (.iconst 0, 1) := by decide +kernel
theorem d_Open_latestColumn_32 : decode b_Open_latestColumn 32 = .ok (.ireturn, 1) := by decide +kernel
theorem d_Blocks_begin_0 : decode b_Blocks_begin 0 = .ok (.aload_n 0, 1) := by decide +kernel
theorem d_Blocks_begin_1 : decode b_Blocks_begin 1 = .ok (.dup, 1) := by decide +kernel
theorem d_Blocks_begin_2 : decode b_Blocks_begin 2 = .ok (.getfield 27, 3) := by decide +kernel
theorem d_Blocks_begin_5 : decode b_Blocks_begin 5 = .ok (.iconst 1, 1) := by decide +kernel
theorem d_Blocks_begin_6 : decode b_Blocks_begin 6 = .ok (.iadd, 1) := by decide +kernel
theorem d_Blocks_begin_7 : decode b_Blocks_begin 7 = .ok (.putfield 27, 3) := by decide +kernel
theorem d_Blocks_begin_10 : decode b_Blocks_begin 10 = .ok (.aload_n 0, 1) := by decide +kernel
theorem d_Blocks_begin_11 : decode b_Blocks_begin 11 = .ok (.bipush 123, 2) := by decide +kernel
theorem d_Blocks_begin_13 : decode b_Blocks_begin 13 = .ok (.invokevirtual 103, 3) := by decide +kernel
theorem d_Blocks_begin_16 : decode b_Blocks_begin 16 = .ok (.iload_n 1, 1) := by decide +kernel
theorem d_Blocks_begin_17 : decode b_Blocks_begin 17 = .ok (.aload_n 0, 1) := by decide +kernel
theorem d_Blocks_begin_18 : decode b_Blocks_begin 18 = .ok (.getfield 12, 3) := by decide +kernel
theorem d_Blocks_begin_21 : decode b_Blocks_begin 21 = .ok (.invokevirtual 107, 3) := by decide +kernel
theorem d_Blocks_begin_24 : decode b_Blocks_begin 24 = .ok (.if_icmp .le 14, 3) := by decide +kernel
theorem d_Blocks_begin_38 : decode b_Blocks_begin 38 = .ok (.aload_n 0, 1) := by decide +kernel
theorem d_Blocks_begin_39 : decode b_Blocks_begin 39 = .ok (.bipush 125, 2) := by decide +kernel
theorem d_Blocks_begin_41 : decode b_Blocks_begin 41 = .ok (.invokevirtual 103, 3) := by decide +kernel
theorem d_Blocks_begin_44 : decode b_Blocks_begin 44 = .ok (.iload_n 1, 1) := by decide +kernel
theorem d_Blocks_begin_45 : decode b_Blocks_begin 45 = .ok (.ifCond .le 8, 3) := by decide +kernel
theorem d_Blocks_begin_53 : decode b_Blocks_begin 53 = .ok (.return_, 1) := by decide +kernel
theorem d_Blocks_putBefore_0 : decode b_Blocks_putBefore 0 = .ok (.aload_n 1, 1) := by decide +kernel
theorem d_Blocks_putBefore_1 : decode b_Blocks_putBefore 1 = .ok (.invokevirtual 48, 3) := by decide +kernel
theorem d_Blocks_putBefore_4 : decode b_Blocks_putBefore 4 = .ok (.iload_n 2, 1) := by decide +kernel
theorem d_Blocks_putBefore_5 : decode b_Blocks_putBefore 5 = .ok (.invokestatic 83, 3) := by decide +kernel
theorem d_Blocks_putBefore_8 : decode b_Blocks_putBefore 8 = .ok (.ifCond .eq 15, 3) := by decide +kernel
theorem d_Blocks_putBefore_11 : decode b_Blocks_putBefore 11 = .ok (.aload_n 0, 1) := by decide +kernel
theorem d_Blocks_putBefore_12 : decode b_Blocks_putBefore 12 = .ok (.aload_n 1, 1) := by decide +kernel
theorem d_Blocks_putBefore_13 : decode b_Blocks_putBefore 13 = .ok (.iload_n 2, 1) := by decide +kernel
theorem d_Blocks_putBefore_14 : decode b_Blocks_putBefore 14 = .ok (.invokevirtual 87, 3) := by decide +kernel
theorem d_Blocks_putBefore_17 : decode b_Blocks_putBefore 17 = .ok (.invokevirtual 90, 3) := by decide +kernel
theorem d_Blocks_putBefore_20 : decode b_Blocks_putBefore 20 = .ok (.goto 24, 3) := by decide +kernel
theorem d_Blocks_putBefore_44 : decode b_Blocks_putBefore 44 = .ok (.return_, 1) := by decide +kernel
theorem d_Open_size_0 : decode b_Open_size 0 = .ok (.aload_n 0, 1) := by decide +kernel
theorem d_Open_size_1 : decode b_Open_size 1 = .ok (.getfield 15, 3) := by decide +kernel
theorem d_Open_size_4 : decode b_Open_size 4 = .ok (.ireturn, 1) := by decide +kernel
theorem d_Blocks_closeBlocks_0 : decode b_Blocks_closeBlocks 0 = .ok (.aload_n 0, 1) := by decide +kernel
theorem d_Blocks_closeBlocks_1 : decode b_Blocks_closeBlocks 1 = .ok (.getfield 12, 3) := by decide +kernel
theorem d_Blocks_closeBlocks_4 : decode b_Blocks_closeBlocks 4 = .ok (.invokevirtual 82, 3) := by decide +kernel
theorem d_Blocks_closeBlocks_7 : decode b_Blocks_closeBlocks 7 = .ok (.istore_n 2, 1) := by decide +kernel
theorem d_Blocks_closeBlocks_8 : decode b_Blocks_closeBlocks 8 = .ok (.iload_n 2, 1) := by decide +kernel
theorem d_Blocks_closeBlocks_9 : decode b_Blocks_closeBlocks 9 = .ok (.ifCond .le 53, 3) := by decide +kernel
theorem d_Blocks_closeBlocks_62 : decode b_Blocks_closeBlocks 62 = .ok (.return_, 1) := by decide +kernel
theorem d_Blocks_lay_0 : decode b_Blocks_lay 0 = .ok (.aload_n 0, 1) := by decide +kernel
theorem d_Blocks_lay_1 : decode b_Blocks_lay 1 = .ok (.getfield 12, 3) := by decide +kernel
theorem d_Blocks_lay_4 : decode b_Blocks_lay 4 = .ok (.invokevirtual 35, 3) := by decide +kernel
theorem d_Blocks_lay_7 : decode b_Blocks_lay 7 = .ok (.aload_n 0, 1) := by decide +kernel
theorem d_Blocks_lay_8 : decode b_Blocks_lay 8 = .ok (.getfield 23, 3) := by decide +kernel
theorem d_Blocks_lay_11 : decode b_Blocks_lay 11 = .ok (.invokevirtual 38, 3) := by decide +kernel
theorem d_Blocks_lay_14 : decode b_Blocks_lay 14 = .ok (.aload_n 0, 1) := by decide +kernel
theorem d_Blocks_lay_15 : decode b_Blocks_lay 15 = .ok (.iconst 0, 1) := by decide +kernel
theorem d_Blocks_lay_16 : decode b_Blocks_lay 16 = .ok (.putfield 27, 3) := by decide +kernel
theorem d_Blocks_lay_19 : decode b_Blocks_lay 19 = .ok (.iconst 0, 1) := by decide +kernel
theorem d_Blocks_lay_20 : decode b_Blocks_lay 20 = .ok (.istore_n 3, 1) := by decide +kernel
theorem d_Blocks_lay_21 : decode b_Blocks_lay 21 = .ok (.iload_n 3, 1) := by decide +kernel
theorem d_Blocks_lay_22 : decode b_Blocks_lay 22 = .ok (.aload_n 1, 1) := by decide +kernel
theorem d_Blocks_lay_23 : decode b_Blocks_lay 23 = .ok (.invokevirtual 39, 3) := by decide +kernel
theorem d_Blocks_lay_26 : decode b_Blocks_lay 26 = .ok (.if_icmp .ge 88, 3) := by decide +kernel
theorem d_Blocks_lay_114 : decode b_Blocks_lay 114 = .ok (.aload_n 0, 1) := by decide +kernel
theorem d_Blocks_lay_115 : decode b_Blocks_lay 115 = .ok (.aload_n 1, 1) := by decide +kernel
theorem d_Blocks_lay_116 : decode b_Blocks_lay 116 = .ok (.aload_n 1, 1) := by decide +kernel
theorem d_Blocks_lay_117 : decode b_Blocks_lay 117 = .ok (.invokevirtual 39, 3) := by decide +kernel
theorem d_Blocks_lay_120 : decode b_Blocks_lay 120 = .ok (.invokevirtual 44, 3) := by decide +kernel
theorem d_Blocks_lay_123 : decode b_Blocks_lay 123 = .ok (.aload_n 0, 1) := by decide +kernel
theorem d_Blocks_lay_124 : decode b_Blocks_lay 124 = .ok (.iconst 1, 1) := by decide +kernel
theorem d_Blocks_lay_125 : decode b_Blocks_lay 125 = .ok (.invokevirtual 78, 3) := by decide +kernel
theorem d_Blocks_lay_128 : decode b_Blocks_lay 128 = .ok (.aload_n 0, 1) := by decide +kernel
theorem d_Blocks_lay_129 : decode b_Blocks_lay 129 = .ok (.getfield 12, 3) := by decide +kernel
theorem d_Blocks_lay_132 : decode b_Blocks_lay 132 = .ok (.invokevirtual 82, 3) := by decide +kernel
theorem d_Blocks_lay_135 : decode b_Blocks_lay 135 = .ok (.ifCond .ne 7, 3) := by decide +kernel
theorem d_Blocks_lay_138 : decode b_Blocks_lay 138 = .ok (.iconst (-1), 1) := by decide +kernel
theorem d_Blocks_lay_139 : decode b_Blocks_lay 139 = .ok (.goto 4, 3) := by decide +kernel
theorem d_Blocks_lay_143 : decode b_Blocks_lay 143 = .ok (.ireturn, 1) := by decide +kernel
theorem d_Blocks_laid_0 : decode b_Blocks_laid 0 = .ok (.aload_n 0, 1) := by decide +kernel
theorem d_Blocks_laid_1 : decode b_Blocks_laid 1 = .ok (.getfield 23, 3) := by decide +kernel
theorem d_Blocks_laid_4 : decode b_Blocks_laid 4 = .ok (.areturn, 1) := by decide +kernel
theorem d_Resolver_startRow_0 : decode b_Resolver_startRow 0 = .ok (.aload_n 0, 1) := by decide +kernel
theorem d_Resolver_startRow_1 : decode b_Resolver_startRow 1 = .ok (.aload_n 0, 1) := by decide +kernel
theorem d_Resolver_startRow_2 : decode b_Resolver_startRow 2 = .ok (.getfield 33, 3) := by decide +kernel
theorem d_Resolver_startRow_5 : decode b_Resolver_startRow 5 = .ok (.putfield 40, 3) := by decide +kernel
theorem d_Resolver_startRow_8 : decode b_Resolver_startRow 8 = .ok (.aload_n 0, 1) := by decide +kernel
theorem d_Resolver_startRow_9 : decode b_Resolver_startRow 9 = .ok (.iconst 0, 1) := by decide +kernel
theorem d_Resolver_startRow_10 : decode b_Resolver_startRow 10 = .ok (.putfield 43, 3) := by decide +kernel
theorem d_Resolver_startRow_13 : decode b_Resolver_startRow 13 = .ok (.aload_n 0, 1) := by decide +kernel
theorem d_Resolver_startRow_14 : decode b_Resolver_startRow 14 = .ok (.iconst 0, 1) := by decide +kernel
theorem d_Resolver_startRow_15 : decode b_Resolver_startRow 15 = .ok (.putfield 46, 3) := by decide +kernel
theorem d_Resolver_startRow_18 : decode b_Resolver_startRow 18 = .ok (.return_, 1) := by decide +kernel
theorem d_Resolver_clear_0 : decode b_Resolver_clear 0 = .ok (.aload_n 0, 1) := by decide +kernel
theorem d_Resolver_clear_1 : decode b_Resolver_clear 1 = .ok (.iconst 0, 1) := by decide +kernel
theorem d_Resolver_clear_2 : decode b_Resolver_clear 2 = .ok (.putfield 33, 3) := by decide +kernel
theorem d_Resolver_clear_5 : decode b_Resolver_clear 5 = .ok (.aload_n 0, 1) := by decide +kernel
theorem d_Resolver_clear_6 : decode b_Resolver_clear 6 = .ok (.invokevirtual 37, 3) := by decide +kernel
theorem d_Resolver_clear_9 : decode b_Resolver_clear 9 = .ok (.return_, 1) := by decide +kernel
theorem d_Tokens_opensBracket_0 : decode b_Tokens_opensBracket 0 = .ok (.aload_n 0, 1) := by decide +kernel
theorem d_Tokens_opensBracket_1 : decode b_Tokens_opensBracket 1 = .ok (.iload_n 1, 1) := by decide +kernel
theorem d_Tokens_opensBracket_2 : decode b_Tokens_opensBracket 2 = .ok (.bipush 40, 2) := by decide +kernel
theorem d_Tokens_opensBracket_4 : decode b_Tokens_opensBracket 4 = .ok (.invokevirtual 31, 3) := by decide +kernel
theorem d_Tokens_opensBracket_7 : decode b_Tokens_opensBracket 7 = .ok (.ifCond .ne 13, 3) := by decide +kernel
theorem d_Tokens_opensBracket_10 : decode b_Tokens_opensBracket 10 = .ok (.aload_n 0, 1) := by decide +kernel
theorem d_Tokens_opensBracket_11 : decode b_Tokens_opensBracket 11 = .ok (.iload_n 1, 1) := by decide +kernel
theorem d_Tokens_opensBracket_12 : decode b_Tokens_opensBracket 12 = .ok (.bipush 91, 2) := by decide +kernel
theorem d_Tokens_opensBracket_14 : decode b_Tokens_opensBracket 14 = .ok (.invokevirtual 31, 3) := by decide +kernel
theorem d_Tokens_opensBracket_17 : decode b_Tokens_opensBracket 17 = .ok (.ifCond .eq 7, 3) := by decide +kernel
theorem d_Tokens_opensBracket_24 : decode b_Tokens_opensBracket 24 = .ok (.iconst 0, 1) := by decide +kernel
theorem d_Tokens_opensBracket_25 : decode b_Tokens_opensBracket 25 = .ok (.ireturn, 1) := by decide +kernel
theorem d_Tokens_closesBracket_0 : decode b_Tokens_closesBracket 0 = .ok (.aload_n 0, 1) := by decide +kernel
theorem d_Tokens_closesBracket_1 : decode b_Tokens_closesBracket 1 = .ok (.iload_n 1, 1) := by decide +kernel
theorem d_Tokens_closesBracket_2 : decode b_Tokens_closesBracket 2 = .ok (.bipush 41, 2) := by decide +kernel
theorem d_Tokens_closesBracket_4 : decode b_Tokens_closesBracket 4 = .ok (.invokevirtual 31, 3) := by decide +kernel
theorem d_Tokens_closesBracket_7 : decode b_Tokens_closesBracket 7 = .ok (.ifCond .ne 13, 3) := by decide +kernel
theorem d_Tokens_closesBracket_10 : decode b_Tokens_closesBracket 10 = .ok (.aload_n 0, 1) := by decide +kernel
theorem d_Tokens_closesBracket_11 : decode b_Tokens_closesBracket 11 = .ok (.iload_n 1, 1) := by decide +kernel
theorem d_Tokens_closesBracket_12 : decode b_Tokens_closesBracket 12 = .ok (.bipush 93, 2) := by decide +kernel
theorem d_Tokens_closesBracket_14 : decode b_Tokens_closesBracket 14 = .ok (.invokevirtual 31, 3) := by decide +kernel
theorem d_Tokens_closesBracket_17 : decode b_Tokens_closesBracket 17 = .ok (.ifCond .eq 7, 3) := by decide +kernel
theorem d_Tokens_closesBracket_24 : decode b_Tokens_closesBracket 24 = .ok (.iconst 0, 1) := by decide +kernel
theorem d_Tokens_closesBracket_25 : decode b_Tokens_closesBracket 25 = .ok (.ireturn, 1) := by decide +kernel
theorem d_Rows_matchBrackets_0 : decode b_Rows_matchBrackets 0 = .ok (.iconst 0, 1) := by decide +kernel
theorem d_Rows_matchBrackets_1 : decode b_Rows_matchBrackets 1 = .ok (.istore_n 2, 1) := by decide +kernel
theorem d_Rows_matchBrackets_2 : decode b_Rows_matchBrackets 2 = .ok (.iconst 0, 1) := by decide +kernel
theorem d_Rows_matchBrackets_3 : decode b_Rows_matchBrackets 3 = .ok (.istore_n 3, 1) := by decide +kernel
theorem d_Rows_matchBrackets_4 : decode b_Rows_matchBrackets 4 = .ok (.iload_n 3, 1) := by decide +kernel
theorem d_Rows_matchBrackets_5 : decode b_Rows_matchBrackets 5 = .ok (.aload_n 1, 1) := by decide +kernel
theorem d_Rows_matchBrackets_6 : decode b_Rows_matchBrackets 6 = .ok (.invokevirtual 52, 3) := by decide +kernel
theorem d_Rows_matchBrackets_9 : decode b_Rows_matchBrackets 9 = .ok (.if_icmp .ge 77, 3) := by decide +kernel
theorem d_Rows_matchBrackets_12 : decode b_Rows_matchBrackets 12 = .ok (.iload_n 3, 1) := by decide +kernel
theorem d_Rows_matchBrackets_13 : decode b_Rows_matchBrackets 13 = .ok (.sipush 362, 3) := by decide +kernel
theorem d_Rows_matchBrackets_16 : decode b_Rows_matchBrackets 16 = .ok (.if_icmp .ge 70, 3) := by decide +kernel
theorem d_Rows_matchBrackets_19 : decode b_Rows_matchBrackets 19 = .ok (.aload_n 0, 1) := by decide +kernel
theorem d_Rows_matchBrackets_20 : decode b_Rows_matchBrackets 20 = .ok (.getfield 9, 3) := by decide +kernel
theorem d_Rows_matchBrackets_23 : decode b_Rows_matchBrackets 23 = .ok (.iload_n 3, 1) := by decide +kernel
theorem d_Rows_matchBrackets_24 : decode b_Rows_matchBrackets 24 = .ok (.iload_n 3, 1) := by decide +kernel
theorem d_Rows_matchBrackets_25 : decode b_Rows_matchBrackets 25 = .ok (.iastore, 1) := by decide +kernel
theorem d_Rows_matchBrackets_26 : decode b_Rows_matchBrackets 26 = .ok (.aload_n 1, 1) := by decide +kernel
theorem d_Rows_matchBrackets_27 : decode b_Rows_matchBrackets 27 = .ok (.iload_n 3, 1) := by decide +kernel
theorem d_Rows_matchBrackets_28 : decode b_Rows_matchBrackets 28 = .ok (.invokevirtual 62, 3) := by decide +kernel
theorem d_Rows_matchBrackets_31 : decode b_Rows_matchBrackets 31 = .ok (.ifCond .eq 22, 3) := by decide +kernel
theorem d_Rows_matchBrackets_53 : decode b_Rows_matchBrackets 53 = .ok (.aload_n 1, 1) := by decide +kernel
theorem d_Rows_matchBrackets_54 : decode b_Rows_matchBrackets 54 = .ok (.iload_n 3, 1) := by decide +kernel
theorem d_Rows_matchBrackets_55 : decode b_Rows_matchBrackets 55 = .ok (.invokevirtual 93, 3) := by decide +kernel
