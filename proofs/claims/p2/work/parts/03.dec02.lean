theorem d_Lexemes_size_1 : decode b_Lexemes_size 1 = .ok (.getfield 14, 3) := by decide +kernel
theorem d_Lexemes_size_4 : decode b_Lexemes_size 4 = .ok (.invokevirtual 34, 3) := by decide +kernel
theorem d_Lexemes_size_7 : decode b_Lexemes_size 7 = .ok (.ireturn, 1) := by decide +kernel
theorem d_Lexemes_isFull_0 : decode b_Lexemes_isFull 0 = .ok (.aload_n 0, 1) := by decide +kernel
theorem d_Lexemes_isFull_1 : decode b_Lexemes_isFull 1 = .ok (.getfield 14, 3) := by decide +kernel
theorem d_Lexemes_isFull_4 : decode b_Lexemes_isFull 4 = .ok (.invokevirtual 34, 3) := by decide +kernel
theorem d_Lexemes_isFull_7 : decode b_Lexemes_isFull 7 = .ok (.bipush 90, 2) := by decide +kernel
theorem d_Lexemes_isFull_9 : decode b_Lexemes_isFull 9 = .ok (.if_icmp .lt 7, 3) := by decide +kernel
theorem d_Lexemes_isFull_12 : decode b_Lexemes_isFull 12 = .ok (.iconst 1, 1) := by decide +kernel
theorem d_Lexemes_isFull_13 : decode b_Lexemes_isFull 13 = .ok (.goto 4, 3) := by decide +kernel
theorem d_Lexemes_isFull_16 : decode b_Lexemes_isFull 16 = .ok (.iconst 0, 1) := by decide +kernel
theorem d_Lexemes_isFull_17 : decode b_Lexemes_isFull 17 = .ok (.ireturn, 1) := by decide +kernel
theorem d_Lexemes_tokens_0 : decode b_Lexemes_tokens 0 = .ok (.aload_n 0, 1) := by decide +kernel
theorem d_Lexemes_tokens_1 : decode b_Lexemes_tokens 1 = .ok (.getfield 14, 3) := by decide +kernel
theorem d_Lexemes_tokens_4 : decode b_Lexemes_tokens 4 = .ok (.areturn, 1) := by decide +kernel
theorem d_Lexemes_add_0 : decode b_Lexemes_add 0 = .ok (.aload_n 0, 1) := by decide +kernel
theorem d_Lexemes_add_1 : decode b_Lexemes_add 1 = .ok (.getfield 14, 3) := by decide +kernel
theorem d_Lexemes_add_4 : decode b_Lexemes_add 4 = .ok (.invokevirtual 34, 3) := by decide +kernel
theorem d_Lexemes_add_7 : decode b_Lexemes_add 7 = .ok (.istore 7, 2) := by decide +kernel
theorem d_Lexemes_add_9 : decode b_Lexemes_add 9 = .ok (.iload 7, 2) := by decide +kernel
theorem d_Lexemes_add_11 : decode b_Lexemes_add 11 = .ok (.bipush 90, 2) := by decide +kernel
theorem d_Lexemes_add_13 : decode b_Lexemes_add 13 = .ok (.if_icmp .ge 39, 3) := by decide +kernel
theorem d_Lexemes_add_16 : decode b_Lexemes_add 16 = .ok (.aload_n 0, 1) := by decide +kernel
theorem d_Lexemes_add_17 : decode b_Lexemes_add 17 = .ok (.getfield 20, 3) := by decide +kernel
theorem d_Lexemes_add_20 : decode b_Lexemes_add 20 = .ok (.iload 7, 2) := by decide +kernel
theorem d_Lexemes_add_22 : decode b_Lexemes_add 22 = .ok (.iload 4, 2) := by decide +kernel
theorem d_Lexemes_add_24 : decode b_Lexemes_add 24 = .ok (.iastore, 1) := by decide +kernel
theorem d_Lexemes_add_25 : decode b_Lexemes_add 25 = .ok (.aload_n 0, 1) := by decide +kernel
theorem d_Lexemes_add_26 : decode b_Lexemes_add 26 = .ok (.getfield 24, 3) := by decide +kernel
theorem d_Lexemes_add_29 : decode b_Lexemes_add 29 = .ok (.iload 7, 2) := by decide +kernel
theorem d_Lexemes_add_31 : decode b_Lexemes_add 31 = .ok (.iload 5, 2) := by decide +kernel
theorem d_Lexemes_add_33 : decode b_Lexemes_add 33 = .ok (.iastore, 1) := by decide +kernel
theorem d_Lexemes_add_34 : decode b_Lexemes_add 34 = .ok (.aload_n 0, 1) := by decide +kernel
theorem d_Lexemes_add_35 : decode b_Lexemes_add 35 = .ok (.getfield 27, 3) := by decide +kernel
theorem d_Lexemes_add_38 : decode b_Lexemes_add 38 = .ok (.iload 7, 2) := by decide +kernel
theorem d_Lexemes_add_40 : decode b_Lexemes_add 40 = .ok (.iload 6, 2) := by decide +kernel
theorem d_Lexemes_add_42 : decode b_Lexemes_add 42 = .ok (.bastore, 1) := by decide +kernel
theorem d_Lexemes_add_43 : decode b_Lexemes_add 43 = .ok (.aload_n 0, 1) := by decide +kernel
theorem d_Lexemes_add_44 : decode b_Lexemes_add 44 = .ok (.getfield 14, 3) := by decide +kernel
theorem d_Lexemes_add_47 : decode b_Lexemes_add 47 = .ok (.iload_n 1, 1) := by decide +kernel
theorem d_Lexemes_add_48 : decode b_Lexemes_add 48 = .ok (.lload_n 2, 1) := by decide +kernel
theorem d_Lexemes_add_49 : decode b_Lexemes_add 49 = .ok (.invokevirtual 38, 3) := by decide +kernel
theorem d_Lexemes_add_52 : decode b_Lexemes_add 52 = .ok (.return_, 1) := by decide +kernel
theorem d_Lexemes_placeAt_0 : decode b_Lexemes_placeAt 0 = .ok (.aload_n 0, 1) := by decide +kernel
theorem d_Lexemes_placeAt_1 : decode b_Lexemes_placeAt 1 = .ok (.getfield 14, 3) := by decide +kernel
theorem d_Lexemes_placeAt_4 : decode b_Lexemes_placeAt 4 = .ok (.iload_n 1, 1) := by decide +kernel
theorem d_Lexemes_placeAt_5 : decode b_Lexemes_placeAt 5 = .ok (.invokevirtual 42, 3) := by decide +kernel
theorem d_Lexemes_placeAt_8 : decode b_Lexemes_placeAt 8 = .ok (.ifCond .eq 12, 3) := by decide +kernel
theorem d_Lexemes_placeAt_11 : decode b_Lexemes_placeAt 11 = .ok (.aload_n 0, 1) := by decide +kernel
theorem d_Lexemes_placeAt_12 : decode b_Lexemes_placeAt 12 = .ok (.getfield 20, 3) := by decide +kernel
theorem d_Lexemes_placeAt_15 : decode b_Lexemes_placeAt 15 = .ok (.iload_n 1, 1) := by decide +kernel
theorem d_Lexemes_placeAt_16 : decode b_Lexemes_placeAt 16 = .ok (.iaload, 1) := by decide +kernel
theorem d_Lexemes_placeAt_17 : decode b_Lexemes_placeAt 17 = .ok (.goto 4, 3) := by decide +kernel
theorem d_Lexemes_placeAt_20 : decode b_Lexemes_placeAt 20 = .ok (.iconst (-1), 1) := by decide +kernel
theorem d_Lexemes_placeAt_21 : decode b_Lexemes_placeAt 21 = .ok (.ireturn, 1) := by decide +kernel
theorem d_Lexemes_columnAt_0 : decode b_Lexemes_columnAt 0 = .ok (.aload_n 0, 1) := by decide +kernel
theorem d_Lexemes_columnAt_1 : decode b_Lexemes_columnAt 1 = .ok (.getfield 14, 3) := by decide +kernel
theorem d_Lexemes_columnAt_4 : decode b_Lexemes_columnAt 4 = .ok (.iload_n 1, 1) := by decide +kernel
theorem d_Lexemes_columnAt_5 : decode b_Lexemes_columnAt 5 = .ok (.invokevirtual 42, 3) := by decide +kernel
theorem d_Lexemes_columnAt_8 : decode b_Lexemes_columnAt 8 = .ok (.ifCond .eq 12, 3) := by decide +kernel
theorem d_Lexemes_columnAt_11 : decode b_Lexemes_columnAt 11 = .ok (.aload_n 0, 1) := by decide +kernel
theorem d_Lexemes_columnAt_12 : decode b_Lexemes_columnAt 12 = .ok (.getfield 24, 3) := by decide +kernel
theorem d_Lexemes_columnAt_15 : decode b_Lexemes_columnAt 15 = .ok (.iload_n 1, 1) := by decide +kernel
theorem d_Lexemes_columnAt_16 : decode b_Lexemes_columnAt 16 = .ok (.iaload, 1) := by decide +kernel
theorem d_Lexemes_columnAt_17 : decode b_Lexemes_columnAt 17 = .ok (.goto 4, 3) := by decide +kernel
theorem d_Lexemes_columnAt_20 : decode b_Lexemes_columnAt 20 = .ok (.iconst 0, 1) := by decide +kernel
theorem d_Lexemes_columnAt_21 : decode b_Lexemes_columnAt 21 = .ok (.ireturn, 1) := by decide +kernel
theorem d_Lexemes_isLineFirst_0 : decode b_Lexemes_isLineFirst 0 = .ok (.aload_n 0, 1) := by decide +kernel
theorem d_Lexemes_isLineFirst_1 : decode b_Lexemes_isLineFirst 1 = .ok (.getfield 14, 3) := by decide +kernel
theorem d_Lexemes_isLineFirst_4 : decode b_Lexemes_isLineFirst 4 = .ok (.iload_n 1, 1) := by decide +kernel
theorem d_Lexemes_isLineFirst_5 : decode b_Lexemes_isLineFirst 5 = .ok (.invokevirtual 42, 3) := by decide +kernel
theorem d_Lexemes_isLineFirst_8 : decode b_Lexemes_isLineFirst 8 = .ok (.ifCond .eq 16, 3) := by decide +kernel
theorem d_Lexemes_isLineFirst_11 : decode b_Lexemes_isLineFirst 11 = .ok (.aload_n 0, 1) := by decide +kernel
theorem d_Lexemes_isLineFirst_12 : decode b_Lexemes_isLineFirst 12 = .ok (.getfield 27, 3) := by decide +kernel
theorem d_Lexemes_isLineFirst_15 : decode b_Lexemes_isLineFirst 15 = .ok (.iload_n 1, 1) := by decide +kernel
theorem d_Lexemes_isLineFirst_16 : decode b_Lexemes_isLineFirst 16 = .ok (.baload, 1) := by decide +kernel
theorem d_Lexemes_isLineFirst_17 : decode b_Lexemes_isLineFirst 17 = .ok (.ifCond .eq 7, 3) := by decide +kernel
theorem d_Lexemes_isLineFirst_20 : decode b_Lexemes_isLineFirst 20 = .ok (.iconst 1, 1) := by decide +kernel
theorem d_Lexemes_isLineFirst_21 : decode b_Lexemes_isLineFirst 21 = .ok (.goto 4, 3) := by decide +kernel
theorem d_Lexemes_isLineFirst_24 : decode b_Lexemes_isLineFirst 24 = .ok (.iconst 0, 1) := by decide +kernel
theorem d_Lexemes_isLineFirst_25 : decode b_Lexemes_isLineFirst 25 = .ok (.ireturn, 1) := by decide +kernel
theorem d_Cutter_init_0 : decode b_Cutter_init 0 = .ok (.aload_n 0, 1) := by decide +kernel
theorem d_Cutter_init_1 : decode b_Cutter_init 1 = .ok (.invokespecial 3, 3) := by decide +kernel
theorem d_Cutter_init_4 : decode b_Cutter_init 4 = .ok (.aload_n 0, 1) := by decide +kernel
theorem d_Cutter_init_5 : decode b_Cutter_init 5 = .ok (.new 9, 3) := by decide +kernel
theorem d_Cutter_init_8 : decode b_Cutter_init 8 = .ok (.dup, 1) := by decide +kernel
theorem d_Cutter_init_9 : decode b_Cutter_init 9 = .ok (.invokespecial 11, 3) := by decide +kernel
theorem d_Cutter_init_12 : decode b_Cutter_init 12 = .ok (.putfield 12, 3) := by decide +kernel
theorem d_Cutter_init_15 : decode b_Cutter_init 15 = .ok (.aload_n 0, 1) := by decide +kernel
theorem d_Cutter_init_16 : decode b_Cutter_init 16 = .ok (.iconst (-1), 1) := by decide +kernel
theorem d_Cutter_init_17 : decode b_Cutter_init 17 = .ok (.putfield 18, 3) := by decide +kernel
theorem d_Cutter_init_20 : decode b_Cutter_init 20 = .ok (.return_, 1) := by decide +kernel
theorem d_Cutter_lexemes_0 : decode b_Cutter_lexemes 0 = .ok (.aload_n 0, 1) := by decide +kernel
theorem d_Cutter_lexemes_1 : decode b_Cutter_lexemes 1 = .ok (.getfield 12, 3) := by decide +kernel
theorem d_Cutter_lexemes_4 : decode b_Cutter_lexemes 4 = .ok (.areturn, 1) := by decide +kernel
theorem d_Cutter_foundTooMany_0 : decode b_Cutter_foundTooMany 0 = .ok (.aload_n 0, 1) := by decide +kernel
theorem d_Cutter_foundTooMany_1 : decode b_Cutter_foundTooMany 1 = .ok (.getfield 22, 3) := by decide +kernel
theorem d_Cutter_foundTooMany_4 : decode b_Cutter_foundTooMany 4 = .ok (.ireturn, 1) := by decide +kernel
theorem d_Cutter_cut_0 : decode b_Cutter_cut 0 = .ok (.aload_n 0, 1) := by decide +kernel
theorem d_Cutter_cut_1 : decode b_Cutter_cut 1 = .ok (.getfield 12, 3) := by decide +kernel
theorem d_Cutter_cut_4 : decode b_Cutter_cut 4 = .ok (.invokevirtual 26, 3) := by decide +kernel
theorem d_Cutter_cut_7 : decode b_Cutter_cut 7 = .ok (.aload_n 0, 1) := by decide +kernel
theorem d_Cutter_cut_8 : decode b_Cutter_cut 8 = .ok (.iconst 0, 1) := by decide +kernel
theorem d_Cutter_cut_9 : decode b_Cutter_cut 9 = .ok (.putfield 29, 3) := by decide +kernel
theorem d_Cutter_cut_12 : decode b_Cutter_cut 12 = .ok (.aload_n 0, 1) := by decide +kernel
theorem d_Cutter_cut_13 : decode b_Cutter_cut 13 = .ok (.iconst 0, 1) := by decide +kernel
theorem d_Cutter_cut_14 : decode b_Cutter_cut 14 = .ok (.putfield 32, 3) := by decide +kernel
theorem d_Cutter_cut_17 : decode b_Cutter_cut 17 = .ok (.aload_n 0, 1) := by decide +kernel
theorem d_Cutter_cut_18 : decode b_Cutter_cut 18 = .ok (.iconst 1, 1) := by decide +kernel
theorem d_Cutter_cut_19 : decode b_Cutter_cut 19 = .ok (.putfield 35, 3) := by decide +kernel
theorem d_Cutter_cut_22 : decode b_Cutter_cut 22 = .ok (.aload_n 0, 1) := by decide +kernel
theorem d_Cutter_cut_23 : decode b_Cutter_cut 23 = .ok (.iconst (-1), 1) := by decide +kernel
theorem d_Cutter_cut_24 : decode b_Cutter_cut 24 = .ok (.putfield 18, 3) := by decide +kernel
theorem d_Cutter_cut_27 : decode b_Cutter_cut 27 = .ok (.aload_n 0, 1) := by decide +kernel
theorem d_Cutter_cut_28 : decode b_Cutter_cut 28 = .ok (.iconst 0, 1) := by decide +kernel
theorem d_Cutter_cut_29 : decode b_Cutter_cut 29 = .ok (.putfield 22, 3) := by decide +kernel
theorem d_Cutter_cut_32 : decode b_Cutter_cut 32 = .ok (.iconst 0, 1) := by decide +kernel
theorem d_Cutter_cut_33 : decode b_Cutter_cut 33 = .ok (.istore_n 2, 1) := by decide +kernel
theorem d_Cutter_cut_34 : decode b_Cutter_cut 34 = .ok (.iload_n 2, 1) := by decide +kernel
theorem d_Cutter_cut_35 : decode b_Cutter_cut 35 = .ok (.sipush 240, 3) := by decide +kernel
theorem d_Cutter_cut_38 : decode b_Cutter_cut 38 = .ok (.if_icmp .ge 84, 3) := by decide +kernel
theorem d_Cutter_cut_41 : decode b_Cutter_cut 41 = .ok (.aload_n 0, 1) := by decide +kernel
theorem d_Cutter_cut_42 : decode b_Cutter_cut 42 = .ok (.getfield 29, 3) := by decide +kernel
theorem d_Cutter_cut_45 : decode b_Cutter_cut 45 = .ok (.aload_n 1, 1) := by decide +kernel
theorem d_Cutter_cut_46 : decode b_Cutter_cut 46 = .ok (.invokevirtual 38, 3) := by decide +kernel
theorem d_Cutter_cut_49 : decode b_Cutter_cut 49 = .ok (.if_icmp .ge 73, 3) := by decide +kernel
theorem d_Cutter_cut_52 : decode b_Cutter_cut 52 = .ok (.aload_n 0, 1) := by decide +kernel
theorem d_Cutter_cut_53 : decode b_Cutter_cut 53 = .ok (.getfield 18, 3) := by decide +kernel
theorem d_Cutter_cut_56 : decode b_Cutter_cut 56 = .ok (.iconst (-1), 1) := by decide +kernel
theorem d_Cutter_cut_57 : decode b_Cutter_cut 57 = .ok (.if_icmp .eq 6, 3) := by decide +kernel
theorem d_Cutter_cut_60 : decode b_Cutter_cut 60 = .ok (.goto 62, 3) := by decide +kernel
theorem d_Cutter_cut_63 : decode b_Cutter_cut 63 = .ok (.aload_n 1, 1) := by decide +kernel
theorem d_Cutter_cut_64 : decode b_Cutter_cut 64 = .ok (.aload_n 0, 1) := by decide +kernel
theorem d_Cutter_cut_65 : decode b_Cutter_cut 65 = .ok (.getfield 29, 3) := by decide +kernel
theorem d_Cutter_cut_68 : decode b_Cutter_cut 68 = .ok (.invokevirtual 44, 3) := by decide +kernel
theorem d_Cutter_cut_71 : decode b_Cutter_cut 71 = .ok (.invokestatic 47, 3) := by decide +kernel
theorem d_Cutter_cut_74 : decode b_Cutter_cut 74 = .ok (.ifCond .eq 18, 3) := by decide +kernel
theorem d_Cutter_cut_77 : decode b_Cutter_cut 77 = .ok (.aload_n 0, 1) := by decide +kernel
theorem d_Cutter_cut_78 : decode b_Cutter_cut 78 = .ok (.aload_n 1, 1) := by decide +kernel
theorem d_Cutter_cut_79 : decode b_Cutter_cut 79 = .ok (.aload_n 0, 1) := by decide +kernel
theorem d_Cutter_cut_80 : decode b_Cutter_cut 80 = .ok (.getfield 29, 3) := by decide +kernel
theorem d_Cutter_cut_83 : decode b_Cutter_cut 83 = .ok (.invokevirtual 44, 3) := by decide +kernel
theorem d_Cutter_cut_86 : decode b_Cutter_cut 86 = .ok (.invokevirtual 51, 3) := by decide +kernel
theorem d_Cutter_cut_89 : decode b_Cutter_cut 89 = .ok (.goto 27, 3) := by decide +kernel
theorem d_Cutter_cut_92 : decode b_Cutter_cut 92 = .ok (.aload_n 1, 1) := by decide +kernel
theorem d_Cutter_cut_93 : decode b_Cutter_cut 93 = .ok (.aload_n 0, 1) := by decide +kernel
theorem d_Cutter_cut_94 : decode b_Cutter_cut 94 = .ok (.getfield 29, 3) := by decide +kernel
theorem d_Cutter_cut_97 : decode b_Cutter_cut 97 = .ok (.invokestatic 55, 3) := by decide +kernel
theorem d_Cutter_cut_100 : decode b_Cutter_cut 100 = .ok (.ifCond .eq 11, 3) := by decide +kernel
theorem d_Cutter_cut_103 : decode b_Cutter_cut 103 = .ok (.aload_n 0, 1) := by decide +kernel
theorem d_Cutter_cut_104 : decode b_Cutter_cut 104 = .ok (.aload_n 1, 1) := by decide +kernel
theorem d_Cutter_cut_105 : decode b_Cutter_cut 105 = .ok (.invokevirtual 59, 3) := by decide +kernel
theorem d_Cutter_cut_108 : decode b_Cutter_cut 108 = .ok (.goto 8, 3) := by decide +kernel
theorem d_Cutter_cut_111 : decode b_Cutter_cut 111 = .ok (.aload_n 0, 1) := by decide +kernel
theorem d_Cutter_cut_112 : decode b_Cutter_cut 112 = .ok (.aload_n 1, 1) := by decide +kernel
theorem d_Cutter_cut_113 : decode b_Cutter_cut 113 = .ok (.invokevirtual 63, 3) := by decide +kernel
theorem d_Cutter_cut_116 : decode b_Cutter_cut 116 = .ok (.iinc 2 1, 3) := by decide +kernel
theorem d_Cutter_cut_119 : decode b_Cutter_cut 119 = .ok (.goto (-85), 3) := by decide +kernel
theorem d_Cutter_cut_122 : decode b_Cutter_cut 122 = .ok (.aload_n 0, 1) := by decide +kernel
theorem d_Cutter_cut_123 : decode b_Cutter_cut 123 = .ok (.getfield 18, 3) := by decide +kernel
theorem d_Cutter_cut_126 : decode b_Cutter_cut 126 = .ok (.ireturn, 1) := by decide +kernel
theorem d_Cutter_isBlank_0 : decode b_Cutter_isBlank 0 = .ok (.iload_n 0, 1) := by decide +kernel
theorem d_Cutter_isBlank_1 : decode b_Cutter_isBlank 1 = .ok (.bipush 32, 2) := by decide +kernel
theorem d_Cutter_isBlank_3 : decode b_Cutter_isBlank 3 = .ok (.if_icmp .eq 9, 3) := by decide +kernel
theorem d_Cutter_isBlank_6 : decode b_Cutter_isBlank 6 = .ok (.iload_n 0, 1) := by decide +kernel
theorem d_Cutter_isBlank_7 : decode b_Cutter_isBlank 7 = .ok (.bipush 10, 2) := by decide +kernel
theorem d_Cutter_isBlank_9 : decode b_Cutter_isBlank 9 = .ok (.if_icmp .ne 7, 3) := by decide +kernel
theorem d_Cutter_isBlank_12 : decode b_Cutter_isBlank 12 = .ok (.iconst 1, 1) := by decide +kernel
theorem d_Cutter_isBlank_13 : decode b_Cutter_isBlank 13 = .ok (.goto 4, 3) := by decide +kernel
theorem d_Cutter_isBlank_16 : decode b_Cutter_isBlank 16 = .ok (.iconst 0, 1) := by decide +kernel
theorem d_Cutter_isBlank_17 : decode b_Cutter_isBlank 17 = .ok (.ireturn, 1) := by decide +kernel
theorem d_Cutter_passCharacter_0 : decode b_Cutter_passCharacter 0 = .ok (.aload_n 0, 1) := by decide +kernel
theorem d_Cutter_passCharacter_1 : decode b_Cutter_passCharacter 1 = .ok (.dup, 1) := by decide +kernel
theorem d_Cutter_passCharacter_2 : decode b_Cutter_passCharacter 2 = .ok (.getfield 29, 3) := by decide +kernel
theorem d_Cutter_passCharacter_5 : decode b_Cutter_passCharacter 5 = .ok (.iconst 1, 1) := by decide +kernel
theorem d_Cutter_passCharacter_6 : decode b_Cutter_passCharacter 6 = .ok (.iadd, 1) := by decide +kernel
theorem d_Cutter_passCharacter_7 : decode b_Cutter_passCharacter 7 = .ok (.putfield 29, 3) := by decide +kernel
theorem d_Cutter_passCharacter_10 : decode b_Cutter_passCharacter 10 = .ok (.iload_n 1, 1) := by decide +kernel
theorem d_Cutter_passCharacter_11 : decode b_Cutter_passCharacter 11 = .ok (.bipush 10, 2) := by decide +kernel
theorem d_Cutter_passCharacter_13 : decode b_Cutter_passCharacter 13 = .ok (.if_icmp .ne 16, 3) := by decide +kernel
theorem d_Cutter_passCharacter_16 : decode b_Cutter_passCharacter 16 = .ok (.aload_n 0, 1) := by decide +kernel
theorem d_Cutter_passCharacter_17 : decode b_Cutter_passCharacter 17 = .ok (.aload_n 0, 1) := by decide +kernel
theorem d_Cutter_passCharacter_18 : decode b_Cutter_passCharacter 18 = .ok (.getfield 29, 3) := by decide +kernel
theorem d_Cutter_passCharacter_21 : decode b_Cutter_passCharacter 21 = .ok (.putfield 32, 3) := by decide +kernel
theorem d_Cutter_passCharacter_24 : decode b_Cutter_passCharacter 24 = .ok (.aload_n 0, 1) := by decide +kernel
theorem d_Cutter_passCharacter_25 : decode b_Cutter_passCharacter 25 = .ok (.iconst 1, 1) := by decide +kernel
theorem d_Cutter_passCharacter_26 : decode b_Cutter_passCharacter 26 = .ok (.putfield 35, 3) := by decide +kernel
theorem d_Cutter_passCharacter_29 : decode b_Cutter_passCharacter 29 = .ok (.return_, 1) := by decide +kernel
theorem d_Cutter_opensComment_0 : decode b_Cutter_opensComment 0 = .ok (.aload_n 0, 1) := by decide +kernel
theorem d_Cutter_opensComment_1 : decode b_Cutter_opensComment 1 = .ok (.iload_n 1, 1) := by decide +kernel
theorem d_Cutter_opensComment_2 : decode b_Cutter_opensComment 2 = .ok (.invokevirtual 44, 3) := by decide +kernel
theorem d_Cutter_opensComment_5 : decode b_Cutter_opensComment 5 = .ok (.bipush 123, 2) := by decide +kernel
theorem d_Cutter_opensComment_7 : decode b_Cutter_opensComment 7 = .ok (.if_icmp .ne 19, 3) := by decide +kernel
theorem d_Cutter_opensComment_10 : decode b_Cutter_opensComment 10 = .ok (.aload_n 0, 1) := by decide +kernel
theorem d_Cutter_opensComment_11 : decode b_Cutter_opensComment 11 = .ok (.iload_n 1, 1) := by decide +kernel
theorem d_Cutter_opensComment_12 : decode b_Cutter_opensComment 12 = .ok (.iconst 1, 1) := by decide +kernel
theorem d_Cutter_opensComment_13 : decode b_Cutter_opensComment 13 = .ok (.iadd, 1) := by decide +kernel
theorem d_Cutter_opensComment_14 : decode b_Cutter_opensComment 14 = .ok (.invokevirtual 44, 3) := by decide +kernel
theorem d_Cutter_opensComment_17 : decode b_Cutter_opensComment 17 = .ok (.bipush 45, 2) := by decide +kernel
theorem d_Cutter_opensComment_19 : decode b_Cutter_opensComment 19 = .ok (.if_icmp .ne 7, 3) := by decide +kernel
theorem d_Cutter_opensComment_22 : decode b_Cutter_opensComment 22 = .ok (.iconst 1, 1) := by decide +kernel
theorem d_Cutter_opensComment_23 : decode b_Cutter_opensComment 23 = .ok (.goto 4, 3) := by decide +kernel
theorem d_Cutter_opensComment_26 : decode b_Cutter_opensComment 26 = .ok (.iconst 0, 1) := by decide +kernel
theorem d_Cutter_opensComment_27 : decode b_Cutter_opensComment 27 = .ok (.ireturn, 1) := by decide +kernel
theorem d_Cutter_closesComment_0 : decode b_Cutter_closesComment 0 = .ok (.aload_n 0, 1) := by decide +kernel
theorem d_Cutter_closesComment_1 : decode b_Cutter_closesComment 1 = .ok (.iload_n 1, 1) := by decide +kernel
theorem d_Cutter_closesComment_2 : decode b_Cutter_closesComment 2 = .ok (.invokevirtual 44, 3) := by decide +kernel
theorem d_Cutter_closesComment_5 : decode b_Cutter_closesComment 5 = .ok (.bipush 45, 2) := by decide +kernel
theorem d_Cutter_closesComment_7 : decode b_Cutter_closesComment 7 = .ok (.if_icmp .ne 19, 3) := by decide +kernel
theorem d_Cutter_closesComment_10 : decode b_Cutter_closesComment 10 = .ok (.aload_n 0, 1) := by decide +kernel
theorem d_Cutter_closesComment_11 : decode b_Cutter_closesComment 11 = .ok (.iload_n 1, 1) := by decide +kernel
theorem d_Cutter_closesComment_12 : decode b_Cutter_closesComment 12 = .ok (.iconst 1, 1) := by decide +kernel
theorem d_Cutter_closesComment_13 : decode b_Cutter_closesComment 13 = .ok (.iadd, 1) := by decide +kernel
theorem d_Cutter_closesComment_14 : decode b_Cutter_closesComment 14 = .ok (.invokevirtual 44, 3) := by decide +kernel
theorem d_Cutter_closesComment_17 : decode b_Cutter_closesComment 17 = .ok (.bipush 125, 2) := by decide +kernel
theorem d_Cutter_closesComment_19 : decode b_Cutter_closesComment 19 = .ok (.if_icmp .ne 7, 3) := by decide +kernel
theorem d_Cutter_closesComment_22 : decode b_Cutter_closesComment 22 = .ok (.iconst 1, 1) := by decide +kernel
theorem d_Cutter_closesComment_23 : decode b_Cutter_closesComment 23 = .ok (.goto 4, 3) := by decide +kernel
theorem d_Cutter_closesComment_26 : decode b_Cutter_closesComment 26 = .ok (.iconst 0, 1) := by decide +kernel
theorem d_Cutter_closesComment_27 : decode b_Cutter_closesComment 27 = .ok (.ireturn, 1) := by decide +kernel
theorem d_Cutter_passComment_0 : decode b_Cutter_passComment 0 = .ok (.aload_n 0, 1) := by decide +kernel
theorem d_Cutter_passComment_1 : decode b_Cutter_passComment 1 = .ok (.getfield 29, 3) := by decide +kernel
theorem d_Cutter_passComment_4 : decode b_Cutter_passComment 4 = .ok (.istore_n 2, 1) := by decide +kernel
theorem d_Cutter_passComment_5 : decode b_Cutter_passComment 5 = .ok (.iconst 0, 1) := by decide +kernel
theorem d_Cutter_passComment_6 : decode b_Cutter_passComment 6 = .ok (.istore_n 3, 1) := by decide +kernel
theorem d_Cutter_passComment_7 : decode b_Cutter_passComment 7 = .ok (.iconst 0, 1) := by decide +kernel
theorem d_Cutter_passComment_8 : decode b_Cutter_passComment 8 = .ok (.istore 4, 2) := by decide +kernel
theorem d_Cutter_passComment_10 : decode b_Cutter_passComment 10 = .ok (.iload 4, 2) := by decide +kernel
theorem d_Cutter_passComment_12 : decode b_Cutter_passComment 12 = .ok (.sipush 240, 3) := by decide +kernel
theorem d_Cutter_passComment_15 : decode b_Cutter_passComment 15 = .ok (.if_icmp .ge 91, 3) := by decide +kernel
theorem d_Cutter_passComment_18 : decode b_Cutter_passComment 18 = .ok (.aload_n 0, 1) := by decide +kernel
theorem d_Cutter_passComment_19 : decode b_Cutter_passComment 19 = .ok (.getfield 29, 3) := by decide +kernel
theorem d_Cutter_passComment_22 : decode b_Cutter_passComment 22 = .ok (.aload_n 1, 1) := by decide +kernel
theorem d_Cutter_passComment_23 : decode b_Cutter_passComment 23 = .ok (.invokevirtual 38, 3) := by decide +kernel
theorem d_Cutter_passComment_26 : decode b_Cutter_passComment 26 = .ok (.if_icmp .ge 80, 3) := by decide +kernel
theorem d_Cutter_passComment_29 : decode b_Cutter_passComment 29 = .ok (.aload_n 1, 1) := by decide +kernel
theorem d_Cutter_passComment_30 : decode b_Cutter_passComment 30 = .ok (.aload_n 0, 1) := by decide +kernel
theorem d_Cutter_passComment_31 : decode b_Cutter_passComment 31 = .ok (.getfield 29, 3) := by decide +kernel
theorem d_Cutter_passComment_34 : decode b_Cutter_passComment 34 = .ok (.invokestatic 55, 3) := by decide +kernel
theorem d_Cutter_passComment_37 : decode b_Cutter_passComment 37 = .ok (.ifCond .eq 19, 3) := by decide +kernel
theorem d_Cutter_passComment_40 : decode b_Cutter_passComment 40 = .ok (.iinc 3 1, 3) := by decide +kernel
theorem d_Cutter_passComment_43 : decode b_Cutter_passComment 43 = .ok (.aload_n 0, 1) := by decide +kernel
theorem d_Cutter_passComment_44 : decode b_Cutter_passComment 44 = .ok (.dup, 1) := by decide +kernel
theorem d_Cutter_passComment_45 : decode b_Cutter_passComment 45 = .ok (.getfield 29, 3) := by decide +kernel
theorem d_Cutter_passComment_48 : decode b_Cutter_passComment 48 = .ok (.iconst 2, 1) := by decide +kernel
theorem d_Cutter_passComment_49 : decode b_Cutter_passComment 49 = .ok (.iadd, 1) := by decide +kernel
theorem d_Cutter_passComment_50 : decode b_Cutter_passComment 50 = .ok (.putfield 29, 3) := by decide +kernel
theorem d_Cutter_passComment_53 : decode b_Cutter_passComment 53 = .ok (.goto 42, 3) := by decide +kernel
theorem d_Cutter_passComment_56 : decode b_Cutter_passComment 56 = .ok (.aload_n 1, 1) := by decide +kernel
theorem d_Cutter_passComment_57 : decode b_Cutter_passComment 57 = .ok (.aload_n 0, 1) := by decide +kernel
