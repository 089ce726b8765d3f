theorem d_Text_init_0 : decode b_Text_init 0 = .ok (.aload_n 0, 1) := by decide +kernel
theorem d_Text_init_1 : decode b_Text_init 1 = .ok (.invokespecial 3, 3) := by decide +kernel
theorem d_Text_init_4 : decode b_Text_init 4 = .ok (.aload_n 0, 1) := by decide +kernel
theorem d_Text_init_5 : decode b_Text_init 5 = .ok (.sipush 240, 3) := by decide +kernel
theorem d_Text_init_8 : decode b_Text_init 8 = .ok (.newarray .char, 2) := by decide +kernel
theorem d_Text_init_10 : decode b_Text_init 10 = .ok (.putfield 9, 3) := by decide +kernel
theorem d_Text_init_13 : decode b_Text_init 13 = .ok (.return_, 1) := by decide +kernel
theorem d_Fixities_init_0 : decode b_Fixities_init 0 = .ok (.aload_n 0, 1) := by decide +kernel
theorem d_Fixities_init_1 : decode b_Fixities_init 1 = .ok (.invokespecial 3, 3) := by decide +kernel
theorem d_Fixities_init_4 : decode b_Fixities_init 4 = .ok (.aload_n 0, 1) := by decide +kernel
theorem d_Fixities_init_5 : decode b_Fixities_init 5 = .ok (.bipush 12, 2) := by decide +kernel
theorem d_Fixities_init_7 : decode b_Fixities_init 7 = .ok (.newarray .long, 2) := by decide +kernel
theorem d_Fixities_init_9 : decode b_Fixities_init 9 = .ok (.putfield 9, 3) := by decide +kernel
theorem d_Fixities_init_12 : decode b_Fixities_init 12 = .ok (.aload_n 0, 1) := by decide +kernel
theorem d_Fixities_init_13 : decode b_Fixities_init 13 = .ok (.bipush 12, 2) := by decide +kernel
theorem d_Fixities_init_15 : decode b_Fixities_init 15 = .ok (.newarray .int, 2) := by decide +kernel
theorem d_Fixities_init_17 : decode b_Fixities_init 17 = .ok (.putfield 15, 3) := by decide +kernel
theorem d_Fixities_init_20 : decode b_Fixities_init 20 = .ok (.aload_n 0, 1) := by decide +kernel
theorem d_Fixities_init_21 : decode b_Fixities_init 21 = .ok (.bipush 12, 2) := by decide +kernel
theorem d_Fixities_init_23 : decode b_Fixities_init 23 = .ok (.newarray .int, 2) := by decide +kernel
theorem d_Fixities_init_25 : decode b_Fixities_init 25 = .ok (.putfield 19, 3) := by decide +kernel
theorem d_Fixities_init_28 : decode b_Fixities_init 28 = .ok (.return_, 1) := by decide +kernel
theorem d_Tokens_init_0 : decode b_Tokens_init 0 = .ok (.aload_n 0, 1) := by decide +kernel
theorem d_Tokens_init_1 : decode b_Tokens_init 1 = .ok (.invokespecial 3, 3) := by decide +kernel
theorem d_Tokens_init_4 : decode b_Tokens_init 4 = .ok (.aload_n 0, 1) := by decide +kernel
theorem d_Tokens_init_5 : decode b_Tokens_init 5 = .ok (.iload_n 1, 1) := by decide +kernel
theorem d_Tokens_init_6 : decode b_Tokens_init 6 = .ok (.newarray .int, 2) := by decide +kernel
theorem d_Tokens_init_8 : decode b_Tokens_init 8 = .ok (.putfield 9, 3) := by decide +kernel
theorem d_Tokens_init_11 : decode b_Tokens_init 11 = .ok (.aload_n 0, 1) := by decide +kernel
theorem d_Tokens_init_12 : decode b_Tokens_init 12 = .ok (.iload_n 1, 1) := by decide +kernel
theorem d_Tokens_init_13 : decode b_Tokens_init 13 = .ok (.newarray .long, 2) := by decide +kernel
theorem d_Tokens_init_15 : decode b_Tokens_init 15 = .ok (.putfield 15, 3) := by decide +kernel
theorem d_Tokens_init_18 : decode b_Tokens_init 18 = .ok (.return_, 1) := by decide +kernel
theorem d_Lexemes_init_0 : decode b_Lexemes_init 0 = .ok (.aload_n 0, 1) := by decide +kernel
theorem d_Lexemes_init_1 : decode b_Lexemes_init 1 = .ok (.invokespecial 3, 3) := by decide +kernel
theorem d_Lexemes_init_4 : decode b_Lexemes_init 4 = .ok (.aload_n 0, 1) := by decide +kernel
theorem d_Lexemes_init_5 : decode b_Lexemes_init 5 = .ok (.new 9, 3) := by decide +kernel
theorem d_Lexemes_init_8 : decode b_Lexemes_init 8 = .ok (.dup, 1) := by decide +kernel
theorem d_Lexemes_init_9 : decode b_Lexemes_init 9 = .ok (.bipush 90, 2) := by decide +kernel
theorem d_Lexemes_init_11 : decode b_Lexemes_init 11 = .ok (.invokespecial 11, 3) := by decide +kernel
theorem d_Lexemes_init_14 : decode b_Lexemes_init 14 = .ok (.putfield 14, 3) := by decide +kernel
theorem d_Lexemes_init_17 : decode b_Lexemes_init 17 = .ok (.aload_n 0, 1) := by decide +kernel
theorem d_Lexemes_init_18 : decode b_Lexemes_init 18 = .ok (.bipush 90, 2) := by decide +kernel
theorem d_Lexemes_init_20 : decode b_Lexemes_init 20 = .ok (.newarray .int, 2) := by decide +kernel
theorem d_Lexemes_init_22 : decode b_Lexemes_init 22 = .ok (.putfield 20, 3) := by decide +kernel
theorem d_Lexemes_init_25 : decode b_Lexemes_init 25 = .ok (.aload_n 0, 1) := by decide +kernel
theorem d_Lexemes_init_26 : decode b_Lexemes_init 26 = .ok (.bipush 90, 2) := by decide +kernel
theorem d_Lexemes_init_28 : decode b_Lexemes_init 28 = .ok (.newarray .int, 2) := by decide +kernel
theorem d_Lexemes_init_30 : decode b_Lexemes_init 30 = .ok (.putfield 24, 3) := by decide +kernel
theorem d_Lexemes_init_33 : decode b_Lexemes_init 33 = .ok (.aload_n 0, 1) := by decide +kernel
theorem d_Lexemes_init_34 : decode b_Lexemes_init 34 = .ok (.bipush 90, 2) := by decide +kernel
theorem d_Lexemes_init_36 : decode b_Lexemes_init 36 = .ok (.newarray .boolean, 2) := by decide +kernel
theorem d_Lexemes_init_38 : decode b_Lexemes_init 38 = .ok (.putfield 27, 3) := by decide +kernel
theorem d_Lexemes_init_41 : decode b_Lexemes_init 41 = .ok (.return_, 1) := by decide +kernel
theorem d_Cutter_init_0 : decode b_Cutter_init 0 = .ok (.aload_n 0, 1) := by decide +kernel
theorem d_Cutter_init_1 : decode b_Cutter_init 1 = .ok (.invokespecial 3, 3) := by decide +kernel
theorem d_Cutter_init_4 : decode b_Cutter_init 4 = .ok (.aload_n 0, 1) := by decide +kernel
theorem d_Cutter_init_5 : decode b_Cutter_init 5 = .ok (.new 9, 3) := by decide +kernel
theorem d_Cutter_init_8 : decode b_Cutter_init 8 = .ok (.dup, 1) := by decide +kernel
theorem d_Cutter_init_9 : decode b_Cutter_init 9 = .ok (.invokespecial 11, 3) := by decide +kernel
theorem d_Cutter_init_12 : decode b_Cutter_init 12 = .ok (.putfield 12, 3) := by decide +kernel
theorem d_Cutter_init_15 : decode b_Cutter_init 15 = .ok (.aload_n 0, 1) := by decide +kernel
theorem d_Cutter_init_16 : decode b_Cutter_init 16 = .ok (.iconst (-1), 1) := by decide +kernel
theorem d_Cutter_init_17 : decode b_Cutter_init 17 = .ok (.putfield 18, 3) := by decide +kernel
theorem d_Cutter_init_20 : decode b_Cutter_init 20 = .ok (.return_, 1) := by decide +kernel
theorem d_Open_init_0 : decode b_Open_init 0 = .ok (.aload_n 0, 1) := by decide +kernel
theorem d_Open_init_1 : decode b_Open_init 1 = .ok (.invokespecial 3, 3) := by decide +kernel
theorem d_Open_init_4 : decode b_Open_init 4 = .ok (.aload_n 0, 1) := by decide +kernel
theorem d_Open_init_5 : decode b_Open_init 5 = .ok (.sipush 181, 3) := by decide +kernel
theorem d_Open_init_8 : decode b_Open_init 8 = .ok (.newarray .int, 2) := by decide +kernel
theorem d_Open_init_10 : decode b_Open_init 10 = .ok (.putfield 9, 3) := by decide +kernel
theorem d_Open_init_13 : decode b_Open_init 13 = .ok (.return_, 1) := by decide +kernel
theorem d_Blocks_init_0 : decode b_Blocks_init 0 = .ok (.aload_n 0, 1) := by decide +kernel
theorem d_Blocks_init_1 : decode b_Blocks_init 1 = .ok (.invokespecial 3, 3) := by decide +kernel
theorem d_Blocks_init_4 : decode b_Blocks_init 4 = .ok (.aload_n 0, 1) := by decide +kernel
theorem d_Blocks_init_5 : decode b_Blocks_init 5 = .ok (.new 9, 3) := by decide +kernel
theorem d_Blocks_init_8 : decode b_Blocks_init 8 = .ok (.dup, 1) := by decide +kernel
theorem d_Blocks_init_9 : decode b_Blocks_init 9 = .ok (.invokespecial 11, 3) := by decide +kernel
theorem d_Blocks_init_12 : decode b_Blocks_init 12 = .ok (.putfield 12, 3) := by decide +kernel
theorem d_Blocks_init_15 : decode b_Blocks_init 15 = .ok (.aload_n 0, 1) := by decide +kernel
theorem d_Blocks_init_16 : decode b_Blocks_init 16 = .ok (.new 18, 3) := by decide +kernel
theorem d_Blocks_init_19 : decode b_Blocks_init 19 = .ok (.dup, 1) := by decide +kernel
theorem d_Blocks_init_20 : decode b_Blocks_init 20 = .ok (.sipush 362, 3) := by decide +kernel
theorem d_Blocks_init_23 : decode b_Blocks_init 23 = .ok (.invokespecial 20, 3) := by decide +kernel
theorem d_Blocks_init_26 : decode b_Blocks_init 26 = .ok (.putfield 23, 3) := by decide +kernel
theorem d_Blocks_init_29 : decode b_Blocks_init 29 = .ok (.return_, 1) := by decide +kernel
theorem d_Row_init_0 : decode b_Row_init 0 = .ok (.aload_n 0, 1) := by decide +kernel
theorem d_Row_init_1 : decode b_Row_init 1 = .ok (.invokespecial 3, 3) := by decide +kernel
theorem d_Row_init_4 : decode b_Row_init 4 = .ok (.aload_n 0, 1) := by decide +kernel
theorem d_Row_init_5 : decode b_Row_init 5 = .ok (.bipush 90, 2) := by decide +kernel
theorem d_Row_init_7 : decode b_Row_init 7 = .ok (.newarray .int, 2) := by decide +kernel
theorem d_Row_init_9 : decode b_Row_init 9 = .ok (.putfield 9, 3) := by decide +kernel
theorem d_Row_init_12 : decode b_Row_init 12 = .ok (.aload_n 0, 1) := by decide +kernel
theorem d_Row_init_13 : decode b_Row_init 13 = .ok (.bipush 90, 2) := by decide +kernel
theorem d_Row_init_15 : decode b_Row_init 15 = .ok (.newarray .int, 2) := by decide +kernel
theorem d_Row_init_17 : decode b_Row_init 17 = .ok (.putfield 15, 3) := by decide +kernel
theorem d_Row_init_20 : decode b_Row_init 20 = .ok (.aload_n 0, 1) := by decide +kernel
theorem d_Row_init_21 : decode b_Row_init 21 = .ok (.bipush 90, 2) := by decide +kernel
theorem d_Row_init_23 : decode b_Row_init 23 = .ok (.newarray .int, 2) := by decide +kernel
theorem d_Row_init_25 : decode b_Row_init 25 = .ok (.putfield 18, 3) := by decide +kernel
theorem d_Row_init_28 : decode b_Row_init 28 = .ok (.return_, 1) := by decide +kernel
theorem d_Resolver_init_0 : decode b_Resolver_init 0 = .ok (.aload_n 0, 1) := by decide +kernel
theorem d_Resolver_init_1 : decode b_Resolver_init 1 = .ok (.invokespecial 3, 3) := by decide +kernel
theorem d_Resolver_init_4 : decode b_Resolver_init 4 = .ok (.aload_n 0, 1) := by decide +kernel
theorem d_Resolver_init_5 : decode b_Resolver_init 5 = .ok (.bipush 90, 2) := by decide +kernel
theorem d_Resolver_init_7 : decode b_Resolver_init 7 = .ok (.newarray .int, 2) := by decide +kernel
theorem d_Resolver_init_9 : decode b_Resolver_init 9 = .ok (.putfield 9, 3) := by decide +kernel
theorem d_Resolver_init_12 : decode b_Resolver_init 12 = .ok (.aload_n 0, 1) := by decide +kernel
theorem d_Resolver_init_13 : decode b_Resolver_init 13 = .ok (.bipush 90, 2) := by decide +kernel
theorem d_Resolver_init_15 : decode b_Resolver_init 15 = .ok (.newarray .int, 2) := by decide +kernel
theorem d_Resolver_init_17 : decode b_Resolver_init 17 = .ok (.putfield 15, 3) := by decide +kernel
theorem d_Resolver_init_20 : decode b_Resolver_init 20 = .ok (.aload_n 0, 1) := by decide +kernel
theorem d_Resolver_init_21 : decode b_Resolver_init 21 = .ok (.bipush 90, 2) := by decide +kernel
theorem d_Resolver_init_23 : decode b_Resolver_init 23 = .ok (.newarray .int, 2) := by decide +kernel
theorem d_Resolver_init_25 : decode b_Resolver_init 25 = .ok (.putfield 18, 3) := by decide +kernel
theorem d_Resolver_init_28 : decode b_Resolver_init 28 = .ok (.aload_n 0, 1) := by decide +kernel
theorem d_Resolver_init_29 : decode b_Resolver_init 29 = .ok (.bipush 90, 2) := by decide +kernel
theorem d_Resolver_init_31 : decode b_Resolver_init 31 = .ok (.newarray .int, 2) := by decide +kernel
theorem d_Resolver_init_33 : decode b_Resolver_init 33 = .ok (.putfield 21, 3) := by decide +kernel
theorem d_Resolver_init_36 : decode b_Resolver_init 36 = .ok (.aload_n 0, 1) := by decide +kernel
theorem d_Resolver_init_37 : decode b_Resolver_init 37 = .ok (.bipush 90, 2) := by decide +kernel
theorem d_Resolver_init_39 : decode b_Resolver_init 39 = .ok (.newarray .int, 2) := by decide +kernel
theorem d_Resolver_init_41 : decode b_Resolver_init 41 = .ok (.putfield 24, 3) := by decide +kernel
theorem d_Resolver_init_44 : decode b_Resolver_init 44 = .ok (.aload_n 0, 1) := by decide +kernel
theorem d_Resolver_init_45 : decode b_Resolver_init 45 = .ok (.bipush 90, 2) := by decide +kernel
theorem d_Resolver_init_47 : decode b_Resolver_init 47 = .ok (.newarray .int, 2) := by decide +kernel
theorem d_Resolver_init_49 : decode b_Resolver_init 49 = .ok (.putfield 27, 3) := by decide +kernel
theorem d_Resolver_init_52 : decode b_Resolver_init 52 = .ok (.aload_n 0, 1) := by decide +kernel
theorem d_Resolver_init_53 : decode b_Resolver_init 53 = .ok (.bipush 90, 2) := by decide +kernel
theorem d_Resolver_init_55 : decode b_Resolver_init 55 = .ok (.newarray .int, 2) := by decide +kernel
theorem d_Resolver_init_57 : decode b_Resolver_init 57 = .ok (.putfield 30, 3) := by decide +kernel
theorem d_Resolver_init_60 : decode b_Resolver_init 60 = .ok (.return_, 1) := by decide +kernel
theorem d_Rows_init_0 : decode b_Rows_init 0 = .ok (.aload_n 0, 1) := by decide +kernel
theorem d_Rows_init_1 : decode b_Rows_init 1 = .ok (.invokespecial 3, 3) := by decide +kernel
theorem d_Rows_init_4 : decode b_Rows_init 4 = .ok (.aload_n 0, 1) := by decide +kernel
theorem d_Rows_init_5 : decode b_Rows_init 5 = .ok (.sipush 362, 3) := by decide +kernel
theorem d_Rows_init_8 : decode b_Rows_init 8 = .ok (.newarray .int, 2) := by decide +kernel
theorem d_Rows_init_10 : decode b_Rows_init 10 = .ok (.putfield 9, 3) := by decide +kernel
theorem d_Rows_init_13 : decode b_Rows_init 13 = .ok (.aload_n 0, 1) := by decide +kernel
theorem d_Rows_init_14 : decode b_Rows_init 14 = .ok (.bipush 90, 2) := by decide +kernel
theorem d_Rows_init_16 : decode b_Rows_init 16 = .ok (.newarray .int, 2) := by decide +kernel
theorem d_Rows_init_18 : decode b_Rows_init 18 = .ok (.putfield 15, 3) := by decide +kernel
theorem d_Rows_init_21 : decode b_Rows_init 21 = .ok (.aload_n 0, 1) := by decide +kernel
theorem d_Rows_init_22 : decode b_Rows_init 22 = .ok (.sipush 362, 3) := by decide +kernel
theorem d_Rows_init_25 : decode b_Rows_init 25 = .ok (.newarray .int, 2) := by decide +kernel
theorem d_Rows_init_27 : decode b_Rows_init 27 = .ok (.putfield 18, 3) := by decide +kernel
theorem d_Rows_init_30 : decode b_Rows_init 30 = .ok (.aload_n 0, 1) := by decide +kernel
theorem d_Rows_init_31 : decode b_Rows_init 31 = .ok (.sipush 362, 3) := by decide +kernel
theorem d_Rows_init_34 : decode b_Rows_init 34 = .ok (.newarray .int, 2) := by decide +kernel
theorem d_Rows_init_36 : decode b_Rows_init 36 = .ok (.putfield 21, 3) := by decide +kernel
theorem d_Rows_init_39 : decode b_Rows_init 39 = .ok (.aload_n 0, 1) := by decide +kernel
theorem d_Rows_init_40 : decode b_Rows_init 40 = .ok (.new 24, 3) := by decide +kernel
theorem d_Rows_init_43 : decode b_Rows_init 43 = .ok (.dup, 1) := by decide +kernel
theorem d_Rows_init_44 : decode b_Rows_init 44 = .ok (.invokespecial 26, 3) := by decide +kernel
theorem d_Rows_init_47 : decode b_Rows_init 47 = .ok (.putfield 27, 3) := by decide +kernel
theorem d_Rows_init_50 : decode b_Rows_init 50 = .ok (.aload_n 0, 1) := by decide +kernel
theorem d_Rows_init_51 : decode b_Rows_init 51 = .ok (.new 31, 3) := by decide +kernel
theorem d_Rows_init_54 : decode b_Rows_init 54 = .ok (.dup, 1) := by decide +kernel
theorem d_Rows_init_55 : decode b_Rows_init 55 = .ok (.invokespecial 33, 3) := by decide +kernel
theorem d_Rows_init_58 : decode b_Rows_init 58 = .ok (.putfield 34, 3) := by decide +kernel
theorem d_Rows_init_61 : decode b_Rows_init 61 = .ok (.return_, 1) := by decide +kernel
theorem d_LF_init_0 : decode b_LF_init 0 = .ok (.aload_n 0, 1) := by decide +kernel
theorem d_LF_init_1 : decode b_LF_init 1 = .ok (.invokespecial 3, 3) := by decide +kernel
theorem d_LF_init_4 : decode b_LF_init 4 = .ok (.aload_n 0, 1) := by decide +kernel
theorem d_LF_init_5 : decode b_LF_init 5 = .ok (.new 9, 3) := by decide +kernel
theorem d_LF_init_8 : decode b_LF_init 8 = .ok (.dup, 1) := by decide +kernel
theorem d_LF_init_9 : decode b_LF_init 9 = .ok (.invokespecial 11, 3) := by decide +kernel
theorem d_LF_init_12 : decode b_LF_init 12 = .ok (.putfield 12, 3) := by decide +kernel
theorem d_LF_init_15 : decode b_LF_init 15 = .ok (.aload_n 0, 1) := by decide +kernel
theorem d_LF_init_16 : decode b_LF_init 16 = .ok (.new 16, 3) := by decide +kernel
theorem d_LF_init_19 : decode b_LF_init 19 = .ok (.dup, 1) := by decide +kernel
theorem d_LF_init_20 : decode b_LF_init 20 = .ok (.invokespecial 18, 3) := by decide +kernel
theorem d_LF_init_23 : decode b_LF_init 23 = .ok (.putfield 19, 3) := by decide +kernel
theorem d_LF_init_26 : decode b_LF_init 26 = .ok (.aload_n 0, 1) := by decide +kernel
theorem d_LF_init_27 : decode b_LF_init 27 = .ok (.new 23, 3) := by decide +kernel
theorem d_LF_init_30 : decode b_LF_init 30 = .ok (.dup, 1) := by decide +kernel
theorem d_LF_init_31 : decode b_LF_init 31 = .ok (.invokespecial 25, 3) := by decide +kernel
theorem d_LF_init_34 : decode b_LF_init 34 = .ok (.putfield 26, 3) := by decide +kernel
theorem d_LF_init_37 : decode b_LF_init 37 = .ok (.aload_n 0, 1) := by decide +kernel
theorem d_LF_init_38 : decode b_LF_init 38 = .ok (.new 30, 3) := by decide +kernel
theorem d_LF_init_41 : decode b_LF_init 41 = .ok (.dup, 1) := by decide +kernel
theorem d_LF_init_42 : decode b_LF_init 42 = .ok (.invokespecial 32, 3) := by decide +kernel
theorem d_LF_init_45 : decode b_LF_init 45 = .ok (.putfield 33, 3) := by decide +kernel
theorem d_LF_init_48 : decode b_LF_init 48 = .ok (.aload_n 0, 1) := by decide +kernel
theorem d_LF_init_49 : decode b_LF_init 49 = .ok (.new 37, 3) := by decide +kernel
theorem d_LF_init_52 : decode b_LF_init 52 = .ok (.dup, 1) := by decide +kernel
theorem d_LF_init_53 : decode b_LF_init 53 = .ok (.invokespecial 39, 3) := by decide +kernel
theorem d_LF_init_56 : decode b_LF_init 56 = .ok (.putfield 40, 3) := by decide +kernel
theorem d_LF_init_59 : decode b_LF_init 59 = .ok (.aload_n 0, 1) := by decide +kernel
theorem d_LF_init_60 : decode b_LF_init 60 = .ok (.new 44, 3) := by decide +kernel
theorem d_LF_init_63 : decode b_LF_init 63 = .ok (.dup, 1) := by decide +kernel
theorem d_LF_init_64 : decode b_LF_init 64 = .ok (.sipush 542, 3) := by decide +kernel
theorem d_LF_init_67 : decode b_LF_init 67 = .ok (.invokespecial 46, 3) := by decide +kernel
theorem d_LF_init_70 : decode b_LF_init 70 = .ok (.putfield 49, 3) := by decide +kernel
theorem d_LF_init_73 : decode b_LF_init 73 = .ok (.aload_n 0, 1) := by decide +kernel
theorem d_LF_init_74 : decode b_LF_init 74 = .ok (.iconst 5, 1) := by decide +kernel
theorem d_LF_init_75 : decode b_LF_init 75 = .ok (.newarray .int, 2) := by decide +kernel
theorem d_LF_init_77 : decode b_LF_init 77 = .ok (.putfield 53, 3) := by decide +kernel
theorem d_LF_init_80 : decode b_LF_init 80 = .ok (.aload_n 0, 1) := by decide +kernel
theorem d_LF_init_81 : decode b_LF_init 81 = .ok (.iconst (-1), 1) := by decide +kernel
theorem d_LF_init_82 : decode b_LF_init 82 = .ok (.putfield 57, 3) := by decide +kernel
theorem d_LF_init_85 : decode b_LF_init 85 = .ok (.return_, 1) := by decide +kernel
theorem d_Tokens_clear_0 : decode b_Tokens_clear 0 = .ok (.aload_n 0, 1) := by decide +kernel
theorem d_Tokens_clear_1 : decode b_Tokens_clear 1 = .ok (.iconst 0, 1) := by decide +kernel
theorem d_Tokens_clear_2 : decode b_Tokens_clear 2 = .ok (.putfield 19, 3) := by decide +kernel
theorem d_Tokens_clear_5 : decode b_Tokens_clear 5 = .ok (.return_, 1) := by decide +kernel
theorem d_Lexemes_clear_0 : decode b_Lexemes_clear 0 = .ok (.aload_n 0, 1) := by decide +kernel
theorem d_Lexemes_clear_1 : decode b_Lexemes_clear 1 = .ok (.getfield 14, 3) := by decide +kernel
theorem d_Lexemes_clear_4 : decode b_Lexemes_clear 4 = .ok (.invokevirtual 31, 3) := by decide +kernel
theorem d_Lexemes_clear_7 : decode b_Lexemes_clear 7 = .ok (.return_, 1) := by decide +kernel
theorem d_Text_length_0 : decode b_Text_length 0 = .ok (.aload_n 0, 1) := by decide +kernel
theorem d_Text_length_1 : decode b_Text_length 1 = .ok (.getfield 19, 3) := by decide +kernel
theorem d_Text_length_4 : decode b_Text_length 4 = .ok (.ireturn, 1) := by decide +kernel
theorem d_Cutter_cut_0 : decode b_Cutter_cut 0 = .ok (.aload_n 0, 1) := by decide +kernel
theorem d_Cutter_cut_1 : decode b_Cutter_cut 1 = .ok (.getfield 12, 3) := by decide +kernel
theorem d_Cutter_cut_4 : decode b_Cutter_cut 4 = .ok (.invokevirtual 26, 3) := by decide +kernel
theorem d_Cutter_cut_7 : decode b_Cutter_cut 7 = .ok (.aload_n 0, 1) := by decide +kernel
theorem d_Cutter_cut_8 : decode b_Cutter_cut 8 = .ok (.iconst 0, 1) := by decide +kernel
theorem d_Cutter_cut_9 : decode b_Cutter_cut 9 = .ok (.putfield 29, 3) := by decide +kernel
theorem d_Cutter_cut_12 : decode b_Cutter_cut 12 = .ok (.aload_n 0, 1) := by decide +kernel
theorem d_Cutter_cut_13 : decode b_Cutter_cut 13 = .ok (.iconst 0, 1) := by decide +kernel
theorem d_Cutter_cut_14 : decode b_Cutter_cut 14 = .ok (.putfield 32, 3) := by decide +kernel
theorem d_Cutter_cut_17 : decode b_Cutter_cut 17 = .ok (.aload_n 0, 1) := by decide +kernel
theorem d_Cutter_cut_18 : decode b_Cutter_cut 18 = .ok (.iconst 1, 1) := by decide +kernel
theorem d_Cutter_cut_19 : decode b_Cutter_cut 19 = .ok (.putfield 35, 3) := by decide +kernel
theorem d_Cutter_cut_22 : decode b_Cutter_cut 22 = .ok (.aload_n 0, 1) := by decide +kernel
theorem d_Cutter_cut_23 : decode b_Cutter_cut 23 = .ok (.iconst (-1), 1) := by decide +kernel
theorem d_Cutter_cut_24 : decode b_Cutter_cut 24 = .ok (.putfield 18, 3) := by decide +kernel
theorem d_Cutter_cut_27 : decode b_Cutter_cut 27 = .ok (.aload_n 0, 1) := by decide +kernel
theorem d_Cutter_cut_28 : decode b_Cutter_cut 28 = .ok (.iconst 0, 1) := by decide +kernel
theorem d_Cutter_cut_29 : decode b_Cutter_cut 29 = .ok (.putfield 22, 3) := by decide +kernel
theorem d_Cutter_cut_32 : decode b_Cutter_cut 32 = .ok (.iconst 0, 1) := by decide +kernel
theorem d_Cutter_cut_33 : decode b_Cutter_cut 33 = .ok (.istore_n 2, 1) := by decide +kernel
theorem d_Cutter_cut_34 : decode b_Cutter_cut 34 = .ok (.iload_n 2, 1) := by decide +kernel
theorem d_Cutter_cut_35 : decode b_Cutter_cut 35 = .ok (.sipush 240, 3) := by decide +kernel
theorem d_Cutter_cut_38 : decode b_Cutter_cut 38 = .ok (.if_icmp .ge 84, 3) := by decide +kernel
theorem d_Cutter_cut_41 : decode b_Cutter_cut 41 = .ok (.aload_n 0, 1) := by decide +kernel
theorem d_Cutter_cut_42 : decode b_Cutter_cut 42 = .ok (.getfield 29, 3) := by decide +kernel
theorem d_Cutter_cut_45 : decode b_Cutter_cut 45 = .ok (.aload_n 1, 1) := by decide +kernel
theorem d_Cutter_cut_46 : decode b_Cutter_cut 46 = .ok (.invokevirtual 38, 3) := by decide +kernel
theorem d_Cutter_cut_49 : decode b_Cutter_cut 49 = .ok (.if_icmp .ge 73, 3) := by decide +kernel
theorem d_Cutter_cut_122 : decode b_Cutter_cut 122 = .ok (.aload_n 0, 1) := by decide +kernel
theorem d_Cutter_cut_123 : decode b_Cutter_cut 123 = .ok (.getfield 18, 3) := by decide +kernel
theorem d_Cutter_cut_126 : decode b_Cutter_cut 126 = .ok (.ireturn, 1) := by decide +kernel
theorem d_Cutter_foundTooMany_0 : decode b_Cutter_foundTooMany 0 = .ok (.aload_n 0, 1) := by decide +kernel
theorem d_Cutter_foundTooMany_1 : decode b_Cutter_foundTooMany 1 = .ok (.getfield 22, 3) := by decide +kernel
theorem d_Cutter_foundTooMany_4 : decode b_Cutter_foundTooMany 4 = .ok (.ireturn, 1) := by decide +kernel
theorem d_Cutter_lexemes_0 : decode b_Cutter_lexemes 0 = .ok (.aload_n 0, 1) := by decide +kernel
theorem d_Cutter_lexemes_1 : decode b_Cutter_lexemes 1 = .ok (.getfield 12, 3) := by decide +kernel
theorem d_Cutter_lexemes_4 : decode b_Cutter_lexemes 4 = .ok (.areturn, 1) := by decide +kernel
