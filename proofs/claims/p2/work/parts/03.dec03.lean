theorem d_Cutter_passComment_58 : decode b_Cutter_passComment 58 = .ok (.getfield 29, 3) := by decide +kernel
theorem d_Cutter_passComment_61 : decode b_Cutter_passComment 61 = .ok (.invokestatic 66, 3) := by decide +kernel
theorem d_Cutter_passComment_64 : decode b_Cutter_passComment 64 = .ok (.ifCond .eq 19, 3) := by decide +kernel
theorem d_Cutter_passComment_67 : decode b_Cutter_passComment 67 = .ok (.iinc 3 (-1), 3) := by decide +kernel
theorem d_Cutter_passComment_70 : decode b_Cutter_passComment 70 = .ok (.aload_n 0, 1) := by decide +kernel
theorem d_Cutter_passComment_71 : decode b_Cutter_passComment 71 = .ok (.dup, 1) := by decide +kernel
theorem d_Cutter_passComment_72 : decode b_Cutter_passComment 72 = .ok (.getfield 29, 3) := by decide +kernel
theorem d_Cutter_passComment_75 : decode b_Cutter_passComment 75 = .ok (.iconst 2, 1) := by decide +kernel
theorem d_Cutter_passComment_76 : decode b_Cutter_passComment 76 = .ok (.iadd, 1) := by decide +kernel
theorem d_Cutter_passComment_77 : decode b_Cutter_passComment 77 = .ok (.putfield 29, 3) := by decide +kernel
theorem d_Cutter_passComment_80 : decode b_Cutter_passComment 80 = .ok (.goto 15, 3) := by decide +kernel
theorem d_Cutter_passComment_83 : decode b_Cutter_passComment 83 = .ok (.aload_n 0, 1) := by decide +kernel
theorem d_Cutter_passComment_84 : decode b_Cutter_passComment 84 = .ok (.aload_n 1, 1) := by decide +kernel
theorem d_Cutter_passComment_85 : decode b_Cutter_passComment 85 = .ok (.aload_n 0, 1) := by decide +kernel
theorem d_Cutter_passComment_86 : decode b_Cutter_passComment 86 = .ok (.getfield 29, 3) := by decide +kernel
theorem d_Cutter_passComment_89 : decode b_Cutter_passComment 89 = .ok (.invokevirtual 44, 3) := by decide +kernel
theorem d_Cutter_passComment_92 : decode b_Cutter_passComment 92 = .ok (.invokevirtual 51, 3) := by decide +kernel
theorem d_Cutter_passComment_95 : decode b_Cutter_passComment 95 = .ok (.iload_n 3, 1) := by decide +kernel
theorem d_Cutter_passComment_96 : decode b_Cutter_passComment 96 = .ok (.ifCond .ne 4, 3) := by decide +kernel
theorem d_Cutter_passComment_99 : decode b_Cutter_passComment 99 = .ok (.return_, 1) := by decide +kernel
theorem d_Cutter_passComment_100 : decode b_Cutter_passComment 100 = .ok (.iinc 4 1, 3) := by decide +kernel
theorem d_Cutter_passComment_103 : decode b_Cutter_passComment 103 = .ok (.goto (-93), 3) := by decide +kernel
theorem d_Cutter_passComment_106 : decode b_Cutter_passComment 106 = .ok (.aload_n 0, 1) := by decide +kernel
theorem d_Cutter_passComment_107 : decode b_Cutter_passComment 107 = .ok (.iload_n 2, 1) := by decide +kernel
theorem d_Cutter_passComment_108 : decode b_Cutter_passComment 108 = .ok (.putfield 18, 3) := by decide +kernel
theorem d_Cutter_passComment_111 : decode b_Cutter_passComment 111 = .ok (.return_, 1) := by decide +kernel
theorem d_Cutter_cutLexeme_0 : decode b_Cutter_cutLexeme 0 = .ok (.aload_n 1, 1) := by decide +kernel
theorem d_Cutter_cutLexeme_1 : decode b_Cutter_cutLexeme 1 = .ok (.aload_n 0, 1) := by decide +kernel
theorem d_Cutter_cutLexeme_2 : decode b_Cutter_cutLexeme 2 = .ok (.getfield 29, 3) := by decide +kernel
theorem d_Cutter_cutLexeme_5 : decode b_Cutter_cutLexeme 5 = .ok (.invokevirtual 44, 3) := by decide +kernel
theorem d_Cutter_cutLexeme_8 : decode b_Cutter_cutLexeme 8 = .ok (.invokestatic 69, 3) := by decide +kernel
theorem d_Cutter_cutLexeme_11 : decode b_Cutter_cutLexeme 11 = .ok (.istore_n 2, 1) := by decide +kernel
theorem d_Cutter_cutLexeme_12 : decode b_Cutter_cutLexeme 12 = .ok (.aload_n 0, 1) := by decide +kernel
theorem d_Cutter_cutLexeme_13 : decode b_Cutter_cutLexeme 13 = .ok (.aload_n 1, 1) := by decide +kernel
theorem d_Cutter_cutLexeme_14 : decode b_Cutter_cutLexeme 14 = .ok (.iload_n 2, 1) := by decide +kernel
theorem d_Cutter_cutLexeme_15 : decode b_Cutter_cutLexeme 15 = .ok (.invokevirtual 73, 3) := by decide +kernel
theorem d_Cutter_cutLexeme_18 : decode b_Cutter_cutLexeme 18 = .ok (.istore_n 3, 1) := by decide +kernel
theorem d_Cutter_cutLexeme_19 : decode b_Cutter_cutLexeme 19 = .ok (.iload_n 2, 1) := by decide +kernel
theorem d_Cutter_cutLexeme_20 : decode b_Cutter_cutLexeme 20 = .ok (.iconst 2, 1) := by decide +kernel
theorem d_Cutter_cutLexeme_21 : decode b_Cutter_cutLexeme 21 = .ok (.if_icmp .ne 24, 3) := by decide +kernel
theorem d_Cutter_cutLexeme_24 : decode b_Cutter_cutLexeme 24 = .ok (.aload_n 0, 1) := by decide +kernel
theorem d_Cutter_cutLexeme_25 : decode b_Cutter_cutLexeme 25 = .ok (.aload_n 1, 1) := by decide +kernel
theorem d_Cutter_cutLexeme_26 : decode b_Cutter_cutLexeme 26 = .ok (.iload_n 3, 1) := by decide +kernel
theorem d_Cutter_cutLexeme_27 : decode b_Cutter_cutLexeme 27 = .ok (.invokevirtual 77, 3) := by decide +kernel
theorem d_Cutter_cutLexeme_30 : decode b_Cutter_cutLexeme 30 = .ok (.ifCond .eq 15, 3) := by decide +kernel
theorem d_Cutter_cutLexeme_33 : decode b_Cutter_cutLexeme 33 = .ok (.aload_n 0, 1) := by decide +kernel
theorem d_Cutter_cutLexeme_34 : decode b_Cutter_cutLexeme 34 = .ok (.aload_n 1, 1) := by decide +kernel
theorem d_Cutter_cutLexeme_35 : decode b_Cutter_cutLexeme 35 = .ok (.iload_n 3, 1) := by decide +kernel
theorem d_Cutter_cutLexeme_36 : decode b_Cutter_cutLexeme 36 = .ok (.invokestatic 80, 3) := by decide +kernel
theorem d_Cutter_cutLexeme_39 : decode b_Cutter_cutLexeme 39 = .ok (.putfield 29, 3) := by decide +kernel
theorem d_Cutter_cutLexeme_42 : decode b_Cutter_cutLexeme 42 = .ok (.goto 65, 3) := by decide +kernel
theorem d_Cutter_cutLexeme_45 : decode b_Cutter_cutLexeme 45 = .ok (.iload_n 2, 1) := by decide +kernel
theorem d_Cutter_cutLexeme_46 : decode b_Cutter_cutLexeme 46 = .ok (.iconst (-1), 1) := by decide +kernel
theorem d_Cutter_cutLexeme_47 : decode b_Cutter_cutLexeme 47 = .ok (.if_icmp .eq 16, 3) := by decide +kernel
theorem d_Cutter_cutLexeme_50 : decode b_Cutter_cutLexeme 50 = .ok (.iload_n 3, 1) := by decide +kernel
theorem d_Cutter_cutLexeme_51 : decode b_Cutter_cutLexeme 51 = .ok (.aload_n 0, 1) := by decide +kernel
theorem d_Cutter_cutLexeme_52 : decode b_Cutter_cutLexeme 52 = .ok (.getfield 29, 3) := by decide +kernel
theorem d_Cutter_cutLexeme_55 : decode b_Cutter_cutLexeme 55 = .ok (.isub, 1) := by decide +kernel
theorem d_Cutter_cutLexeme_56 : decode b_Cutter_cutLexeme 56 = .ok (.iload_n 2, 1) := by decide +kernel
theorem d_Cutter_cutLexeme_57 : decode b_Cutter_cutLexeme 57 = .ok (.invokestatic 83, 3) := by decide +kernel
theorem d_Cutter_cutLexeme_60 : decode b_Cutter_cutLexeme 60 = .ok (.if_icmp .le 14, 3) := by decide +kernel
theorem d_Cutter_cutLexeme_63 : decode b_Cutter_cutLexeme 63 = .ok (.aload_n 0, 1) := by decide +kernel
theorem d_Cutter_cutLexeme_64 : decode b_Cutter_cutLexeme 64 = .ok (.aload_n 0, 1) := by decide +kernel
theorem d_Cutter_cutLexeme_65 : decode b_Cutter_cutLexeme 65 = .ok (.getfield 29, 3) := by decide +kernel
theorem d_Cutter_cutLexeme_68 : decode b_Cutter_cutLexeme 68 = .ok (.putfield 18, 3) := by decide +kernel
theorem d_Cutter_cutLexeme_71 : decode b_Cutter_cutLexeme 71 = .ok (.goto 36, 3) := by decide +kernel
theorem d_Cutter_cutLexeme_74 : decode b_Cutter_cutLexeme 74 = .ok (.aload_n 0, 1) := by decide +kernel
theorem d_Cutter_cutLexeme_75 : decode b_Cutter_cutLexeme 75 = .ok (.getfield 12, 3) := by decide +kernel
theorem d_Cutter_cutLexeme_78 : decode b_Cutter_cutLexeme 78 = .ok (.invokevirtual 87, 3) := by decide +kernel
theorem d_Cutter_cutLexeme_81 : decode b_Cutter_cutLexeme 81 = .ok (.ifCond .eq 19, 3) := by decide +kernel
theorem d_Cutter_cutLexeme_84 : decode b_Cutter_cutLexeme 84 = .ok (.aload_n 0, 1) := by decide +kernel
theorem d_Cutter_cutLexeme_85 : decode b_Cutter_cutLexeme 85 = .ok (.aload_n 0, 1) := by decide +kernel
theorem d_Cutter_cutLexeme_86 : decode b_Cutter_cutLexeme 86 = .ok (.getfield 29, 3) := by decide +kernel
theorem d_Cutter_cutLexeme_89 : decode b_Cutter_cutLexeme 89 = .ok (.putfield 18, 3) := by decide +kernel
theorem d_Cutter_cutLexeme_92 : decode b_Cutter_cutLexeme 92 = .ok (.aload_n 0, 1) := by decide +kernel
theorem d_Cutter_cutLexeme_93 : decode b_Cutter_cutLexeme 93 = .ok (.iconst 1, 1) := by decide +kernel
theorem d_Cutter_cutLexeme_94 : decode b_Cutter_cutLexeme 94 = .ok (.putfield 22, 3) := by decide +kernel
theorem d_Cutter_cutLexeme_97 : decode b_Cutter_cutLexeme 97 = .ok (.goto 10, 3) := by decide +kernel
theorem d_Cutter_cutLexeme_100 : decode b_Cutter_cutLexeme 100 = .ok (.aload_n 0, 1) := by decide +kernel
theorem d_Cutter_cutLexeme_101 : decode b_Cutter_cutLexeme 101 = .ok (.aload_n 1, 1) := by decide +kernel
theorem d_Cutter_cutLexeme_102 : decode b_Cutter_cutLexeme 102 = .ok (.iload_n 2, 1) := by decide +kernel
theorem d_Cutter_cutLexeme_103 : decode b_Cutter_cutLexeme 103 = .ok (.iload_n 3, 1) := by decide +kernel
theorem d_Cutter_cutLexeme_104 : decode b_Cutter_cutLexeme 104 = .ok (.invokevirtual 91, 3) := by decide +kernel
theorem d_Cutter_cutLexeme_107 : decode b_Cutter_cutLexeme 107 = .ok (.return_, 1) := by decide +kernel
theorem d_Cutter_take_0 : decode b_Cutter_take 0 = .ok (.iload_n 2, 1) := by decide +kernel
theorem d_Cutter_take_1 : decode b_Cutter_take 1 = .ok (.iconst 1, 1) := by decide +kernel
theorem d_Cutter_take_2 : decode b_Cutter_take 2 = .ok (.if_icmp .ne 15, 3) := by decide +kernel
theorem d_Cutter_take_5 : decode b_Cutter_take 5 = .ok (.aload_n 1, 1) := by decide +kernel
theorem d_Cutter_take_6 : decode b_Cutter_take 6 = .ok (.aload_n 0, 1) := by decide +kernel
theorem d_Cutter_take_7 : decode b_Cutter_take 7 = .ok (.getfield 29, 3) := by decide +kernel
theorem d_Cutter_take_10 : decode b_Cutter_take 10 = .ok (.iload_n 3, 1) := by decide +kernel
theorem d_Cutter_take_11 : decode b_Cutter_take 11 = .ok (.invokevirtual 95, 3) := by decide +kernel
theorem d_Cutter_take_14 : decode b_Cutter_take 14 = .ok (.goto 12, 3) := by decide +kernel
theorem d_Cutter_take_17 : decode b_Cutter_take 17 = .ok (.aload_n 1, 1) := by decide +kernel
theorem d_Cutter_take_18 : decode b_Cutter_take 18 = .ok (.aload_n 0, 1) := by decide +kernel
theorem d_Cutter_take_19 : decode b_Cutter_take 19 = .ok (.getfield 29, 3) := by decide +kernel
theorem d_Cutter_take_22 : decode b_Cutter_take 22 = .ok (.iload_n 3, 1) := by decide +kernel
theorem d_Cutter_take_23 : decode b_Cutter_take 23 = .ok (.invokevirtual 99, 3) := by decide +kernel
theorem d_Cutter_take_26 : decode b_Cutter_take 26 = .ok (.lstore 4, 2) := by decide +kernel
theorem d_Cutter_take_28 : decode b_Cutter_take 28 = .ok (.aload_n 0, 1) := by decide +kernel
theorem d_Cutter_take_29 : decode b_Cutter_take 29 = .ok (.getfield 12, 3) := by decide +kernel
theorem d_Cutter_take_32 : decode b_Cutter_take 32 = .ok (.iload_n 2, 1) := by decide +kernel
theorem d_Cutter_take_33 : decode b_Cutter_take 33 = .ok (.lload 4, 2) := by decide +kernel
theorem d_Cutter_take_35 : decode b_Cutter_take 35 = .ok (.aload_n 0, 1) := by decide +kernel
theorem d_Cutter_take_36 : decode b_Cutter_take 36 = .ok (.getfield 29, 3) := by decide +kernel
theorem d_Cutter_take_39 : decode b_Cutter_take 39 = .ok (.aload_n 0, 1) := by decide +kernel
theorem d_Cutter_take_40 : decode b_Cutter_take 40 = .ok (.getfield 29, 3) := by decide +kernel
theorem d_Cutter_take_43 : decode b_Cutter_take 43 = .ok (.aload_n 0, 1) := by decide +kernel
theorem d_Cutter_take_44 : decode b_Cutter_take 44 = .ok (.getfield 32, 3) := by decide +kernel
theorem d_Cutter_take_47 : decode b_Cutter_take 47 = .ok (.isub, 1) := by decide +kernel
theorem d_Cutter_take_48 : decode b_Cutter_take 48 = .ok (.iconst 1, 1) := by decide +kernel
theorem d_Cutter_take_49 : decode b_Cutter_take 49 = .ok (.iadd, 1) := by decide +kernel
theorem d_Cutter_take_50 : decode b_Cutter_take 50 = .ok (.aload_n 0, 1) := by decide +kernel
theorem d_Cutter_take_51 : decode b_Cutter_take 51 = .ok (.getfield 35, 3) := by decide +kernel
theorem d_Cutter_take_54 : decode b_Cutter_take 54 = .ok (.invokevirtual 102, 3) := by decide +kernel
theorem d_Cutter_take_57 : decode b_Cutter_take 57 = .ok (.aload_n 0, 1) := by decide +kernel
theorem d_Cutter_take_58 : decode b_Cutter_take 58 = .ok (.iconst 0, 1) := by decide +kernel
theorem d_Cutter_take_59 : decode b_Cutter_take 59 = .ok (.putfield 35, 3) := by decide +kernel
theorem d_Cutter_take_62 : decode b_Cutter_take 62 = .ok (.aload_n 0, 1) := by decide +kernel
theorem d_Cutter_take_63 : decode b_Cutter_take 63 = .ok (.iload_n 3, 1) := by decide +kernel
theorem d_Cutter_take_64 : decode b_Cutter_take 64 = .ok (.putfield 29, 3) := by decide +kernel
theorem d_Cutter_take_67 : decode b_Cutter_take 67 = .ok (.return_, 1) := by decide +kernel
theorem d_Cutter_kindBegunBy_0 : decode b_Cutter_kindBegunBy 0 = .ok (.iload_n 0, 1) := by decide +kernel
theorem d_Cutter_kindBegunBy_1 : decode b_Cutter_kindBegunBy 1 = .ok (.invokestatic 106, 3) := by decide +kernel
theorem d_Cutter_kindBegunBy_4 : decode b_Cutter_kindBegunBy 4 = .ok (.ifCond .eq 5, 3) := by decide +kernel
theorem d_Cutter_kindBegunBy_7 : decode b_Cutter_kindBegunBy 7 = .ok (.iconst 0, 1) := by decide +kernel
theorem d_Cutter_kindBegunBy_8 : decode b_Cutter_kindBegunBy 8 = .ok (.ireturn, 1) := by decide +kernel
theorem d_Cutter_kindBegunBy_9 : decode b_Cutter_kindBegunBy 9 = .ok (.iload_n 0, 1) := by decide +kernel
theorem d_Cutter_kindBegunBy_10 : decode b_Cutter_kindBegunBy 10 = .ok (.invokestatic 109, 3) := by decide +kernel
theorem d_Cutter_kindBegunBy_13 : decode b_Cutter_kindBegunBy 13 = .ok (.ifCond .eq 5, 3) := by decide +kernel
theorem d_Cutter_kindBegunBy_16 : decode b_Cutter_kindBegunBy 16 = .ok (.iconst 1, 1) := by decide +kernel
theorem d_Cutter_kindBegunBy_17 : decode b_Cutter_kindBegunBy 17 = .ok (.ireturn, 1) := by decide +kernel
theorem d_Cutter_kindBegunBy_18 : decode b_Cutter_kindBegunBy 18 = .ok (.iload_n 0, 1) := by decide +kernel
theorem d_Cutter_kindBegunBy_19 : decode b_Cutter_kindBegunBy 19 = .ok (.invokestatic 112, 3) := by decide +kernel
theorem d_Cutter_kindBegunBy_22 : decode b_Cutter_kindBegunBy 22 = .ok (.ifCond .eq 5, 3) := by decide +kernel
theorem d_Cutter_kindBegunBy_25 : decode b_Cutter_kindBegunBy 25 = .ok (.iconst 2, 1) := by decide +kernel
theorem d_Cutter_kindBegunBy_26 : decode b_Cutter_kindBegunBy 26 = .ok (.ireturn, 1) := by decide +kernel
theorem d_Cutter_kindBegunBy_27 : decode b_Cutter_kindBegunBy 27 = .ok (.iload_n 0, 1) := by decide +kernel
theorem d_Cutter_kindBegunBy_28 : decode b_Cutter_kindBegunBy 28 = .ok (.invokestatic 115, 3) := by decide +kernel
theorem d_Cutter_kindBegunBy_31 : decode b_Cutter_kindBegunBy 31 = .ok (.ifCond .eq 7, 3) := by decide +kernel
theorem d_Cutter_kindBegunBy_34 : decode b_Cutter_kindBegunBy 34 = .ok (.iconst 3, 1) := by decide +kernel
theorem d_Cutter_kindBegunBy_35 : decode b_Cutter_kindBegunBy 35 = .ok (.goto 4, 3) := by decide +kernel
theorem d_Cutter_kindBegunBy_38 : decode b_Cutter_kindBegunBy 38 = .ok (.iconst (-1), 1) := by decide +kernel
theorem d_Cutter_kindBegunBy_39 : decode b_Cutter_kindBegunBy 39 = .ok (.ireturn, 1) := by decide +kernel
theorem d_Cutter_longest_0 : decode b_Cutter_longest 0 = .ok (.iload_n 0, 1) := by decide +kernel
theorem d_Cutter_longest_1 : decode b_Cutter_longest 1 = .ok (.iconst 1, 1) := by decide +kernel
theorem d_Cutter_longest_2 : decode b_Cutter_longest 2 = .ok (.if_icmp .ne 8, 3) := by decide +kernel
theorem d_Cutter_longest_5 : decode b_Cutter_longest 5 = .ok (.bipush 9, 2) := by decide +kernel
theorem d_Cutter_longest_7 : decode b_Cutter_longest 7 = .ok (.goto 5, 3) := by decide +kernel
theorem d_Cutter_longest_10 : decode b_Cutter_longest 10 = .ok (.bipush 7, 2) := by decide +kernel
theorem d_Cutter_longest_12 : decode b_Cutter_longest 12 = .ok (.ireturn, 1) := by decide +kernel
theorem d_Cutter_lexemeEnd_0 : decode b_Cutter_lexemeEnd 0 = .ok (.aload_n 0, 1) := by decide +kernel
theorem d_Cutter_lexemeEnd_1 : decode b_Cutter_lexemeEnd 1 = .ok (.getfield 29, 3) := by decide +kernel
theorem d_Cutter_lexemeEnd_4 : decode b_Cutter_lexemeEnd 4 = .ok (.iconst 1, 1) := by decide +kernel
theorem d_Cutter_lexemeEnd_5 : decode b_Cutter_lexemeEnd 5 = .ok (.iadd, 1) := by decide +kernel
theorem d_Cutter_lexemeEnd_6 : decode b_Cutter_lexemeEnd 6 = .ok (.istore_n 3, 1) := by decide +kernel
theorem d_Cutter_lexemeEnd_7 : decode b_Cutter_lexemeEnd 7 = .ok (.iload_n 3, 1) := by decide +kernel
theorem d_Cutter_lexemeEnd_8 : decode b_Cutter_lexemeEnd 8 = .ok (.aload_n 1, 1) := by decide +kernel
theorem d_Cutter_lexemeEnd_9 : decode b_Cutter_lexemeEnd 9 = .ok (.invokevirtual 38, 3) := by decide +kernel
theorem d_Cutter_lexemeEnd_12 : decode b_Cutter_lexemeEnd 12 = .ok (.if_icmp .ge 23, 3) := by decide +kernel
theorem d_Cutter_lexemeEnd_15 : decode b_Cutter_lexemeEnd 15 = .ok (.iload_n 2, 1) := by decide +kernel
theorem d_Cutter_lexemeEnd_16 : decode b_Cutter_lexemeEnd 16 = .ok (.aload_n 1, 1) := by decide +kernel
theorem d_Cutter_lexemeEnd_17 : decode b_Cutter_lexemeEnd 17 = .ok (.iload_n 3, 1) := by decide +kernel
theorem d_Cutter_lexemeEnd_18 : decode b_Cutter_lexemeEnd 18 = .ok (.invokevirtual 44, 3) := by decide +kernel
theorem d_Cutter_lexemeEnd_21 : decode b_Cutter_lexemeEnd 21 = .ok (.invokestatic 118, 3) := by decide +kernel
theorem d_Cutter_lexemeEnd_24 : decode b_Cutter_lexemeEnd 24 = .ok (.ifCond .ne 5, 3) := by decide +kernel
theorem d_Cutter_lexemeEnd_27 : decode b_Cutter_lexemeEnd 27 = .ok (.iload_n 3, 1) := by decide +kernel
theorem d_Cutter_lexemeEnd_28 : decode b_Cutter_lexemeEnd 28 = .ok (.ireturn, 1) := by decide +kernel
theorem d_Cutter_lexemeEnd_29 : decode b_Cutter_lexemeEnd 29 = .ok (.iinc 3 1, 3) := by decide +kernel
theorem d_Cutter_lexemeEnd_32 : decode b_Cutter_lexemeEnd 32 = .ok (.goto (-25), 3) := by decide +kernel
theorem d_Cutter_lexemeEnd_35 : decode b_Cutter_lexemeEnd 35 = .ok (.aload_n 1, 1) := by decide +kernel
theorem d_Cutter_lexemeEnd_36 : decode b_Cutter_lexemeEnd 36 = .ok (.invokevirtual 38, 3) := by decide +kernel
theorem d_Cutter_lexemeEnd_39 : decode b_Cutter_lexemeEnd 39 = .ok (.ireturn, 1) := by decide +kernel
theorem d_Cutter_goesOn_0 : decode b_Cutter_goesOn 0 = .ok (.iload_n 0, 1) := by decide +kernel
theorem d_Cutter_goesOn_1 : decode b_Cutter_goesOn 1 = .ok (.tableswitch 63 0 2 #[27, 53, 58], 27) := by decide +kernel
theorem d_Cutter_goesOn_28 : decode b_Cutter_goesOn 28 = .ok (.iload_n 1, 1) := by decide +kernel
theorem d_Cutter_goesOn_29 : decode b_Cutter_goesOn 29 = .ok (.invokestatic 106, 3) := by decide +kernel
theorem d_Cutter_goesOn_32 : decode b_Cutter_goesOn 32 = .ok (.ifCond .ne 16, 3) := by decide +kernel
theorem d_Cutter_goesOn_35 : decode b_Cutter_goesOn 35 = .ok (.iload_n 1, 1) := by decide +kernel
theorem d_Cutter_goesOn_36 : decode b_Cutter_goesOn 36 = .ok (.invokestatic 109, 3) := by decide +kernel
theorem d_Cutter_goesOn_39 : decode b_Cutter_goesOn 39 = .ok (.ifCond .ne 9, 3) := by decide +kernel
theorem d_Cutter_goesOn_42 : decode b_Cutter_goesOn 42 = .ok (.iload_n 1, 1) := by decide +kernel
theorem d_Cutter_goesOn_43 : decode b_Cutter_goesOn 43 = .ok (.bipush 39, 2) := by decide +kernel
theorem d_Cutter_goesOn_45 : decode b_Cutter_goesOn 45 = .ok (.if_icmp .ne 7, 3) := by decide +kernel
theorem d_Cutter_goesOn_48 : decode b_Cutter_goesOn 48 = .ok (.iconst 1, 1) := by decide +kernel
theorem d_Cutter_goesOn_49 : decode b_Cutter_goesOn 49 = .ok (.goto 4, 3) := by decide +kernel
theorem d_Cutter_goesOn_52 : decode b_Cutter_goesOn 52 = .ok (.iconst 0, 1) := by decide +kernel
theorem d_Cutter_goesOn_53 : decode b_Cutter_goesOn 53 = .ok (.ireturn, 1) := by decide +kernel
theorem d_Cutter_goesOn_54 : decode b_Cutter_goesOn 54 = .ok (.iload_n 1, 1) := by decide +kernel
theorem d_Cutter_goesOn_55 : decode b_Cutter_goesOn 55 = .ok (.invokestatic 109, 3) := by decide +kernel
theorem d_Cutter_goesOn_58 : decode b_Cutter_goesOn 58 = .ok (.ireturn, 1) := by decide +kernel
theorem d_Cutter_goesOn_59 : decode b_Cutter_goesOn 59 = .ok (.iload_n 1, 1) := by decide +kernel
theorem d_Cutter_goesOn_60 : decode b_Cutter_goesOn 60 = .ok (.invokestatic 112, 3) := by decide +kernel
theorem d_Cutter_goesOn_63 : decode b_Cutter_goesOn 63 = .ok (.ireturn, 1) := by decide +kernel
theorem d_Cutter_goesOn_64 : decode b_Cutter_goesOn 64 = .ok (.iconst 0, 1) := by decide +kernel
theorem d_Cutter_goesOn_65 : decode b_Cutter_goesOn 65 = .ok (.ireturn, 1) := by decide +kernel
theorem d_Cutter_isDashes_0 : decode b_Cutter_isDashes 0 = .ok (.aload_n 0, 1) := by decide +kernel
theorem d_Cutter_isDashes_1 : decode b_Cutter_isDashes 1 = .ok (.getfield 29, 3) := by decide +kernel
theorem d_Cutter_isDashes_4 : decode b_Cutter_isDashes 4 = .ok (.istore_n 3, 1) := by decide +kernel
theorem d_Cutter_isDashes_5 : decode b_Cutter_isDashes 5 = .ok (.iload_n 3, 1) := by decide +kernel
theorem d_Cutter_isDashes_6 : decode b_Cutter_isDashes 6 = .ok (.iload_n 2, 1) := by decide +kernel
theorem d_Cutter_isDashes_7 : decode b_Cutter_isDashes 7 = .ok (.if_icmp .ge 21, 3) := by decide +kernel
theorem d_Cutter_isDashes_10 : decode b_Cutter_isDashes 10 = .ok (.aload_n 1, 1) := by decide +kernel
theorem d_Cutter_isDashes_11 : decode b_Cutter_isDashes 11 = .ok (.iload_n 3, 1) := by decide +kernel
theorem d_Cutter_isDashes_12 : decode b_Cutter_isDashes 12 = .ok (.invokevirtual 44, 3) := by decide +kernel
theorem d_Cutter_isDashes_15 : decode b_Cutter_isDashes 15 = .ok (.bipush 45, 2) := by decide +kernel
theorem d_Cutter_isDashes_17 : decode b_Cutter_isDashes 17 = .ok (.if_icmp .eq 5, 3) := by decide +kernel
theorem d_Cutter_isDashes_20 : decode b_Cutter_isDashes 20 = .ok (.iconst 0, 1) := by decide +kernel
theorem d_Cutter_isDashes_21 : decode b_Cutter_isDashes 21 = .ok (.ireturn, 1) := by decide +kernel
theorem d_Cutter_isDashes_22 : decode b_Cutter_isDashes 22 = .ok (.iinc 3 1, 3) := by decide +kernel
theorem d_Cutter_isDashes_25 : decode b_Cutter_isDashes 25 = .ok (.goto (-20), 3) := by decide +kernel
theorem d_Cutter_isDashes_28 : decode b_Cutter_isDashes 28 = .ok (.iload_n 2, 1) := by decide +kernel
theorem d_Cutter_isDashes_29 : decode b_Cutter_isDashes 29 = .ok (.aload_n 0, 1) := by decide +kernel
theorem d_Cutter_isDashes_30 : decode b_Cutter_isDashes 30 = .ok (.getfield 29, 3) := by decide +kernel
theorem d_Cutter_isDashes_33 : decode b_Cutter_isDashes 33 = .ok (.isub, 1) := by decide +kernel
theorem d_Cutter_isDashes_34 : decode b_Cutter_isDashes 34 = .ok (.iconst 2, 1) := by decide +kernel
theorem d_Cutter_isDashes_35 : decode b_Cutter_isDashes 35 = .ok (.if_icmp .lt 7, 3) := by decide +kernel
theorem d_Cutter_isDashes_38 : decode b_Cutter_isDashes 38 = .ok (.iconst 1, 1) := by decide +kernel
theorem d_Cutter_isDashes_39 : decode b_Cutter_isDashes 39 = .ok (.goto 4, 3) := by decide +kernel
theorem d_Cutter_isDashes_42 : decode b_Cutter_isDashes 42 = .ok (.iconst 0, 1) := by decide +kernel
theorem d_Cutter_isDashes_43 : decode b_Cutter_isDashes 43 = .ok (.ireturn, 1) := by decide +kernel
theorem d_Cutter_lineEnd_0 : decode b_Cutter_lineEnd 0 = .ok (.iload_n 1, 1) := by decide +kernel
theorem d_Cutter_lineEnd_1 : decode b_Cutter_lineEnd 1 = .ok (.istore_n 2, 1) := by decide +kernel
theorem d_Cutter_lineEnd_2 : decode b_Cutter_lineEnd 2 = .ok (.iload_n 2, 1) := by decide +kernel
theorem d_Cutter_lineEnd_3 : decode b_Cutter_lineEnd 3 = .ok (.aload_n 0, 1) := by decide +kernel
theorem d_Cutter_lineEnd_4 : decode b_Cutter_lineEnd 4 = .ok (.invokevirtual 38, 3) := by decide +kernel
theorem d_Cutter_lineEnd_7 : decode b_Cutter_lineEnd 7 = .ok (.if_icmp .ge 21, 3) := by decide +kernel
theorem d_Cutter_lineEnd_10 : decode b_Cutter_lineEnd 10 = .ok (.aload_n 0, 1) := by decide +kernel
theorem d_Cutter_lineEnd_11 : decode b_Cutter_lineEnd 11 = .ok (.iload_n 2, 1) := by decide +kernel
theorem d_Cutter_lineEnd_12 : decode b_Cutter_lineEnd 12 = .ok (.invokevirtual 44, 3) := by decide +kernel
theorem d_Cutter_lineEnd_15 : decode b_Cutter_lineEnd 15 = .ok (.bipush 10, 2) := by decide +kernel
theorem d_Cutter_lineEnd_17 : decode b_Cutter_lineEnd 17 = .ok (.if_icmp .ne 5, 3) := by decide +kernel
theorem d_Cutter_lineEnd_20 : decode b_Cutter_lineEnd 20 = .ok (.iload_n 2, 1) := by decide +kernel
theorem d_Cutter_lineEnd_21 : decode b_Cutter_lineEnd 21 = .ok (.ireturn, 1) := by decide +kernel
theorem d_Cutter_lineEnd_22 : decode b_Cutter_lineEnd 22 = .ok (.iinc 2 1, 3) := by decide +kernel
theorem d_Cutter_lineEnd_25 : decode b_Cutter_lineEnd 25 = .ok (.goto (-23), 3) := by decide +kernel
theorem d_Cutter_lineEnd_28 : decode b_Cutter_lineEnd 28 = .ok (.aload_n 0, 1) := by decide +kernel
theorem d_Cutter_lineEnd_29 : decode b_Cutter_lineEnd 29 = .ok (.invokevirtual 38, 3) := by decide +kernel
theorem d_Cutter_lineEnd_32 : decode b_Cutter_lineEnd 32 = .ok (.ireturn, 1) := by decide +kernel
theorem d_Cutter_isLetter_0 : decode b_Cutter_isLetter 0 = .ok (.iload_n 0, 1) := by decide +kernel
theorem d_Cutter_isLetter_1 : decode b_Cutter_isLetter 1 = .ok (.bipush 97, 2) := by decide +kernel
theorem d_Cutter_isLetter_3 : decode b_Cutter_isLetter 3 = .ok (.if_icmp .lt 9, 3) := by decide +kernel
theorem d_Cutter_isLetter_6 : decode b_Cutter_isLetter 6 = .ok (.iload_n 0, 1) := by decide +kernel
theorem d_Cutter_isLetter_7 : decode b_Cutter_isLetter 7 = .ok (.bipush 122, 2) := by decide +kernel
theorem d_Cutter_isLetter_9 : decode b_Cutter_isLetter 9 = .ok (.if_icmp .le 21, 3) := by decide +kernel
theorem d_Cutter_isLetter_12 : decode b_Cutter_isLetter 12 = .ok (.iload_n 0, 1) := by decide +kernel
theorem d_Cutter_isLetter_13 : decode b_Cutter_isLetter 13 = .ok (.bipush 65, 2) := by decide +kernel
theorem d_Cutter_isLetter_15 : decode b_Cutter_isLetter 15 = .ok (.if_icmp .lt 9, 3) := by decide +kernel
theorem d_Cutter_isLetter_18 : decode b_Cutter_isLetter 18 = .ok (.iload_n 0, 1) := by decide +kernel
theorem d_Cutter_isLetter_19 : decode b_Cutter_isLetter 19 = .ok (.bipush 90, 2) := by decide +kernel
