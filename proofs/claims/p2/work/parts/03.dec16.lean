theorem d_Model_signs_86 : decode b_Model_signs 86 = .ok (.ldc2_w 206, 3) := by decide +kernel
theorem d_Model_signs_89 : decode b_Model_signs 89 = .ok (.lcmp, 1) := by decide +kernel
theorem d_Model_signs_90 : decode b_Model_signs 90 = .ok (.ifCond .ne 38, 3) := by decide +kernel
theorem d_Model_signs_93 : decode b_Model_signs 93 = .ok (.aload_n 0, 1) := by decide +kernel
theorem d_Model_signs_94 : decode b_Model_signs 94 = .ok (.invokevirtual 203, 3) := by decide +kernel
theorem d_Model_signs_97 : decode b_Model_signs 97 = .ok (.aload_n 0, 1) := by decide +kernel
theorem d_Model_signs_98 : decode b_Model_signs 98 = .ok (.invokevirtual 197, 3) := by decide +kernel
theorem d_Model_signs_101 : decode b_Model_signs 101 = .ok (.ifCond .eq 17, 3) := by decide +kernel
theorem d_Model_signs_104 : decode b_Model_signs 104 = .ok (.aload_n 0, 1) := by decide +kernel
theorem d_Model_signs_105 : decode b_Model_signs 105 = .ok (.iconst 1, 1) := by decide +kernel
theorem d_Model_signs_106 : decode b_Model_signs 106 = .ok (.aload_n 0, 1) := by decide +kernel
theorem d_Model_signs_107 : decode b_Model_signs 107 = .ok (.getfield 24, 3) := by decide +kernel
theorem d_Model_signs_110 : decode b_Model_signs 110 = .ok (.iload_n 1, 1) := by decide +kernel
theorem d_Model_signs_111 : decode b_Model_signs 111 = .ok (.iaload, 1) := by decide +kernel
theorem d_Model_signs_112 : decode b_Model_signs 112 = .ok (.invokevirtual 140, 3) := by decide +kernel
theorem d_Model_signs_115 : decode b_Model_signs 115 = .ok (.goto 13, 3) := by decide +kernel
theorem d_Model_signs_118 : decode b_Model_signs 118 = .ok (.aload_n 0, 1) := by decide +kernel
theorem d_Model_signs_119 : decode b_Model_signs 119 = .ok (.dup, 1) := by decide +kernel
theorem d_Model_signs_120 : decode b_Model_signs 120 = .ok (.getfield 191, 3) := by decide +kernel
theorem d_Model_signs_123 : decode b_Model_signs 123 = .ok (.iconst 1, 1) := by decide +kernel
theorem d_Model_signs_124 : decode b_Model_signs 124 = .ok (.isub, 1) := by decide +kernel
theorem d_Model_signs_125 : decode b_Model_signs 125 = .ok (.putfield 191, 3) := by decide +kernel
theorem d_Model_signs_128 : decode b_Model_signs 128 = .ok (.lload_n 2, 1) := by decide +kernel
theorem d_Model_signs_129 : decode b_Model_signs 129 = .ok (.ldc2_w 212, 3) := by decide +kernel
theorem d_Model_signs_132 : decode b_Model_signs 132 = .ok (.lcmp, 1) := by decide +kernel
theorem d_Model_signs_133 : decode b_Model_signs 133 = .ok (.ifCond .ne 7, 3) := by decide +kernel
theorem d_Model_signs_136 : decode b_Model_signs 136 = .ok (.aload_n 0, 1) := by decide +kernel
theorem d_Model_signs_137 : decode b_Model_signs 137 = .ok (.invokevirtual 203, 3) := by decide +kernel
theorem d_Model_signs_140 : decode b_Model_signs 140 = .ok (.return_, 1) := by decide +kernel
theorem d_Model_words_0 : decode b_Model_words 0 = .ok (.lload_n 2, 1) := by decide +kernel
theorem d_Model_words_1 : decode b_Model_words 1 = .ok (.ldc2_w 180, 3) := by decide +kernel
theorem d_Model_words_4 : decode b_Model_words 4 = .ok (.lcmp, 1) := by decide +kernel
theorem d_Model_words_5 : decode b_Model_words 5 = .ok (.ifCond .ne 9, 3) := by decide +kernel
theorem d_Model_words_8 : decode b_Model_words 8 = .ok (.aload_n 0, 1) := by decide +kernel
theorem d_Model_words_9 : decode b_Model_words 9 = .ok (.bipush (-2), 2) := by decide +kernel
theorem d_Model_words_11 : decode b_Model_words 11 = .ok (.invokevirtual 218, 3) := by decide +kernel
theorem d_Model_words_14 : decode b_Model_words 14 = .ok (.lload_n 2, 1) := by decide +kernel
theorem d_Model_words_15 : decode b_Model_words 15 = .ok (.ldc2_w 186, 3) := by decide +kernel
theorem d_Model_words_18 : decode b_Model_words 18 = .ok (.lcmp, 1) := by decide +kernel
theorem d_Model_words_19 : decode b_Model_words 19 = .ok (.ifCond .ne 9, 3) := by decide +kernel
theorem d_Model_words_22 : decode b_Model_words 22 = .ok (.aload_n 0, 1) := by decide +kernel
theorem d_Model_words_23 : decode b_Model_words 23 = .ok (.bipush (-4), 2) := by decide +kernel
theorem d_Model_words_25 : decode b_Model_words 25 = .ok (.invokevirtual 218, 3) := by decide +kernel
theorem d_Model_words_28 : decode b_Model_words 28 = .ok (.lload_n 2, 1) := by decide +kernel
theorem d_Model_words_29 : decode b_Model_words 29 = .ok (.ldc2_w 170, 3) := by decide +kernel
theorem d_Model_words_32 : decode b_Model_words 32 = .ok (.lcmp, 1) := by decide +kernel
theorem d_Model_words_33 : decode b_Model_words 33 = .ok (.ifCond .ne 8, 3) := by decide +kernel
theorem d_Model_words_36 : decode b_Model_words 36 = .ok (.aload_n 0, 1) := by decide +kernel
theorem d_Model_words_37 : decode b_Model_words 37 = .ok (.iconst (-1), 1) := by decide +kernel
theorem d_Model_words_38 : decode b_Model_words 38 = .ok (.invokevirtual 218, 3) := by decide +kernel
theorem d_Model_words_41 : decode b_Model_words 41 = .ok (.lload_n 2, 1) := by decide +kernel
theorem d_Model_words_42 : decode b_Model_words 42 = .ok (.ldc2_w 182, 3) := by decide +kernel
theorem d_Model_words_45 : decode b_Model_words 45 = .ok (.lcmp, 1) := by decide +kernel
theorem d_Model_words_46 : decode b_Model_words 46 = .ok (.ifCond .ne 12, 3) := by decide +kernel
theorem d_Model_words_49 : decode b_Model_words 49 = .ok (.aload_n 0, 1) := by decide +kernel
theorem d_Model_words_50 : decode b_Model_words 50 = .ok (.bipush (-2), 2) := by decide +kernel
theorem d_Model_words_52 : decode b_Model_words 52 = .ok (.bipush (-3), 2) := by decide +kernel
theorem d_Model_words_54 : decode b_Model_words 54 = .ok (.iload_n 1, 1) := by decide +kernel
theorem d_Model_words_55 : decode b_Model_words 55 = .ok (.invokevirtual 228, 3) := by decide +kernel
theorem d_Model_words_58 : decode b_Model_words 58 = .ok (.lload_n 2, 1) := by decide +kernel
theorem d_Model_words_59 : decode b_Model_words 59 = .ok (.ldc2_w 184, 3) := by decide +kernel
theorem d_Model_words_62 : decode b_Model_words 62 = .ok (.lcmp, 1) := by decide +kernel
theorem d_Model_words_63 : decode b_Model_words 63 = .ok (.ifCond .ne 11, 3) := by decide +kernel
theorem d_Model_words_66 : decode b_Model_words 66 = .ok (.aload_n 0, 1) := by decide +kernel
theorem d_Model_words_67 : decode b_Model_words 67 = .ok (.bipush (-3), 2) := by decide +kernel
theorem d_Model_words_69 : decode b_Model_words 69 = .ok (.iconst 0, 1) := by decide +kernel
theorem d_Model_words_70 : decode b_Model_words 70 = .ok (.iload_n 1, 1) := by decide +kernel
theorem d_Model_words_71 : decode b_Model_words 71 = .ok (.invokevirtual 228, 3) := by decide +kernel
theorem d_Model_words_74 : decode b_Model_words 74 = .ok (.lload_n 2, 1) := by decide +kernel
theorem d_Model_words_75 : decode b_Model_words 75 = .ok (.ldc2_w 176, 3) := by decide +kernel
theorem d_Model_words_78 : decode b_Model_words 78 = .ok (.lcmp, 1) := by decide +kernel
theorem d_Model_words_79 : decode b_Model_words 79 = .ok (.ifCond .ne 11, 3) := by decide +kernel
theorem d_Model_words_82 : decode b_Model_words 82 = .ok (.aload_n 0, 1) := by decide +kernel
theorem d_Model_words_83 : decode b_Model_words 83 = .ok (.bipush (-4), 2) := by decide +kernel
theorem d_Model_words_85 : decode b_Model_words 85 = .ok (.iconst 0, 1) := by decide +kernel
theorem d_Model_words_86 : decode b_Model_words 86 = .ok (.iload_n 1, 1) := by decide +kernel
theorem d_Model_words_87 : decode b_Model_words 87 = .ok (.invokevirtual 228, 3) := by decide +kernel
theorem d_Model_words_90 : decode b_Model_words 90 = .ok (.lload_n 2, 1) := by decide +kernel
theorem d_Model_words_91 : decode b_Model_words 91 = .ok (.ldc2_w 178, 3) := by decide +kernel
theorem d_Model_words_94 : decode b_Model_words 94 = .ok (.lcmp, 1) := by decide +kernel
theorem d_Model_words_95 : decode b_Model_words 95 = .ok (.ifCond .ne 10, 3) := by decide +kernel
theorem d_Model_words_98 : decode b_Model_words 98 = .ok (.aload_n 0, 1) := by decide +kernel
theorem d_Model_words_99 : decode b_Model_words 99 = .ok (.iconst (-1), 1) := by decide +kernel
theorem d_Model_words_100 : decode b_Model_words 100 = .ok (.iconst 0, 1) := by decide +kernel
theorem d_Model_words_101 : decode b_Model_words 101 = .ok (.iload_n 1, 1) := by decide +kernel
theorem d_Model_words_102 : decode b_Model_words 102 = .ok (.invokevirtual 228, 3) := by decide +kernel
theorem d_Model_words_105 : decode b_Model_words 105 = .ok (.return_, 1) := by decide +kernel
theorem d_Model_begins_0 : decode b_Model_begins 0 = .ok (.iload_n 1, 1) := by decide +kernel
theorem d_Model_begins_1 : decode b_Model_begins 1 = .ok (.ifCond .eq 74, 3) := by decide +kernel
theorem d_Model_begins_4 : decode b_Model_begins 4 = .ok (.aload_n 0, 1) := by decide +kernel
theorem d_Model_begins_5 : decode b_Model_begins 5 = .ok (.getfield 17, 3) := by decide +kernel
theorem d_Model_begins_8 : decode b_Model_begins 8 = .ok (.iload_n 1, 1) := by decide +kernel
theorem d_Model_begins_9 : decode b_Model_begins 9 = .ok (.iconst 1, 1) := by decide +kernel
theorem d_Model_begins_10 : decode b_Model_begins 10 = .ok (.isub, 1) := by decide +kernel
theorem d_Model_begins_11 : decode b_Model_begins 11 = .ok (.iaload, 1) := by decide +kernel
theorem d_Model_begins_12 : decode b_Model_begins 12 = .ok (.ifCond .ne 67, 3) := by decide +kernel
theorem d_Model_begins_15 : decode b_Model_begins 15 = .ok (.aload_n 0, 1) := by decide +kernel
theorem d_Model_begins_16 : decode b_Model_begins 16 = .ok (.getfield 20, 3) := by decide +kernel
theorem d_Model_begins_19 : decode b_Model_begins 19 = .ok (.iload_n 1, 1) := by decide +kernel
theorem d_Model_begins_20 : decode b_Model_begins 20 = .ok (.iconst 1, 1) := by decide +kernel
theorem d_Model_begins_21 : decode b_Model_begins 21 = .ok (.isub, 1) := by decide +kernel
theorem d_Model_begins_22 : decode b_Model_begins 22 = .ok (.laload, 1) := by decide +kernel
theorem d_Model_begins_23 : decode b_Model_begins 23 = .ok (.ldc2_w 170, 3) := by decide +kernel
theorem d_Model_begins_26 : decode b_Model_begins 26 = .ok (.lcmp, 1) := by decide +kernel
theorem d_Model_begins_27 : decode b_Model_begins 27 = .ok (.ifCond .eq 48, 3) := by decide +kernel
theorem d_Model_begins_30 : decode b_Model_begins 30 = .ok (.aload_n 0, 1) := by decide +kernel
theorem d_Model_begins_31 : decode b_Model_begins 31 = .ok (.getfield 20, 3) := by decide +kernel
theorem d_Model_begins_34 : decode b_Model_begins 34 = .ok (.iload_n 1, 1) := by decide +kernel
theorem d_Model_begins_35 : decode b_Model_begins 35 = .ok (.iconst 1, 1) := by decide +kernel
theorem d_Model_begins_36 : decode b_Model_begins 36 = .ok (.isub, 1) := by decide +kernel
theorem d_Model_begins_37 : decode b_Model_begins 37 = .ok (.laload, 1) := by decide +kernel
theorem d_Model_begins_38 : decode b_Model_begins 38 = .ok (.ldc2_w 172, 3) := by decide +kernel
theorem d_Model_begins_41 : decode b_Model_begins 41 = .ok (.lcmp, 1) := by decide +kernel
theorem d_Model_begins_42 : decode b_Model_begins 42 = .ok (.ifCond .eq 33, 3) := by decide +kernel
theorem d_Model_begins_45 : decode b_Model_begins 45 = .ok (.aload_n 0, 1) := by decide +kernel
theorem d_Model_begins_46 : decode b_Model_begins 46 = .ok (.getfield 20, 3) := by decide +kernel
theorem d_Model_begins_49 : decode b_Model_begins 49 = .ok (.iload_n 1, 1) := by decide +kernel
theorem d_Model_begins_50 : decode b_Model_begins 50 = .ok (.iconst 1, 1) := by decide +kernel
theorem d_Model_begins_51 : decode b_Model_begins 51 = .ok (.isub, 1) := by decide +kernel
theorem d_Model_begins_52 : decode b_Model_begins 52 = .ok (.laload, 1) := by decide +kernel
theorem d_Model_begins_53 : decode b_Model_begins 53 = .ok (.ldc2_w 174, 3) := by decide +kernel
theorem d_Model_begins_56 : decode b_Model_begins 56 = .ok (.lcmp, 1) := by decide +kernel
theorem d_Model_begins_57 : decode b_Model_begins 57 = .ok (.ifCond .eq 18, 3) := by decide +kernel
theorem d_Model_begins_60 : decode b_Model_begins 60 = .ok (.aload_n 0, 1) := by decide +kernel
theorem d_Model_begins_61 : decode b_Model_begins 61 = .ok (.getfield 20, 3) := by decide +kernel
theorem d_Model_begins_64 : decode b_Model_begins 64 = .ok (.iload_n 1, 1) := by decide +kernel
theorem d_Model_begins_65 : decode b_Model_begins 65 = .ok (.iconst 1, 1) := by decide +kernel
theorem d_Model_begins_66 : decode b_Model_begins 66 = .ok (.isub, 1) := by decide +kernel
theorem d_Model_begins_67 : decode b_Model_begins 67 = .ok (.laload, 1) := by decide +kernel
theorem d_Model_begins_68 : decode b_Model_begins 68 = .ok (.ldc2_w 176, 3) := by decide +kernel
theorem d_Model_begins_71 : decode b_Model_begins 71 = .ok (.lcmp, 1) := by decide +kernel
theorem d_Model_begins_72 : decode b_Model_begins 72 = .ok (.ifCond .ne 7, 3) := by decide +kernel
theorem d_Model_begins_75 : decode b_Model_begins 75 = .ok (.iconst 1, 1) := by decide +kernel
theorem d_Model_begins_76 : decode b_Model_begins 76 = .ok (.goto 4, 3) := by decide +kernel
theorem d_Model_begins_79 : decode b_Model_begins 79 = .ok (.iconst 0, 1) := by decide +kernel
theorem d_Model_begins_80 : decode b_Model_begins 80 = .ok (.istore_n 2, 1) := by decide +kernel
theorem d_Model_begins_81 : decode b_Model_begins 81 = .ok (.iload_n 2, 1) := by decide +kernel
theorem d_Model_begins_82 : decode b_Model_begins 82 = .ok (.ifCond .eq 38, 3) := by decide +kernel
theorem d_Model_begins_85 : decode b_Model_begins 85 = .ok (.iload_n 1, 1) := by decide +kernel
theorem d_Model_begins_86 : decode b_Model_begins 86 = .ok (.aload_n 0, 1) := by decide +kernel
theorem d_Model_begins_87 : decode b_Model_begins 87 = .ok (.getfield 144, 3) := by decide +kernel
theorem d_Model_begins_90 : decode b_Model_begins 90 = .ok (.if_icmp .eq 26, 3) := by decide +kernel
theorem d_Model_begins_93 : decode b_Model_begins 93 = .ok (.aload_n 0, 1) := by decide +kernel
theorem d_Model_begins_94 : decode b_Model_begins 94 = .ok (.getfield 17, 3) := by decide +kernel
theorem d_Model_begins_97 : decode b_Model_begins 97 = .ok (.iload_n 1, 1) := by decide +kernel
theorem d_Model_begins_98 : decode b_Model_begins 98 = .ok (.iaload, 1) := by decide +kernel
theorem d_Model_begins_99 : decode b_Model_begins 99 = .ok (.iconst 3, 1) := by decide +kernel
theorem d_Model_begins_100 : decode b_Model_begins 100 = .ok (.if_icmp .ne 16, 3) := by decide +kernel
theorem d_Model_begins_103 : decode b_Model_begins 103 = .ok (.aload_n 0, 1) := by decide +kernel
theorem d_Model_begins_104 : decode b_Model_begins 104 = .ok (.getfield 20, 3) := by decide +kernel
theorem d_Model_begins_107 : decode b_Model_begins 107 = .ok (.iload_n 1, 1) := by decide +kernel
theorem d_Model_begins_108 : decode b_Model_begins 108 = .ok (.laload, 1) := by decide +kernel
theorem d_Model_begins_109 : decode b_Model_begins 109 = .ok (.ldc2_w 238, 3) := by decide +kernel
theorem d_Model_begins_112 : decode b_Model_begins 112 = .ok (.lcmp, 1) := by decide +kernel
theorem d_Model_begins_113 : decode b_Model_begins 113 = .ok (.ifCond .eq 7, 3) := by decide +kernel
theorem d_Model_begins_116 : decode b_Model_begins 116 = .ok (.iconst 1, 1) := by decide +kernel
theorem d_Model_begins_117 : decode b_Model_begins 117 = .ok (.goto 4, 3) := by decide +kernel
theorem d_Model_begins_120 : decode b_Model_begins 120 = .ok (.iconst 0, 1) := by decide +kernel
theorem d_Model_begins_121 : decode b_Model_begins 121 = .ok (.ireturn, 1) := by decide +kernel
theorem d_Model_begin_0 : decode b_Model_begin 0 = .ok (.iload_n 1, 1) := by decide +kernel
theorem d_Model_begin_1 : decode b_Model_begin 1 = .ok (.aload_n 0, 1) := by decide +kernel
theorem d_Model_begin_2 : decode b_Model_begin 2 = .ok (.getfield 144, 3) := by decide +kernel
theorem d_Model_begin_5 : decode b_Model_begin 5 = .ok (.if_icmp .ge 12, 3) := by decide +kernel
theorem d_Model_begin_8 : decode b_Model_begin 8 = .ok (.aload_n 0, 1) := by decide +kernel
theorem d_Model_begin_9 : decode b_Model_begin 9 = .ok (.getfield 27, 3) := by decide +kernel
theorem d_Model_begin_12 : decode b_Model_begin 12 = .ok (.iload_n 1, 1) := by decide +kernel
theorem d_Model_begin_13 : decode b_Model_begin 13 = .ok (.iaload, 1) := by decide +kernel
theorem d_Model_begin_14 : decode b_Model_begin 14 = .ok (.goto 4, 3) := by decide +kernel
theorem d_Model_begin_17 : decode b_Model_begin 17 = .ok (.iconst 0, 1) := by decide +kernel
theorem d_Model_begin_18 : decode b_Model_begin 18 = .ok (.istore_n 2, 1) := by decide +kernel
theorem d_Model_begin_19 : decode b_Model_begin 19 = .ok (.aload_n 0, 1) := by decide +kernel
theorem d_Model_begin_20 : decode b_Model_begin 20 = .ok (.getfield 191, 3) := by decide +kernel
theorem d_Model_begin_23 : decode b_Model_begin 23 = .ok (.iconst 1, 1) := by decide +kernel
theorem d_Model_begin_24 : decode b_Model_begin 24 = .ok (.isub, 1) := by decide +kernel
theorem d_Model_begin_25 : decode b_Model_begin 25 = .ok (.istore_n 3, 1) := by decide +kernel
theorem d_Model_begin_26 : decode b_Model_begin 26 = .ok (.iload_n 3, 1) := by decide +kernel
theorem d_Model_begin_27 : decode b_Model_begin 27 = .ok (.ifCond .lt 18, 3) := by decide +kernel
theorem d_Model_begin_30 : decode b_Model_begin 30 = .ok (.aload_n 0, 1) := by decide +kernel
theorem d_Model_begin_31 : decode b_Model_begin 31 = .ok (.getfield 34, 3) := by decide +kernel
theorem d_Model_begin_34 : decode b_Model_begin 34 = .ok (.iload_n 3, 1) := by decide +kernel
theorem d_Model_begin_35 : decode b_Model_begin 35 = .ok (.iaload, 1) := by decide +kernel
theorem d_Model_begin_36 : decode b_Model_begin 36 = .ok (.ifCond .ge 9, 3) := by decide +kernel
theorem d_Model_begin_39 : decode b_Model_begin 39 = .ok (.iinc 3 (-1), 3) := by decide +kernel
theorem d_Model_begin_42 : decode b_Model_begin 42 = .ok (.goto (-16), 3) := by decide +kernel
theorem d_Model_begin_45 : decode b_Model_begin 45 = .ok (.aload_n 0, 1) := by decide +kernel
theorem d_Model_begin_46 : decode b_Model_begin 46 = .ok (.iconst 4, 1) := by decide +kernel
theorem d_Model_begin_47 : decode b_Model_begin 47 = .ok (.ldc2_w 238, 3) := by decide +kernel
theorem d_Model_begin_50 : decode b_Model_begin 50 = .ok (.invokevirtual 208, 3) := by decide +kernel
theorem d_Model_begin_53 : decode b_Model_begin 53 = .ok (.aload_n 0, 1) := by decide +kernel
theorem d_Model_begin_54 : decode b_Model_begin 54 = .ok (.dup, 1) := by decide +kernel
theorem d_Model_begin_55 : decode b_Model_begin 55 = .ok (.getfield 240, 3) := by decide +kernel
theorem d_Model_begin_58 : decode b_Model_begin 58 = .ok (.iconst 1, 1) := by decide +kernel
theorem d_Model_begin_59 : decode b_Model_begin 59 = .ok (.iadd, 1) := by decide +kernel
theorem d_Model_begin_60 : decode b_Model_begin 60 = .ok (.putfield 240, 3) := by decide +kernel
theorem d_Model_begin_63 : decode b_Model_begin 63 = .ok (.iload_n 2, 1) := by decide +kernel
theorem d_Model_begin_64 : decode b_Model_begin 64 = .ok (.iload_n 3, 1) := by decide +kernel
theorem d_Model_begin_65 : decode b_Model_begin 65 = .ok (.ifCond .lt 12, 3) := by decide +kernel
theorem d_Model_begin_68 : decode b_Model_begin 68 = .ok (.aload_n 0, 1) := by decide +kernel
theorem d_Model_begin_69 : decode b_Model_begin 69 = .ok (.getfield 34, 3) := by decide +kernel
theorem d_Model_begin_72 : decode b_Model_begin 72 = .ok (.iload_n 3, 1) := by decide +kernel
theorem d_Model_begin_73 : decode b_Model_begin 73 = .ok (.iaload, 1) := by decide +kernel
theorem d_Model_begin_74 : decode b_Model_begin 74 = .ok (.goto 4, 3) := by decide +kernel
theorem d_Model_begin_77 : decode b_Model_begin 77 = .ok (.iconst 0, 1) := by decide +kernel
theorem d_Model_begin_78 : decode b_Model_begin 78 = .ok (.if_icmp .le 11, 3) := by decide +kernel
theorem d_Model_begin_81 : decode b_Model_begin 81 = .ok (.aload_n 0, 1) := by decide +kernel
theorem d_Model_begin_82 : decode b_Model_begin 82 = .ok (.iload_n 2, 1) := by decide +kernel
theorem d_Model_begin_83 : decode b_Model_begin 83 = .ok (.invokevirtual 218, 3) := by decide +kernel
theorem d_Model_begin_86 : decode b_Model_begin 86 = .ok (.goto 24, 3) := by decide +kernel
theorem d_Model_begin_89 : decode b_Model_begin 89 = .ok (.aload_n 0, 1) := by decide +kernel
theorem d_Model_begin_90 : decode b_Model_begin 90 = .ok (.iconst 4, 1) := by decide +kernel
theorem d_Model_begin_91 : decode b_Model_begin 91 = .ok (.ldc2_w 206, 3) := by decide +kernel
theorem d_Model_begin_94 : decode b_Model_begin 94 = .ok (.invokevirtual 208, 3) := by decide +kernel
theorem d_Model_begin_97 : decode b_Model_begin 97 = .ok (.iload_n 1, 1) := by decide +kernel
theorem d_Model_begin_98 : decode b_Model_begin 98 = .ok (.aload_n 0, 1) := by decide +kernel
theorem d_Model_begin_99 : decode b_Model_begin 99 = .ok (.getfield 144, 3) := by decide +kernel
theorem d_Model_begin_102 : decode b_Model_begin 102 = .ok (.if_icmp .ge 8, 3) := by decide +kernel
theorem d_Model_begin_105 : decode b_Model_begin 105 = .ok (.aload_n 0, 1) := by decide +kernel
theorem d_Model_begin_106 : decode b_Model_begin 106 = .ok (.iload_n 2, 1) := by decide +kernel
theorem d_Model_begin_107 : decode b_Model_begin 107 = .ok (.invokevirtual 243, 3) := by decide +kernel
theorem d_Model_begin_110 : decode b_Model_begin 110 = .ok (.return_, 1) := by decide +kernel
theorem d_Model_lay_0 : decode b_Model_lay 0 = .ok (.aload_n 0, 1) := by decide +kernel
theorem d_Model_lay_1 : decode b_Model_lay 1 = .ok (.iconst 0, 1) := by decide +kernel
theorem d_Model_lay_2 : decode b_Model_lay 2 = .ok (.putfield 191, 3) := by decide +kernel
theorem d_Model_lay_5 : decode b_Model_lay 5 = .ok (.aload_n 0, 1) := by decide +kernel
theorem d_Model_lay_6 : decode b_Model_lay 6 = .ok (.iconst 0, 1) := by decide +kernel
theorem d_Model_lay_7 : decode b_Model_lay 7 = .ok (.putfield 194, 3) := by decide +kernel
theorem d_Model_lay_10 : decode b_Model_lay 10 = .ok (.aload_n 0, 1) := by decide +kernel
theorem d_Model_lay_11 : decode b_Model_lay 11 = .ok (.iconst 0, 1) := by decide +kernel
theorem d_Model_lay_12 : decode b_Model_lay 12 = .ok (.putfield 188, 3) := by decide +kernel
theorem d_Model_lay_15 : decode b_Model_lay 15 = .ok (.aload_n 0, 1) := by decide +kernel
theorem d_Model_lay_16 : decode b_Model_lay 16 = .ok (.iconst 0, 1) := by decide +kernel
theorem d_Model_lay_17 : decode b_Model_lay 17 = .ok (.putfield 240, 3) := by decide +kernel
theorem d_Model_lay_20 : decode b_Model_lay 20 = .ok (.iconst 0, 1) := by decide +kernel
theorem d_Model_lay_21 : decode b_Model_lay 21 = .ok (.istore_n 1, 1) := by decide +kernel
theorem d_Model_lay_22 : decode b_Model_lay 22 = .ok (.iload_n 1, 1) := by decide +kernel
theorem d_Model_lay_23 : decode b_Model_lay 23 = .ok (.aload_n 0, 1) := by decide +kernel
theorem d_Model_lay_24 : decode b_Model_lay 24 = .ok (.getfield 144, 3) := by decide +kernel
theorem d_Model_lay_27 : decode b_Model_lay 27 = .ok (.if_icmp .ge 112, 3) := by decide +kernel
theorem d_Model_lay_30 : decode b_Model_lay 30 = .ok (.aload_n 0, 1) := by decide +kernel
theorem d_Model_lay_31 : decode b_Model_lay 31 = .ok (.getfield 123, 3) := by decide +kernel
theorem d_Model_lay_34 : decode b_Model_lay 34 = .ok (.ifCond .ne 105, 3) := by decide +kernel
theorem d_Model_lay_37 : decode b_Model_lay 37 = .ok (.aload_n 0, 1) := by decide +kernel
theorem d_Model_lay_38 : decode b_Model_lay 38 = .ok (.iload_n 1, 1) := by decide +kernel
theorem d_Model_lay_39 : decode b_Model_lay 39 = .ok (.invokevirtual 246, 3) := by decide +kernel
theorem d_Model_lay_42 : decode b_Model_lay 42 = .ok (.ifCond .eq 11, 3) := by decide +kernel
theorem d_Model_lay_45 : decode b_Model_lay 45 = .ok (.aload_n 0, 1) := by decide +kernel
theorem d_Model_lay_46 : decode b_Model_lay 46 = .ok (.iload_n 1, 1) := by decide +kernel
theorem d_Model_lay_47 : decode b_Model_lay 47 = .ok (.invokevirtual 249, 3) := by decide +kernel
theorem d_Model_lay_50 : decode b_Model_lay 50 = .ok (.goto 26, 3) := by decide +kernel
theorem d_Model_lay_53 : decode b_Model_lay 53 = .ok (.aload_n 0, 1) := by decide +kernel
