theorem d_Model_signs_86 : decode b_Model_signs 86 = .ok (.ldc2_w 206, 3) := by decide +kernel
theorem d_Model_signs_89 : decode b_Model_signs 89 = .ok (.lcmp, 1) := by decide +kernel
theorem d_Model_signs_90 : decode b_Model_signs 90 = .ok (.ifCond .ne 38, 3) := by decide +kernel
theorem d_Model_signs_93 : decode b_Model_signs 93 = .ok (.aload_n 0, 1) := by decide +kernel
theorem d_Model_signs_94 : decode b_Model_signs 94 = .ok (.invokevirtual 203, 3) := by decide +kernel
theorem d_Model_signs_97 : decode b_Model_signs 97 = .ok (.aload_n 0, 1) := by decide +kernel
theorem d_Model_signs_98 : decode b_Model_signs 98 = .ok (.invokevirtual 197, 3) := by decide +kernel
theorem d_Model_signs_101 : decode b_Model_signs 101 = .ok (.ifCond .eq 17, 3) := by decide +kernel
theorem d_Model_signs_104 : decode b_Model_signs 104 = .ok (.aload_n 0, 1) := by decide +kernel
theorem d_Model_signs_105 : decode b_Model_signs 105 = .ok (.iconst 1, 1) := by decide +kernel
theorem d_Model_signs_106 : decode b_Model_signs 106 = .ok (.aload_n 0, 1) := by decide +kernel
theorem d_Model_signs_107 : decode b_Model_signs 107 = .ok (.getfield 24, 3) := by decide +kernel
theorem d_Model_signs_110 : decode b_Model_signs 110 = .ok (.iload_n 1, 1) := by decide +kernel
theorem d_Model_signs_111 : decode b_Model_signs 111 = .ok (.iaload, 1) := by decide +kernel
theorem d_Model_signs_112 : decode b_Model_signs 112 = .ok (.invokevirtual 140, 3) := by decide +kernel
theorem d_Model_signs_115 : decode b_Model_signs 115 = .ok (.goto 13, 3) := by decide +kernel
theorem d_Model_signs_118 : decode b_Model_signs 118 = .ok (.aload_n 0, 1) := by decide +kernel
theorem d_Model_signs_119 : decode b_Model_signs 119 = .ok (.dup, 1) := by decide +kernel
theorem d_Model_signs_120 : decode b_Model_signs 120 = .ok (.getfield 191, 3) := by decide +kernel
theorem d_Model_signs_123 : decode b_Model_signs 123 = .ok (.iconst 1, 1) := by decide +kernel
theorem d_Model_signs_124 : decode b_Model_signs 124 = .ok (.isub, 1) := by decide +kernel
theorem d_Model_signs_125 : decode b_Model_signs 125 = .ok (.putfield 191, 3) := by decide +kernel
theorem d_Model_signs_128 : decode b_Model_signs 128 = .ok (.lload_n 2, 1) := by decide +kernel
theorem d_Model_signs_129 : decode b_Model_signs 129 = .ok (.ldc2_w 212, 3) := by decide +kernel
theorem d_Model_signs_132 : decode b_Model_signs 132 = .ok (.lcmp, 1) := by decide +kernel
theorem d_Model_signs_133 : decode b_Model_signs 133 = .ok (.ifCond .ne 7, 3) := by decide +kernel
theorem d_Model_signs_136 : decode b_Model_signs 136 = .ok (.aload_n 0, 1) := by decide +kernel
theorem d_Model_signs_137 : decode b_Model_signs 137 = .ok (.invokevirtual 203, 3) := by decide +kernel
theorem d_Model_signs_140 : decode b_Model_signs 140 = .ok (.return_, 1) := by decide +kernel
theorem d_Model_words_0 : decode b_Model_words 0 = .ok (.lload_n 2, 1) := by decide +kernel
theorem d_Model_words_1 : decode b_Model_words 1 = .ok (.ldc2_w 180, 3) := by decide +kernel
theorem d_Model_words_4 : decode b_Model_words 4 = .ok (.lcmp, 1) := by decide +kernel
theorem d_Model_words_5 : decode b_Model_words 5 = .ok (.ifCond .ne 9, 3) := by decide +kernel
theorem d_Model_words_8 : decode b_Model_words 8 = .ok (.aload_n 0, 1) := by decide +kernel
theorem d_Model_words_9 : decode b_Model_words 9 = .ok (.bipush (-2), 2) := by decide +kernel
theorem d_Model_words_11 : decode b_Model_words 11 = .ok (.invokevirtual 218, 3) := by decide +kernel
theorem d_Model_words_14 : decode b_Model_words 14 = .ok (.lload_n 2, 1) := by decide +kernel
theorem d_Model_words_15 : decode b_Model_words 15 = .ok (.ldc2_w 186, 3) := by decide +kernel
theorem d_Model_words_18 : decode b_Model_words 18 = .ok (.lcmp, 1) := by decide +kernel
theorem d_Model_words_19 : decode b_Model_words 19 = .ok (.ifCond .ne 9, 3) := by decide +kernel
theorem d_Model_words_22 : decode b_Model_words 22 = .ok (.aload_n 0, 1) := by decide +kernel
theorem d_Model_words_23 : decode b_Model_words 23 = .ok (.bipush (-4), 2) := by decide +kernel
theorem d_Model_words_25 : decode b_Model_words 25 = .ok (.invokevirtual 218, 3) := by decide +kernel
theorem d_Model_words_28 : decode b_Model_words 28 = .ok (.lload_n 2, 1) := by decide +kernel
theorem d_Model_words_29 : decode b_Model_words 29 = .ok (.ldc2_w 170, 3) := by decide +kernel
theorem d_Model_words_32 : decode b_Model_words 32 = .ok (.lcmp, 1) := by decide +kernel
theorem d_Model_words_33 : decode b_Model_words 33 = .ok (.ifCond .ne 8, 3) := by decide +kernel
theorem d_Model_words_36 : decode b_Model_words 36 = .ok (.aload_n 0, 1) := by decide +kernel
theorem d_Model_words_37 : decode b_Model_words 37 = .ok (.iconst (-1), 1) := by decide +kernel
theorem d_Model_words_38 : decode b_Model_words 38 = .ok (.invokevirtual 218, 3) := by decide +kernel
theorem d_Model_words_41 : decode b_Model_words 41 = .ok (.lload_n 2, 1) := by decide +kernel
theorem d_Model_words_42 : decode b_Model_words 42 = .ok (.ldc2_w 182, 3) := by decide +kernel
theorem d_Model_words_45 : decode b_Model_words 45 = .ok (.lcmp, 1) := by decide +kernel
theorem d_Model_words_46 : decode b_Model_words 46 = .ok (.ifCond .ne 12, 3) := by decide +kernel
theorem d_Model_words_49 : decode b_Model_words 49 = .ok (.aload_n 0, 1) := by decide +kernel
theorem d_Model_words_50 : decode b_Model_words 50 = .ok (.bipush (-2), 2) := by decide +kernel
theorem d_Model_words_52 : decode b_Model_words 52 = .ok (.bipush (-3), 2) := by decide +kernel
theorem d_Model_words_54 : decode b_Model_words 54 = .ok (.iload_n 1, 1) := by decide +kernel
theorem d_Model_words_55 : decode b_Model_words 55 = .ok (.invokevirtual 228, 3) := by decide +kernel
theorem d_Model_words_58 : decode b_Model_words 58 = .ok (.lload_n 2, 1) := by decide +kernel
theorem d_Model_words_59 : decode b_Model_words 59 = .ok (.ldc2_w 184, 3) := by decide +kernel
theorem d_Model_words_62 : decode b_Model_words 62 = .ok (.lcmp, 1) := by decide +kernel
theorem d_Model_words_63 : decode b_Model_words 63 = .ok (.ifCond .ne 11, 3) := by decide +kernel
theorem d_Model_words_66 : decode b_Model_words 66 = .ok (.aload_n 0, 1) := by decide +kernel
theorem d_Model_words_67 : decode b_Model_words 67 = .ok (.bipush (-3), 2) := by decide +kernel
theorem d_Model_words_69 : decode b_Model_words 69 = .ok (.iconst 0, 1) := by decide +kernel
theorem d_Model_words_70 : decode b_Model_words 70 = .ok (.iload_n 1, 1) := by decide +kernel
theorem d_Model_words_71 : decode b_Model_words 71 = .ok (.invokevirtual 228, 3) := by decide +kernel
theorem d_Model_words_74 : decode b_Model_words 74 = .ok (.lload_n 2, 1) := by decide +kernel
theorem d_Model_words_75 : decode b_Model_words 75 = .ok (.ldc2_w 176, 3) := by decide +kernel
theorem d_Model_words_78 : decode b_Model_words 78 = .ok (.lcmp, 1) := by decide +kernel
theorem d_Model_words_79 : decode b_Model_words 79 = .ok (.ifCond .ne 11, 3) := by decide +kernel
theorem d_Model_words_82 : decode b_Model_words 82 = .ok (.aload_n 0, 1) := by decide +kernel
theorem d_Model_words_83 : decode b_Model_words 83 = .ok (.bipush (-4), 2) := by decide +kernel
theorem d_Model_words_85 : decode b_Model_words 85 = .ok (.iconst 0, 1) := by decide +kernel
theorem d_Model_words_86 : decode b_Model_words 86 = .ok (.iload_n 1, 1) := by decide +kernel
theorem d_Model_words_87 : decode b_Model_words 87 = .ok (.invokevirtual 228, 3) := by decide +kernel
theorem d_Model_words_90 : decode b_Model_words 90 = .ok (.lload_n 2, 1) := by decide +kernel
theorem d_Model_words_91 : decode b_Model_words 91 = .ok (.ldc2_w 178, 3) := by decide +kernel
theorem d_Model_words_94 : decode b_Model_words 94 = .ok (.lcmp, 1) := by decide +kernel
theorem d_Model_words_95 : decode b_Model_words 95 = .ok (.ifCond .ne 10, 3) := by decide +kernel
theorem d_Model_words_98 : decode b_Model_words 98 = .ok (.aload_n 0, 1) := by decide +kernel
theorem d_Model_words_99 : decode b_Model_words 99 = .ok (.iconst (-1), 1) := by decide +kernel
theorem d_Model_words_100 : decode b_Model_words 100 = .ok (.iconst 0, 1) := by decide +kernel
theorem d_Model_words_101 : decode b_Model_words 101 = .ok (.iload_n 1, 1) := by decide +kernel
theorem d_Model_words_102 : decode b_Model_words 102 = .ok (.invokevirtual 228, 3) := by decide +kernel
theorem d_Model_words_105 : decode b_Model_words 105 = .ok (.return_, 1) := by decide +kernel
theorem d_Model_begins_0 : decode b_Model_begins 0 = .ok (.iload_n 1, 1) := by decide +kernel
theorem d_Model_begins_1 : decode b_Model_begins 1 = .ok (.ifCond .eq 74, 3) := by decide +kernel
theorem d_Model_begins_4 : decode b_Model_begins 4 = .ok (.aload_n 0, 1) := by decide +kernel
theorem d_Model_begins_5 : decode b_Model_begins 5 = .ok (.getfield 17, 3) := by decide +kernel
theorem d_Model_begins_8 : decode b_Model_begins 8 = .ok (.iload_n 1, 1) := by decide +kernel
theorem d_Model_begins_9 : decode b_Model_begins 9 = .ok (.iconst 1, 1) := by decide +kernel
theorem d_Model_begins_10 : decode b_Model_begins 10 = .ok (.isub, 1) := by decide +kernel
theorem d_Model_begins_11 : decode b_Model_begins 11 = .ok (.iaload, 1) := by decide +kernel
theorem d_Model_begins_12 : decode b_Model_begins 12 = .ok (.ifCond .ne 67, 3) := by decide +kernel
theorem d_Model_begins_15 : decode b_Model_begins 15 = .ok (.aload_n 0, 1) := by decide +kernel
theorem d_Model_begins_16 : decode b_Model_begins 16 = .ok (.getfield 20, 3) := by decide +kernel
theorem d_Model_begins_19 : decode b_Model_begins 19 = .ok (.iload_n 1, 1) := by decide +kernel
theorem d_Model_begins_20 : decode b_Model_begins 20 = .ok (.iconst 1, 1) := by decide +kernel
theorem d_Model_begins_21 : decode b_Model_begins 21 = .ok (.isub, 1) := by decide +kernel
theorem d_Model_begins_22 : decode b_Model_begins 22 = .ok (.laload, 1) := by decide +kernel
theorem d_Model_begins_23 : decode b_Model_begins 23 = .ok (.ldc2_w 170, 3) := by decide +kernel
theorem d_Model_begins_26 : decode b_Model_begins 26 = .ok (.lcmp, 1) := by decide +kernel
theorem d_Model_begins_27 : decode b_Model_begins 27 = .ok (.ifCond .eq 48, 3) := by decide +kernel
theorem d_Model_begins_30 : decode b_Model_begins 30 = .ok (.aload_n 0, 1) := by decide +kernel
theorem d_Model_begins_31 : decode b_Model_begins 31 = .ok (.getfield 20, 3) := by decide +kernel
theorem d_Model_begins_34 : decode b_Model_begins 34 = .ok (.iload_n 1, 1) := by decide +kernel
theorem d_Model_begins_35 : decode b_Model_begins 35 = .ok (.iconst 1, 1) := by decide +kernel
theorem d_Model_begins_36 : decode b_Model_begins 36 = .ok (.isub, 1) := by decide +kernel
theorem d_Model_begins_37 : decode b_Model_begins 37 = .ok (.laload, 1) := by decide +kernel
theorem d_Model_begins_38 : decode b_Model_begins 38 = .ok (.ldc2_w 172, 3) := by decide +kernel
theorem d_Model_begins_41 : decode b_Model_begins 41 = .ok (.lcmp, 1) := by decide +kernel
theorem d_Model_begins_42 : decode b_Model_begins 42 = .ok (.ifCond .eq 33, 3) := by decide +kernel
theorem d_Model_begins_45 : decode b_Model_begins 45 = .ok (.aload_n 0, 1) := by decide +kernel
theorem d_Model_begins_46 : decode b_Model_begins 46 = .ok (.getfield 20, 3) := by decide +kernel
theorem d_Model_begins_49 : decode b_Model_begins 49 = .ok (.iload_n 1, 1) := by decide +kernel
theorem d_Model_begins_50 : decode b_Model_begins 50 = .ok (.iconst 1, 1) := by decide +kernel
theorem d_Model_begins_51 : decode b_Model_begins 51 = .ok (.isub, 1) := by decide +kernel
theorem d_Model_begins_52 : decode b_Model_begins 52 = .ok (.laload, 1) := by decide +kernel
theorem d_Model_begins_53 : decode b_Model_begins 53 = .ok (.ldc2_w 174, 3) := by decide +kernel
theorem d_Model_begins_56 : decode b_Model_begins 56 = .ok (.lcmp, 1) := by decide +kernel
theorem d_Model_begins_57 : decode b_Model_begins 57 = .ok (.ifCond .eq 18, 3) := by decide +kernel
theorem d_Model_begins_60 : decode b_Model_begins 60 = .ok (.aload_n 0, 1) := by decide +kernel
theorem d_Model_begins_61 : decode b_Model_begins 61 = .ok (.getfield 20, 3) := by decide +kernel
theorem d_Model_begins_64 : decode b_Model_begins 64 = .ok (.iload_n 1, 1) := by decide +kernel
theorem d_Model_begins_65 : decode b_Model_begins 65 = .ok (.iconst 1, 1) := by decide +kernel
theorem d_Model_begins_66 : decode b_Model_begins 66 = .ok (.isub, 1) := by decide +kernel
theorem d_Model_begins_67 : decode b_Model_begins 67 = .ok (.laload, 1) := by decide +kernel
theorem d_Model_begins_68 : decode b_Model_begins 68 = .ok (.ldc2_w 176, 3) := by decide +kernel
theorem d_Model_begins_71 : decode b_Model_begins 71 = .ok (.lcmp, 1) := by decide +kernel
theorem d_Model_begins_72 : decode b_Model_begins 72 = .ok (.ifCond .ne 7, 3) := by decide +kernel
theorem d_Model_begins_75 : decode b_Model_begins 75 = .ok (.iconst 1, 1) := by decide +kernel
theorem d_Model_begins_76 : decode b_Model_begins 76 = .ok (.goto 4, 3) := by decide +kernel
theorem d_Model_begins_79 : decode b_Model_begins 79 = .ok (.iconst 0, 1) := by decide +kernel
theorem d_Model_begins_80 : decode b_Model_begins 80 = .ok (.istore_n 2, 1) := by decide +kernel
theorem d_Model_begins_81 : decode b_Model_begins 81 = .ok (.iload_n 2, 1) := by decide +kernel
theorem d_Model_begins_82 : decode b_Model_begins 82 = .ok (.ifCond .eq 38, 3) := by decide +kernel
theorem d_Model_begins_85 : decode b_Model_begins 85 = .ok (.iload_n 1, 1) := by decide +kernel
theorem d_Model_begins_86 : decode b_Model_begins 86 = .ok (.aload_n 0, 1) := by decide +kernel
theorem d_Model_begins_87 : decode b_Model_begins 87 = .ok (.getfield 144, 3) := by decide +kernel
theorem d_Model_begins_90 : decode b_Model_begins 90 = .ok (.if_icmp .eq 26, 3) := by decide +kernel
theorem d_Model_begins_93 : decode b_Model_begins 93 = .ok (.aload_n 0, 1) := by decide +kernel
theorem d_Model_begins_94 : decode b_Model_begins 94 = .ok (.getfield 17, 3) := by decide +kernel
theorem d_Model_begins_97 : decode b_Model_begins 97 = .ok (.iload_n 1, 1) := by decide +kernel
theorem d_Model_begins_98 : decode b_Model_begins 98 = .ok (.iaload, 1) := by decide +kernel
theorem d_Model_begins_99 : decode b_Model_begins 99 = .ok (.iconst 3, 1) := by decide +kernel
theorem d_Model_begins_100 : decode b_Model_begins 100 = .ok (.if_icmp .ne 16, 3) := by decide +kernel
theorem d_Model_begins_103 : decode b_Model_begins 103 = .ok (.aload_n 0, 1) := by decide +kernel
theorem d_Model_begins_104 : decode b_Model_begins 104 = .ok (.getfield 20, 3) := by decide +kernel
theorem d_Model_begins_107 : decode b_Model_begins 107 = .ok (.iload_n 1, 1) := by decide +kernel
theorem d_Model_begins_108 : decode b_Model_begins 108 = .ok (.laload, 1) := by decide +kernel
theorem d_Model_begins_109 : decode b_Model_begins 109 = .ok (.ldc2_w 238, 3) := by decide +kernel
theorem d_Model_begins_112 : decode b_Model_begins 112 = .ok (.lcmp, 1) := by decide +kernel
theorem d_Model_begins_113 : decode b_Model_begins 113 = .ok (.ifCond .eq 7, 3) := by decide +kernel
theorem d_Model_begins_116 : decode b_Model_begins 116 = .ok (.iconst 1, 1) := by decide +kernel
theorem d_Model_begins_117 : decode b_Model_begins 117 = .ok (.goto 4, 3) := by decide +kernel
theorem d_Model_begins_120 : decode b_Model_begins 120 = .ok (.iconst 0, 1) := by decide +kernel
theorem d_Model_begins_121 : decode b_Model_begins 121 = .ok (.ireturn, 1) := by decide +kernel
theorem d_Model_begin_0 : decode b_Model_begin 0 = .ok (.iload_n 1, 1) := by decide +kernel
theorem d_Model_begin_1 : decode b_Model_begin 1 = .ok (.aload_n 0, 1) := by decide +kernel
theorem d_Model_begin_2 : decode b_Model_begin 2 = .ok (.getfield 144, 3) := by decide +kernel
theorem d_Model_begin_5 : decode b_Model_begin 5 = .ok (.if_icmp .ge 12, 3) := by decide +kernel
theorem d_Model_begin_8 : decode b_Model_begin 8 = .ok (.aload_n 0, 1) := by decide +kernel
theorem d_Model_begin_9 : decode b_Model_begin 9 = .ok (.getfield 27, 3) := by decide +kernel
theorem d_Model_begin_12 : decode b_Model_begin 12 = .ok (.iload_n 1, 1) := by decide +kernel
theorem d_Model_begin_13 : decode b_Model_begin 13 = .ok (.iaload, 1) := by decide +kernel
theorem d_Model_begin_14 : decode b_Model_begin 14 = .ok (.goto 4, 3) := by decide +kernel
theorem d_Model_begin_17 : decode b_Model_begin 17 = .ok (.iconst 0, 1) := by decide +kernel
theorem d_Model_begin_18 : decode b_Model_begin 18 = .ok (.istore_n 2, 1) := by decide +kernel
theorem d_Model_begin_19 : decode b_Model_begin 19 = .ok (.aload_n 0, 1) := by decide +kernel
theorem d_Model_begin_20 : decode b_Model_begin 20 = .ok (.getfield 191, 3) := by decide +kernel
theorem d_Model_begin_23 : decode b_Model_begin 23 = .ok (.iconst 1, 1) := by decide +kernel
theorem d_Model_begin_24 : decode b_Model_begin 24 = .ok (.isub, 1) := by decide +kernel
theorem d_Model_begin_25 : decode b_Model_begin 25 = .ok (.istore_n 3, 1) := by decide +kernel
theorem d_Model_begin_26 : decode b_Model_begin 26 = .ok (.iload_n 3, 1) := by decide +kernel
theorem d_Model_begin_27 : decode b_Model_begin 27 = .ok (.ifCond .lt 18, 3) := by decide +kernel
theorem d_Model_begin_30 : decode b_Model_begin 30 = .ok (.aload_n 0, 1) := by decide +kernel
theorem d_Model_begin_31 : decode b_Model_begin 31 = .ok (.getfield 34, 3) := by decide +kernel
theorem d_Model_begin_34 : decode b_Model_begin 34 = .ok (.iload_n 3, 1) := by decide +kernel
theorem d_Model_begin_35 : decode b_Model_begin 35 = .ok (.iaload, 1) := by decide +kernel
theorem d_Model_begin_36 : decode b_Model_begin 36 = .ok (.ifCond .ge 9, 3) := by decide +kernel
theorem d_Model_begin_39 : decode b_Model_begin 39 = .ok (.iinc 3 (-1), 3) := by decide +kernel
theorem d_Model_begin_42 : decode b_Model_begin 42 = .ok (.goto (-16), 3) := by decide +kernel
theorem d_Model_begin_45 : decode b_Model_begin 45 = .ok (.aload_n 0, 1) := by decide +kernel
theorem d_Model_begin_46 : decode b_Model_begin 46 = .ok (.iconst 4, 1) := by decide +kernel
theorem d_Model_begin_47 : decode b_Model_begin 47 = .ok (.ldc2_w 238, 3) := by decide +kernel
theorem d_Model_begin_50 : decode b_Model_begin 50 = .ok (.invokevirtual 208, 3) := by decide +kernel
theorem d_Model_begin_53 : decode b_Model_begin 53 = .ok (.aload_n 0, 1) := by decide +kernel
theorem d_Model_begin_54 : decode b_Model_begin 54 = .ok (.dup, 1) := by decide +kernel
theorem d_Model_begin_55 : decode b_Model_begin 55 = .ok (.getfield 240, 3) := by decide +kernel
theorem d_Model_begin_58 : decode b_Model_begin 58 = .ok (.iconst 1, 1) := by decide +kernel
theorem d_Model_begin_59 : decode b_Model_begin 59 = .ok (.iadd, 1) := by decide +kernel
theorem d_Model_begin_60 : decode b_Model_begin 60 = .ok (.putfield 240, 3) := by decide +kernel
theorem d_Model_begin_63 : decode b_Model_begin 63 = .ok (.iload_n 2, 1) := by decide +kernel
theorem d_Model_begin_64 : decode b_Model_begin 64 = .ok (.iload_n 3, 1) := by decide +kernel
theorem d_Model_begin_65 : decode b_Model_begin 65 = .ok (.ifCond .lt 12, 3) := by decide +kernel
theorem d_Model_begin_68 : decode b_Model_begin 68 = .ok (.aload_n 0, 1) := by decide +kernel
theorem d_Model_begin_69 : decode b_Model_begin 69 = .ok (.getfield 34, 3) := by decide +kernel
theorem d_Model_begin_72 : decode b_Model_begin 72 = .ok (.iload_n 3, 1) := by decide +kernel
theorem d_Model_begin_73 : decode b_Model_begin 73 = .ok (.iaload, 1) := by decide +kernel
theorem d_Model_begin_74 : decode b_Model_begin 74 = .ok (.goto 4, 3) := by decide +kernel
theorem d_Model_begin_77 : decode b_Model_begin 77 = .ok (.iconst 0, 1) := by decide +kernel
theorem d_Model_begin_78 : decode b_Model_begin 78 = .ok (.if_icmp .le 11, 3) := by decide +kernel
theorem d_Model_begin_81 : decode b_Model_begin 81 = .ok (.aload_n 0, 1) := by decide +kernel
theorem d_Model_begin_82 : decode b_Model_begin 82 = .ok (.iload_n 2, 1) := by decide +kernel
theorem d_Model_begin_83 : decode b_Model_begin 83 = .ok (.invokevirtual 218, 3) := by decide +kernel
theorem d_Model_begin_86 : decode b_Model_begin 86 = .ok (.goto 24, 3) := by decide +kernel
theorem d_Model_begin_89 : decode b_Model_begin 89 = .ok (.aload_n 0, 1) := by decide +kernel
theorem d_Model_begin_90 : decode b_Model_begin 90 = .ok (.iconst 4, 1) := by decide +kernel
theorem d_Model_begin_91 : decode b_Model_begin 91 = .ok (.ldc2_w 206, 3) := by decide +kernel
theorem d_Model_begin_94 : decode b_Model_begin 94 = .ok (.invokevirtual 208, 3) := by decide +kernel
theorem d_Model_begin_97 : decode b_Model_begin 97 = .ok (.iload_n 1, 1) := by decide +kernel
theorem d_Model_begin_98 : decode b_Model_begin 98 = .ok (.aload_n 0, 1) := by decide +kernel
theorem d_Model_begin_99 : decode b_Model_begin 99 = .ok (.getfield 144, 3) := by decide +kernel
theorem d_Model_begin_102 : decode b_Model_begin 102 = .ok (.if_icmp .ge 8, 3) := by decide +kernel
theorem d_Model_begin_105 : decode b_Model_begin 105 = .ok (.aload_n 0, 1) := by decide +kernel
theorem d_Model_begin_106 : decode b_Model_begin 106 = .ok (.iload_n 2, 1) := by decide +kernel
theorem d_Model_begin_107 : decode b_Model_begin 107 = .ok (.invokevirtual 243, 3) := by decide +kernel
theorem d_Model_begin_110 : decode b_Model_begin 110 = .ok (.return_, 1) := by decide +kernel
theorem d_Model_lay_0 : decode b_Model_lay 0 = .ok (.aload_n 0, 1) := by decide +kernel
theorem d_Model_lay_1 : decode b_Model_lay 1 = .ok (.iconst 0, 1) := by decide +kernel
theorem d_Model_lay_2 : decode b_Model_lay 2 = .ok (.putfield 191, 3) := by decide +kernel
theorem d_Model_lay_5 : decode b_Model_lay 5 = .ok (.aload_n 0, 1) := by decide +kernel
theorem d_Model_lay_6 : decode b_Model_lay 6 = .ok (.iconst 0, 1) := by decide +kernel
theorem d_Model_lay_7 : decode b_Model_lay 7 = .ok (.putfield 194, 3) := by decide +kernel
theorem d_Model_lay_10 : decode b_Model_lay 10 = .ok (.aload_n 0, 1) := by decide +kernel
theorem d_Model_lay_11 : decode b_Model_lay 11 = .ok (.iconst 0, 1) := by decide +kernel
theorem d_Model_lay_12 : decode b_Model_lay 12 = .ok (.putfield 188, 3) := by decide +kernel
theorem d_Model_lay_15 : decode b_Model_lay 15 = .ok (.aload_n 0, 1) := by decide +kernel
theorem d_Model_lay_16 : decode b_Model_lay 16 = .ok (.iconst 0, 1) := by decide +kernel
theorem d_Model_lay_17 : decode b_Model_lay 17 = .ok (.putfield 240, 3) := by decide +kernel
theorem d_Model_lay_20 : decode b_Model_lay 20 = .ok (.iconst 0, 1) := by decide +kernel
theorem d_Model_lay_21 : decode b_Model_lay 21 = .ok (.istore_n 1, 1) := by decide +kernel
theorem d_Model_lay_22 : decode b_Model_lay 22 = .ok (.iload_n 1, 1) := by decide +kernel
theorem d_Model_lay_23 : decode b_Model_lay 23 = .ok (.aload_n 0, 1) := by decide +kernel
theorem d_Model_lay_24 : decode b_Model_lay 24 = .ok (.getfield 144, 3) := by decide +kernel
theorem d_Model_lay_27 : decode b_Model_lay 27 = .ok (.if_icmp .ge 112, 3) := by decide +kernel
theorem d_Model_lay_30 : decode b_Model_lay 30 = .ok (.aload_n 0, 1) := by decide +kernel
theorem d_Model_lay_31 : decode b_Model_lay 31 = .ok (.getfield 123, 3) := by decide +kernel
theorem d_Model_lay_34 : decode b_Model_lay 34 = .ok (.ifCond .ne 105, 3) := by decide +kernel
theorem d_Model_lay_37 : decode b_Model_lay 37 = .ok (.aload_n 0, 1) := by decide +kernel
theorem d_Model_lay_38 : decode b_Model_lay 38 = .ok (.iload_n 1, 1) := by decide +kernel
theorem d_Model_lay_39 : decode b_Model_lay 39 = .ok (.invokevirtual 246, 3) := by decide +kernel
theorem d_Model_lay_42 : decode b_Model_lay 42 = .ok (.ifCond .eq 11, 3) := by decide +kernel
theorem d_Model_lay_45 : decode b_Model_lay 45 = .ok (.aload_n 0, 1) := by decide +kernel
theorem d_Model_lay_46 : decode b_Model_lay 46 = .ok (.iload_n 1, 1) := by decide +kernel
theorem d_Model_lay_47 : decode b_Model_lay 47 = .ok (.invokevirtual 249, 3) := by decide +kernel
theorem d_Model_lay_50 : decode b_Model_lay 50 = .ok (.goto 26, 3) := by decide +kernel
theorem d_Model_lay_53 : decode b_Model_lay 53 = .ok (.aload_n 0, 1) := by decide +kernel
theorem d_Model_lay_54 : decode b_Model_lay 54 = .ok (.getfield 30, 3) := by decide +kernel
theorem d_Model_lay_57 : decode b_Model_lay 57 = .ok (.iload_n 1, 1) := by decide +kernel
theorem d_Model_lay_58 : decode b_Model_lay 58 = .ok (.baload, 1) := by decide +kernel
theorem d_Model_lay_59 : decode b_Model_lay 59 = .ok (.ifCond .eq 17, 3) := by decide +kernel
theorem d_Model_lay_62 : decode b_Model_lay 62 = .ok (.iload_n 1, 1) := by decide +kernel
theorem d_Model_lay_63 : decode b_Model_lay 63 = .ok (.ifCond .le 13, 3) := by decide +kernel
theorem d_Model_lay_66 : decode b_Model_lay 66 = .ok (.aload_n 0, 1) := by decide +kernel
theorem d_Model_lay_67 : decode b_Model_lay 67 = .ok (.aload_n 0, 1) := by decide +kernel
theorem d_Model_lay_68 : decode b_Model_lay 68 = .ok (.getfield 27, 3) := by decide +kernel
theorem d_Model_lay_71 : decode b_Model_lay 71 = .ok (.iload_n 1, 1) := by decide +kernel
theorem d_Model_lay_72 : decode b_Model_lay 72 = .ok (.iaload, 1) := by decide +kernel
theorem d_Model_lay_73 : decode b_Model_lay 73 = .ok (.invokevirtual 243, 3) := by decide +kernel
theorem d_Model_lay_76 : decode b_Model_lay 76 = .ok (.aload_n 0, 1) := by decide +kernel
theorem d_Model_lay_77 : decode b_Model_lay 77 = .ok (.getfield 17, 3) := by decide +kernel
theorem d_Model_lay_80 : decode b_Model_lay 80 = .ok (.iload_n 1, 1) := by decide +kernel
theorem d_Model_lay_81 : decode b_Model_lay 81 = .ok (.iaload, 1) := by decide +kernel
theorem d_Model_lay_82 : decode b_Model_lay 82 = .ok (.iconst 3, 1) := by decide +kernel
theorem d_Model_lay_83 : decode b_Model_lay 83 = .ok (.if_icmp .ne 14, 3) := by decide +kernel
theorem d_Model_lay_86 : decode b_Model_lay 86 = .ok (.aload_n 0, 1) := by decide +kernel
theorem d_Model_lay_87 : decode b_Model_lay 87 = .ok (.iload_n 1, 1) := by decide +kernel
theorem d_Model_lay_88 : decode b_Model_lay 88 = .ok (.aload_n 0, 1) := by decide +kernel
theorem d_Model_lay_89 : decode b_Model_lay 89 = .ok (.getfield 20, 3) := by decide +kernel
theorem d_Model_lay_92 : decode b_Model_lay 92 = .ok (.iload_n 1, 1) := by decide +kernel
theorem d_Model_lay_93 : decode b_Model_lay 93 = .ok (.laload, 1) := by decide +kernel
theorem d_Model_lay_94 : decode b_Model_lay 94 = .ok (.invokevirtual 252, 3) := by decide +kernel
theorem d_Model_lay_97 : decode b_Model_lay 97 = .ok (.aload_n 0, 1) := by decide +kernel
theorem d_Model_lay_98 : decode b_Model_lay 98 = .ok (.getfield 17, 3) := by decide +kernel
theorem d_Model_lay_101 : decode b_Model_lay 101 = .ok (.iload_n 1, 1) := by decide +kernel
theorem d_Model_lay_102 : decode b_Model_lay 102 = .ok (.iaload, 1) := by decide +kernel
theorem d_Model_lay_103 : decode b_Model_lay 103 = .ok (.ifCond .ne 14, 3) := by decide +kernel
theorem d_Model_lay_106 : decode b_Model_lay 106 = .ok (.aload_n 0, 1) := by decide +kernel
theorem d_Model_lay_107 : decode b_Model_lay 107 = .ok (.iload_n 1, 1) := by decide +kernel
theorem d_Model_lay_108 : decode b_Model_lay 108 = .ok (.aload_n 0, 1) := by decide +kernel
theorem d_Model_lay_109 : decode b_Model_lay 109 = .ok (.getfield 20, 3) := by decide +kernel
theorem d_Model_lay_112 : decode b_Model_lay 112 = .ok (.iload_n 1, 1) := by decide +kernel
theorem d_Model_lay_113 : decode b_Model_lay 113 = .ok (.laload, 1) := by decide +kernel
theorem d_Model_lay_114 : decode b_Model_lay 114 = .ok (.invokevirtual 255, 3) := by decide +kernel
theorem d_Model_lay_117 : decode b_Model_lay 117 = .ok (.aload_n 0, 1) := by decide +kernel
theorem d_Model_lay_118 : decode b_Model_lay 118 = .ok (.aload_n 0, 1) := by decide +kernel
theorem d_Model_lay_119 : decode b_Model_lay 119 = .ok (.getfield 17, 3) := by decide +kernel
theorem d_Model_lay_122 : decode b_Model_lay 122 = .ok (.iload_n 1, 1) := by decide +kernel
theorem d_Model_lay_123 : decode b_Model_lay 123 = .ok (.iaload, 1) := by decide +kernel
theorem d_Model_lay_124 : decode b_Model_lay 124 = .ok (.aload_n 0, 1) := by decide +kernel
theorem d_Model_lay_125 : decode b_Model_lay 125 = .ok (.getfield 20, 3) := by decide +kernel
theorem d_Model_lay_128 : decode b_Model_lay 128 = .ok (.iload_n 1, 1) := by decide +kernel
theorem d_Model_lay_129 : decode b_Model_lay 129 = .ok (.laload, 1) := by decide +kernel
theorem d_Model_lay_130 : decode b_Model_lay 130 = .ok (.invokevirtual 208, 3) := by decide +kernel
theorem d_Model_lay_133 : decode b_Model_lay 133 = .ok (.iinc 1 1, 3) := by decide +kernel
theorem d_Model_lay_136 : decode b_Model_lay 136 = .ok (.goto (-114), 3) := by decide +kernel
theorem d_Model_lay_139 : decode b_Model_lay 139 = .ok (.aload_n 0, 1) := by decide +kernel
theorem d_Model_lay_140 : decode b_Model_lay 140 = .ok (.getfield 123, 3) := by decide +kernel
theorem d_Model_lay_143 : decode b_Model_lay 143 = .ok (.ifCond .le 4, 3) := by decide +kernel
theorem d_Model_lay_146 : decode b_Model_lay 146 = .ok (.return_, 1) := by decide +kernel
theorem d_Model_lay_147 : decode b_Model_lay 147 = .ok (.aload_n 0, 1) := by decide +kernel
theorem d_Model_lay_148 : decode b_Model_lay 148 = .ok (.aload_n 0, 1) := by decide +kernel
theorem d_Model_lay_149 : decode b_Model_lay 149 = .ok (.getfield 144, 3) := by decide +kernel
theorem d_Model_lay_152 : decode b_Model_lay 152 = .ok (.invokevirtual 246, 3) := by decide +kernel
theorem d_Model_lay_155 : decode b_Model_lay 155 = .ok (.ifCond .eq 11, 3) := by decide +kernel
theorem d_Model_lay_158 : decode b_Model_lay 158 = .ok (.aload_n 0, 1) := by decide +kernel
theorem d_Model_lay_159 : decode b_Model_lay 159 = .ok (.aload_n 0, 1) := by decide +kernel
theorem d_Model_lay_160 : decode b_Model_lay 160 = .ok (.getfield 144, 3) := by decide +kernel
theorem d_Model_lay_163 : decode b_Model_lay 163 = .ok (.invokevirtual 249, 3) := by decide +kernel
theorem d_Model_lay_166 : decode b_Model_lay 166 = .ok (.aload_n 0, 1) := by decide +kernel
theorem d_Model_lay_167 : decode b_Model_lay 167 = .ok (.iconst 1, 1) := by decide +kernel
theorem d_Model_lay_168 : decode b_Model_lay 168 = .ok (.invokevirtual 214, 3) := by decide +kernel
theorem d_Model_lay_171 : decode b_Model_lay 171 = .ok (.aload_n 0, 1) := by decide +kernel
theorem d_Model_lay_172 : decode b_Model_lay 172 = .ok (.getfield 191, 3) := by decide +kernel
theorem d_Model_lay_175 : decode b_Model_lay 175 = .ok (.ifCond .le 12, 3) := by decide +kernel
theorem d_Model_lay_178 : decode b_Model_lay 178 = .ok (.aload_n 0, 1) := by decide +kernel
theorem d_Model_lay_179 : decode b_Model_lay 179 = .ok (.iconst 1, 1) := by decide +kernel
theorem d_Model_lay_180 : decode b_Model_lay 180 = .ok (.aload_n 0, 1) := by decide +kernel
theorem d_Model_lay_181 : decode b_Model_lay 181 = .ok (.getfield 110, 3) := by decide +kernel
theorem d_Model_lay_184 : decode b_Model_lay 184 = .ok (.invokevirtual 140, 3) := by decide +kernel
theorem d_Model_lay_187 : decode b_Model_lay 187 = .ok (.return_, 1) := by decide +kernel
theorem d_Model_reserved_0 : decode b_Model_reserved 0 = .ok (.lload_n 0, 1) := by decide +kernel
theorem d_Model_reserved_1 : decode b_Model_reserved 1 = .ok (.ldc2_w 258, 3) := by decide +kernel
theorem d_Model_reserved_4 : decode b_Model_reserved 4 = .ok (.lcmp, 1) := by decide +kernel
theorem d_Model_reserved_5 : decode b_Model_reserved 5 = .ok (.ifCond .eq 75, 3) := by decide +kernel
theorem d_Model_reserved_8 : decode b_Model_reserved 8 = .ok (.lload_n 0, 1) := by decide +kernel
theorem d_Model_reserved_9 : decode b_Model_reserved 9 = .ok (.ldc2_w 260, 3) := by decide +kernel
theorem d_Model_reserved_12 : decode b_Model_reserved 12 = .ok (.lcmp, 1) := by decide +kernel
theorem d_Model_reserved_13 : decode b_Model_reserved 13 = .ok (.ifCond .eq 67, 3) := by decide +kernel
theorem d_Model_reserved_16 : decode b_Model_reserved 16 = .ok (.lload_n 0, 1) := by decide +kernel
theorem d_Model_reserved_17 : decode b_Model_reserved 17 = .ok (.ldc2_w 262, 3) := by decide +kernel
theorem d_Model_reserved_20 : decode b_Model_reserved 20 = .ok (.lcmp, 1) := by decide +kernel
theorem d_Model_reserved_21 : decode b_Model_reserved 21 = .ok (.ifCond .eq 59, 3) := by decide +kernel
theorem d_Model_reserved_24 : decode b_Model_reserved 24 = .ok (.lload_n 0, 1) := by decide +kernel
theorem d_Model_reserved_25 : decode b_Model_reserved 25 = .ok (.ldc2_w 264, 3) := by decide +kernel
theorem d_Model_reserved_28 : decode b_Model_reserved 28 = .ok (.lcmp, 1) := by decide +kernel
theorem d_Model_reserved_29 : decode b_Model_reserved 29 = .ok (.ifCond .eq 51, 3) := by decide +kernel
theorem d_Model_reserved_32 : decode b_Model_reserved 32 = .ok (.lload_n 0, 1) := by decide +kernel
theorem d_Model_reserved_33 : decode b_Model_reserved 33 = .ok (.ldc2_w 266, 3) := by decide +kernel
theorem d_Model_reserved_36 : decode b_Model_reserved 36 = .ok (.lcmp, 1) := by decide +kernel
theorem d_Model_reserved_37 : decode b_Model_reserved 37 = .ok (.ifCond .eq 43, 3) := by decide +kernel
theorem d_Model_reserved_40 : decode b_Model_reserved 40 = .ok (.lload_n 0, 1) := by decide +kernel
theorem d_Model_reserved_41 : decode b_Model_reserved 41 = .ok (.ldc2_w 268, 3) := by decide +kernel
theorem d_Model_reserved_44 : decode b_Model_reserved 44 = .ok (.lcmp, 1) := by decide +kernel
theorem d_Model_reserved_45 : decode b_Model_reserved 45 = .ok (.ifCond .eq 35, 3) := by decide +kernel
theorem d_Model_reserved_48 : decode b_Model_reserved 48 = .ok (.lload_n 0, 1) := by decide +kernel
theorem d_Model_reserved_49 : decode b_Model_reserved 49 = .ok (.ldc2_w 270, 3) := by decide +kernel
theorem d_Model_reserved_52 : decode b_Model_reserved 52 = .ok (.lcmp, 1) := by decide +kernel
theorem d_Model_reserved_53 : decode b_Model_reserved 53 = .ok (.ifCond .eq 27, 3) := by decide +kernel
theorem d_Model_reserved_56 : decode b_Model_reserved 56 = .ok (.lload_n 0, 1) := by decide +kernel
theorem d_Model_reserved_57 : decode b_Model_reserved 57 = .ok (.ldc2_w 272, 3) := by decide +kernel
theorem d_Model_reserved_60 : decode b_Model_reserved 60 = .ok (.lcmp, 1) := by decide +kernel
theorem d_Model_reserved_61 : decode b_Model_reserved 61 = .ok (.ifCond .eq 19, 3) := by decide +kernel
theorem d_Model_reserved_64 : decode b_Model_reserved 64 = .ok (.lload_n 0, 1) := by decide +kernel
theorem d_Model_reserved_65 : decode b_Model_reserved 65 = .ok (.ldc2_w 274, 3) := by decide +kernel
theorem d_Model_reserved_68 : decode b_Model_reserved 68 = .ok (.lcmp, 1) := by decide +kernel
theorem d_Model_reserved_69 : decode b_Model_reserved 69 = .ok (.ifCond .eq 11, 3) := by decide +kernel
theorem d_Model_reserved_72 : decode b_Model_reserved 72 = .ok (.lload_n 0, 1) := by decide +kernel
theorem d_Model_reserved_73 : decode b_Model_reserved 73 = .ok (.ldc2_w 276, 3) := by decide +kernel
theorem d_Model_reserved_76 : decode b_Model_reserved 76 = .ok (.lcmp, 1) := by decide +kernel
theorem d_Model_reserved_77 : decode b_Model_reserved 77 = .ok (.ifCond .ne 7, 3) := by decide +kernel
theorem d_Model_reserved_80 : decode b_Model_reserved 80 = .ok (.iconst 1, 1) := by decide +kernel
theorem d_Model_reserved_81 : decode b_Model_reserved 81 = .ok (.goto 4, 3) := by decide +kernel
theorem d_Model_reserved_84 : decode b_Model_reserved 84 = .ok (.iconst 0, 1) := by decide +kernel
theorem d_Model_reserved_85 : decode b_Model_reserved 85 = .ok (.ireturn, 1) := by decide +kernel
theorem d_Model_partners_0 : decode b_Model_partners 0 = .ok (.iconst 0, 1) := by decide +kernel
theorem d_Model_partners_1 : decode b_Model_partners 1 = .ok (.istore_n 1, 1) := by decide +kernel
theorem d_Model_partners_2 : decode b_Model_partners 2 = .ok (.iconst 0, 1) := by decide +kernel
theorem d_Model_partners_3 : decode b_Model_partners 3 = .ok (.istore_n 2, 1) := by decide +kernel
theorem d_Model_partners_4 : decode b_Model_partners 4 = .ok (.iload_n 2, 1) := by decide +kernel
theorem d_Model_partners_5 : decode b_Model_partners 5 = .ok (.aload_n 0, 1) := by decide +kernel
theorem d_Model_partners_6 : decode b_Model_partners 6 = .ok (.getfield 188, 3) := by decide +kernel
theorem d_Model_partners_9 : decode b_Model_partners 9 = .ok (.if_icmp .ge 128, 3) := by decide +kernel
theorem d_Model_partners_12 : decode b_Model_partners 12 = .ok (.aload_n 0, 1) := by decide +kernel
theorem d_Model_partners_13 : decode b_Model_partners 13 = .ok (.getfield 37, 3) := by decide +kernel
theorem d_Model_partners_16 : decode b_Model_partners 16 = .ok (.iload_n 2, 1) := by decide +kernel
theorem d_Model_partners_17 : decode b_Model_partners 17 = .ok (.iaload, 1) := by decide +kernel
theorem d_Model_partners_18 : decode b_Model_partners 18 = .ok (.iconst 3, 1) := by decide +kernel
theorem d_Model_partners_19 : decode b_Model_partners 19 = .ok (.if_icmp .ne 33, 3) := by decide +kernel
theorem d_Model_partners_22 : decode b_Model_partners 22 = .ok (.aload_n 0, 1) := by decide +kernel
theorem d_Model_partners_23 : decode b_Model_partners 23 = .ok (.getfield 40, 3) := by decide +kernel
theorem d_Model_partners_26 : decode b_Model_partners 26 = .ok (.iload_n 2, 1) := by decide +kernel
theorem d_Model_partners_27 : decode b_Model_partners 27 = .ok (.laload, 1) := by decide +kernel
theorem d_Model_partners_28 : decode b_Model_partners 28 = .ok (.ldc2_w 222, 3) := by decide +kernel
theorem d_Model_partners_31 : decode b_Model_partners 31 = .ok (.lcmp, 1) := by decide +kernel
theorem d_Model_partners_32 : decode b_Model_partners 32 = .ok (.ifCond .eq 16, 3) := by decide +kernel
theorem d_Model_partners_35 : decode b_Model_partners 35 = .ok (.aload_n 0, 1) := by decide +kernel
theorem d_Model_partners_36 : decode b_Model_partners 36 = .ok (.getfield 40, 3) := by decide +kernel
theorem d_Model_partners_39 : decode b_Model_partners 39 = .ok (.iload_n 2, 1) := by decide +kernel
theorem d_Model_partners_40 : decode b_Model_partners 40 = .ok (.laload, 1) := by decide +kernel
theorem d_Model_partners_41 : decode b_Model_partners 41 = .ok (.ldc2_w 224, 3) := by decide +kernel
theorem d_Model_partners_44 : decode b_Model_partners 44 = .ok (.lcmp, 1) := by decide +kernel
theorem d_Model_partners_45 : decode b_Model_partners 45 = .ok (.ifCond .ne 7, 3) := by decide +kernel
theorem d_Model_partners_48 : decode b_Model_partners 48 = .ok (.iconst 1, 1) := by decide +kernel
theorem d_Model_partners_49 : decode b_Model_partners 49 = .ok (.goto 4, 3) := by decide +kernel
theorem d_Model_partners_52 : decode b_Model_partners 52 = .ok (.iconst 0, 1) := by decide +kernel
theorem d_Model_partners_53 : decode b_Model_partners 53 = .ok (.istore_n 3, 1) := by decide +kernel
theorem d_Model_partners_54 : decode b_Model_partners 54 = .ok (.aload_n 0, 1) := by decide +kernel
theorem d_Model_partners_55 : decode b_Model_partners 55 = .ok (.getfield 37, 3) := by decide +kernel
theorem d_Model_partners_58 : decode b_Model_partners 58 = .ok (.iload_n 2, 1) := by decide +kernel
theorem d_Model_partners_59 : decode b_Model_partners 59 = .ok (.iaload, 1) := by decide +kernel
theorem d_Model_partners_60 : decode b_Model_partners 60 = .ok (.iconst 3, 1) := by decide +kernel
theorem d_Model_partners_61 : decode b_Model_partners 61 = .ok (.if_icmp .ne 33, 3) := by decide +kernel
theorem d_Model_partners_64 : decode b_Model_partners 64 = .ok (.aload_n 0, 1) := by decide +kernel
theorem d_Model_partners_65 : decode b_Model_partners 65 = .ok (.getfield 40, 3) := by decide +kernel
theorem d_Model_partners_68 : decode b_Model_partners 68 = .ok (.iload_n 2, 1) := by decide +kernel
theorem d_Model_partners_69 : decode b_Model_partners 69 = .ok (.laload, 1) := by decide +kernel
theorem d_Model_partners_70 : decode b_Model_partners 70 = .ok (.ldc2_w 226, 3) := by decide +kernel
theorem d_Model_partners_73 : decode b_Model_partners 73 = .ok (.lcmp, 1) := by decide +kernel
theorem d_Model_partners_74 : decode b_Model_partners 74 = .ok (.ifCond .eq 16, 3) := by decide +kernel
theorem d_Model_partners_77 : decode b_Model_partners 77 = .ok (.aload_n 0, 1) := by decide +kernel
theorem d_Model_partners_78 : decode b_Model_partners 78 = .ok (.getfield 40, 3) := by decide +kernel
theorem d_Model_partners_81 : decode b_Model_partners 81 = .ok (.iload_n 2, 1) := by decide +kernel
theorem d_Model_partners_82 : decode b_Model_partners 82 = .ok (.laload, 1) := by decide +kernel
theorem d_Model_partners_83 : decode b_Model_partners 83 = .ok (.ldc2_w 231, 3) := by decide +kernel
theorem d_Model_partners_86 : decode b_Model_partners 86 = .ok (.lcmp, 1) := by decide +kernel
theorem d_Model_partners_87 : decode b_Model_partners 87 = .ok (.ifCond .ne 7, 3) := by decide +kernel
theorem d_Model_partners_90 : decode b_Model_partners 90 = .ok (.iconst 1, 1) := by decide +kernel
theorem d_Model_partners_91 : decode b_Model_partners 91 = .ok (.goto 4, 3) := by decide +kernel
theorem d_Model_partners_94 : decode b_Model_partners 94 = .ok (.iconst 0, 1) := by decide +kernel
theorem d_Model_partners_95 : decode b_Model_partners 95 = .ok (.istore 4, 2) := by decide +kernel
theorem d_Model_partners_97 : decode b_Model_partners 97 = .ok (.iload_n 3, 1) := by decide +kernel
theorem d_Model_partners_98 : decode b_Model_partners 98 = .ok (.ifCond .eq 13, 3) := by decide +kernel
theorem d_Model_partners_101 : decode b_Model_partners 101 = .ok (.aload_n 0, 1) := by decide +kernel
theorem d_Model_partners_102 : decode b_Model_partners 102 = .ok (.getfield 94, 3) := by decide +kernel
theorem d_Model_partners_105 : decode b_Model_partners 105 = .ok (.iload_n 1, 1) := by decide +kernel
theorem d_Model_partners_106 : decode b_Model_partners 106 = .ok (.iload_n 2, 1) := by decide +kernel
theorem d_Model_partners_107 : decode b_Model_partners 107 = .ok (.iastore, 1) := by decide +kernel
theorem d_Model_partners_108 : decode b_Model_partners 108 = .ok (.iinc 1 1, 3) := by decide +kernel
theorem d_Model_partners_111 : decode b_Model_partners 111 = .ok (.iload 4, 2) := by decide +kernel
theorem d_Model_partners_113 : decode b_Model_partners 113 = .ok (.ifCond .eq 18, 3) := by decide +kernel
theorem d_Model_partners_116 : decode b_Model_partners 116 = .ok (.iinc 1 (-1), 3) := by decide +kernel
theorem d_Model_partners_119 : decode b_Model_partners 119 = .ok (.aload_n 0, 1) := by decide +kernel
theorem d_Model_partners_120 : decode b_Model_partners 120 = .ok (.getfield 49, 3) := by decide +kernel
theorem d_Model_partners_123 : decode b_Model_partners 123 = .ok (.aload_n 0, 1) := by decide +kernel
theorem d_Model_partners_124 : decode b_Model_partners 124 = .ok (.getfield 94, 3) := by decide +kernel
theorem d_Model_partners_127 : decode b_Model_partners 127 = .ok (.iload_n 1, 1) := by decide +kernel
theorem d_Model_partners_128 : decode b_Model_partners 128 = .ok (.iaload, 1) := by decide +kernel
theorem d_Model_partners_129 : decode b_Model_partners 129 = .ok (.iload_n 2, 1) := by decide +kernel
theorem d_Model_partners_130 : decode b_Model_partners 130 = .ok (.iastore, 1) := by decide +kernel
theorem d_Model_partners_131 : decode b_Model_partners 131 = .ok (.iinc 2 1, 3) := by decide +kernel
theorem d_Model_partners_134 : decode b_Model_partners 134 = .ok (.goto (-130), 3) := by decide +kernel
theorem d_Model_partners_137 : decode b_Model_partners 137 = .ok (.return_, 1) := by decide +kernel
theorem d_Model_plainName_0 : decode b_Model_plainName 0 = .ok (.iload_n 1, 1) := by decide +kernel
theorem d_Model_plainName_1 : decode b_Model_plainName 1 = .ok (.aload_n 0, 1) := by decide +kernel
theorem d_Model_plainName_2 : decode b_Model_plainName 2 = .ok (.getfield 188, 3) := by decide +kernel
theorem d_Model_plainName_5 : decode b_Model_plainName 5 = .ok (.if_icmp .ge 28, 3) := by decide +kernel
theorem d_Model_plainName_8 : decode b_Model_plainName 8 = .ok (.aload_n 0, 1) := by decide +kernel
theorem d_Model_plainName_9 : decode b_Model_plainName 9 = .ok (.getfield 37, 3) := by decide +kernel
theorem d_Model_plainName_12 : decode b_Model_plainName 12 = .ok (.iload_n 1, 1) := by decide +kernel
theorem d_Model_plainName_13 : decode b_Model_plainName 13 = .ok (.iaload, 1) := by decide +kernel
theorem d_Model_plainName_14 : decode b_Model_plainName 14 = .ok (.ifCond .ne 19, 3) := by decide +kernel
theorem d_Model_plainName_17 : decode b_Model_plainName 17 = .ok (.aload_n 0, 1) := by decide +kernel
theorem d_Model_plainName_18 : decode b_Model_plainName 18 = .ok (.getfield 40, 3) := by decide +kernel
theorem d_Model_plainName_21 : decode b_Model_plainName 21 = .ok (.iload_n 1, 1) := by decide +kernel
theorem d_Model_plainName_22 : decode b_Model_plainName 22 = .ok (.laload, 1) := by decide +kernel
theorem d_Model_plainName_23 : decode b_Model_plainName 23 = .ok (.invokestatic 278, 3) := by decide +kernel
theorem d_Model_plainName_26 : decode b_Model_plainName 26 = .ok (.ifCond .ne 7, 3) := by decide +kernel
theorem d_Model_plainName_29 : decode b_Model_plainName 29 = .ok (.iconst 1, 1) := by decide +kernel
theorem d_Model_plainName_30 : decode b_Model_plainName 30 = .ok (.goto 4, 3) := by decide +kernel
theorem d_Model_plainName_33 : decode b_Model_plainName 33 = .ok (.iconst 0, 1) := by decide +kernel
theorem d_Model_plainName_34 : decode b_Model_plainName 34 = .ok (.ireturn, 1) := by decide +kernel
theorem d_Model_tick_0 : decode b_Model_tick 0 = .ok (.iload_n 1, 1) := by decide +kernel
theorem d_Model_tick_1 : decode b_Model_tick 1 = .ok (.aload_n 0, 1) := by decide +kernel
theorem d_Model_tick_2 : decode b_Model_tick 2 = .ok (.getfield 188, 3) := by decide +kernel
theorem d_Model_tick_5 : decode b_Model_tick 5 = .ok (.if_icmp .ge 30, 3) := by decide +kernel
theorem d_Model_tick_8 : decode b_Model_tick 8 = .ok (.aload_n 0, 1) := by decide +kernel
theorem d_Model_tick_9 : decode b_Model_tick 9 = .ok (.getfield 37, 3) := by decide +kernel
theorem d_Model_tick_12 : decode b_Model_tick 12 = .ok (.iload_n 1, 1) := by decide +kernel
theorem d_Model_tick_13 : decode b_Model_tick 13 = .ok (.iaload, 1) := by decide +kernel
theorem d_Model_tick_14 : decode b_Model_tick 14 = .ok (.iconst 3, 1) := by decide +kernel
theorem d_Model_tick_15 : decode b_Model_tick 15 = .ok (.if_icmp .ne 20, 3) := by decide +kernel
theorem d_Model_tick_18 : decode b_Model_tick 18 = .ok (.aload_n 0, 1) := by decide +kernel
theorem d_Model_tick_19 : decode b_Model_tick 19 = .ok (.getfield 40, 3) := by decide +kernel
theorem d_Model_tick_22 : decode b_Model_tick 22 = .ok (.iload_n 1, 1) := by decide +kernel
theorem d_Model_tick_23 : decode b_Model_tick 23 = .ok (.laload, 1) := by decide +kernel
theorem d_Model_tick_24 : decode b_Model_tick 24 = .ok (.ldc2_w 282, 3) := by decide +kernel
theorem d_Model_tick_27 : decode b_Model_tick 27 = .ok (.lcmp, 1) := by decide +kernel
theorem d_Model_tick_28 : decode b_Model_tick 28 = .ok (.ifCond .ne 7, 3) := by decide +kernel
theorem d_Model_tick_31 : decode b_Model_tick 31 = .ok (.iconst 1, 1) := by decide +kernel
theorem d_Model_tick_32 : decode b_Model_tick 32 = .ok (.goto 4, 3) := by decide +kernel
theorem d_Model_tick_35 : decode b_Model_tick 35 = .ok (.iconst 0, 1) := by decide +kernel
theorem d_Model_tick_36 : decode b_Model_tick 36 = .ok (.ireturn, 1) := by decide +kernel
theorem d_Model_extent_0 : decode b_Model_extent 0 = .ok (.iload_n 1, 1) := by decide +kernel
theorem d_Model_extent_1 : decode b_Model_extent 1 = .ok (.aload_n 0, 1) := by decide +kernel
theorem d_Model_extent_2 : decode b_Model_extent 2 = .ok (.getfield 188, 3) := by decide +kernel
theorem d_Model_extent_5 : decode b_Model_extent 5 = .ok (.if_icmp .lt 5, 3) := by decide +kernel
theorem d_Model_extent_8 : decode b_Model_extent 8 = .ok (.iconst 0, 1) := by decide +kernel
theorem d_Model_extent_9 : decode b_Model_extent 9 = .ok (.ireturn, 1) := by decide +kernel
theorem d_Model_extent_10 : decode b_Model_extent 10 = .ok (.aload_n 0, 1) := by decide +kernel
theorem d_Model_extent_11 : decode b_Model_extent 11 = .ok (.iload_n 1, 1) := by decide +kernel
theorem d_Model_extent_12 : decode b_Model_extent 12 = .ok (.invokevirtual 284, 3) := by decide +kernel
theorem d_Model_extent_15 : decode b_Model_extent 15 = .ok (.ifCond .ne 13, 3) := by decide +kernel
theorem d_Model_extent_18 : decode b_Model_extent 18 = .ok (.aload_n 0, 1) := by decide +kernel
theorem d_Model_extent_19 : decode b_Model_extent 19 = .ok (.getfield 37, 3) := by decide +kernel
theorem d_Model_extent_22 : decode b_Model_extent 22 = .ok (.iload_n 1, 1) := by decide +kernel
theorem d_Model_extent_23 : decode b_Model_extent 23 = .ok (.iaload, 1) := by decide +kernel
theorem d_Model_extent_24 : decode b_Model_extent 24 = .ok (.iconst 1, 1) := by decide +kernel
theorem d_Model_extent_25 : decode b_Model_extent 25 = .ok (.if_icmp .ne 5, 3) := by decide +kernel
theorem d_Model_extent_28 : decode b_Model_extent 28 = .ok (.iconst 1, 1) := by decide +kernel
theorem d_Model_extent_29 : decode b_Model_extent 29 = .ok (.ireturn, 1) := by decide +kernel
theorem d_Model_extent_30 : decode b_Model_extent 30 = .ok (.aload_n 0, 1) := by decide +kernel
theorem d_Model_extent_31 : decode b_Model_extent 31 = .ok (.getfield 37, 3) := by decide +kernel
theorem d_Model_extent_34 : decode b_Model_extent 34 = .ok (.iload_n 1, 1) := by decide +kernel
theorem d_Model_extent_35 : decode b_Model_extent 35 = .ok (.iaload, 1) := by decide +kernel
theorem d_Model_extent_36 : decode b_Model_extent 36 = .ok (.iconst 3, 1) := by decide +kernel
theorem d_Model_extent_37 : decode b_Model_extent 37 = .ok (.if_icmp .ne 40, 3) := by decide +kernel
theorem d_Model_extent_40 : decode b_Model_extent 40 = .ok (.aload_n 0, 1) := by decide +kernel
theorem d_Model_extent_41 : decode b_Model_extent 41 = .ok (.getfield 40, 3) := by decide +kernel
theorem d_Model_extent_44 : decode b_Model_extent 44 = .ok (.iload_n 1, 1) := by decide +kernel
theorem d_Model_extent_45 : decode b_Model_extent 45 = .ok (.laload, 1) := by decide +kernel
theorem d_Model_extent_46 : decode b_Model_extent 46 = .ok (.ldc2_w 222, 3) := by decide +kernel
theorem d_Model_extent_49 : decode b_Model_extent 49 = .ok (.lcmp, 1) := by decide +kernel
theorem d_Model_extent_50 : decode b_Model_extent 50 = .ok (.ifCond .eq 16, 3) := by decide +kernel
theorem d_Model_extent_53 : decode b_Model_extent 53 = .ok (.aload_n 0, 1) := by decide +kernel
theorem d_Model_extent_54 : decode b_Model_extent 54 = .ok (.getfield 40, 3) := by decide +kernel
theorem d_Model_extent_57 : decode b_Model_extent 57 = .ok (.iload_n 1, 1) := by decide +kernel
theorem d_Model_extent_58 : decode b_Model_extent 58 = .ok (.laload, 1) := by decide +kernel
theorem d_Model_extent_59 : decode b_Model_extent 59 = .ok (.ldc2_w 224, 3) := by decide +kernel
theorem d_Model_extent_62 : decode b_Model_extent 62 = .ok (.lcmp, 1) := by decide +kernel
theorem d_Model_extent_63 : decode b_Model_extent 63 = .ok (.ifCond .ne 14, 3) := by decide +kernel
theorem d_Model_extent_66 : decode b_Model_extent 66 = .ok (.aload_n 0, 1) := by decide +kernel
theorem d_Model_extent_67 : decode b_Model_extent 67 = .ok (.getfield 49, 3) := by decide +kernel
theorem d_Model_extent_70 : decode b_Model_extent 70 = .ok (.iload_n 1, 1) := by decide +kernel
theorem d_Model_extent_71 : decode b_Model_extent 71 = .ok (.iaload, 1) := by decide +kernel
theorem d_Model_extent_72 : decode b_Model_extent 72 = .ok (.iload_n 1, 1) := by decide +kernel
theorem d_Model_extent_73 : decode b_Model_extent 73 = .ok (.isub, 1) := by decide +kernel
theorem d_Model_extent_74 : decode b_Model_extent 74 = .ok (.iconst 1, 1) := by decide +kernel
theorem d_Model_extent_75 : decode b_Model_extent 75 = .ok (.iadd, 1) := by decide +kernel
theorem d_Model_extent_76 : decode b_Model_extent 76 = .ok (.ireturn, 1) := by decide +kernel
theorem d_Model_extent_77 : decode b_Model_extent 77 = .ok (.aload_n 0, 1) := by decide +kernel
theorem d_Model_extent_78 : decode b_Model_extent 78 = .ok (.getfield 37, 3) := by decide +kernel
theorem d_Model_extent_81 : decode b_Model_extent 81 = .ok (.iload_n 1, 1) := by decide +kernel
theorem d_Model_extent_82 : decode b_Model_extent 82 = .ok (.iaload, 1) := by decide +kernel
theorem d_Model_extent_83 : decode b_Model_extent 83 = .ok (.iconst 2, 1) := by decide +kernel
theorem d_Model_extent_84 : decode b_Model_extent 84 = .ok (.if_icmp .ne 21, 3) := by decide +kernel
theorem d_Model_extent_87 : decode b_Model_extent 87 = .ok (.aload_n 0, 1) := by decide +kernel
theorem d_Model_extent_88 : decode b_Model_extent 88 = .ok (.getfield 40, 3) := by decide +kernel
theorem d_Model_extent_91 : decode b_Model_extent 91 = .ok (.iload_n 1, 1) := by decide +kernel
theorem d_Model_extent_92 : decode b_Model_extent 92 = .ok (.laload, 1) := by decide +kernel
theorem d_Model_extent_93 : decode b_Model_extent 93 = .ok (.invokestatic 287, 3) := by decide +kernel
theorem d_Model_extent_96 : decode b_Model_extent 96 = .ok (.ifCond .eq 7, 3) := by decide +kernel
theorem d_Model_extent_99 : decode b_Model_extent 99 = .ok (.iconst 0, 1) := by decide +kernel
theorem d_Model_extent_100 : decode b_Model_extent 100 = .ok (.goto 4, 3) := by decide +kernel
theorem d_Model_extent_103 : decode b_Model_extent 103 = .ok (.iconst 1, 1) := by decide +kernel
theorem d_Model_extent_104 : decode b_Model_extent 104 = .ok (.ireturn, 1) := by decide +kernel
theorem d_Model_extent_105 : decode b_Model_extent 105 = .ok (.aload_n 0, 1) := by decide +kernel
theorem d_Model_extent_106 : decode b_Model_extent 106 = .ok (.iload_n 1, 1) := by decide +kernel
theorem d_Model_extent_107 : decode b_Model_extent 107 = .ok (.invokevirtual 290, 3) := by decide +kernel
theorem d_Model_extent_110 : decode b_Model_extent 110 = .ok (.ifCond .eq 27, 3) := by decide +kernel
theorem d_Model_extent_113 : decode b_Model_extent 113 = .ok (.aload_n 0, 1) := by decide +kernel
theorem d_Model_extent_114 : decode b_Model_extent 114 = .ok (.iload_n 1, 1) := by decide +kernel
theorem d_Model_extent_115 : decode b_Model_extent 115 = .ok (.iconst 1, 1) := by decide +kernel
theorem d_Model_extent_116 : decode b_Model_extent 116 = .ok (.iadd, 1) := by decide +kernel
theorem d_Model_extent_117 : decode b_Model_extent 117 = .ok (.invokevirtual 284, 3) := by decide +kernel
theorem d_Model_extent_120 : decode b_Model_extent 120 = .ok (.ifCond .eq 17, 3) := by decide +kernel
theorem d_Model_extent_123 : decode b_Model_extent 123 = .ok (.aload_n 0, 1) := by decide +kernel
theorem d_Model_extent_124 : decode b_Model_extent 124 = .ok (.iload_n 1, 1) := by decide +kernel
theorem d_Model_extent_125 : decode b_Model_extent 125 = .ok (.iconst 2, 1) := by decide +kernel
theorem d_Model_extent_126 : decode b_Model_extent 126 = .ok (.iadd, 1) := by decide +kernel
theorem d_Model_extent_127 : decode b_Model_extent 127 = .ok (.invokevirtual 290, 3) := by decide +kernel
theorem d_Model_extent_130 : decode b_Model_extent 130 = .ok (.ifCond .eq 7, 3) := by decide +kernel
theorem d_Model_extent_133 : decode b_Model_extent 133 = .ok (.iconst 3, 1) := by decide +kernel
theorem d_Model_extent_134 : decode b_Model_extent 134 = .ok (.goto 4, 3) := by decide +kernel
theorem d_Model_extent_137 : decode b_Model_extent 137 = .ok (.iconst 0, 1) := by decide +kernel
theorem d_Model_extent_138 : decode b_Model_extent 138 = .ok (.ireturn, 1) := by decide +kernel
theorem d_Model_operation_0 : decode b_Model_operation 0 = .ok (.aload_n 0, 1) := by decide +kernel
theorem d_Model_operation_1 : decode b_Model_operation 1 = .ok (.getfield 37, 3) := by decide +kernel
theorem d_Model_operation_4 : decode b_Model_operation 4 = .ok (.iload_n 1, 1) := by decide +kernel
theorem d_Model_operation_5 : decode b_Model_operation 5 = .ok (.iaload, 1) := by decide +kernel
theorem d_Model_operation_6 : decode b_Model_operation 6 = .ok (.iconst 2, 1) := by decide +kernel
theorem d_Model_operation_7 : decode b_Model_operation 7 = .ok (.if_icmp .eq 11, 3) := by decide +kernel
theorem d_Model_operation_10 : decode b_Model_operation 10 = .ok (.aload_n 0, 1) := by decide +kernel
theorem d_Model_operation_11 : decode b_Model_operation 11 = .ok (.iload_n 1, 1) := by decide +kernel
theorem d_Model_operation_12 : decode b_Model_operation 12 = .ok (.invokevirtual 290, 3) := by decide +kernel
theorem d_Model_operation_15 : decode b_Model_operation 15 = .ok (.ifCond .eq 7, 3) := by decide +kernel
theorem d_Model_operation_18 : decode b_Model_operation 18 = .ok (.iconst 1, 1) := by decide +kernel
theorem d_Model_operation_19 : decode b_Model_operation 19 = .ok (.goto 4, 3) := by decide +kernel
theorem d_Model_operation_22 : decode b_Model_operation 22 = .ok (.iconst 0, 1) := by decide +kernel
theorem d_Model_operation_23 : decode b_Model_operation 23 = .ok (.ireturn, 1) := by decide +kernel
theorem d_Model_core_0 : decode b_Model_core 0 = .ok (.aload_n 0, 1) := by decide +kernel
theorem d_Model_core_1 : decode b_Model_core 1 = .ok (.iload_n 1, 1) := by decide +kernel
theorem d_Model_core_2 : decode b_Model_core 2 = .ok (.invokevirtual 290, 3) := by decide +kernel
theorem d_Model_core_5 : decode b_Model_core 5 = .ok (.ifCond .eq 9, 3) := by decide +kernel
theorem d_Model_core_8 : decode b_Model_core 8 = .ok (.iload_n 1, 1) := by decide +kernel
theorem d_Model_core_9 : decode b_Model_core 9 = .ok (.iconst 1, 1) := by decide +kernel
theorem d_Model_core_10 : decode b_Model_core 10 = .ok (.iadd, 1) := by decide +kernel
theorem d_Model_core_11 : decode b_Model_core 11 = .ok (.goto 4, 3) := by decide +kernel
theorem d_Model_core_14 : decode b_Model_core 14 = .ok (.iload_n 1, 1) := by decide +kernel
theorem d_Model_core_15 : decode b_Model_core 15 = .ok (.ireturn, 1) := by decide +kernel
theorem d_Model_dash_0 : decode b_Model_dash 0 = .ok (.aload_n 0, 1) := by decide +kernel
theorem d_Model_dash_1 : decode b_Model_dash 1 = .ok (.getfield 37, 3) := by decide +kernel
theorem d_Model_dash_4 : decode b_Model_dash 4 = .ok (.aload_n 0, 1) := by decide +kernel
theorem d_Model_dash_5 : decode b_Model_dash 5 = .ok (.getfield 70, 3) := by decide +kernel
theorem d_Model_dash_8 : decode b_Model_dash 8 = .ok (.iload_n 1, 1) := by decide +kernel
theorem d_Model_dash_9 : decode b_Model_dash 9 = .ok (.iaload, 1) := by decide +kernel
theorem d_Model_dash_10 : decode b_Model_dash 10 = .ok (.iaload, 1) := by decide +kernel
theorem d_Model_dash_11 : decode b_Model_dash 11 = .ok (.iconst 2, 1) := by decide +kernel
theorem d_Model_dash_12 : decode b_Model_dash 12 = .ok (.if_icmp .ne 25, 3) := by decide +kernel
theorem d_Model_dash_15 : decode b_Model_dash 15 = .ok (.aload_n 0, 1) := by decide +kernel
theorem d_Model_dash_16 : decode b_Model_dash 16 = .ok (.getfield 40, 3) := by decide +kernel
theorem d_Model_dash_19 : decode b_Model_dash 19 = .ok (.aload_n 0, 1) := by decide +kernel
theorem d_Model_dash_20 : decode b_Model_dash 20 = .ok (.getfield 70, 3) := by decide +kernel
theorem d_Model_dash_23 : decode b_Model_dash 23 = .ok (.iload_n 1, 1) := by decide +kernel
theorem d_Model_dash_24 : decode b_Model_dash 24 = .ok (.iaload, 1) := by decide +kernel
theorem d_Model_dash_25 : decode b_Model_dash 25 = .ok (.laload, 1) := by decide +kernel
theorem d_Model_dash_26 : decode b_Model_dash 26 = .ok (.ldc2_w 293, 3) := by decide +kernel
theorem d_Model_dash_29 : decode b_Model_dash 29 = .ok (.lcmp, 1) := by decide +kernel
theorem d_Model_dash_30 : decode b_Model_dash 30 = .ok (.ifCond .ne 7, 3) := by decide +kernel
theorem d_Model_dash_33 : decode b_Model_dash 33 = .ok (.iconst 1, 1) := by decide +kernel
theorem d_Model_dash_34 : decode b_Model_dash 34 = .ok (.goto 4, 3) := by decide +kernel
theorem d_Model_dash_37 : decode b_Model_dash 37 = .ok (.iconst 0, 1) := by decide +kernel
theorem d_Model_dash_38 : decode b_Model_dash 38 = .ok (.ireturn, 1) := by decide +kernel
theorem d_Model_collect_0 : decode b_Model_collect 0 = .ok (.aload_n 0, 1) := by decide +kernel
theorem d_Model_collect_1 : decode b_Model_collect 1 = .ok (.iconst 0, 1) := by decide +kernel
theorem d_Model_collect_2 : decode b_Model_collect 2 = .ok (.putfield 295, 3) := by decide +kernel
theorem d_Model_collect_5 : decode b_Model_collect 5 = .ok (.iload_n 1, 1) := by decide +kernel
theorem d_Model_collect_6 : decode b_Model_collect 6 = .ok (.istore_n 2, 1) := by decide +kernel
theorem d_Model_collect_7 : decode b_Model_collect 7 = .ok (.aload_n 0, 1) := by decide +kernel
theorem d_Model_collect_8 : decode b_Model_collect 8 = .ok (.iload_n 2, 1) := by decide +kernel
theorem d_Model_collect_9 : decode b_Model_collect 9 = .ok (.invokevirtual 298, 3) := by decide +kernel
theorem d_Model_collect_12 : decode b_Model_collect 12 = .ok (.istore_n 3, 1) := by decide +kernel
theorem d_Model_collect_13 : decode b_Model_collect 13 = .ok (.iload_n 3, 1) := by decide +kernel
theorem d_Model_collect_14 : decode b_Model_collect 14 = .ok (.ifCond .le 170, 3) := by decide +kernel
theorem d_Model_collect_17 : decode b_Model_collect 17 = .ok (.aload_n 0, 1) := by decide +kernel
theorem d_Model_collect_18 : decode b_Model_collect 18 = .ok (.iload_n 2, 1) := by decide +kernel
theorem d_Model_collect_19 : decode b_Model_collect 19 = .ok (.invokevirtual 301, 3) := by decide +kernel
theorem d_Model_collect_22 : decode b_Model_collect 22 = .ok (.istore 4, 2) := by decide +kernel
theorem d_Model_collect_24 : decode b_Model_collect 24 = .ok (.aload_n 0, 1) := by decide +kernel
theorem d_Model_collect_25 : decode b_Model_collect 25 = .ok (.getfield 52, 3) := by decide +kernel
theorem d_Model_collect_28 : decode b_Model_collect 28 = .ok (.iload_n 2, 1) := by decide +kernel
theorem d_Model_collect_29 : decode b_Model_collect 29 = .ok (.iconst 1, 1) := by decide +kernel
theorem d_Model_collect_30 : decode b_Model_collect 30 = .ok (.bastore, 1) := by decide +kernel
theorem d_Model_collect_31 : decode b_Model_collect 31 = .ok (.aload_n 0, 1) := by decide +kernel
theorem d_Model_collect_32 : decode b_Model_collect 32 = .ok (.getfield 52, 3) := by decide +kernel
theorem d_Model_collect_35 : decode b_Model_collect 35 = .ok (.iload_n 2, 1) := by decide +kernel
theorem d_Model_collect_36 : decode b_Model_collect 36 = .ok (.iload_n 3, 1) := by decide +kernel
theorem d_Model_collect_37 : decode b_Model_collect 37 = .ok (.iadd, 1) := by decide +kernel
theorem d_Model_collect_38 : decode b_Model_collect 38 = .ok (.iconst 1, 1) := by decide +kernel
theorem d_Model_collect_39 : decode b_Model_collect 39 = .ok (.isub, 1) := by decide +kernel
theorem d_Model_collect_40 : decode b_Model_collect 40 = .ok (.iconst 1, 1) := by decide +kernel
theorem d_Model_collect_41 : decode b_Model_collect 41 = .ok (.bastore, 1) := by decide +kernel
theorem d_Model_collect_42 : decode b_Model_collect 42 = .ok (.iload 4, 2) := by decide +kernel
theorem d_Model_collect_44 : decode b_Model_collect 44 = .ok (.ifCond .eq 17, 3) := by decide +kernel
theorem d_Model_collect_47 : decode b_Model_collect 47 = .ok (.iload_n 3, 1) := by decide +kernel
theorem d_Model_collect_48 : decode b_Model_collect 48 = .ok (.iconst 3, 1) := by decide +kernel
theorem d_Model_collect_49 : decode b_Model_collect 49 = .ok (.if_icmp .ne 12, 3) := by decide +kernel
theorem d_Model_collect_52 : decode b_Model_collect 52 = .ok (.aload_n 0, 1) := by decide +kernel
theorem d_Model_collect_53 : decode b_Model_collect 53 = .ok (.getfield 52, 3) := by decide +kernel
theorem d_Model_collect_56 : decode b_Model_collect 56 = .ok (.iload_n 2, 1) := by decide +kernel
theorem d_Model_collect_57 : decode b_Model_collect 57 = .ok (.iconst 1, 1) := by decide +kernel
theorem d_Model_collect_58 : decode b_Model_collect 58 = .ok (.iadd, 1) := by decide +kernel
theorem d_Model_collect_59 : decode b_Model_collect 59 = .ok (.iconst 1, 1) := by decide +kernel
theorem d_Model_collect_60 : decode b_Model_collect 60 = .ok (.bastore, 1) := by decide +kernel
theorem d_Model_collect_61 : decode b_Model_collect 61 = .ok (.iload 4, 2) := by decide +kernel
theorem d_Model_collect_63 : decode b_Model_collect 63 = .ok (.ifCond .ne 28, 3) := by decide +kernel
theorem d_Model_collect_66 : decode b_Model_collect 66 = .ok (.aload_n 0, 1) := by decide +kernel
theorem d_Model_collect_67 : decode b_Model_collect 67 = .ok (.getfield 295, 3) := by decide +kernel
theorem d_Model_collect_70 : decode b_Model_collect 70 = .ok (.ifCond .le 21, 3) := by decide +kernel
theorem d_Model_collect_73 : decode b_Model_collect 73 = .ok (.aload_n 0, 1) := by decide +kernel
theorem d_Model_collect_74 : decode b_Model_collect 74 = .ok (.getfield 76, 3) := by decide +kernel
theorem d_Model_collect_77 : decode b_Model_collect 77 = .ok (.aload_n 0, 1) := by decide +kernel
theorem d_Model_collect_78 : decode b_Model_collect 78 = .ok (.getfield 295, 3) := by decide +kernel
theorem d_Model_collect_81 : decode b_Model_collect 81 = .ok (.iconst 1, 1) := by decide +kernel
theorem d_Model_collect_82 : decode b_Model_collect 82 = .ok (.isub, 1) := by decide +kernel
theorem d_Model_collect_83 : decode b_Model_collect 83 = .ok (.iaload, 1) := by decide +kernel
theorem d_Model_collect_84 : decode b_Model_collect 84 = .ok (.ifCond .ne 7, 3) := by decide +kernel
theorem d_Model_collect_87 : decode b_Model_collect 87 = .ok (.iconst 1, 1) := by decide +kernel
theorem d_Model_collect_88 : decode b_Model_collect 88 = .ok (.goto 4, 3) := by decide +kernel
theorem d_Model_collect_91 : decode b_Model_collect 91 = .ok (.iconst 0, 1) := by decide +kernel
theorem d_Model_collect_92 : decode b_Model_collect 92 = .ok (.istore 5, 2) := by decide +kernel
theorem d_Model_collect_94 : decode b_Model_collect 94 = .ok (.iload 5, 2) := by decide +kernel
theorem d_Model_collect_96 : decode b_Model_collect 96 = .ok (.ifCond .eq 22, 3) := by decide +kernel
theorem d_Model_collect_99 : decode b_Model_collect 99 = .ok (.aload_n 0, 1) := by decide +kernel
theorem d_Model_collect_100 : decode b_Model_collect 100 = .ok (.getfield 73, 3) := by decide +kernel
theorem d_Model_collect_103 : decode b_Model_collect 103 = .ok (.aload_n 0, 1) := by decide +kernel
theorem d_Model_collect_104 : decode b_Model_collect 104 = .ok (.getfield 295, 3) := by decide +kernel
theorem d_Model_collect_107 : decode b_Model_collect 107 = .ok (.iconst 1, 1) := by decide +kernel
theorem d_Model_collect_108 : decode b_Model_collect 108 = .ok (.isub, 1) := by decide +kernel
theorem d_Model_collect_109 : decode b_Model_collect 109 = .ok (.iload_n 2, 1) := by decide +kernel
theorem d_Model_collect_110 : decode b_Model_collect 110 = .ok (.iload_n 3, 1) := by decide +kernel
theorem d_Model_collect_111 : decode b_Model_collect 111 = .ok (.iadd, 1) := by decide +kernel
theorem d_Model_collect_112 : decode b_Model_collect 112 = .ok (.iconst 1, 1) := by decide +kernel
theorem d_Model_collect_113 : decode b_Model_collect 113 = .ok (.isub, 1) := by decide +kernel
theorem d_Model_collect_114 : decode b_Model_collect 114 = .ok (.iastore, 1) := by decide +kernel
theorem d_Model_collect_115 : decode b_Model_collect 115 = .ok (.goto 56, 3) := by decide +kernel
theorem d_Model_collect_118 : decode b_Model_collect 118 = .ok (.aload_n 0, 1) := by decide +kernel
theorem d_Model_collect_119 : decode b_Model_collect 119 = .ok (.getfield 70, 3) := by decide +kernel
theorem d_Model_collect_122 : decode b_Model_collect 122 = .ok (.aload_n 0, 1) := by decide +kernel
theorem d_Model_collect_123 : decode b_Model_collect 123 = .ok (.getfield 295, 3) := by decide +kernel
theorem d_Model_collect_126 : decode b_Model_collect 126 = .ok (.iload_n 2, 1) := by decide +kernel
theorem d_Model_collect_127 : decode b_Model_collect 127 = .ok (.iastore, 1) := by decide +kernel
theorem d_Model_collect_128 : decode b_Model_collect 128 = .ok (.aload_n 0, 1) := by decide +kernel
theorem d_Model_collect_129 : decode b_Model_collect 129 = .ok (.getfield 73, 3) := by decide +kernel
theorem d_Model_collect_132 : decode b_Model_collect 132 = .ok (.aload_n 0, 1) := by decide +kernel
theorem d_Model_collect_133 : decode b_Model_collect 133 = .ok (.getfield 295, 3) := by decide +kernel
theorem d_Model_collect_136 : decode b_Model_collect 136 = .ok (.iload_n 2, 1) := by decide +kernel
theorem d_Model_collect_137 : decode b_Model_collect 137 = .ok (.iload_n 3, 1) := by decide +kernel
theorem d_Model_collect_138 : decode b_Model_collect 138 = .ok (.iadd, 1) := by decide +kernel
theorem d_Model_collect_139 : decode b_Model_collect 139 = .ok (.iconst 1, 1) := by decide +kernel
theorem d_Model_collect_140 : decode b_Model_collect 140 = .ok (.isub, 1) := by decide +kernel
theorem d_Model_collect_141 : decode b_Model_collect 141 = .ok (.iastore, 1) := by decide +kernel
theorem d_Model_collect_142 : decode b_Model_collect 142 = .ok (.aload_n 0, 1) := by decide +kernel
theorem d_Model_collect_143 : decode b_Model_collect 143 = .ok (.getfield 76, 3) := by decide +kernel
theorem d_Model_collect_146 : decode b_Model_collect 146 = .ok (.aload_n 0, 1) := by decide +kernel
theorem d_Model_collect_147 : decode b_Model_collect 147 = .ok (.getfield 295, 3) := by decide +kernel
theorem d_Model_collect_150 : decode b_Model_collect 150 = .ok (.iload 4, 2) := by decide +kernel
theorem d_Model_collect_152 : decode b_Model_collect 152 = .ok (.ifCond .eq 7, 3) := by decide +kernel
theorem d_Model_collect_155 : decode b_Model_collect 155 = .ok (.iconst 1, 1) := by decide +kernel
theorem d_Model_collect_156 : decode b_Model_collect 156 = .ok (.goto 4, 3) := by decide +kernel
theorem d_Model_collect_159 : decode b_Model_collect 159 = .ok (.iconst 0, 1) := by decide +kernel
theorem d_Model_collect_160 : decode b_Model_collect 160 = .ok (.iastore, 1) := by decide +kernel
theorem d_Model_collect_161 : decode b_Model_collect 161 = .ok (.aload_n 0, 1) := by decide +kernel
theorem d_Model_collect_162 : decode b_Model_collect 162 = .ok (.dup, 1) := by decide +kernel
theorem d_Model_collect_163 : decode b_Model_collect 163 = .ok (.getfield 295, 3) := by decide +kernel
theorem d_Model_collect_166 : decode b_Model_collect 166 = .ok (.iconst 1, 1) := by decide +kernel
theorem d_Model_collect_167 : decode b_Model_collect 167 = .ok (.iadd, 1) := by decide +kernel
theorem d_Model_collect_168 : decode b_Model_collect 168 = .ok (.putfield 295, 3) := by decide +kernel
theorem d_Model_collect_171 : decode b_Model_collect 171 = .ok (.iload_n 2, 1) := by decide +kernel
theorem d_Model_collect_172 : decode b_Model_collect 172 = .ok (.iload_n 3, 1) := by decide +kernel
theorem d_Model_collect_173 : decode b_Model_collect 173 = .ok (.iadd, 1) := by decide +kernel
theorem d_Model_collect_174 : decode b_Model_collect 174 = .ok (.istore_n 2, 1) := by decide +kernel
theorem d_Model_collect_175 : decode b_Model_collect 175 = .ok (.aload_n 0, 1) := by decide +kernel
theorem d_Model_collect_176 : decode b_Model_collect 176 = .ok (.iload_n 2, 1) := by decide +kernel
theorem d_Model_collect_177 : decode b_Model_collect 177 = .ok (.invokevirtual 298, 3) := by decide +kernel
theorem d_Model_collect_180 : decode b_Model_collect 180 = .ok (.istore_n 3, 1) := by decide +kernel
theorem d_Model_collect_181 : decode b_Model_collect 181 = .ok (.goto (-168), 3) := by decide +kernel
theorem d_Model_collect_184 : decode b_Model_collect 184 = .ok (.return_, 1) := by decide +kernel
theorem d_Model_regular_0 : decode b_Model_regular 0 = .ok (.iconst 0, 1) := by decide +kernel
theorem d_Model_regular_1 : decode b_Model_regular 1 = .ok (.istore_n 1, 1) := by decide +kernel
theorem d_Model_regular_2 : decode b_Model_regular 2 = .ok (.aload_n 0, 1) := by decide +kernel
theorem d_Model_regular_3 : decode b_Model_regular 3 = .ok (.getfield 76, 3) := by decide +kernel
theorem d_Model_regular_6 : decode b_Model_regular 6 = .ok (.aload_n 0, 1) := by decide +kernel
theorem d_Model_regular_7 : decode b_Model_regular 7 = .ok (.getfield 295, 3) := by decide +kernel
theorem d_Model_regular_10 : decode b_Model_regular 10 = .ok (.iconst 1, 1) := by decide +kernel
theorem d_Model_regular_11 : decode b_Model_regular 11 = .ok (.isub, 1) := by decide +kernel
theorem d_Model_regular_12 : decode b_Model_regular 12 = .ok (.iaload, 1) := by decide +kernel
theorem d_Model_regular_13 : decode b_Model_regular 13 = .ok (.ifCond .ne 7, 3) := by decide +kernel
theorem d_Model_regular_16 : decode b_Model_regular 16 = .ok (.iconst 1, 1) := by decide +kernel
theorem d_Model_regular_17 : decode b_Model_regular 17 = .ok (.goto 4, 3) := by decide +kernel
theorem d_Model_regular_20 : decode b_Model_regular 20 = .ok (.iconst 0, 1) := by decide +kernel
theorem d_Model_regular_21 : decode b_Model_regular 21 = .ok (.istore_n 2, 1) := by decide +kernel
theorem d_Model_regular_22 : decode b_Model_regular 22 = .ok (.iconst 0, 1) := by decide +kernel
theorem d_Model_regular_23 : decode b_Model_regular 23 = .ok (.istore_n 3, 1) := by decide +kernel
theorem d_Model_regular_24 : decode b_Model_regular 24 = .ok (.iload_n 3, 1) := by decide +kernel
theorem d_Model_regular_25 : decode b_Model_regular 25 = .ok (.aload_n 0, 1) := by decide +kernel
theorem d_Model_regular_26 : decode b_Model_regular 26 = .ok (.getfield 295, 3) := by decide +kernel
theorem d_Model_regular_29 : decode b_Model_regular 29 = .ok (.if_icmp .ge 104, 3) := by decide +kernel
theorem d_Model_regular_32 : decode b_Model_regular 32 = .ok (.iload_n 3, 1) := by decide +kernel
theorem d_Model_regular_33 : decode b_Model_regular 33 = .ok (.ifCond .eq 14, 3) := by decide +kernel
theorem d_Model_regular_36 : decode b_Model_regular 36 = .ok (.aload_n 0, 1) := by decide +kernel
theorem d_Model_regular_37 : decode b_Model_regular 37 = .ok (.getfield 76, 3) := by decide +kernel
theorem d_Model_regular_40 : decode b_Model_regular 40 = .ok (.iload_n 3, 1) := by decide +kernel
theorem d_Model_regular_41 : decode b_Model_regular 41 = .ok (.iconst 1, 1) := by decide +kernel
theorem d_Model_regular_42 : decode b_Model_regular 42 = .ok (.isub, 1) := by decide +kernel
theorem d_Model_regular_43 : decode b_Model_regular 43 = .ok (.iaload, 1) := by decide +kernel
theorem d_Model_regular_44 : decode b_Model_regular 44 = .ok (.ifCond .le 7, 3) := by decide +kernel
theorem d_Model_regular_47 : decode b_Model_regular 47 = .ok (.iconst 1, 1) := by decide +kernel
theorem d_Model_regular_48 : decode b_Model_regular 48 = .ok (.goto 4, 3) := by decide +kernel
theorem d_Model_regular_51 : decode b_Model_regular 51 = .ok (.iconst 0, 1) := by decide +kernel
theorem d_Model_regular_52 : decode b_Model_regular 52 = .ok (.istore 4, 2) := by decide +kernel
theorem d_Model_regular_54 : decode b_Model_regular 54 = .ok (.iload_n 1, 1) := by decide +kernel
theorem d_Model_regular_55 : decode b_Model_regular 55 = .ok (.ifCond .ne 12, 3) := by decide +kernel
theorem d_Model_regular_58 : decode b_Model_regular 58 = .ok (.aload_n 0, 1) := by decide +kernel
theorem d_Model_regular_59 : decode b_Model_regular 59 = .ok (.getfield 76, 3) := by decide +kernel
theorem d_Model_regular_62 : decode b_Model_regular 62 = .ok (.iload_n 3, 1) := by decide +kernel
theorem d_Model_regular_63 : decode b_Model_regular 63 = .ok (.iaload, 1) := by decide +kernel
theorem d_Model_regular_64 : decode b_Model_regular 64 = .ok (.ifCond .le 7, 3) := by decide +kernel
theorem d_Model_regular_67 : decode b_Model_regular 67 = .ok (.iconst 1, 1) := by decide +kernel
theorem d_Model_regular_68 : decode b_Model_regular 68 = .ok (.goto 4, 3) := by decide +kernel
theorem d_Model_regular_71 : decode b_Model_regular 71 = .ok (.iconst 0, 1) := by decide +kernel
theorem d_Model_regular_72 : decode b_Model_regular 72 = .ok (.istore_n 1, 1) := by decide +kernel
theorem d_Model_regular_73 : decode b_Model_regular 73 = .ok (.iload_n 2, 1) := by decide +kernel
theorem d_Model_regular_74 : decode b_Model_regular 74 = .ok (.ifCond .eq 29, 3) := by decide +kernel
theorem d_Model_regular_77 : decode b_Model_regular 77 = .ok (.aload_n 0, 1) := by decide +kernel
theorem d_Model_regular_78 : decode b_Model_regular 78 = .ok (.getfield 76, 3) := by decide +kernel
theorem d_Model_regular_81 : decode b_Model_regular 81 = .ok (.iload_n 3, 1) := by decide +kernel
theorem d_Model_regular_82 : decode b_Model_regular 82 = .ok (.iaload, 1) := by decide +kernel
theorem d_Model_regular_83 : decode b_Model_regular 83 = .ok (.ifCond .eq 16, 3) := by decide +kernel
theorem d_Model_regular_86 : decode b_Model_regular 86 = .ok (.iload 4, 2) := by decide +kernel
theorem d_Model_regular_88 : decode b_Model_regular 88 = .ok (.ifCond .eq 11, 3) := by decide +kernel
theorem d_Model_regular_91 : decode b_Model_regular 91 = .ok (.aload_n 0, 1) := by decide +kernel
theorem d_Model_regular_92 : decode b_Model_regular 92 = .ok (.iload_n 3, 1) := by decide +kernel
theorem d_Model_regular_93 : decode b_Model_regular 93 = .ok (.invokevirtual 304, 3) := by decide +kernel
theorem d_Model_regular_96 : decode b_Model_regular 96 = .ok (.ifCond .eq 7, 3) := by decide +kernel
theorem d_Model_regular_99 : decode b_Model_regular 99 = .ok (.iconst 1, 1) := by decide +kernel
theorem d_Model_regular_100 : decode b_Model_regular 100 = .ok (.goto 4, 3) := by decide +kernel
theorem d_Model_regular_103 : decode b_Model_regular 103 = .ok (.iconst 0, 1) := by decide +kernel
theorem d_Model_regular_104 : decode b_Model_regular 104 = .ok (.istore_n 2, 1) := by decide +kernel
theorem d_Model_regular_105 : decode b_Model_regular 105 = .ok (.aload_n 0, 1) := by decide +kernel
theorem d_Model_regular_106 : decode b_Model_regular 106 = .ok (.getfield 76, 3) := by decide +kernel
theorem d_Model_regular_109 : decode b_Model_regular 109 = .ok (.iload_n 3, 1) := by decide +kernel
theorem d_Model_regular_110 : decode b_Model_regular 110 = .ok (.iaload, 1) := by decide +kernel
theorem d_Model_regular_111 : decode b_Model_regular 111 = .ok (.iconst 1, 1) := by decide +kernel
theorem d_Model_regular_112 : decode b_Model_regular 112 = .ok (.if_icmp .ne 15, 3) := by decide +kernel
theorem d_Model_regular_115 : decode b_Model_regular 115 = .ok (.iload 4, 2) := by decide +kernel
theorem d_Model_regular_117 : decode b_Model_regular 117 = .ok (.ifCond .eq 10, 3) := by decide +kernel
theorem d_Model_regular_120 : decode b_Model_regular 120 = .ok (.aload_n 0, 1) := by decide +kernel
theorem d_Model_regular_121 : decode b_Model_regular 121 = .ok (.getfield 76, 3) := by decide +kernel
theorem d_Model_regular_124 : decode b_Model_regular 124 = .ok (.iload_n 3, 1) := by decide +kernel
theorem d_Model_regular_125 : decode b_Model_regular 125 = .ok (.iconst 2, 1) := by decide +kernel
theorem d_Model_regular_126 : decode b_Model_regular 126 = .ok (.iastore, 1) := by decide +kernel
theorem d_Model_regular_127 : decode b_Model_regular 127 = .ok (.iinc 3 1, 3) := by decide +kernel
theorem d_Model_regular_130 : decode b_Model_regular 130 = .ok (.goto (-106), 3) := by decide +kernel
theorem d_Model_regular_133 : decode b_Model_regular 133 = .ok (.iload_n 2, 1) := by decide +kernel
theorem d_Model_regular_134 : decode b_Model_regular 134 = .ok (.ifCond .eq 11, 3) := by decide +kernel
theorem d_Model_regular_137 : decode b_Model_regular 137 = .ok (.iload_n 1, 1) := by decide +kernel
theorem d_Model_regular_138 : decode b_Model_regular 138 = .ok (.ifCond .eq 7, 3) := by decide +kernel
theorem d_Model_regular_141 : decode b_Model_regular 141 = .ok (.iconst 1, 1) := by decide +kernel
theorem d_Model_regular_142 : decode b_Model_regular 142 = .ok (.goto 4, 3) := by decide +kernel
theorem d_Model_regular_145 : decode b_Model_regular 145 = .ok (.iconst 0, 1) := by decide +kernel
theorem d_Model_regular_146 : decode b_Model_regular 146 = .ok (.ireturn, 1) := by decide +kernel
theorem d_Model_fixed_0 : decode b_Model_fixed 0 = .ok (.aload_n 0, 1) := by decide +kernel
theorem d_Model_fixed_1 : decode b_Model_fixed 1 = .ok (.getfield 76, 3) := by decide +kernel
theorem d_Model_fixed_4 : decode b_Model_fixed 4 = .ok (.iload_n 1, 1) := by decide +kernel
theorem d_Model_fixed_5 : decode b_Model_fixed 5 = .ok (.iaload, 1) := by decide +kernel
theorem d_Model_fixed_6 : decode b_Model_fixed 6 = .ok (.iconst 2, 1) := by decide +kernel
theorem d_Model_fixed_7 : decode b_Model_fixed 7 = .ok (.if_icmp .ne 7, 3) := by decide +kernel
theorem d_Model_fixed_10 : decode b_Model_fixed 10 = .ok (.iconst (-1), 1) := by decide +kernel
theorem d_Model_fixed_11 : decode b_Model_fixed 11 = .ok (.goto 22, 3) := by decide +kernel
theorem d_Model_fixed_14 : decode b_Model_fixed 14 = .ok (.aload_n 0, 1) := by decide +kernel
theorem d_Model_fixed_15 : decode b_Model_fixed 15 = .ok (.aload_n 0, 1) := by decide +kernel
theorem d_Model_fixed_16 : decode b_Model_fixed 16 = .ok (.getfield 40, 3) := by decide +kernel
theorem d_Model_fixed_19 : decode b_Model_fixed 19 = .ok (.aload_n 0, 1) := by decide +kernel
theorem d_Model_fixed_20 : decode b_Model_fixed 20 = .ok (.aload_n 0, 1) := by decide +kernel
theorem d_Model_fixed_21 : decode b_Model_fixed 21 = .ok (.getfield 70, 3) := by decide +kernel
theorem d_Model_fixed_24 : decode b_Model_fixed 24 = .ok (.iload_n 1, 1) := by decide +kernel
theorem d_Model_fixed_25 : decode b_Model_fixed 25 = .ok (.iaload, 1) := by decide +kernel
theorem d_Model_fixed_26 : decode b_Model_fixed 26 = .ok (.invokevirtual 307, 3) := by decide +kernel
theorem d_Model_fixed_29 : decode b_Model_fixed 29 = .ok (.laload, 1) := by decide +kernel
theorem d_Model_fixed_30 : decode b_Model_fixed 30 = .ok (.invokevirtual 116, 3) := by decide +kernel
theorem d_Model_fixed_33 : decode b_Model_fixed 33 = .ok (.ireturn, 1) := by decide +kernel
theorem d_Model_level_0 : decode b_Model_level 0 = .ok (.aload_n 0, 1) := by decide +kernel
theorem d_Model_level_1 : decode b_Model_level 1 = .ok (.getfield 76, 3) := by decide +kernel
theorem d_Model_level_4 : decode b_Model_level 4 = .ok (.iload_n 1, 1) := by decide +kernel
theorem d_Model_level_5 : decode b_Model_level 5 = .ok (.iaload, 1) := by decide +kernel
theorem d_Model_level_6 : decode b_Model_level 6 = .ok (.iconst 2, 1) := by decide +kernel
theorem d_Model_level_7 : decode b_Model_level 7 = .ok (.if_icmp .ne 8, 3) := by decide +kernel
theorem d_Model_level_10 : decode b_Model_level 10 = .ok (.bipush 6, 2) := by decide +kernel
theorem d_Model_level_12 : decode b_Model_level 12 = .ok (.goto 26, 3) := by decide +kernel
theorem d_Model_level_15 : decode b_Model_level 15 = .ok (.aload_n 0, 1) := by decide +kernel
theorem d_Model_level_16 : decode b_Model_level 16 = .ok (.iload_n 1, 1) := by decide +kernel
theorem d_Model_level_17 : decode b_Model_level 17 = .ok (.invokevirtual 310, 3) := by decide +kernel
theorem d_Model_level_20 : decode b_Model_level 20 = .ok (.ifCond .ge 8, 3) := by decide +kernel
theorem d_Model_level_23 : decode b_Model_level 23 = .ok (.bipush 9, 2) := by decide +kernel
theorem d_Model_level_25 : decode b_Model_level 25 = .ok (.goto 13, 3) := by decide +kernel
theorem d_Model_level_28 : decode b_Model_level 28 = .ok (.aload_n 0, 1) := by decide +kernel
theorem d_Model_level_29 : decode b_Model_level 29 = .ok (.getfield 67, 3) := by decide +kernel
theorem d_Model_level_32 : decode b_Model_level 32 = .ok (.aload_n 0, 1) := by decide +kernel
theorem d_Model_level_33 : decode b_Model_level 33 = .ok (.iload_n 1, 1) := by decide +kernel
theorem d_Model_level_34 : decode b_Model_level 34 = .ok (.invokevirtual 310, 3) := by decide +kernel
theorem d_Model_level_37 : decode b_Model_level 37 = .ok (.iaload, 1) := by decide +kernel
theorem d_Model_level_38 : decode b_Model_level 38 = .ok (.ireturn, 1) := by decide +kernel
theorem d_Model_side_0 : decode b_Model_side 0 = .ok (.aload_n 0, 1) := by decide +kernel
theorem d_Model_side_1 : decode b_Model_side 1 = .ok (.getfield 76, 3) := by decide +kernel
theorem d_Model_side_4 : decode b_Model_side 4 = .ok (.iload_n 1, 1) := by decide +kernel
theorem d_Model_side_5 : decode b_Model_side 5 = .ok (.iaload, 1) := by decide +kernel
theorem d_Model_side_6 : decode b_Model_side 6 = .ok (.iconst 2, 1) := by decide +kernel
theorem d_Model_side_7 : decode b_Model_side 7 = .ok (.if_icmp .eq 11, 3) := by decide +kernel
theorem d_Model_side_10 : decode b_Model_side 10 = .ok (.aload_n 0, 1) := by decide +kernel
theorem d_Model_side_11 : decode b_Model_side 11 = .ok (.iload_n 1, 1) := by decide +kernel
theorem d_Model_side_12 : decode b_Model_side 12 = .ok (.invokevirtual 310, 3) := by decide +kernel
theorem d_Model_side_15 : decode b_Model_side 15 = .ok (.ifCond .ge 7, 3) := by decide +kernel
theorem d_Model_side_18 : decode b_Model_side 18 = .ok (.iconst 0, 1) := by decide +kernel
theorem d_Model_side_19 : decode b_Model_side 19 = .ok (.goto 13, 3) := by decide +kernel
theorem d_Model_side_22 : decode b_Model_side 22 = .ok (.aload_n 0, 1) := by decide +kernel
theorem d_Model_side_23 : decode b_Model_side 23 = .ok (.getfield 64, 3) := by decide +kernel
theorem d_Model_side_26 : decode b_Model_side 26 = .ok (.aload_n 0, 1) := by decide +kernel
theorem d_Model_side_27 : decode b_Model_side 27 = .ok (.iload_n 1, 1) := by decide +kernel
theorem d_Model_side_28 : decode b_Model_side 28 = .ok (.invokevirtual 310, 3) := by decide +kernel
theorem d_Model_side_31 : decode b_Model_side 31 = .ok (.iaload, 1) := by decide +kernel
theorem d_Model_side_32 : decode b_Model_side 32 = .ok (.ireturn, 1) := by decide +kernel
theorem d_Model_apply_0 : decode b_Model_apply 0 = .ok (.aload_n 0, 1) := by decide +kernel
theorem d_Model_apply_1 : decode b_Model_apply 1 = .ok (.dup, 1) := by decide +kernel
theorem d_Model_apply_2 : decode b_Model_apply 2 = .ok (.getfield 313, 3) := by decide +kernel
theorem d_Model_apply_5 : decode b_Model_apply 5 = .ok (.iconst 1, 1) := by decide +kernel
theorem d_Model_apply_6 : decode b_Model_apply 6 = .ok (.isub, 1) := by decide +kernel
theorem d_Model_apply_7 : decode b_Model_apply 7 = .ok (.putfield 313, 3) := by decide +kernel
theorem d_Model_apply_10 : decode b_Model_apply 10 = .ok (.aload_n 0, 1) := by decide +kernel
theorem d_Model_apply_11 : decode b_Model_apply 11 = .ok (.getfield 85, 3) := by decide +kernel
theorem d_Model_apply_14 : decode b_Model_apply 14 = .ok (.aload_n 0, 1) := by decide +kernel
theorem d_Model_apply_15 : decode b_Model_apply 15 = .ok (.getfield 313, 3) := by decide +kernel
theorem d_Model_apply_18 : decode b_Model_apply 18 = .ok (.iaload, 1) := by decide +kernel
theorem d_Model_apply_19 : decode b_Model_apply 19 = .ok (.istore_n 1, 1) := by decide +kernel
theorem d_Model_apply_20 : decode b_Model_apply 20 = .ok (.aload_n 0, 1) := by decide +kernel
theorem d_Model_apply_21 : decode b_Model_apply 21 = .ok (.getfield 76, 3) := by decide +kernel
theorem d_Model_apply_24 : decode b_Model_apply 24 = .ok (.iload_n 1, 1) := by decide +kernel
theorem d_Model_apply_25 : decode b_Model_apply 25 = .ok (.iaload, 1) := by decide +kernel
theorem d_Model_apply_26 : decode b_Model_apply 26 = .ok (.iconst 2, 1) := by decide +kernel
theorem d_Model_apply_27 : decode b_Model_apply 27 = .ok (.if_icmp .ne 12, 3) := by decide +kernel
theorem d_Model_apply_30 : decode b_Model_apply 30 = .ok (.aload_n 0, 1) := by decide +kernel
theorem d_Model_apply_31 : decode b_Model_apply 31 = .ok (.getfield 70, 3) := by decide +kernel
theorem d_Model_apply_34 : decode b_Model_apply 34 = .ok (.iload_n 1, 1) := by decide +kernel
theorem d_Model_apply_35 : decode b_Model_apply 35 = .ok (.iaload, 1) := by decide +kernel
theorem d_Model_apply_36 : decode b_Model_apply 36 = .ok (.goto 14, 3) := by decide +kernel
theorem d_Model_apply_39 : decode b_Model_apply 39 = .ok (.aload_n 0, 1) := by decide +kernel
theorem d_Model_apply_40 : decode b_Model_apply 40 = .ok (.getfield 79, 3) := by decide +kernel
theorem d_Model_apply_43 : decode b_Model_apply 43 = .ok (.aload_n 0, 1) := by decide +kernel
theorem d_Model_apply_44 : decode b_Model_apply 44 = .ok (.getfield 316, 3) := by decide +kernel
theorem d_Model_apply_47 : decode b_Model_apply 47 = .ok (.iconst 2, 1) := by decide +kernel
theorem d_Model_apply_48 : decode b_Model_apply 48 = .ok (.isub, 1) := by decide +kernel
theorem d_Model_apply_49 : decode b_Model_apply 49 = .ok (.iaload, 1) := by decide +kernel
theorem d_Model_apply_50 : decode b_Model_apply 50 = .ok (.istore_n 2, 1) := by decide +kernel
theorem d_Model_apply_51 : decode b_Model_apply 51 = .ok (.aload_n 0, 1) := by decide +kernel
theorem d_Model_apply_52 : decode b_Model_apply 52 = .ok (.dup, 1) := by decide +kernel
theorem d_Model_apply_53 : decode b_Model_apply 53 = .ok (.getfield 316, 3) := by decide +kernel
theorem d_Model_apply_56 : decode b_Model_apply 56 = .ok (.aload_n 0, 1) := by decide +kernel
theorem d_Model_apply_57 : decode b_Model_apply 57 = .ok (.getfield 76, 3) := by decide +kernel
theorem d_Model_apply_60 : decode b_Model_apply 60 = .ok (.iload_n 1, 1) := by decide +kernel
theorem d_Model_apply_61 : decode b_Model_apply 61 = .ok (.iaload, 1) := by decide +kernel
theorem d_Model_apply_62 : decode b_Model_apply 62 = .ok (.iconst 2, 1) := by decide +kernel
theorem d_Model_apply_63 : decode b_Model_apply 63 = .ok (.if_icmp .ne 7, 3) := by decide +kernel
theorem d_Model_apply_66 : decode b_Model_apply 66 = .ok (.iconst 0, 1) := by decide +kernel
theorem d_Model_apply_67 : decode b_Model_apply 67 = .ok (.goto 4, 3) := by decide +kernel
theorem d_Model_apply_70 : decode b_Model_apply 70 = .ok (.iconst 1, 1) := by decide +kernel
theorem d_Model_apply_71 : decode b_Model_apply 71 = .ok (.isub, 1) := by decide +kernel
theorem d_Model_apply_72 : decode b_Model_apply 72 = .ok (.putfield 316, 3) := by decide +kernel
theorem d_Model_apply_75 : decode b_Model_apply 75 = .ok (.aload_n 0, 1) := by decide +kernel
theorem d_Model_apply_76 : decode b_Model_apply 76 = .ok (.getfield 76, 3) := by decide +kernel
theorem d_Model_apply_79 : decode b_Model_apply 79 = .ok (.iload_n 1, 1) := by decide +kernel
theorem d_Model_apply_80 : decode b_Model_apply 80 = .ok (.iaload, 1) := by decide +kernel
theorem d_Model_apply_81 : decode b_Model_apply 81 = .ok (.iconst 2, 1) := by decide +kernel
theorem d_Model_apply_82 : decode b_Model_apply 82 = .ok (.if_icmp .ne 17, 3) := by decide +kernel
theorem d_Model_apply_85 : decode b_Model_apply 85 = .ok (.aload_n 0, 1) := by decide +kernel
theorem d_Model_apply_86 : decode b_Model_apply 86 = .ok (.getfield 82, 3) := by decide +kernel
theorem d_Model_apply_89 : decode b_Model_apply 89 = .ok (.aload_n 0, 1) := by decide +kernel
theorem d_Model_apply_90 : decode b_Model_apply 90 = .ok (.getfield 316, 3) := by decide +kernel
theorem d_Model_apply_93 : decode b_Model_apply 93 = .ok (.iconst 1, 1) := by decide +kernel
theorem d_Model_apply_94 : decode b_Model_apply 94 = .ok (.isub, 1) := by decide +kernel
theorem d_Model_apply_95 : decode b_Model_apply 95 = .ok (.iaload, 1) := by decide +kernel
theorem d_Model_apply_96 : decode b_Model_apply 96 = .ok (.goto 12, 3) := by decide +kernel
theorem d_Model_apply_99 : decode b_Model_apply 99 = .ok (.aload_n 0, 1) := by decide +kernel
theorem d_Model_apply_100 : decode b_Model_apply 100 = .ok (.getfield 82, 3) := by decide +kernel
theorem d_Model_apply_103 : decode b_Model_apply 103 = .ok (.aload_n 0, 1) := by decide +kernel
theorem d_Model_apply_104 : decode b_Model_apply 104 = .ok (.getfield 316, 3) := by decide +kernel
theorem d_Model_apply_107 : decode b_Model_apply 107 = .ok (.iaload, 1) := by decide +kernel
theorem d_Model_apply_108 : decode b_Model_apply 108 = .ok (.istore_n 3, 1) := by decide +kernel
theorem d_Model_apply_109 : decode b_Model_apply 109 = .ok (.aload_n 0, 1) := by decide +kernel
theorem d_Model_apply_110 : decode b_Model_apply 110 = .ok (.getfield 79, 3) := by decide +kernel
theorem d_Model_apply_113 : decode b_Model_apply 113 = .ok (.aload_n 0, 1) := by decide +kernel
theorem d_Model_apply_114 : decode b_Model_apply 114 = .ok (.getfield 316, 3) := by decide +kernel
theorem d_Model_apply_117 : decode b_Model_apply 117 = .ok (.iconst 1, 1) := by decide +kernel
theorem d_Model_apply_118 : decode b_Model_apply 118 = .ok (.isub, 1) := by decide +kernel
theorem d_Model_apply_119 : decode b_Model_apply 119 = .ok (.iload_n 2, 1) := by decide +kernel
theorem d_Model_apply_120 : decode b_Model_apply 120 = .ok (.iastore, 1) := by decide +kernel
theorem d_Model_apply_121 : decode b_Model_apply 121 = .ok (.aload_n 0, 1) := by decide +kernel
theorem d_Model_apply_122 : decode b_Model_apply 122 = .ok (.getfield 82, 3) := by decide +kernel
theorem d_Model_apply_125 : decode b_Model_apply 125 = .ok (.aload_n 0, 1) := by decide +kernel
theorem d_Model_apply_126 : decode b_Model_apply 126 = .ok (.getfield 316, 3) := by decide +kernel
theorem d_Model_apply_129 : decode b_Model_apply 129 = .ok (.iconst 1, 1) := by decide +kernel
theorem d_Model_apply_130 : decode b_Model_apply 130 = .ok (.isub, 1) := by decide +kernel
theorem d_Model_apply_131 : decode b_Model_apply 131 = .ok (.iload_n 3, 1) := by decide +kernel
theorem d_Model_apply_132 : decode b_Model_apply 132 = .ok (.iastore, 1) := by decide +kernel
theorem d_Model_apply_133 : decode b_Model_apply 133 = .ok (.aload_n 0, 1) := by decide +kernel
theorem d_Model_apply_134 : decode b_Model_apply 134 = .ok (.getfield 88, 3) := by decide +kernel
theorem d_Model_apply_137 : decode b_Model_apply 137 = .ok (.aload_n 0, 1) := by decide +kernel
theorem d_Model_apply_138 : decode b_Model_apply 138 = .ok (.getfield 319, 3) := by decide +kernel
theorem d_Model_apply_141 : decode b_Model_apply 141 = .ok (.iload_n 2, 1) := by decide +kernel
theorem d_Model_apply_142 : decode b_Model_apply 142 = .ok (.iastore, 1) := by decide +kernel
theorem d_Model_apply_143 : decode b_Model_apply 143 = .ok (.aload_n 0, 1) := by decide +kernel
theorem d_Model_apply_144 : decode b_Model_apply 144 = .ok (.getfield 91, 3) := by decide +kernel
theorem d_Model_apply_147 : decode b_Model_apply 147 = .ok (.aload_n 0, 1) := by decide +kernel
theorem d_Model_apply_148 : decode b_Model_apply 148 = .ok (.getfield 319, 3) := by decide +kernel
theorem d_Model_apply_151 : decode b_Model_apply 151 = .ok (.iload_n 3, 1) := by decide +kernel
theorem d_Model_apply_152 : decode b_Model_apply 152 = .ok (.iastore, 1) := by decide +kernel
theorem d_Model_apply_153 : decode b_Model_apply 153 = .ok (.aload_n 0, 1) := by decide +kernel
theorem d_Model_apply_154 : decode b_Model_apply 154 = .ok (.dup, 1) := by decide +kernel
theorem d_Model_apply_155 : decode b_Model_apply 155 = .ok (.getfield 319, 3) := by decide +kernel
theorem d_Model_apply_158 : decode b_Model_apply 158 = .ok (.iconst 1, 1) := by decide +kernel
theorem d_Model_apply_159 : decode b_Model_apply 159 = .ok (.iadd, 1) := by decide +kernel
theorem d_Model_apply_160 : decode b_Model_apply 160 = .ok (.putfield 319, 3) := by decide +kernel
theorem d_Model_apply_163 : decode b_Model_apply 163 = .ok (.return_, 1) := by decide +kernel
theorem d_Model_comes_0 : decode b_Model_comes 0 = .ok (.aload_n 0, 1) := by decide +kernel
theorem d_Model_comes_1 : decode b_Model_comes 1 = .ok (.getfield 76, 3) := by decide +kernel
theorem d_Model_comes_4 : decode b_Model_comes 4 = .ok (.iload_n 1, 1) := by decide +kernel
theorem d_Model_comes_5 : decode b_Model_comes 5 = .ok (.iaload, 1) := by decide +kernel
theorem d_Model_comes_6 : decode b_Model_comes 6 = .ok (.iconst 2, 1) := by decide +kernel
theorem d_Model_comes_7 : decode b_Model_comes 7 = .ok (.if_icmp .ne 31, 3) := by decide +kernel
theorem d_Model_comes_10 : decode b_Model_comes 10 = .ok (.aload_n 0, 1) := by decide +kernel
theorem d_Model_comes_11 : decode b_Model_comes 11 = .ok (.getfield 313, 3) := by decide +kernel
theorem d_Model_comes_14 : decode b_Model_comes 14 = .ok (.ifCond .le 141, 3) := by decide +kernel
theorem d_Model_comes_17 : decode b_Model_comes 17 = .ok (.aload_n 0, 1) := by decide +kernel
theorem d_Model_comes_18 : decode b_Model_comes 18 = .ok (.aload_n 0, 1) := by decide +kernel
theorem d_Model_comes_19 : decode b_Model_comes 19 = .ok (.getfield 85, 3) := by decide +kernel
theorem d_Model_comes_22 : decode b_Model_comes 22 = .ok (.aload_n 0, 1) := by decide +kernel
theorem d_Model_comes_23 : decode b_Model_comes 23 = .ok (.getfield 313, 3) := by decide +kernel
theorem d_Model_comes_26 : decode b_Model_comes 26 = .ok (.iconst 1, 1) := by decide +kernel
theorem d_Model_comes_27 : decode b_Model_comes 27 = .ok (.isub, 1) := by decide +kernel
theorem d_Model_comes_28 : decode b_Model_comes 28 = .ok (.iaload, 1) := by decide +kernel
theorem d_Model_comes_29 : decode b_Model_comes 29 = .ok (.invokevirtual 322, 3) := by decide +kernel
theorem d_Model_comes_32 : decode b_Model_comes 32 = .ok (.iconst 5, 1) := by decide +kernel
theorem d_Model_comes_33 : decode b_Model_comes 33 = .ok (.if_icmp .le 122, 3) := by decide +kernel
theorem d_Model_comes_36 : decode b_Model_comes 36 = .ok (.iconst 0, 1) := by decide +kernel
theorem d_Model_comes_37 : decode b_Model_comes 37 = .ok (.ireturn, 1) := by decide +kernel
theorem d_Model_comes_38 : decode b_Model_comes 38 = .ok (.iconst 1, 1) := by decide +kernel
theorem d_Model_comes_39 : decode b_Model_comes 39 = .ok (.istore_n 2, 1) := by decide +kernel
theorem d_Model_comes_40 : decode b_Model_comes 40 = .ok (.iload_n 2, 1) := by decide +kernel
