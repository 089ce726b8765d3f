theorem d_Model_run_87 : decode b_Model_run 87 = .ok (.goto 4, 3) := by decide +kernel
theorem d_Model_run_90 : decode b_Model_run 90 = .ok (.iconst 0, 1) := by decide +kernel
theorem d_Model_run_91 : decode b_Model_run 91 = .ok (.iadd, 1) := by decide +kernel
theorem d_Model_run_92 : decode b_Model_run 92 = .ok (.istore_n 2, 1) := by decide +kernel
theorem d_Model_run_93 : decode b_Model_run 93 = .ok (.goto (-86), 3) := by decide +kernel
theorem d_Model_run_96 : decode b_Model_run 96 = .ok (.iload_n 2, 1) := by decide +kernel
theorem d_Model_run_97 : decode b_Model_run 97 = .ok (.aload_n 0, 1) := by decide +kernel
theorem d_Model_run_98 : decode b_Model_run 98 = .ok (.getfield 120, 3) := by decide +kernel
theorem d_Model_run_101 : decode b_Model_run 101 = .ok (.isub, 1) := by decide +kernel
theorem d_Model_run_102 : decode b_Model_run 102 = .ok (.ireturn, 1) := by decide +kernel
theorem d_Model_dashes_0 : decode b_Model_dashes 0 = .ok (.iload_n 1, 1) := by decide +kernel
theorem d_Model_dashes_1 : decode b_Model_dashes 1 = .ok (.iconst 1, 1) := by decide +kernel
theorem d_Model_dashes_2 : decode b_Model_dashes 2 = .ok (.if_icmp .le 7, 3) := by decide +kernel
theorem d_Model_dashes_5 : decode b_Model_dashes 5 = .ok (.iconst 1, 1) := by decide +kernel
theorem d_Model_dashes_6 : decode b_Model_dashes 6 = .ok (.goto 4, 3) := by decide +kernel
theorem d_Model_dashes_9 : decode b_Model_dashes 9 = .ok (.iconst 0, 1) := by decide +kernel
theorem d_Model_dashes_10 : decode b_Model_dashes 10 = .ok (.istore_n 2, 1) := by decide +kernel
theorem d_Model_dashes_11 : decode b_Model_dashes 11 = .ok (.iconst 0, 1) := by decide +kernel
theorem d_Model_dashes_12 : decode b_Model_dashes 12 = .ok (.istore_n 3, 1) := by decide +kernel
theorem d_Model_dashes_13 : decode b_Model_dashes 13 = .ok (.iload_n 3, 1) := by decide +kernel
theorem d_Model_dashes_14 : decode b_Model_dashes 14 = .ok (.iload_n 1, 1) := by decide +kernel
theorem d_Model_dashes_15 : decode b_Model_dashes 15 = .ok (.if_icmp .ge 35, 3) := by decide +kernel
theorem d_Model_dashes_18 : decode b_Model_dashes 18 = .ok (.iload_n 2, 1) := by decide +kernel
theorem d_Model_dashes_19 : decode b_Model_dashes 19 = .ok (.ifCond .eq 23, 3) := by decide +kernel
theorem d_Model_dashes_22 : decode b_Model_dashes 22 = .ok (.aload_n 0, 1) := by decide +kernel
theorem d_Model_dashes_23 : decode b_Model_dashes 23 = .ok (.getfield 7, 3) := by decide +kernel
theorem d_Model_dashes_26 : decode b_Model_dashes 26 = .ok (.aload_n 0, 1) := by decide +kernel
theorem d_Model_dashes_27 : decode b_Model_dashes 27 = .ok (.getfield 120, 3) := by decide +kernel
theorem d_Model_dashes_30 : decode b_Model_dashes 30 = .ok (.iload_n 3, 1) := by decide +kernel
theorem d_Model_dashes_31 : decode b_Model_dashes 31 = .ok (.iadd, 1) := by decide +kernel
theorem d_Model_dashes_32 : decode b_Model_dashes 32 = .ok (.iaload, 1) := by decide +kernel
theorem d_Model_dashes_33 : decode b_Model_dashes 33 = .ok (.bipush 45, 2) := by decide +kernel
theorem d_Model_dashes_35 : decode b_Model_dashes 35 = .ok (.if_icmp .ne 7, 3) := by decide +kernel
theorem d_Model_dashes_38 : decode b_Model_dashes 38 = .ok (.iconst 1, 1) := by decide +kernel
theorem d_Model_dashes_39 : decode b_Model_dashes 39 = .ok (.goto 4, 3) := by decide +kernel
theorem d_Model_dashes_42 : decode b_Model_dashes 42 = .ok (.iconst 0, 1) := by decide +kernel
theorem d_Model_dashes_43 : decode b_Model_dashes 43 = .ok (.istore_n 2, 1) := by decide +kernel
theorem d_Model_dashes_44 : decode b_Model_dashes 44 = .ok (.iinc 3 1, 3) := by decide +kernel
theorem d_Model_dashes_47 : decode b_Model_dashes 47 = .ok (.goto (-34), 3) := by decide +kernel
theorem d_Model_dashes_50 : decode b_Model_dashes 50 = .ok (.iload_n 2, 1) := by decide +kernel
theorem d_Model_dashes_51 : decode b_Model_dashes 51 = .ok (.ireturn, 1) := by decide +kernel
theorem d_Model_nested_0 : decode b_Model_nested 0 = .ok (.aload_n 0, 1) := by decide +kernel
theorem d_Model_nested_1 : decode b_Model_nested 1 = .ok (.getfield 120, 3) := by decide +kernel
theorem d_Model_nested_4 : decode b_Model_nested 4 = .ok (.istore_n 1, 1) := by decide +kernel
theorem d_Model_nested_5 : decode b_Model_nested 5 = .ok (.iconst 0, 1) := by decide +kernel
theorem d_Model_nested_6 : decode b_Model_nested 6 = .ok (.istore_n 2, 1) := by decide +kernel
theorem d_Model_nested_7 : decode b_Model_nested 7 = .ok (.iconst 1, 1) := by decide +kernel
theorem d_Model_nested_8 : decode b_Model_nested 8 = .ok (.istore_n 3, 1) := by decide +kernel
theorem d_Model_nested_9 : decode b_Model_nested 9 = .ok (.iload_n 3, 1) := by decide +kernel
theorem d_Model_nested_10 : decode b_Model_nested 10 = .ok (.ifCond .eq 163, 3) := by decide +kernel
theorem d_Model_nested_13 : decode b_Model_nested 13 = .ok (.aload_n 0, 1) := by decide +kernel
theorem d_Model_nested_14 : decode b_Model_nested 14 = .ok (.invokevirtual 136, 3) := by decide +kernel
theorem d_Model_nested_17 : decode b_Model_nested 17 = .ok (.bipush 123, 2) := by decide +kernel
theorem d_Model_nested_19 : decode b_Model_nested 19 = .ok (.if_icmp .ne 36, 3) := by decide +kernel
theorem d_Model_nested_22 : decode b_Model_nested 22 = .ok (.aload_n 0, 1) := by decide +kernel
theorem d_Model_nested_23 : decode b_Model_nested 23 = .ok (.getfield 120, 3) := by decide +kernel
theorem d_Model_nested_26 : decode b_Model_nested 26 = .ok (.iconst 1, 1) := by decide +kernel
theorem d_Model_nested_27 : decode b_Model_nested 27 = .ok (.iadd, 1) := by decide +kernel
theorem d_Model_nested_28 : decode b_Model_nested 28 = .ok (.aload_n 0, 1) := by decide +kernel
theorem d_Model_nested_29 : decode b_Model_nested 29 = .ok (.getfield 110, 3) := by decide +kernel
theorem d_Model_nested_32 : decode b_Model_nested 32 = .ok (.if_icmp .ge 23, 3) := by decide +kernel
theorem d_Model_nested_35 : decode b_Model_nested 35 = .ok (.aload_n 0, 1) := by decide +kernel
theorem d_Model_nested_36 : decode b_Model_nested 36 = .ok (.getfield 7, 3) := by decide +kernel
theorem d_Model_nested_39 : decode b_Model_nested 39 = .ok (.aload_n 0, 1) := by decide +kernel
theorem d_Model_nested_40 : decode b_Model_nested 40 = .ok (.getfield 120, 3) := by decide +kernel
theorem d_Model_nested_43 : decode b_Model_nested 43 = .ok (.iconst 1, 1) := by decide +kernel
theorem d_Model_nested_44 : decode b_Model_nested 44 = .ok (.iadd, 1) := by decide +kernel
theorem d_Model_nested_45 : decode b_Model_nested 45 = .ok (.iaload, 1) := by decide +kernel
theorem d_Model_nested_46 : decode b_Model_nested 46 = .ok (.bipush 45, 2) := by decide +kernel
theorem d_Model_nested_48 : decode b_Model_nested 48 = .ok (.if_icmp .ne 7, 3) := by decide +kernel
theorem d_Model_nested_51 : decode b_Model_nested 51 = .ok (.iconst 1, 1) := by decide +kernel
theorem d_Model_nested_52 : decode b_Model_nested 52 = .ok (.goto 4, 3) := by decide +kernel
theorem d_Model_nested_55 : decode b_Model_nested 55 = .ok (.iconst 0, 1) := by decide +kernel
theorem d_Model_nested_56 : decode b_Model_nested 56 = .ok (.istore 4, 2) := by decide +kernel
theorem d_Model_nested_58 : decode b_Model_nested 58 = .ok (.aload_n 0, 1) := by decide +kernel
theorem d_Model_nested_59 : decode b_Model_nested 59 = .ok (.invokevirtual 136, 3) := by decide +kernel
theorem d_Model_nested_62 : decode b_Model_nested 62 = .ok (.bipush 45, 2) := by decide +kernel
theorem d_Model_nested_64 : decode b_Model_nested 64 = .ok (.if_icmp .ne 36, 3) := by decide +kernel
theorem d_Model_nested_67 : decode b_Model_nested 67 = .ok (.aload_n 0, 1) := by decide +kernel
theorem d_Model_nested_68 : decode b_Model_nested 68 = .ok (.getfield 120, 3) := by decide +kernel
theorem d_Model_nested_71 : decode b_Model_nested 71 = .ok (.iconst 1, 1) := by decide +kernel
theorem d_Model_nested_72 : decode b_Model_nested 72 = .ok (.iadd, 1) := by decide +kernel
theorem d_Model_nested_73 : decode b_Model_nested 73 = .ok (.aload_n 0, 1) := by decide +kernel
theorem d_Model_nested_74 : decode b_Model_nested 74 = .ok (.getfield 110, 3) := by decide +kernel
theorem d_Model_nested_77 : decode b_Model_nested 77 = .ok (.if_icmp .ge 23, 3) := by decide +kernel
theorem d_Model_nested_80 : decode b_Model_nested 80 = .ok (.aload_n 0, 1) := by decide +kernel
theorem d_Model_nested_81 : decode b_Model_nested 81 = .ok (.getfield 7, 3) := by decide +kernel
theorem d_Model_nested_84 : decode b_Model_nested 84 = .ok (.aload_n 0, 1) := by decide +kernel
theorem d_Model_nested_85 : decode b_Model_nested 85 = .ok (.getfield 120, 3) := by decide +kernel
theorem d_Model_nested_88 : decode b_Model_nested 88 = .ok (.iconst 1, 1) := by decide +kernel
theorem d_Model_nested_89 : decode b_Model_nested 89 = .ok (.iadd, 1) := by decide +kernel
theorem d_Model_nested_90 : decode b_Model_nested 90 = .ok (.iaload, 1) := by decide +kernel
theorem d_Model_nested_91 : decode b_Model_nested 91 = .ok (.bipush 125, 2) := by decide +kernel
theorem d_Model_nested_93 : decode b_Model_nested 93 = .ok (.if_icmp .ne 7, 3) := by decide +kernel
theorem d_Model_nested_96 : decode b_Model_nested 96 = .ok (.iconst 1, 1) := by decide +kernel
theorem d_Model_nested_97 : decode b_Model_nested 97 = .ok (.goto 4, 3) := by decide +kernel
theorem d_Model_nested_100 : decode b_Model_nested 100 = .ok (.iconst 0, 1) := by decide +kernel
theorem d_Model_nested_101 : decode b_Model_nested 101 = .ok (.istore 5, 2) := by decide +kernel
theorem d_Model_nested_103 : decode b_Model_nested 103 = .ok (.iload_n 2, 1) := by decide +kernel
theorem d_Model_nested_104 : decode b_Model_nested 104 = .ok (.iload 4, 2) := by decide +kernel
theorem d_Model_nested_106 : decode b_Model_nested 106 = .ok (.ifCond .eq 7, 3) := by decide +kernel
theorem d_Model_nested_109 : decode b_Model_nested 109 = .ok (.iconst 1, 1) := by decide +kernel
theorem d_Model_nested_110 : decode b_Model_nested 110 = .ok (.goto 13, 3) := by decide +kernel
theorem d_Model_nested_113 : decode b_Model_nested 113 = .ok (.iload 5, 2) := by decide +kernel
theorem d_Model_nested_115 : decode b_Model_nested 115 = .ok (.ifCond .eq 7, 3) := by decide +kernel
theorem d_Model_nested_118 : decode b_Model_nested 118 = .ok (.iconst (-1), 1) := by decide +kernel
theorem d_Model_nested_119 : decode b_Model_nested 119 = .ok (.goto 4, 3) := by decide +kernel
theorem d_Model_nested_122 : decode b_Model_nested 122 = .ok (.iconst 0, 1) := by decide +kernel
theorem d_Model_nested_123 : decode b_Model_nested 123 = .ok (.iadd, 1) := by decide +kernel
theorem d_Model_nested_124 : decode b_Model_nested 124 = .ok (.istore_n 2, 1) := by decide +kernel
theorem d_Model_nested_125 : decode b_Model_nested 125 = .ok (.aload_n 0, 1) := by decide +kernel
theorem d_Model_nested_126 : decode b_Model_nested 126 = .ok (.dup, 1) := by decide +kernel
theorem d_Model_nested_127 : decode b_Model_nested 127 = .ok (.getfield 120, 3) := by decide +kernel
theorem d_Model_nested_130 : decode b_Model_nested 130 = .ok (.iload 4, 2) := by decide +kernel
theorem d_Model_nested_132 : decode b_Model_nested 132 = .ok (.ifCond .ne 8, 3) := by decide +kernel
theorem d_Model_nested_135 : decode b_Model_nested 135 = .ok (.iload 5, 2) := by decide +kernel
theorem d_Model_nested_137 : decode b_Model_nested 137 = .ok (.ifCond .eq 7, 3) := by decide +kernel
theorem d_Model_nested_140 : decode b_Model_nested 140 = .ok (.iconst 2, 1) := by decide +kernel
theorem d_Model_nested_141 : decode b_Model_nested 141 = .ok (.goto 4, 3) := by decide +kernel
theorem d_Model_nested_144 : decode b_Model_nested 144 = .ok (.iconst 1, 1) := by decide +kernel
theorem d_Model_nested_145 : decode b_Model_nested 145 = .ok (.iadd, 1) := by decide +kernel
theorem d_Model_nested_146 : decode b_Model_nested 146 = .ok (.putfield 120, 3) := by decide +kernel
theorem d_Model_nested_149 : decode b_Model_nested 149 = .ok (.iload_n 2, 1) := by decide +kernel
theorem d_Model_nested_150 : decode b_Model_nested 150 = .ok (.ifCond .le 18, 3) := by decide +kernel
theorem d_Model_nested_153 : decode b_Model_nested 153 = .ok (.aload_n 0, 1) := by decide +kernel
theorem d_Model_nested_154 : decode b_Model_nested 154 = .ok (.getfield 120, 3) := by decide +kernel
theorem d_Model_nested_157 : decode b_Model_nested 157 = .ok (.aload_n 0, 1) := by decide +kernel
theorem d_Model_nested_158 : decode b_Model_nested 158 = .ok (.getfield 110, 3) := by decide +kernel
theorem d_Model_nested_161 : decode b_Model_nested 161 = .ok (.if_icmp .ge 7, 3) := by decide +kernel
theorem d_Model_nested_164 : decode b_Model_nested 164 = .ok (.iconst 1, 1) := by decide +kernel
theorem d_Model_nested_165 : decode b_Model_nested 165 = .ok (.goto 4, 3) := by decide +kernel
theorem d_Model_nested_168 : decode b_Model_nested 168 = .ok (.iconst 0, 1) := by decide +kernel
theorem d_Model_nested_169 : decode b_Model_nested 169 = .ok (.istore_n 3, 1) := by decide +kernel
theorem d_Model_nested_170 : decode b_Model_nested 170 = .ok (.goto (-161), 3) := by decide +kernel
theorem d_Model_nested_173 : decode b_Model_nested 173 = .ok (.iload_n 2, 1) := by decide +kernel
theorem d_Model_nested_174 : decode b_Model_nested 174 = .ok (.ifCond .le 9, 3) := by decide +kernel
theorem d_Model_nested_177 : decode b_Model_nested 177 = .ok (.aload_n 0, 1) := by decide +kernel
theorem d_Model_nested_178 : decode b_Model_nested 178 = .ok (.iconst 1, 1) := by decide +kernel
theorem d_Model_nested_179 : decode b_Model_nested 179 = .ok (.iload_n 1, 1) := by decide +kernel
theorem d_Model_nested_180 : decode b_Model_nested 180 = .ok (.invokevirtual 140, 3) := by decide +kernel
theorem d_Model_nested_183 : decode b_Model_nested 183 = .ok (.return_, 1) := by decide +kernel
theorem d_Model_packed_0 : decode b_Model_packed 0 = .ok (.lconst 0, 1) := by decide +kernel
theorem d_Model_packed_1 : decode b_Model_packed 1 = .ok (.lstore_n 2, 1) := by decide +kernel
theorem d_Model_packed_2 : decode b_Model_packed 2 = .ok (.iconst 0, 1) := by decide +kernel
theorem d_Model_packed_3 : decode b_Model_packed 3 = .ok (.istore 4, 2) := by decide +kernel
theorem d_Model_packed_5 : decode b_Model_packed 5 = .ok (.iload 4, 2) := by decide +kernel
theorem d_Model_packed_7 : decode b_Model_packed 7 = .ok (.iload_n 1, 1) := by decide +kernel
theorem d_Model_packed_8 : decode b_Model_packed 8 = .ok (.if_icmp .ge 38, 3) := by decide +kernel
theorem d_Model_packed_11 : decode b_Model_packed 11 = .ok (.iload 4, 2) := by decide +kernel
theorem d_Model_packed_13 : decode b_Model_packed 13 = .ok (.bipush 8, 2) := by decide +kernel
theorem d_Model_packed_15 : decode b_Model_packed 15 = .ok (.if_icmp .ge 31, 3) := by decide +kernel
theorem d_Model_packed_18 : decode b_Model_packed 18 = .ok (.lload_n 2, 1) := by decide +kernel
theorem d_Model_packed_19 : decode b_Model_packed 19 = .ok (.aload_n 0, 1) := by decide +kernel
theorem d_Model_packed_20 : decode b_Model_packed 20 = .ok (.getfield 7, 3) := by decide +kernel
theorem d_Model_packed_23 : decode b_Model_packed 23 = .ok (.aload_n 0, 1) := by decide +kernel
theorem d_Model_packed_24 : decode b_Model_packed 24 = .ok (.getfield 120, 3) := by decide +kernel
theorem d_Model_packed_27 : decode b_Model_packed 27 = .ok (.iload 4, 2) := by decide +kernel
theorem d_Model_packed_29 : decode b_Model_packed 29 = .ok (.iadd, 1) := by decide +kernel
theorem d_Model_packed_30 : decode b_Model_packed 30 = .ok (.iaload, 1) := by decide +kernel
theorem d_Model_packed_31 : decode b_Model_packed 31 = .ok (.i2l, 1) := by decide +kernel
theorem d_Model_packed_32 : decode b_Model_packed 32 = .ok (.bipush 8, 2) := by decide +kernel
theorem d_Model_packed_34 : decode b_Model_packed 34 = .ok (.iload 4, 2) := by decide +kernel
theorem d_Model_packed_36 : decode b_Model_packed 36 = .ok (.imul, 1) := by decide +kernel
theorem d_Model_packed_37 : decode b_Model_packed 37 = .ok (.lshl, 1) := by decide +kernel
theorem d_Model_packed_38 : decode b_Model_packed 38 = .ok (.lor, 1) := by decide +kernel
theorem d_Model_packed_39 : decode b_Model_packed 39 = .ok (.lstore_n 2, 1) := by decide +kernel
theorem d_Model_packed_40 : decode b_Model_packed 40 = .ok (.iinc 4 1, 3) := by decide +kernel
theorem d_Model_packed_43 : decode b_Model_packed 43 = .ok (.goto (-38), 3) := by decide +kernel
theorem d_Model_packed_46 : decode b_Model_packed 46 = .ok (.lload_n 2, 1) := by decide +kernel
theorem d_Model_packed_47 : decode b_Model_packed 47 = .ok (.lreturn, 1) := by decide +kernel
theorem d_Model_lexeme_0 : decode b_Model_lexeme 0 = .ok (.aload_n 0, 1) := by decide +kernel
theorem d_Model_lexeme_1 : decode b_Model_lexeme 1 = .ok (.getfield 144, 3) := by decide +kernel
theorem d_Model_lexeme_4 : decode b_Model_lexeme 4 = .ok (.bipush 90, 2) := by decide +kernel
theorem d_Model_lexeme_6 : decode b_Model_lexeme 6 = .ok (.if_icmp .ne 13, 3) := by decide +kernel
theorem d_Model_lexeme_9 : decode b_Model_lexeme 9 = .ok (.aload_n 0, 1) := by decide +kernel
theorem d_Model_lexeme_10 : decode b_Model_lexeme 10 = .ok (.iconst 2, 1) := by decide +kernel
theorem d_Model_lexeme_11 : decode b_Model_lexeme 11 = .ok (.aload_n 0, 1) := by decide +kernel
theorem d_Model_lexeme_12 : decode b_Model_lexeme 12 = .ok (.getfield 120, 3) := by decide +kernel
theorem d_Model_lexeme_15 : decode b_Model_lexeme 15 = .ok (.invokevirtual 140, 3) := by decide +kernel
theorem d_Model_lexeme_18 : decode b_Model_lexeme 18 = .ok (.return_, 1) := by decide +kernel
theorem d_Model_lexeme_19 : decode b_Model_lexeme 19 = .ok (.iload_n 2, 1) := by decide +kernel
theorem d_Model_lexeme_20 : decode b_Model_lexeme 20 = .ok (.iload_n 1, 1) := by decide +kernel
theorem d_Model_lexeme_21 : decode b_Model_lexeme 21 = .ok (.iconst 1, 1) := by decide +kernel
theorem d_Model_lexeme_22 : decode b_Model_lexeme 22 = .ok (.if_icmp .ne 8, 3) := by decide +kernel
theorem d_Model_lexeme_25 : decode b_Model_lexeme 25 = .ok (.bipush 9, 2) := by decide +kernel
theorem d_Model_lexeme_27 : decode b_Model_lexeme 27 = .ok (.goto 5, 3) := by decide +kernel
theorem d_Model_lexeme_30 : decode b_Model_lexeme 30 = .ok (.bipush 7, 2) := by decide +kernel
theorem d_Model_lexeme_32 : decode b_Model_lexeme 32 = .ok (.if_icmp .le 13, 3) := by decide +kernel
theorem d_Model_lexeme_35 : decode b_Model_lexeme 35 = .ok (.aload_n 0, 1) := by decide +kernel
theorem d_Model_lexeme_36 : decode b_Model_lexeme 36 = .ok (.iconst 1, 1) := by decide +kernel
theorem d_Model_lexeme_37 : decode b_Model_lexeme 37 = .ok (.aload_n 0, 1) := by decide +kernel
theorem d_Model_lexeme_38 : decode b_Model_lexeme 38 = .ok (.getfield 120, 3) := by decide +kernel
theorem d_Model_lexeme_41 : decode b_Model_lexeme 41 = .ok (.invokevirtual 140, 3) := by decide +kernel
theorem d_Model_lexeme_44 : decode b_Model_lexeme 44 = .ok (.return_, 1) := by decide +kernel
theorem d_Model_lexeme_45 : decode b_Model_lexeme 45 = .ok (.aload_n 0, 1) := by decide +kernel
theorem d_Model_lexeme_46 : decode b_Model_lexeme 46 = .ok (.getfield 120, 3) := by decide +kernel
theorem d_Model_lexeme_49 : decode b_Model_lexeme 49 = .ok (.istore_n 3, 1) := by decide +kernel
theorem d_Model_lexeme_50 : decode b_Model_lexeme 50 = .ok (.iload_n 3, 1) := by decide +kernel
theorem d_Model_lexeme_51 : decode b_Model_lexeme 51 = .ok (.ifCond .le 22, 3) := by decide +kernel
theorem d_Model_lexeme_54 : decode b_Model_lexeme 54 = .ok (.aload_n 0, 1) := by decide +kernel
theorem d_Model_lexeme_55 : decode b_Model_lexeme 55 = .ok (.getfield 7, 3) := by decide +kernel
theorem d_Model_lexeme_58 : decode b_Model_lexeme 58 = .ok (.iload_n 3, 1) := by decide +kernel
theorem d_Model_lexeme_59 : decode b_Model_lexeme 59 = .ok (.iconst 1, 1) := by decide +kernel
theorem d_Model_lexeme_60 : decode b_Model_lexeme 60 = .ok (.isub, 1) := by decide +kernel
theorem d_Model_lexeme_61 : decode b_Model_lexeme 61 = .ok (.iaload, 1) := by decide +kernel
theorem d_Model_lexeme_62 : decode b_Model_lexeme 62 = .ok (.bipush 10, 2) := by decide +kernel
theorem d_Model_lexeme_64 : decode b_Model_lexeme 64 = .ok (.if_icmp .eq 9, 3) := by decide +kernel
theorem d_Model_lexeme_67 : decode b_Model_lexeme 67 = .ok (.iinc 3 (-1), 3) := by decide +kernel
theorem d_Model_lexeme_70 : decode b_Model_lexeme 70 = .ok (.goto (-20), 3) := by decide +kernel
theorem d_Model_lexeme_73 : decode b_Model_lexeme 73 = .ok (.aload_n 0, 1) := by decide +kernel
theorem d_Model_lexeme_74 : decode b_Model_lexeme 74 = .ok (.iload_n 2, 1) := by decide +kernel
theorem d_Model_lexeme_75 : decode b_Model_lexeme 75 = .ok (.invokevirtual 147, 3) := by decide +kernel
theorem d_Model_lexeme_78 : decode b_Model_lexeme 78 = .ok (.lstore 4, 2) := by decide +kernel
theorem d_Model_lexeme_80 : decode b_Model_lexeme 80 = .ok (.iload_n 1, 1) := by decide +kernel
theorem d_Model_lexeme_81 : decode b_Model_lexeme 81 = .ok (.iconst 1, 1) := by decide +kernel
theorem d_Model_lexeme_82 : decode b_Model_lexeme 82 = .ok (.if_icmp .ne 47, 3) := by decide +kernel
theorem d_Model_lexeme_85 : decode b_Model_lexeme 85 = .ok (.lconst 0, 1) := by decide +kernel
theorem d_Model_lexeme_86 : decode b_Model_lexeme 86 = .ok (.lstore 4, 2) := by decide +kernel
theorem d_Model_lexeme_88 : decode b_Model_lexeme 88 = .ok (.iconst 0, 1) := by decide +kernel
theorem d_Model_lexeme_89 : decode b_Model_lexeme 89 = .ok (.istore 6, 2) := by decide +kernel
theorem d_Model_lexeme_91 : decode b_Model_lexeme 91 = .ok (.iload 6, 2) := by decide +kernel
theorem d_Model_lexeme_93 : decode b_Model_lexeme 93 = .ok (.iload_n 2, 1) := by decide +kernel
theorem d_Model_lexeme_94 : decode b_Model_lexeme 94 = .ok (.if_icmp .ge 35, 3) := by decide +kernel
theorem d_Model_lexeme_97 : decode b_Model_lexeme 97 = .ok (.ldc2_w 151, 3) := by decide +kernel
theorem d_Model_lexeme_100 : decode b_Model_lexeme 100 = .ok (.lload 4, 2) := by decide +kernel
theorem d_Model_lexeme_102 : decode b_Model_lexeme 102 = .ok (.lmul, 1) := by decide +kernel
theorem d_Model_lexeme_103 : decode b_Model_lexeme 103 = .ok (.aload_n 0, 1) := by decide +kernel
theorem d_Model_lexeme_104 : decode b_Model_lexeme 104 = .ok (.getfield 7, 3) := by decide +kernel
theorem d_Model_lexeme_107 : decode b_Model_lexeme 107 = .ok (.aload_n 0, 1) := by decide +kernel
theorem d_Model_lexeme_108 : decode b_Model_lexeme 108 = .ok (.getfield 120, 3) := by decide +kernel
theorem d_Model_lexeme_111 : decode b_Model_lexeme 111 = .ok (.iload 6, 2) := by decide +kernel
theorem d_Model_lexeme_113 : decode b_Model_lexeme 113 = .ok (.iadd, 1) := by decide +kernel
theorem d_Model_lexeme_114 : decode b_Model_lexeme 114 = .ok (.iaload, 1) := by decide +kernel
theorem d_Model_lexeme_115 : decode b_Model_lexeme 115 = .ok (.i2l, 1) := by decide +kernel
theorem d_Model_lexeme_116 : decode b_Model_lexeme 116 = .ok (.ladd, 1) := by decide +kernel
theorem d_Model_lexeme_117 : decode b_Model_lexeme 117 = .ok (.ldc2_w 153, 3) := by decide +kernel
theorem d_Model_lexeme_120 : decode b_Model_lexeme 120 = .ok (.lsub, 1) := by decide +kernel
theorem d_Model_lexeme_121 : decode b_Model_lexeme 121 = .ok (.lstore 4, 2) := by decide +kernel
theorem d_Model_lexeme_123 : decode b_Model_lexeme 123 = .ok (.iinc 6 1, 3) := by decide +kernel
theorem d_Model_lexeme_126 : decode b_Model_lexeme 126 = .ok (.goto (-35), 3) := by decide +kernel
theorem d_Model_lexeme_129 : decode b_Model_lexeme 129 = .ok (.aload_n 0, 1) := by decide +kernel
theorem d_Model_lexeme_130 : decode b_Model_lexeme 130 = .ok (.getfield 17, 3) := by decide +kernel
theorem d_Model_lexeme_133 : decode b_Model_lexeme 133 = .ok (.aload_n 0, 1) := by decide +kernel
theorem d_Model_lexeme_134 : decode b_Model_lexeme 134 = .ok (.getfield 144, 3) := by decide +kernel
theorem d_Model_lexeme_137 : decode b_Model_lexeme 137 = .ok (.iload_n 1, 1) := by decide +kernel
theorem d_Model_lexeme_138 : decode b_Model_lexeme 138 = .ok (.iastore, 1) := by decide +kernel
theorem d_Model_lexeme_139 : decode b_Model_lexeme 139 = .ok (.aload_n 0, 1) := by decide +kernel
theorem d_Model_lexeme_140 : decode b_Model_lexeme 140 = .ok (.getfield 20, 3) := by decide +kernel
theorem d_Model_lexeme_143 : decode b_Model_lexeme 143 = .ok (.aload_n 0, 1) := by decide +kernel
theorem d_Model_lexeme_144 : decode b_Model_lexeme 144 = .ok (.getfield 144, 3) := by decide +kernel
