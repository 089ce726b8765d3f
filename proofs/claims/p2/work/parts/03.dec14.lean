theorem d_Model_lexeme_147 : decode b_Model_lexeme 147 = .ok (.lload 4, 2) := by decide +kernel
theorem d_Model_lexeme_149 : decode b_Model_lexeme 149 = .ok (.lastore, 1) := by decide +kernel
theorem d_Model_lexeme_150 : decode b_Model_lexeme 150 = .ok (.aload_n 0, 1) := by decide +kernel
theorem d_Model_lexeme_151 : decode b_Model_lexeme 151 = .ok (.getfield 24, 3) := by decide +kernel
theorem d_Model_lexeme_154 : decode b_Model_lexeme 154 = .ok (.aload_n 0, 1) := by decide +kernel
theorem d_Model_lexeme_155 : decode b_Model_lexeme 155 = .ok (.getfield 144, 3) := by decide +kernel
theorem d_Model_lexeme_158 : decode b_Model_lexeme 158 = .ok (.aload_n 0, 1) := by decide +kernel
theorem d_Model_lexeme_159 : decode b_Model_lexeme 159 = .ok (.getfield 120, 3) := by decide +kernel
theorem d_Model_lexeme_162 : decode b_Model_lexeme 162 = .ok (.iastore, 1) := by decide +kernel
theorem d_Model_lexeme_163 : decode b_Model_lexeme 163 = .ok (.aload_n 0, 1) := by decide +kernel
theorem d_Model_lexeme_164 : decode b_Model_lexeme 164 = .ok (.getfield 27, 3) := by decide +kernel
theorem d_Model_lexeme_167 : decode b_Model_lexeme 167 = .ok (.aload_n 0, 1) := by decide +kernel
theorem d_Model_lexeme_168 : decode b_Model_lexeme 168 = .ok (.getfield 144, 3) := by decide +kernel
theorem d_Model_lexeme_171 : decode b_Model_lexeme 171 = .ok (.aload_n 0, 1) := by decide +kernel
theorem d_Model_lexeme_172 : decode b_Model_lexeme 172 = .ok (.getfield 120, 3) := by decide +kernel
theorem d_Model_lexeme_175 : decode b_Model_lexeme 175 = .ok (.iload_n 3, 1) := by decide +kernel
theorem d_Model_lexeme_176 : decode b_Model_lexeme 176 = .ok (.isub, 1) := by decide +kernel
theorem d_Model_lexeme_177 : decode b_Model_lexeme 177 = .ok (.iconst 1, 1) := by decide +kernel
theorem d_Model_lexeme_178 : decode b_Model_lexeme 178 = .ok (.iadd, 1) := by decide +kernel
theorem d_Model_lexeme_179 : decode b_Model_lexeme 179 = .ok (.iastore, 1) := by decide +kernel
theorem d_Model_lexeme_180 : decode b_Model_lexeme 180 = .ok (.aload_n 0, 1) := by decide +kernel
theorem d_Model_lexeme_181 : decode b_Model_lexeme 181 = .ok (.getfield 30, 3) := by decide +kernel
theorem d_Model_lexeme_184 : decode b_Model_lexeme 184 = .ok (.aload_n 0, 1) := by decide +kernel
theorem d_Model_lexeme_185 : decode b_Model_lexeme 185 = .ok (.getfield 144, 3) := by decide +kernel
theorem d_Model_lexeme_188 : decode b_Model_lexeme 188 = .ok (.aload_n 0, 1) := by decide +kernel
theorem d_Model_lexeme_189 : decode b_Model_lexeme 189 = .ok (.getfield 144, 3) := by decide +kernel
theorem d_Model_lexeme_192 : decode b_Model_lexeme 192 = .ok (.ifCond .eq 18, 3) := by decide +kernel
theorem d_Model_lexeme_195 : decode b_Model_lexeme 195 = .ok (.aload_n 0, 1) := by decide +kernel
theorem d_Model_lexeme_196 : decode b_Model_lexeme 196 = .ok (.getfield 24, 3) := by decide +kernel
theorem d_Model_lexeme_199 : decode b_Model_lexeme 199 = .ok (.aload_n 0, 1) := by decide +kernel
theorem d_Model_lexeme_200 : decode b_Model_lexeme 200 = .ok (.getfield 144, 3) := by decide +kernel
theorem d_Model_lexeme_203 : decode b_Model_lexeme 203 = .ok (.iconst 1, 1) := by decide +kernel
theorem d_Model_lexeme_204 : decode b_Model_lexeme 204 = .ok (.isub, 1) := by decide +kernel
theorem d_Model_lexeme_205 : decode b_Model_lexeme 205 = .ok (.iaload, 1) := by decide +kernel
theorem d_Model_lexeme_206 : decode b_Model_lexeme 206 = .ok (.iload_n 3, 1) := by decide +kernel
theorem d_Model_lexeme_207 : decode b_Model_lexeme 207 = .ok (.if_icmp .ge 7, 3) := by decide +kernel
theorem d_Model_lexeme_210 : decode b_Model_lexeme 210 = .ok (.iconst 1, 1) := by decide +kernel
theorem d_Model_lexeme_211 : decode b_Model_lexeme 211 = .ok (.goto 4, 3) := by decide +kernel
theorem d_Model_lexeme_214 : decode b_Model_lexeme 214 = .ok (.iconst 0, 1) := by decide +kernel
theorem d_Model_lexeme_215 : decode b_Model_lexeme 215 = .ok (.bastore, 1) := by decide +kernel
theorem d_Model_lexeme_216 : decode b_Model_lexeme 216 = .ok (.aload_n 0, 1) := by decide +kernel
theorem d_Model_lexeme_217 : decode b_Model_lexeme 217 = .ok (.dup, 1) := by decide +kernel
theorem d_Model_lexeme_218 : decode b_Model_lexeme 218 = .ok (.getfield 144, 3) := by decide +kernel
theorem d_Model_lexeme_221 : decode b_Model_lexeme 221 = .ok (.iconst 1, 1) := by decide +kernel
theorem d_Model_lexeme_222 : decode b_Model_lexeme 222 = .ok (.iadd, 1) := by decide +kernel
theorem d_Model_lexeme_223 : decode b_Model_lexeme 223 = .ok (.putfield 144, 3) := by decide +kernel
theorem d_Model_lexeme_226 : decode b_Model_lexeme 226 = .ok (.aload_n 0, 1) := by decide +kernel
theorem d_Model_lexeme_227 : decode b_Model_lexeme 227 = .ok (.dup, 1) := by decide +kernel
theorem d_Model_lexeme_228 : decode b_Model_lexeme 228 = .ok (.getfield 120, 3) := by decide +kernel
theorem d_Model_lexeme_231 : decode b_Model_lexeme 231 = .ok (.iload_n 2, 1) := by decide +kernel
theorem d_Model_lexeme_232 : decode b_Model_lexeme 232 = .ok (.iadd, 1) := by decide +kernel
theorem d_Model_lexeme_233 : decode b_Model_lexeme 233 = .ok (.putfield 120, 3) := by decide +kernel
theorem d_Model_lexeme_236 : decode b_Model_lexeme 236 = .ok (.return_, 1) := by decide +kernel
theorem d_Model_cut_0 : decode b_Model_cut 0 = .ok (.aload_n 0, 1) := by decide +kernel
theorem d_Model_cut_1 : decode b_Model_cut 1 = .ok (.iconst 0, 1) := by decide +kernel
theorem d_Model_cut_2 : decode b_Model_cut 2 = .ok (.putfield 120, 3) := by decide +kernel
theorem d_Model_cut_5 : decode b_Model_cut 5 = .ok (.aload_n 0, 1) := by decide +kernel
theorem d_Model_cut_6 : decode b_Model_cut 6 = .ok (.iconst 0, 1) := by decide +kernel
theorem d_Model_cut_7 : decode b_Model_cut 7 = .ok (.putfield 144, 3) := by decide +kernel
theorem d_Model_cut_10 : decode b_Model_cut 10 = .ok (.aload_n 0, 1) := by decide +kernel
theorem d_Model_cut_11 : decode b_Model_cut 11 = .ok (.getfield 120, 3) := by decide +kernel
theorem d_Model_cut_14 : decode b_Model_cut 14 = .ok (.aload_n 0, 1) := by decide +kernel
theorem d_Model_cut_15 : decode b_Model_cut 15 = .ok (.getfield 110, 3) := by decide +kernel
theorem d_Model_cut_18 : decode b_Model_cut 18 = .ok (.if_icmp .ge 227, 3) := by decide +kernel
theorem d_Model_cut_21 : decode b_Model_cut 21 = .ok (.aload_n 0, 1) := by decide +kernel
theorem d_Model_cut_22 : decode b_Model_cut 22 = .ok (.getfield 123, 3) := by decide +kernel
theorem d_Model_cut_25 : decode b_Model_cut 25 = .ok (.ifCond .ne 220, 3) := by decide +kernel
theorem d_Model_cut_28 : decode b_Model_cut 28 = .ok (.aload_n 0, 1) := by decide +kernel
theorem d_Model_cut_29 : decode b_Model_cut 29 = .ok (.invokevirtual 136, 3) := by decide +kernel
theorem d_Model_cut_32 : decode b_Model_cut 32 = .ok (.istore_n 1, 1) := by decide +kernel
theorem d_Model_cut_33 : decode b_Model_cut 33 = .ok (.iload_n 1, 1) := by decide +kernel
theorem d_Model_cut_34 : decode b_Model_cut 34 = .ok (.bipush 32, 2) := by decide +kernel
theorem d_Model_cut_36 : decode b_Model_cut 36 = .ok (.if_icmp .eq 9, 3) := by decide +kernel
theorem d_Model_cut_39 : decode b_Model_cut 39 = .ok (.iload_n 1, 1) := by decide +kernel
theorem d_Model_cut_40 : decode b_Model_cut 40 = .ok (.bipush 10, 2) := by decide +kernel
theorem d_Model_cut_42 : decode b_Model_cut 42 = .ok (.if_icmp .ne 16, 3) := by decide +kernel
theorem d_Model_cut_45 : decode b_Model_cut 45 = .ok (.aload_n 0, 1) := by decide +kernel
theorem d_Model_cut_46 : decode b_Model_cut 46 = .ok (.dup, 1) := by decide +kernel
theorem d_Model_cut_47 : decode b_Model_cut 47 = .ok (.getfield 120, 3) := by decide +kernel
theorem d_Model_cut_50 : decode b_Model_cut 50 = .ok (.iconst 1, 1) := by decide +kernel
theorem d_Model_cut_51 : decode b_Model_cut 51 = .ok (.iadd, 1) := by decide +kernel
theorem d_Model_cut_52 : decode b_Model_cut 52 = .ok (.putfield 120, 3) := by decide +kernel
theorem d_Model_cut_55 : decode b_Model_cut 55 = .ok (.goto 187, 3) := by decide +kernel
theorem d_Model_cut_58 : decode b_Model_cut 58 = .ok (.iload_n 1, 1) := by decide +kernel
theorem d_Model_cut_59 : decode b_Model_cut 59 = .ok (.bipush 123, 2) := by decide +kernel
theorem d_Model_cut_61 : decode b_Model_cut 61 = .ok (.if_icmp .ne 39, 3) := by decide +kernel
theorem d_Model_cut_64 : decode b_Model_cut 64 = .ok (.aload_n 0, 1) := by decide +kernel
theorem d_Model_cut_65 : decode b_Model_cut 65 = .ok (.getfield 120, 3) := by decide +kernel
theorem d_Model_cut_68 : decode b_Model_cut 68 = .ok (.iconst 1, 1) := by decide +kernel
theorem d_Model_cut_69 : decode b_Model_cut 69 = .ok (.iadd, 1) := by decide +kernel
theorem d_Model_cut_70 : decode b_Model_cut 70 = .ok (.aload_n 0, 1) := by decide +kernel
theorem d_Model_cut_71 : decode b_Model_cut 71 = .ok (.getfield 110, 3) := by decide +kernel
theorem d_Model_cut_74 : decode b_Model_cut 74 = .ok (.if_icmp .ge 26, 3) := by decide +kernel
theorem d_Model_cut_77 : decode b_Model_cut 77 = .ok (.aload_n 0, 1) := by decide +kernel
theorem d_Model_cut_78 : decode b_Model_cut 78 = .ok (.getfield 7, 3) := by decide +kernel
theorem d_Model_cut_81 : decode b_Model_cut 81 = .ok (.aload_n 0, 1) := by decide +kernel
theorem d_Model_cut_82 : decode b_Model_cut 82 = .ok (.getfield 120, 3) := by decide +kernel
theorem d_Model_cut_85 : decode b_Model_cut 85 = .ok (.iconst 1, 1) := by decide +kernel
theorem d_Model_cut_86 : decode b_Model_cut 86 = .ok (.iadd, 1) := by decide +kernel
theorem d_Model_cut_87 : decode b_Model_cut 87 = .ok (.iaload, 1) := by decide +kernel
theorem d_Model_cut_88 : decode b_Model_cut 88 = .ok (.bipush 45, 2) := by decide +kernel
theorem d_Model_cut_90 : decode b_Model_cut 90 = .ok (.if_icmp .ne 10, 3) := by decide +kernel
theorem d_Model_cut_93 : decode b_Model_cut 93 = .ok (.aload_n 0, 1) := by decide +kernel
theorem d_Model_cut_94 : decode b_Model_cut 94 = .ok (.invokevirtual 155, 3) := by decide +kernel
theorem d_Model_cut_97 : decode b_Model_cut 97 = .ok (.goto 145, 3) := by decide +kernel
theorem d_Model_cut_100 : decode b_Model_cut 100 = .ok (.iload_n 1, 1) := by decide +kernel
theorem d_Model_cut_101 : decode b_Model_cut 101 = .ok (.invokestatic 126, 3) := by decide +kernel
theorem d_Model_cut_104 : decode b_Model_cut 104 = .ok (.ifCond .eq 16, 3) := by decide +kernel
theorem d_Model_cut_107 : decode b_Model_cut 107 = .ok (.aload_n 0, 1) := by decide +kernel
theorem d_Model_cut_108 : decode b_Model_cut 108 = .ok (.iconst 0, 1) := by decide +kernel
theorem d_Model_cut_109 : decode b_Model_cut 109 = .ok (.aload_n 0, 1) := by decide +kernel
theorem d_Model_cut_110 : decode b_Model_cut 110 = .ok (.iconst 0, 1) := by decide +kernel
theorem d_Model_cut_111 : decode b_Model_cut 111 = .ok (.invokevirtual 158, 3) := by decide +kernel
theorem d_Model_cut_114 : decode b_Model_cut 114 = .ok (.invokevirtual 161, 3) := by decide +kernel
theorem d_Model_cut_117 : decode b_Model_cut 117 = .ok (.goto 125, 3) := by decide +kernel
theorem d_Model_cut_120 : decode b_Model_cut 120 = .ok (.iload_n 1, 1) := by decide +kernel
theorem d_Model_cut_121 : decode b_Model_cut 121 = .ok (.invokestatic 130, 3) := by decide +kernel
theorem d_Model_cut_124 : decode b_Model_cut 124 = .ok (.ifCond .eq 16, 3) := by decide +kernel
theorem d_Model_cut_127 : decode b_Model_cut 127 = .ok (.aload_n 0, 1) := by decide +kernel
theorem d_Model_cut_128 : decode b_Model_cut 128 = .ok (.iconst 1, 1) := by decide +kernel
theorem d_Model_cut_129 : decode b_Model_cut 129 = .ok (.aload_n 0, 1) := by decide +kernel
theorem d_Model_cut_130 : decode b_Model_cut 130 = .ok (.iconst 1, 1) := by decide +kernel
theorem d_Model_cut_131 : decode b_Model_cut 131 = .ok (.invokevirtual 158, 3) := by decide +kernel
theorem d_Model_cut_134 : decode b_Model_cut 134 = .ok (.invokevirtual 161, 3) := by decide +kernel
theorem d_Model_cut_137 : decode b_Model_cut 137 = .ok (.goto 105, 3) := by decide +kernel
theorem d_Model_cut_140 : decode b_Model_cut 140 = .ok (.iload_n 1, 1) := by decide +kernel
theorem d_Model_cut_141 : decode b_Model_cut 141 = .ok (.invokestatic 133, 3) := by decide +kernel
theorem d_Model_cut_144 : decode b_Model_cut 144 = .ok (.ifCond .eq 53, 3) := by decide +kernel
theorem d_Model_cut_147 : decode b_Model_cut 147 = .ok (.aload_n 0, 1) := by decide +kernel
theorem d_Model_cut_148 : decode b_Model_cut 148 = .ok (.aload_n 0, 1) := by decide +kernel
theorem d_Model_cut_149 : decode b_Model_cut 149 = .ok (.iconst 2, 1) := by decide +kernel
theorem d_Model_cut_150 : decode b_Model_cut 150 = .ok (.invokevirtual 158, 3) := by decide +kernel
theorem d_Model_cut_153 : decode b_Model_cut 153 = .ok (.invokevirtual 164, 3) := by decide +kernel
theorem d_Model_cut_156 : decode b_Model_cut 156 = .ok (.ifCond .eq 41, 3) := by decide +kernel
theorem d_Model_cut_159 : decode b_Model_cut 159 = .ok (.aload_n 0, 1) := by decide +kernel
theorem d_Model_cut_160 : decode b_Model_cut 160 = .ok (.getfield 120, 3) := by decide +kernel
theorem d_Model_cut_163 : decode b_Model_cut 163 = .ok (.aload_n 0, 1) := by decide +kernel
theorem d_Model_cut_164 : decode b_Model_cut 164 = .ok (.getfield 110, 3) := by decide +kernel
theorem d_Model_cut_167 : decode b_Model_cut 167 = .ok (.if_icmp .ge 75, 3) := by decide +kernel
theorem d_Model_cut_170 : decode b_Model_cut 170 = .ok (.aload_n 0, 1) := by decide +kernel
theorem d_Model_cut_171 : decode b_Model_cut 171 = .ok (.getfield 7, 3) := by decide +kernel
theorem d_Model_cut_174 : decode b_Model_cut 174 = .ok (.aload_n 0, 1) := by decide +kernel
theorem d_Model_cut_175 : decode b_Model_cut 175 = .ok (.getfield 120, 3) := by decide +kernel
theorem d_Model_cut_178 : decode b_Model_cut 178 = .ok (.iaload, 1) := by decide +kernel
theorem d_Model_cut_179 : decode b_Model_cut 179 = .ok (.bipush 10, 2) := by decide +kernel
theorem d_Model_cut_181 : decode b_Model_cut 181 = .ok (.if_icmp .eq 61, 3) := by decide +kernel
theorem d_Model_cut_184 : decode b_Model_cut 184 = .ok (.aload_n 0, 1) := by decide +kernel
theorem d_Model_cut_185 : decode b_Model_cut 185 = .ok (.dup, 1) := by decide +kernel
theorem d_Model_cut_186 : decode b_Model_cut 186 = .ok (.getfield 120, 3) := by decide +kernel
theorem d_Model_cut_189 : decode b_Model_cut 189 = .ok (.iconst 1, 1) := by decide +kernel
theorem d_Model_cut_190 : decode b_Model_cut 190 = .ok (.iadd, 1) := by decide +kernel
theorem d_Model_cut_191 : decode b_Model_cut 191 = .ok (.putfield 120, 3) := by decide +kernel
theorem d_Model_cut_194 : decode b_Model_cut 194 = .ok (.goto (-35), 3) := by decide +kernel
theorem d_Model_cut_197 : decode b_Model_cut 197 = .ok (.iload_n 1, 1) := by decide +kernel
theorem d_Model_cut_198 : decode b_Model_cut 198 = .ok (.invokestatic 133, 3) := by decide +kernel
theorem d_Model_cut_201 : decode b_Model_cut 201 = .ok (.ifCond .eq 16, 3) := by decide +kernel
theorem d_Model_cut_204 : decode b_Model_cut 204 = .ok (.aload_n 0, 1) := by decide +kernel
theorem d_Model_cut_205 : decode b_Model_cut 205 = .ok (.iconst 2, 1) := by decide +kernel
theorem d_Model_cut_206 : decode b_Model_cut 206 = .ok (.aload_n 0, 1) := by decide +kernel
theorem d_Model_cut_207 : decode b_Model_cut 207 = .ok (.iconst 2, 1) := by decide +kernel
theorem d_Model_cut_208 : decode b_Model_cut 208 = .ok (.invokevirtual 158, 3) := by decide +kernel
theorem d_Model_cut_211 : decode b_Model_cut 211 = .ok (.invokevirtual 161, 3) := by decide +kernel
theorem d_Model_cut_214 : decode b_Model_cut 214 = .ok (.goto 28, 3) := by decide +kernel
theorem d_Model_cut_217 : decode b_Model_cut 217 = .ok (.iload_n 1, 1) := by decide +kernel
theorem d_Model_cut_218 : decode b_Model_cut 218 = .ok (.invokestatic 167, 3) := by decide +kernel
theorem d_Model_cut_221 : decode b_Model_cut 221 = .ok (.ifCond .eq 12, 3) := by decide +kernel
theorem d_Model_cut_224 : decode b_Model_cut 224 = .ok (.aload_n 0, 1) := by decide +kernel
theorem d_Model_cut_225 : decode b_Model_cut 225 = .ok (.iconst 3, 1) := by decide +kernel
theorem d_Model_cut_226 : decode b_Model_cut 226 = .ok (.iconst 1, 1) := by decide +kernel
theorem d_Model_cut_227 : decode b_Model_cut 227 = .ok (.invokevirtual 161, 3) := by decide +kernel
theorem d_Model_cut_230 : decode b_Model_cut 230 = .ok (.goto 12, 3) := by decide +kernel
theorem d_Model_cut_233 : decode b_Model_cut 233 = .ok (.aload_n 0, 1) := by decide +kernel
theorem d_Model_cut_234 : decode b_Model_cut 234 = .ok (.iconst 1, 1) := by decide +kernel
theorem d_Model_cut_235 : decode b_Model_cut 235 = .ok (.aload_n 0, 1) := by decide +kernel
theorem d_Model_cut_236 : decode b_Model_cut 236 = .ok (.getfield 120, 3) := by decide +kernel
theorem d_Model_cut_239 : decode b_Model_cut 239 = .ok (.invokevirtual 140, 3) := by decide +kernel
theorem d_Model_cut_242 : decode b_Model_cut 242 = .ok (.goto (-232), 3) := by decide +kernel
theorem d_Model_cut_245 : decode b_Model_cut 245 = .ok (.return_, 1) := by decide +kernel
theorem d_Model_word_0 : decode b_Model_word 0 = .ok (.lload_n 0, 1) := by decide +kernel
theorem d_Model_word_1 : decode b_Model_word 1 = .ok (.ldc2_w 170, 3) := by decide +kernel
theorem d_Model_word_4 : decode b_Model_word 4 = .ok (.lcmp, 1) := by decide +kernel
theorem d_Model_word_5 : decode b_Model_word 5 = .ok (.ifCond .eq 67, 3) := by decide +kernel
theorem d_Model_word_8 : decode b_Model_word 8 = .ok (.lload_n 0, 1) := by decide +kernel
theorem d_Model_word_9 : decode b_Model_word 9 = .ok (.ldc2_w 172, 3) := by decide +kernel
theorem d_Model_word_12 : decode b_Model_word 12 = .ok (.lcmp, 1) := by decide +kernel
theorem d_Model_word_13 : decode b_Model_word 13 = .ok (.ifCond .eq 59, 3) := by decide +kernel
theorem d_Model_word_16 : decode b_Model_word 16 = .ok (.lload_n 0, 1) := by decide +kernel
theorem d_Model_word_17 : decode b_Model_word 17 = .ok (.ldc2_w 174, 3) := by decide +kernel
theorem d_Model_word_20 : decode b_Model_word 20 = .ok (.lcmp, 1) := by decide +kernel
theorem d_Model_word_21 : decode b_Model_word 21 = .ok (.ifCond .eq 51, 3) := by decide +kernel
theorem d_Model_word_24 : decode b_Model_word 24 = .ok (.lload_n 0, 1) := by decide +kernel
theorem d_Model_word_25 : decode b_Model_word 25 = .ok (.ldc2_w 176, 3) := by decide +kernel
theorem d_Model_word_28 : decode b_Model_word 28 = .ok (.lcmp, 1) := by decide +kernel
theorem d_Model_word_29 : decode b_Model_word 29 = .ok (.ifCond .eq 43, 3) := by decide +kernel
theorem d_Model_word_32 : decode b_Model_word 32 = .ok (.lload_n 0, 1) := by decide +kernel
theorem d_Model_word_33 : decode b_Model_word 33 = .ok (.ldc2_w 178, 3) := by decide +kernel
theorem d_Model_word_36 : decode b_Model_word 36 = .ok (.lcmp, 1) := by decide +kernel
theorem d_Model_word_37 : decode b_Model_word 37 = .ok (.ifCond .eq 35, 3) := by decide +kernel
theorem d_Model_word_40 : decode b_Model_word 40 = .ok (.lload_n 0, 1) := by decide +kernel
theorem d_Model_word_41 : decode b_Model_word 41 = .ok (.ldc2_w 180, 3) := by decide +kernel
theorem d_Model_word_44 : decode b_Model_word 44 = .ok (.lcmp, 1) := by decide +kernel
theorem d_Model_word_45 : decode b_Model_word 45 = .ok (.ifCond .eq 27, 3) := by decide +kernel
theorem d_Model_word_48 : decode b_Model_word 48 = .ok (.lload_n 0, 1) := by decide +kernel
theorem d_Model_word_49 : decode b_Model_word 49 = .ok (.ldc2_w 182, 3) := by decide +kernel
theorem d_Model_word_52 : decode b_Model_word 52 = .ok (.lcmp, 1) := by decide +kernel
theorem d_Model_word_53 : decode b_Model_word 53 = .ok (.ifCond .eq 19, 3) := by decide +kernel
theorem d_Model_word_56 : decode b_Model_word 56 = .ok (.lload_n 0, 1) := by decide +kernel
theorem d_Model_word_57 : decode b_Model_word 57 = .ok (.ldc2_w 184, 3) := by decide +kernel
theorem d_Model_word_60 : decode b_Model_word 60 = .ok (.lcmp, 1) := by decide +kernel
theorem d_Model_word_61 : decode b_Model_word 61 = .ok (.ifCond .eq 11, 3) := by decide +kernel
theorem d_Model_word_64 : decode b_Model_word 64 = .ok (.lload_n 0, 1) := by decide +kernel
theorem d_Model_word_65 : decode b_Model_word 65 = .ok (.ldc2_w 186, 3) := by decide +kernel
theorem d_Model_word_68 : decode b_Model_word 68 = .ok (.lcmp, 1) := by decide +kernel
theorem d_Model_word_69 : decode b_Model_word 69 = .ok (.ifCond .ne 7, 3) := by decide +kernel
theorem d_Model_word_72 : decode b_Model_word 72 = .ok (.iconst 1, 1) := by decide +kernel
theorem d_Model_word_73 : decode b_Model_word 73 = .ok (.goto 4, 3) := by decide +kernel
theorem d_Model_word_76 : decode b_Model_word 76 = .ok (.iconst 0, 1) := by decide +kernel
theorem d_Model_word_77 : decode b_Model_word 77 = .ok (.ireturn, 1) := by decide +kernel
theorem d_Model_emit_0 : decode b_Model_emit 0 = .ok (.aload_n 0, 1) := by decide +kernel
theorem d_Model_emit_1 : decode b_Model_emit 1 = .ok (.getfield 37, 3) := by decide +kernel
theorem d_Model_emit_4 : decode b_Model_emit 4 = .ok (.aload_n 0, 1) := by decide +kernel
theorem d_Model_emit_5 : decode b_Model_emit 5 = .ok (.getfield 188, 3) := by decide +kernel
theorem d_Model_emit_8 : decode b_Model_emit 8 = .ok (.iload_n 1, 1) := by decide +kernel
theorem d_Model_emit_9 : decode b_Model_emit 9 = .ok (.iastore, 1) := by decide +kernel
theorem d_Model_emit_10 : decode b_Model_emit 10 = .ok (.aload_n 0, 1) := by decide +kernel
theorem d_Model_emit_11 : decode b_Model_emit 11 = .ok (.getfield 40, 3) := by decide +kernel
theorem d_Model_emit_14 : decode b_Model_emit 14 = .ok (.aload_n 0, 1) := by decide +kernel
theorem d_Model_emit_15 : decode b_Model_emit 15 = .ok (.getfield 188, 3) := by decide +kernel
theorem d_Model_emit_18 : decode b_Model_emit 18 = .ok (.lload_n 2, 1) := by decide +kernel
theorem d_Model_emit_19 : decode b_Model_emit 19 = .ok (.lastore, 1) := by decide +kernel
theorem d_Model_emit_20 : decode b_Model_emit 20 = .ok (.aload_n 0, 1) := by decide +kernel
theorem d_Model_emit_21 : decode b_Model_emit 21 = .ok (.getfield 43, 3) := by decide +kernel
theorem d_Model_emit_24 : decode b_Model_emit 24 = .ok (.aload_n 0, 1) := by decide +kernel
theorem d_Model_emit_25 : decode b_Model_emit 25 = .ok (.getfield 188, 3) := by decide +kernel
theorem d_Model_emit_28 : decode b_Model_emit 28 = .ok (.iconst 0, 1) := by decide +kernel
theorem d_Model_emit_29 : decode b_Model_emit 29 = .ok (.iastore, 1) := by decide +kernel
theorem d_Model_emit_30 : decode b_Model_emit 30 = .ok (.aload_n 0, 1) := by decide +kernel
theorem d_Model_emit_31 : decode b_Model_emit 31 = .ok (.getfield 46, 3) := by decide +kernel
theorem d_Model_emit_34 : decode b_Model_emit 34 = .ok (.aload_n 0, 1) := by decide +kernel
theorem d_Model_emit_35 : decode b_Model_emit 35 = .ok (.getfield 188, 3) := by decide +kernel
theorem d_Model_emit_38 : decode b_Model_emit 38 = .ok (.iconst 0, 1) := by decide +kernel
theorem d_Model_emit_39 : decode b_Model_emit 39 = .ok (.iastore, 1) := by decide +kernel
theorem d_Model_emit_40 : decode b_Model_emit 40 = .ok (.aload_n 0, 1) := by decide +kernel
theorem d_Model_emit_41 : decode b_Model_emit 41 = .ok (.getfield 52, 3) := by decide +kernel
theorem d_Model_emit_44 : decode b_Model_emit 44 = .ok (.aload_n 0, 1) := by decide +kernel
theorem d_Model_emit_45 : decode b_Model_emit 45 = .ok (.getfield 188, 3) := by decide +kernel
theorem d_Model_emit_48 : decode b_Model_emit 48 = .ok (.iconst 0, 1) := by decide +kernel
theorem d_Model_emit_49 : decode b_Model_emit 49 = .ok (.bastore, 1) := by decide +kernel
theorem d_Model_emit_50 : decode b_Model_emit 50 = .ok (.aload_n 0, 1) := by decide +kernel
theorem d_Model_emit_51 : decode b_Model_emit 51 = .ok (.dup, 1) := by decide +kernel
