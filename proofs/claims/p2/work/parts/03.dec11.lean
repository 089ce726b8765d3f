theorem d_LF_token_21 : decode b_LF_token 21 = .ok (.aload_n 0, 1) := by decide +kernel
theorem d_LF_token_22 : decode b_LF_token 22 = .ok (.getfield 49, 3) := by decide +kernel
theorem d_LF_token_25 : decode b_LF_token 25 = .ok (.iload_n 1, 1) := by decide +kernel
theorem d_LF_token_26 : decode b_LF_token 26 = .ok (.invokevirtual 170, 3) := by decide +kernel
theorem d_LF_token_29 : decode b_LF_token 29 = .ok (.lreturn, 1) := by decide +kernel
theorem d_LF_count_0 : decode b_LF_count 0 = .ok (.iload_n 1, 1) := by decide +kernel
theorem d_LF_count_1 : decode b_LF_count 1 = .ok (.ifCond .lt 8, 3) := by decide +kernel
theorem d_LF_count_4 : decode b_LF_count 4 = .ok (.iload_n 1, 1) := by decide +kernel
theorem d_LF_count_5 : decode b_LF_count 5 = .ok (.iconst 5, 1) := by decide +kernel
theorem d_LF_count_6 : decode b_LF_count 6 = .ok (.if_icmp .lt 13, 3) := by decide +kernel
theorem d_LF_count_9 : decode b_LF_count 9 = .ok (.new 161, 3) := by decide +kernel
theorem d_LF_count_12 : decode b_LF_count 12 = .ok (.dup, 1) := by decide +kernel
theorem d_LF_count_13 : decode b_LF_count 13 = .ok (.ldc 174, 2) := by decide +kernel
theorem d_LF_count_15 : decode b_LF_count 15 = .ok (.invokespecial 165, 3) := by decide +kernel
theorem d_LF_count_18 : decode b_LF_count 18 = .ok (.athrow, 1) := by decide +kernel
theorem d_LF_count_19 : decode b_LF_count 19 = .ok (.aload_n 0, 1) := by decide +kernel
theorem d_LF_count_20 : decode b_LF_count 20 = .ok (.getfield 53, 3) := by decide +kernel
theorem d_LF_count_23 : decode b_LF_count 23 = .ok (.iload_n 1, 1) := by decide +kernel
theorem d_LF_count_24 : decode b_LF_count 24 = .ok (.iaload, 1) := by decide +kernel
theorem d_LF_count_25 : decode b_LF_count 25 = .ok (.ireturn, 1) := by decide +kernel
theorem d_Model_init_0 : decode b_Model_init 0 = .ok (.aload_n 0, 1) := by decide +kernel
theorem d_Model_init_1 : decode b_Model_init 1 = .ok (.invokespecial 1, 3) := by decide +kernel
theorem d_Model_init_4 : decode b_Model_init 4 = .ok (.aload_n 0, 1) := by decide +kernel
theorem d_Model_init_5 : decode b_Model_init 5 = .ok (.sipush 240, 3) := by decide +kernel
theorem d_Model_init_8 : decode b_Model_init 8 = .ok (.newarray .int, 2) := by decide +kernel
theorem d_Model_init_10 : decode b_Model_init 10 = .ok (.putfield 7, 3) := by decide +kernel
theorem d_Model_init_13 : decode b_Model_init 13 = .ok (.aload_n 0, 1) := by decide +kernel
theorem d_Model_init_14 : decode b_Model_init 14 = .ok (.iconst (-1), 1) := by decide +kernel
theorem d_Model_init_15 : decode b_Model_init 15 = .ok (.putfield 13, 3) := by decide +kernel
theorem d_Model_init_18 : decode b_Model_init 18 = .ok (.aload_n 0, 1) := by decide +kernel
theorem d_Model_init_19 : decode b_Model_init 19 = .ok (.bipush 91, 2) := by decide +kernel
theorem d_Model_init_21 : decode b_Model_init 21 = .ok (.newarray .int, 2) := by decide +kernel
theorem d_Model_init_23 : decode b_Model_init 23 = .ok (.putfield 17, 3) := by decide +kernel
theorem d_Model_init_26 : decode b_Model_init 26 = .ok (.aload_n 0, 1) := by decide +kernel
theorem d_Model_init_27 : decode b_Model_init 27 = .ok (.bipush 91, 2) := by decide +kernel
theorem d_Model_init_29 : decode b_Model_init 29 = .ok (.newarray .long, 2) := by decide +kernel
theorem d_Model_init_31 : decode b_Model_init 31 = .ok (.putfield 20, 3) := by decide +kernel
theorem d_Model_init_34 : decode b_Model_init 34 = .ok (.aload_n 0, 1) := by decide +kernel
theorem d_Model_init_35 : decode b_Model_init 35 = .ok (.bipush 91, 2) := by decide +kernel
theorem d_Model_init_37 : decode b_Model_init 37 = .ok (.newarray .int, 2) := by decide +kernel
theorem d_Model_init_39 : decode b_Model_init 39 = .ok (.putfield 24, 3) := by decide +kernel
theorem d_Model_init_42 : decode b_Model_init 42 = .ok (.aload_n 0, 1) := by decide +kernel
theorem d_Model_init_43 : decode b_Model_init 43 = .ok (.bipush 91, 2) := by decide +kernel
theorem d_Model_init_45 : decode b_Model_init 45 = .ok (.newarray .int, 2) := by decide +kernel
theorem d_Model_init_47 : decode b_Model_init 47 = .ok (.putfield 27, 3) := by decide +kernel
theorem d_Model_init_50 : decode b_Model_init 50 = .ok (.aload_n 0, 1) := by decide +kernel
theorem d_Model_init_51 : decode b_Model_init 51 = .ok (.bipush 91, 2) := by decide +kernel
theorem d_Model_init_53 : decode b_Model_init 53 = .ok (.newarray .boolean, 2) := by decide +kernel
theorem d_Model_init_55 : decode b_Model_init 55 = .ok (.putfield 30, 3) := by decide +kernel
theorem d_Model_init_58 : decode b_Model_init 58 = .ok (.aload_n 0, 1) := by decide +kernel
theorem d_Model_init_59 : decode b_Model_init 59 = .ok (.sipush 200, 3) := by decide +kernel
theorem d_Model_init_62 : decode b_Model_init 62 = .ok (.newarray .int, 2) := by decide +kernel
theorem d_Model_init_64 : decode b_Model_init 64 = .ok (.putfield 34, 3) := by decide +kernel
theorem d_Model_init_67 : decode b_Model_init 67 = .ok (.aload_n 0, 1) := by decide +kernel
theorem d_Model_init_68 : decode b_Model_init 68 = .ok (.sipush 600, 3) := by decide +kernel
theorem d_Model_init_71 : decode b_Model_init 71 = .ok (.newarray .int, 2) := by decide +kernel
theorem d_Model_init_73 : decode b_Model_init 73 = .ok (.putfield 37, 3) := by decide +kernel
theorem d_Model_init_76 : decode b_Model_init 76 = .ok (.aload_n 0, 1) := by decide +kernel
theorem d_Model_init_77 : decode b_Model_init 77 = .ok (.sipush 600, 3) := by decide +kernel
theorem d_Model_init_80 : decode b_Model_init 80 = .ok (.newarray .long, 2) := by decide +kernel
theorem d_Model_init_82 : decode b_Model_init 82 = .ok (.putfield 40, 3) := by decide +kernel
theorem d_Model_init_85 : decode b_Model_init 85 = .ok (.aload_n 0, 1) := by decide +kernel
theorem d_Model_init_86 : decode b_Model_init 86 = .ok (.sipush 600, 3) := by decide +kernel
theorem d_Model_init_89 : decode b_Model_init 89 = .ok (.newarray .int, 2) := by decide +kernel
theorem d_Model_init_91 : decode b_Model_init 91 = .ok (.putfield 43, 3) := by decide +kernel
theorem d_Model_init_94 : decode b_Model_init 94 = .ok (.aload_n 0, 1) := by decide +kernel
theorem d_Model_init_95 : decode b_Model_init 95 = .ok (.sipush 600, 3) := by decide +kernel
theorem d_Model_init_98 : decode b_Model_init 98 = .ok (.newarray .int, 2) := by decide +kernel
theorem d_Model_init_100 : decode b_Model_init 100 = .ok (.putfield 46, 3) := by decide +kernel
theorem d_Model_init_103 : decode b_Model_init 103 = .ok (.aload_n 0, 1) := by decide +kernel
theorem d_Model_init_104 : decode b_Model_init 104 = .ok (.sipush 600, 3) := by decide +kernel
theorem d_Model_init_107 : decode b_Model_init 107 = .ok (.newarray .int, 2) := by decide +kernel
theorem d_Model_init_109 : decode b_Model_init 109 = .ok (.putfield 49, 3) := by decide +kernel
theorem d_Model_init_112 : decode b_Model_init 112 = .ok (.aload_n 0, 1) := by decide +kernel
theorem d_Model_init_113 : decode b_Model_init 113 = .ok (.sipush 600, 3) := by decide +kernel
theorem d_Model_init_116 : decode b_Model_init 116 = .ok (.newarray .boolean, 2) := by decide +kernel
theorem d_Model_init_118 : decode b_Model_init 118 = .ok (.putfield 52, 3) := by decide +kernel
theorem d_Model_init_121 : decode b_Model_init 121 = .ok (.aload_n 0, 1) := by decide +kernel
theorem d_Model_init_122 : decode b_Model_init 122 = .ok (.sipush 900, 3) := by decide +kernel
theorem d_Model_init_125 : decode b_Model_init 125 = .ok (.newarray .int, 2) := by decide +kernel
theorem d_Model_init_127 : decode b_Model_init 127 = .ok (.putfield 55, 3) := by decide +kernel
theorem d_Model_init_130 : decode b_Model_init 130 = .ok (.aload_n 0, 1) := by decide +kernel
theorem d_Model_init_131 : decode b_Model_init 131 = .ok (.sipush 900, 3) := by decide +kernel
theorem d_Model_init_134 : decode b_Model_init 134 = .ok (.newarray .long, 2) := by decide +kernel
theorem d_Model_init_136 : decode b_Model_init 136 = .ok (.putfield 58, 3) := by decide +kernel
theorem d_Model_init_139 : decode b_Model_init 139 = .ok (.aload_n 0, 1) := by decide +kernel
theorem d_Model_init_140 : decode b_Model_init 140 = .ok (.bipush 12, 2) := by decide +kernel
theorem d_Model_init_142 : decode b_Model_init 142 = .ok (.newarray .long, 2) := by decide +kernel
theorem d_Model_init_144 : decode b_Model_init 144 = .ok (.putfield 61, 3) := by decide +kernel
theorem d_Model_init_147 : decode b_Model_init 147 = .ok (.aload_n 0, 1) := by decide +kernel
theorem d_Model_init_148 : decode b_Model_init 148 = .ok (.bipush 12, 2) := by decide +kernel
theorem d_Model_init_150 : decode b_Model_init 150 = .ok (.newarray .int, 2) := by decide +kernel
theorem d_Model_init_152 : decode b_Model_init 152 = .ok (.putfield 64, 3) := by decide +kernel
theorem d_Model_init_155 : decode b_Model_init 155 = .ok (.aload_n 0, 1) := by decide +kernel
theorem d_Model_init_156 : decode b_Model_init 156 = .ok (.bipush 12, 2) := by decide +kernel
theorem d_Model_init_158 : decode b_Model_init 158 = .ok (.newarray .int, 2) := by decide +kernel
theorem d_Model_init_160 : decode b_Model_init 160 = .ok (.putfield 67, 3) := by decide +kernel
theorem d_Model_init_163 : decode b_Model_init 163 = .ok (.aload_n 0, 1) := by decide +kernel
theorem d_Model_init_164 : decode b_Model_init 164 = .ok (.bipush 96, 2) := by decide +kernel
theorem d_Model_init_166 : decode b_Model_init 166 = .ok (.newarray .int, 2) := by decide +kernel
theorem d_Model_init_168 : decode b_Model_init 168 = .ok (.putfield 70, 3) := by decide +kernel
theorem d_Model_init_171 : decode b_Model_init 171 = .ok (.aload_n 0, 1) := by decide +kernel
theorem d_Model_init_172 : decode b_Model_init 172 = .ok (.bipush 96, 2) := by decide +kernel
theorem d_Model_init_174 : decode b_Model_init 174 = .ok (.newarray .int, 2) := by decide +kernel
theorem d_Model_init_176 : decode b_Model_init 176 = .ok (.putfield 73, 3) := by decide +kernel
theorem d_Model_init_179 : decode b_Model_init 179 = .ok (.aload_n 0, 1) := by decide +kernel
theorem d_Model_init_180 : decode b_Model_init 180 = .ok (.bipush 96, 2) := by decide +kernel
theorem d_Model_init_182 : decode b_Model_init 182 = .ok (.newarray .int, 2) := by decide +kernel
theorem d_Model_init_184 : decode b_Model_init 184 = .ok (.putfield 76, 3) := by decide +kernel
theorem d_Model_init_187 : decode b_Model_init 187 = .ok (.aload_n 0, 1) := by decide +kernel
theorem d_Model_init_188 : decode b_Model_init 188 = .ok (.bipush 96, 2) := by decide +kernel
theorem d_Model_init_190 : decode b_Model_init 190 = .ok (.newarray .int, 2) := by decide +kernel
theorem d_Model_init_192 : decode b_Model_init 192 = .ok (.putfield 79, 3) := by decide +kernel
theorem d_Model_init_195 : decode b_Model_init 195 = .ok (.aload_n 0, 1) := by decide +kernel
theorem d_Model_init_196 : decode b_Model_init 196 = .ok (.bipush 96, 2) := by decide +kernel
theorem d_Model_init_198 : decode b_Model_init 198 = .ok (.newarray .int, 2) := by decide +kernel
theorem d_Model_init_200 : decode b_Model_init 200 = .ok (.putfield 82, 3) := by decide +kernel
theorem d_Model_init_203 : decode b_Model_init 203 = .ok (.aload_n 0, 1) := by decide +kernel
theorem d_Model_init_204 : decode b_Model_init 204 = .ok (.bipush 96, 2) := by decide +kernel
theorem d_Model_init_206 : decode b_Model_init 206 = .ok (.newarray .int, 2) := by decide +kernel
theorem d_Model_init_208 : decode b_Model_init 208 = .ok (.putfield 85, 3) := by decide +kernel
theorem d_Model_init_211 : decode b_Model_init 211 = .ok (.aload_n 0, 1) := by decide +kernel
theorem d_Model_init_212 : decode b_Model_init 212 = .ok (.bipush 96, 2) := by decide +kernel
theorem d_Model_init_214 : decode b_Model_init 214 = .ok (.newarray .int, 2) := by decide +kernel
theorem d_Model_init_216 : decode b_Model_init 216 = .ok (.putfield 88, 3) := by decide +kernel
theorem d_Model_init_219 : decode b_Model_init 219 = .ok (.aload_n 0, 1) := by decide +kernel
theorem d_Model_init_220 : decode b_Model_init 220 = .ok (.bipush 96, 2) := by decide +kernel
theorem d_Model_init_222 : decode b_Model_init 222 = .ok (.newarray .int, 2) := by decide +kernel
theorem d_Model_init_224 : decode b_Model_init 224 = .ok (.putfield 91, 3) := by decide +kernel
theorem d_Model_init_227 : decode b_Model_init 227 = .ok (.aload_n 0, 1) := by decide +kernel
theorem d_Model_init_228 : decode b_Model_init 228 = .ok (.bipush 96, 2) := by decide +kernel
theorem d_Model_init_230 : decode b_Model_init 230 = .ok (.newarray .int, 2) := by decide +kernel
theorem d_Model_init_232 : decode b_Model_init 232 = .ok (.putfield 94, 3) := by decide +kernel
theorem d_Model_init_235 : decode b_Model_init 235 = .ok (.return_, 1) := by decide +kernel
theorem d_Model_thrown_0 : decode b_Model_thrown 0 = .ok (.aload_n 0, 1) := by decide +kernel
theorem d_Model_thrown_1 : decode b_Model_thrown 1 = .ok (.getfield 97, 3) := by decide +kernel
theorem d_Model_thrown_4 : decode b_Model_thrown 4 = .ok (.ireturn, 1) := by decide +kernel
theorem d_Model_fail_0 : decode b_Model_fail 0 = .ok (.aload_n 0, 1) := by decide +kernel
theorem d_Model_fail_1 : decode b_Model_fail 1 = .ok (.iload_n 1, 1) := by decide +kernel
theorem d_Model_fail_2 : decode b_Model_fail 2 = .ok (.putfield 97, 3) := by decide +kernel
theorem d_Model_fail_5 : decode b_Model_fail 5 = .ok (.iconst 0, 1) := by decide +kernel
theorem d_Model_fail_6 : decode b_Model_fail 6 = .ok (.ireturn, 1) := by decide +kernel
theorem d_Model_within_0 : decode b_Model_within 0 = .ok (.iload_n 0, 1) := by decide +kernel
theorem d_Model_within_1 : decode b_Model_within 1 = .ok (.iload_n 1, 1) := by decide +kernel
theorem d_Model_within_2 : decode b_Model_within 2 = .ok (.if_icmp .lt 12, 3) := by decide +kernel
theorem d_Model_within_5 : decode b_Model_within 5 = .ok (.iload_n 0, 1) := by decide +kernel
theorem d_Model_within_6 : decode b_Model_within 6 = .ok (.iload_n 2, 1) := by decide +kernel
theorem d_Model_within_7 : decode b_Model_within 7 = .ok (.if_icmp .gt 7, 3) := by decide +kernel
theorem d_Model_within_10 : decode b_Model_within 10 = .ok (.iconst 1, 1) := by decide +kernel
theorem d_Model_within_11 : decode b_Model_within 11 = .ok (.goto 4, 3) := by decide +kernel
theorem d_Model_within_14 : decode b_Model_within 14 = .ok (.iconst 0, 1) := by decide +kernel
theorem d_Model_within_15 : decode b_Model_within 15 = .ok (.ireturn, 1) := by decide +kernel
theorem d_Model_write_0 : decode b_Model_write 0 = .ok (.aload_n 0, 1) := by decide +kernel
theorem d_Model_write_1 : decode b_Model_write 1 = .ok (.iconst 0, 1) := by decide +kernel
theorem d_Model_write_2 : decode b_Model_write 2 = .ok (.putfield 97, 3) := by decide +kernel
theorem d_Model_write_5 : decode b_Model_write 5 = .ok (.iload_n 3, 1) := by decide +kernel
theorem d_Model_write_6 : decode b_Model_write 6 = .ok (.iconst 1, 1) := by decide +kernel
theorem d_Model_write_7 : decode b_Model_write 7 = .ok (.bipush 8, 2) := by decide +kernel
theorem d_Model_write_9 : decode b_Model_write 9 = .ok (.invokestatic 100, 3) := by decide +kernel
theorem d_Model_write_12 : decode b_Model_write 12 = .ok (.ifCond .ne 9, 3) := by decide +kernel
theorem d_Model_write_15 : decode b_Model_write 15 = .ok (.aload_n 0, 1) := by decide +kernel
theorem d_Model_write_16 : decode b_Model_write 16 = .ok (.iconst 1, 1) := by decide +kernel
theorem d_Model_write_17 : decode b_Model_write 17 = .ok (.invokevirtual 104, 3) := by decide +kernel
theorem d_Model_write_20 : decode b_Model_write 20 = .ok (.ireturn, 1) := by decide +kernel
theorem d_Model_write_21 : decode b_Model_write 21 = .ok (.iconst 1, 1) := by decide +kernel
theorem d_Model_write_22 : decode b_Model_write 22 = .ok (.istore 4, 2) := by decide +kernel
theorem d_Model_write_24 : decode b_Model_write 24 = .ok (.iconst 0, 1) := by decide +kernel
theorem d_Model_write_25 : decode b_Model_write 25 = .ok (.istore 5, 2) := by decide +kernel
theorem d_Model_write_27 : decode b_Model_write 27 = .ok (.iload 5, 2) := by decide +kernel
theorem d_Model_write_29 : decode b_Model_write 29 = .ok (.iload_n 3, 1) := by decide +kernel
theorem d_Model_write_30 : decode b_Model_write 30 = .ok (.if_icmp .ge 54, 3) := by decide +kernel
theorem d_Model_write_33 : decode b_Model_write 33 = .ok (.lload_n 1, 1) := by decide +kernel
theorem d_Model_write_34 : decode b_Model_write 34 = .ok (.bipush 8, 2) := by decide +kernel
theorem d_Model_write_36 : decode b_Model_write 36 = .ok (.iload 5, 2) := by decide +kernel
theorem d_Model_write_38 : decode b_Model_write 38 = .ok (.imul, 1) := by decide +kernel
theorem d_Model_write_39 : decode b_Model_write 39 = .ok (.lshr, 1) := by decide +kernel
theorem d_Model_write_40 : decode b_Model_write 40 = .ok (.ldc2_w 108, 3) := by decide +kernel
theorem d_Model_write_43 : decode b_Model_write 43 = .ok (.land, 1) := by decide +kernel
theorem d_Model_write_44 : decode b_Model_write 44 = .ok (.l2i, 1) := by decide +kernel
theorem d_Model_write_45 : decode b_Model_write 45 = .ok (.istore 6, 2) := by decide +kernel
theorem d_Model_write_47 : decode b_Model_write 47 = .ok (.iload 4, 2) := by decide +kernel
theorem d_Model_write_49 : decode b_Model_write 49 = .ok (.ifCond .eq 26, 3) := by decide +kernel
theorem d_Model_write_52 : decode b_Model_write 52 = .ok (.iload 6, 2) := by decide +kernel
theorem d_Model_write_54 : decode b_Model_write 54 = .ok (.bipush 10, 2) := by decide +kernel
theorem d_Model_write_56 : decode b_Model_write 56 = .ok (.if_icmp .eq 15, 3) := by decide +kernel
theorem d_Model_write_59 : decode b_Model_write 59 = .ok (.iload 6, 2) := by decide +kernel
theorem d_Model_write_61 : decode b_Model_write 61 = .ok (.bipush 32, 2) := by decide +kernel
theorem d_Model_write_63 : decode b_Model_write 63 = .ok (.bipush 126, 2) := by decide +kernel
theorem d_Model_write_65 : decode b_Model_write 65 = .ok (.invokestatic 100, 3) := by decide +kernel
theorem d_Model_write_68 : decode b_Model_write 68 = .ok (.ifCond .eq 7, 3) := by decide +kernel
theorem d_Model_write_71 : decode b_Model_write 71 = .ok (.iconst 1, 1) := by decide +kernel
theorem d_Model_write_72 : decode b_Model_write 72 = .ok (.goto 4, 3) := by decide +kernel
theorem d_Model_write_75 : decode b_Model_write 75 = .ok (.iconst 0, 1) := by decide +kernel
theorem d_Model_write_76 : decode b_Model_write 76 = .ok (.istore 4, 2) := by decide +kernel
theorem d_Model_write_78 : decode b_Model_write 78 = .ok (.iinc 5 1, 3) := by decide +kernel
theorem d_Model_write_81 : decode b_Model_write 81 = .ok (.goto (-54), 3) := by decide +kernel
theorem d_Model_write_84 : decode b_Model_write 84 = .ok (.iload 4, 2) := by decide +kernel
theorem d_Model_write_86 : decode b_Model_write 86 = .ok (.ifCond .ne 9, 3) := by decide +kernel
theorem d_Model_write_89 : decode b_Model_write 89 = .ok (.aload_n 0, 1) := by decide +kernel
theorem d_Model_write_90 : decode b_Model_write 90 = .ok (.iconst 1, 1) := by decide +kernel
theorem d_Model_write_91 : decode b_Model_write 91 = .ok (.invokevirtual 104, 3) := by decide +kernel
theorem d_Model_write_94 : decode b_Model_write 94 = .ok (.ireturn, 1) := by decide +kernel
theorem d_Model_write_95 : decode b_Model_write 95 = .ok (.aload_n 0, 1) := by decide +kernel
theorem d_Model_write_96 : decode b_Model_write 96 = .ok (.getfield 110, 3) := by decide +kernel
theorem d_Model_write_99 : decode b_Model_write 99 = .ok (.iload_n 3, 1) := by decide +kernel
theorem d_Model_write_100 : decode b_Model_write 100 = .ok (.iadd, 1) := by decide +kernel
theorem d_Model_write_101 : decode b_Model_write 101 = .ok (.sipush 240, 3) := by decide +kernel
theorem d_Model_write_104 : decode b_Model_write 104 = .ok (.if_icmp .le 9, 3) := by decide +kernel
theorem d_Model_write_107 : decode b_Model_write 107 = .ok (.aload_n 0, 1) := by decide +kernel
theorem d_Model_write_108 : decode b_Model_write 108 = .ok (.iconst 2, 1) := by decide +kernel
theorem d_Model_write_109 : decode b_Model_write 109 = .ok (.invokevirtual 104, 3) := by decide +kernel
theorem d_Model_write_112 : decode b_Model_write 112 = .ok (.ireturn, 1) := by decide +kernel
theorem d_Model_write_113 : decode b_Model_write 113 = .ok (.iconst 0, 1) := by decide +kernel
theorem d_Model_write_114 : decode b_Model_write 114 = .ok (.istore 5, 2) := by decide +kernel
theorem d_Model_write_116 : decode b_Model_write 116 = .ok (.iload 5, 2) := by decide +kernel
theorem d_Model_write_118 : decode b_Model_write 118 = .ok (.iload_n 3, 1) := by decide +kernel
theorem d_Model_write_119 : decode b_Model_write 119 = .ok (.if_icmp .ge 33, 3) := by decide +kernel
theorem d_Model_write_122 : decode b_Model_write 122 = .ok (.aload_n 0, 1) := by decide +kernel
theorem d_Model_write_123 : decode b_Model_write 123 = .ok (.getfield 7, 3) := by decide +kernel
theorem d_Model_write_126 : decode b_Model_write 126 = .ok (.aload_n 0, 1) := by decide +kernel
theorem d_Model_write_127 : decode b_Model_write 127 = .ok (.getfield 110, 3) := by decide +kernel
theorem d_Model_write_130 : decode b_Model_write 130 = .ok (.iload 5, 2) := by decide +kernel
theorem d_Model_write_132 : decode b_Model_write 132 = .ok (.iadd, 1) := by decide +kernel
theorem d_Model_write_133 : decode b_Model_write 133 = .ok (.lload_n 1, 1) := by decide +kernel
theorem d_Model_write_134 : decode b_Model_write 134 = .ok (.bipush 8, 2) := by decide +kernel
theorem d_Model_write_136 : decode b_Model_write 136 = .ok (.iload 5, 2) := by decide +kernel
theorem d_Model_write_138 : decode b_Model_write 138 = .ok (.imul, 1) := by decide +kernel
theorem d_Model_write_139 : decode b_Model_write 139 = .ok (.lshr, 1) := by decide +kernel
theorem d_Model_write_140 : decode b_Model_write 140 = .ok (.ldc2_w 108, 3) := by decide +kernel
theorem d_Model_write_143 : decode b_Model_write 143 = .ok (.land, 1) := by decide +kernel
theorem d_Model_write_144 : decode b_Model_write 144 = .ok (.l2i, 1) := by decide +kernel
theorem d_Model_write_145 : decode b_Model_write 145 = .ok (.iastore, 1) := by decide +kernel
theorem d_Model_write_146 : decode b_Model_write 146 = .ok (.iinc 5 1, 3) := by decide +kernel
theorem d_Model_write_149 : decode b_Model_write 149 = .ok (.goto (-33), 3) := by decide +kernel
theorem d_Model_write_152 : decode b_Model_write 152 = .ok (.aload_n 0, 1) := by decide +kernel
theorem d_Model_write_153 : decode b_Model_write 153 = .ok (.dup, 1) := by decide +kernel
theorem d_Model_write_154 : decode b_Model_write 154 = .ok (.getfield 110, 3) := by decide +kernel
theorem d_Model_write_157 : decode b_Model_write 157 = .ok (.iload_n 3, 1) := by decide +kernel
theorem d_Model_write_158 : decode b_Model_write 158 = .ok (.iadd, 1) := by decide +kernel
theorem d_Model_write_159 : decode b_Model_write 159 = .ok (.putfield 110, 3) := by decide +kernel
theorem d_Model_write_162 : decode b_Model_write 162 = .ok (.aload_n 0, 1) := by decide +kernel
theorem d_Model_write_163 : decode b_Model_write 163 = .ok (.getfield 110, 3) := by decide +kernel
theorem d_Model_write_166 : decode b_Model_write 166 = .ok (.ireturn, 1) := by decide +kernel
theorem d_Model_erase_0 : decode b_Model_erase 0 = .ok (.aload_n 0, 1) := by decide +kernel
theorem d_Model_erase_1 : decode b_Model_erase 1 = .ok (.iconst 0, 1) := by decide +kernel
theorem d_Model_erase_2 : decode b_Model_erase 2 = .ok (.putfield 97, 3) := by decide +kernel
theorem d_Model_erase_5 : decode b_Model_erase 5 = .ok (.aload_n 0, 1) := by decide +kernel
theorem d_Model_erase_6 : decode b_Model_erase 6 = .ok (.getfield 110, 3) := by decide +kernel
theorem d_Model_erase_9 : decode b_Model_erase 9 = .ok (.istore_n 1, 1) := by decide +kernel
theorem d_Model_erase_10 : decode b_Model_erase 10 = .ok (.aload_n 0, 1) := by decide +kernel
