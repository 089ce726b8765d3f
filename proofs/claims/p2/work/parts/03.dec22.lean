theorem d_Law_count_9 : decode b_Law_count 9 = .ok (.goto 6, 3) := by decide +kernel
theorem d_Law_count_12 : decode b_Law_count 12 = .ok (.astore_n 3, 1) := by decide +kernel
theorem d_Law_count_13 : decode b_Law_count 13 = .ok (.iconst 1, 1) := by decide +kernel
theorem d_Law_count_14 : decode b_Law_count 14 = .ok (.ireturn, 1) := by decide +kernel
theorem d_Law_count_15 : decode b_Law_count 15 = .ok (.iconst 0, 1) := by decide +kernel
theorem d_Law_count_16 : decode b_Law_count 16 = .ok (.ireturn, 1) := by decide +kernel
theorem d_Law_law_0 : decode code 0 = .ok (.new 8, 3) := by decide +kernel
theorem d_Law_law_3 : decode code 3 = .ok (.dup, 1) := by decide +kernel
theorem d_Law_law_4 : decode code 4 = .ok (.invokespecial 38, 3) := by decide +kernel
theorem d_Law_law_7 : decode code 7 = .ok (.astore_n 1, 1) := by decide +kernel
theorem d_Law_law_8 : decode code 8 = .ok (.new 39, 3) := by decide +kernel
theorem d_Law_law_11 : decode code 11 = .ok (.dup, 1) := by decide +kernel
theorem d_Law_law_12 : decode code 12 = .ok (.invokespecial 41, 3) := by decide +kernel
theorem d_Law_law_15 : decode code 15 = .ok (.astore_n 2, 1) := by decide +kernel
theorem d_Law_law_16 : decode code 16 = .ok (.iconst 1, 1) := by decide +kernel
theorem d_Law_law_17 : decode code 17 = .ok (.newarray .long, 2) := by decide +kernel
theorem d_Law_law_19 : decode code 19 = .ok (.astore_n 3, 1) := by decide +kernel
theorem d_Law_law_20 : decode code 20 = .ok (.iconst 0, 1) := by decide +kernel
theorem d_Law_law_21 : decode code 21 = .ok (.istore 4, 2) := by decide +kernel
theorem d_Law_law_23 : decode code 23 = .ok (.iload 4, 2) := by decide +kernel
theorem d_Law_law_25 : decode code 25 = .ok (.aload_n 0, 1) := by decide +kernel
theorem d_Law_law_26 : decode code 26 = .ok (.arraylength, 1) := by decide +kernel
theorem d_Law_law_27 : decode code 27 = .ok (.iconst 5, 1) := by decide +kernel
theorem d_Law_law_28 : decode code 28 = .ok (.isub, 1) := by decide +kernel
theorem d_Law_law_29 : decode code 29 = .ok (.if_icmp .gt 371, 3) := by decide +kernel
theorem d_Law_law_32 : decode code 32 = .ok (.aload_n 0, 1) := by decide +kernel
theorem d_Law_law_33 : decode code 33 = .ok (.iload 4, 2) := by decide +kernel
theorem d_Law_law_35 : decode code 35 = .ok (.iaload, 1) := by decide +kernel
theorem d_Law_law_36 : decode code 36 = .ok (.bipush 7, 2) := by decide +kernel
theorem d_Law_law_38 : decode code 38 = .ok (.iand, 1) := by decide +kernel
theorem d_Law_law_39 : decode code 39 = .ok (.tableswitch 355 0 7 #[45, 145, 158, 242, 258, 271, 299, 327], 45) := by decide +kernel
theorem d_Law_law_84 : decode code 84 = .ok (.aload_n 1, 1) := by decide +kernel
theorem d_Law_law_85 : decode code 85 = .ok (.aload_n 0, 1) := by decide +kernel
theorem d_Law_law_86 : decode code 86 = .ok (.iload 4, 2) := by decide +kernel
theorem d_Law_law_88 : decode code 88 = .ok (.iconst 1, 1) := by decide +kernel
theorem d_Law_law_89 : decode code 89 = .ok (.iadd, 1) := by decide +kernel
theorem d_Law_law_90 : decode code 90 = .ok (.iaload, 1) := by decide +kernel
theorem d_Law_law_91 : decode code 91 = .ok (.i2l, 1) := by decide +kernel
theorem d_Law_law_92 : decode code 92 = .ok (.bipush 32, 2) := by decide +kernel
theorem d_Law_law_94 : decode code 94 = .ok (.lshl, 1) := by decide +kernel
theorem d_Law_law_95 : decode code 95 = .ok (.aload_n 0, 1) := by decide +kernel
theorem d_Law_law_96 : decode code 96 = .ok (.iload 4, 2) := by decide +kernel
theorem d_Law_law_98 : decode code 98 = .ok (.iconst 2, 1) := by decide +kernel
theorem d_Law_law_99 : decode code 99 = .ok (.iadd, 1) := by decide +kernel
theorem d_Law_law_100 : decode code 100 = .ok (.iaload, 1) := by decide +kernel
theorem d_Law_law_101 : decode code 101 = .ok (.i2l, 1) := by decide +kernel
theorem d_Law_law_102 : decode code 102 = .ok (.ldc2_w 42, 3) := by decide +kernel
theorem d_Law_law_105 : decode code 105 = .ok (.land, 1) := by decide +kernel
theorem d_Law_law_106 : decode code 106 = .ok (.lor, 1) := by decide +kernel
theorem d_Law_law_107 : decode code 107 = .ok (.aload_n 0, 1) := by decide +kernel
theorem d_Law_law_108 : decode code 108 = .ok (.iload 4, 2) := by decide +kernel
theorem d_Law_law_110 : decode code 110 = .ok (.iconst 3, 1) := by decide +kernel
theorem d_Law_law_111 : decode code 111 = .ok (.iadd, 1) := by decide +kernel
theorem d_Law_law_112 : decode code 112 = .ok (.iaload, 1) := by decide +kernel
theorem d_Law_law_113 : decode code 113 = .ok (.aload_n 3, 1) := by decide +kernel
theorem d_Law_law_114 : decode code 114 = .ok (.invokestatic 44, 3) := by decide +kernel
theorem d_Law_law_117 : decode code 117 = .ok (.istore 5, 2) := by decide +kernel
theorem d_Law_law_119 : decode code 119 = .ok (.aload_n 2, 1) := by decide +kernel
theorem d_Law_law_120 : decode code 120 = .ok (.aload_n 0, 1) := by decide +kernel
theorem d_Law_law_121 : decode code 121 = .ok (.iload 4, 2) := by decide +kernel
theorem d_Law_law_123 : decode code 123 = .ok (.iconst 1, 1) := by decide +kernel
theorem d_Law_law_124 : decode code 124 = .ok (.iadd, 1) := by decide +kernel
theorem d_Law_law_125 : decode code 125 = .ok (.iaload, 1) := by decide +kernel
theorem d_Law_law_126 : decode code 126 = .ok (.i2l, 1) := by decide +kernel
theorem d_Law_law_127 : decode code 127 = .ok (.bipush 32, 2) := by decide +kernel
theorem d_Law_law_129 : decode code 129 = .ok (.lshl, 1) := by decide +kernel
theorem d_Law_law_130 : decode code 130 = .ok (.aload_n 0, 1) := by decide +kernel
theorem d_Law_law_131 : decode code 131 = .ok (.iload 4, 2) := by decide +kernel
theorem d_Law_law_133 : decode code 133 = .ok (.iconst 2, 1) := by decide +kernel
theorem d_Law_law_134 : decode code 134 = .ok (.iadd, 1) := by decide +kernel
theorem d_Law_law_135 : decode code 135 = .ok (.iaload, 1) := by decide +kernel
theorem d_Law_law_136 : decode code 136 = .ok (.i2l, 1) := by decide +kernel
theorem d_Law_law_137 : decode code 137 = .ok (.ldc2_w 42, 3) := by decide +kernel
theorem d_Law_law_140 : decode code 140 = .ok (.land, 1) := by decide +kernel
theorem d_Law_law_141 : decode code 141 = .ok (.lor, 1) := by decide +kernel
theorem d_Law_law_142 : decode code 142 = .ok (.aload_n 0, 1) := by decide +kernel
theorem d_Law_law_143 : decode code 143 = .ok (.iload 4, 2) := by decide +kernel
theorem d_Law_law_145 : decode code 145 = .ok (.iconst 3, 1) := by decide +kernel
theorem d_Law_law_146 : decode code 146 = .ok (.iadd, 1) := by decide +kernel
theorem d_Law_law_147 : decode code 147 = .ok (.iaload, 1) := by decide +kernel
theorem d_Law_law_148 : decode code 148 = .ok (.invokevirtual 49, 3) := by decide +kernel
theorem d_Law_law_151 : decode code 151 = .ok (.istore 6, 2) := by decide +kernel
theorem d_Law_law_153 : decode code 153 = .ok (.aload_n 2, 1) := by decide +kernel
theorem d_Law_law_154 : decode code 154 = .ok (.invokevirtual 50, 3) := by decide +kernel
theorem d_Law_law_157 : decode code 157 = .ok (.iload 5, 2) := by decide +kernel
theorem d_Law_law_159 : decode code 159 = .ok (.if_icmp .eq 5, 3) := by decide +kernel
theorem d_Law_law_162 : decode code 162 = .ok (.iconst 0, 1) := by decide +kernel
theorem d_Law_law_163 : decode code 163 = .ok (.ireturn, 1) := by decide +kernel
theorem d_Law_law_164 : decode code 164 = .ok (.iload 5, 2) := by decide +kernel
theorem d_Law_law_166 : decode code 166 = .ok (.ifCond .ne 15, 3) := by decide +kernel
theorem d_Law_law_169 : decode code 169 = .ok (.aload_n 3, 1) := by decide +kernel
theorem d_Law_law_170 : decode code 170 = .ok (.iconst 0, 1) := by decide +kernel
theorem d_Law_law_171 : decode code 171 = .ok (.laload, 1) := by decide +kernel
theorem d_Law_law_172 : decode code 172 = .ok (.iload 6, 2) := by decide +kernel
theorem d_Law_law_174 : decode code 174 = .ok (.i2l, 1) := by decide +kernel
theorem d_Law_law_175 : decode code 175 = .ok (.lcmp, 1) := by decide +kernel
theorem d_Law_law_176 : decode code 176 = .ok (.ifCond .eq 5, 3) := by decide +kernel
theorem d_Law_law_179 : decode code 179 = .ok (.iconst 0, 1) := by decide +kernel
theorem d_Law_law_180 : decode code 180 = .ok (.ireturn, 1) := by decide +kernel
theorem d_Law_law_181 : decode code 181 = .ok (.goto 213, 3) := by decide +kernel
theorem d_Law_law_184 : decode code 184 = .ok (.aload_n 1, 1) := by decide +kernel
theorem d_Law_law_185 : decode code 185 = .ok (.invokevirtual 53, 3) := by decide +kernel
theorem d_Law_law_188 : decode code 188 = .ok (.pop, 1) := by decide +kernel
theorem d_Law_law_189 : decode code 189 = .ok (.aload_n 2, 1) := by decide +kernel
theorem d_Law_law_190 : decode code 190 = .ok (.invokevirtual 56, 3) := by decide +kernel
theorem d_Law_law_193 : decode code 193 = .ok (.pop, 1) := by decide +kernel
theorem d_Law_law_194 : decode code 194 = .ok (.goto 200, 3) := by decide +kernel
theorem d_Law_law_197 : decode code 197 = .ok (.aload_n 1, 1) := by decide +kernel
theorem d_Law_law_198 : decode code 198 = .ok (.aload_n 0, 1) := by decide +kernel
theorem d_Law_law_199 : decode code 199 = .ok (.iload 4, 2) := by decide +kernel
theorem d_Law_law_201 : decode code 201 = .ok (.iconst 1, 1) := by decide +kernel
theorem d_Law_law_202 : decode code 202 = .ok (.iadd, 1) := by decide +kernel
theorem d_Law_law_203 : decode code 203 = .ok (.iaload, 1) := by decide +kernel
theorem d_Law_law_204 : decode code 204 = .ok (.i2l, 1) := by decide +kernel
theorem d_Law_law_205 : decode code 205 = .ok (.bipush 32, 2) := by decide +kernel
theorem d_Law_law_207 : decode code 207 = .ok (.lshl, 1) := by decide +kernel
theorem d_Law_law_208 : decode code 208 = .ok (.aload_n 0, 1) := by decide +kernel
theorem d_Law_law_209 : decode code 209 = .ok (.iload 4, 2) := by decide +kernel
theorem d_Law_law_211 : decode code 211 = .ok (.iconst 2, 1) := by decide +kernel
theorem d_Law_law_212 : decode code 212 = .ok (.iadd, 1) := by decide +kernel
theorem d_Law_law_213 : decode code 213 = .ok (.iaload, 1) := by decide +kernel
theorem d_Law_law_214 : decode code 214 = .ok (.i2l, 1) := by decide +kernel
theorem d_Law_law_215 : decode code 215 = .ok (.ldc2_w 42, 3) := by decide +kernel
theorem d_Law_law_218 : decode code 218 = .ok (.land, 1) := by decide +kernel
theorem d_Law_law_219 : decode code 219 = .ok (.lor, 1) := by decide +kernel
theorem d_Law_law_220 : decode code 220 = .ok (.aload_n 0, 1) := by decide +kernel
theorem d_Law_law_221 : decode code 221 = .ok (.iload 4, 2) := by decide +kernel
theorem d_Law_law_223 : decode code 223 = .ok (.iconst 3, 1) := by decide +kernel
theorem d_Law_law_224 : decode code 224 = .ok (.iadd, 1) := by decide +kernel
theorem d_Law_law_225 : decode code 225 = .ok (.iaload, 1) := by decide +kernel
theorem d_Law_law_226 : decode code 226 = .ok (.aload_n 0, 1) := by decide +kernel
theorem d_Law_law_227 : decode code 227 = .ok (.iload 4, 2) := by decide +kernel
theorem d_Law_law_229 : decode code 229 = .ok (.iconst 4, 1) := by decide +kernel
theorem d_Law_law_230 : decode code 230 = .ok (.iadd, 1) := by decide +kernel
theorem d_Law_law_231 : decode code 231 = .ok (.iaload, 1) := by decide +kernel
theorem d_Law_law_232 : decode code 232 = .ok (.aload_n 3, 1) := by decide +kernel
theorem d_Law_law_233 : decode code 233 = .ok (.invokestatic 57, 3) := by decide +kernel
theorem d_Law_law_236 : decode code 236 = .ok (.istore 5, 2) := by decide +kernel
theorem d_Law_law_238 : decode code 238 = .ok (.aload_n 2, 1) := by decide +kernel
theorem d_Law_law_239 : decode code 239 = .ok (.aload_n 0, 1) := by decide +kernel
theorem d_Law_law_240 : decode code 240 = .ok (.iload 4, 2) := by decide +kernel
theorem d_Law_law_242 : decode code 242 = .ok (.iconst 1, 1) := by decide +kernel
theorem d_Law_law_243 : decode code 243 = .ok (.iadd, 1) := by decide +kernel
theorem d_Law_law_244 : decode code 244 = .ok (.iaload, 1) := by decide +kernel
theorem d_Law_law_245 : decode code 245 = .ok (.i2l, 1) := by decide +kernel
theorem d_Law_law_246 : decode code 246 = .ok (.bipush 32, 2) := by decide +kernel
theorem d_Law_law_248 : decode code 248 = .ok (.lshl, 1) := by decide +kernel
theorem d_Law_law_249 : decode code 249 = .ok (.aload_n 0, 1) := by decide +kernel
theorem d_Law_law_250 : decode code 250 = .ok (.iload 4, 2) := by decide +kernel
theorem d_Law_law_252 : decode code 252 = .ok (.iconst 2, 1) := by decide +kernel
theorem d_Law_law_253 : decode code 253 = .ok (.iadd, 1) := by decide +kernel
theorem d_Law_law_254 : decode code 254 = .ok (.iaload, 1) := by decide +kernel
theorem d_Law_law_255 : decode code 255 = .ok (.i2l, 1) := by decide +kernel
theorem d_Law_law_256 : decode code 256 = .ok (.ldc2_w 42, 3) := by decide +kernel
theorem d_Law_law_259 : decode code 259 = .ok (.land, 1) := by decide +kernel
theorem d_Law_law_260 : decode code 260 = .ok (.lor, 1) := by decide +kernel
theorem d_Law_law_261 : decode code 261 = .ok (.aload_n 0, 1) := by decide +kernel
theorem d_Law_law_262 : decode code 262 = .ok (.iload 4, 2) := by decide +kernel
theorem d_Law_law_264 : decode code 264 = .ok (.iconst 3, 1) := by decide +kernel
theorem d_Law_law_265 : decode code 265 = .ok (.iadd, 1) := by decide +kernel
theorem d_Law_law_266 : decode code 266 = .ok (.iaload, 1) := by decide +kernel
theorem d_Law_law_267 : decode code 267 = .ok (.aload_n 0, 1) := by decide +kernel
theorem d_Law_law_268 : decode code 268 = .ok (.iload 4, 2) := by decide +kernel
theorem d_Law_law_270 : decode code 270 = .ok (.iconst 4, 1) := by decide +kernel
theorem d_Law_law_271 : decode code 271 = .ok (.iadd, 1) := by decide +kernel
theorem d_Law_law_272 : decode code 272 = .ok (.iaload, 1) := by decide +kernel
theorem d_Law_law_273 : decode code 273 = .ok (.invokevirtual 60, 3) := by decide +kernel
theorem d_Law_law_276 : decode code 276 = .ok (.istore 6, 2) := by decide +kernel
theorem d_Law_law_278 : decode code 278 = .ok (.goto 116, 3) := by decide +kernel
theorem d_Law_law_281 : decode code 281 = .ok (.aload_n 1, 1) := by decide +kernel
theorem d_Law_law_282 : decode code 282 = .ok (.aload_n 3, 1) := by decide +kernel
theorem d_Law_law_283 : decode code 283 = .ok (.invokestatic 61, 3) := by decide +kernel
theorem d_Law_law_286 : decode code 286 = .ok (.istore 5, 2) := by decide +kernel
theorem d_Law_law_288 : decode code 288 = .ok (.aload_n 2, 1) := by decide +kernel
theorem d_Law_law_289 : decode code 289 = .ok (.invokevirtual 64, 3) := by decide +kernel
theorem d_Law_law_292 : decode code 292 = .ok (.istore 6, 2) := by decide +kernel
theorem d_Law_law_294 : decode code 294 = .ok (.goto 100, 3) := by decide +kernel
theorem d_Law_law_297 : decode code 297 = .ok (.aload_n 1, 1) := by decide +kernel
theorem d_Law_law_298 : decode code 298 = .ok (.invokevirtual 65, 3) := by decide +kernel
theorem d_Law_law_301 : decode code 301 = .ok (.pop, 1) := by decide +kernel
theorem d_Law_law_302 : decode code 302 = .ok (.aload_n 2, 1) := by decide +kernel
theorem d_Law_law_303 : decode code 303 = .ok (.invokevirtual 68, 3) := by decide +kernel
theorem d_Law_law_306 : decode code 306 = .ok (.pop, 1) := by decide +kernel
theorem d_Law_law_307 : decode code 307 = .ok (.goto 87, 3) := by decide +kernel
theorem d_Law_law_310 : decode code 310 = .ok (.aload_n 1, 1) := by decide +kernel
theorem d_Law_law_311 : decode code 311 = .ok (.aload_n 0, 1) := by decide +kernel
theorem d_Law_law_312 : decode code 312 = .ok (.iload 4, 2) := by decide +kernel
theorem d_Law_law_314 : decode code 314 = .ok (.iconst 1, 1) := by decide +kernel
theorem d_Law_law_315 : decode code 315 = .ok (.iadd, 1) := by decide +kernel
theorem d_Law_law_316 : decode code 316 = .ok (.iaload, 1) := by decide +kernel
theorem d_Law_law_317 : decode code 317 = .ok (.aload_n 3, 1) := by decide +kernel
theorem d_Law_law_318 : decode code 318 = .ok (.invokestatic 69, 3) := by decide +kernel
theorem d_Law_law_321 : decode code 321 = .ok (.istore 5, 2) := by decide +kernel
theorem d_Law_law_323 : decode code 323 = .ok (.aload_n 2, 1) := by decide +kernel
theorem d_Law_law_324 : decode code 324 = .ok (.aload_n 0, 1) := by decide +kernel
theorem d_Law_law_325 : decode code 325 = .ok (.iload 4, 2) := by decide +kernel
theorem d_Law_law_327 : decode code 327 = .ok (.iconst 1, 1) := by decide +kernel
theorem d_Law_law_328 : decode code 328 = .ok (.iadd, 1) := by decide +kernel
theorem d_Law_law_329 : decode code 329 = .ok (.iaload, 1) := by decide +kernel
theorem d_Law_law_330 : decode code 330 = .ok (.invokevirtual 72, 3) := by decide +kernel
theorem d_Law_law_333 : decode code 333 = .ok (.istore 6, 2) := by decide +kernel
theorem d_Law_law_335 : decode code 335 = .ok (.goto 59, 3) := by decide +kernel
theorem d_Law_law_338 : decode code 338 = .ok (.aload_n 1, 1) := by decide +kernel
theorem d_Law_law_339 : decode code 339 = .ok (.aload_n 0, 1) := by decide +kernel
theorem d_Law_law_340 : decode code 340 = .ok (.iload 4, 2) := by decide +kernel
theorem d_Law_law_342 : decode code 342 = .ok (.iconst 1, 1) := by decide +kernel
theorem d_Law_law_343 : decode code 343 = .ok (.iadd, 1) := by decide +kernel
theorem d_Law_law_344 : decode code 344 = .ok (.iaload, 1) := by decide +kernel
theorem d_Law_law_345 : decode code 345 = .ok (.aload_n 3, 1) := by decide +kernel
theorem d_Law_law_346 : decode code 346 = .ok (.invokestatic 73, 3) := by decide +kernel
theorem d_Law_law_349 : decode code 349 = .ok (.istore 5, 2) := by decide +kernel
theorem d_Law_law_351 : decode code 351 = .ok (.aload_n 2, 1) := by decide +kernel
theorem d_Law_law_352 : decode code 352 = .ok (.aload_n 0, 1) := by decide +kernel
theorem d_Law_law_353 : decode code 353 = .ok (.iload 4, 2) := by decide +kernel
theorem d_Law_law_355 : decode code 355 = .ok (.iconst 1, 1) := by decide +kernel
theorem d_Law_law_356 : decode code 356 = .ok (.iadd, 1) := by decide +kernel
theorem d_Law_law_357 : decode code 357 = .ok (.iaload, 1) := by decide +kernel
theorem d_Law_law_358 : decode code 358 = .ok (.invokevirtual 75, 3) := by decide +kernel
theorem d_Law_law_361 : decode code 361 = .ok (.lstore 6, 2) := by decide +kernel
theorem d_Law_law_363 : decode code 363 = .ok (.goto 31, 3) := by decide +kernel
theorem d_Law_law_366 : decode code 366 = .ok (.aload_n 1, 1) := by decide +kernel
theorem d_Law_law_367 : decode code 367 = .ok (.aload_n 0, 1) := by decide +kernel
theorem d_Law_law_368 : decode code 368 = .ok (.iload 4, 2) := by decide +kernel
theorem d_Law_law_370 : decode code 370 = .ok (.iconst 1, 1) := by decide +kernel
theorem d_Law_law_371 : decode code 371 = .ok (.iadd, 1) := by decide +kernel
theorem d_Law_law_372 : decode code 372 = .ok (.iaload, 1) := by decide +kernel
theorem d_Law_law_373 : decode code 373 = .ok (.aload_n 3, 1) := by decide +kernel
theorem d_Law_law_374 : decode code 374 = .ok (.invokestatic 76, 3) := by decide +kernel
theorem d_Law_law_377 : decode code 377 = .ok (.istore 5, 2) := by decide +kernel
theorem d_Law_law_379 : decode code 379 = .ok (.aload_n 2, 1) := by decide +kernel
theorem d_Law_law_380 : decode code 380 = .ok (.aload_n 0, 1) := by decide +kernel
theorem d_Law_law_381 : decode code 381 = .ok (.iload 4, 2) := by decide +kernel
theorem d_Law_law_383 : decode code 383 = .ok (.iconst 1, 1) := by decide +kernel
theorem d_Law_law_384 : decode code 384 = .ok (.iadd, 1) := by decide +kernel
theorem d_Law_law_385 : decode code 385 = .ok (.iaload, 1) := by decide +kernel
theorem d_Law_law_386 : decode code 386 = .ok (.invokevirtual 78, 3) := by decide +kernel
theorem d_Law_law_389 : decode code 389 = .ok (.istore 6, 2) := by decide +kernel
theorem d_Law_law_391 : decode code 391 = .ok (.goto 3, 3) := by decide +kernel
theorem d_Law_law_394 : decode code 394 = .ok (.iinc 4 5, 3) := by decide +kernel
theorem d_Law_law_397 : decode code 397 = .ok (.goto (-374), 3) := by decide +kernel
theorem d_Law_law_400 : decode code 400 = .ok (.iconst 1, 1) := by decide +kernel
theorem d_Law_law_401 : decode code 401 = .ok (.ireturn, 1) := by decide +kernel
theorem d_JS_indexOf0_0 : decode b_JS_indexOf0 0 = .ok (.aload_n 0, 1) := by decide +kernel
theorem d_JS_indexOf0_1 : decode b_JS_indexOf0 1 = .ok (.iload_n 1, 1) := by decide +kernel
theorem d_JS_indexOf0_2 : decode b_JS_indexOf0 2 = .ok (.iconst 0, 1) := by decide +kernel
theorem d_JS_indexOf0_3 : decode b_JS_indexOf0 3 = .ok (.invokevirtual 633, 3) := by decide +kernel
theorem d_JS_indexOf0_6 : decode b_JS_indexOf0 6 = .ok (.ireturn, 1) := by decide +kernel
theorem d_JS_indexOf1_0 : decode b_JS_indexOf1 0 = .ok (.aload_n 0, 1) := by decide +kernel
theorem d_JS_indexOf1_1 : decode b_JS_indexOf1 1 = .ok (.invokevirtual 492, 3) := by decide +kernel
theorem d_JS_indexOf1_4 : decode b_JS_indexOf1 4 = .ok (.ifCond .eq 19, 3) := by decide +kernel
