/-! printed (gen/names.py): what the codes decode to -/
theorem dd_MA_max_0 : decode cd_MA_max 0 = .ok (.iload_n 0, 1) := by decide +kernel
theorem dd_MA_max_1 : decode cd_MA_max 1 = .ok (.iload_n 1, 1) := by decide +kernel
theorem dd_MA_max_2 : decode cd_MA_max 2 = .ok (.if_icmp .lt 7, 3) := by decide +kernel
theorem dd_MA_max_5 : decode cd_MA_max 5 = .ok (.iload_n 0, 1) := by decide +kernel
theorem dd_MA_max_6 : decode cd_MA_max 6 = .ok (.goto 4, 3) := by decide +kernel
theorem dd_MA_max_9 : decode cd_MA_max 9 = .ok (.iload_n 1, 1) := by decide +kernel
theorem dd_MA_max_10 : decode cd_MA_max 10 = .ok (.ireturn, 1) := by decide +kernel
theorem dd_MA_min_0 : decode cd_MA_min 0 = .ok (.iload_n 0, 1) := by decide +kernel
theorem dd_MA_min_1 : decode cd_MA_min 1 = .ok (.iload_n 1, 1) := by decide +kernel
theorem dd_MA_min_2 : decode cd_MA_min 2 = .ok (.if_icmp .gt 7, 3) := by decide +kernel
theorem dd_MA_min_5 : decode cd_MA_min 5 = .ok (.iload_n 0, 1) := by decide +kernel
theorem dd_MA_min_6 : decode cd_MA_min 6 = .ok (.goto 4, 3) := by decide +kernel
theorem dd_MA_min_9 : decode cd_MA_min 9 = .ok (.iload_n 1, 1) := by decide +kernel
theorem dd_MA_min_10 : decode cd_MA_min 10 = .ok (.ireturn, 1) := by decide +kernel
theorem dd_LW_law_0 : decode code 0 = .ok (.new 8, 3) := by decide +kernel
theorem dd_LW_law_3 : decode code 3 = .ok (.dup, 1) := by decide +kernel
theorem dd_LW_law_4 : decode code 4 = .ok (.invokespecial 33, 3) := by decide +kernel
theorem dd_LW_law_7 : decode code 7 = .ok (.astore_n 1, 1) := by decide +kernel
theorem dd_LW_law_8 : decode code 8 = .ok (.new 34, 3) := by decide +kernel
theorem dd_LW_law_11 : decode code 11 = .ok (.dup, 1) := by decide +kernel
theorem dd_LW_law_12 : decode code 12 = .ok (.invokespecial 36, 3) := by decide +kernel
theorem dd_LW_law_15 : decode code 15 = .ok (.astore_n 2, 1) := by decide +kernel
theorem dd_LW_law_16 : decode code 16 = .ok (.iconst 1, 1) := by decide +kernel
theorem dd_LW_law_17 : decode code 17 = .ok (.newarray .long, 2) := by decide +kernel
theorem dd_LW_law_19 : decode code 19 = .ok (.astore_n 3, 1) := by decide +kernel
theorem dd_LW_law_20 : decode code 20 = .ok (.iconst 0, 1) := by decide +kernel
theorem dd_LW_law_21 : decode code 21 = .ok (.istore 4, 2) := by decide +kernel
theorem dd_LW_law_23 : decode code 23 = .ok (.iload 4, 2) := by decide +kernel
theorem dd_LW_law_25 : decode code 25 = .ok (.aload_n 0, 1) := by decide +kernel
theorem dd_LW_law_26 : decode code 26 = .ok (.arraylength, 1) := by decide +kernel
theorem dd_LW_law_27 : decode code 27 = .ok (.iconst 4, 1) := by decide +kernel
theorem dd_LW_law_28 : decode code 28 = .ok (.isub, 1) := by decide +kernel
theorem dd_LW_law_29 : decode code 29 = .ok (.if_icmp .gt 735, 3) := by decide +kernel
theorem dd_LW_law_32 : decode code 32 = .ok (.aload_n 0, 1) := by decide +kernel
theorem dd_LW_law_33 : decode code 33 = .ok (.iload 4, 2) := by decide +kernel
theorem dd_LW_law_35 : decode code 35 = .ok (.iaload, 1) := by decide +kernel
theorem dd_LW_law_36 : decode code 36 = .ok (.bipush 15, 2) := by decide +kernel
theorem dd_LW_law_38 : decode code 38 = .ok (.iand, 1) := by decide +kernel
theorem dd_LW_law_39 : decode code 39 = .ok (.tableswitch 719 0 13 #[69, 138, 194, 231, 275, 328, 431, 496, 507, 520, 576, 632, 657, 694], 69) := by decide +kernel
theorem dd_LW_law_108 : decode code 108 = .ok (.aload_n 1, 1) := by decide +kernel
theorem dd_LW_law_109 : decode code 109 = .ok (.aload_n 0, 1) := by decide +kernel
theorem dd_LW_law_110 : decode code 110 = .ok (.iload 4, 2) := by decide +kernel
theorem dd_LW_law_112 : decode code 112 = .ok (.iconst 1, 1) := by decide +kernel
theorem dd_LW_law_113 : decode code 113 = .ok (.iadd, 1) := by decide +kernel
theorem dd_LW_law_114 : decode code 114 = .ok (.iaload, 1) := by decide +kernel
theorem dd_LW_law_115 : decode code 115 = .ok (.i2l, 1) := by decide +kernel
theorem dd_LW_law_116 : decode code 116 = .ok (.bipush 32, 2) := by decide +kernel
theorem dd_LW_law_118 : decode code 118 = .ok (.lshl, 1) := by decide +kernel
theorem dd_LW_law_119 : decode code 119 = .ok (.aload_n 0, 1) := by decide +kernel
theorem dd_LW_law_120 : decode code 120 = .ok (.iload 4, 2) := by decide +kernel
theorem dd_LW_law_122 : decode code 122 = .ok (.iconst 2, 1) := by decide +kernel
theorem dd_LW_law_123 : decode code 123 = .ok (.iadd, 1) := by decide +kernel
theorem dd_LW_law_124 : decode code 124 = .ok (.iaload, 1) := by decide +kernel
theorem dd_LW_law_125 : decode code 125 = .ok (.i2l, 1) := by decide +kernel
theorem dd_LW_law_126 : decode code 126 = .ok (.ldc2_w 37, 3) := by decide +kernel
theorem dd_LW_law_129 : decode code 129 = .ok (.land, 1) := by decide +kernel
theorem dd_LW_law_130 : decode code 130 = .ok (.lor, 1) := by decide +kernel
theorem dd_LW_law_131 : decode code 131 = .ok (.aload_n 0, 1) := by decide +kernel
theorem dd_LW_law_132 : decode code 132 = .ok (.iload 4, 2) := by decide +kernel
theorem dd_LW_law_134 : decode code 134 = .ok (.iconst 3, 1) := by decide +kernel
theorem dd_LW_law_135 : decode code 135 = .ok (.iadd, 1) := by decide +kernel
theorem dd_LW_law_136 : decode code 136 = .ok (.iaload, 1) := by decide +kernel
theorem dd_LW_law_137 : decode code 137 = .ok (.invokevirtual 39, 3) := by decide +kernel
theorem dd_LW_law_140 : decode code 140 = .ok (.aload_n 2, 1) := by decide +kernel
theorem dd_LW_law_141 : decode code 141 = .ok (.aload_n 0, 1) := by decide +kernel
theorem dd_LW_law_142 : decode code 142 = .ok (.iload 4, 2) := by decide +kernel
theorem dd_LW_law_144 : decode code 144 = .ok (.iconst 1, 1) := by decide +kernel
theorem dd_LW_law_145 : decode code 145 = .ok (.iadd, 1) := by decide +kernel
theorem dd_LW_law_146 : decode code 146 = .ok (.iaload, 1) := by decide +kernel
theorem dd_LW_law_147 : decode code 147 = .ok (.i2l, 1) := by decide +kernel
theorem dd_LW_law_148 : decode code 148 = .ok (.bipush 32, 2) := by decide +kernel
theorem dd_LW_law_150 : decode code 150 = .ok (.lshl, 1) := by decide +kernel
theorem dd_LW_law_151 : decode code 151 = .ok (.aload_n 0, 1) := by decide +kernel
theorem dd_LW_law_152 : decode code 152 = .ok (.iload 4, 2) := by decide +kernel
theorem dd_LW_law_154 : decode code 154 = .ok (.iconst 2, 1) := by decide +kernel
theorem dd_LW_law_155 : decode code 155 = .ok (.iadd, 1) := by decide +kernel
theorem dd_LW_law_156 : decode code 156 = .ok (.iaload, 1) := by decide +kernel
theorem dd_LW_law_157 : decode code 157 = .ok (.i2l, 1) := by decide +kernel
theorem dd_LW_law_158 : decode code 158 = .ok (.ldc2_w 37, 3) := by decide +kernel
theorem dd_LW_law_161 : decode code 161 = .ok (.land, 1) := by decide +kernel
theorem dd_LW_law_162 : decode code 162 = .ok (.lor, 1) := by decide +kernel
theorem dd_LW_law_163 : decode code 163 = .ok (.aload_n 0, 1) := by decide +kernel
theorem dd_LW_law_164 : decode code 164 = .ok (.iload 4, 2) := by decide +kernel
theorem dd_LW_law_166 : decode code 166 = .ok (.iconst 3, 1) := by decide +kernel
theorem dd_LW_law_167 : decode code 167 = .ok (.iadd, 1) := by decide +kernel
theorem dd_LW_law_168 : decode code 168 = .ok (.iaload, 1) := by decide +kernel
theorem dd_LW_law_169 : decode code 169 = .ok (.invokevirtual 43, 3) := by decide +kernel
theorem dd_LW_law_172 : decode code 172 = .ok (.if_icmp .eq 586, 3) := by decide +kernel
theorem dd_LW_law_175 : decode code 175 = .ok (.iconst 0, 1) := by decide +kernel
theorem dd_LW_law_176 : decode code 176 = .ok (.ireturn, 1) := by decide +kernel
theorem dd_LW_law_177 : decode code 177 = .ok (.aload_n 1, 1) := by decide +kernel
theorem dd_LW_law_178 : decode code 178 = .ok (.aload_n 0, 1) := by decide +kernel
theorem dd_LW_law_179 : decode code 179 = .ok (.iload 4, 2) := by decide +kernel
theorem dd_LW_law_181 : decode code 181 = .ok (.iconst 1, 1) := by decide +kernel
theorem dd_LW_law_182 : decode code 182 = .ok (.iadd, 1) := by decide +kernel
theorem dd_LW_law_183 : decode code 183 = .ok (.iaload, 1) := by decide +kernel
theorem dd_LW_law_184 : decode code 184 = .ok (.aload_n 3, 1) := by decide +kernel
theorem dd_LW_law_185 : decode code 185 = .ok (.invokestatic 44, 3) := by decide +kernel
theorem dd_LW_law_188 : decode code 188 = .ok (.istore 5, 2) := by decide +kernel
theorem dd_LW_law_190 : decode code 190 = .ok (.aload_n 2, 1) := by decide +kernel
theorem dd_LW_law_191 : decode code 191 = .ok (.aload_n 0, 1) := by decide +kernel
theorem dd_LW_law_192 : decode code 192 = .ok (.iload 4, 2) := by decide +kernel
theorem dd_LW_law_194 : decode code 194 = .ok (.iconst 1, 1) := by decide +kernel
theorem dd_LW_law_195 : decode code 195 = .ok (.iadd, 1) := by decide +kernel
theorem dd_LW_law_196 : decode code 196 = .ok (.iaload, 1) := by decide +kernel
theorem dd_LW_law_197 : decode code 197 = .ok (.invokevirtual 49, 3) := by decide +kernel
theorem dd_LW_law_200 : decode code 200 = .ok (.istore 6, 2) := by decide +kernel
theorem dd_LW_law_202 : decode code 202 = .ok (.aload_n 2, 1) := by decide +kernel
theorem dd_LW_law_203 : decode code 203 = .ok (.invokevirtual 50, 3) := by decide +kernel
theorem dd_LW_law_206 : decode code 206 = .ok (.iload 5, 2) := by decide +kernel
theorem dd_LW_law_208 : decode code 208 = .ok (.if_icmp .eq 5, 3) := by decide +kernel
theorem dd_LW_law_211 : decode code 211 = .ok (.iconst 0, 1) := by decide +kernel
theorem dd_LW_law_212 : decode code 212 = .ok (.ireturn, 1) := by decide +kernel
theorem dd_LW_law_213 : decode code 213 = .ok (.iload 5, 2) := by decide +kernel
theorem dd_LW_law_215 : decode code 215 = .ok (.ifCond .ne 15, 3) := by decide +kernel
theorem dd_LW_law_218 : decode code 218 = .ok (.aload_n 3, 1) := by decide +kernel
theorem dd_LW_law_219 : decode code 219 = .ok (.iconst 0, 1) := by decide +kernel
theorem dd_LW_law_220 : decode code 220 = .ok (.laload, 1) := by decide +kernel
theorem dd_LW_law_221 : decode code 221 = .ok (.iload 6, 2) := by decide +kernel
theorem dd_LW_law_223 : decode code 223 = .ok (.i2l, 1) := by decide +kernel
theorem dd_LW_law_224 : decode code 224 = .ok (.lcmp, 1) := by decide +kernel
theorem dd_LW_law_225 : decode code 225 = .ok (.ifCond .eq 5, 3) := by decide +kernel
theorem dd_LW_law_228 : decode code 228 = .ok (.iconst 0, 1) := by decide +kernel
theorem dd_LW_law_229 : decode code 229 = .ok (.ireturn, 1) := by decide +kernel
theorem dd_LW_law_230 : decode code 230 = .ok (.goto 528, 3) := by decide +kernel
theorem dd_LW_law_233 : decode code 233 = .ok (.aload_n 1, 1) := by decide +kernel
theorem dd_LW_law_234 : decode code 234 = .ok (.aload_n 0, 1) := by decide +kernel
theorem dd_LW_law_235 : decode code 235 = .ok (.iload 4, 2) := by decide +kernel
theorem dd_LW_law_237 : decode code 237 = .ok (.iconst 1, 1) := by decide +kernel
theorem dd_LW_law_238 : decode code 238 = .ok (.iadd, 1) := by decide +kernel
theorem dd_LW_law_239 : decode code 239 = .ok (.iaload, 1) := by decide +kernel
theorem dd_LW_law_240 : decode code 240 = .ok (.aload_n 0, 1) := by decide +kernel
theorem dd_LW_law_241 : decode code 241 = .ok (.iload 4, 2) := by decide +kernel
theorem dd_LW_law_243 : decode code 243 = .ok (.iconst 2, 1) := by decide +kernel
theorem dd_LW_law_244 : decode code 244 = .ok (.iadd, 1) := by decide +kernel
theorem dd_LW_law_245 : decode code 245 = .ok (.iaload, 1) := by decide +kernel
theorem dd_LW_law_246 : decode code 246 = .ok (.invokevirtual 53, 3) := by decide +kernel
theorem dd_LW_law_249 : decode code 249 = .ok (.aload_n 2, 1) := by decide +kernel
theorem dd_LW_law_250 : decode code 250 = .ok (.aload_n 0, 1) := by decide +kernel
theorem dd_LW_law_251 : decode code 251 = .ok (.iload 4, 2) := by decide +kernel
theorem dd_LW_law_253 : decode code 253 = .ok (.iconst 1, 1) := by decide +kernel
theorem dd_LW_law_254 : decode code 254 = .ok (.iadd, 1) := by decide +kernel
theorem dd_LW_law_255 : decode code 255 = .ok (.iaload, 1) := by decide +kernel
theorem dd_LW_law_256 : decode code 256 = .ok (.aload_n 0, 1) := by decide +kernel
theorem dd_LW_law_257 : decode code 257 = .ok (.iload 4, 2) := by decide +kernel
theorem dd_LW_law_259 : decode code 259 = .ok (.iconst 2, 1) := by decide +kernel
theorem dd_LW_law_260 : decode code 260 = .ok (.iadd, 1) := by decide +kernel
theorem dd_LW_law_261 : decode code 261 = .ok (.iaload, 1) := by decide +kernel
theorem dd_LW_law_262 : decode code 262 = .ok (.invokevirtual 57, 3) := by decide +kernel
theorem dd_LW_law_265 : decode code 265 = .ok (.if_icmp .eq 493, 3) := by decide +kernel
theorem dd_LW_law_268 : decode code 268 = .ok (.iconst 0, 1) := by decide +kernel
theorem dd_LW_law_269 : decode code 269 = .ok (.ireturn, 1) := by decide +kernel
theorem dd_LW_law_270 : decode code 270 = .ok (.aload_n 1, 1) := by decide +kernel
theorem dd_LW_law_271 : decode code 271 = .ok (.aload_n 3, 1) := by decide +kernel
theorem dd_LW_law_272 : decode code 272 = .ok (.invokestatic 58, 3) := by decide +kernel
theorem dd_LW_law_275 : decode code 275 = .ok (.istore 5, 2) := by decide +kernel
theorem dd_LW_law_277 : decode code 277 = .ok (.aload_n 2, 1) := by decide +kernel
theorem dd_LW_law_278 : decode code 278 = .ok (.invokevirtual 61, 3) := by decide +kernel
theorem dd_LW_law_281 : decode code 281 = .ok (.istore 6, 2) := by decide +kernel
theorem dd_LW_law_283 : decode code 283 = .ok (.aload_n 2, 1) := by decide +kernel
theorem dd_LW_law_284 : decode code 284 = .ok (.invokevirtual 50, 3) := by decide +kernel
theorem dd_LW_law_287 : decode code 287 = .ok (.iload 5, 2) := by decide +kernel
theorem dd_LW_law_289 : decode code 289 = .ok (.if_icmp .eq 5, 3) := by decide +kernel
theorem dd_LW_law_292 : decode code 292 = .ok (.iconst 0, 1) := by decide +kernel
theorem dd_LW_law_293 : decode code 293 = .ok (.ireturn, 1) := by decide +kernel
theorem dd_LW_law_294 : decode code 294 = .ok (.iload 5, 2) := by decide +kernel
theorem dd_LW_law_296 : decode code 296 = .ok (.ifCond .ne 15, 3) := by decide +kernel
theorem dd_LW_law_299 : decode code 299 = .ok (.aload_n 3, 1) := by decide +kernel
theorem dd_LW_law_300 : decode code 300 = .ok (.iconst 0, 1) := by decide +kernel
theorem dd_LW_law_301 : decode code 301 = .ok (.laload, 1) := by decide +kernel
theorem dd_LW_law_302 : decode code 302 = .ok (.iload 6, 2) := by decide +kernel
theorem dd_LW_law_304 : decode code 304 = .ok (.i2l, 1) := by decide +kernel
theorem dd_LW_law_305 : decode code 305 = .ok (.lcmp, 1) := by decide +kernel
theorem dd_LW_law_306 : decode code 306 = .ok (.ifCond .eq 5, 3) := by decide +kernel
theorem dd_LW_law_309 : decode code 309 = .ok (.iconst 0, 1) := by decide +kernel
theorem dd_LW_law_310 : decode code 310 = .ok (.ireturn, 1) := by decide +kernel
theorem dd_LW_law_311 : decode code 311 = .ok (.goto 447, 3) := by decide +kernel
theorem dd_LW_law_314 : decode code 314 = .ok (.aload_n 1, 1) := by decide +kernel
theorem dd_LW_law_315 : decode code 315 = .ok (.aload_n 0, 1) := by decide +kernel
theorem dd_LW_law_316 : decode code 316 = .ok (.iload 4, 2) := by decide +kernel
theorem dd_LW_law_318 : decode code 318 = .ok (.iconst 1, 1) := by decide +kernel
theorem dd_LW_law_319 : decode code 319 = .ok (.iadd, 1) := by decide +kernel
theorem dd_LW_law_320 : decode code 320 = .ok (.iaload, 1) := by decide +kernel
theorem dd_LW_law_321 : decode code 321 = .ok (.aload_n 0, 1) := by decide +kernel
theorem dd_LW_law_322 : decode code 322 = .ok (.iload 4, 2) := by decide +kernel
theorem dd_LW_law_324 : decode code 324 = .ok (.iconst 2, 1) := by decide +kernel
theorem dd_LW_law_325 : decode code 325 = .ok (.iadd, 1) := by decide +kernel
theorem dd_LW_law_326 : decode code 326 = .ok (.iaload, 1) := by decide +kernel
theorem dd_LW_law_327 : decode code 327 = .ok (.ifCond .eq 7, 3) := by decide +kernel
theorem dd_LW_law_330 : decode code 330 = .ok (.iconst 1, 1) := by decide +kernel
theorem dd_LW_law_331 : decode code 331 = .ok (.goto 4, 3) := by decide +kernel
theorem dd_LW_law_334 : decode code 334 = .ok (.iconst 0, 1) := by decide +kernel
theorem dd_LW_law_335 : decode code 335 = .ok (.invokevirtual 62, 3) := by decide +kernel
theorem dd_LW_law_338 : decode code 338 = .ok (.aload_n 2, 1) := by decide +kernel
theorem dd_LW_law_339 : decode code 339 = .ok (.aload_n 0, 1) := by decide +kernel
theorem dd_LW_law_340 : decode code 340 = .ok (.iload 4, 2) := by decide +kernel
theorem dd_LW_law_342 : decode code 342 = .ok (.iconst 1, 1) := by decide +kernel
theorem dd_LW_law_343 : decode code 343 = .ok (.iadd, 1) := by decide +kernel
theorem dd_LW_law_344 : decode code 344 = .ok (.iaload, 1) := by decide +kernel
theorem dd_LW_law_345 : decode code 345 = .ok (.aload_n 0, 1) := by decide +kernel
theorem dd_LW_law_346 : decode code 346 = .ok (.iload 4, 2) := by decide +kernel
theorem dd_LW_law_348 : decode code 348 = .ok (.iconst 2, 1) := by decide +kernel
theorem dd_LW_law_349 : decode code 349 = .ok (.iadd, 1) := by decide +kernel
theorem dd_LW_law_350 : decode code 350 = .ok (.iaload, 1) := by decide +kernel
theorem dd_LW_law_351 : decode code 351 = .ok (.ifCond .eq 7, 3) := by decide +kernel
theorem dd_LW_law_354 : decode code 354 = .ok (.iconst 1, 1) := by decide +kernel
theorem dd_LW_law_355 : decode code 355 = .ok (.goto 4, 3) := by decide +kernel
theorem dd_LW_law_358 : decode code 358 = .ok (.iconst 0, 1) := by decide +kernel
theorem dd_LW_law_359 : decode code 359 = .ok (.invokevirtual 66, 3) := by decide +kernel
theorem dd_LW_law_362 : decode code 362 = .ok (.if_icmp .eq 396, 3) := by decide +kernel
theorem dd_LW_law_365 : decode code 365 = .ok (.iconst 0, 1) := by decide +kernel
theorem dd_LW_law_366 : decode code 366 = .ok (.ireturn, 1) := by decide +kernel
theorem dd_LW_law_367 : decode code 367 = .ok (.aload_n 1, 1) := by decide +kernel
theorem dd_LW_law_368 : decode code 368 = .ok (.aload_n 0, 1) := by decide +kernel
theorem dd_LW_law_369 : decode code 369 = .ok (.iload 4, 2) := by decide +kernel
theorem dd_LW_law_371 : decode code 371 = .ok (.iconst 1, 1) := by decide +kernel
theorem dd_LW_law_372 : decode code 372 = .ok (.iadd, 1) := by decide +kernel
theorem dd_LW_law_373 : decode code 373 = .ok (.iaload, 1) := by decide +kernel
theorem dd_LW_law_374 : decode code 374 = .ok (.aload_n 0, 1) := by decide +kernel
theorem dd_LW_law_375 : decode code 375 = .ok (.iload 4, 2) := by decide +kernel
theorem dd_LW_law_377 : decode code 377 = .ok (.iconst 2, 1) := by decide +kernel
theorem dd_LW_law_378 : decode code 378 = .ok (.iadd, 1) := by decide +kernel
theorem dd_LW_law_379 : decode code 379 = .ok (.iaload, 1) := by decide +kernel
theorem dd_LW_law_380 : decode code 380 = .ok (.aload_n 0, 1) := by decide +kernel
theorem dd_LW_law_381 : decode code 381 = .ok (.iload 4, 2) := by decide +kernel
theorem dd_LW_law_383 : decode code 383 = .ok (.iconst 3, 1) := by decide +kernel
theorem dd_LW_law_384 : decode code 384 = .ok (.iadd, 1) := by decide +kernel
theorem dd_LW_law_385 : decode code 385 = .ok (.iaload, 1) := by decide +kernel
theorem dd_LW_law_386 : decode code 386 = .ok (.ifCond .eq 7, 3) := by decide +kernel
theorem dd_LW_law_389 : decode code 389 = .ok (.iconst 1, 1) := by decide +kernel
theorem dd_LW_law_390 : decode code 390 = .ok (.goto 4, 3) := by decide +kernel
theorem dd_LW_law_393 : decode code 393 = .ok (.iconst 0, 1) := by decide +kernel
theorem dd_LW_law_394 : decode code 394 = .ok (.aload_n 3, 1) := by decide +kernel
theorem dd_LW_law_395 : decode code 395 = .ok (.invokestatic 67, 3) := by decide +kernel
theorem dd_LW_law_398 : decode code 398 = .ok (.istore 5, 2) := by decide +kernel
theorem dd_LW_law_400 : decode code 400 = .ok (.aload_n 2, 1) := by decide +kernel
theorem dd_LW_law_401 : decode code 401 = .ok (.aload_n 0, 1) := by decide +kernel
theorem dd_LW_law_402 : decode code 402 = .ok (.iload 4, 2) := by decide +kernel
theorem dd_LW_law_404 : decode code 404 = .ok (.iconst 1, 1) := by decide +kernel
theorem dd_LW_law_405 : decode code 405 = .ok (.iadd, 1) := by decide +kernel
theorem dd_LW_law_406 : decode code 406 = .ok (.iaload, 1) := by decide +kernel
theorem dd_LW_law_407 : decode code 407 = .ok (.aload_n 0, 1) := by decide +kernel
theorem dd_LW_law_408 : decode code 408 = .ok (.iload 4, 2) := by decide +kernel
theorem dd_LW_law_410 : decode code 410 = .ok (.iconst 2, 1) := by decide +kernel
theorem dd_LW_law_411 : decode code 411 = .ok (.iadd, 1) := by decide +kernel
theorem dd_LW_law_412 : decode code 412 = .ok (.iaload, 1) := by decide +kernel
theorem dd_LW_law_413 : decode code 413 = .ok (.aload_n 0, 1) := by decide +kernel
theorem dd_LW_law_414 : decode code 414 = .ok (.iload 4, 2) := by decide +kernel
theorem dd_LW_law_416 : decode code 416 = .ok (.iconst 3, 1) := by decide +kernel
theorem dd_LW_law_417 : decode code 417 = .ok (.iadd, 1) := by decide +kernel
theorem dd_LW_law_418 : decode code 418 = .ok (.iaload, 1) := by decide +kernel
theorem dd_LW_law_419 : decode code 419 = .ok (.ifCond .eq 7, 3) := by decide +kernel
theorem dd_LW_law_422 : decode code 422 = .ok (.iconst 1, 1) := by decide +kernel
theorem dd_LW_law_423 : decode code 423 = .ok (.goto 4, 3) := by decide +kernel
theorem dd_LW_law_426 : decode code 426 = .ok (.iconst 0, 1) := by decide +kernel
theorem dd_LW_law_427 : decode code 427 = .ok (.invokevirtual 70, 3) := by decide +kernel
theorem dd_LW_law_430 : decode code 430 = .ok (.istore 6, 2) := by decide +kernel
theorem dd_LW_law_432 : decode code 432 = .ok (.aload_n 2, 1) := by decide +kernel
theorem dd_LW_law_433 : decode code 433 = .ok (.invokevirtual 50, 3) := by decide +kernel
theorem dd_LW_law_436 : decode code 436 = .ok (.iload 5, 2) := by decide +kernel
theorem dd_LW_law_438 : decode code 438 = .ok (.if_icmp .eq 5, 3) := by decide +kernel
theorem dd_LW_law_441 : decode code 441 = .ok (.iconst 0, 1) := by decide +kernel
theorem dd_LW_law_442 : decode code 442 = .ok (.ireturn, 1) := by decide +kernel
theorem dd_LW_law_443 : decode code 443 = .ok (.iload 5, 2) := by decide +kernel
theorem dd_LW_law_445 : decode code 445 = .ok (.ifCond .ne 22, 3) := by decide +kernel
theorem dd_LW_law_448 : decode code 448 = .ok (.aload_n 3, 1) := by decide +kernel
theorem dd_LW_law_449 : decode code 449 = .ok (.iconst 0, 1) := by decide +kernel
theorem dd_LW_law_450 : decode code 450 = .ok (.laload, 1) := by decide +kernel
theorem dd_LW_law_451 : decode code 451 = .ok (.iload 6, 2) := by decide +kernel
theorem dd_LW_law_453 : decode code 453 = .ok (.ifCond .eq 7, 3) := by decide +kernel
theorem dd_LW_law_456 : decode code 456 = .ok (.lconst 1, 1) := by decide +kernel
theorem dd_LW_law_457 : decode code 457 = .ok (.goto 4, 3) := by decide +kernel
theorem dd_LW_law_460 : decode code 460 = .ok (.lconst 0, 1) := by decide +kernel
theorem dd_LW_law_461 : decode code 461 = .ok (.lcmp, 1) := by decide +kernel
theorem dd_LW_law_462 : decode code 462 = .ok (.ifCond .eq 5, 3) := by decide +kernel
theorem dd_LW_law_465 : decode code 465 = .ok (.iconst 0, 1) := by decide +kernel
theorem dd_LW_law_466 : decode code 466 = .ok (.ireturn, 1) := by decide +kernel
theorem dd_LW_law_467 : decode code 467 = .ok (.goto 291, 3) := by decide +kernel
theorem dd_LW_law_470 : decode code 470 = .ok (.aload_n 1, 1) := by decide +kernel
theorem dd_LW_law_471 : decode code 471 = .ok (.aload_n 0, 1) := by decide +kernel
theorem dd_LW_law_472 : decode code 472 = .ok (.iload 4, 2) := by decide +kernel
theorem dd_LW_law_474 : decode code 474 = .ok (.iconst 1, 1) := by decide +kernel
theorem dd_LW_law_475 : decode code 475 = .ok (.iadd, 1) := by decide +kernel
theorem dd_LW_law_476 : decode code 476 = .ok (.iaload, 1) := by decide +kernel
theorem dd_LW_law_477 : decode code 477 = .ok (.aload_n 0, 1) := by decide +kernel
theorem dd_LW_law_478 : decode code 478 = .ok (.iload 4, 2) := by decide +kernel
theorem dd_LW_law_480 : decode code 480 = .ok (.iconst 2, 1) := by decide +kernel
theorem dd_LW_law_481 : decode code 481 = .ok (.iadd, 1) := by decide +kernel
theorem dd_LW_law_482 : decode code 482 = .ok (.iaload, 1) := by decide +kernel
theorem dd_LW_law_483 : decode code 483 = .ok (.aload_n 0, 1) := by decide +kernel
theorem dd_LW_law_484 : decode code 484 = .ok (.iload 4, 2) := by decide +kernel
theorem dd_LW_law_486 : decode code 486 = .ok (.iconst 3, 1) := by decide +kernel
theorem dd_LW_law_487 : decode code 487 = .ok (.iadd, 1) := by decide +kernel
theorem dd_LW_law_488 : decode code 488 = .ok (.iaload, 1) := by decide +kernel
theorem dd_LW_law_489 : decode code 489 = .ok (.ifCond .eq 7, 3) := by decide +kernel
theorem dd_LW_law_492 : decode code 492 = .ok (.iconst 1, 1) := by decide +kernel
theorem dd_LW_law_493 : decode code 493 = .ok (.goto 4, 3) := by decide +kernel
theorem dd_LW_law_496 : decode code 496 = .ok (.iconst 0, 1) := by decide +kernel
theorem dd_LW_law_497 : decode code 497 = .ok (.invokevirtual 71, 3) := by decide +kernel
theorem dd_LW_law_500 : decode code 500 = .ok (.aload_n 2, 1) := by decide +kernel
theorem dd_LW_law_501 : decode code 501 = .ok (.aload_n 0, 1) := by decide +kernel
theorem dd_LW_law_502 : decode code 502 = .ok (.iload 4, 2) := by decide +kernel
theorem dd_LW_law_504 : decode code 504 = .ok (.iconst 1, 1) := by decide +kernel
theorem dd_LW_law_505 : decode code 505 = .ok (.iadd, 1) := by decide +kernel
theorem dd_LW_law_506 : decode code 506 = .ok (.iaload, 1) := by decide +kernel
theorem dd_LW_law_507 : decode code 507 = .ok (.aload_n 0, 1) := by decide +kernel
theorem dd_LW_law_508 : decode code 508 = .ok (.iload 4, 2) := by decide +kernel
theorem dd_LW_law_510 : decode code 510 = .ok (.iconst 2, 1) := by decide +kernel
theorem dd_LW_law_511 : decode code 511 = .ok (.iadd, 1) := by decide +kernel
theorem dd_LW_law_512 : decode code 512 = .ok (.iaload, 1) := by decide +kernel
theorem dd_LW_law_513 : decode code 513 = .ok (.aload_n 0, 1) := by decide +kernel
theorem dd_LW_law_514 : decode code 514 = .ok (.iload 4, 2) := by decide +kernel
theorem dd_LW_law_516 : decode code 516 = .ok (.iconst 3, 1) := by decide +kernel
theorem dd_LW_law_517 : decode code 517 = .ok (.iadd, 1) := by decide +kernel
theorem dd_LW_law_518 : decode code 518 = .ok (.iaload, 1) := by decide +kernel
theorem dd_LW_law_519 : decode code 519 = .ok (.ifCond .eq 7, 3) := by decide +kernel
theorem dd_LW_law_522 : decode code 522 = .ok (.iconst 1, 1) := by decide +kernel
theorem dd_LW_law_523 : decode code 523 = .ok (.goto 4, 3) := by decide +kernel
theorem dd_LW_law_526 : decode code 526 = .ok (.iconst 0, 1) := by decide +kernel
theorem dd_LW_law_527 : decode code 527 = .ok (.invokevirtual 74, 3) := by decide +kernel
theorem dd_LW_law_530 : decode code 530 = .ok (.if_icmp .eq 228, 3) := by decide +kernel
theorem dd_LW_law_533 : decode code 533 = .ok (.iconst 0, 1) := by decide +kernel
theorem dd_LW_law_534 : decode code 534 = .ok (.ireturn, 1) := by decide +kernel
theorem dd_LW_law_535 : decode code 535 = .ok (.aload_n 1, 1) := by decide +kernel
theorem dd_LW_law_536 : decode code 536 = .ok (.invokevirtual 75, 3) := by decide +kernel
theorem dd_LW_law_539 : decode code 539 = .ok (.aload_n 2, 1) := by decide +kernel
theorem dd_LW_law_540 : decode code 540 = .ok (.invokevirtual 78, 3) := by decide +kernel
theorem dd_LW_law_543 : decode code 543 = .ok (.goto 215, 3) := by decide +kernel
theorem dd_LW_law_546 : decode code 546 = .ok (.aload_n 1, 1) := by decide +kernel
theorem dd_LW_law_547 : decode code 547 = .ok (.invokevirtual 79, 3) := by decide +kernel
theorem dd_LW_law_550 : decode code 550 = .ok (.aload_n 2, 1) := by decide +kernel
theorem dd_LW_law_551 : decode code 551 = .ok (.invokevirtual 83, 3) := by decide +kernel
theorem dd_LW_law_554 : decode code 554 = .ok (.if_icmp .eq 204, 3) := by decide +kernel
theorem dd_LW_law_557 : decode code 557 = .ok (.iconst 0, 1) := by decide +kernel
theorem dd_LW_law_558 : decode code 558 = .ok (.ireturn, 1) := by decide +kernel
theorem dd_LW_law_559 : decode code 559 = .ok (.aload_n 1, 1) := by decide +kernel
theorem dd_LW_law_560 : decode code 560 = .ok (.aload_n 0, 1) := by decide +kernel
theorem dd_LW_law_561 : decode code 561 = .ok (.iload 4, 2) := by decide +kernel
theorem dd_LW_law_563 : decode code 563 = .ok (.iconst 1, 1) := by decide +kernel
theorem dd_LW_law_564 : decode code 564 = .ok (.iadd, 1) := by decide +kernel
theorem dd_LW_law_565 : decode code 565 = .ok (.iaload, 1) := by decide +kernel
theorem dd_LW_law_566 : decode code 566 = .ok (.aload_n 3, 1) := by decide +kernel
theorem dd_LW_law_567 : decode code 567 = .ok (.invokestatic 84, 3) := by decide +kernel
theorem dd_LW_law_570 : decode code 570 = .ok (.istore 5, 2) := by decide +kernel
theorem dd_LW_law_572 : decode code 572 = .ok (.aload_n 2, 1) := by decide +kernel
theorem dd_LW_law_573 : decode code 573 = .ok (.aload_n 0, 1) := by decide +kernel
theorem dd_LW_law_574 : decode code 574 = .ok (.iload 4, 2) := by decide +kernel
theorem dd_LW_law_576 : decode code 576 = .ok (.iconst 1, 1) := by decide +kernel
theorem dd_LW_law_577 : decode code 577 = .ok (.iadd, 1) := by decide +kernel
theorem dd_LW_law_578 : decode code 578 = .ok (.iaload, 1) := by decide +kernel
theorem dd_LW_law_579 : decode code 579 = .ok (.invokevirtual 86, 3) := by decide +kernel
theorem dd_LW_law_582 : decode code 582 = .ok (.istore 6, 2) := by decide +kernel
theorem dd_LW_law_584 : decode code 584 = .ok (.aload_n 2, 1) := by decide +kernel
theorem dd_LW_law_585 : decode code 585 = .ok (.invokevirtual 50, 3) := by decide +kernel
theorem dd_LW_law_588 : decode code 588 = .ok (.iload 5, 2) := by decide +kernel
theorem dd_LW_law_590 : decode code 590 = .ok (.if_icmp .eq 5, 3) := by decide +kernel
theorem dd_LW_law_593 : decode code 593 = .ok (.iconst 0, 1) := by decide +kernel
theorem dd_LW_law_594 : decode code 594 = .ok (.ireturn, 1) := by decide +kernel
theorem dd_LW_law_595 : decode code 595 = .ok (.iload 5, 2) := by decide +kernel
theorem dd_LW_law_597 : decode code 597 = .ok (.ifCond .ne 15, 3) := by decide +kernel
theorem dd_LW_law_600 : decode code 600 = .ok (.aload_n 3, 1) := by decide +kernel
theorem dd_LW_law_601 : decode code 601 = .ok (.iconst 0, 1) := by decide +kernel
theorem dd_LW_law_602 : decode code 602 = .ok (.laload, 1) := by decide +kernel
theorem dd_LW_law_603 : decode code 603 = .ok (.iload 6, 2) := by decide +kernel
theorem dd_LW_law_605 : decode code 605 = .ok (.i2l, 1) := by decide +kernel
theorem dd_LW_law_606 : decode code 606 = .ok (.lcmp, 1) := by decide +kernel
theorem dd_LW_law_607 : decode code 607 = .ok (.ifCond .eq 5, 3) := by decide +kernel
theorem dd_LW_law_610 : decode code 610 = .ok (.iconst 0, 1) := by decide +kernel
theorem dd_LW_law_611 : decode code 611 = .ok (.ireturn, 1) := by decide +kernel
theorem dd_LW_law_612 : decode code 612 = .ok (.goto 146, 3) := by decide +kernel
theorem dd_LW_law_615 : decode code 615 = .ok (.aload_n 1, 1) := by decide +kernel
theorem dd_LW_law_616 : decode code 616 = .ok (.aload_n 0, 1) := by decide +kernel
theorem dd_LW_law_617 : decode code 617 = .ok (.iload 4, 2) := by decide +kernel
theorem dd_LW_law_619 : decode code 619 = .ok (.iconst 1, 1) := by decide +kernel
theorem dd_LW_law_620 : decode code 620 = .ok (.iadd, 1) := by decide +kernel
theorem dd_LW_law_621 : decode code 621 = .ok (.iaload, 1) := by decide +kernel
theorem dd_LW_law_622 : decode code 622 = .ok (.aload_n 3, 1) := by decide +kernel
theorem dd_LW_law_623 : decode code 623 = .ok (.invokestatic 87, 3) := by decide +kernel
theorem dd_LW_law_626 : decode code 626 = .ok (.istore 5, 2) := by decide +kernel
theorem dd_LW_law_628 : decode code 628 = .ok (.aload_n 2, 1) := by decide +kernel
theorem dd_LW_law_629 : decode code 629 = .ok (.aload_n 0, 1) := by decide +kernel
theorem dd_LW_law_630 : decode code 630 = .ok (.iload 4, 2) := by decide +kernel
theorem dd_LW_law_632 : decode code 632 = .ok (.iconst 1, 1) := by decide +kernel
theorem dd_LW_law_633 : decode code 633 = .ok (.iadd, 1) := by decide +kernel
theorem dd_LW_law_634 : decode code 634 = .ok (.iaload, 1) := by decide +kernel
theorem dd_LW_law_635 : decode code 635 = .ok (.invokevirtual 89, 3) := by decide +kernel
theorem dd_LW_law_638 : decode code 638 = .ok (.istore 6, 2) := by decide +kernel
theorem dd_LW_law_640 : decode code 640 = .ok (.aload_n 2, 1) := by decide +kernel
theorem dd_LW_law_641 : decode code 641 = .ok (.invokevirtual 50, 3) := by decide +kernel
theorem dd_LW_law_644 : decode code 644 = .ok (.iload 5, 2) := by decide +kernel
theorem dd_LW_law_646 : decode code 646 = .ok (.if_icmp .eq 5, 3) := by decide +kernel
theorem dd_LW_law_649 : decode code 649 = .ok (.iconst 0, 1) := by decide +kernel
theorem dd_LW_law_650 : decode code 650 = .ok (.ireturn, 1) := by decide +kernel
theorem dd_LW_law_651 : decode code 651 = .ok (.iload 5, 2) := by decide +kernel
theorem dd_LW_law_653 : decode code 653 = .ok (.ifCond .ne 15, 3) := by decide +kernel
theorem dd_LW_law_656 : decode code 656 = .ok (.aload_n 3, 1) := by decide +kernel
theorem dd_LW_law_657 : decode code 657 = .ok (.iconst 0, 1) := by decide +kernel
theorem dd_LW_law_658 : decode code 658 = .ok (.laload, 1) := by decide +kernel
theorem dd_LW_law_659 : decode code 659 = .ok (.iload 6, 2) := by decide +kernel
theorem dd_LW_law_661 : decode code 661 = .ok (.i2l, 1) := by decide +kernel
theorem dd_LW_law_662 : decode code 662 = .ok (.lcmp, 1) := by decide +kernel
theorem dd_LW_law_663 : decode code 663 = .ok (.ifCond .eq 5, 3) := by decide +kernel
theorem dd_LW_law_666 : decode code 666 = .ok (.iconst 0, 1) := by decide +kernel
theorem dd_LW_law_667 : decode code 667 = .ok (.ireturn, 1) := by decide +kernel
theorem dd_LW_law_668 : decode code 668 = .ok (.goto 90, 3) := by decide +kernel
theorem dd_LW_law_671 : decode code 671 = .ok (.aload_n 1, 1) := by decide +kernel
theorem dd_LW_law_672 : decode code 672 = .ok (.aload_n 0, 1) := by decide +kernel
theorem dd_LW_law_673 : decode code 673 = .ok (.iload 4, 2) := by decide +kernel
theorem dd_LW_law_675 : decode code 675 = .ok (.iconst 1, 1) := by decide +kernel
theorem dd_LW_law_676 : decode code 676 = .ok (.iadd, 1) := by decide +kernel
theorem dd_LW_law_677 : decode code 677 = .ok (.iaload, 1) := by decide +kernel
theorem dd_LW_law_678 : decode code 678 = .ok (.invokevirtual 90, 3) := by decide +kernel
theorem dd_LW_law_681 : decode code 681 = .ok (.aload_n 2, 1) := by decide +kernel
theorem dd_LW_law_682 : decode code 682 = .ok (.aload_n 0, 1) := by decide +kernel
theorem dd_LW_law_683 : decode code 683 = .ok (.iload 4, 2) := by decide +kernel
theorem dd_LW_law_685 : decode code 685 = .ok (.iconst 1, 1) := by decide +kernel
theorem dd_LW_law_686 : decode code 686 = .ok (.iadd, 1) := by decide +kernel
theorem dd_LW_law_687 : decode code 687 = .ok (.iaload, 1) := by decide +kernel
theorem dd_LW_law_688 : decode code 688 = .ok (.invokevirtual 94, 3) := by decide +kernel
theorem dd_LW_law_691 : decode code 691 = .ok (.if_icmp .eq 67, 3) := by decide +kernel
theorem dd_LW_law_694 : decode code 694 = .ok (.iconst 0, 1) := by decide +kernel
theorem dd_LW_law_695 : decode code 695 = .ok (.ireturn, 1) := by decide +kernel
theorem dd_LW_law_696 : decode code 696 = .ok (.aload_n 1, 1) := by decide +kernel
theorem dd_LW_law_697 : decode code 697 = .ok (.aload_n 0, 1) := by decide +kernel
theorem dd_LW_law_698 : decode code 698 = .ok (.iload 4, 2) := by decide +kernel
theorem dd_LW_law_700 : decode code 700 = .ok (.iconst 1, 1) := by decide +kernel
theorem dd_LW_law_701 : decode code 701 = .ok (.iadd, 1) := by decide +kernel
theorem dd_LW_law_702 : decode code 702 = .ok (.iaload, 1) := by decide +kernel
theorem dd_LW_law_703 : decode code 703 = .ok (.aload_n 0, 1) := by decide +kernel
theorem dd_LW_law_704 : decode code 704 = .ok (.iload 4, 2) := by decide +kernel
theorem dd_LW_law_706 : decode code 706 = .ok (.iconst 2, 1) := by decide +kernel
theorem dd_LW_law_707 : decode code 707 = .ok (.iadd, 1) := by decide +kernel
theorem dd_LW_law_708 : decode code 708 = .ok (.iaload, 1) := by decide +kernel
theorem dd_LW_law_709 : decode code 709 = .ok (.invokevirtual 95, 3) := by decide +kernel
theorem dd_LW_law_712 : decode code 712 = .ok (.aload_n 2, 1) := by decide +kernel
theorem dd_LW_law_713 : decode code 713 = .ok (.aload_n 0, 1) := by decide +kernel
theorem dd_LW_law_714 : decode code 714 = .ok (.iload 4, 2) := by decide +kernel
theorem dd_LW_law_716 : decode code 716 = .ok (.iconst 1, 1) := by decide +kernel
theorem dd_LW_law_717 : decode code 717 = .ok (.iadd, 1) := by decide +kernel
theorem dd_LW_law_718 : decode code 718 = .ok (.iaload, 1) := by decide +kernel
theorem dd_LW_law_719 : decode code 719 = .ok (.aload_n 0, 1) := by decide +kernel
theorem dd_LW_law_720 : decode code 720 = .ok (.iload 4, 2) := by decide +kernel
theorem dd_LW_law_722 : decode code 722 = .ok (.iconst 2, 1) := by decide +kernel
theorem dd_LW_law_723 : decode code 723 = .ok (.iadd, 1) := by decide +kernel
theorem dd_LW_law_724 : decode code 724 = .ok (.iaload, 1) := by decide +kernel
theorem dd_LW_law_725 : decode code 725 = .ok (.invokevirtual 99, 3) := by decide +kernel
theorem dd_LW_law_728 : decode code 728 = .ok (.if_icmp .eq 30, 3) := by decide +kernel
theorem dd_LW_law_731 : decode code 731 = .ok (.iconst 0, 1) := by decide +kernel
theorem dd_LW_law_732 : decode code 732 = .ok (.ireturn, 1) := by decide +kernel
theorem dd_LW_law_733 : decode code 733 = .ok (.aload_n 1, 1) := by decide +kernel
theorem dd_LW_law_734 : decode code 734 = .ok (.aload_n 0, 1) := by decide +kernel
theorem dd_LW_law_735 : decode code 735 = .ok (.iload 4, 2) := by decide +kernel
theorem dd_LW_law_737 : decode code 737 = .ok (.iconst 1, 1) := by decide +kernel
theorem dd_LW_law_738 : decode code 738 = .ok (.iadd, 1) := by decide +kernel
theorem dd_LW_law_739 : decode code 739 = .ok (.iaload, 1) := by decide +kernel
theorem dd_LW_law_740 : decode code 740 = .ok (.invokevirtual 100, 3) := by decide +kernel
theorem dd_LW_law_743 : decode code 743 = .ok (.aload_n 2, 1) := by decide +kernel
theorem dd_LW_law_744 : decode code 744 = .ok (.aload_n 0, 1) := by decide +kernel
theorem dd_LW_law_745 : decode code 745 = .ok (.iload 4, 2) := by decide +kernel
theorem dd_LW_law_747 : decode code 747 = .ok (.iconst 1, 1) := by decide +kernel
theorem dd_LW_law_748 : decode code 748 = .ok (.iadd, 1) := by decide +kernel
theorem dd_LW_law_749 : decode code 749 = .ok (.iaload, 1) := by decide +kernel
theorem dd_LW_law_750 : decode code 750 = .ok (.invokevirtual 103, 3) := by decide +kernel
theorem dd_LW_law_753 : decode code 753 = .ok (.if_icmp .eq 5, 3) := by decide +kernel
theorem dd_LW_law_756 : decode code 756 = .ok (.iconst 0, 1) := by decide +kernel
theorem dd_LW_law_757 : decode code 757 = .ok (.ireturn, 1) := by decide +kernel
theorem dd_LW_law_758 : decode code 758 = .ok (.iinc 4 4, 3) := by decide +kernel
theorem dd_LW_law_761 : decode code 761 = .ok (.goto (-738), 3) := by decide +kernel
theorem dd_LW_law_764 : decode code 764 = .ok (.iconst 1, 1) := by decide +kernel
theorem dd_LW_law_765 : decode code 765 = .ok (.ireturn, 1) := by decide +kernel
