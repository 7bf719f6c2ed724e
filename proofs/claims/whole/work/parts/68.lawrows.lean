theorem dq_Law_law_0 : decode code 0 = .ok (.new 8, 3) := by decide +kernel
theorem dq_Law_law_3 : decode code 3 = .ok (.dup, 1) := by decide +kernel
theorem dq_Law_law_4 : decode code 4 = .ok (.invokespecial 47, 3) := by decide +kernel
theorem dq_Law_law_7 : decode code 7 = .ok (.astore_n 1, 1) := by decide +kernel
theorem dq_Law_law_8 : decode code 8 = .ok (.new 48, 3) := by decide +kernel
theorem dq_Law_law_11 : decode code 11 = .ok (.dup, 1) := by decide +kernel
theorem dq_Law_law_12 : decode code 12 = .ok (.invokespecial 50, 3) := by decide +kernel
theorem dq_Law_law_15 : decode code 15 = .ok (.astore_n 2, 1) := by decide +kernel
theorem dq_Law_law_16 : decode code 16 = .ok (.iconst 1, 1) := by decide +kernel
theorem dq_Law_law_17 : decode code 17 = .ok (.newarray .long, 2) := by decide +kernel
theorem dq_Law_law_19 : decode code 19 = .ok (.astore_n 3, 1) := by decide +kernel
theorem dq_Law_law_20 : decode code 20 = .ok (.iconst 0, 1) := by decide +kernel
theorem dq_Law_law_21 : decode code 21 = .ok (.istore 4, 2) := by decide +kernel
theorem dq_Law_law_23 : decode code 23 = .ok (.iload 4, 2) := by decide +kernel
theorem dq_Law_law_25 : decode code 25 = .ok (.aload_n 0, 1) := by decide +kernel
theorem dq_Law_law_26 : decode code 26 = .ok (.arraylength, 1) := by decide +kernel
theorem dq_Law_law_27 : decode code 27 = .ok (.iconst 3, 1) := by decide +kernel
theorem dq_Law_law_28 : decode code 28 = .ok (.isub, 1) := by decide +kernel
theorem dq_Law_law_29 : decode code 29 = .ok (.if_icmp .gt 584, 3) := by decide +kernel
theorem dq_Law_law_32 : decode code 32 = .ok (.aload_n 0, 1) := by decide +kernel
theorem dq_Law_law_33 : decode code 33 = .ok (.iload 4, 2) := by decide +kernel
theorem dq_Law_law_35 : decode code 35 = .ok (.iaload, 1) := by decide +kernel
theorem dq_Law_law_36 : decode code 36 = .ok (.bipush 15, 2) := by decide +kernel
theorem dq_Law_law_38 : decode code 38 = .ok (.iand, 1) := by decide +kernel
theorem dq_Law_law_39 : decode code 39 = .ok (.tableswitch 568 0 8 #[49, 137, 193, 257, 313, 369, 412, 456, 512], 49) := by decide +kernel
theorem dq_Law_law_88 : decode code 88 = .ok (.aload_n 1, 1) := by decide +kernel
theorem dq_Law_law_89 : decode code 89 = .ok (.aload_n 0, 1) := by decide +kernel
theorem dq_Law_law_90 : decode code 90 = .ok (.iload 4, 2) := by decide +kernel
theorem dq_Law_law_92 : decode code 92 = .ok (.iconst 1, 1) := by decide +kernel
theorem dq_Law_law_93 : decode code 93 = .ok (.iadd, 1) := by decide +kernel
theorem dq_Law_law_94 : decode code 94 = .ok (.iaload, 1) := by decide +kernel
theorem dq_Law_law_95 : decode code 95 = .ok (.i2l, 1) := by decide +kernel
theorem dq_Law_law_96 : decode code 96 = .ok (.bipush 32, 2) := by decide +kernel
theorem dq_Law_law_98 : decode code 98 = .ok (.lshl, 1) := by decide +kernel
theorem dq_Law_law_99 : decode code 99 = .ok (.aload_n 0, 1) := by decide +kernel
theorem dq_Law_law_100 : decode code 100 = .ok (.iload 4, 2) := by decide +kernel
theorem dq_Law_law_102 : decode code 102 = .ok (.iconst 2, 1) := by decide +kernel
theorem dq_Law_law_103 : decode code 103 = .ok (.iadd, 1) := by decide +kernel
theorem dq_Law_law_104 : decode code 104 = .ok (.iaload, 1) := by decide +kernel
theorem dq_Law_law_105 : decode code 105 = .ok (.i2l, 1) := by decide +kernel
theorem dq_Law_law_106 : decode code 106 = .ok (.ldc2_w 51, 3) := by decide +kernel
theorem dq_Law_law_109 : decode code 109 = .ok (.land, 1) := by decide +kernel
theorem dq_Law_law_110 : decode code 110 = .ok (.lor, 1) := by decide +kernel
theorem dq_Law_law_111 : decode code 111 = .ok (.aload_n 3, 1) := by decide +kernel
theorem dq_Law_law_112 : decode code 112 = .ok (.invokestatic 53, 3) := by decide +kernel
theorem dq_Law_law_115 : decode code 115 = .ok (.istore 5, 2) := by decide +kernel
theorem dq_Law_law_117 : decode code 117 = .ok (.aload_n 2, 1) := by decide +kernel
theorem dq_Law_law_118 : decode code 118 = .ok (.aload_n 0, 1) := by decide +kernel
theorem dq_Law_law_119 : decode code 119 = .ok (.iload 4, 2) := by decide +kernel
theorem dq_Law_law_121 : decode code 121 = .ok (.iconst 1, 1) := by decide +kernel
theorem dq_Law_law_122 : decode code 122 = .ok (.iadd, 1) := by decide +kernel
theorem dq_Law_law_123 : decode code 123 = .ok (.iaload, 1) := by decide +kernel
theorem dq_Law_law_124 : decode code 124 = .ok (.i2l, 1) := by decide +kernel
theorem dq_Law_law_125 : decode code 125 = .ok (.bipush 32, 2) := by decide +kernel
theorem dq_Law_law_127 : decode code 127 = .ok (.lshl, 1) := by decide +kernel
theorem dq_Law_law_128 : decode code 128 = .ok (.aload_n 0, 1) := by decide +kernel
theorem dq_Law_law_129 : decode code 129 = .ok (.iload 4, 2) := by decide +kernel
theorem dq_Law_law_131 : decode code 131 = .ok (.iconst 2, 1) := by decide +kernel
theorem dq_Law_law_132 : decode code 132 = .ok (.iadd, 1) := by decide +kernel
theorem dq_Law_law_133 : decode code 133 = .ok (.iaload, 1) := by decide +kernel
theorem dq_Law_law_134 : decode code 134 = .ok (.i2l, 1) := by decide +kernel
theorem dq_Law_law_135 : decode code 135 = .ok (.ldc2_w 51, 3) := by decide +kernel
theorem dq_Law_law_138 : decode code 138 = .ok (.land, 1) := by decide +kernel
theorem dq_Law_law_139 : decode code 139 = .ok (.lor, 1) := by decide +kernel
theorem dq_Law_law_140 : decode code 140 = .ok (.invokevirtual 58, 3) := by decide +kernel
theorem dq_Law_law_143 : decode code 143 = .ok (.istore 6, 2) := by decide +kernel
theorem dq_Law_law_145 : decode code 145 = .ok (.aload_n 2, 1) := by decide +kernel
theorem dq_Law_law_146 : decode code 146 = .ok (.invokevirtual 59, 3) := by decide +kernel
theorem dq_Law_law_149 : decode code 149 = .ok (.iload 5, 2) := by decide +kernel
theorem dq_Law_law_151 : decode code 151 = .ok (.if_icmp .eq 5, 3) := by decide +kernel
theorem dq_Law_law_154 : decode code 154 = .ok (.iconst 0, 1) := by decide +kernel
theorem dq_Law_law_155 : decode code 155 = .ok (.ireturn, 1) := by decide +kernel
theorem dq_Law_law_156 : decode code 156 = .ok (.iload 5, 2) := by decide +kernel
theorem dq_Law_law_158 : decode code 158 = .ok (.ifCond .ne 15, 3) := by decide +kernel
theorem dq_Law_law_161 : decode code 161 = .ok (.aload_n 3, 1) := by decide +kernel
theorem dq_Law_law_162 : decode code 162 = .ok (.iconst 0, 1) := by decide +kernel
theorem dq_Law_law_163 : decode code 163 = .ok (.laload, 1) := by decide +kernel
theorem dq_Law_law_164 : decode code 164 = .ok (.iload 6, 2) := by decide +kernel
theorem dq_Law_law_166 : decode code 166 = .ok (.i2l, 1) := by decide +kernel
theorem dq_Law_law_167 : decode code 167 = .ok (.lcmp, 1) := by decide +kernel
theorem dq_Law_law_168 : decode code 168 = .ok (.ifCond .eq 5, 3) := by decide +kernel
theorem dq_Law_law_171 : decode code 171 = .ok (.iconst 0, 1) := by decide +kernel
theorem dq_Law_law_172 : decode code 172 = .ok (.ireturn, 1) := by decide +kernel
theorem dq_Law_law_173 : decode code 173 = .ok (.goto 434, 3) := by decide +kernel
theorem dq_Law_law_176 : decode code 176 = .ok (.aload_n 1, 1) := by decide +kernel
theorem dq_Law_law_177 : decode code 177 = .ok (.aload_n 0, 1) := by decide +kernel
theorem dq_Law_law_178 : decode code 178 = .ok (.iload 4, 2) := by decide +kernel
theorem dq_Law_law_180 : decode code 180 = .ok (.iconst 1, 1) := by decide +kernel
theorem dq_Law_law_181 : decode code 181 = .ok (.iadd, 1) := by decide +kernel
theorem dq_Law_law_182 : decode code 182 = .ok (.iaload, 1) := by decide +kernel
theorem dq_Law_law_183 : decode code 183 = .ok (.aload_n 3, 1) := by decide +kernel
theorem dq_Law_law_184 : decode code 184 = .ok (.invokestatic 62, 3) := by decide +kernel
theorem dq_Law_law_187 : decode code 187 = .ok (.istore 5, 2) := by decide +kernel
theorem dq_Law_law_189 : decode code 189 = .ok (.aload_n 2, 1) := by decide +kernel
theorem dq_Law_law_190 : decode code 190 = .ok (.aload_n 0, 1) := by decide +kernel
theorem dq_Law_law_191 : decode code 191 = .ok (.iload 4, 2) := by decide +kernel
theorem dq_Law_law_193 : decode code 193 = .ok (.iconst 1, 1) := by decide +kernel
theorem dq_Law_law_194 : decode code 194 = .ok (.iadd, 1) := by decide +kernel
theorem dq_Law_law_195 : decode code 195 = .ok (.iaload, 1) := by decide +kernel
theorem dq_Law_law_196 : decode code 196 = .ok (.invokevirtual 65, 3) := by decide +kernel
theorem dq_Law_law_199 : decode code 199 = .ok (.istore 6, 2) := by decide +kernel
theorem dq_Law_law_201 : decode code 201 = .ok (.aload_n 2, 1) := by decide +kernel
theorem dq_Law_law_202 : decode code 202 = .ok (.invokevirtual 59, 3) := by decide +kernel
theorem dq_Law_law_205 : decode code 205 = .ok (.iload 5, 2) := by decide +kernel
theorem dq_Law_law_207 : decode code 207 = .ok (.if_icmp .eq 5, 3) := by decide +kernel
theorem dq_Law_law_210 : decode code 210 = .ok (.iconst 0, 1) := by decide +kernel
theorem dq_Law_law_211 : decode code 211 = .ok (.ireturn, 1) := by decide +kernel
theorem dq_Law_law_212 : decode code 212 = .ok (.iload 5, 2) := by decide +kernel
theorem dq_Law_law_214 : decode code 214 = .ok (.ifCond .ne 15, 3) := by decide +kernel
theorem dq_Law_law_217 : decode code 217 = .ok (.aload_n 3, 1) := by decide +kernel
theorem dq_Law_law_218 : decode code 218 = .ok (.iconst 0, 1) := by decide +kernel
theorem dq_Law_law_219 : decode code 219 = .ok (.laload, 1) := by decide +kernel
theorem dq_Law_law_220 : decode code 220 = .ok (.iload 6, 2) := by decide +kernel
theorem dq_Law_law_222 : decode code 222 = .ok (.i2l, 1) := by decide +kernel
theorem dq_Law_law_223 : decode code 223 = .ok (.lcmp, 1) := by decide +kernel
theorem dq_Law_law_224 : decode code 224 = .ok (.ifCond .eq 5, 3) := by decide +kernel
theorem dq_Law_law_227 : decode code 227 = .ok (.iconst 0, 1) := by decide +kernel
theorem dq_Law_law_228 : decode code 228 = .ok (.ireturn, 1) := by decide +kernel
theorem dq_Law_law_229 : decode code 229 = .ok (.goto 378, 3) := by decide +kernel
theorem dq_Law_law_232 : decode code 232 = .ok (.aload_n 1, 1) := by decide +kernel
theorem dq_Law_law_233 : decode code 233 = .ok (.aload_n 0, 1) := by decide +kernel
theorem dq_Law_law_234 : decode code 234 = .ok (.iload 4, 2) := by decide +kernel
theorem dq_Law_law_236 : decode code 236 = .ok (.iconst 1, 1) := by decide +kernel
theorem dq_Law_law_237 : decode code 237 = .ok (.iadd, 1) := by decide +kernel
theorem dq_Law_law_238 : decode code 238 = .ok (.iaload, 1) := by decide +kernel
theorem dq_Law_law_239 : decode code 239 = .ok (.ifCond .eq 7, 3) := by decide +kernel
theorem dq_Law_law_242 : decode code 242 = .ok (.iconst 1, 1) := by decide +kernel
theorem dq_Law_law_243 : decode code 243 = .ok (.goto 4, 3) := by decide +kernel
theorem dq_Law_law_246 : decode code 246 = .ok (.iconst 0, 1) := by decide +kernel
theorem dq_Law_law_247 : decode code 247 = .ok (.aload_n 0, 1) := by decide +kernel
theorem dq_Law_law_248 : decode code 248 = .ok (.iload 4, 2) := by decide +kernel
theorem dq_Law_law_250 : decode code 250 = .ok (.iconst 2, 1) := by decide +kernel
theorem dq_Law_law_251 : decode code 251 = .ok (.iadd, 1) := by decide +kernel
theorem dq_Law_law_252 : decode code 252 = .ok (.iaload, 1) := by decide +kernel
theorem dq_Law_law_253 : decode code 253 = .ok (.invokestatic 66, 3) := by decide +kernel
theorem dq_Law_law_256 : decode code 256 = .ok (.istore 5, 2) := by decide +kernel
theorem dq_Law_law_258 : decode code 258 = .ok (.aload_n 2, 1) := by decide +kernel
theorem dq_Law_law_259 : decode code 259 = .ok (.aload_n 0, 1) := by decide +kernel
theorem dq_Law_law_260 : decode code 260 = .ok (.iload 4, 2) := by decide +kernel
theorem dq_Law_law_262 : decode code 262 = .ok (.iconst 1, 1) := by decide +kernel
theorem dq_Law_law_263 : decode code 263 = .ok (.iadd, 1) := by decide +kernel
theorem dq_Law_law_264 : decode code 264 = .ok (.iaload, 1) := by decide +kernel
theorem dq_Law_law_265 : decode code 265 = .ok (.ifCond .eq 7, 3) := by decide +kernel
theorem dq_Law_law_268 : decode code 268 = .ok (.iconst 1, 1) := by decide +kernel
theorem dq_Law_law_269 : decode code 269 = .ok (.goto 4, 3) := by decide +kernel
theorem dq_Law_law_272 : decode code 272 = .ok (.iconst 0, 1) := by decide +kernel
theorem dq_Law_law_273 : decode code 273 = .ok (.aload_n 0, 1) := by decide +kernel
theorem dq_Law_law_274 : decode code 274 = .ok (.iload 4, 2) := by decide +kernel
theorem dq_Law_law_276 : decode code 276 = .ok (.iconst 2, 1) := by decide +kernel
theorem dq_Law_law_277 : decode code 277 = .ok (.iadd, 1) := by decide +kernel
theorem dq_Law_law_278 : decode code 278 = .ok (.iaload, 1) := by decide +kernel
theorem dq_Law_law_279 : decode code 279 = .ok (.invokevirtual 69, 3) := by decide +kernel
theorem dq_Law_law_282 : decode code 282 = .ok (.aload_n 2, 1) := by decide +kernel
theorem dq_Law_law_283 : decode code 283 = .ok (.invokevirtual 59, 3) := by decide +kernel
theorem dq_Law_law_286 : decode code 286 = .ok (.iload 5, 2) := by decide +kernel
theorem dq_Law_law_288 : decode code 288 = .ok (.if_icmp .eq 5, 3) := by decide +kernel
theorem dq_Law_law_291 : decode code 291 = .ok (.iconst 0, 1) := by decide +kernel
theorem dq_Law_law_292 : decode code 292 = .ok (.ireturn, 1) := by decide +kernel
theorem dq_Law_law_293 : decode code 293 = .ok (.goto 314, 3) := by decide +kernel
theorem dq_Law_law_296 : decode code 296 = .ok (.aload_n 1, 1) := by decide +kernel
theorem dq_Law_law_297 : decode code 297 = .ok (.aload_n 0, 1) := by decide +kernel
theorem dq_Law_law_298 : decode code 298 = .ok (.iload 4, 2) := by decide +kernel
theorem dq_Law_law_300 : decode code 300 = .ok (.iconst 1, 1) := by decide +kernel
theorem dq_Law_law_301 : decode code 301 = .ok (.iadd, 1) := by decide +kernel
theorem dq_Law_law_302 : decode code 302 = .ok (.iaload, 1) := by decide +kernel
theorem dq_Law_law_303 : decode code 303 = .ok (.aload_n 3, 1) := by decide +kernel
theorem dq_Law_law_304 : decode code 304 = .ok (.invokestatic 70, 3) := by decide +kernel
theorem dq_Law_law_307 : decode code 307 = .ok (.istore 5, 2) := by decide +kernel
theorem dq_Law_law_309 : decode code 309 = .ok (.aload_n 2, 1) := by decide +kernel
theorem dq_Law_law_310 : decode code 310 = .ok (.aload_n 0, 1) := by decide +kernel
theorem dq_Law_law_311 : decode code 311 = .ok (.iload 4, 2) := by decide +kernel
theorem dq_Law_law_313 : decode code 313 = .ok (.iconst 1, 1) := by decide +kernel
theorem dq_Law_law_314 : decode code 314 = .ok (.iadd, 1) := by decide +kernel
theorem dq_Law_law_315 : decode code 315 = .ok (.iaload, 1) := by decide +kernel
theorem dq_Law_law_316 : decode code 316 = .ok (.invokevirtual 72, 3) := by decide +kernel
theorem dq_Law_law_319 : decode code 319 = .ok (.istore 6, 2) := by decide +kernel
theorem dq_Law_law_321 : decode code 321 = .ok (.aload_n 2, 1) := by decide +kernel
theorem dq_Law_law_322 : decode code 322 = .ok (.invokevirtual 59, 3) := by decide +kernel
theorem dq_Law_law_325 : decode code 325 = .ok (.iload 5, 2) := by decide +kernel
theorem dq_Law_law_327 : decode code 327 = .ok (.if_icmp .eq 5, 3) := by decide +kernel
theorem dq_Law_law_330 : decode code 330 = .ok (.iconst 0, 1) := by decide +kernel
theorem dq_Law_law_331 : decode code 331 = .ok (.ireturn, 1) := by decide +kernel
theorem dq_Law_law_332 : decode code 332 = .ok (.iload 5, 2) := by decide +kernel
theorem dq_Law_law_334 : decode code 334 = .ok (.ifCond .ne 15, 3) := by decide +kernel
theorem dq_Law_law_337 : decode code 337 = .ok (.aload_n 3, 1) := by decide +kernel
theorem dq_Law_law_338 : decode code 338 = .ok (.iconst 0, 1) := by decide +kernel
theorem dq_Law_law_339 : decode code 339 = .ok (.laload, 1) := by decide +kernel
theorem dq_Law_law_340 : decode code 340 = .ok (.iload 6, 2) := by decide +kernel
theorem dq_Law_law_342 : decode code 342 = .ok (.i2l, 1) := by decide +kernel
theorem dq_Law_law_343 : decode code 343 = .ok (.lcmp, 1) := by decide +kernel
theorem dq_Law_law_344 : decode code 344 = .ok (.ifCond .eq 5, 3) := by decide +kernel
theorem dq_Law_law_347 : decode code 347 = .ok (.iconst 0, 1) := by decide +kernel
theorem dq_Law_law_348 : decode code 348 = .ok (.ireturn, 1) := by decide +kernel
theorem dq_Law_law_349 : decode code 349 = .ok (.goto 258, 3) := by decide +kernel
theorem dq_Law_law_352 : decode code 352 = .ok (.aload_n 1, 1) := by decide +kernel
theorem dq_Law_law_353 : decode code 353 = .ok (.aload_n 0, 1) := by decide +kernel
theorem dq_Law_law_354 : decode code 354 = .ok (.iload 4, 2) := by decide +kernel
theorem dq_Law_law_356 : decode code 356 = .ok (.iconst 1, 1) := by decide +kernel
theorem dq_Law_law_357 : decode code 357 = .ok (.iadd, 1) := by decide +kernel
theorem dq_Law_law_358 : decode code 358 = .ok (.iaload, 1) := by decide +kernel
theorem dq_Law_law_359 : decode code 359 = .ok (.aload_n 3, 1) := by decide +kernel
theorem dq_Law_law_360 : decode code 360 = .ok (.invokestatic 73, 3) := by decide +kernel
theorem dq_Law_law_363 : decode code 363 = .ok (.istore 5, 2) := by decide +kernel
theorem dq_Law_law_365 : decode code 365 = .ok (.aload_n 2, 1) := by decide +kernel
theorem dq_Law_law_366 : decode code 366 = .ok (.aload_n 0, 1) := by decide +kernel
theorem dq_Law_law_367 : decode code 367 = .ok (.iload 4, 2) := by decide +kernel
theorem dq_Law_law_369 : decode code 369 = .ok (.iconst 1, 1) := by decide +kernel
theorem dq_Law_law_370 : decode code 370 = .ok (.iadd, 1) := by decide +kernel
theorem dq_Law_law_371 : decode code 371 = .ok (.iaload, 1) := by decide +kernel
theorem dq_Law_law_372 : decode code 372 = .ok (.invokevirtual 75, 3) := by decide +kernel
theorem dq_Law_law_375 : decode code 375 = .ok (.istore 6, 2) := by decide +kernel
theorem dq_Law_law_377 : decode code 377 = .ok (.aload_n 2, 1) := by decide +kernel
theorem dq_Law_law_378 : decode code 378 = .ok (.invokevirtual 59, 3) := by decide +kernel
theorem dq_Law_law_381 : decode code 381 = .ok (.iload 5, 2) := by decide +kernel
theorem dq_Law_law_383 : decode code 383 = .ok (.if_icmp .eq 5, 3) := by decide +kernel
theorem dq_Law_law_386 : decode code 386 = .ok (.iconst 0, 1) := by decide +kernel
theorem dq_Law_law_387 : decode code 387 = .ok (.ireturn, 1) := by decide +kernel
theorem dq_Law_law_388 : decode code 388 = .ok (.iload 5, 2) := by decide +kernel
theorem dq_Law_law_390 : decode code 390 = .ok (.ifCond .ne 15, 3) := by decide +kernel
theorem dq_Law_law_393 : decode code 393 = .ok (.aload_n 3, 1) := by decide +kernel
theorem dq_Law_law_394 : decode code 394 = .ok (.iconst 0, 1) := by decide +kernel
theorem dq_Law_law_395 : decode code 395 = .ok (.laload, 1) := by decide +kernel
theorem dq_Law_law_396 : decode code 396 = .ok (.iload 6, 2) := by decide +kernel
theorem dq_Law_law_398 : decode code 398 = .ok (.i2l, 1) := by decide +kernel
theorem dq_Law_law_399 : decode code 399 = .ok (.lcmp, 1) := by decide +kernel
theorem dq_Law_law_400 : decode code 400 = .ok (.ifCond .eq 5, 3) := by decide +kernel
theorem dq_Law_law_403 : decode code 403 = .ok (.iconst 0, 1) := by decide +kernel
theorem dq_Law_law_404 : decode code 404 = .ok (.ireturn, 1) := by decide +kernel
theorem dq_Law_law_405 : decode code 405 = .ok (.goto 202, 3) := by decide +kernel
theorem dq_Law_law_408 : decode code 408 = .ok (.aload_n 1, 1) := by decide +kernel
theorem dq_Law_law_409 : decode code 409 = .ok (.aload_n 3, 1) := by decide +kernel
theorem dq_Law_law_410 : decode code 410 = .ok (.invokestatic 76, 3) := by decide +kernel
theorem dq_Law_law_413 : decode code 413 = .ok (.istore 5, 2) := by decide +kernel
theorem dq_Law_law_415 : decode code 415 = .ok (.aload_n 2, 1) := by decide +kernel
theorem dq_Law_law_416 : decode code 416 = .ok (.invokevirtual 79, 3) := by decide +kernel
theorem dq_Law_law_419 : decode code 419 = .ok (.lstore 6, 2) := by decide +kernel
theorem dq_Law_law_421 : decode code 421 = .ok (.aload_n 2, 1) := by decide +kernel
theorem dq_Law_law_422 : decode code 422 = .ok (.invokevirtual 59, 3) := by decide +kernel
theorem dq_Law_law_425 : decode code 425 = .ok (.iload 5, 2) := by decide +kernel
theorem dq_Law_law_427 : decode code 427 = .ok (.if_icmp .eq 5, 3) := by decide +kernel
theorem dq_Law_law_430 : decode code 430 = .ok (.iconst 0, 1) := by decide +kernel
theorem dq_Law_law_431 : decode code 431 = .ok (.ireturn, 1) := by decide +kernel
theorem dq_Law_law_432 : decode code 432 = .ok (.iload 5, 2) := by decide +kernel
theorem dq_Law_law_434 : decode code 434 = .ok (.ifCond .ne 14, 3) := by decide +kernel
theorem dq_Law_law_437 : decode code 437 = .ok (.aload_n 3, 1) := by decide +kernel
theorem dq_Law_law_438 : decode code 438 = .ok (.iconst 0, 1) := by decide +kernel
theorem dq_Law_law_439 : decode code 439 = .ok (.laload, 1) := by decide +kernel
theorem dq_Law_law_440 : decode code 440 = .ok (.lload 6, 2) := by decide +kernel
theorem dq_Law_law_442 : decode code 442 = .ok (.lcmp, 1) := by decide +kernel
theorem dq_Law_law_443 : decode code 443 = .ok (.ifCond .eq 5, 3) := by decide +kernel
theorem dq_Law_law_446 : decode code 446 = .ok (.iconst 0, 1) := by decide +kernel
theorem dq_Law_law_447 : decode code 447 = .ok (.ireturn, 1) := by decide +kernel
theorem dq_Law_law_448 : decode code 448 = .ok (.goto 159, 3) := by decide +kernel
theorem dq_Law_law_451 : decode code 451 = .ok (.aload_n 1, 1) := by decide +kernel
theorem dq_Law_law_452 : decode code 452 = .ok (.aload_n 3, 1) := by decide +kernel
theorem dq_Law_law_453 : decode code 453 = .ok (.invokestatic 80, 3) := by decide +kernel
theorem dq_Law_law_456 : decode code 456 = .ok (.istore 5, 2) := by decide +kernel
theorem dq_Law_law_458 : decode code 458 = .ok (.aload_n 2, 1) := by decide +kernel
theorem dq_Law_law_459 : decode code 459 = .ok (.invokevirtual 82, 3) := by decide +kernel
theorem dq_Law_law_462 : decode code 462 = .ok (.istore 6, 2) := by decide +kernel
theorem dq_Law_law_464 : decode code 464 = .ok (.aload_n 2, 1) := by decide +kernel
theorem dq_Law_law_465 : decode code 465 = .ok (.invokevirtual 59, 3) := by decide +kernel
theorem dq_Law_law_468 : decode code 468 = .ok (.iload 5, 2) := by decide +kernel
theorem dq_Law_law_470 : decode code 470 = .ok (.if_icmp .eq 5, 3) := by decide +kernel
theorem dq_Law_law_473 : decode code 473 = .ok (.iconst 0, 1) := by decide +kernel
theorem dq_Law_law_474 : decode code 474 = .ok (.ireturn, 1) := by decide +kernel
theorem dq_Law_law_475 : decode code 475 = .ok (.iload 5, 2) := by decide +kernel
theorem dq_Law_law_477 : decode code 477 = .ok (.ifCond .ne 15, 3) := by decide +kernel
theorem dq_Law_law_480 : decode code 480 = .ok (.aload_n 3, 1) := by decide +kernel
theorem dq_Law_law_481 : decode code 481 = .ok (.iconst 0, 1) := by decide +kernel
theorem dq_Law_law_482 : decode code 482 = .ok (.laload, 1) := by decide +kernel
theorem dq_Law_law_483 : decode code 483 = .ok (.iload 6, 2) := by decide +kernel
theorem dq_Law_law_485 : decode code 485 = .ok (.i2l, 1) := by decide +kernel
theorem dq_Law_law_486 : decode code 486 = .ok (.lcmp, 1) := by decide +kernel
theorem dq_Law_law_487 : decode code 487 = .ok (.ifCond .eq 5, 3) := by decide +kernel
theorem dq_Law_law_490 : decode code 490 = .ok (.iconst 0, 1) := by decide +kernel
theorem dq_Law_law_491 : decode code 491 = .ok (.ireturn, 1) := by decide +kernel
theorem dq_Law_law_492 : decode code 492 = .ok (.goto 115, 3) := by decide +kernel
theorem dq_Law_law_495 : decode code 495 = .ok (.aload_n 1, 1) := by decide +kernel
theorem dq_Law_law_496 : decode code 496 = .ok (.aload_n 0, 1) := by decide +kernel
theorem dq_Law_law_497 : decode code 497 = .ok (.iload 4, 2) := by decide +kernel
theorem dq_Law_law_499 : decode code 499 = .ok (.iconst 1, 1) := by decide +kernel
theorem dq_Law_law_500 : decode code 500 = .ok (.iadd, 1) := by decide +kernel
theorem dq_Law_law_501 : decode code 501 = .ok (.iaload, 1) := by decide +kernel
theorem dq_Law_law_502 : decode code 502 = .ok (.aload_n 3, 1) := by decide +kernel
theorem dq_Law_law_503 : decode code 503 = .ok (.invokestatic 83, 3) := by decide +kernel
theorem dq_Law_law_506 : decode code 506 = .ok (.istore 5, 2) := by decide +kernel
theorem dq_Law_law_508 : decode code 508 = .ok (.aload_n 2, 1) := by decide +kernel
theorem dq_Law_law_509 : decode code 509 = .ok (.aload_n 0, 1) := by decide +kernel
theorem dq_Law_law_510 : decode code 510 = .ok (.iload 4, 2) := by decide +kernel
theorem dq_Law_law_512 : decode code 512 = .ok (.iconst 1, 1) := by decide +kernel
theorem dq_Law_law_513 : decode code 513 = .ok (.iadd, 1) := by decide +kernel
theorem dq_Law_law_514 : decode code 514 = .ok (.iaload, 1) := by decide +kernel
theorem dq_Law_law_515 : decode code 515 = .ok (.invokevirtual 85, 3) := by decide +kernel
theorem dq_Law_law_518 : decode code 518 = .ok (.istore 6, 2) := by decide +kernel
theorem dq_Law_law_520 : decode code 520 = .ok (.aload_n 2, 1) := by decide +kernel
theorem dq_Law_law_521 : decode code 521 = .ok (.invokevirtual 59, 3) := by decide +kernel
theorem dq_Law_law_524 : decode code 524 = .ok (.iload 5, 2) := by decide +kernel
theorem dq_Law_law_526 : decode code 526 = .ok (.if_icmp .eq 5, 3) := by decide +kernel
theorem dq_Law_law_529 : decode code 529 = .ok (.iconst 0, 1) := by decide +kernel
theorem dq_Law_law_530 : decode code 530 = .ok (.ireturn, 1) := by decide +kernel
theorem dq_Law_law_531 : decode code 531 = .ok (.iload 5, 2) := by decide +kernel
theorem dq_Law_law_533 : decode code 533 = .ok (.ifCond .ne 15, 3) := by decide +kernel
theorem dq_Law_law_536 : decode code 536 = .ok (.aload_n 3, 1) := by decide +kernel
theorem dq_Law_law_537 : decode code 537 = .ok (.iconst 0, 1) := by decide +kernel
theorem dq_Law_law_538 : decode code 538 = .ok (.laload, 1) := by decide +kernel
theorem dq_Law_law_539 : decode code 539 = .ok (.iload 6, 2) := by decide +kernel
theorem dq_Law_law_541 : decode code 541 = .ok (.i2l, 1) := by decide +kernel
theorem dq_Law_law_542 : decode code 542 = .ok (.lcmp, 1) := by decide +kernel
theorem dq_Law_law_543 : decode code 543 = .ok (.ifCond .eq 5, 3) := by decide +kernel
theorem dq_Law_law_546 : decode code 546 = .ok (.iconst 0, 1) := by decide +kernel
theorem dq_Law_law_547 : decode code 547 = .ok (.ireturn, 1) := by decide +kernel
theorem dq_Law_law_548 : decode code 548 = .ok (.goto 59, 3) := by decide +kernel
theorem dq_Law_law_551 : decode code 551 = .ok (.aload_n 1, 1) := by decide +kernel
theorem dq_Law_law_552 : decode code 552 = .ok (.aload_n 0, 1) := by decide +kernel
theorem dq_Law_law_553 : decode code 553 = .ok (.iload 4, 2) := by decide +kernel
theorem dq_Law_law_555 : decode code 555 = .ok (.iconst 1, 1) := by decide +kernel
theorem dq_Law_law_556 : decode code 556 = .ok (.iadd, 1) := by decide +kernel
theorem dq_Law_law_557 : decode code 557 = .ok (.iaload, 1) := by decide +kernel
theorem dq_Law_law_558 : decode code 558 = .ok (.aload_n 3, 1) := by decide +kernel
theorem dq_Law_law_559 : decode code 559 = .ok (.invokestatic 86, 3) := by decide +kernel
theorem dq_Law_law_562 : decode code 562 = .ok (.istore 5, 2) := by decide +kernel
theorem dq_Law_law_564 : decode code 564 = .ok (.aload_n 2, 1) := by decide +kernel
theorem dq_Law_law_565 : decode code 565 = .ok (.aload_n 0, 1) := by decide +kernel
theorem dq_Law_law_566 : decode code 566 = .ok (.iload 4, 2) := by decide +kernel
theorem dq_Law_law_568 : decode code 568 = .ok (.iconst 1, 1) := by decide +kernel
theorem dq_Law_law_569 : decode code 569 = .ok (.iadd, 1) := by decide +kernel
theorem dq_Law_law_570 : decode code 570 = .ok (.iaload, 1) := by decide +kernel
theorem dq_Law_law_571 : decode code 571 = .ok (.invokevirtual 88, 3) := by decide +kernel
theorem dq_Law_law_574 : decode code 574 = .ok (.istore 6, 2) := by decide +kernel
theorem dq_Law_law_576 : decode code 576 = .ok (.aload_n 2, 1) := by decide +kernel
theorem dq_Law_law_577 : decode code 577 = .ok (.invokevirtual 59, 3) := by decide +kernel
theorem dq_Law_law_580 : decode code 580 = .ok (.iload 5, 2) := by decide +kernel
theorem dq_Law_law_582 : decode code 582 = .ok (.if_icmp .eq 5, 3) := by decide +kernel
theorem dq_Law_law_585 : decode code 585 = .ok (.iconst 0, 1) := by decide +kernel
theorem dq_Law_law_586 : decode code 586 = .ok (.ireturn, 1) := by decide +kernel
theorem dq_Law_law_587 : decode code 587 = .ok (.iload 5, 2) := by decide +kernel
theorem dq_Law_law_589 : decode code 589 = .ok (.ifCond .ne 15, 3) := by decide +kernel
theorem dq_Law_law_592 : decode code 592 = .ok (.aload_n 3, 1) := by decide +kernel
theorem dq_Law_law_593 : decode code 593 = .ok (.iconst 0, 1) := by decide +kernel
theorem dq_Law_law_594 : decode code 594 = .ok (.laload, 1) := by decide +kernel
theorem dq_Law_law_595 : decode code 595 = .ok (.iload 6, 2) := by decide +kernel
theorem dq_Law_law_597 : decode code 597 = .ok (.i2l, 1) := by decide +kernel
theorem dq_Law_law_598 : decode code 598 = .ok (.lcmp, 1) := by decide +kernel
theorem dq_Law_law_599 : decode code 599 = .ok (.ifCond .eq 5, 3) := by decide +kernel
theorem dq_Law_law_602 : decode code 602 = .ok (.iconst 0, 1) := by decide +kernel
theorem dq_Law_law_603 : decode code 603 = .ok (.ireturn, 1) := by decide +kernel
theorem dq_Law_law_604 : decode code 604 = .ok (.goto 3, 3) := by decide +kernel
theorem dq_Law_law_607 : decode code 607 = .ok (.iinc 4 3, 3) := by decide +kernel
theorem dq_Law_law_610 : decode code 610 = .ok (.goto (-587), 3) := by decide +kernel
theorem dq_Law_law_613 : decode code 613 = .ok (.iconst 1, 1) := by decide +kernel
theorem dq_Law_law_614 : decode code 614 = .ok (.ireturn, 1) := by decide +kernel
theorem cl_Law_47 : ClI RL 47 ky_Tru_init 0 := ⟨⟨Or.inl (wl (i := 19) rfl rfl), (wl (i := 1) rfl rfl), by decide, by decide, by decide +kernel⟩, (wl (i := 20) rfl rfl), rfl⟩
set_option maxRecDepth 10000 in
theorem cl_Law_50 : ClI RL 50 ky_Mod_init 0 := ⟨⟨Or.inl (wl (i := 455) rfl rfl), (wl (i := 5) rfl rfl), by decide, by decide, by decide +kernel⟩, (wl (i := 456) rfl rfl), rfl⟩
set_option maxRecDepth 10000 in
theorem wk_Law_51 : Cond.constantLong RL 51 (zj 4294967295) ∈ al := wl (i := 617) rfl rfl
theorem cl_Law_53 : ClS RL 53 ky_Law_set 3 := ⟨⟨Or.inl (wl (i := 109) rfl rfl), (wl (i := 0) rfl rfl), by decide, by decide, by decide +kernel⟩, (wl (i := 110) rfl rfl)⟩
theorem lk_Law_53 : Cond.methodLink RL 53 ky_Law_set ∈ al := (wl (i := 109) rfl rfl)
theorem cdw_Law_set : Cond.codeWith ky_Law_set kb_Law_set 5 (some .int) [(0, 9, 12, 13)] ∈ al := wl (i := 111) rfl rfl
set_option maxRecDepth 10000 in
theorem cl_Law_58 : ClV RL 58 ky_Mod_set 1 := ⟨⟨Or.inl (wl (i := 521) rfl rfl), (wl (i := 5) rfl rfl), by decide, by decide, by decide +kernel⟩, (wl (i := 522) rfl rfl), (wl (i := 523) rfl rfl)⟩
set_option maxRecDepth 10000 in
theorem cl_Law_59 : ClV RL 59 ky_Mod_thrown 0 := ⟨⟨Or.inl (wl (i := 517) rfl rfl), (wl (i := 5) rfl rfl), by decide, by decide, by decide +kernel⟩, (wl (i := 518) rfl rfl), (wl (i := 519) rfl rfl)⟩
theorem cl_Law_62 : ClS RL 62 ky_Law_digit 3 := ⟨⟨Or.inl (wl (i := 247) rfl rfl), (wl (i := 0) rfl rfl), by decide, by decide, by decide +kernel⟩, (wl (i := 248) rfl rfl)⟩
theorem lk_Law_62 : Cond.methodLink RL 62 ky_Law_digit ∈ al := (wl (i := 247) rfl rfl)
theorem cdw_Law_digit : Cond.codeWith ky_Law_digit kb_Law_digit 4 (some .int) [(0, 9, 12, 13), (0, 9, 15, 19)] ∈ al := wl (i := 249) rfl rfl
set_option maxRecDepth 10000 in
theorem cl_Law_65 : ClV RL 65 ky_Mod_digit 1 := ⟨⟨Or.inl (wl (i := 544) rfl rfl), (wl (i := 5) rfl rfl), by decide, by decide, by decide +kernel⟩, (wl (i := 545) rfl rfl), (wl (i := 546) rfl rfl)⟩
theorem cl_Law_66 : ClS RL 66 ky_Law_clear 3 := ⟨⟨Or.inl (wl (i := 281) rfl rfl), (wl (i := 0) rfl rfl), by decide, by decide, by decide +kernel⟩, (wl (i := 282) rfl rfl)⟩
theorem lk_Law_66 : Cond.methodLink RL 66 ky_Law_clear ∈ al := (wl (i := 281) rfl rfl)
theorem cdw_Law_clear : Cond.codeWith ky_Law_clear kb_Law_clear 4 (some .int) [(0, 6, 9, 13)] ∈ al := wl (i := 283) rfl rfl
set_option maxRecDepth 10000 in
theorem cl_Law_69 : ClV RL 69 ky_Mod_clear 2 := ⟨⟨Or.inl (wl (i := 552) rfl rfl), (wl (i := 5) rfl rfl), by decide, by decide, by decide +kernel⟩, (wl (i := 553) rfl rfl), (wl (i := 554) rfl rfl)⟩
theorem cl_Law_70 : ClS RL 70 ky_Law_round 3 := ⟨⟨Or.inl (wl (i := 293) rfl rfl), (wl (i := 0) rfl rfl), by decide, by decide, by decide +kernel⟩, (wl (i := 294) rfl rfl)⟩
theorem lk_Law_70 : Cond.methodLink RL 70 ky_Law_round ∈ al := (wl (i := 293) rfl rfl)
theorem cdw_Law_round : Cond.codeWith ky_Law_round kb_Law_round 4 (some .int) [(0, 9, 12, 13)] ∈ al := wl (i := 295) rfl rfl
set_option maxRecDepth 10000 in
theorem cl_Law_72 : ClV RL 72 ky_Mod_round 1 := ⟨⟨Or.inl (wl (i := 558) rfl rfl), (wl (i := 5) rfl rfl), by decide, by decide, by decide +kernel⟩, (wl (i := 559) rfl rfl), (wl (i := 560) rfl rfl)⟩
set_option maxRecDepth 10000 in
theorem cl_Law_73 : ClS RL 73 ky_Law_places 3 := ⟨⟨Or.inl (wl (i := 322) rfl rfl), (wl (i := 0) rfl rfl), by decide, by decide, by decide +kernel⟩, (wl (i := 323) rfl rfl)⟩
set_option maxRecDepth 10000 in
theorem lk_Law_73 : Cond.methodLink RL 73 ky_Law_places ∈ al := (wl (i := 322) rfl rfl)
set_option maxRecDepth 10000 in
theorem cdw_Law_places : Cond.codeWith ky_Law_places kb_Law_places 4 (some .int) [(0, 9, 12, 13)] ∈ al := wl (i := 324) rfl rfl
set_option maxRecDepth 10000 in
theorem cl_Law_75 : ClV RL 75 ky_Mod_places 1 := ⟨⟨Or.inl (wl (i := 572) rfl rfl), (wl (i := 5) rfl rfl), by decide, by decide, by decide +kernel⟩, (wl (i := 573) rfl rfl), (wl (i := 574) rfl rfl)⟩
set_option maxRecDepth 10000 in
theorem cl_Law_76 : ClS RL 76 ky_Law_nearest 2 := ⟨⟨Or.inl (wl (i := 330) rfl rfl), (wl (i := 0) rfl rfl), by decide, by decide, by decide +kernel⟩, (wl (i := 331) rfl rfl)⟩
set_option maxRecDepth 10000 in
theorem lk_Law_76 : Cond.methodLink RL 76 ky_Law_nearest ∈ al := (wl (i := 330) rfl rfl)
set_option maxRecDepth 10000 in
theorem cdw_Law_nearest : Cond.codeWith ky_Law_nearest kb_Law_nearest 3 (some .int) [(0, 7, 10, 35)] ∈ al := wl (i := 332) rfl rfl
set_option maxRecDepth 10000 in
theorem cl_Law_79 : ClV RL 79 ky_Mod_nearest 0 := ⟨⟨Or.inl (wl (i := 577) rfl rfl), (wl (i := 5) rfl rfl), by decide, by decide, by decide +kernel⟩, (wl (i := 578) rfl rfl), (wl (i := 579) rfl rfl)⟩
set_option maxRecDepth 10000 in
theorem cl_Law_80 : ClS RL 80 ky_Law_enough 2 := ⟨⟨Or.inl (wl (i := 400) rfl rfl), (wl (i := 0) rfl rfl), by decide, by decide, by decide +kernel⟩, (wl (i := 401) rfl rfl)⟩
set_option maxRecDepth 10000 in
theorem lk_Law_80 : Cond.methodLink RL 80 ky_Law_enough ∈ al := (wl (i := 400) rfl rfl)
set_option maxRecDepth 10000 in
theorem cdw_Law_enough : Cond.codeWith ky_Law_enough kb_Law_enough 3 (some .int) [(0, 8, 11, 35)] ∈ al := wl (i := 402) rfl rfl
set_option maxRecDepth 10000 in
theorem cl_Law_82 : ClV RL 82 ky_Mod_enough 0 := ⟨⟨Or.inl (wl (i := 595) rfl rfl), (wl (i := 5) rfl rfl), by decide, by decide, by decide +kernel⟩, (wl (i := 596) rfl rfl), (wl (i := 597) rfl rfl)⟩
set_option maxRecDepth 10000 in
theorem cl_Law_83 : ClS RL 83 ky_Law_look 3 := ⟨⟨Or.inl (wl (i := 437) rfl rfl), (wl (i := 0) rfl rfl), by decide, by decide, by decide +kernel⟩, (wl (i := 438) rfl rfl)⟩
set_option maxRecDepth 10000 in
theorem lk_Law_83 : Cond.methodLink RL 83 ky_Law_look ∈ al := (wl (i := 437) rfl rfl)
set_option maxRecDepth 10000 in
theorem cdw_Law_look : Cond.codeWith ky_Law_look kb_Law_look 4 (some .int) [(0, 9, 12, 19)] ∈ al := wl (i := 439) rfl rfl
set_option maxRecDepth 10000 in
theorem cl_Law_85 : ClV RL 85 ky_Mod_look 1 := ⟨⟨Or.inl (wl (i := 609) rfl rfl), (wl (i := 5) rfl rfl), by decide, by decide, by decide +kernel⟩, (wl (i := 610) rfl rfl), (wl (i := 611) rfl rfl)⟩
set_option maxRecDepth 10000 in
theorem cl_Law_86 : ClS RL 86 ky_Law_count 3 := ⟨⟨Or.inl (wl (i := 445) rfl rfl), (wl (i := 0) rfl rfl), by decide, by decide, by decide +kernel⟩, (wl (i := 446) rfl rfl)⟩
set_option maxRecDepth 10000 in
theorem lk_Law_86 : Cond.methodLink RL 86 ky_Law_count ∈ al := (wl (i := 445) rfl rfl)
set_option maxRecDepth 10000 in
theorem cdw_Law_count : Cond.codeWith ky_Law_count kb_Law_count 4 (some .int) [(0, 9, 12, 13)] ∈ al := wl (i := 447) rfl rfl
set_option maxRecDepth 10000 in
theorem cl_Law_88 : ClV RL 88 ky_Mod_count 1 := ⟨⟨Or.inl (wl (i := 613) rfl rfl), (wl (i := 5) rfl rfl), by decide, by decide, by decide +kernel⟩, (wl (i := 614) rfl rfl), (wl (i := 615) rfl rfl)⟩
/-! THE CLAIM OUT OF ONE WALK OF THE LAW'S BODY. Your part is whole_start (and what it stands on); all else here is the same for every law, but numbers. -/
def R_law : String := "DecimalTruthLaw"
def lw_P (b : Addr) (xs : List Int32) (args : Array Value) (s : State) : Prop := args = #[.ref b] ∧ s.IntsAt b xs ∧ xs.length ≤ 1536 ∧ (Jvm.Cond.and given_1 narrow_1).before args s = true
def lw_Q (_ : Array Value) (s : State) (o : Outcome) (t : State) : Prop := o = .returned (some (.int 1)) ∧ Framed s o t [] 1055 18028
def lw_Z (below : List Frame) (a : Array Value) (s : State) : State → Prop := fun t => ∃ o, t.status = .running ∧ Ended t below o ∧ lw_Q a s o t
/-- the law's own end, with 1 on the stack, nothing written that was there before, its room as the claim has it -/
theorem lw_ret {p : Program} {l : Launch} {e : Env} {s : State} {m : MethodId} {below : List Frame} {meth : Method} {c : Code} {b : Nat} (hx : p.tables.exec = Jvm.exec) (hb : c.code = code) (hr : meth.sig.returnType = ret) (hlocks : meth.locks = false) {pc : Nat} {H : Heap} {ls : Array Slot} (hdg : decode code pc = .ok (.ireturn, 1)) : W p l e room_1 s m #[Value.ref b] below meth c H [] 1055 18028 (lw_Z below #[Value.ref b] s) (F0 m pc ls [.int 1]) := by
  intro T hT X
  obtain ⟨fs, hret, hrun, hended, hW, hframe⟩ := X.leave (v := some (.int 1)) (hlocks := hlocks) (fun h => by rw [hr] at h; cases h)
  have hmeth' : T.vm.method? m = some meth := X.method'
  refine ⟨T.setFrames fs, ?_, .returned (some (.int 1)), hrun, hended, rfl, ⟨_, rfl⟩, hW, hframe⟩
  jvm_step X.here [X.here.top, hx, hb, hdg, hmeth', hr, ret, narrow_b1]
  (try refine ⟨rfl, ?_⟩); (try refine ⟨rfl, ?_⟩)
  first | (intro acts; rw [hret _ acts rfl rfl rfl]) | rw [hret _ _ rfl rfl rfl]
  exact Steps.refl _
/-- what holds at the law's entry: the machine, the code, the tables' words (any of lw_tbl by 'hts w (by decide +kernel)'), the script of L ints xs at the cell b, what the Statement gives of the start (any of its parts by flat_of_before) -/
def lw_At (p : Program) (s : State) (m : MethodId) (meth : Method) (c : Code) (b L : Nat) (xs : Nat → Int32) : Prop :=
  p.tables.exec = Jvm.exec ∧ c.code = code ∧ meth.sig.returnType = ret ∧ c.maxLocals = 8 ∧ s.vm.findClass R_law = some m.cls ∧ (∀ w ∈ lw_tbl, w.before #[Value.ref b] s = true) ∧ va_X b L xs s s.heap ∧ b < s.heap.size ∧ meth.locks = false ∧ (Jvm.Cond.and given_1 narrow_1).before #[Value.ref b] s = true
def Lw (K : Kx) (b : Nat) : Prop :=
  match K with
  | (_, _, _, _, s, _, args, below, meth, _, _, A, Q) => args = #[Value.ref b] ∧ meth.sig.returnType = ret ∧ meth.locks = false ∧ (∀ q, A q → s.heap.size ≤ q) ∧ Q = lw_Z below #[Value.ref b] s
theorem qw_ret {K : Kx} {cI cJ : ClassId} {own : String} {ws : va_W} {k n pc : Nat} {lv : List (Nat × Value)} (C : Cx K cI cJ code 8 own room_1) {b : Nat} (hw : Lw K b) (d : decode code pc = .ok (.ireturn, 1)) (hk : k ≤ 1055) (hs : n ≤ 18028) : V K 8 ws k n pc lv [vi 1] := by
  obtain ⟨p, l, e, R, s, m, args, below, meth, c, D, A, Q⟩ := K
  obtain ⟨hx, hb, hml, hown, hts, hK, hA, rfl, hnw⟩ := C
  obtain ⟨rfl, hr, hlk, hA2, rfl⟩ := hw
  intro H locs ls hP hD hS hl
  refine va_forget (fun q hq => hA2 _ (hS.2.2 q hq)) (W.widen hk hs ?_)
  have e1 : vi 1 = .int 1 := congrArg Value.int (by decide)
  rw [e1]
  exact lw_ret hx hb hr hlk d
def Bd (ft fl1 fh rf bb wf lf hf : Nat → Nat) : Prop := (∀ i, ft i ≤ 9) ∧ (∀ i, fl1 i ≤ 9) ∧ (∀ i, fh i ≤ 9) ∧ (∀ i, rf i ≤ 9) ∧ (∀ i, bb i < 2) ∧ (∀ i, wf i ≤ 9) ∧ (∀ i, lf i ≤ 9) ∧ (∀ i, hf i ≤ 9)
def LG (K : Kx) (cI cJ : ClassId) (sc x k g w t l hi ka b wa ta la ha y dg rw bt wz lw hg o c i kk nn pc : Nat) : Prop := ∀ (mi : Bool) (zr : Nat) (pt : Int) (len : Nat) (pl : Int) (f : Nat → Nat) (fi en : Nat) (R : Nat → Nat) (hm : Bool) (W : Nat → Nat) (lt : Nat) (pt2 : Int) (ft : Nat → Nat) (ll : Nat) (pll : Int) (fl1 : Nat → Nat) (lh : Nat) (ph : Int) (fh : Nat → Nat) (er : Int) (mj : Bool) (lem : Nat) (pm : Int) (zs : Nat) (pu : Int) (d : Nat → Nat) (mn : Nat) (fr fo : Int) (ls : Nat) (lp : Int) (hs : Nat) (hq : Int) (rf bb wf lf hf : Nat → Nat) (oo : Nat → Nat), Tie c mi zr pt len pl f mj zs pu lem pm d → Bd ft fl1 fh rf bb wf lf hf → V K 8 [oc x 3 [.ref k, vi (b2 mi), vi ((zr : Nat) : Int), vi pt, .ref g, .ref w, .ref t, .ref l, .ref hi], oc k 0 [.ref ka, vi ((len : Nat) : Int), vi pl], ai cI ka 800 f, oc g 1 [.ref b, vi ((fi : Nat) : Int), vi ((en : Nat) : Int)], aj cJ b 160 R, oc w 2 [.ref wa, vi (b2 hm)], aj cJ wa 70 W, oc t 0 [.ref ta, vi ((lt : Nat) : Int), vi pt2], ai cI ta 800 ft, oc l 0 [.ref la, vi ((ll : Nat) : Int), vi pll], ai cI la 800 fl1, oc hi 0 [.ref ha, vi ((lh : Nat) : Int), vi ph], ai cI ha 800 fh, oc y 4 [vi er, vi (b2 mj), .ref dg, vi ((lem : Nat) : Int), vi pm, vi ((zs : Nat) : Int), vi pu, .ref rw, vi ((mn : Nat) : Int), vi fr, vj fo, .ref bt, .ref wz, .ref lw, .ref hg, vi ((ls : Nat) : Int), vi lp, vi ((hs : Nat) : Int), vi hq], ai cI dg 800 d, ai cI rw 1200 rf, ai cI bt 1100 bb, ai cI wz 800 wf, ai cI lw 1200 lf, ai cI hg 1200 hf, aj cJ o 1 oo] kk nn pc [(0, .ref sc), (1, .ref x), (2, .ref y), (3, .ref o), (4, vi ((i : Nat) : Int))] []
theorem rl_a {c : Nat} (h : c < 512) : 21 + c + 1 ≤ room_1.cells ∧ 9776 + 6 * c + 6 ≤ room_1.slots := by
  show 21 + c + 1 ≤ 1055 ∧ 9776 + 6 * c + 6 ≤ 18028
  omega
theorem rl_b {c : Nat} (h : c < 512) : 21 + c + 1 + 0 ≤ room_1.cells ∧ 9776 + 6 * c + 6 + 0 ≤ room_1.slots := by
  show 21 + c + 1 + 0 ≤ 1055 ∧ 9776 + 6 * c + 6 + 0 ≤ 18028
  omega
theorem cn_ri {a : Int} {len : Nat} {pl : Int} {mi : Bool} (hl : len ≤ 800) (hp : ri pl) : ri (if a = 0 then ((len : Nat) : Int) else if a = 1 then pl else b2 mi) := by
  split
  · omega
  · split
    · exact hp
    · exact rb_b2 mi
