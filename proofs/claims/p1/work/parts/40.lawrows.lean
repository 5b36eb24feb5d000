/-! The law's own code. -/
theorem d_law_0 : decode code 0 = .ok (.new 8, 3) := by decide +kernel
theorem d_law_3 : decode code 3 = .ok (.dup, 1) := by decide +kernel
theorem d_law_4 : decode code 4 = .ok (.invokespecial 58, 3) := by decide +kernel
theorem d_law_7 : decode code 7 = .ok (.astore_n 1, 1) := by decide +kernel
theorem d_law_8 : decode code 8 = .ok (.new 59, 3) := by decide +kernel
theorem d_law_11 : decode code 11 = .ok (.dup, 1) := by decide +kernel
theorem d_law_12 : decode code 12 = .ok (.invokespecial 61, 3) := by decide +kernel
theorem d_law_15 : decode code 15 = .ok (.astore_n 2, 1) := by decide +kernel
theorem d_law_16 : decode code 16 = .ok (.iconst 1, 1) := by decide +kernel
theorem d_law_17 : decode code 17 = .ok (.newarray .long, 2) := by decide +kernel
theorem d_law_19 : decode code 19 = .ok (.astore_n 3, 1) := by decide +kernel
theorem d_law_20 : decode code 20 = .ok (.iconst 0, 1) := by decide +kernel
theorem d_law_21 : decode code 21 = .ok (.istore 4, 2) := by decide +kernel
theorem d_law_23 : decode code 23 = .ok (.iload 4, 2) := by decide +kernel
theorem d_law_25 : decode code 25 = .ok (.aload_n 0, 1) := by decide +kernel
theorem d_law_26 : decode code 26 = .ok (.arraylength, 1) := by decide +kernel
theorem d_law_27 : decode code 27 = .ok (.bipush 10, 2) := by decide +kernel
theorem d_law_29 : decode code 29 = .ok (.isub, 1) := by decide +kernel
theorem d_law_30 : decode code 30 = .ok (.if_icmp .gt 1236, 3) := by decide +kernel
theorem d_law_33 : decode code 33 = .ok (.aload_n 0, 1) := by decide +kernel
theorem d_law_34 : decode code 34 = .ok (.iload 4, 2) := by decide +kernel
theorem d_law_36 : decode code 36 = .ok (.iaload, 1) := by decide +kernel
theorem d_law_37 : decode code 37 = .ok (.bipush 15, 2) := by decide +kernel
theorem d_law_39 : decode code 39 = .ok (.iand, 1) := by decide +kernel
theorem d_law_40 : decode code 40 = .ok (.tableswitch 1220 0 12 #[68, 172, 256, 312, 325, 416, 483, 550, 653, 721, 861, 917, 973], 68) := by decide +kernel
theorem d_law_108 : decode code 108 = .ok (.aload_n 1, 1) := by decide +kernel
theorem d_law_109 : decode code 109 = .ok (.aload_n 0, 1) := by decide +kernel
theorem d_law_110 : decode code 110 = .ok (.iload 4, 2) := by decide +kernel
theorem d_law_112 : decode code 112 = .ok (.iconst 1, 1) := by decide +kernel
theorem d_law_113 : decode code 113 = .ok (.iadd, 1) := by decide +kernel
theorem d_law_114 : decode code 114 = .ok (.iaload, 1) := by decide +kernel
theorem d_law_115 : decode code 115 = .ok (.aload_n 0, 1) := by decide +kernel
theorem d_law_116 : decode code 116 = .ok (.iload 4, 2) := by decide +kernel
theorem d_law_118 : decode code 118 = .ok (.iconst 2, 1) := by decide +kernel
theorem d_law_119 : decode code 119 = .ok (.iadd, 1) := by decide +kernel
theorem d_law_120 : decode code 120 = .ok (.iaload, 1) := by decide +kernel
theorem d_law_121 : decode code 121 = .ok (.aload_n 0, 1) := by decide +kernel
theorem d_law_122 : decode code 122 = .ok (.iload 4, 2) := by decide +kernel
theorem d_law_124 : decode code 124 = .ok (.iconst 3, 1) := by decide +kernel
theorem d_law_125 : decode code 125 = .ok (.iadd, 1) := by decide +kernel
theorem d_law_126 : decode code 126 = .ok (.iaload, 1) := by decide +kernel
theorem d_law_127 : decode code 127 = .ok (.aload_n 0, 1) := by decide +kernel
theorem d_law_128 : decode code 128 = .ok (.iload 4, 2) := by decide +kernel
theorem d_law_130 : decode code 130 = .ok (.iconst 4, 1) := by decide +kernel
theorem d_law_131 : decode code 131 = .ok (.iadd, 1) := by decide +kernel
theorem d_law_132 : decode code 132 = .ok (.iaload, 1) := by decide +kernel
theorem d_law_133 : decode code 133 = .ok (.aload_n 0, 1) := by decide +kernel
theorem d_law_134 : decode code 134 = .ok (.iload 4, 2) := by decide +kernel
theorem d_law_136 : decode code 136 = .ok (.iconst 5, 1) := by decide +kernel
theorem d_law_137 : decode code 137 = .ok (.iadd, 1) := by decide +kernel
theorem d_law_138 : decode code 138 = .ok (.iaload, 1) := by decide +kernel
theorem d_law_139 : decode code 139 = .ok (.aload_n 3, 1) := by decide +kernel
theorem d_law_140 : decode code 140 = .ok (.invokestatic 62, 3) := by decide +kernel
theorem d_law_143 : decode code 143 = .ok (.istore 5, 2) := by decide +kernel
theorem d_law_145 : decode code 145 = .ok (.aload_n 2, 1) := by decide +kernel
theorem d_law_146 : decode code 146 = .ok (.aload_n 0, 1) := by decide +kernel
theorem d_law_147 : decode code 147 = .ok (.iload 4, 2) := by decide +kernel
theorem d_law_149 : decode code 149 = .ok (.iconst 1, 1) := by decide +kernel
theorem d_law_150 : decode code 150 = .ok (.iadd, 1) := by decide +kernel
theorem d_law_151 : decode code 151 = .ok (.iaload, 1) := by decide +kernel
theorem d_law_152 : decode code 152 = .ok (.aload_n 0, 1) := by decide +kernel
theorem d_law_153 : decode code 153 = .ok (.iload 4, 2) := by decide +kernel
theorem d_law_155 : decode code 155 = .ok (.iconst 2, 1) := by decide +kernel
theorem d_law_156 : decode code 156 = .ok (.iadd, 1) := by decide +kernel
theorem d_law_157 : decode code 157 = .ok (.iaload, 1) := by decide +kernel
theorem d_law_158 : decode code 158 = .ok (.aload_n 0, 1) := by decide +kernel
theorem d_law_159 : decode code 159 = .ok (.iload 4, 2) := by decide +kernel
theorem d_law_161 : decode code 161 = .ok (.iconst 3, 1) := by decide +kernel
theorem d_law_162 : decode code 162 = .ok (.iadd, 1) := by decide +kernel
theorem d_law_163 : decode code 163 = .ok (.iaload, 1) := by decide +kernel
theorem d_law_164 : decode code 164 = .ok (.aload_n 0, 1) := by decide +kernel
theorem d_law_165 : decode code 165 = .ok (.iload 4, 2) := by decide +kernel
theorem d_law_167 : decode code 167 = .ok (.iconst 4, 1) := by decide +kernel
theorem d_law_168 : decode code 168 = .ok (.iadd, 1) := by decide +kernel
theorem d_law_169 : decode code 169 = .ok (.iaload, 1) := by decide +kernel
theorem d_law_170 : decode code 170 = .ok (.aload_n 0, 1) := by decide +kernel
theorem d_law_171 : decode code 171 = .ok (.iload 4, 2) := by decide +kernel
theorem d_law_173 : decode code 173 = .ok (.iconst 5, 1) := by decide +kernel
theorem d_law_174 : decode code 174 = .ok (.iadd, 1) := by decide +kernel
theorem d_law_175 : decode code 175 = .ok (.iaload, 1) := by decide +kernel
theorem d_law_176 : decode code 176 = .ok (.invokevirtual 67, 3) := by decide +kernel
theorem d_law_179 : decode code 179 = .ok (.istore 6, 2) := by decide +kernel
theorem d_law_181 : decode code 181 = .ok (.aload_n 2, 1) := by decide +kernel
theorem d_law_182 : decode code 182 = .ok (.invokevirtual 68, 3) := by decide +kernel
theorem d_law_185 : decode code 185 = .ok (.iload 5, 2) := by decide +kernel
theorem d_law_187 : decode code 187 = .ok (.if_icmp .eq 5, 3) := by decide +kernel
theorem d_law_190 : decode code 190 = .ok (.iconst 0, 1) := by decide +kernel
theorem d_law_191 : decode code 191 = .ok (.ireturn, 1) := by decide +kernel
theorem d_law_192 : decode code 192 = .ok (.iload 5, 2) := by decide +kernel
theorem d_law_194 : decode code 194 = .ok (.ifCond .ne 15, 3) := by decide +kernel
theorem d_law_197 : decode code 197 = .ok (.aload_n 3, 1) := by decide +kernel
theorem d_law_198 : decode code 198 = .ok (.iconst 0, 1) := by decide +kernel
theorem d_law_199 : decode code 199 = .ok (.laload, 1) := by decide +kernel
theorem d_law_200 : decode code 200 = .ok (.iload 6, 2) := by decide +kernel
theorem d_law_202 : decode code 202 = .ok (.i2l, 1) := by decide +kernel
theorem d_law_203 : decode code 203 = .ok (.lcmp, 1) := by decide +kernel
theorem d_law_204 : decode code 204 = .ok (.ifCond .eq 5, 3) := by decide +kernel
theorem d_law_207 : decode code 207 = .ok (.iconst 0, 1) := by decide +kernel
theorem d_law_208 : decode code 208 = .ok (.ireturn, 1) := by decide +kernel
theorem d_law_209 : decode code 209 = .ok (.goto 1051, 3) := by decide +kernel
theorem d_law_212 : decode code 212 = .ok (.aload_n 1, 1) := by decide +kernel
theorem d_law_213 : decode code 213 = .ok (.aload_n 0, 1) := by decide +kernel
theorem d_law_214 : decode code 214 = .ok (.iload 4, 2) := by decide +kernel
theorem d_law_216 : decode code 216 = .ok (.iconst 1, 1) := by decide +kernel
theorem d_law_217 : decode code 217 = .ok (.iadd, 1) := by decide +kernel
theorem d_law_218 : decode code 218 = .ok (.iaload, 1) := by decide +kernel
theorem d_law_219 : decode code 219 = .ok (.aload_n 0, 1) := by decide +kernel
theorem d_law_220 : decode code 220 = .ok (.iload 4, 2) := by decide +kernel
theorem d_law_222 : decode code 222 = .ok (.iconst 2, 1) := by decide +kernel
theorem d_law_223 : decode code 223 = .ok (.iadd, 1) := by decide +kernel
theorem d_law_224 : decode code 224 = .ok (.iaload, 1) := by decide +kernel
theorem d_law_225 : decode code 225 = .ok (.ifCond .eq 7, 3) := by decide +kernel
theorem d_law_228 : decode code 228 = .ok (.iconst 1, 1) := by decide +kernel
theorem d_law_229 : decode code 229 = .ok (.goto 4, 3) := by decide +kernel
theorem d_law_232 : decode code 232 = .ok (.iconst 0, 1) := by decide +kernel
theorem d_law_233 : decode code 233 = .ok (.aload_n 3, 1) := by decide +kernel
theorem d_law_234 : decode code 234 = .ok (.invokestatic 72, 3) := by decide +kernel
theorem d_law_237 : decode code 237 = .ok (.istore 5, 2) := by decide +kernel
theorem d_law_239 : decode code 239 = .ok (.aload_n 2, 1) := by decide +kernel
theorem d_law_240 : decode code 240 = .ok (.aload_n 0, 1) := by decide +kernel
theorem d_law_241 : decode code 241 = .ok (.iload 4, 2) := by decide +kernel
theorem d_law_243 : decode code 243 = .ok (.iconst 1, 1) := by decide +kernel
theorem d_law_244 : decode code 244 = .ok (.iadd, 1) := by decide +kernel
theorem d_law_245 : decode code 245 = .ok (.iaload, 1) := by decide +kernel
theorem d_law_246 : decode code 246 = .ok (.aload_n 0, 1) := by decide +kernel
theorem d_law_247 : decode code 247 = .ok (.iload 4, 2) := by decide +kernel
theorem d_law_249 : decode code 249 = .ok (.iconst 2, 1) := by decide +kernel
theorem d_law_250 : decode code 250 = .ok (.iadd, 1) := by decide +kernel
theorem d_law_251 : decode code 251 = .ok (.iaload, 1) := by decide +kernel
theorem d_law_252 : decode code 252 = .ok (.ifCond .eq 7, 3) := by decide +kernel
theorem d_law_255 : decode code 255 = .ok (.iconst 1, 1) := by decide +kernel
theorem d_law_256 : decode code 256 = .ok (.goto 4, 3) := by decide +kernel
theorem d_law_259 : decode code 259 = .ok (.iconst 0, 1) := by decide +kernel
theorem d_law_260 : decode code 260 = .ok (.invokevirtual 75, 3) := by decide +kernel
theorem d_law_263 : decode code 263 = .ok (.istore 6, 2) := by decide +kernel
theorem d_law_265 : decode code 265 = .ok (.aload_n 2, 1) := by decide +kernel
theorem d_law_266 : decode code 266 = .ok (.invokevirtual 68, 3) := by decide +kernel
theorem d_law_269 : decode code 269 = .ok (.iload 5, 2) := by decide +kernel
theorem d_law_271 : decode code 271 = .ok (.if_icmp .eq 5, 3) := by decide +kernel
theorem d_law_274 : decode code 274 = .ok (.iconst 0, 1) := by decide +kernel
theorem d_law_275 : decode code 275 = .ok (.ireturn, 1) := by decide +kernel
theorem d_law_276 : decode code 276 = .ok (.iload 5, 2) := by decide +kernel
theorem d_law_278 : decode code 278 = .ok (.ifCond .ne 15, 3) := by decide +kernel
theorem d_law_281 : decode code 281 = .ok (.aload_n 3, 1) := by decide +kernel
theorem d_law_282 : decode code 282 = .ok (.iconst 0, 1) := by decide +kernel
theorem d_law_283 : decode code 283 = .ok (.laload, 1) := by decide +kernel
theorem d_law_284 : decode code 284 = .ok (.iload 6, 2) := by decide +kernel
theorem d_law_286 : decode code 286 = .ok (.i2l, 1) := by decide +kernel
theorem d_law_287 : decode code 287 = .ok (.lcmp, 1) := by decide +kernel
theorem d_law_288 : decode code 288 = .ok (.ifCond .eq 5, 3) := by decide +kernel
theorem d_law_291 : decode code 291 = .ok (.iconst 0, 1) := by decide +kernel
theorem d_law_292 : decode code 292 = .ok (.ireturn, 1) := by decide +kernel
theorem d_law_293 : decode code 293 = .ok (.goto 967, 3) := by decide +kernel
theorem d_law_296 : decode code 296 = .ok (.aload_n 1, 1) := by decide +kernel
theorem d_law_297 : decode code 297 = .ok (.aload_n 0, 1) := by decide +kernel
theorem d_law_298 : decode code 298 = .ok (.iload 4, 2) := by decide +kernel
theorem d_law_300 : decode code 300 = .ok (.iconst 1, 1) := by decide +kernel
theorem d_law_301 : decode code 301 = .ok (.iadd, 1) := by decide +kernel
theorem d_law_302 : decode code 302 = .ok (.iaload, 1) := by decide +kernel
theorem d_law_303 : decode code 303 = .ok (.aload_n 3, 1) := by decide +kernel
theorem d_law_304 : decode code 304 = .ok (.invokestatic 76, 3) := by decide +kernel
theorem d_law_307 : decode code 307 = .ok (.istore 5, 2) := by decide +kernel
theorem d_law_309 : decode code 309 = .ok (.aload_n 2, 1) := by decide +kernel
theorem d_law_310 : decode code 310 = .ok (.aload_n 0, 1) := by decide +kernel
theorem d_law_311 : decode code 311 = .ok (.iload 4, 2) := by decide +kernel
theorem d_law_313 : decode code 313 = .ok (.iconst 1, 1) := by decide +kernel
theorem d_law_314 : decode code 314 = .ok (.iadd, 1) := by decide +kernel
theorem d_law_315 : decode code 315 = .ok (.iaload, 1) := by decide +kernel
theorem d_law_316 : decode code 316 = .ok (.invokevirtual 79, 3) := by decide +kernel
theorem d_law_319 : decode code 319 = .ok (.istore 6, 2) := by decide +kernel
theorem d_law_321 : decode code 321 = .ok (.aload_n 2, 1) := by decide +kernel
theorem d_law_322 : decode code 322 = .ok (.invokevirtual 68, 3) := by decide +kernel
theorem d_law_325 : decode code 325 = .ok (.iload 5, 2) := by decide +kernel
theorem d_law_327 : decode code 327 = .ok (.if_icmp .eq 5, 3) := by decide +kernel
theorem d_law_330 : decode code 330 = .ok (.iconst 0, 1) := by decide +kernel
theorem d_law_331 : decode code 331 = .ok (.ireturn, 1) := by decide +kernel
theorem d_law_332 : decode code 332 = .ok (.iload 5, 2) := by decide +kernel
theorem d_law_334 : decode code 334 = .ok (.ifCond .ne 15, 3) := by decide +kernel
theorem d_law_337 : decode code 337 = .ok (.aload_n 3, 1) := by decide +kernel
theorem d_law_338 : decode code 338 = .ok (.iconst 0, 1) := by decide +kernel
theorem d_law_339 : decode code 339 = .ok (.laload, 1) := by decide +kernel
theorem d_law_340 : decode code 340 = .ok (.iload 6, 2) := by decide +kernel
theorem d_law_342 : decode code 342 = .ok (.i2l, 1) := by decide +kernel
theorem d_law_343 : decode code 343 = .ok (.lcmp, 1) := by decide +kernel
theorem d_law_344 : decode code 344 = .ok (.ifCond .eq 5, 3) := by decide +kernel
theorem d_law_347 : decode code 347 = .ok (.iconst 0, 1) := by decide +kernel
theorem d_law_348 : decode code 348 = .ok (.ireturn, 1) := by decide +kernel
theorem d_law_349 : decode code 349 = .ok (.goto 911, 3) := by decide +kernel
theorem d_law_352 : decode code 352 = .ok (.aload_n 1, 1) := by decide +kernel
theorem d_law_353 : decode code 353 = .ok (.invokevirtual 80, 3) := by decide +kernel
theorem d_law_356 : decode code 356 = .ok (.aload_n 2, 1) := by decide +kernel
theorem d_law_357 : decode code 357 = .ok (.invokevirtual 83, 3) := by decide +kernel
theorem d_law_360 : decode code 360 = .ok (.if_icmp .eq 900, 3) := by decide +kernel
theorem d_law_363 : decode code 363 = .ok (.iconst 0, 1) := by decide +kernel
theorem d_law_364 : decode code 364 = .ok (.ireturn, 1) := by decide +kernel
theorem d_law_365 : decode code 365 = .ok (.aload_n 1, 1) := by decide +kernel
theorem d_law_366 : decode code 366 = .ok (.aload_n 0, 1) := by decide +kernel
theorem d_law_367 : decode code 367 = .ok (.iload 4, 2) := by decide +kernel
theorem d_law_369 : decode code 369 = .ok (.iconst 1, 1) := by decide +kernel
theorem d_law_370 : decode code 370 = .ok (.iadd, 1) := by decide +kernel
theorem d_law_371 : decode code 371 = .ok (.iaload, 1) := by decide +kernel
theorem d_law_372 : decode code 372 = .ok (.aload_n 0, 1) := by decide +kernel
theorem d_law_373 : decode code 373 = .ok (.iload 4, 2) := by decide +kernel
theorem d_law_375 : decode code 375 = .ok (.iconst 2, 1) := by decide +kernel
theorem d_law_376 : decode code 376 = .ok (.iadd, 1) := by decide +kernel
theorem d_law_377 : decode code 377 = .ok (.iaload, 1) := by decide +kernel
theorem d_law_378 : decode code 378 = .ok (.ifCond .eq 7, 3) := by decide +kernel
theorem d_law_381 : decode code 381 = .ok (.iconst 1, 1) := by decide +kernel
theorem d_law_382 : decode code 382 = .ok (.goto 4, 3) := by decide +kernel
theorem d_law_385 : decode code 385 = .ok (.iconst 0, 1) := by decide +kernel
theorem d_law_386 : decode code 386 = .ok (.aload_n 3, 1) := by decide +kernel
theorem d_law_387 : decode code 387 = .ok (.invokestatic 84, 3) := by decide +kernel
theorem d_law_390 : decode code 390 = .ok (.istore 5, 2) := by decide +kernel
theorem d_law_392 : decode code 392 = .ok (.aload_n 2, 1) := by decide +kernel
theorem d_law_393 : decode code 393 = .ok (.aload_n 0, 1) := by decide +kernel
theorem d_law_394 : decode code 394 = .ok (.iload 4, 2) := by decide +kernel
theorem d_law_396 : decode code 396 = .ok (.iconst 1, 1) := by decide +kernel
theorem d_law_397 : decode code 397 = .ok (.iadd, 1) := by decide +kernel
theorem d_law_398 : decode code 398 = .ok (.iaload, 1) := by decide +kernel
theorem d_law_399 : decode code 399 = .ok (.aload_n 0, 1) := by decide +kernel
theorem d_law_400 : decode code 400 = .ok (.iload 4, 2) := by decide +kernel
theorem d_law_402 : decode code 402 = .ok (.iconst 2, 1) := by decide +kernel
theorem d_law_403 : decode code 403 = .ok (.iadd, 1) := by decide +kernel
theorem d_law_404 : decode code 404 = .ok (.iaload, 1) := by decide +kernel
theorem d_law_405 : decode code 405 = .ok (.ifCond .eq 7, 3) := by decide +kernel
theorem d_law_408 : decode code 408 = .ok (.iconst 1, 1) := by decide +kernel
theorem d_law_409 : decode code 409 = .ok (.goto 4, 3) := by decide +kernel
theorem d_law_412 : decode code 412 = .ok (.iconst 0, 1) := by decide +kernel
theorem d_law_413 : decode code 413 = .ok (.invokevirtual 86, 3) := by decide +kernel
theorem d_law_416 : decode code 416 = .ok (.istore 6, 2) := by decide +kernel
theorem d_law_418 : decode code 418 = .ok (.aload_n 2, 1) := by decide +kernel
theorem d_law_419 : decode code 419 = .ok (.invokevirtual 68, 3) := by decide +kernel
theorem d_law_422 : decode code 422 = .ok (.iload 5, 2) := by decide +kernel
theorem d_law_424 : decode code 424 = .ok (.if_icmp .eq 5, 3) := by decide +kernel
theorem d_law_427 : decode code 427 = .ok (.iconst 0, 1) := by decide +kernel
theorem d_law_428 : decode code 428 = .ok (.ireturn, 1) := by decide +kernel
theorem d_law_429 : decode code 429 = .ok (.iload 5, 2) := by decide +kernel
theorem d_law_431 : decode code 431 = .ok (.ifCond .ne 22, 3) := by decide +kernel
theorem d_law_434 : decode code 434 = .ok (.aload_n 3, 1) := by decide +kernel
theorem d_law_435 : decode code 435 = .ok (.iconst 0, 1) := by decide +kernel
theorem d_law_436 : decode code 436 = .ok (.laload, 1) := by decide +kernel
theorem d_law_437 : decode code 437 = .ok (.iload 6, 2) := by decide +kernel
theorem d_law_439 : decode code 439 = .ok (.ifCond .eq 7, 3) := by decide +kernel
theorem d_law_442 : decode code 442 = .ok (.lconst 1, 1) := by decide +kernel
theorem d_law_443 : decode code 443 = .ok (.goto 4, 3) := by decide +kernel
theorem d_law_446 : decode code 446 = .ok (.lconst 0, 1) := by decide +kernel
theorem d_law_447 : decode code 447 = .ok (.lcmp, 1) := by decide +kernel
theorem d_law_448 : decode code 448 = .ok (.ifCond .eq 5, 3) := by decide +kernel
theorem d_law_451 : decode code 451 = .ok (.iconst 0, 1) := by decide +kernel
theorem d_law_452 : decode code 452 = .ok (.ireturn, 1) := by decide +kernel
theorem d_law_453 : decode code 453 = .ok (.goto 807, 3) := by decide +kernel
theorem d_law_456 : decode code 456 = .ok (.aload_n 1, 1) := by decide +kernel
theorem d_law_457 : decode code 457 = .ok (.aload_n 0, 1) := by decide +kernel
theorem d_law_458 : decode code 458 = .ok (.iload 4, 2) := by decide +kernel
theorem d_law_460 : decode code 460 = .ok (.iconst 1, 1) := by decide +kernel
theorem d_law_461 : decode code 461 = .ok (.iadd, 1) := by decide +kernel
theorem d_law_462 : decode code 462 = .ok (.iaload, 1) := by decide +kernel
theorem d_law_463 : decode code 463 = .ok (.aload_n 0, 1) := by decide +kernel
theorem d_law_464 : decode code 464 = .ok (.iload 4, 2) := by decide +kernel
theorem d_law_466 : decode code 466 = .ok (.iconst 2, 1) := by decide +kernel
theorem d_law_467 : decode code 467 = .ok (.iadd, 1) := by decide +kernel
theorem d_law_468 : decode code 468 = .ok (.iaload, 1) := by decide +kernel
theorem d_law_469 : decode code 469 = .ok (.aload_n 3, 1) := by decide +kernel
theorem d_law_470 : decode code 470 = .ok (.invokestatic 87, 3) := by decide +kernel
theorem d_law_473 : decode code 473 = .ok (.istore 5, 2) := by decide +kernel
theorem d_law_475 : decode code 475 = .ok (.aload_n 2, 1) := by decide +kernel
theorem d_law_476 : decode code 476 = .ok (.aload_n 0, 1) := by decide +kernel
theorem d_law_477 : decode code 477 = .ok (.iload 4, 2) := by decide +kernel
theorem d_law_479 : decode code 479 = .ok (.iconst 1, 1) := by decide +kernel
theorem d_law_480 : decode code 480 = .ok (.iadd, 1) := by decide +kernel
theorem d_law_481 : decode code 481 = .ok (.iaload, 1) := by decide +kernel
theorem d_law_482 : decode code 482 = .ok (.aload_n 0, 1) := by decide +kernel
theorem d_law_483 : decode code 483 = .ok (.iload 4, 2) := by decide +kernel
theorem d_law_485 : decode code 485 = .ok (.iconst 2, 1) := by decide +kernel
theorem d_law_486 : decode code 486 = .ok (.iadd, 1) := by decide +kernel
theorem d_law_487 : decode code 487 = .ok (.iaload, 1) := by decide +kernel
theorem d_law_488 : decode code 488 = .ok (.invokevirtual 90, 3) := by decide +kernel
theorem d_law_491 : decode code 491 = .ok (.lstore 6, 2) := by decide +kernel
theorem d_law_493 : decode code 493 = .ok (.aload_n 2, 1) := by decide +kernel
theorem d_law_494 : decode code 494 = .ok (.invokevirtual 68, 3) := by decide +kernel
theorem d_law_497 : decode code 497 = .ok (.iload 5, 2) := by decide +kernel
theorem d_law_499 : decode code 499 = .ok (.if_icmp .eq 5, 3) := by decide +kernel
theorem d_law_502 : decode code 502 = .ok (.iconst 0, 1) := by decide +kernel
theorem d_law_503 : decode code 503 = .ok (.ireturn, 1) := by decide +kernel
theorem d_law_504 : decode code 504 = .ok (.iload 5, 2) := by decide +kernel
theorem d_law_506 : decode code 506 = .ok (.ifCond .ne 14, 3) := by decide +kernel
theorem d_law_509 : decode code 509 = .ok (.aload_n 3, 1) := by decide +kernel
theorem d_law_510 : decode code 510 = .ok (.iconst 0, 1) := by decide +kernel
theorem d_law_511 : decode code 511 = .ok (.laload, 1) := by decide +kernel
theorem d_law_512 : decode code 512 = .ok (.lload 6, 2) := by decide +kernel
theorem d_law_514 : decode code 514 = .ok (.lcmp, 1) := by decide +kernel
theorem d_law_515 : decode code 515 = .ok (.ifCond .eq 5, 3) := by decide +kernel
theorem d_law_518 : decode code 518 = .ok (.iconst 0, 1) := by decide +kernel
theorem d_law_519 : decode code 519 = .ok (.ireturn, 1) := by decide +kernel
theorem d_law_520 : decode code 520 = .ok (.goto 740, 3) := by decide +kernel
theorem d_law_523 : decode code 523 = .ok (.aload_n 1, 1) := by decide +kernel
theorem d_law_524 : decode code 524 = .ok (.aload_n 0, 1) := by decide +kernel
theorem d_law_525 : decode code 525 = .ok (.iload 4, 2) := by decide +kernel
theorem d_law_527 : decode code 527 = .ok (.iconst 1, 1) := by decide +kernel
theorem d_law_528 : decode code 528 = .ok (.iadd, 1) := by decide +kernel
theorem d_law_529 : decode code 529 = .ok (.iaload, 1) := by decide +kernel
theorem d_law_530 : decode code 530 = .ok (.aload_n 0, 1) := by decide +kernel
theorem d_law_531 : decode code 531 = .ok (.iload 4, 2) := by decide +kernel
theorem d_law_533 : decode code 533 = .ok (.iconst 2, 1) := by decide +kernel
theorem d_law_534 : decode code 534 = .ok (.iadd, 1) := by decide +kernel
theorem d_law_535 : decode code 535 = .ok (.iaload, 1) := by decide +kernel
theorem d_law_536 : decode code 536 = .ok (.aload_n 3, 1) := by decide +kernel
theorem d_law_537 : decode code 537 = .ok (.invokestatic 91, 3) := by decide +kernel
theorem d_law_540 : decode code 540 = .ok (.istore 5, 2) := by decide +kernel
theorem d_law_542 : decode code 542 = .ok (.aload_n 2, 1) := by decide +kernel
theorem d_law_543 : decode code 543 = .ok (.aload_n 0, 1) := by decide +kernel
theorem d_law_544 : decode code 544 = .ok (.iload 4, 2) := by decide +kernel
theorem d_law_546 : decode code 546 = .ok (.iconst 1, 1) := by decide +kernel
theorem d_law_547 : decode code 547 = .ok (.iadd, 1) := by decide +kernel
theorem d_law_548 : decode code 548 = .ok (.iaload, 1) := by decide +kernel
theorem d_law_549 : decode code 549 = .ok (.aload_n 0, 1) := by decide +kernel
theorem d_law_550 : decode code 550 = .ok (.iload 4, 2) := by decide +kernel
theorem d_law_552 : decode code 552 = .ok (.iconst 2, 1) := by decide +kernel
theorem d_law_553 : decode code 553 = .ok (.iadd, 1) := by decide +kernel
theorem d_law_554 : decode code 554 = .ok (.iaload, 1) := by decide +kernel
theorem d_law_555 : decode code 555 = .ok (.invokevirtual 93, 3) := by decide +kernel
theorem d_law_558 : decode code 558 = .ok (.lstore 6, 2) := by decide +kernel
theorem d_law_560 : decode code 560 = .ok (.aload_n 2, 1) := by decide +kernel
theorem d_law_561 : decode code 561 = .ok (.invokevirtual 68, 3) := by decide +kernel
theorem d_law_564 : decode code 564 = .ok (.iload 5, 2) := by decide +kernel
theorem d_law_566 : decode code 566 = .ok (.if_icmp .eq 5, 3) := by decide +kernel
theorem d_law_569 : decode code 569 = .ok (.iconst 0, 1) := by decide +kernel
theorem d_law_570 : decode code 570 = .ok (.ireturn, 1) := by decide +kernel
theorem d_law_571 : decode code 571 = .ok (.iload 5, 2) := by decide +kernel
theorem d_law_573 : decode code 573 = .ok (.ifCond .ne 14, 3) := by decide +kernel
theorem d_law_576 : decode code 576 = .ok (.aload_n 3, 1) := by decide +kernel
theorem d_law_577 : decode code 577 = .ok (.iconst 0, 1) := by decide +kernel
theorem d_law_578 : decode code 578 = .ok (.laload, 1) := by decide +kernel
theorem d_law_579 : decode code 579 = .ok (.lload 6, 2) := by decide +kernel
theorem d_law_581 : decode code 581 = .ok (.lcmp, 1) := by decide +kernel
theorem d_law_582 : decode code 582 = .ok (.ifCond .eq 5, 3) := by decide +kernel
theorem d_law_585 : decode code 585 = .ok (.iconst 0, 1) := by decide +kernel
theorem d_law_586 : decode code 586 = .ok (.ireturn, 1) := by decide +kernel
theorem d_law_587 : decode code 587 = .ok (.goto 673, 3) := by decide +kernel
theorem d_law_590 : decode code 590 = .ok (.aload_n 1, 1) := by decide +kernel
theorem d_law_591 : decode code 591 = .ok (.aload_n 0, 1) := by decide +kernel
theorem d_law_592 : decode code 592 = .ok (.iload 4, 2) := by decide +kernel
theorem d_law_594 : decode code 594 = .ok (.iconst 1, 1) := by decide +kernel
theorem d_law_595 : decode code 595 = .ok (.iadd, 1) := by decide +kernel
theorem d_law_596 : decode code 596 = .ok (.iaload, 1) := by decide +kernel
theorem d_law_597 : decode code 597 = .ok (.ifCond .eq 7, 3) := by decide +kernel
theorem d_law_600 : decode code 600 = .ok (.iconst 1, 1) := by decide +kernel
theorem d_law_601 : decode code 601 = .ok (.goto 4, 3) := by decide +kernel
theorem d_law_604 : decode code 604 = .ok (.iconst 0, 1) := by decide +kernel
theorem d_law_605 : decode code 605 = .ok (.aload_n 0, 1) := by decide +kernel
theorem d_law_606 : decode code 606 = .ok (.iload 4, 2) := by decide +kernel
theorem d_law_608 : decode code 608 = .ok (.iconst 2, 1) := by decide +kernel
theorem d_law_609 : decode code 609 = .ok (.iadd, 1) := by decide +kernel
theorem d_law_610 : decode code 610 = .ok (.iaload, 1) := by decide +kernel
theorem d_law_611 : decode code 611 = .ok (.aload_n 0, 1) := by decide +kernel
theorem d_law_612 : decode code 612 = .ok (.iload 4, 2) := by decide +kernel
theorem d_law_614 : decode code 614 = .ok (.iconst 3, 1) := by decide +kernel
theorem d_law_615 : decode code 615 = .ok (.iadd, 1) := by decide +kernel
theorem d_law_616 : decode code 616 = .ok (.iaload, 1) := by decide +kernel
theorem d_law_617 : decode code 617 = .ok (.aload_n 3, 1) := by decide +kernel
theorem d_law_618 : decode code 618 = .ok (.invokestatic 94, 3) := by decide +kernel
theorem d_law_621 : decode code 621 = .ok (.istore 5, 2) := by decide +kernel
theorem d_law_623 : decode code 623 = .ok (.aload_n 2, 1) := by decide +kernel
theorem d_law_624 : decode code 624 = .ok (.aload_n 0, 1) := by decide +kernel
theorem d_law_625 : decode code 625 = .ok (.iload 4, 2) := by decide +kernel
theorem d_law_627 : decode code 627 = .ok (.iconst 1, 1) := by decide +kernel
theorem d_law_628 : decode code 628 = .ok (.iadd, 1) := by decide +kernel
theorem d_law_629 : decode code 629 = .ok (.iaload, 1) := by decide +kernel
theorem d_law_630 : decode code 630 = .ok (.ifCond .eq 7, 3) := by decide +kernel
theorem d_law_633 : decode code 633 = .ok (.iconst 1, 1) := by decide +kernel
theorem d_law_634 : decode code 634 = .ok (.goto 4, 3) := by decide +kernel
theorem d_law_637 : decode code 637 = .ok (.iconst 0, 1) := by decide +kernel
theorem d_law_638 : decode code 638 = .ok (.aload_n 0, 1) := by decide +kernel
theorem d_law_639 : decode code 639 = .ok (.iload 4, 2) := by decide +kernel
theorem d_law_641 : decode code 641 = .ok (.iconst 2, 1) := by decide +kernel
theorem d_law_642 : decode code 642 = .ok (.iadd, 1) := by decide +kernel
theorem d_law_643 : decode code 643 = .ok (.iaload, 1) := by decide +kernel
theorem d_law_644 : decode code 644 = .ok (.aload_n 0, 1) := by decide +kernel
theorem d_law_645 : decode code 645 = .ok (.iload 4, 2) := by decide +kernel
theorem d_law_647 : decode code 647 = .ok (.iconst 3, 1) := by decide +kernel
theorem d_law_648 : decode code 648 = .ok (.iadd, 1) := by decide +kernel
theorem d_law_649 : decode code 649 = .ok (.iaload, 1) := by decide +kernel
theorem d_law_650 : decode code 650 = .ok (.invokevirtual 97, 3) := by decide +kernel
theorem d_law_653 : decode code 653 = .ok (.istore 6, 2) := by decide +kernel
theorem d_law_655 : decode code 655 = .ok (.aload_n 2, 1) := by decide +kernel
theorem d_law_656 : decode code 656 = .ok (.invokevirtual 68, 3) := by decide +kernel
theorem d_law_659 : decode code 659 = .ok (.iload 5, 2) := by decide +kernel
theorem d_law_661 : decode code 661 = .ok (.if_icmp .eq 5, 3) := by decide +kernel
theorem d_law_664 : decode code 664 = .ok (.iconst 0, 1) := by decide +kernel
theorem d_law_665 : decode code 665 = .ok (.ireturn, 1) := by decide +kernel
theorem d_law_666 : decode code 666 = .ok (.iload 5, 2) := by decide +kernel
theorem d_law_668 : decode code 668 = .ok (.ifCond .ne 22, 3) := by decide +kernel
theorem d_law_671 : decode code 671 = .ok (.aload_n 3, 1) := by decide +kernel
theorem d_law_672 : decode code 672 = .ok (.iconst 0, 1) := by decide +kernel
theorem d_law_673 : decode code 673 = .ok (.laload, 1) := by decide +kernel
theorem d_law_674 : decode code 674 = .ok (.iload 6, 2) := by decide +kernel
theorem d_law_676 : decode code 676 = .ok (.ifCond .eq 7, 3) := by decide +kernel
theorem d_law_679 : decode code 679 = .ok (.lconst 1, 1) := by decide +kernel
theorem d_law_680 : decode code 680 = .ok (.goto 4, 3) := by decide +kernel
theorem d_law_683 : decode code 683 = .ok (.lconst 0, 1) := by decide +kernel
theorem d_law_684 : decode code 684 = .ok (.lcmp, 1) := by decide +kernel
theorem d_law_685 : decode code 685 = .ok (.ifCond .eq 5, 3) := by decide +kernel
theorem d_law_688 : decode code 688 = .ok (.iconst 0, 1) := by decide +kernel
theorem d_law_689 : decode code 689 = .ok (.ireturn, 1) := by decide +kernel
theorem d_law_690 : decode code 690 = .ok (.goto 570, 3) := by decide +kernel
theorem d_law_693 : decode code 693 = .ok (.aload_n 1, 1) := by decide +kernel
theorem d_law_694 : decode code 694 = .ok (.aload_n 0, 1) := by decide +kernel
theorem d_law_695 : decode code 695 = .ok (.iload 4, 2) := by decide +kernel
theorem d_law_697 : decode code 697 = .ok (.iconst 1, 1) := by decide +kernel
theorem d_law_698 : decode code 698 = .ok (.iadd, 1) := by decide +kernel
theorem d_law_699 : decode code 699 = .ok (.iaload, 1) := by decide +kernel
theorem d_law_700 : decode code 700 = .ok (.aload_n 0, 1) := by decide +kernel
theorem d_law_701 : decode code 701 = .ok (.iload 4, 2) := by decide +kernel
theorem d_law_703 : decode code 703 = .ok (.iconst 2, 1) := by decide +kernel
theorem d_law_704 : decode code 704 = .ok (.iadd, 1) := by decide +kernel
theorem d_law_705 : decode code 705 = .ok (.iaload, 1) := by decide +kernel
theorem d_law_706 : decode code 706 = .ok (.aload_n 3, 1) := by decide +kernel
theorem d_law_707 : decode code 707 = .ok (.invokestatic 98, 3) := by decide +kernel
theorem d_law_710 : decode code 710 = .ok (.istore 5, 2) := by decide +kernel
theorem d_law_712 : decode code 712 = .ok (.aload_n 2, 1) := by decide +kernel
theorem d_law_713 : decode code 713 = .ok (.aload_n 0, 1) := by decide +kernel
theorem d_law_714 : decode code 714 = .ok (.iload 4, 2) := by decide +kernel
theorem d_law_716 : decode code 716 = .ok (.iconst 1, 1) := by decide +kernel
theorem d_law_717 : decode code 717 = .ok (.iadd, 1) := by decide +kernel
theorem d_law_718 : decode code 718 = .ok (.iaload, 1) := by decide +kernel
theorem d_law_719 : decode code 719 = .ok (.aload_n 0, 1) := by decide +kernel
theorem d_law_720 : decode code 720 = .ok (.iload 4, 2) := by decide +kernel
theorem d_law_722 : decode code 722 = .ok (.iconst 2, 1) := by decide +kernel
theorem d_law_723 : decode code 723 = .ok (.iadd, 1) := by decide +kernel
theorem d_law_724 : decode code 724 = .ok (.iaload, 1) := by decide +kernel
theorem d_law_725 : decode code 725 = .ok (.invokevirtual 100, 3) := by decide +kernel
theorem d_law_728 : decode code 728 = .ok (.istore 6, 2) := by decide +kernel
theorem d_law_730 : decode code 730 = .ok (.aload_n 2, 1) := by decide +kernel
theorem d_law_731 : decode code 731 = .ok (.invokevirtual 68, 3) := by decide +kernel
theorem d_law_734 : decode code 734 = .ok (.iload 5, 2) := by decide +kernel
theorem d_law_736 : decode code 736 = .ok (.if_icmp .eq 5, 3) := by decide +kernel
theorem d_law_739 : decode code 739 = .ok (.iconst 0, 1) := by decide +kernel
theorem d_law_740 : decode code 740 = .ok (.ireturn, 1) := by decide +kernel
theorem d_law_741 : decode code 741 = .ok (.iload 5, 2) := by decide +kernel
theorem d_law_743 : decode code 743 = .ok (.ifCond .ne 15, 3) := by decide +kernel
theorem d_law_746 : decode code 746 = .ok (.aload_n 3, 1) := by decide +kernel
theorem d_law_747 : decode code 747 = .ok (.iconst 0, 1) := by decide +kernel
theorem d_law_748 : decode code 748 = .ok (.laload, 1) := by decide +kernel
theorem d_law_749 : decode code 749 = .ok (.iload 6, 2) := by decide +kernel
theorem d_law_751 : decode code 751 = .ok (.i2l, 1) := by decide +kernel
theorem d_law_752 : decode code 752 = .ok (.lcmp, 1) := by decide +kernel
theorem d_law_753 : decode code 753 = .ok (.ifCond .eq 5, 3) := by decide +kernel
theorem d_law_756 : decode code 756 = .ok (.iconst 0, 1) := by decide +kernel
theorem d_law_757 : decode code 757 = .ok (.ireturn, 1) := by decide +kernel
theorem d_law_758 : decode code 758 = .ok (.goto 502, 3) := by decide +kernel
theorem d_law_761 : decode code 761 = .ok (.aload_n 1, 1) := by decide +kernel
theorem d_law_762 : decode code 762 = .ok (.aload_n 0, 1) := by decide +kernel
theorem d_law_763 : decode code 763 = .ok (.iload 4, 2) := by decide +kernel
theorem d_law_765 : decode code 765 = .ok (.iconst 1, 1) := by decide +kernel
theorem d_law_766 : decode code 766 = .ok (.iadd, 1) := by decide +kernel
theorem d_law_767 : decode code 767 = .ok (.iaload, 1) := by decide +kernel
theorem d_law_768 : decode code 768 = .ok (.aload_n 0, 1) := by decide +kernel
theorem d_law_769 : decode code 769 = .ok (.iload 4, 2) := by decide +kernel
theorem d_law_771 : decode code 771 = .ok (.iconst 2, 1) := by decide +kernel
theorem d_law_772 : decode code 772 = .ok (.iadd, 1) := by decide +kernel
theorem d_law_773 : decode code 773 = .ok (.iaload, 1) := by decide +kernel
theorem d_law_774 : decode code 774 = .ok (.i2l, 1) := by decide +kernel
theorem d_law_775 : decode code 775 = .ok (.bipush 32, 2) := by decide +kernel
theorem d_law_777 : decode code 777 = .ok (.lshl, 1) := by decide +kernel
theorem d_law_778 : decode code 778 = .ok (.aload_n 0, 1) := by decide +kernel
theorem d_law_779 : decode code 779 = .ok (.iload 4, 2) := by decide +kernel
theorem d_law_781 : decode code 781 = .ok (.iconst 3, 1) := by decide +kernel
theorem d_law_782 : decode code 782 = .ok (.iadd, 1) := by decide +kernel
theorem d_law_783 : decode code 783 = .ok (.iaload, 1) := by decide +kernel
theorem d_law_784 : decode code 784 = .ok (.i2l, 1) := by decide +kernel
theorem d_law_785 : decode code 785 = .ok (.ldc2_w 101, 3) := by decide +kernel
theorem d_law_788 : decode code 788 = .ok (.land, 1) := by decide +kernel
theorem d_law_789 : decode code 789 = .ok (.lor, 1) := by decide +kernel
theorem d_law_790 : decode code 790 = .ok (.aload_n 0, 1) := by decide +kernel
theorem d_law_791 : decode code 791 = .ok (.iload 4, 2) := by decide +kernel
theorem d_law_793 : decode code 793 = .ok (.iconst 4, 1) := by decide +kernel
theorem d_law_794 : decode code 794 = .ok (.iadd, 1) := by decide +kernel
theorem d_law_795 : decode code 795 = .ok (.iaload, 1) := by decide +kernel
theorem d_law_796 : decode code 796 = .ok (.aload_n 0, 1) := by decide +kernel
theorem d_law_797 : decode code 797 = .ok (.iload 4, 2) := by decide +kernel
theorem d_law_799 : decode code 799 = .ok (.iconst 5, 1) := by decide +kernel
theorem d_law_800 : decode code 800 = .ok (.iadd, 1) := by decide +kernel
theorem d_law_801 : decode code 801 = .ok (.iaload, 1) := by decide +kernel
theorem d_law_802 : decode code 802 = .ok (.ifCond .eq 7, 3) := by decide +kernel
theorem d_law_805 : decode code 805 = .ok (.iconst 1, 1) := by decide +kernel
theorem d_law_806 : decode code 806 = .ok (.goto 4, 3) := by decide +kernel
theorem d_law_809 : decode code 809 = .ok (.iconst 0, 1) := by decide +kernel
theorem d_law_810 : decode code 810 = .ok (.aload_n 3, 1) := by decide +kernel
theorem d_law_811 : decode code 811 = .ok (.invokestatic 103, 3) := by decide +kernel
theorem d_law_814 : decode code 814 = .ok (.istore 5, 2) := by decide +kernel
theorem d_law_816 : decode code 816 = .ok (.aload_n 2, 1) := by decide +kernel
theorem d_law_817 : decode code 817 = .ok (.aload_n 0, 1) := by decide +kernel
theorem d_law_818 : decode code 818 = .ok (.iload 4, 2) := by decide +kernel
theorem d_law_820 : decode code 820 = .ok (.iconst 1, 1) := by decide +kernel
theorem d_law_821 : decode code 821 = .ok (.iadd, 1) := by decide +kernel
theorem d_law_822 : decode code 822 = .ok (.iaload, 1) := by decide +kernel
theorem d_law_823 : decode code 823 = .ok (.aload_n 0, 1) := by decide +kernel
theorem d_law_824 : decode code 824 = .ok (.iload 4, 2) := by decide +kernel
theorem d_law_826 : decode code 826 = .ok (.iconst 2, 1) := by decide +kernel
theorem d_law_827 : decode code 827 = .ok (.iadd, 1) := by decide +kernel
theorem d_law_828 : decode code 828 = .ok (.iaload, 1) := by decide +kernel
theorem d_law_829 : decode code 829 = .ok (.i2l, 1) := by decide +kernel
theorem d_law_830 : decode code 830 = .ok (.bipush 32, 2) := by decide +kernel
theorem d_law_832 : decode code 832 = .ok (.lshl, 1) := by decide +kernel
theorem d_law_833 : decode code 833 = .ok (.aload_n 0, 1) := by decide +kernel
theorem d_law_834 : decode code 834 = .ok (.iload 4, 2) := by decide +kernel
theorem d_law_836 : decode code 836 = .ok (.iconst 3, 1) := by decide +kernel
theorem d_law_837 : decode code 837 = .ok (.iadd, 1) := by decide +kernel
theorem d_law_838 : decode code 838 = .ok (.iaload, 1) := by decide +kernel
theorem d_law_839 : decode code 839 = .ok (.i2l, 1) := by decide +kernel
theorem d_law_840 : decode code 840 = .ok (.ldc2_w 101, 3) := by decide +kernel
theorem d_law_843 : decode code 843 = .ok (.land, 1) := by decide +kernel
theorem d_law_844 : decode code 844 = .ok (.lor, 1) := by decide +kernel
theorem d_law_845 : decode code 845 = .ok (.aload_n 0, 1) := by decide +kernel
theorem d_law_846 : decode code 846 = .ok (.iload 4, 2) := by decide +kernel
theorem d_law_848 : decode code 848 = .ok (.iconst 4, 1) := by decide +kernel
theorem d_law_849 : decode code 849 = .ok (.iadd, 1) := by decide +kernel
theorem d_law_850 : decode code 850 = .ok (.iaload, 1) := by decide +kernel
theorem d_law_851 : decode code 851 = .ok (.aload_n 0, 1) := by decide +kernel
theorem d_law_852 : decode code 852 = .ok (.iload 4, 2) := by decide +kernel
theorem d_law_854 : decode code 854 = .ok (.iconst 5, 1) := by decide +kernel
theorem d_law_855 : decode code 855 = .ok (.iadd, 1) := by decide +kernel
theorem d_law_856 : decode code 856 = .ok (.iaload, 1) := by decide +kernel
theorem d_law_857 : decode code 857 = .ok (.ifCond .eq 7, 3) := by decide +kernel
theorem d_law_860 : decode code 860 = .ok (.iconst 1, 1) := by decide +kernel
theorem d_law_861 : decode code 861 = .ok (.goto 4, 3) := by decide +kernel
theorem d_law_864 : decode code 864 = .ok (.iconst 0, 1) := by decide +kernel
theorem d_law_865 : decode code 865 = .ok (.invokevirtual 106, 3) := by decide +kernel
theorem d_law_868 : decode code 868 = .ok (.istore 6, 2) := by decide +kernel
theorem d_law_870 : decode code 870 = .ok (.aload_n 2, 1) := by decide +kernel
theorem d_law_871 : decode code 871 = .ok (.invokevirtual 68, 3) := by decide +kernel
theorem d_law_874 : decode code 874 = .ok (.iload 5, 2) := by decide +kernel
theorem d_law_876 : decode code 876 = .ok (.if_icmp .eq 5, 3) := by decide +kernel
theorem d_law_879 : decode code 879 = .ok (.iconst 0, 1) := by decide +kernel
theorem d_law_880 : decode code 880 = .ok (.ireturn, 1) := by decide +kernel
theorem d_law_881 : decode code 881 = .ok (.iload 5, 2) := by decide +kernel
theorem d_law_883 : decode code 883 = .ok (.ifCond .ne 15, 3) := by decide +kernel
theorem d_law_886 : decode code 886 = .ok (.aload_n 3, 1) := by decide +kernel
theorem d_law_887 : decode code 887 = .ok (.iconst 0, 1) := by decide +kernel
theorem d_law_888 : decode code 888 = .ok (.laload, 1) := by decide +kernel
theorem d_law_889 : decode code 889 = .ok (.iload 6, 2) := by decide +kernel
theorem d_law_891 : decode code 891 = .ok (.i2l, 1) := by decide +kernel
theorem d_law_892 : decode code 892 = .ok (.lcmp, 1) := by decide +kernel
theorem d_law_893 : decode code 893 = .ok (.ifCond .eq 5, 3) := by decide +kernel
theorem d_law_896 : decode code 896 = .ok (.iconst 0, 1) := by decide +kernel
theorem d_law_897 : decode code 897 = .ok (.ireturn, 1) := by decide +kernel
theorem d_law_898 : decode code 898 = .ok (.goto 362, 3) := by decide +kernel
theorem d_law_901 : decode code 901 = .ok (.aload_n 1, 1) := by decide +kernel
theorem d_law_902 : decode code 902 = .ok (.aload_n 0, 1) := by decide +kernel
theorem d_law_903 : decode code 903 = .ok (.iload 4, 2) := by decide +kernel
theorem d_law_905 : decode code 905 = .ok (.iconst 1, 1) := by decide +kernel
theorem d_law_906 : decode code 906 = .ok (.iadd, 1) := by decide +kernel
theorem d_law_907 : decode code 907 = .ok (.iaload, 1) := by decide +kernel
theorem d_law_908 : decode code 908 = .ok (.aload_n 3, 1) := by decide +kernel
theorem d_law_909 : decode code 909 = .ok (.invokestatic 107, 3) := by decide +kernel
theorem d_law_912 : decode code 912 = .ok (.istore 5, 2) := by decide +kernel
theorem d_law_914 : decode code 914 = .ok (.aload_n 2, 1) := by decide +kernel
theorem d_law_915 : decode code 915 = .ok (.aload_n 0, 1) := by decide +kernel
theorem d_law_916 : decode code 916 = .ok (.iload 4, 2) := by decide +kernel
theorem d_law_918 : decode code 918 = .ok (.iconst 1, 1) := by decide +kernel
theorem d_law_919 : decode code 919 = .ok (.iadd, 1) := by decide +kernel
theorem d_law_920 : decode code 920 = .ok (.iaload, 1) := by decide +kernel
theorem d_law_921 : decode code 921 = .ok (.invokevirtual 109, 3) := by decide +kernel
theorem d_law_924 : decode code 924 = .ok (.istore 6, 2) := by decide +kernel
theorem d_law_926 : decode code 926 = .ok (.aload_n 2, 1) := by decide +kernel
theorem d_law_927 : decode code 927 = .ok (.invokevirtual 68, 3) := by decide +kernel
theorem d_law_930 : decode code 930 = .ok (.iload 5, 2) := by decide +kernel
theorem d_law_932 : decode code 932 = .ok (.if_icmp .eq 5, 3) := by decide +kernel
theorem d_law_935 : decode code 935 = .ok (.iconst 0, 1) := by decide +kernel
theorem d_law_936 : decode code 936 = .ok (.ireturn, 1) := by decide +kernel
theorem d_law_937 : decode code 937 = .ok (.iload 5, 2) := by decide +kernel
theorem d_law_939 : decode code 939 = .ok (.ifCond .ne 15, 3) := by decide +kernel
theorem d_law_942 : decode code 942 = .ok (.aload_n 3, 1) := by decide +kernel
theorem d_law_943 : decode code 943 = .ok (.iconst 0, 1) := by decide +kernel
theorem d_law_944 : decode code 944 = .ok (.laload, 1) := by decide +kernel
theorem d_law_945 : decode code 945 = .ok (.iload 6, 2) := by decide +kernel
theorem d_law_947 : decode code 947 = .ok (.i2l, 1) := by decide +kernel
theorem d_law_948 : decode code 948 = .ok (.lcmp, 1) := by decide +kernel
theorem d_law_949 : decode code 949 = .ok (.ifCond .eq 5, 3) := by decide +kernel
theorem d_law_952 : decode code 952 = .ok (.iconst 0, 1) := by decide +kernel
theorem d_law_953 : decode code 953 = .ok (.ireturn, 1) := by decide +kernel
theorem d_law_954 : decode code 954 = .ok (.goto 306, 3) := by decide +kernel
theorem d_law_957 : decode code 957 = .ok (.aload_n 1, 1) := by decide +kernel
theorem d_law_958 : decode code 958 = .ok (.aload_n 0, 1) := by decide +kernel
theorem d_law_959 : decode code 959 = .ok (.iload 4, 2) := by decide +kernel
theorem d_law_961 : decode code 961 = .ok (.iconst 1, 1) := by decide +kernel
theorem d_law_962 : decode code 962 = .ok (.iadd, 1) := by decide +kernel
theorem d_law_963 : decode code 963 = .ok (.iaload, 1) := by decide +kernel
theorem d_law_964 : decode code 964 = .ok (.aload_n 3, 1) := by decide +kernel
theorem d_law_965 : decode code 965 = .ok (.invokestatic 110, 3) := by decide +kernel
theorem d_law_968 : decode code 968 = .ok (.istore 5, 2) := by decide +kernel
theorem d_law_970 : decode code 970 = .ok (.aload_n 2, 1) := by decide +kernel
theorem d_law_971 : decode code 971 = .ok (.aload_n 0, 1) := by decide +kernel
theorem d_law_972 : decode code 972 = .ok (.iload 4, 2) := by decide +kernel
theorem d_law_974 : decode code 974 = .ok (.iconst 1, 1) := by decide +kernel
theorem d_law_975 : decode code 975 = .ok (.iadd, 1) := by decide +kernel
theorem d_law_976 : decode code 976 = .ok (.iaload, 1) := by decide +kernel
theorem d_law_977 : decode code 977 = .ok (.invokevirtual 112, 3) := by decide +kernel
theorem d_law_980 : decode code 980 = .ok (.istore 6, 2) := by decide +kernel
theorem d_law_982 : decode code 982 = .ok (.aload_n 2, 1) := by decide +kernel
theorem d_law_983 : decode code 983 = .ok (.invokevirtual 68, 3) := by decide +kernel
theorem d_law_986 : decode code 986 = .ok (.iload 5, 2) := by decide +kernel
theorem d_law_988 : decode code 988 = .ok (.if_icmp .eq 5, 3) := by decide +kernel
theorem d_law_991 : decode code 991 = .ok (.iconst 0, 1) := by decide +kernel
theorem d_law_992 : decode code 992 = .ok (.ireturn, 1) := by decide +kernel
theorem d_law_993 : decode code 993 = .ok (.iload 5, 2) := by decide +kernel
theorem d_law_995 : decode code 995 = .ok (.ifCond .ne 15, 3) := by decide +kernel
theorem d_law_998 : decode code 998 = .ok (.aload_n 3, 1) := by decide +kernel
theorem d_law_999 : decode code 999 = .ok (.iconst 0, 1) := by decide +kernel
theorem d_law_1000 : decode code 1000 = .ok (.laload, 1) := by decide +kernel
theorem d_law_1001 : decode code 1001 = .ok (.iload 6, 2) := by decide +kernel
theorem d_law_1003 : decode code 1003 = .ok (.i2l, 1) := by decide +kernel
theorem d_law_1004 : decode code 1004 = .ok (.lcmp, 1) := by decide +kernel
theorem d_law_1005 : decode code 1005 = .ok (.ifCond .eq 5, 3) := by decide +kernel
theorem d_law_1008 : decode code 1008 = .ok (.iconst 0, 1) := by decide +kernel
theorem d_law_1009 : decode code 1009 = .ok (.ireturn, 1) := by decide +kernel
theorem d_law_1010 : decode code 1010 = .ok (.goto 250, 3) := by decide +kernel
theorem d_law_1013 : decode code 1013 = .ok (.aload_n 1, 1) := by decide +kernel
theorem d_law_1014 : decode code 1014 = .ok (.aload_n 0, 1) := by decide +kernel
theorem d_law_1015 : decode code 1015 = .ok (.iload 4, 2) := by decide +kernel
theorem d_law_1017 : decode code 1017 = .ok (.iconst 1, 1) := by decide +kernel
theorem d_law_1018 : decode code 1018 = .ok (.iadd, 1) := by decide +kernel
theorem d_law_1019 : decode code 1019 = .ok (.iaload, 1) := by decide +kernel
theorem d_law_1020 : decode code 1020 = .ok (.aload_n 0, 1) := by decide +kernel
theorem d_law_1021 : decode code 1021 = .ok (.iload 4, 2) := by decide +kernel
theorem d_law_1023 : decode code 1023 = .ok (.iconst 2, 1) := by decide +kernel
theorem d_law_1024 : decode code 1024 = .ok (.iadd, 1) := by decide +kernel
theorem d_law_1025 : decode code 1025 = .ok (.iaload, 1) := by decide +kernel
theorem d_law_1026 : decode code 1026 = .ok (.i2l, 1) := by decide +kernel
theorem d_law_1027 : decode code 1027 = .ok (.bipush 32, 2) := by decide +kernel
theorem d_law_1029 : decode code 1029 = .ok (.lshl, 1) := by decide +kernel
theorem d_law_1030 : decode code 1030 = .ok (.aload_n 0, 1) := by decide +kernel
theorem d_law_1031 : decode code 1031 = .ok (.iload 4, 2) := by decide +kernel
theorem d_law_1033 : decode code 1033 = .ok (.iconst 3, 1) := by decide +kernel
theorem d_law_1034 : decode code 1034 = .ok (.iadd, 1) := by decide +kernel
theorem d_law_1035 : decode code 1035 = .ok (.iaload, 1) := by decide +kernel
theorem d_law_1036 : decode code 1036 = .ok (.i2l, 1) := by decide +kernel
theorem d_law_1037 : decode code 1037 = .ok (.ldc2_w 101, 3) := by decide +kernel
theorem d_law_1040 : decode code 1040 = .ok (.land, 1) := by decide +kernel
theorem d_law_1041 : decode code 1041 = .ok (.lor, 1) := by decide +kernel
theorem d_law_1042 : decode code 1042 = .ok (.aload_n 0, 1) := by decide +kernel
theorem d_law_1043 : decode code 1043 = .ok (.iload 4, 2) := by decide +kernel
theorem d_law_1045 : decode code 1045 = .ok (.iconst 4, 1) := by decide +kernel
theorem d_law_1046 : decode code 1046 = .ok (.iadd, 1) := by decide +kernel
theorem d_law_1047 : decode code 1047 = .ok (.iaload, 1) := by decide +kernel
theorem d_law_1048 : decode code 1048 = .ok (.i2l, 1) := by decide +kernel
theorem d_law_1049 : decode code 1049 = .ok (.bipush 32, 2) := by decide +kernel
theorem d_law_1051 : decode code 1051 = .ok (.lshl, 1) := by decide +kernel
theorem d_law_1052 : decode code 1052 = .ok (.aload_n 0, 1) := by decide +kernel
theorem d_law_1053 : decode code 1053 = .ok (.iload 4, 2) := by decide +kernel
theorem d_law_1055 : decode code 1055 = .ok (.iconst 5, 1) := by decide +kernel
theorem d_law_1056 : decode code 1056 = .ok (.iadd, 1) := by decide +kernel
theorem d_law_1057 : decode code 1057 = .ok (.iaload, 1) := by decide +kernel
theorem d_law_1058 : decode code 1058 = .ok (.i2l, 1) := by decide +kernel
theorem d_law_1059 : decode code 1059 = .ok (.ldc2_w 101, 3) := by decide +kernel
theorem d_law_1062 : decode code 1062 = .ok (.land, 1) := by decide +kernel
theorem d_law_1063 : decode code 1063 = .ok (.lor, 1) := by decide +kernel
theorem d_law_1064 : decode code 1064 = .ok (.aload_n 0, 1) := by decide +kernel
theorem d_law_1065 : decode code 1065 = .ok (.iload 4, 2) := by decide +kernel
theorem d_law_1067 : decode code 1067 = .ok (.bipush 6, 2) := by decide +kernel
theorem d_law_1069 : decode code 1069 = .ok (.iadd, 1) := by decide +kernel
theorem d_law_1070 : decode code 1070 = .ok (.iaload, 1) := by decide +kernel
theorem d_law_1071 : decode code 1071 = .ok (.i2l, 1) := by decide +kernel
theorem d_law_1072 : decode code 1072 = .ok (.bipush 32, 2) := by decide +kernel
theorem d_law_1074 : decode code 1074 = .ok (.lshl, 1) := by decide +kernel
theorem d_law_1075 : decode code 1075 = .ok (.aload_n 0, 1) := by decide +kernel
theorem d_law_1076 : decode code 1076 = .ok (.iload 4, 2) := by decide +kernel
theorem d_law_1078 : decode code 1078 = .ok (.bipush 7, 2) := by decide +kernel
theorem d_law_1080 : decode code 1080 = .ok (.iadd, 1) := by decide +kernel
theorem d_law_1081 : decode code 1081 = .ok (.iaload, 1) := by decide +kernel
theorem d_law_1082 : decode code 1082 = .ok (.i2l, 1) := by decide +kernel
theorem d_law_1083 : decode code 1083 = .ok (.ldc2_w 101, 3) := by decide +kernel
theorem d_law_1086 : decode code 1086 = .ok (.land, 1) := by decide +kernel
theorem d_law_1087 : decode code 1087 = .ok (.lor, 1) := by decide +kernel
theorem d_law_1088 : decode code 1088 = .ok (.aload_n 0, 1) := by decide +kernel
theorem d_law_1089 : decode code 1089 = .ok (.iload 4, 2) := by decide +kernel
theorem d_law_1091 : decode code 1091 = .ok (.bipush 8, 2) := by decide +kernel
theorem d_law_1093 : decode code 1093 = .ok (.iadd, 1) := by decide +kernel
theorem d_law_1094 : decode code 1094 = .ok (.iaload, 1) := by decide +kernel
theorem d_law_1095 : decode code 1095 = .ok (.i2l, 1) := by decide +kernel
theorem d_law_1096 : decode code 1096 = .ok (.bipush 32, 2) := by decide +kernel
theorem d_law_1098 : decode code 1098 = .ok (.lshl, 1) := by decide +kernel
theorem d_law_1099 : decode code 1099 = .ok (.aload_n 0, 1) := by decide +kernel
theorem d_law_1100 : decode code 1100 = .ok (.iload 4, 2) := by decide +kernel
theorem d_law_1102 : decode code 1102 = .ok (.bipush 9, 2) := by decide +kernel
theorem d_law_1104 : decode code 1104 = .ok (.iadd, 1) := by decide +kernel
theorem d_law_1105 : decode code 1105 = .ok (.iaload, 1) := by decide +kernel
theorem d_law_1106 : decode code 1106 = .ok (.i2l, 1) := by decide +kernel
theorem d_law_1107 : decode code 1107 = .ok (.ldc2_w 101, 3) := by decide +kernel
theorem d_law_1110 : decode code 1110 = .ok (.land, 1) := by decide +kernel
theorem d_law_1111 : decode code 1111 = .ok (.lor, 1) := by decide +kernel
theorem d_law_1112 : decode code 1112 = .ok (.aload_n 3, 1) := by decide +kernel
theorem d_law_1113 : decode code 1113 = .ok (.invokestatic 113, 3) := by decide +kernel
theorem d_law_1116 : decode code 1116 = .ok (.istore 5, 2) := by decide +kernel
theorem d_law_1118 : decode code 1118 = .ok (.aload_n 2, 1) := by decide +kernel
theorem d_law_1119 : decode code 1119 = .ok (.aload_n 0, 1) := by decide +kernel
theorem d_law_1120 : decode code 1120 = .ok (.iload 4, 2) := by decide +kernel
theorem d_law_1122 : decode code 1122 = .ok (.iconst 1, 1) := by decide +kernel
theorem d_law_1123 : decode code 1123 = .ok (.iadd, 1) := by decide +kernel
theorem d_law_1124 : decode code 1124 = .ok (.iaload, 1) := by decide +kernel
theorem d_law_1125 : decode code 1125 = .ok (.aload_n 0, 1) := by decide +kernel
theorem d_law_1126 : decode code 1126 = .ok (.iload 4, 2) := by decide +kernel
theorem d_law_1128 : decode code 1128 = .ok (.iconst 2, 1) := by decide +kernel
theorem d_law_1129 : decode code 1129 = .ok (.iadd, 1) := by decide +kernel
theorem d_law_1130 : decode code 1130 = .ok (.iaload, 1) := by decide +kernel
theorem d_law_1131 : decode code 1131 = .ok (.i2l, 1) := by decide +kernel
theorem d_law_1132 : decode code 1132 = .ok (.bipush 32, 2) := by decide +kernel
theorem d_law_1134 : decode code 1134 = .ok (.lshl, 1) := by decide +kernel
theorem d_law_1135 : decode code 1135 = .ok (.aload_n 0, 1) := by decide +kernel
theorem d_law_1136 : decode code 1136 = .ok (.iload 4, 2) := by decide +kernel
theorem d_law_1138 : decode code 1138 = .ok (.iconst 3, 1) := by decide +kernel
theorem d_law_1139 : decode code 1139 = .ok (.iadd, 1) := by decide +kernel
theorem d_law_1140 : decode code 1140 = .ok (.iaload, 1) := by decide +kernel
theorem d_law_1141 : decode code 1141 = .ok (.i2l, 1) := by decide +kernel
theorem d_law_1142 : decode code 1142 = .ok (.ldc2_w 101, 3) := by decide +kernel
theorem d_law_1145 : decode code 1145 = .ok (.land, 1) := by decide +kernel
theorem d_law_1146 : decode code 1146 = .ok (.lor, 1) := by decide +kernel
theorem d_law_1147 : decode code 1147 = .ok (.aload_n 0, 1) := by decide +kernel
theorem d_law_1148 : decode code 1148 = .ok (.iload 4, 2) := by decide +kernel
theorem d_law_1150 : decode code 1150 = .ok (.iconst 4, 1) := by decide +kernel
theorem d_law_1151 : decode code 1151 = .ok (.iadd, 1) := by decide +kernel
theorem d_law_1152 : decode code 1152 = .ok (.iaload, 1) := by decide +kernel
theorem d_law_1153 : decode code 1153 = .ok (.i2l, 1) := by decide +kernel
theorem d_law_1154 : decode code 1154 = .ok (.bipush 32, 2) := by decide +kernel
theorem d_law_1156 : decode code 1156 = .ok (.lshl, 1) := by decide +kernel
theorem d_law_1157 : decode code 1157 = .ok (.aload_n 0, 1) := by decide +kernel
theorem d_law_1158 : decode code 1158 = .ok (.iload 4, 2) := by decide +kernel
theorem d_law_1160 : decode code 1160 = .ok (.iconst 5, 1) := by decide +kernel
theorem d_law_1161 : decode code 1161 = .ok (.iadd, 1) := by decide +kernel
theorem d_law_1162 : decode code 1162 = .ok (.iaload, 1) := by decide +kernel
theorem d_law_1163 : decode code 1163 = .ok (.i2l, 1) := by decide +kernel
theorem d_law_1164 : decode code 1164 = .ok (.ldc2_w 101, 3) := by decide +kernel
theorem d_law_1167 : decode code 1167 = .ok (.land, 1) := by decide +kernel
theorem d_law_1168 : decode code 1168 = .ok (.lor, 1) := by decide +kernel
theorem d_law_1169 : decode code 1169 = .ok (.aload_n 0, 1) := by decide +kernel
theorem d_law_1170 : decode code 1170 = .ok (.iload 4, 2) := by decide +kernel
theorem d_law_1172 : decode code 1172 = .ok (.bipush 6, 2) := by decide +kernel
theorem d_law_1174 : decode code 1174 = .ok (.iadd, 1) := by decide +kernel
theorem d_law_1175 : decode code 1175 = .ok (.iaload, 1) := by decide +kernel
theorem d_law_1176 : decode code 1176 = .ok (.i2l, 1) := by decide +kernel
theorem d_law_1177 : decode code 1177 = .ok (.bipush 32, 2) := by decide +kernel
theorem d_law_1179 : decode code 1179 = .ok (.lshl, 1) := by decide +kernel
theorem d_law_1180 : decode code 1180 = .ok (.aload_n 0, 1) := by decide +kernel
theorem d_law_1181 : decode code 1181 = .ok (.iload 4, 2) := by decide +kernel
theorem d_law_1183 : decode code 1183 = .ok (.bipush 7, 2) := by decide +kernel
theorem d_law_1185 : decode code 1185 = .ok (.iadd, 1) := by decide +kernel
theorem d_law_1186 : decode code 1186 = .ok (.iaload, 1) := by decide +kernel
theorem d_law_1187 : decode code 1187 = .ok (.i2l, 1) := by decide +kernel
theorem d_law_1188 : decode code 1188 = .ok (.ldc2_w 101, 3) := by decide +kernel
theorem d_law_1191 : decode code 1191 = .ok (.land, 1) := by decide +kernel
theorem d_law_1192 : decode code 1192 = .ok (.lor, 1) := by decide +kernel
theorem d_law_1193 : decode code 1193 = .ok (.aload_n 0, 1) := by decide +kernel
theorem d_law_1194 : decode code 1194 = .ok (.iload 4, 2) := by decide +kernel
theorem d_law_1196 : decode code 1196 = .ok (.bipush 8, 2) := by decide +kernel
theorem d_law_1198 : decode code 1198 = .ok (.iadd, 1) := by decide +kernel
theorem d_law_1199 : decode code 1199 = .ok (.iaload, 1) := by decide +kernel
theorem d_law_1200 : decode code 1200 = .ok (.i2l, 1) := by decide +kernel
theorem d_law_1201 : decode code 1201 = .ok (.bipush 32, 2) := by decide +kernel
theorem d_law_1203 : decode code 1203 = .ok (.lshl, 1) := by decide +kernel
theorem d_law_1204 : decode code 1204 = .ok (.aload_n 0, 1) := by decide +kernel
theorem d_law_1205 : decode code 1205 = .ok (.iload 4, 2) := by decide +kernel
theorem d_law_1207 : decode code 1207 = .ok (.bipush 9, 2) := by decide +kernel
theorem d_law_1209 : decode code 1209 = .ok (.iadd, 1) := by decide +kernel
theorem d_law_1210 : decode code 1210 = .ok (.iaload, 1) := by decide +kernel
theorem d_law_1211 : decode code 1211 = .ok (.i2l, 1) := by decide +kernel
theorem d_law_1212 : decode code 1212 = .ok (.ldc2_w 101, 3) := by decide +kernel
theorem d_law_1215 : decode code 1215 = .ok (.land, 1) := by decide +kernel
theorem d_law_1216 : decode code 1216 = .ok (.lor, 1) := by decide +kernel
theorem d_law_1217 : decode code 1217 = .ok (.invokevirtual 116, 3) := by decide +kernel
theorem d_law_1220 : decode code 1220 = .ok (.istore 6, 2) := by decide +kernel
theorem d_law_1222 : decode code 1222 = .ok (.aload_n 2, 1) := by decide +kernel
theorem d_law_1223 : decode code 1223 = .ok (.invokevirtual 68, 3) := by decide +kernel
theorem d_law_1226 : decode code 1226 = .ok (.iload 5, 2) := by decide +kernel
theorem d_law_1228 : decode code 1228 = .ok (.if_icmp .eq 5, 3) := by decide +kernel
theorem d_law_1231 : decode code 1231 = .ok (.iconst 0, 1) := by decide +kernel
theorem d_law_1232 : decode code 1232 = .ok (.ireturn, 1) := by decide +kernel
theorem d_law_1233 : decode code 1233 = .ok (.iload 5, 2) := by decide +kernel
theorem d_law_1235 : decode code 1235 = .ok (.ifCond .ne 22, 3) := by decide +kernel
theorem d_law_1238 : decode code 1238 = .ok (.aload_n 3, 1) := by decide +kernel
theorem d_law_1239 : decode code 1239 = .ok (.iconst 0, 1) := by decide +kernel
theorem d_law_1240 : decode code 1240 = .ok (.laload, 1) := by decide +kernel
theorem d_law_1241 : decode code 1241 = .ok (.iload 6, 2) := by decide +kernel
theorem d_law_1243 : decode code 1243 = .ok (.ifCond .eq 7, 3) := by decide +kernel
theorem d_law_1246 : decode code 1246 = .ok (.lconst 1, 1) := by decide +kernel
theorem d_law_1247 : decode code 1247 = .ok (.goto 4, 3) := by decide +kernel
theorem d_law_1250 : decode code 1250 = .ok (.lconst 0, 1) := by decide +kernel
theorem d_law_1251 : decode code 1251 = .ok (.lcmp, 1) := by decide +kernel
theorem d_law_1252 : decode code 1252 = .ok (.ifCond .eq 5, 3) := by decide +kernel
theorem d_law_1255 : decode code 1255 = .ok (.iconst 0, 1) := by decide +kernel
theorem d_law_1256 : decode code 1256 = .ok (.ireturn, 1) := by decide +kernel
theorem d_law_1257 : decode code 1257 = .ok (.goto 3, 3) := by decide +kernel
theorem d_law_1260 : decode code 1260 = .ok (.iinc 4 10, 3) := by decide +kernel
theorem d_law_1263 : decode code 1263 = .ok (.goto (-1240), 3) := by decide +kernel
theorem d_law_1266 : decode code 1266 = .ok (.iconst 1, 1) := by decide +kernel
theorem d_law_1267 : decode code 1267 = .ok (.ireturn, 1) := by decide +kernel
