/-! The reference's division returns. -/
theorem shl_nat {t k : Nat} (hk : k ≤ 15) (ht : t * 2 ^ k < 65536) : nI t <<< (nI k &&& 31) = nI (t * 2 ^ k) := by
  have ht0 : t < 65536 := Nat.lt_of_le_of_lt (Nat.le_mul_of_pos_right t (Nat.two_pow_pos k)) ht
  apply Int32.toBitVec_inj.mp
  apply BitVec.eq_of_toNat_eq
  show ((nI t).toBitVec <<< (BitVec.smod (nI k &&& 31).toBitVec 32)).toNat = (nI (t * 2 ^ k)).toBitVec.toNat
  have e0 : BitVec.smod (nI k &&& 31).toBitVec 32 = BitVec.ofNat 32 k := by
    rcases (show k = 0 ∨ k = 1 ∨ k = 2 ∨ k = 3 ∨ k = 4 ∨ k = 5 ∨ k = 6 ∨ k = 7 ∨ k = 8 ∨ k = 9 ∨ k = 10 ∨ k = 11 ∨ k = 12 ∨ k = 13 ∨ k = 14 ∨ k = 15 by omega) with rfl | rfl | rfl | rfl | rfl | rfl | rfl | rfl | rfl | rfl | rfl | rfl | rfl | rfl | rfl | rfl <;> decide
  have e1 : (nI t).toBitVec = BitVec.ofNat 32 t := rfl
  have e3 : (nI (t * 2 ^ k)).toBitVec = BitVec.ofNat 32 (t * 2 ^ k) := rfl
  rw [e0, e1, e3, BitVec.shiftLeft_eq', BitVec.toNat_shiftLeft, BitVec.toNat_ofNat, BitVec.toNat_ofNat, BitVec.toNat_ofNat, Nat.mod_eq_of_lt (show k < 2 ^ 32 by omega), Nat.mod_eq_of_lt (show t < 2 ^ 32 by omega), Nat.shiftLeft_eq]
def y_Model_divided : MethodName := ⟨"TrustChainModel", "divided", "([II[II[I)I"⟩
abbrev b_Model_divided : ByteArray := prog_14_method_8_code
def w_Model_divided : List Cond := Cond.code y_Model_divided b_Model_divided 18 ((some FieldType.int)) :: tb
theorem d_Model_divided_0 : decode b_Model_divided 0 = .ok (.aload_n 1, 1) := by decide +kernel
theorem d_Model_divided_1 : decode b_Model_divided 1 = .ok (.iload_n 2, 1) := by decide +kernel
theorem d_Model_divided_2 : decode b_Model_divided 2 = .ok (.aload_n 3, 1) := by decide +kernel
theorem d_Model_divided_3 : decode b_Model_divided 3 = .ok (.iload 4, 2) := by decide +kernel
theorem d_Model_divided_5 : decode b_Model_divided 5 = .ok (.invokestatic 155, 3) := by decide +kernel
theorem d_Model_divided_8 : decode b_Model_divided 8 = .ok (.ifCond .ge 10, 3) := by decide +kernel
theorem d_Model_divided_11 : decode b_Model_divided 11 = .ok (.aload_n 0, 1) := by decide +kernel
theorem d_Model_divided_12 : decode b_Model_divided 12 = .ok (.iconst 0, 1) := by decide +kernel
theorem d_Model_divided_13 : decode b_Model_divided 13 = .ok (.putfield 159, 3) := by decide +kernel
theorem d_Model_divided_16 : decode b_Model_divided 16 = .ok (.iload_n 2, 1) := by decide +kernel
theorem d_Model_divided_17 : decode b_Model_divided 17 = .ok (.ireturn, 1) := by decide +kernel
theorem d_Model_divided_18 : decode b_Model_divided 18 = .ok (.iload 4, 2) := by decide +kernel
theorem d_Model_divided_20 : decode b_Model_divided 20 = .ok (.iconst 1, 1) := by decide +kernel
theorem d_Model_divided_21 : decode b_Model_divided 21 = .ok (.if_icmp .ne 84, 3) := by decide +kernel
theorem d_Model_divided_105 : decode b_Model_divided 105 = .ok (.iconst 0, 1) := by decide +kernel
theorem d_Model_divided_106 : decode b_Model_divided 106 = .ok (.istore 6, 2) := by decide +kernel
theorem d_Model_divided_108 : decode b_Model_divided 108 = .ok (.aload_n 3, 1) := by decide +kernel
theorem d_Model_divided_109 : decode b_Model_divided 109 = .ok (.iload 4, 2) := by decide +kernel
theorem d_Model_divided_111 : decode b_Model_divided 111 = .ok (.iconst 1, 1) := by decide +kernel
theorem d_Model_divided_112 : decode b_Model_divided 112 = .ok (.isub, 1) := by decide +kernel
theorem d_Model_divided_113 : decode b_Model_divided 113 = .ok (.iaload, 1) := by decide +kernel
theorem d_Model_divided_114 : decode b_Model_divided 114 = .ok (.istore 7, 2) := by decide +kernel
theorem d_Model_divided_116 : decode b_Model_divided 116 = .ok (.iload 7, 2) := by decide +kernel
theorem d_Model_divided_118 : decode b_Model_divided 118 = .ok (.ldc 162, 2) := by decide +kernel
theorem d_Model_divided_120 : decode b_Model_divided 120 = .ok (.if_icmp .ge 15, 3) := by decide +kernel
theorem d_Model_divided_123 : decode b_Model_divided 123 = .ok (.iinc 6 1, 3) := by decide +kernel
theorem d_Model_divided_126 : decode b_Model_divided 126 = .ok (.iload 7, 2) := by decide +kernel
theorem d_Model_divided_128 : decode b_Model_divided 128 = .ok (.iconst 1, 1) := by decide +kernel
theorem d_Model_divided_129 : decode b_Model_divided 129 = .ok (.ishl, 1) := by decide +kernel
theorem d_Model_divided_130 : decode b_Model_divided 130 = .ok (.istore 7, 2) := by decide +kernel
theorem d_Model_divided_132 : decode b_Model_divided 132 = .ok (.goto (-16), 3) := by decide +kernel
theorem d_Model_divided_135 : decode b_Model_divided 135 = .ok (.iload 4, 2) := by decide +kernel
theorem d_Model_divided_137 : decode b_Model_divided 137 = .ok (.iconst 1, 1) := by decide +kernel
theorem d_Model_divided_138 : decode b_Model_divided 138 = .ok (.isub, 1) := by decide +kernel
theorem d_Model_divided_139 : decode b_Model_divided 139 = .ok (.istore 7, 2) := by decide +kernel
theorem d_Model_divided_141 : decode b_Model_divided 141 = .ok (.iload 7, 2) := by decide +kernel
theorem d_Model_divided_143 : decode b_Model_divided 143 = .ok (.ifCond .lt 48, 3) := by decide +kernel
theorem d_Model_divided_146 : decode b_Model_divided 146 = .ok (.aload_n 0, 1) := by decide +kernel
theorem d_Model_divided_147 : decode b_Model_divided 147 = .ok (.getfield 31, 3) := by decide +kernel
theorem d_Model_divided_150 : decode b_Model_divided 150 = .ok (.iload 7, 2) := by decide +kernel
theorem d_Model_divided_152 : decode b_Model_divided 152 = .ok (.aload_n 3, 1) := by decide +kernel
theorem d_Model_divided_153 : decode b_Model_divided 153 = .ok (.iload 7, 2) := by decide +kernel
theorem d_Model_divided_155 : decode b_Model_divided 155 = .ok (.iaload, 1) := by decide +kernel
theorem d_Model_divided_156 : decode b_Model_divided 156 = .ok (.iload 6, 2) := by decide +kernel
theorem d_Model_divided_158 : decode b_Model_divided 158 = .ok (.ishl, 1) := by decide +kernel
theorem d_Model_divided_159 : decode b_Model_divided 159 = .ok (.iload 7, 2) := by decide +kernel
theorem d_Model_divided_161 : decode b_Model_divided 161 = .ok (.ifCond .le 18, 3) := by decide +kernel
theorem d_Model_divided_164 : decode b_Model_divided 164 = .ok (.aload_n 3, 1) := by decide +kernel
theorem d_Model_divided_165 : decode b_Model_divided 165 = .ok (.iload 7, 2) := by decide +kernel
theorem d_Model_divided_167 : decode b_Model_divided 167 = .ok (.iconst 1, 1) := by decide +kernel
theorem d_Model_divided_168 : decode b_Model_divided 168 = .ok (.isub, 1) := by decide +kernel
theorem d_Model_divided_169 : decode b_Model_divided 169 = .ok (.iaload, 1) := by decide +kernel
theorem d_Model_divided_170 : decode b_Model_divided 170 = .ok (.bipush 16, 2) := by decide +kernel
theorem d_Model_divided_172 : decode b_Model_divided 172 = .ok (.iload 6, 2) := by decide +kernel
theorem d_Model_divided_174 : decode b_Model_divided 174 = .ok (.isub, 1) := by decide +kernel
theorem d_Model_divided_175 : decode b_Model_divided 175 = .ok (.ishr, 1) := by decide +kernel
theorem d_Model_divided_176 : decode b_Model_divided 176 = .ok (.goto 4, 3) := by decide +kernel
theorem d_Model_divided_179 : decode b_Model_divided 179 = .ok (.iconst 0, 1) := by decide +kernel
theorem d_Model_divided_180 : decode b_Model_divided 180 = .ok (.ior, 1) := by decide +kernel
theorem d_Model_divided_181 : decode b_Model_divided 181 = .ok (.ldc 148, 2) := by decide +kernel
theorem d_Model_divided_183 : decode b_Model_divided 183 = .ok (.iand, 1) := by decide +kernel
theorem d_Model_divided_184 : decode b_Model_divided 184 = .ok (.iastore, 1) := by decide +kernel
theorem d_Model_divided_185 : decode b_Model_divided 185 = .ok (.iinc 7 (-1), 3) := by decide +kernel
theorem d_Model_divided_188 : decode b_Model_divided 188 = .ok (.goto (-47), 3) := by decide +kernel
theorem d_Model_divided_191 : decode b_Model_divided 191 = .ok (.aload_n 1, 1) := by decide +kernel
theorem d_Model_divided_192 : decode b_Model_divided 192 = .ok (.iload_n 2, 1) := by decide +kernel
theorem d_Model_divided_193 : decode b_Model_divided 193 = .ok (.iconst 0, 1) := by decide +kernel
theorem d_Model_divided_194 : decode b_Model_divided 194 = .ok (.iastore, 1) := by decide +kernel
theorem d_Model_divided_195 : decode b_Model_divided 195 = .ok (.iload_n 2, 1) := by decide +kernel
theorem d_Model_divided_196 : decode b_Model_divided 196 = .ok (.istore 7, 2) := by decide +kernel
theorem d_Model_divided_198 : decode b_Model_divided 198 = .ok (.iload 7, 2) := by decide +kernel
theorem d_Model_divided_200 : decode b_Model_divided 200 = .ok (.ifCond .lt 45, 3) := by decide +kernel
theorem d_Model_divided_203 : decode b_Model_divided 203 = .ok (.aload_n 1, 1) := by decide +kernel
theorem d_Model_divided_204 : decode b_Model_divided 204 = .ok (.iload 7, 2) := by decide +kernel
theorem d_Model_divided_206 : decode b_Model_divided 206 = .ok (.aload_n 1, 1) := by decide +kernel
theorem d_Model_divided_207 : decode b_Model_divided 207 = .ok (.iload 7, 2) := by decide +kernel
theorem d_Model_divided_209 : decode b_Model_divided 209 = .ok (.iaload, 1) := by decide +kernel
theorem d_Model_divided_210 : decode b_Model_divided 210 = .ok (.iload 6, 2) := by decide +kernel
theorem d_Model_divided_212 : decode b_Model_divided 212 = .ok (.ishl, 1) := by decide +kernel
theorem d_Model_divided_213 : decode b_Model_divided 213 = .ok (.iload 7, 2) := by decide +kernel
theorem d_Model_divided_215 : decode b_Model_divided 215 = .ok (.ifCond .le 18, 3) := by decide +kernel
theorem d_Model_divided_218 : decode b_Model_divided 218 = .ok (.aload_n 1, 1) := by decide +kernel
theorem d_Model_divided_219 : decode b_Model_divided 219 = .ok (.iload 7, 2) := by decide +kernel
theorem d_Model_divided_221 : decode b_Model_divided 221 = .ok (.iconst 1, 1) := by decide +kernel
theorem d_Model_divided_222 : decode b_Model_divided 222 = .ok (.isub, 1) := by decide +kernel
theorem d_Model_divided_223 : decode b_Model_divided 223 = .ok (.iaload, 1) := by decide +kernel
theorem d_Model_divided_224 : decode b_Model_divided 224 = .ok (.bipush 16, 2) := by decide +kernel
theorem d_Model_divided_226 : decode b_Model_divided 226 = .ok (.iload 6, 2) := by decide +kernel
theorem d_Model_divided_228 : decode b_Model_divided 228 = .ok (.isub, 1) := by decide +kernel
theorem d_Model_divided_229 : decode b_Model_divided 229 = .ok (.ishr, 1) := by decide +kernel
theorem d_Model_divided_230 : decode b_Model_divided 230 = .ok (.goto 4, 3) := by decide +kernel
theorem d_Model_divided_233 : decode b_Model_divided 233 = .ok (.iconst 0, 1) := by decide +kernel
theorem d_Model_divided_234 : decode b_Model_divided 234 = .ok (.ior, 1) := by decide +kernel
theorem d_Model_divided_235 : decode b_Model_divided 235 = .ok (.ldc 148, 2) := by decide +kernel
theorem d_Model_divided_237 : decode b_Model_divided 237 = .ok (.iand, 1) := by decide +kernel
theorem d_Model_divided_238 : decode b_Model_divided 238 = .ok (.iastore, 1) := by decide +kernel
theorem d_Model_divided_239 : decode b_Model_divided 239 = .ok (.iinc 7 (-1), 3) := by decide +kernel
theorem d_Model_divided_242 : decode b_Model_divided 242 = .ok (.goto (-44), 3) := by decide +kernel
theorem d_Model_divided_245 : decode b_Model_divided 245 = .ok (.iload_n 2, 1) := by decide +kernel
theorem d_Model_divided_246 : decode b_Model_divided 246 = .ok (.iload 4, 2) := by decide +kernel
theorem d_Model_divided_248 : decode b_Model_divided 248 = .ok (.isub, 1) := by decide +kernel
theorem d_Model_divided_249 : decode b_Model_divided 249 = .ok (.istore 7, 2) := by decide +kernel
theorem d_Model_divided_251 : decode b_Model_divided 251 = .ok (.iload 7, 2) := by decide +kernel
theorem d_Model_divided_253 : decode b_Model_divided 253 = .ok (.ifCond .lt 329, 3) := by decide +kernel
theorem d_Model_divided_256 : decode b_Model_divided 256 = .ok (.aload_n 1, 1) := by decide +kernel
theorem d_Model_divided_257 : decode b_Model_divided 257 = .ok (.iload 7, 2) := by decide +kernel
theorem d_Model_divided_259 : decode b_Model_divided 259 = .ok (.iload 4, 2) := by decide +kernel
theorem d_Model_divided_261 : decode b_Model_divided 261 = .ok (.iadd, 1) := by decide +kernel
theorem d_Model_divided_262 : decode b_Model_divided 262 = .ok (.iaload, 1) := by decide +kernel
theorem d_Model_divided_263 : decode b_Model_divided 263 = .ok (.i2l, 1) := by decide +kernel
theorem d_Model_divided_264 : decode b_Model_divided 264 = .ok (.bipush 16, 2) := by decide +kernel
theorem d_Model_divided_266 : decode b_Model_divided 266 = .ok (.lshl, 1) := by decide +kernel
theorem d_Model_divided_267 : decode b_Model_divided 267 = .ok (.aload_n 1, 1) := by decide +kernel
theorem d_Model_divided_268 : decode b_Model_divided 268 = .ok (.iload 7, 2) := by decide +kernel
theorem d_Model_divided_270 : decode b_Model_divided 270 = .ok (.iload 4, 2) := by decide +kernel
theorem d_Model_divided_272 : decode b_Model_divided 272 = .ok (.iadd, 1) := by decide +kernel
theorem d_Model_divided_273 : decode b_Model_divided 273 = .ok (.iconst 1, 1) := by decide +kernel
theorem d_Model_divided_274 : decode b_Model_divided 274 = .ok (.isub, 1) := by decide +kernel
theorem d_Model_divided_275 : decode b_Model_divided 275 = .ok (.iaload, 1) := by decide +kernel
theorem d_Model_divided_276 : decode b_Model_divided 276 = .ok (.i2l, 1) := by decide +kernel
theorem d_Model_divided_277 : decode b_Model_divided 277 = .ok (.lor, 1) := by decide +kernel
theorem d_Model_divided_278 : decode b_Model_divided 278 = .ok (.lstore 8, 2) := by decide +kernel
theorem d_Model_divided_280 : decode b_Model_divided 280 = .ok (.lload 8, 2) := by decide +kernel
theorem d_Model_divided_282 : decode b_Model_divided 282 = .ok (.aload_n 0, 1) := by decide +kernel
theorem d_Model_divided_283 : decode b_Model_divided 283 = .ok (.getfield 31, 3) := by decide +kernel
theorem d_Model_divided_286 : decode b_Model_divided 286 = .ok (.iload 4, 2) := by decide +kernel
theorem d_Model_divided_288 : decode b_Model_divided 288 = .ok (.iconst 1, 1) := by decide +kernel
theorem d_Model_divided_289 : decode b_Model_divided 289 = .ok (.isub, 1) := by decide +kernel
theorem d_Model_divided_290 : decode b_Model_divided 290 = .ok (.iaload, 1) := by decide +kernel
theorem d_Model_divided_291 : decode b_Model_divided 291 = .ok (.i2l, 1) := by decide +kernel
theorem d_Model_divided_292 : decode b_Model_divided 292 = .ok (.ldiv, 1) := by decide +kernel
theorem d_Model_divided_293 : decode b_Model_divided 293 = .ok (.lstore 10, 2) := by decide +kernel
theorem d_Model_divided_295 : decode b_Model_divided 295 = .ok (.lload 8, 2) := by decide +kernel
theorem d_Model_divided_297 : decode b_Model_divided 297 = .ok (.aload_n 0, 1) := by decide +kernel
theorem d_Model_divided_298 : decode b_Model_divided 298 = .ok (.getfield 31, 3) := by decide +kernel
theorem d_Model_divided_301 : decode b_Model_divided 301 = .ok (.iload 4, 2) := by decide +kernel
theorem d_Model_divided_303 : decode b_Model_divided 303 = .ok (.iconst 1, 1) := by decide +kernel
theorem d_Model_divided_304 : decode b_Model_divided 304 = .ok (.isub, 1) := by decide +kernel
theorem d_Model_divided_305 : decode b_Model_divided 305 = .ok (.iaload, 1) := by decide +kernel
theorem d_Model_divided_306 : decode b_Model_divided 306 = .ok (.i2l, 1) := by decide +kernel
theorem d_Model_divided_307 : decode b_Model_divided 307 = .ok (.lrem, 1) := by decide +kernel
theorem d_Model_divided_308 : decode b_Model_divided 308 = .ok (.lstore 12, 2) := by decide +kernel
theorem d_Model_divided_310 : decode b_Model_divided 310 = .ok (.lload 10, 2) := by decide +kernel
theorem d_Model_divided_312 : decode b_Model_divided 312 = .ok (.ldc2_w 153, 3) := by decide +kernel
theorem d_Model_divided_315 : decode b_Model_divided 315 = .ok (.lcmp, 1) := by decide +kernel
theorem d_Model_divided_316 : decode b_Model_divided 316 = .ok (.ifCond .gt 36, 3) := by decide +kernel
theorem d_Model_divided_319 : decode b_Model_divided 319 = .ok (.lload 10, 2) := by decide +kernel
theorem d_Model_divided_321 : decode b_Model_divided 321 = .ok (.aload_n 0, 1) := by decide +kernel
theorem d_Model_divided_322 : decode b_Model_divided 322 = .ok (.getfield 31, 3) := by decide +kernel
theorem d_Model_divided_325 : decode b_Model_divided 325 = .ok (.iload 4, 2) := by decide +kernel
theorem d_Model_divided_327 : decode b_Model_divided 327 = .ok (.iconst 2, 1) := by decide +kernel
theorem d_Model_divided_328 : decode b_Model_divided 328 = .ok (.isub, 1) := by decide +kernel
theorem d_Model_divided_329 : decode b_Model_divided 329 = .ok (.iaload, 1) := by decide +kernel
theorem d_Model_divided_330 : decode b_Model_divided 330 = .ok (.i2l, 1) := by decide +kernel
theorem d_Model_divided_331 : decode b_Model_divided 331 = .ok (.lmul, 1) := by decide +kernel
theorem d_Model_divided_332 : decode b_Model_divided 332 = .ok (.lload 12, 2) := by decide +kernel
theorem d_Model_divided_334 : decode b_Model_divided 334 = .ok (.bipush 16, 2) := by decide +kernel
theorem d_Model_divided_336 : decode b_Model_divided 336 = .ok (.lshl, 1) := by decide +kernel
theorem d_Model_divided_337 : decode b_Model_divided 337 = .ok (.aload_n 1, 1) := by decide +kernel
theorem d_Model_divided_338 : decode b_Model_divided 338 = .ok (.iload 7, 2) := by decide +kernel
theorem d_Model_divided_340 : decode b_Model_divided 340 = .ok (.iload 4, 2) := by decide +kernel
theorem d_Model_divided_342 : decode b_Model_divided 342 = .ok (.iadd, 1) := by decide +kernel
theorem d_Model_divided_343 : decode b_Model_divided 343 = .ok (.iconst 2, 1) := by decide +kernel
theorem d_Model_divided_344 : decode b_Model_divided 344 = .ok (.isub, 1) := by decide +kernel
theorem d_Model_divided_345 : decode b_Model_divided 345 = .ok (.iaload, 1) := by decide +kernel
theorem d_Model_divided_346 : decode b_Model_divided 346 = .ok (.i2l, 1) := by decide +kernel
theorem d_Model_divided_347 : decode b_Model_divided 347 = .ok (.lor, 1) := by decide +kernel
theorem d_Model_divided_348 : decode b_Model_divided 348 = .ok (.lcmp, 1) := by decide +kernel
theorem d_Model_divided_349 : decode b_Model_divided 349 = .ok (.ifCond .le 36, 3) := by decide +kernel
theorem d_Model_divided_352 : decode b_Model_divided 352 = .ok (.lload 10, 2) := by decide +kernel
theorem d_Model_divided_354 : decode b_Model_divided 354 = .ok (.lconst 1, 1) := by decide +kernel
theorem d_Model_divided_355 : decode b_Model_divided 355 = .ok (.lsub, 1) := by decide +kernel
theorem d_Model_divided_356 : decode b_Model_divided 356 = .ok (.lstore 10, 2) := by decide +kernel
theorem d_Model_divided_358 : decode b_Model_divided 358 = .ok (.lload 12, 2) := by decide +kernel
theorem d_Model_divided_360 : decode b_Model_divided 360 = .ok (.aload_n 0, 1) := by decide +kernel
theorem d_Model_divided_361 : decode b_Model_divided 361 = .ok (.getfield 31, 3) := by decide +kernel
theorem d_Model_divided_364 : decode b_Model_divided 364 = .ok (.iload 4, 2) := by decide +kernel
theorem d_Model_divided_366 : decode b_Model_divided 366 = .ok (.iconst 1, 1) := by decide +kernel
theorem d_Model_divided_367 : decode b_Model_divided 367 = .ok (.isub, 1) := by decide +kernel
theorem d_Model_divided_368 : decode b_Model_divided 368 = .ok (.iaload, 1) := by decide +kernel
theorem d_Model_divided_369 : decode b_Model_divided 369 = .ok (.i2l, 1) := by decide +kernel
theorem d_Model_divided_370 : decode b_Model_divided 370 = .ok (.ladd, 1) := by decide +kernel
theorem d_Model_divided_371 : decode b_Model_divided 371 = .ok (.lstore 12, 2) := by decide +kernel
theorem d_Model_divided_373 : decode b_Model_divided 373 = .ok (.lload 12, 2) := by decide +kernel
theorem d_Model_divided_375 : decode b_Model_divided 375 = .ok (.ldc2_w 153, 3) := by decide +kernel
theorem d_Model_divided_378 : decode b_Model_divided 378 = .ok (.lcmp, 1) := by decide +kernel
theorem d_Model_divided_379 : decode b_Model_divided 379 = .ok (.ifCond .le (-69), 3) := by decide +kernel
theorem d_Model_divided_382 : decode b_Model_divided 382 = .ok (.goto 3, 3) := by decide +kernel
theorem d_Model_divided_385 : decode b_Model_divided 385 = .ok (.lconst 0, 1) := by decide +kernel
theorem d_Model_divided_386 : decode b_Model_divided 386 = .ok (.lstore 14, 2) := by decide +kernel
theorem d_Model_divided_388 : decode b_Model_divided 388 = .ok (.iconst 0, 1) := by decide +kernel
theorem d_Model_divided_389 : decode b_Model_divided 389 = .ok (.istore 16, 2) := by decide +kernel
theorem d_Model_divided_391 : decode b_Model_divided 391 = .ok (.iload 16, 2) := by decide +kernel
theorem d_Model_divided_393 : decode b_Model_divided 393 = .ok (.iload 4, 2) := by decide +kernel
theorem d_Model_divided_395 : decode b_Model_divided 395 = .ok (.if_icmp .ge 55, 3) := by decide +kernel
theorem d_Model_divided_398 : decode b_Model_divided 398 = .ok (.lload 14, 2) := by decide +kernel
theorem d_Model_divided_400 : decode b_Model_divided 400 = .ok (.aload_n 1, 1) := by decide +kernel
theorem d_Model_divided_401 : decode b_Model_divided 401 = .ok (.iload 7, 2) := by decide +kernel
theorem d_Model_divided_403 : decode b_Model_divided 403 = .ok (.iload 16, 2) := by decide +kernel
theorem d_Model_divided_405 : decode b_Model_divided 405 = .ok (.iadd, 1) := by decide +kernel
theorem d_Model_divided_406 : decode b_Model_divided 406 = .ok (.iaload, 1) := by decide +kernel
theorem d_Model_divided_407 : decode b_Model_divided 407 = .ok (.i2l, 1) := by decide +kernel
theorem d_Model_divided_408 : decode b_Model_divided 408 = .ok (.lload 10, 2) := by decide +kernel
theorem d_Model_divided_410 : decode b_Model_divided 410 = .ok (.aload_n 0, 1) := by decide +kernel
theorem d_Model_divided_411 : decode b_Model_divided 411 = .ok (.getfield 31, 3) := by decide +kernel
theorem d_Model_divided_414 : decode b_Model_divided 414 = .ok (.iload 16, 2) := by decide +kernel
theorem d_Model_divided_416 : decode b_Model_divided 416 = .ok (.iaload, 1) := by decide +kernel
theorem d_Model_divided_417 : decode b_Model_divided 417 = .ok (.i2l, 1) := by decide +kernel
theorem d_Model_divided_418 : decode b_Model_divided 418 = .ok (.lmul, 1) := by decide +kernel
theorem d_Model_divided_419 : decode b_Model_divided 419 = .ok (.lsub, 1) := by decide +kernel
theorem d_Model_divided_420 : decode b_Model_divided 420 = .ok (.ladd, 1) := by decide +kernel
theorem d_Model_divided_421 : decode b_Model_divided 421 = .ok (.lstore 14, 2) := by decide +kernel
theorem d_Model_divided_423 : decode b_Model_divided 423 = .ok (.aload_n 1, 1) := by decide +kernel
theorem d_Model_divided_424 : decode b_Model_divided 424 = .ok (.iload 7, 2) := by decide +kernel
theorem d_Model_divided_426 : decode b_Model_divided 426 = .ok (.iload 16, 2) := by decide +kernel
theorem d_Model_divided_428 : decode b_Model_divided 428 = .ok (.iadd, 1) := by decide +kernel
theorem d_Model_divided_429 : decode b_Model_divided 429 = .ok (.lload 14, 2) := by decide +kernel
theorem d_Model_divided_431 : decode b_Model_divided 431 = .ok (.ldc2_w 153, 3) := by decide +kernel
theorem d_Model_divided_434 : decode b_Model_divided 434 = .ok (.land, 1) := by decide +kernel
theorem d_Model_divided_435 : decode b_Model_divided 435 = .ok (.l2i, 1) := by decide +kernel
theorem d_Model_divided_436 : decode b_Model_divided 436 = .ok (.iastore, 1) := by decide +kernel
theorem d_Model_divided_437 : decode b_Model_divided 437 = .ok (.lload 14, 2) := by decide +kernel
theorem d_Model_divided_439 : decode b_Model_divided 439 = .ok (.bipush 16, 2) := by decide +kernel
theorem d_Model_divided_441 : decode b_Model_divided 441 = .ok (.lshr, 1) := by decide +kernel
theorem d_Model_divided_442 : decode b_Model_divided 442 = .ok (.lstore 14, 2) := by decide +kernel
theorem d_Model_divided_444 : decode b_Model_divided 444 = .ok (.iinc 16 1, 3) := by decide +kernel
theorem d_Model_divided_447 : decode b_Model_divided 447 = .ok (.goto (-56), 3) := by decide +kernel
theorem d_Model_divided_450 : decode b_Model_divided 450 = .ok (.lload 14, 2) := by decide +kernel
theorem d_Model_divided_452 : decode b_Model_divided 452 = .ok (.aload_n 1, 1) := by decide +kernel
theorem d_Model_divided_453 : decode b_Model_divided 453 = .ok (.iload 7, 2) := by decide +kernel
theorem d_Model_divided_455 : decode b_Model_divided 455 = .ok (.iload 4, 2) := by decide +kernel
theorem d_Model_divided_457 : decode b_Model_divided 457 = .ok (.iadd, 1) := by decide +kernel
theorem d_Model_divided_458 : decode b_Model_divided 458 = .ok (.iaload, 1) := by decide +kernel
theorem d_Model_divided_459 : decode b_Model_divided 459 = .ok (.i2l, 1) := by decide +kernel
theorem d_Model_divided_460 : decode b_Model_divided 460 = .ok (.ladd, 1) := by decide +kernel
theorem d_Model_divided_461 : decode b_Model_divided 461 = .ok (.lstore 14, 2) := by decide +kernel
theorem d_Model_divided_463 : decode b_Model_divided 463 = .ok (.aload_n 1, 1) := by decide +kernel
theorem d_Model_divided_464 : decode b_Model_divided 464 = .ok (.iload 7, 2) := by decide +kernel
theorem d_Model_divided_466 : decode b_Model_divided 466 = .ok (.iload 4, 2) := by decide +kernel
theorem d_Model_divided_468 : decode b_Model_divided 468 = .ok (.iadd, 1) := by decide +kernel
theorem d_Model_divided_469 : decode b_Model_divided 469 = .ok (.lload 14, 2) := by decide +kernel
theorem d_Model_divided_471 : decode b_Model_divided 471 = .ok (.ldc2_w 153, 3) := by decide +kernel
theorem d_Model_divided_474 : decode b_Model_divided 474 = .ok (.land, 1) := by decide +kernel
theorem d_Model_divided_475 : decode b_Model_divided 475 = .ok (.l2i, 1) := by decide +kernel
theorem d_Model_divided_476 : decode b_Model_divided 476 = .ok (.iastore, 1) := by decide +kernel
theorem d_Model_divided_477 : decode b_Model_divided 477 = .ok (.lload 14, 2) := by decide +kernel
theorem d_Model_divided_479 : decode b_Model_divided 479 = .ok (.lconst 0, 1) := by decide +kernel
theorem d_Model_divided_480 : decode b_Model_divided 480 = .ok (.lcmp, 1) := by decide +kernel
theorem d_Model_divided_481 : decode b_Model_divided 481 = .ok (.ifCond .ge 87, 3) := by decide +kernel
theorem d_Model_divided_484 : decode b_Model_divided 484 = .ok (.lload 10, 2) := by decide +kernel
theorem d_Model_divided_486 : decode b_Model_divided 486 = .ok (.lconst 1, 1) := by decide +kernel
theorem d_Model_divided_487 : decode b_Model_divided 487 = .ok (.lsub, 1) := by decide +kernel
theorem d_Model_divided_488 : decode b_Model_divided 488 = .ok (.lstore 10, 2) := by decide +kernel
theorem d_Model_divided_490 : decode b_Model_divided 490 = .ok (.iconst 0, 1) := by decide +kernel
theorem d_Model_divided_491 : decode b_Model_divided 491 = .ok (.istore 16, 2) := by decide +kernel
theorem d_Model_divided_493 : decode b_Model_divided 493 = .ok (.iconst 0, 1) := by decide +kernel
theorem d_Model_divided_494 : decode b_Model_divided 494 = .ok (.istore 17, 2) := by decide +kernel
theorem d_Model_divided_496 : decode b_Model_divided 496 = .ok (.iload 17, 2) := by decide +kernel
theorem d_Model_divided_498 : decode b_Model_divided 498 = .ok (.iload 4, 2) := by decide +kernel
theorem d_Model_divided_500 : decode b_Model_divided 500 = .ok (.if_icmp .ge 48, 3) := by decide +kernel
theorem d_Model_divided_503 : decode b_Model_divided 503 = .ok (.iload 16, 2) := by decide +kernel
theorem d_Model_divided_505 : decode b_Model_divided 505 = .ok (.aload_n 1, 1) := by decide +kernel
theorem d_Model_divided_506 : decode b_Model_divided 506 = .ok (.iload 7, 2) := by decide +kernel
theorem d_Model_divided_508 : decode b_Model_divided 508 = .ok (.iload 17, 2) := by decide +kernel
theorem d_Model_divided_510 : decode b_Model_divided 510 = .ok (.iadd, 1) := by decide +kernel
theorem d_Model_divided_511 : decode b_Model_divided 511 = .ok (.iaload, 1) := by decide +kernel
theorem d_Model_divided_512 : decode b_Model_divided 512 = .ok (.aload_n 0, 1) := by decide +kernel
theorem d_Model_divided_513 : decode b_Model_divided 513 = .ok (.getfield 31, 3) := by decide +kernel
theorem d_Model_divided_516 : decode b_Model_divided 516 = .ok (.iload 17, 2) := by decide +kernel
theorem d_Model_divided_518 : decode b_Model_divided 518 = .ok (.iaload, 1) := by decide +kernel
theorem d_Model_divided_519 : decode b_Model_divided 519 = .ok (.iadd, 1) := by decide +kernel
theorem d_Model_divided_520 : decode b_Model_divided 520 = .ok (.iadd, 1) := by decide +kernel
theorem d_Model_divided_521 : decode b_Model_divided 521 = .ok (.istore 16, 2) := by decide +kernel
theorem d_Model_divided_523 : decode b_Model_divided 523 = .ok (.aload_n 1, 1) := by decide +kernel
theorem d_Model_divided_524 : decode b_Model_divided 524 = .ok (.iload 7, 2) := by decide +kernel
theorem d_Model_divided_526 : decode b_Model_divided 526 = .ok (.iload 17, 2) := by decide +kernel
theorem d_Model_divided_528 : decode b_Model_divided 528 = .ok (.iadd, 1) := by decide +kernel
theorem d_Model_divided_529 : decode b_Model_divided 529 = .ok (.iload 16, 2) := by decide +kernel
theorem d_Model_divided_531 : decode b_Model_divided 531 = .ok (.ldc 148, 2) := by decide +kernel
theorem d_Model_divided_533 : decode b_Model_divided 533 = .ok (.iand, 1) := by decide +kernel
theorem d_Model_divided_534 : decode b_Model_divided 534 = .ok (.iastore, 1) := by decide +kernel
theorem d_Model_divided_535 : decode b_Model_divided 535 = .ok (.iload 16, 2) := by decide +kernel
theorem d_Model_divided_537 : decode b_Model_divided 537 = .ok (.bipush 16, 2) := by decide +kernel
theorem d_Model_divided_539 : decode b_Model_divided 539 = .ok (.ishr, 1) := by decide +kernel
theorem d_Model_divided_540 : decode b_Model_divided 540 = .ok (.istore 16, 2) := by decide +kernel
theorem d_Model_divided_542 : decode b_Model_divided 542 = .ok (.iinc 17 1, 3) := by decide +kernel
theorem d_Model_divided_545 : decode b_Model_divided 545 = .ok (.goto (-49), 3) := by decide +kernel
theorem d_Model_divided_548 : decode b_Model_divided 548 = .ok (.aload_n 1, 1) := by decide +kernel
theorem d_Model_divided_549 : decode b_Model_divided 549 = .ok (.iload 7, 2) := by decide +kernel
theorem d_Model_divided_551 : decode b_Model_divided 551 = .ok (.iload 4, 2) := by decide +kernel
theorem d_Model_divided_553 : decode b_Model_divided 553 = .ok (.iadd, 1) := by decide +kernel
theorem d_Model_divided_554 : decode b_Model_divided 554 = .ok (.aload_n 1, 1) := by decide +kernel
theorem d_Model_divided_555 : decode b_Model_divided 555 = .ok (.iload 7, 2) := by decide +kernel
theorem d_Model_divided_557 : decode b_Model_divided 557 = .ok (.iload 4, 2) := by decide +kernel
theorem d_Model_divided_559 : decode b_Model_divided 559 = .ok (.iadd, 1) := by decide +kernel
theorem d_Model_divided_560 : decode b_Model_divided 560 = .ok (.iaload, 1) := by decide +kernel
theorem d_Model_divided_561 : decode b_Model_divided 561 = .ok (.iload 16, 2) := by decide +kernel
theorem d_Model_divided_563 : decode b_Model_divided 563 = .ok (.iadd, 1) := by decide +kernel
theorem d_Model_divided_564 : decode b_Model_divided 564 = .ok (.ldc 148, 2) := by decide +kernel
theorem d_Model_divided_566 : decode b_Model_divided 566 = .ok (.iand, 1) := by decide +kernel
theorem d_Model_divided_567 : decode b_Model_divided 567 = .ok (.iastore, 1) := by decide +kernel
theorem d_Model_divided_568 : decode b_Model_divided 568 = .ok (.aload 5, 2) := by decide +kernel
theorem d_Model_divided_570 : decode b_Model_divided 570 = .ok (.iload 7, 2) := by decide +kernel
theorem d_Model_divided_572 : decode b_Model_divided 572 = .ok (.lload 10, 2) := by decide +kernel
theorem d_Model_divided_574 : decode b_Model_divided 574 = .ok (.l2i, 1) := by decide +kernel
theorem d_Model_divided_575 : decode b_Model_divided 575 = .ok (.iastore, 1) := by decide +kernel
theorem d_Model_divided_576 : decode b_Model_divided 576 = .ok (.iinc 7 (-1), 3) := by decide +kernel
theorem d_Model_divided_579 : decode b_Model_divided 579 = .ok (.goto (-328), 3) := by decide +kernel
theorem d_Model_divided_582 : decode b_Model_divided 582 = .ok (.aload_n 0, 1) := by decide +kernel
theorem d_Model_divided_583 : decode b_Model_divided 583 = .ok (.aload 5, 2) := by decide +kernel
theorem d_Model_divided_585 : decode b_Model_divided 585 = .ok (.iload_n 2, 1) := by decide +kernel
theorem d_Model_divided_586 : decode b_Model_divided 586 = .ok (.iload 4, 2) := by decide +kernel
theorem d_Model_divided_588 : decode b_Model_divided 588 = .ok (.isub, 1) := by decide +kernel
theorem d_Model_divided_589 : decode b_Model_divided 589 = .ok (.iconst 1, 1) := by decide +kernel
theorem d_Model_divided_590 : decode b_Model_divided 590 = .ok (.iadd, 1) := by decide +kernel
theorem d_Model_divided_591 : decode b_Model_divided 591 = .ok (.invokestatic 149, 3) := by decide +kernel
theorem d_Model_divided_594 : decode b_Model_divided 594 = .ok (.putfield 159, 3) := by decide +kernel
theorem d_Model_divided_597 : decode b_Model_divided 597 = .ok (.iconst 0, 1) := by decide +kernel
theorem d_Model_divided_598 : decode b_Model_divided 598 = .ok (.istore 7, 2) := by decide +kernel
theorem d_Model_divided_600 : decode b_Model_divided 600 = .ok (.iload 7, 2) := by decide +kernel
theorem d_Model_divided_602 : decode b_Model_divided 602 = .ok (.iload 4, 2) := by decide +kernel
theorem d_Model_divided_604 : decode b_Model_divided 604 = .ok (.if_icmp .ge 49, 3) := by decide +kernel
theorem d_Model_divided_607 : decode b_Model_divided 607 = .ok (.aload_n 1, 1) := by decide +kernel
theorem d_Model_divided_608 : decode b_Model_divided 608 = .ok (.iload 7, 2) := by decide +kernel
theorem d_Model_divided_610 : decode b_Model_divided 610 = .ok (.aload_n 1, 1) := by decide +kernel
theorem d_Model_divided_611 : decode b_Model_divided 611 = .ok (.iload 7, 2) := by decide +kernel
theorem d_Model_divided_613 : decode b_Model_divided 613 = .ok (.iaload, 1) := by decide +kernel
theorem d_Model_divided_614 : decode b_Model_divided 614 = .ok (.iload 6, 2) := by decide +kernel
theorem d_Model_divided_616 : decode b_Model_divided 616 = .ok (.ishr, 1) := by decide +kernel
theorem d_Model_divided_617 : decode b_Model_divided 617 = .ok (.iload 7, 2) := by decide +kernel
theorem d_Model_divided_619 : decode b_Model_divided 619 = .ok (.iconst 1, 1) := by decide +kernel
theorem d_Model_divided_620 : decode b_Model_divided 620 = .ok (.iadd, 1) := by decide +kernel
theorem d_Model_divided_621 : decode b_Model_divided 621 = .ok (.iload 4, 2) := by decide +kernel
theorem d_Model_divided_623 : decode b_Model_divided 623 = .ok (.if_icmp .gt 18, 3) := by decide +kernel
theorem d_Model_divided_626 : decode b_Model_divided 626 = .ok (.aload_n 1, 1) := by decide +kernel
theorem d_Model_divided_627 : decode b_Model_divided 627 = .ok (.iload 7, 2) := by decide +kernel
theorem d_Model_divided_629 : decode b_Model_divided 629 = .ok (.iconst 1, 1) := by decide +kernel
theorem d_Model_divided_630 : decode b_Model_divided 630 = .ok (.iadd, 1) := by decide +kernel
theorem d_Model_divided_631 : decode b_Model_divided 631 = .ok (.iaload, 1) := by decide +kernel
theorem d_Model_divided_632 : decode b_Model_divided 632 = .ok (.bipush 16, 2) := by decide +kernel
theorem d_Model_divided_634 : decode b_Model_divided 634 = .ok (.iload 6, 2) := by decide +kernel
theorem d_Model_divided_636 : decode b_Model_divided 636 = .ok (.isub, 1) := by decide +kernel
theorem d_Model_divided_637 : decode b_Model_divided 637 = .ok (.ishl, 1) := by decide +kernel
theorem d_Model_divided_638 : decode b_Model_divided 638 = .ok (.goto 4, 3) := by decide +kernel
theorem d_Model_divided_642 : decode b_Model_divided 642 = .ok (.ior, 1) := by decide +kernel
theorem d_Model_divided_643 : decode b_Model_divided 643 = .ok (.ldc 148, 2) := by decide +kernel
theorem d_Model_divided_645 : decode b_Model_divided 645 = .ok (.iand, 1) := by decide +kernel
theorem d_Model_divided_646 : decode b_Model_divided 646 = .ok (.iastore, 1) := by decide +kernel
theorem d_Model_divided_647 : decode b_Model_divided 647 = .ok (.iinc 7 1, 3) := by decide +kernel
theorem d_Model_divided_650 : decode b_Model_divided 650 = .ok (.goto (-50), 3) := by decide +kernel
theorem d_Model_divided_653 : decode b_Model_divided 653 = .ok (.aload_n 1, 1) := by decide +kernel
theorem d_Model_divided_654 : decode b_Model_divided 654 = .ok (.iload 4, 2) := by decide +kernel
theorem d_Model_divided_656 : decode b_Model_divided 656 = .ok (.invokestatic 149, 3) := by decide +kernel
theorem d_Model_divided_659 : decode b_Model_divided 659 = .ok (.ireturn, 1) := by decide +kernel
