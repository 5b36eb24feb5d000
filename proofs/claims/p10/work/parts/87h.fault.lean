/-! The reference's faultOf and judged return. -/
theorem jD_sub2 {k : Nat} (h : 1 ≤ k) : nI k - 2 = jD (k - 1) := by
  rcases k with _ | k
  · omega
  · rw [Nat.add_sub_cancel]
    rw [show nI (k + 1) - 2 = nI k - 1 from by
      rw [← nI_add, Int32.sub_eq_add_neg, Int32.add_assoc, show nI 1 + -(2 : Int32) = -1 from by decide, Int32.sub_eq_add_neg]]
    exact jD_dec' k
def y_Model_faultOf : MethodName := ⟨"TrustChainModel", "faultOf", "(I)I"⟩
abbrev b_Model_faultOf : ByteArray := prog_14_method_35_code
def w_Model_faultOf : List Cond := Cond.code y_Model_faultOf b_Model_faultOf 9 ((some FieldType.int)) :: tb
theorem d_Model_faultOf_0 : decode b_Model_faultOf 0 = .ok (.aload_n 0, 1) := by decide +kernel
theorem d_Model_faultOf_1 : decode b_Model_faultOf 1 = .ok (.getfield 19, 3) := by decide +kernel
theorem d_Model_faultOf_4 : decode b_Model_faultOf 4 = .ok (.aload_n 0, 1) := by decide +kernel
theorem d_Model_faultOf_5 : decode b_Model_faultOf 5 = .ok (.getfield 136, 3) := by decide +kernel
theorem d_Model_faultOf_8 : decode b_Model_faultOf 8 = .ok (.iload_n 1, 1) := by decide +kernel
theorem d_Model_faultOf_9 : decode b_Model_faultOf 9 = .ok (.iaload, 1) := by decide +kernel
theorem d_Model_faultOf_10 : decode b_Model_faultOf 10 = .ok (.aaload, 1) := by decide +kernel
theorem d_Model_faultOf_11 : decode b_Model_faultOf 11 = .ok (.astore_n 2, 1) := by decide +kernel
theorem d_Model_faultOf_12 : decode b_Model_faultOf 12 = .ok (.aload_n 0, 1) := by decide +kernel
theorem d_Model_faultOf_13 : decode b_Model_faultOf 13 = .ok (.getfield 19, 3) := by decide +kernel
theorem d_Model_faultOf_16 : decode b_Model_faultOf 16 = .ok (.aload_n 0, 1) := by decide +kernel
theorem d_Model_faultOf_17 : decode b_Model_faultOf 17 = .ok (.getfield 136, 3) := by decide +kernel
theorem d_Model_faultOf_20 : decode b_Model_faultOf 20 = .ok (.iload_n 1, 1) := by decide +kernel
theorem d_Model_faultOf_21 : decode b_Model_faultOf 21 = .ok (.iconst 1, 1) := by decide +kernel
theorem d_Model_faultOf_22 : decode b_Model_faultOf 22 = .ok (.iadd, 1) := by decide +kernel
theorem d_Model_faultOf_23 : decode b_Model_faultOf 23 = .ok (.iaload, 1) := by decide +kernel
theorem d_Model_faultOf_24 : decode b_Model_faultOf 24 = .ok (.aaload, 1) := by decide +kernel
theorem d_Model_faultOf_25 : decode b_Model_faultOf 25 = .ok (.astore_n 3, 1) := by decide +kernel
theorem d_Model_faultOf_26 : decode b_Model_faultOf 26 = .ok (.aload_n 0, 1) := by decide +kernel
theorem d_Model_faultOf_27 : decode b_Model_faultOf 27 = .ok (.aload_n 2, 1) := by decide +kernel
theorem d_Model_faultOf_28 : decode b_Model_faultOf 28 = .ok (.aload_n 3, 1) := by decide +kernel
theorem d_Model_faultOf_29 : decode b_Model_faultOf 29 = .ok (.invokevirtual 308, 3) := by decide +kernel
theorem d_Model_faultOf_32 : decode b_Model_faultOf 32 = .ok (.ifCond .ne 5, 3) := by decide +kernel
theorem d_Model_faultOf_35 : decode b_Model_faultOf 35 = .ok (.iconst 1, 1) := by decide +kernel
theorem d_Model_faultOf_36 : decode b_Model_faultOf 36 = .ok (.ireturn, 1) := by decide +kernel
theorem d_Model_faultOf_37 : decode b_Model_faultOf 37 = .ok (.aload_n 0, 1) := by decide +kernel
theorem d_Model_faultOf_38 : decode b_Model_faultOf 38 = .ok (.getfield 312, 3) := by decide +kernel
theorem d_Model_faultOf_41 : decode b_Model_faultOf 41 = .ok (.aload_n 2, 1) := by decide +kernel
theorem d_Model_faultOf_42 : decode b_Model_faultOf 42 = .ok (.getfield 213, 3) := by decide +kernel
theorem d_Model_faultOf_45 : decode b_Model_faultOf 45 = .ok (.lcmp, 1) := by decide +kernel
theorem d_Model_faultOf_46 : decode b_Model_faultOf 46 = .ok (.ifCond .lt 15, 3) := by decide +kernel
theorem d_Model_faultOf_49 : decode b_Model_faultOf 49 = .ok (.aload_n 0, 1) := by decide +kernel
theorem d_Model_faultOf_50 : decode b_Model_faultOf 50 = .ok (.getfield 312, 3) := by decide +kernel
theorem d_Model_faultOf_53 : decode b_Model_faultOf 53 = .ok (.aload_n 2, 1) := by decide +kernel
theorem d_Model_faultOf_54 : decode b_Model_faultOf 54 = .ok (.getfield 217, 3) := by decide +kernel
theorem d_Model_faultOf_57 : decode b_Model_faultOf 57 = .ok (.lcmp, 1) := by decide +kernel
theorem d_Model_faultOf_58 : decode b_Model_faultOf 58 = .ok (.ifCond .le 5, 3) := by decide +kernel
theorem d_Model_faultOf_61 : decode b_Model_faultOf 61 = .ok (.iconst 2, 1) := by decide +kernel
theorem d_Model_faultOf_62 : decode b_Model_faultOf 62 = .ok (.ireturn, 1) := by decide +kernel
theorem d_Model_faultOf_63 : decode b_Model_faultOf 63 = .ok (.iconst 0, 1) := by decide +kernel
theorem d_Model_faultOf_64 : decode b_Model_faultOf 64 = .ok (.istore 4, 2) := by decide +kernel
theorem d_Model_faultOf_66 : decode b_Model_faultOf 66 = .ok (.iconst 0, 1) := by decide +kernel
theorem d_Model_faultOf_67 : decode b_Model_faultOf 67 = .ok (.istore 5, 2) := by decide +kernel
theorem d_Model_faultOf_69 : decode b_Model_faultOf 69 = .ok (.iload 5, 2) := by decide +kernel
theorem d_Model_faultOf_71 : decode b_Model_faultOf 71 = .ok (.aload_n 0, 1) := by decide +kernel
theorem d_Model_faultOf_72 : decode b_Model_faultOf 72 = .ok (.getfield 180, 3) := by decide +kernel
theorem d_Model_faultOf_75 : decode b_Model_faultOf 75 = .ok (.if_icmp .ge 168, 3) := by decide +kernel
theorem d_Model_faultOf_78 : decode b_Model_faultOf 78 = .ok (.aload_n 0, 1) := by decide +kernel
theorem d_Model_faultOf_79 : decode b_Model_faultOf 79 = .ok (.getfield 23, 3) := by decide +kernel
theorem d_Model_faultOf_82 : decode b_Model_faultOf 82 = .ok (.iload 5, 2) := by decide +kernel
theorem d_Model_faultOf_84 : decode b_Model_faultOf 84 = .ok (.aaload, 1) := by decide +kernel
theorem d_Model_faultOf_85 : decode b_Model_faultOf 85 = .ok (.astore 6, 2) := by decide +kernel
theorem d_Model_faultOf_87 : decode b_Model_faultOf 87 = .ok (.aload 6, 2) := by decide +kernel
theorem d_Model_faultOf_89 : decode b_Model_faultOf 89 = .ok (.aload 6, 2) := by decide +kernel
theorem d_Model_faultOf_91 : decode b_Model_faultOf 91 = .ok (.getfield 353, 3) := by decide +kernel
theorem d_Model_faultOf_94 : decode b_Model_faultOf 94 = .ok (.aload 6, 2) := by decide +kernel
theorem d_Model_faultOf_96 : decode b_Model_faultOf 96 = .ok (.getfield 356, 3) := by decide +kernel
theorem d_Model_faultOf_99 : decode b_Model_faultOf 99 = .ok (.aload_n 2, 1) := by decide +kernel
theorem d_Model_faultOf_100 : decode b_Model_faultOf 100 = .ok (.aload_n 2, 1) := by decide +kernel
theorem d_Model_faultOf_101 : decode b_Model_faultOf 101 = .ok (.getfield 353, 3) := by decide +kernel
theorem d_Model_faultOf_104 : decode b_Model_faultOf 104 = .ok (.aload_n 2, 1) := by decide +kernel
theorem d_Model_faultOf_105 : decode b_Model_faultOf 105 = .ok (.getfield 356, 3) := by decide +kernel
theorem d_Model_faultOf_108 : decode b_Model_faultOf 108 = .ok (.invokevirtual 359, 3) := by decide +kernel
theorem d_Model_faultOf_111 : decode b_Model_faultOf 111 = .ok (.ifCond .eq 126, 3) := by decide +kernel
theorem d_Model_faultOf_114 : decode b_Model_faultOf 114 = .ok (.aload_n 3, 1) := by decide +kernel
theorem d_Model_faultOf_115 : decode b_Model_faultOf 115 = .ok (.getfield 234, 3) := by decide +kernel
theorem d_Model_faultOf_118 : decode b_Model_faultOf 118 = .ok (.ifCond .lt 15, 3) := by decide +kernel
theorem d_Model_faultOf_121 : decode b_Model_faultOf 121 = .ok (.aload_n 3, 1) := by decide +kernel
theorem d_Model_faultOf_122 : decode b_Model_faultOf 122 = .ok (.getfield 234, 3) := by decide +kernel
theorem d_Model_faultOf_125 : decode b_Model_faultOf 125 = .ok (.bipush 6, 2) := by decide +kernel
theorem d_Model_faultOf_127 : decode b_Model_faultOf 127 = .ok (.ishr, 1) := by decide +kernel
theorem d_Model_faultOf_128 : decode b_Model_faultOf 128 = .ok (.iconst 1, 1) := by decide +kernel
theorem d_Model_faultOf_129 : decode b_Model_faultOf 129 = .ok (.iand, 1) := by decide +kernel
theorem d_Model_faultOf_130 : decode b_Model_faultOf 130 = .ok (.ifCond .eq 107, 3) := by decide +kernel
theorem d_Model_faultOf_133 : decode b_Model_faultOf 133 = .ok (.aload_n 0, 1) := by decide +kernel
theorem d_Model_faultOf_134 : decode b_Model_faultOf 134 = .ok (.getfield 312, 3) := by decide +kernel
theorem d_Model_faultOf_137 : decode b_Model_faultOf 137 = .ok (.aload 6, 2) := by decide +kernel
theorem d_Model_faultOf_139 : decode b_Model_faultOf 139 = .ok (.getfield 213, 3) := by decide +kernel
theorem d_Model_faultOf_142 : decode b_Model_faultOf 142 = .ok (.lcmp, 1) := by decide +kernel
theorem d_Model_faultOf_143 : decode b_Model_faultOf 143 = .ok (.ifCond .lt 94, 3) := by decide +kernel
theorem d_Model_faultOf_146 : decode b_Model_faultOf 146 = .ok (.aload_n 0, 1) := by decide +kernel
theorem d_Model_faultOf_147 : decode b_Model_faultOf 147 = .ok (.getfield 312, 3) := by decide +kernel
theorem d_Model_faultOf_150 : decode b_Model_faultOf 150 = .ok (.aload 6, 2) := by decide +kernel
theorem d_Model_faultOf_152 : decode b_Model_faultOf 152 = .ok (.getfield 217, 3) := by decide +kernel
theorem d_Model_faultOf_155 : decode b_Model_faultOf 155 = .ok (.lcmp, 1) := by decide +kernel
theorem d_Model_faultOf_156 : decode b_Model_faultOf 156 = .ok (.ifCond .gt 81, 3) := by decide +kernel
theorem d_Model_faultOf_159 : decode b_Model_faultOf 159 = .ok (.aload 6, 2) := by decide +kernel
theorem d_Model_faultOf_161 : decode b_Model_faultOf 161 = .ok (.getfield 246, 3) := by decide +kernel
theorem d_Model_faultOf_164 : decode b_Model_faultOf 164 = .ok (.ifCond .gt 73, 3) := by decide +kernel
theorem d_Model_faultOf_167 : decode b_Model_faultOf 167 = .ok (.aload_n 0, 1) := by decide +kernel
theorem d_Model_faultOf_168 : decode b_Model_faultOf 168 = .ok (.aload 6, 2) := by decide +kernel
theorem d_Model_faultOf_170 : decode b_Model_faultOf 170 = .ok (.aload_n 3, 1) := by decide +kernel
theorem d_Model_faultOf_171 : decode b_Model_faultOf 171 = .ok (.invokevirtual 308, 3) := by decide +kernel
theorem d_Model_faultOf_174 : decode b_Model_faultOf 174 = .ok (.ifCond .ne 6, 3) := by decide +kernel
theorem d_Model_faultOf_177 : decode b_Model_faultOf 177 = .ok (.goto 60, 3) := by decide +kernel
theorem d_Model_faultOf_180 : decode b_Model_faultOf 180 = .ok (.iconst 1, 1) := by decide +kernel
theorem d_Model_faultOf_181 : decode b_Model_faultOf 181 = .ok (.istore 4, 2) := by decide +kernel
theorem d_Model_faultOf_183 : decode b_Model_faultOf 183 = .ok (.iconst 0, 1) := by decide +kernel
theorem d_Model_faultOf_184 : decode b_Model_faultOf 184 = .ok (.istore 7, 2) := by decide +kernel
theorem d_Model_faultOf_186 : decode b_Model_faultOf 186 = .ok (.iload 7, 2) := by decide +kernel
theorem d_Model_faultOf_188 : decode b_Model_faultOf 188 = .ok (.aload 6, 2) := by decide +kernel
theorem d_Model_faultOf_190 : decode b_Model_faultOf 190 = .ok (.getfield 255, 3) := by decide +kernel
theorem d_Model_faultOf_193 : decode b_Model_faultOf 193 = .ok (.if_icmp .ge 44, 3) := by decide +kernel
theorem d_Model_faultOf_196 : decode b_Model_faultOf 196 = .ok (.aload 6, 2) := by decide +kernel
theorem d_Model_faultOf_198 : decode b_Model_faultOf 198 = .ok (.aload 6, 2) := by decide +kernel
theorem d_Model_faultOf_200 : decode b_Model_faultOf 200 = .ok (.getfield 378, 3) := by decide +kernel
theorem d_Model_faultOf_203 : decode b_Model_faultOf 203 = .ok (.iload 7, 2) := by decide +kernel
theorem d_Model_faultOf_205 : decode b_Model_faultOf 205 = .ok (.iaload, 1) := by decide +kernel
theorem d_Model_faultOf_206 : decode b_Model_faultOf 206 = .ok (.aload 6, 2) := by decide +kernel
theorem d_Model_faultOf_208 : decode b_Model_faultOf 208 = .ok (.getfield 381, 3) := by decide +kernel
theorem d_Model_faultOf_211 : decode b_Model_faultOf 211 = .ok (.iload 7, 2) := by decide +kernel
theorem d_Model_faultOf_213 : decode b_Model_faultOf 213 = .ok (.iaload, 1) := by decide +kernel
theorem d_Model_faultOf_214 : decode b_Model_faultOf 214 = .ok (.aload_n 2, 1) := by decide +kernel
theorem d_Model_faultOf_215 : decode b_Model_faultOf 215 = .ok (.aload_n 2, 1) := by decide +kernel
theorem d_Model_faultOf_216 : decode b_Model_faultOf 216 = .ok (.getfield 252, 3) := by decide +kernel
theorem d_Model_faultOf_219 : decode b_Model_faultOf 219 = .ok (.aload_n 2, 1) := by decide +kernel
theorem d_Model_faultOf_220 : decode b_Model_faultOf 220 = .ok (.getfield 249, 3) := by decide +kernel
theorem d_Model_faultOf_223 : decode b_Model_faultOf 223 = .ok (.invokevirtual 359, 3) := by decide +kernel
theorem d_Model_faultOf_226 : decode b_Model_faultOf 226 = .ok (.ifCond .eq 5, 3) := by decide +kernel
theorem d_Model_faultOf_229 : decode b_Model_faultOf 229 = .ok (.iconst 3, 1) := by decide +kernel
theorem d_Model_faultOf_230 : decode b_Model_faultOf 230 = .ok (.ireturn, 1) := by decide +kernel
theorem d_Model_faultOf_231 : decode b_Model_faultOf 231 = .ok (.iinc 7 1, 3) := by decide +kernel
theorem d_Model_faultOf_234 : decode b_Model_faultOf 234 = .ok (.goto (-48), 3) := by decide +kernel
theorem d_Model_faultOf_237 : decode b_Model_faultOf 237 = .ok (.iinc 5 1, 3) := by decide +kernel
theorem d_Model_faultOf_240 : decode b_Model_faultOf 240 = .ok (.goto (-171), 3) := by decide +kernel
theorem d_Model_faultOf_243 : decode b_Model_faultOf 243 = .ok (.aload_n 0, 1) := by decide +kernel
theorem d_Model_faultOf_244 : decode b_Model_faultOf 244 = .ok (.getfield 318, 3) := by decide +kernel
theorem d_Model_faultOf_247 : decode b_Model_faultOf 247 = .ok (.ifCond .eq 10, 3) := by decide +kernel
theorem d_Model_faultOf_250 : decode b_Model_faultOf 250 = .ok (.iload 4, 2) := by decide +kernel
theorem d_Model_faultOf_252 : decode b_Model_faultOf 252 = .ok (.ifCond .ne 5, 3) := by decide +kernel
theorem d_Model_faultOf_255 : decode b_Model_faultOf 255 = .ok (.iconst 4, 1) := by decide +kernel
theorem d_Model_faultOf_256 : decode b_Model_faultOf 256 = .ok (.ireturn, 1) := by decide +kernel
theorem d_Model_faultOf_257 : decode b_Model_faultOf 257 = .ok (.iload_n 1, 1) := by decide +kernel
theorem d_Model_faultOf_258 : decode b_Model_faultOf 258 = .ok (.ifCond .eq 10, 3) := by decide +kernel
theorem d_Model_faultOf_261 : decode b_Model_faultOf 261 = .ok (.aload_n 2, 1) := by decide +kernel
theorem d_Model_faultOf_262 : decode b_Model_faultOf 262 = .ok (.invokevirtual 384, 3) := by decide +kernel
theorem d_Model_faultOf_265 : decode b_Model_faultOf 265 = .ok (.ifCond .ne 14, 3) := by decide +kernel
theorem d_Model_faultOf_268 : decode b_Model_faultOf 268 = .ok (.aload_n 0, 1) := by decide +kernel
theorem d_Model_faultOf_269 : decode b_Model_faultOf 269 = .ok (.aload_n 2, 1) := by decide +kernel
theorem d_Model_faultOf_270 : decode b_Model_faultOf 270 = .ok (.iload_n 1, 1) := by decide +kernel
theorem d_Model_faultOf_271 : decode b_Model_faultOf 271 = .ok (.invokevirtual 387, 3) := by decide +kernel
theorem d_Model_faultOf_274 : decode b_Model_faultOf 274 = .ok (.ifCond .ne 5, 3) := by decide +kernel
theorem d_Model_faultOf_277 : decode b_Model_faultOf 277 = .ok (.iconst 5, 1) := by decide +kernel
theorem d_Model_faultOf_278 : decode b_Model_faultOf 278 = .ok (.ireturn, 1) := by decide +kernel
theorem d_Model_faultOf_279 : decode b_Model_faultOf 279 = .ok (.aload_n 2, 1) := by decide +kernel
theorem d_Model_faultOf_280 : decode b_Model_faultOf 280 = .ok (.getfield 246, 3) := by decide +kernel
theorem d_Model_faultOf_283 : decode b_Model_faultOf 283 = .ok (.ifCond .le 6, 3) := by decide +kernel
theorem d_Model_faultOf_286 : decode b_Model_faultOf 286 = .ok (.bipush 6, 2) := by decide +kernel
theorem d_Model_faultOf_288 : decode b_Model_faultOf 288 = .ok (.ireturn, 1) := by decide +kernel
theorem d_Model_faultOf_289 : decode b_Model_faultOf 289 = .ok (.iload_n 1, 1) := by decide +kernel
theorem d_Model_faultOf_290 : decode b_Model_faultOf 290 = .ok (.ifCond .ne 5, 3) := by decide +kernel
theorem d_Model_faultOf_293 : decode b_Model_faultOf 293 = .ok (.iconst 0, 1) := by decide +kernel
theorem d_Model_faultOf_294 : decode b_Model_faultOf 294 = .ok (.ireturn, 1) := by decide +kernel
theorem d_Model_faultOf_295 : decode b_Model_faultOf 295 = .ok (.aload_n 2, 1) := by decide +kernel
theorem d_Model_faultOf_296 : decode b_Model_faultOf 296 = .ok (.getfield 229, 3) := by decide +kernel
theorem d_Model_faultOf_299 : decode b_Model_faultOf 299 = .ok (.ifCond .ne 6, 3) := by decide +kernel
theorem d_Model_faultOf_302 : decode b_Model_faultOf 302 = .ok (.bipush 7, 2) := by decide +kernel
theorem d_Model_faultOf_304 : decode b_Model_faultOf 304 = .ok (.ireturn, 1) := by decide +kernel
theorem d_Model_faultOf_305 : decode b_Model_faultOf 305 = .ok (.iload_n 1, 1) := by decide +kernel
theorem d_Model_faultOf_306 : decode b_Model_faultOf 306 = .ok (.iconst 1, 1) := by decide +kernel
theorem d_Model_faultOf_307 : decode b_Model_faultOf 307 = .ok (.iadd, 1) := by decide +kernel
theorem d_Model_faultOf_308 : decode b_Model_faultOf 308 = .ok (.istore 5, 2) := by decide +kernel
theorem d_Model_faultOf_310 : decode b_Model_faultOf 310 = .ok (.iload 5, 2) := by decide +kernel
theorem d_Model_faultOf_312 : decode b_Model_faultOf 312 = .ok (.aload_n 0, 1) := by decide +kernel
theorem d_Model_faultOf_313 : decode b_Model_faultOf 313 = .ok (.getfield 333, 3) := by decide +kernel
theorem d_Model_faultOf_316 : decode b_Model_faultOf 316 = .ok (.iconst 1, 1) := by decide +kernel
theorem d_Model_faultOf_317 : decode b_Model_faultOf 317 = .ok (.isub, 1) := by decide +kernel
theorem d_Model_faultOf_318 : decode b_Model_faultOf 318 = .ok (.if_icmp .ge 84, 3) := by decide +kernel
theorem d_Model_faultOf_321 : decode b_Model_faultOf 321 = .ok (.aload_n 0, 1) := by decide +kernel
theorem d_Model_faultOf_322 : decode b_Model_faultOf 322 = .ok (.getfield 19, 3) := by decide +kernel
theorem d_Model_faultOf_325 : decode b_Model_faultOf 325 = .ok (.aload_n 0, 1) := by decide +kernel
theorem d_Model_faultOf_326 : decode b_Model_faultOf 326 = .ok (.getfield 136, 3) := by decide +kernel
theorem d_Model_faultOf_329 : decode b_Model_faultOf 329 = .ok (.iload 5, 2) := by decide +kernel
theorem d_Model_faultOf_331 : decode b_Model_faultOf 331 = .ok (.iaload, 1) := by decide +kernel
theorem d_Model_faultOf_332 : decode b_Model_faultOf 332 = .ok (.aaload, 1) := by decide +kernel
theorem d_Model_faultOf_333 : decode b_Model_faultOf 333 = .ok (.astore 6, 2) := by decide +kernel
theorem d_Model_faultOf_335 : decode b_Model_faultOf 335 = .ok (.iconst 0, 1) := by decide +kernel
theorem d_Model_faultOf_336 : decode b_Model_faultOf 336 = .ok (.istore 7, 2) := by decide +kernel
theorem d_Model_faultOf_338 : decode b_Model_faultOf 338 = .ok (.iload_n 1, 1) := by decide +kernel
theorem d_Model_faultOf_339 : decode b_Model_faultOf 339 = .ok (.istore 8, 2) := by decide +kernel
theorem d_Model_faultOf_341 : decode b_Model_faultOf 341 = .ok (.iload 8, 2) := by decide +kernel
theorem d_Model_faultOf_343 : decode b_Model_faultOf 343 = .ok (.iload 5, 2) := by decide +kernel
theorem d_Model_faultOf_345 : decode b_Model_faultOf 345 = .ok (.if_icmp .ge 30, 3) := by decide +kernel
theorem d_Model_faultOf_348 : decode b_Model_faultOf 348 = .ok (.aload_n 0, 1) := by decide +kernel
theorem d_Model_faultOf_349 : decode b_Model_faultOf 349 = .ok (.getfield 19, 3) := by decide +kernel
theorem d_Model_faultOf_352 : decode b_Model_faultOf 352 = .ok (.aload_n 0, 1) := by decide +kernel
theorem d_Model_faultOf_353 : decode b_Model_faultOf 353 = .ok (.getfield 136, 3) := by decide +kernel
theorem d_Model_faultOf_356 : decode b_Model_faultOf 356 = .ok (.iload 8, 2) := by decide +kernel
theorem d_Model_faultOf_358 : decode b_Model_faultOf 358 = .ok (.iaload, 1) := by decide +kernel
theorem d_Model_faultOf_359 : decode b_Model_faultOf 359 = .ok (.aaload, 1) := by decide +kernel
theorem d_Model_faultOf_360 : decode b_Model_faultOf 360 = .ok (.invokevirtual 384, 3) := by decide +kernel
theorem d_Model_faultOf_363 : decode b_Model_faultOf 363 = .ok (.ifCond .ne 6, 3) := by decide +kernel
theorem d_Model_faultOf_366 : decode b_Model_faultOf 366 = .ok (.iinc 7 1, 3) := by decide +kernel
theorem d_Model_faultOf_369 : decode b_Model_faultOf 369 = .ok (.iinc 8 1, 3) := by decide +kernel
theorem d_Model_faultOf_372 : decode b_Model_faultOf 372 = .ok (.goto (-31), 3) := by decide +kernel
theorem d_Model_faultOf_375 : decode b_Model_faultOf 375 = .ok (.aload 6, 2) := by decide +kernel
theorem d_Model_faultOf_377 : decode b_Model_faultOf 377 = .ok (.getfield 232, 3) := by decide +kernel
theorem d_Model_faultOf_380 : decode b_Model_faultOf 380 = .ok (.ifCond .lt 16, 3) := by decide +kernel
theorem d_Model_faultOf_383 : decode b_Model_faultOf 383 = .ok (.aload 6, 2) := by decide +kernel
theorem d_Model_faultOf_385 : decode b_Model_faultOf 385 = .ok (.getfield 232, 3) := by decide +kernel
theorem d_Model_faultOf_388 : decode b_Model_faultOf 388 = .ok (.iload 7, 2) := by decide +kernel
theorem d_Model_faultOf_390 : decode b_Model_faultOf 390 = .ok (.if_icmp .ge 6, 3) := by decide +kernel
theorem d_Model_faultOf_393 : decode b_Model_faultOf 393 = .ok (.bipush 8, 2) := by decide +kernel
theorem d_Model_faultOf_395 : decode b_Model_faultOf 395 = .ok (.ireturn, 1) := by decide +kernel
theorem d_Model_faultOf_396 : decode b_Model_faultOf 396 = .ok (.iinc 5 1, 3) := by decide +kernel
theorem d_Model_faultOf_399 : decode b_Model_faultOf 399 = .ok (.goto (-89), 3) := by decide +kernel
theorem d_Model_faultOf_402 : decode b_Model_faultOf 402 = .ok (.aload_n 2, 1) := by decide +kernel
theorem d_Model_faultOf_403 : decode b_Model_faultOf 403 = .ok (.getfield 234, 3) := by decide +kernel
theorem d_Model_faultOf_406 : decode b_Model_faultOf 406 = .ok (.ifCond .lt 19, 3) := by decide +kernel
theorem d_Model_faultOf_409 : decode b_Model_faultOf 409 = .ok (.aload_n 2, 1) := by decide +kernel
theorem d_Model_faultOf_410 : decode b_Model_faultOf 410 = .ok (.getfield 234, 3) := by decide +kernel
theorem d_Model_faultOf_413 : decode b_Model_faultOf 413 = .ok (.iconst 5, 1) := by decide +kernel
theorem d_Model_faultOf_414 : decode b_Model_faultOf 414 = .ok (.ishr, 1) := by decide +kernel
theorem d_Model_faultOf_415 : decode b_Model_faultOf 415 = .ok (.iconst 1, 1) := by decide +kernel
theorem d_Model_faultOf_416 : decode b_Model_faultOf 416 = .ok (.iand, 1) := by decide +kernel
theorem d_Model_faultOf_417 : decode b_Model_faultOf 417 = .ok (.ifCond .ne 8, 3) := by decide +kernel
theorem d_Model_faultOf_420 : decode b_Model_faultOf 420 = .ok (.bipush 9, 2) := by decide +kernel
theorem d_Model_faultOf_422 : decode b_Model_faultOf 422 = .ok (.goto 4, 3) := by decide +kernel
theorem d_Model_faultOf_425 : decode b_Model_faultOf 425 = .ok (.iconst 0, 1) := by decide +kernel
theorem d_Model_faultOf_426 : decode b_Model_faultOf 426 = .ok (.ireturn, 1) := by decide +kernel
set_option maxHeartbeats 4000000 in
set_option maxRecDepth 100000 in
theorem m_Model_faultOf (l : Launch) (dC : Nat → ClassId) (dI : Nat → Nat → Nat) (sb : sB) (γ : cG) (κ : kE) (Ad : List Nat) (τ : Nat → TD) (gT : ClassId) (G : va_W) (mo : Nat) (moc msT mrV msP mrA mbA mwA mhA mfA mpA mxA myA mmA mqA mzA mwy mfd : Nat) (mer mfed mwr mqs mch mft mpt mdp mvd mmk : Int32) (mnw : Int64) (s9 K9 KL c9 : Nat) (fm fr fw : Nat → Int32) (fS fV : Nat → Option Nat) (i9 : Nat) (sz : Nat) (hTy : TR γ κ Ad τ G) (kmo : Xc Ad mo (.inr (12, (.int mer :: .int mfed :: .int mwr :: .int (nI K9) :: .int (nI KL) :: .ref moc :: .ref msT :: .ref mrV :: .ref msP :: .int mqs :: .ref mrA :: .ref mbA :: .ref mwA :: .ref mhA :: .ref mfA :: .ref mpA :: .ref mxA :: .ref myA :: .ref mmA :: .ref mqA :: .ref mzA :: .ref mwy :: .ref mfd :: .int (nI s9) :: .int (nI c9) :: .int mch :: .int mft :: .int mpt :: .int mdp :: .int mvd :: .long mnw :: .int mmk :: []))) G) (kmmA : Xc Ad mmA (.inl (γ.2.1, 600, .inl fm)) G) (kmrA : Xc Ad mrA (.inl (γ.2.1, 600, .inl fr)) G) (kmwy : Xc Ad mwy (.inl (γ.2.1, 16, .inl fw)) G) (kmsT : Xc Ad msT (.inl (gT, 16, .inr (.inr (.inr (.inr fS))))) G) (kmrV : Xc Ad mrV (.inl (gT, 8, .inr (.inr (.inr (.inr fV))))) G) (kmzA : tK κ Ad mzA (6, 600, 6)) (kmqA : tK κ Ad mqA (6, 600, 4)) (kmyA : tK κ Ad myA (6, 600, 5)) (kmxA : tK κ Ad mxA (6, 600, 3)) (kmbA : tK κ Ad mbA (6, 2176, 0)) (kmwA : tK κ Ad mwA (6, 64, 0)) (kmhA : tK κ Ad mhA (6, 8, 0)) (kmpA : tK κ Ad mpA (6, 64, 2)) (kmfA : tK κ Ad mfA (6, 8, 1)) (hx_mo_mmA : mo ≠ mmA) (hx_mo_mrA : mo ≠ mrA) (hx_mo_mwy : mo ≠ mwy) (hx_mo_msT : mo ≠ msT) (hx_mo_mrV : mo ≠ mrV) (hx_mmA_mrA : mmA ≠ mrA) (hx_mmA_mwy : mmA ≠ mwy) (hx_mmA_msT : mmA ≠ msT) (hx_mmA_mrV : mmA ≠ mrV) (hx_mrA_mwy : mrA ≠ mwy) (hx_mrA_msT : mrA ≠ msT) (hx_mrA_mrV : mrA ≠ mrV) (hx_mwy_msT : mwy ≠ msT) (hx_mwy_mrV : mwy ≠ mrV) (hx_msT_mrV : msT ≠ mrV) (hst : STc κ Ad τ K9 fS) (hrv : STl κ Ad τ KL fV) (hway : ∀ j, j < s9 → ∃ c, c < K9 ∧ fw j = nI c) (hK9 : K9 ≤ 16) (hKL : KL ≤ 8) (hs9 : s9 ≤ 16) (hfm : bR fm) (hfr : bR fr) (hi9 : i9 + 2 ≤ s9) : Met l y_Model_faultOf w_Model_faultOf ({ frames := 6, cells := 0, slots := 0, locals := 139 }) (mu_P [.ref mo, .int (nI i9)] (dC, dI) sb G [(γ.1, .byte), (γ.2.1, .int), (γ.2.2.1, .long), (γ.2.2.2, .object "java/lang/Object"), (gT, .object "TrustChainModel$Text")] sz) (va_Qi (fun r (G' : va_W) => TR γ κ Ad τ G' ∧ FL Ad [mo, mmA, mrA] G G' ∧ ((∃ q9 : Int32, Xc Ad mo (.inr (12, (.int mer :: .int mfed :: .int mwr :: .int (nI K9) :: .int (nI KL) :: .ref moc :: .ref msT :: .ref mrV :: .ref msP :: .int q9 :: .ref mrA :: .ref mbA :: .ref mwA :: .ref mhA :: .ref mfA :: .ref mpA :: .ref mxA :: .ref myA :: .ref mmA :: .ref mqA :: .ref mzA :: .ref mwy :: .ref mfd :: .int (nI s9) :: .int (nI c9) :: .int mch :: .int mft :: .int mpt :: .int mdp :: .int mvd :: .long mnw :: .int mmk :: []))) G') ∧ (∃ f9 : Nat → Int32, bR f9 ∧ Xc Ad mmA (.inl (γ.2.1, 600, .inl f9)) G') ∧ (∃ f9 : Nat → Int32, bR f9 ∧ Xc Ad mrA (.inl (γ.2.1, 600, .inl f9)) G'))) (mu_B (dC, dI) [(γ.1, .byte), (γ.2.1, .int), (γ.2.2.1, .long), (γ.2.2.2, .object "java/lang/Object"), (gT, .object "TrustChainModel$Text")] (va_A G sz) (fun G' : va_W => G')) (va_A G sz)) 0 0 (va_A G sz) := by
  refine Met.ofW (cc := b_Model_faultOf) (maxL := 9) (ret := (some FieldType.int)) (by decide) rfl ?_
  intro p e s m args below meth c s₁ B hml hv
  obtain ⟨rfl, hsz, hB0, hP, hK, hD0, hN, hT0⟩ := hv
  have hx := B.exec
  have hb := B.bytes
  have hr := B.returns
  have hts := atoms_spec (ws := w_Model_faultOf) B.pre
  have tbin : ∀ w ∈ tb, w ∈ w_Model_faultOf := fun w h => List.mem_cons_of_mem _ h
  have htb : ∀ w ∈ tb, w.before _ s = true := fun w h => hts w (tbin w h)
  have hown : s.vm.findClass "TrustChainModel" = some m.cls := findClass_of_methodNamed B.named
  have hlocks := B.notSynchronized
  subst hsz
  have hD := hD0.self (sz := s.heap.size)
  generalize hAe : va_A G s.heap.size = A at hD ⊢
  have hA : ∀ q : Nat, s.heap.size ≤ q → A q := fun q h => by rw [← hAe]; exact Or.inr h
  have hAs : ∀ q : Nat, A q → sb.1 ≤ q := fun q h => by
    rw [← hAe] at h
    rcases h with ⟨k, e, h⟩ | h
    · exact hD0.2 k _ h
    · exact Nat.le_trans hB0 h
  have hS : va_S A s.heap s.heap [] := va_S.rf
  have hFR := FL.rf Ad [mo, mmA, mrA] G
  have hcs : 0 ≤ (headSpec w_Model_faultOf ({ frames := 6, cells := 0, slots := 0, locals := 139 })).room.cells ∧ 0 ≤ (headSpec w_Model_faultOf ({ frames := 6, cells := 0, slots := 0, locals := 139 })).room.slots := ⟨Nat.le_refl _, Nat.le_refl _⟩
  have hP : va_P (dC, dI) classes G s.heap := hP
  have hl := lv_entry ([.ref mo, .int (nI i9)]) (n := 9) (Nat.le_of_ble_eq_true rfl)
  rw [lg_entry_eq]
  generalize (lg_sl ([.ref mo, .int (nI i9)]) ++ List.replicate (9 - (lg_sl ([.ref mo, .int (nI i9)])).length) Slot.unset).toArray = ls at hl ⊢
  have hl : lv_has ls 9 [(0, .ref mo), (1, .int (nI i9))] := hl
  obtain ⟨cX_mo, eX_mo⟩ : ∃ z : va_E, z = .inr (12, (.int mer :: .int mfed :: .int mwr :: .int (nI K9) :: .int (nI KL) :: .ref moc :: .ref msT :: .ref mrV :: .ref msP :: .int mqs :: .ref mrA :: .ref mbA :: .ref mwA :: .ref mhA :: .ref mfA :: .ref mpA :: .ref mxA :: .ref myA :: .ref mmA :: .ref mqA :: .ref mzA :: .ref mwy :: .ref mfd :: .int (nI s9) :: .int (nI c9) :: .int mch :: .int mft :: .int mpt :: .int mdp :: .int mvd :: .long mnw :: .int mmk :: [])) := ⟨_, rfl⟩
  rw [← eX_mo] at kmo
  refine lv_aload_n hx hb d_Model_faultOf_0 rfl (lv_at hl 0 rfl) ?_
  obtain ⟨i_1, hg_1⟩ := List.getElem?_of_mem kmo.2
  rw [eX_mo] at hg_1
  refine va_get (v := .ref msT) hx hb htb i_Model hown hK hP i_1 hg_1 rfl 6 (by decide) (htb _ q7_220) (fun _ h9 => h9) rfl d_Model_faultOf_1 ?_
  refine lv_aload_n hx hb d_Model_faultOf_4 rfl (lv_at hl 0 rfl) ?_
  refine va_get (v := .ref mwy) hx hb htb i_Model hown hK hP i_1 hg_1 rfl 21 (by decide) (htb _ q7_235) (fun _ h9 => h9) rfl d_Model_faultOf_5 ?_
  refine lv_iload_n hx hb d_Model_faultOf_8 rfl (lv_at hl 1 rfl) ?_
  obtain ⟨i_2, hg_2⟩ := List.getElem?_of_mem kmwy.2
  have h9 : vp_in (nI i9) 16 := vp_in_nI (by omega) (by omega)
  refine va_iald hx hb hK hP i_2 1 hg_2 rfl h9 d_Model_faultOf_9 ?_
  refine lv_topi (fun e9 he9 => ?_)
  obtain ⟨cw9, hc1_9, hc2_9⟩ := hway i9 (by omega)
  rw [nI_clamp (by omega), hc2_9] at he9
  subst he9
  obtain ⟨i_3, hg_3⟩ := List.getElem?_of_mem kmsT.2
  have h10 : vp_in (nI cw9) 16 := vp_in_nI (by omega) (by omega)
  refine va_aldq hx hb hK hP i_3 4 hg_3 rfl h10 d_Model_faultOf_10 ?_
  obtain ⟨t10, ft10, kt10, hc_t10⟩ := hst cw9 (by omega)
  rw [show va_rf (fS (nI cw9).toNatClampNeg) = .ref t10 from by rw [nI_clamp (by omega), ft10]; rfl]
  have b1_t10 := hc_t10.b1
  have b2_t10 := hc_t10.b2
  have b3_t10 := hc_t10.b3
  have b4_t10 := hc_t10.b4
  have b5_t10 := hc_t10.b5
  have b6_t10 := hc_t10.b6
  have b8_t10 := hc_t10.b8
  have b9_t10 := hc_t10.b9
  refine lv_astore_n (lv' := [(2, .ref t10), (0, .ref mo), (1, .int (nI i9))]) hx hb d_Model_faultOf_11 rfl hl (by decide) rfl (fun ls hl => ?_)
  refine lv_aload_n hx hb d_Model_faultOf_12 rfl (lv_at hl 1 rfl) ?_
  refine va_get (v := .ref msT) hx hb htb i_Model hown hK hP i_1 hg_1 rfl 6 (by decide) (htb _ q7_220) (fun _ h9 => h9) rfl d_Model_faultOf_13 ?_
  refine lv_aload_n hx hb d_Model_faultOf_16 rfl (lv_at hl 1 rfl) ?_
  refine va_get (v := .ref mwy) hx hb htb i_Model hown hK hP i_1 hg_1 rfl 21 (by decide) (htb _ q7_235) (fun _ h9 => h9) rfl d_Model_faultOf_17 ?_
  refine lv_iload_n hx hb d_Model_faultOf_20 rfl (lv_at hl 2 rfl) ?_
  refine lv_iconst (v := 1) hx hb d_Model_faultOf_21 (by decide) ?_
  refine lv_iadd hx hb d_Model_faultOf_22 ?_
  rw [show ((nI i9) + 1 : Int32) = nI (i9 + 1) from nI_add i9 1]
  have h23 : vp_in (nI (i9 + 1)) 16 := vp_in_nI (by omega) (by omega)
  refine va_iald hx hb hK hP i_2 1 hg_2 rfl h23 d_Model_faultOf_23 ?_
  refine lv_topi (fun e23 he23 => ?_)
  obtain ⟨cw23, hc1_23, hc2_23⟩ := hway (i9 + 1) (by omega)
  rw [nI_clamp (by omega), hc2_23] at he23
  subst he23
  have h24 : vp_in (nI cw23) 16 := vp_in_nI (by omega) (by omega)
  refine va_aldq hx hb hK hP i_3 4 hg_3 rfl h24 d_Model_faultOf_24 ?_
  obtain ⟨t24, ft24, kt24, hc_t24⟩ := hst cw23 (by omega)
  rw [show va_rf (fS (nI cw23).toNatClampNeg) = .ref t24 from by rw [nI_clamp (by omega), ft24]; rfl]
  have b1_t24 := hc_t24.b1
  have b2_t24 := hc_t24.b2
  have b3_t24 := hc_t24.b3
  have b4_t24 := hc_t24.b4
  have b5_t24 := hc_t24.b5
  have b6_t24 := hc_t24.b6
  have b8_t24 := hc_t24.b8
  have b9_t24 := hc_t24.b9
  refine lv_astore_n (lv' := [(3, .ref t24), (2, .ref t10), (0, .ref mo), (1, .int (nI i9))]) hx hb d_Model_faultOf_25 rfl hl (by decide) rfl (fun ls hl => ?_)
  refine lv_aload_n hx hb d_Model_faultOf_26 rfl (lv_at hl 2 rfl) ?_
  refine lv_aload_n hx hb d_Model_faultOf_27 rfl (lv_at hl 1 rfl) ?_
  refine lv_aload_n hx hb d_Model_faultOf_28 rfl (lv_at hl 0 rfl) ?_
  have hFc := va_free (wc := G) hD hS hA (List.range G.length) (rg_is _)
  refine va_calli (mu_runV (As := [.ref t10, .ref t24]) (rest := []) ⟨hx, hb, hml, hown, hts⟩ tbin (m9_Model_isSigned l dC dI sb γ κ Ad τ gT G mo t10 t24 _ _ _ _ _ _ _ _ _ _ _ _ _ _ _ _ _ _ _ _ _ _ _ _ _ _ _ _ _ _ _ _ _ _ s.heap.size hTy (by have h9 := kmo; rw [eX_mo] at h9; exact h9) kt10 kt24 kmmA kmrA kmzA kmqA kmyA kmxA kmbA kmwA kmhA kmpA kmfA hx_mo_mmA hx_mo_mrA hx_mmA_mrA hc_t10.toTB hc_t24 hfm hfr) q9_96 q9_98 qp_42 q1_9 q9_99 (n := 2) (by decide +kernel) rfl ⟨rfl, rfl⟩ ⟨Nat.le_of_ble_eq_true rfl, Nat.le_of_ble_eq_true rfl⟩ ⟨Nat.le_of_ble_eq_true rfl, Nat.le_of_ble_eq_true rfl⟩ hN (hT0.keep hS hAs) hAs (Nat.le_trans hB0 hS.1) hK hP hD (List.range G.length) (rg_nd _) (rg_is _) [0, 1, 2, 3, 4] rfl i_1 12 hg_1 rfl rfl hl.1 rfl (Nat.le_of_ble_eq_true rfl) d_Model_faultOf_29) hS (fun q _ h => hFc q h) hFc (fun r29 G_4 tS H29 locs ht hvm hw29 hB hz1 hk1 hS => ?_)
  obtain ⟨hTy, hF9, hr29⟩ := hw29
  have kmwy := kmwy.fl hF9 (by simp only [List.mem_cons, List.not_mem_nil, or_false]; omega)
  have kmsT := kmsT.fl hF9 (by simp only [List.mem_cons, List.not_mem_nil, or_false]; omega)
  have kmrV := kmrV.fl hF9 (by simp only [List.mem_cons, List.not_mem_nil, or_false]; omega)
  have hFR := hFR.tr (hF9.up (by intro x h; simp only [List.mem_cons, List.not_mem_nil, or_false] at h ⊢; omega))
  obtain ⟨hP1, hK1, hD1⟩ := hB
  rw [ht] at hP1
  have hP : va_P (dC, dI) classes G_4 H29 := hP1
  have hD : va_D A G_4 := hD1.weaken (fun _ _ _ h => hFc _ h)
  obtain ⟨hz29, ⟨q29, kmo⟩, ⟨fa29, hfm, kmmA⟩, ⟨fb29, hfr, kmrA⟩⟩ := hr29
  obtain ⟨cX_5, eX_5⟩ : ∃ z : va_E, z = .inr (12, (.int mer :: .int mfed :: .int mwr :: .int (nI K9) :: .int (nI KL) :: .ref moc :: .ref msT :: .ref mrV :: .ref msP :: .int q29 :: .ref mrA :: .ref mbA :: .ref mwA :: .ref mhA :: .ref mfA :: .ref mpA :: .ref mxA :: .ref myA :: .ref mmA :: .ref mqA :: .ref mzA :: .ref mwy :: .ref mfd :: .int (nI s9) :: .int (nI c9) :: .int mch :: .int mft :: .int mpt :: .int mdp :: .int mvd :: .long mnw :: .int mmk :: [])) := ⟨_, rfl⟩
  rw [← eX_5] at kmo
  refine lv_if_ne (tgt := 37) hx hb d_Model_faultOf_32 (by decide) (fun c32 => ?_) (fun c32 => ?_)
  · have p32 : ¬ (r29 = (0 : Int32)) := c32
    refine lv_aload_n hx hb d_Model_faultOf_37 rfl (lv_at hl 2 rfl) ?_
    obtain ⟨i_6, hg_6⟩ := List.getElem?_of_mem kmo.2
    rw [eX_5] at hg_6
    refine va_get (v := .long mnw) hx hb htb i_Model hown hK hP i_6 hg_6 rfl 30 (by decide) (htb _ q8_4) (fun _ h9 => h9) rfl d_Model_faultOf_38 ?_
    refine lv_aload_n hx hb d_Model_faultOf_41 rfl (lv_at hl 1 rfl) ?_
    obtain ⟨i_7, kA_7, hg_7⟩ := tr_20 hTy kt10
    refine va_get (v := .long ((τ t10).J 7)) hx hb htb i_Text hown hK hP i_7 hg_7 rfl 7 (by decide) (htb _ q6_188) (fun _ h9 => h9) rfl d_Model_faultOf_42 ?_
    refine W.lcmp hx hb d_Model_faultOf_45 ?_
    refine lv_if_lt (tgt := 61) hx hb d_Model_faultOf_46 (by decide) (fun c46 => ?_) (fun c46 => ?_)
    · have p46 : (lg_cmp mnw ((τ t10).J 7)) < (0 : Int32) := c46
      refine lv_iconst (v := 2) hx hb d_Model_faultOf_61 (by decide) ?_
      exact W.iret (v := 2) hx hb hr (fun t ht hW => ⟨⟨_, G_4, rfl, ⟨hTy, hFR, ⟨_, by rw [eX_5] at kmo; exact kmo⟩, ⟨_, hfm, kmmA⟩, ⟨_, hfr, kmrA⟩⟩, by rw [ht]; exact hP, va_K.moved hW.alike hK, hD⟩, hS.F ht⟩) hS.2.2 d_Model_faultOf_62
    · have p46 : ¬ ((lg_cmp mnw ((τ t10).J 7)) < (0 : Int32)) := c46
      refine lv_aload_n hx hb d_Model_faultOf_49 rfl (lv_at hl 2 rfl) ?_
      refine va_get (v := .long mnw) hx hb htb i_Model hown hK hP i_6 hg_6 rfl 30 (by decide) (htb _ q8_4) (fun _ h9 => h9) rfl d_Model_faultOf_50 ?_
      refine lv_aload_n hx hb d_Model_faultOf_53 rfl (lv_at hl 1 rfl) ?_
      refine va_get (v := .long ((τ t10).J 8)) hx hb htb i_Text hown hK hP i_7 hg_7 rfl 8 (by decide) (htb _ q6_190) (fun _ h9 => h9) rfl d_Model_faultOf_54 ?_
      refine W.lcmp hx hb d_Model_faultOf_57 ?_
      refine lv_if_le (tgt := 63) hx hb d_Model_faultOf_58 (by decide) (fun c58 => ?_) (fun c58 => ?_)
      · have p58 : (lg_cmp mnw ((τ t10).J 8)) ≤ (0 : Int32) := c58
        refine lv_iconst (v := 0) hx hb d_Model_faultOf_63 (by decide) ?_
        refine lv_istore (lv' := [(4, .int 0), (3, .ref t24), (2, .ref t10), (0, .ref mo), (1, .int (nI i9))]) hx hb d_Model_faultOf_64 hl (by decide) rfl (fun ls hl => ?_)
        refine lv_iconst (v := 0) hx hb d_Model_faultOf_66 (by decide) ?_
        refine lv_istore (lv' := [(5, .int 0), (4, .int 0), (3, .ref t24), (2, .ref t10), (0, .ref mo), (1, .int (nI i9))]) hx hb d_Model_faultOf_67 hl (by decide) rfl (fun ls hl => ?_)
        refine w_loopW (α := Nat × Int32 × (Nat → Int32) × (Nat → Int32) × Int32 × va_W) (fun a9 => 0 ≤ a9.1 ∧ a9.1 ≤ KL ∧ TR γ κ Ad τ a9.2.2.2.2.2 ∧ FL Ad [mo, mmA, mrA] G a9.2.2.2.2.2 ∧ Xc Ad mo (.inr (12, (.int mer :: .int mfed :: .int mwr :: .int (nI K9) :: .int (nI KL) :: .ref moc :: .ref msT :: .ref mrV :: .ref msP :: .int a9.2.2.2.2.1 :: .ref mrA :: .ref mbA :: .ref mwA :: .ref mhA :: .ref mfA :: .ref mpA :: .ref mxA :: .ref myA :: .ref mmA :: .ref mqA :: .ref mzA :: .ref mwy :: .ref mfd :: .int (nI s9) :: .int (nI c9) :: .int mch :: .int mft :: .int mpt :: .int mdp :: .int mvd :: .long mnw :: .int mmk :: []))) a9.2.2.2.2.2 ∧ Xc Ad mmA (.inl (γ.2.1, 600, .inl a9.2.2.1)) a9.2.2.2.2.2 ∧ Xc Ad mrA (.inl (γ.2.1, 600, .inl a9.2.2.2.1)) a9.2.2.2.2.2 ∧ Xc Ad mwy (.inl (γ.2.1, 16, .inl fw)) a9.2.2.2.2.2 ∧ Xc Ad msT (.inl (gT, 16, .inr (.inr (.inr (.inr fS))))) a9.2.2.2.2.2 ∧ Xc Ad mrV (.inl (gT, 8, .inr (.inr (.inr (.inr fV))))) a9.2.2.2.2.2 ∧ (bR a9.2.2.1 ∧ bR a9.2.2.2.1)) (fun a9 => KL - a9.1) (fun a9 => [(5, .int (nI a9.1)), (4, .int a9.2.1), (3, .ref t24), (2, .ref t10), (0, .ref mo), (1, .int (nI i9))]) (fun _ => []) (fun a9 => a9.2.2.2.2.2) 9 69 (fun a9 HL69 locs ls hJ hP hD hS hl ih69 => ?_) (0, (0 : Int32), fa29, fb29, q29, G_4) _ _ ls ⟨by omega, by omega, hTy, hFR, (by have h9 := kmo; rw [eX_5] at h9; exact h9), kmmA, kmrA, kmwy, kmsT, kmrV, ⟨hfm, hfr⟩⟩ hP hD hS (lv_sub hl [0, 1, 2, 3, 4, 5] rfl)
        obtain ⟨z69, x69_4, f69_mmA, f69_mrA, v69_mqs, G69⟩ := a9
        obtain ⟨hy69, hz69, hTy, hFR, kmo, kmmA, kmrA, kmwy, kmsT, kmrV, hJ69⟩ := hJ
        dsimp only at hy69 hz69 hTy hFR kmo kmmA kmrA kmwy kmsT kmrV hP hD hl ih69 hJ69
        obtain ⟨cX_8, eX_8⟩ : ∃ z : va_E, z = .inr (12, (.int mer :: .int mfed :: .int mwr :: .int (nI K9) :: .int (nI KL) :: .ref moc :: .ref msT :: .ref mrV :: .ref msP :: .int v69_mqs :: .ref mrA :: .ref mbA :: .ref mwA :: .ref mhA :: .ref mfA :: .ref mpA :: .ref mxA :: .ref myA :: .ref mmA :: .ref mqA :: .ref mzA :: .ref mwy :: .ref mfd :: .int (nI s9) :: .int (nI c9) :: .int mch :: .int mft :: .int mpt :: .int mdp :: .int mvd :: .long mnw :: .int mmk :: [])) := ⟨_, rfl⟩
        rw [← eX_8] at kmo
        obtain ⟨hfm, hfr⟩ := hJ69
        refine lv_iload hx hb d_Model_faultOf_69 (lv_at hl 0 rfl) ?_
        refine lv_aload_n hx hb d_Model_faultOf_71 rfl (lv_at hl 4 rfl) ?_
        obtain ⟨i_9, hg_9⟩ := List.getElem?_of_mem kmo.2
        rw [eX_8] at hg_9
        refine va_get (v := .int (nI KL)) hx hb htb i_Model hown hK hP i_9 hg_9 rfl 4 (by decide) (htb _ q7_218) (fun _ h9 => h9) rfl d_Model_faultOf_72 ?_
        refine lv_icmp_ge (tgt := 243) hx hb d_Model_faultOf_75 (by decide) (fun c75 => ?_) (fun c75 => ?_)
        · have p75 : KL ≤ z69 := ((nI_leI (a := KL) (b := z69) (by omega) (by omega)).mp c75)
          refine lv_aload_n hx hb d_Model_faultOf_243 rfl (lv_at hl 4 rfl) ?_
          refine va_get (v := .int mmk) hx hb htb i_Model hown hK hP i_9 hg_9 rfl 31 (by decide) (htb _ q8_5) (fun _ h9 => h9) rfl d_Model_faultOf_244 ?_
          refine lv_if_eq (tgt := 257) hx hb d_Model_faultOf_247 (by decide) (fun c247 => ?_) (fun c247 => ?_)
          · have p247 : mmk = (0 : Int32) := c247
            refine lv_iload_n hx hb d_Model_faultOf_257 rfl (lv_at hl 5 rfl) ?_
            refine lv_if_eq (tgt := 268) hx hb d_Model_faultOf_258 (by decide) (fun c258 => ?_) (fun c258 => ?_)
            · have p258 : i9 = 0 := ((nI_eq (a := i9) (b := 0) (by omega) (by omega)).mp c258)
              refine lv_aload_n hx hb d_Model_faultOf_268 rfl (lv_at hl 4 rfl) ?_
              refine lv_aload_n hx hb d_Model_faultOf_269 rfl (lv_at hl 3 rfl) ?_
              refine lv_iload_n hx hb d_Model_faultOf_270 rfl (lv_at hl 5 rfl) ?_
              refine vp_callSi (pu_callV (As := [.ref t10, .int (nI i9)]) (rest := []) ⟨hx, hb, hml, hown, hts⟩ tbin (p_Model_namesMayBe l dC dI sb γ κ Ad τ gT G69 mo t10 _ _ _ _ _ _ _ _ _ _ _ _ _ _ _ _ _ _ _ _ _ _ _ _ _ _ _ _ _ _ _ _ _ _ _ hTy (by have h9 := kmo; rw [eX_8] at h9; exact h9) kt10 hc_t10 kmwy kmsT hst hway (by omega) (by omega) (by omega)) q9_150 q9_152 qp_48 q1_9 q9_153 (n := 2) (by decide +kernel) rfl ⟨rfl, rfl⟩ ⟨Nat.le_of_ble_eq_true rfl, Nat.le_of_ble_eq_true rfl⟩ ⟨Nat.le_of_ble_eq_true rfl, Nat.le_of_ble_eq_true rfl⟩ hN (hT0.keep hS hAs) hK hP (List.range G69.length) (rg_all G69) [0, 1, 2, 3, 4] rfl i_9 12 hg_9 rfl rfl hl.1 rfl (Nat.le_of_ble_eq_true rfl) d_Model_faultOf_271) (fun r271 hr271 => ?_)
              refine lv_if_ne (tgt := 279) hx hb d_Model_faultOf_274 (by decide) (fun c274 => ?_) (fun c274 => ?_)
              · have p274 : ¬ (r271 = (0 : Int32)) := c274
                refine lv_aload_n hx hb d_Model_faultOf_279 rfl (lv_at hl 3 rfl) ?_
                obtain ⟨i_10, kA_10, hg_10⟩ := tr_20 hTy kt10
                refine va_get (v := .int ((τ t10).I 30)) hx hb htb i_Text hown hK hP i_10 hg_10 rfl 30 (by decide) (htb _ q6_233) (fun _ h9 => h9) rfl d_Model_faultOf_280 ?_
                refine lv_if_le (tgt := 289) hx hb d_Model_faultOf_283 (by decide) (fun c283 => ?_) (fun c283 => ?_)
                · have p283 : ((τ t10).I 30) ≤ (0 : Int32) := c283
                  refine lv_iload_n hx hb d_Model_faultOf_289 rfl (lv_at hl 5 rfl) ?_
                  refine lv_if_ne (tgt := 295) hx hb d_Model_faultOf_290 (by decide) (fun c290 => ?_) (fun c290 => ?_)
                  · have p290 : ¬ (i9 = 0) := (fun q9 => c290 ((nI_eq (a := i9) (b := 0) (by omega) (by omega)).mpr q9))
                    refine lv_aload_n hx hb d_Model_faultOf_295 rfl (lv_at hl 3 rfl) ?_
                    refine va_get (v := .int ((τ t10).I 40)) hx hb htb i_Text hown hK hP i_10 hg_10 rfl 40 (by decide) (htb _ q7_9) (fun _ h9 => h9) rfl d_Model_faultOf_296 ?_
                    refine lv_if_ne (tgt := 305) hx hb d_Model_faultOf_299 (by decide) (fun c299 => ?_) (fun c299 => ?_)
                    · have p299 : ¬ (((τ t10).I 40) = (0 : Int32)) := c299
                      refine lv_iload_n hx hb d_Model_faultOf_305 rfl (lv_at hl 5 rfl) ?_
                      refine lv_iconst (v := 1) hx hb d_Model_faultOf_306 (by decide) ?_
                      refine lv_iadd hx hb d_Model_faultOf_307 ?_
                      rw [show ((nI i9) + 1 : Int32) = nI (i9 + 1) from nI_add i9 1]
                      refine lv_istore (lv' := [(5, .int (nI (i9 + 1))), (4, .int x69_4), (3, .ref t24), (2, .ref t10), (0, .ref mo), (1, .int (nI i9))]) hx hb d_Model_faultOf_308 hl (by decide) rfl (fun ls hl => ?_)
                      refine w_loop (α := Nat) (fun a9 => i9 + 1 ≤ a9 ∧ a9 ≤ (s9 - 1)) (fun a9 => (s9 - 1) - a9) (fun a9 => [(5, .int (nI a9)), (4, .int x69_4), (3, .ref t24), (2, .ref t10), (0, .ref mo), (1, .int (nI i9))]) (fun _ => []) 9 310 (fun z310 ls hJ hl ih310 => ?_) ((i9 + 1)) ls ⟨by omega, by omega⟩ (lv_sub hl [0, 1, 2, 3, 4, 5] rfl)
                      skip
                      obtain ⟨hy310, hz310⟩ := hJ
                      refine lv_iload hx hb d_Model_faultOf_310 (lv_at hl 0 rfl) ?_
                      refine lv_aload_n hx hb d_Model_faultOf_312 rfl (lv_at hl 4 rfl) ?_
                      refine va_get (v := .int (nI s9)) hx hb htb i_Model hown hK hP i_9 hg_9 rfl 23 (by decide) (htb _ q7_237) (fun _ h9 => h9) rfl d_Model_faultOf_313 ?_
                      refine lv_iconst (v := 1) hx hb d_Model_faultOf_316 (by decide) ?_
                      refine lv_isub hx hb d_Model_faultOf_317 ?_
                      rw [show ((nI s9) - 1 : Int32) = nI (s9 - 1) from pk_sub (a := s9) (b := 1) (by omega)]
                      refine lv_icmp_ge (tgt := 402) hx hb d_Model_faultOf_318 (by decide) (fun c318 => ?_) (fun c318 => ?_)
                      · have p318 : (s9 - 1) ≤ z310 := ((nI_leI (a := (s9 - 1)) (b := z310) (by omega) (by omega)).mp c318)
                        refine lv_aload_n hx hb d_Model_faultOf_402 rfl (lv_at hl 3 rfl) ?_
                        refine va_get (v := .int ((τ t10).I 26)) hx hb htb i_Text hown hK hP i_10 hg_10 rfl 26 (by decide) (htb _ q6_224) (fun _ h9 => h9) rfl d_Model_faultOf_403 ?_
                        refine lv_if_lt (tgt := 425) hx hb d_Model_faultOf_406 (by decide) (fun c406 => ?_) (fun c406 => ?_)
                        · have p406 : ((τ t10).I 26) < (0 : Int32) := c406
                          refine lv_iconst (v := 0) hx hb d_Model_faultOf_425 (by decide) ?_
                          exact W.iret (v := 0) hx hb hr (fun t ht hW => ⟨⟨_, G69, rfl, ⟨hTy, hFR, ⟨_, by rw [eX_8] at kmo; exact kmo⟩, ⟨_, hfm, kmmA⟩, ⟨_, hfr, kmrA⟩⟩, by rw [ht]; exact hP, va_K.moved hW.alike hK, hD⟩, hS.F ht⟩) hS.2.2 d_Model_faultOf_426
                        · have p406 : ¬ (((τ t10).I 26) < (0 : Int32)) := c406
                          refine lv_aload_n hx hb d_Model_faultOf_409 rfl (lv_at hl 3 rfl) ?_
                          refine va_get (v := .int ((τ t10).I 26)) hx hb htb i_Text hown hK hP i_10 hg_10 rfl 26 (by decide) (htb _ q6_224) (fun _ h9 => h9) rfl d_Model_faultOf_410 ?_
                          refine lv_iconst (v := 5) hx hb d_Model_faultOf_413 (by decide) ?_
                          refine lv_ishr hx hb d_Model_faultOf_414 ?_
                          refine lv_iconst (v := 1) hx hb d_Model_faultOf_415 (by decide) ?_
                          refine lv_iand hx hb d_Model_faultOf_416 ?_
                          refine lv_if_ne (tgt := 425) hx hb d_Model_faultOf_417 (by decide) (fun c417 => ?_) (fun c417 => ?_)
                          · have p417 : ¬ (((((τ t10).I 26) >>> (5 &&& 31)) &&& 1) = (0 : Int32)) := c417
                            refine lv_iconst (v := 0) hx hb d_Model_faultOf_425 (by decide) ?_
                            exact W.iret (v := 0) hx hb hr (fun t ht hW => ⟨⟨_, G69, rfl, ⟨hTy, hFR, ⟨_, by rw [eX_8] at kmo; exact kmo⟩, ⟨_, hfm, kmmA⟩, ⟨_, hfr, kmrA⟩⟩, by rw [ht]; exact hP, va_K.moved hW.alike hK, hD⟩, hS.F ht⟩) hS.2.2 d_Model_faultOf_426
                          · have p417 : ((((τ t10).I 26) >>> (5 &&& 31)) &&& 1) = (0 : Int32) := c417
                            refine lv_bipush (v := 9) hx hb d_Model_faultOf_420 (by decide) ?_
                            refine lv_goto (tgt := 426) hx hb d_Model_faultOf_422 (by decide) ?_
                            exact W.iret (v := 9) hx hb hr (fun t ht hW => ⟨⟨_, G69, rfl, ⟨hTy, hFR, ⟨_, by rw [eX_8] at kmo; exact kmo⟩, ⟨_, hfm, kmmA⟩, ⟨_, hfr, kmrA⟩⟩, by rw [ht]; exact hP, va_K.moved hW.alike hK, hD⟩, hS.F ht⟩) hS.2.2 d_Model_faultOf_426
                      · have p318 : ¬ ((s9 - 1) ≤ z310) := (fun q9 => c318 ((nI_leI (a := (s9 - 1)) (b := z310) (by omega) (by omega)).mpr q9))
                        refine lv_aload_n hx hb d_Model_faultOf_321 rfl (lv_at hl 4 rfl) ?_
                        refine va_get (v := .ref msT) hx hb htb i_Model hown hK hP i_9 hg_9 rfl 6 (by decide) (htb _ q7_220) (fun _ h9 => h9) rfl d_Model_faultOf_322 ?_
                        refine lv_aload_n hx hb d_Model_faultOf_325 rfl (lv_at hl 4 rfl) ?_
                        refine va_get (v := .ref mwy) hx hb htb i_Model hown hK hP i_9 hg_9 rfl 21 (by decide) (htb _ q7_235) (fun _ h9 => h9) rfl d_Model_faultOf_326 ?_
                        refine lv_iload hx hb d_Model_faultOf_329 (lv_at hl 0 rfl) ?_
                        obtain ⟨i_11, hg_11⟩ := List.getElem?_of_mem kmwy.2
                        have h331 : vp_in (nI z310) 16 := vp_in_nI (by omega) (by omega)
                        refine va_iald hx hb hK hP i_11 1 hg_11 rfl h331 d_Model_faultOf_331 ?_
                        refine lv_topi (fun e331 he331 => ?_)
                        obtain ⟨cw331, hc1_331, hc2_331⟩ := hway z310 (by omega)
                        rw [nI_clamp (by omega), hc2_331] at he331
                        subst he331
                        obtain ⟨i_12, hg_12⟩ := List.getElem?_of_mem kmsT.2
                        have h332 : vp_in (nI cw331) 16 := vp_in_nI (by omega) (by omega)
                        refine va_aldq hx hb hK hP i_12 4 hg_12 rfl h332 d_Model_faultOf_332 ?_
                        obtain ⟨t332, ft332, kt332, hc_t332⟩ := hst cw331 (by omega)
                        rw [show va_rf (fS (nI cw331).toNatClampNeg) = .ref t332 from by rw [nI_clamp (by omega), ft332]; rfl]
                        have b1_t332 := hc_t332.b1
                        have b2_t332 := hc_t332.b2
                        have b3_t332 := hc_t332.b3
                        have b4_t332 := hc_t332.b4
                        have b5_t332 := hc_t332.b5
                        have b6_t332 := hc_t332.b6
                        have b8_t332 := hc_t332.b8
                        have b9_t332 := hc_t332.b9
                        refine lv_astore (lv' := [(6, .ref t332), (5, .int (nI z310)), (4, .int x69_4), (3, .ref t24), (2, .ref t10), (0, .ref mo), (1, .int (nI i9))]) hx hb d_Model_faultOf_333 hl (by decide) rfl (fun ls hl => ?_)
                        refine lv_iconst (v := 0) hx hb d_Model_faultOf_335 (by decide) ?_
                        refine lv_istore (lv' := [(7, .int 0), (6, .ref t332), (5, .int (nI z310)), (4, .int x69_4), (3, .ref t24), (2, .ref t10), (0, .ref mo), (1, .int (nI i9))]) hx hb d_Model_faultOf_336 hl (by decide) rfl (fun ls hl => ?_)
                        refine lv_iload_n hx hb d_Model_faultOf_338 rfl (lv_at hl 7 rfl) ?_
                        refine lv_istore (lv' := [(8, .int (nI i9)), (7, .int 0), (6, .ref t332), (5, .int (nI z310)), (4, .int x69_4), (3, .ref t24), (2, .ref t10), (0, .ref mo), (1, .int (nI i9))]) hx hb d_Model_faultOf_339 hl (by decide) rfl (fun ls hl => ?_)
                        refine w_loop (α := Nat × Int32) (fun a9 => i9 ≤ a9.1 ∧ a9.1 ≤ z310) (fun a9 => z310 - a9.1) (fun a9 => [(8, .int (nI a9.1)), (7, .int a9.2), (6, .ref t332), (5, .int (nI z310)), (4, .int x69_4), (3, .ref t24), (2, .ref t10), (0, .ref mo), (1, .int (nI i9))]) (fun _ => []) 9 341 (fun a9 ls hJ hl ih341 => ?_) (i9, (0 : Int32)) ls ⟨by omega, by omega⟩ (lv_sub hl [0, 1, 2, 3, 4, 5, 6, 7, 8] rfl)
                        obtain ⟨z341, x341_7⟩ := a9
                        obtain ⟨hy341, hz341⟩ := hJ
                        dsimp only at hy341 hz341 hl ih341
                        refine lv_iload hx hb d_Model_faultOf_341 (lv_at hl 0 rfl) ?_
                        refine lv_iload hx hb d_Model_faultOf_343 (lv_at hl 3 rfl) ?_
                        refine lv_icmp_ge (tgt := 375) hx hb d_Model_faultOf_345 (by decide) (fun c345 => ?_) (fun c345 => ?_)
                        · have p345 : z310 ≤ z341 := ((nI_leI (a := z310) (b := z341) (by omega) (by omega)).mp c345)
                          refine lv_aload hx hb d_Model_faultOf_375 (lv_at hl 2 rfl) ?_
                          obtain ⟨i_13, kA_13, hg_13⟩ := tr_20 hTy kt332
                          refine va_get (v := .int ((τ t332).I 25)) hx hb htb i_Text hown hK hP i_13 hg_13 rfl 25 (by decide) (htb _ q6_222) (fun _ h9 => h9) rfl d_Model_faultOf_377 ?_
                          refine lv_if_lt (tgt := 396) hx hb d_Model_faultOf_380 (by decide) (fun c380 => ?_) (fun c380 => ?_)
                          · have p380 : ((τ t332).I 25) < (0 : Int32) := c380
                            refine lv_iinc (v := nI (z310 + 1)) (lv' := [(5, .int (nI (z310 + 1))), (8, .int (nI z341)), (7, .int x341_7), (6, .ref t332), (4, .int x69_4), (3, .ref t24), (2, .ref t10), (0, .ref mo), (1, .int (nI i9))]) hx hb d_Model_faultOf_396 hl (k := 3) rfl (nI_1 _) (by decide) rfl (fun ls hl => ?_)
                            refine lv_goto (tgt := 310) hx hb d_Model_faultOf_399 (by decide) ?_
                            exact ih310 ((z310 + 1)) ls (by omega) ⟨by omega, by omega⟩ (lv_sub hl [0, 4, 5, 6, 7, 8] rfl)
                          · have p380 : ¬ (((τ t332).I 25) < (0 : Int32)) := c380
                            refine lv_aload hx hb d_Model_faultOf_383 (lv_at hl 2 rfl) ?_
                            refine va_get (v := .int ((τ t332).I 25)) hx hb htb i_Text hown hK hP i_13 hg_13 rfl 25 (by decide) (htb _ q6_222) (fun _ h9 => h9) rfl d_Model_faultOf_385 ?_
                            refine lv_iload hx hb d_Model_faultOf_388 (lv_at hl 1 rfl) ?_
                            refine lv_icmp_ge (tgt := 396) hx hb d_Model_faultOf_390 (by decide) (fun c390 => ?_) (fun c390 => ?_)
                            · have p390 : x341_7 ≤ ((τ t332).I 25) := c390
                              refine lv_iinc (v := nI (z310 + 1)) (lv' := [(5, .int (nI (z310 + 1))), (8, .int (nI z341)), (7, .int x341_7), (6, .ref t332), (4, .int x69_4), (3, .ref t24), (2, .ref t10), (0, .ref mo), (1, .int (nI i9))]) hx hb d_Model_faultOf_396 hl (k := 3) rfl (nI_1 _) (by decide) rfl (fun ls hl => ?_)
                              refine lv_goto (tgt := 310) hx hb d_Model_faultOf_399 (by decide) ?_
                              exact ih310 ((z310 + 1)) ls (by omega) ⟨by omega, by omega⟩ (lv_sub hl [0, 4, 5, 6, 7, 8] rfl)
                            · have p390 : ¬ (x341_7 ≤ ((τ t332).I 25)) := c390
                              refine lv_bipush (v := 8) hx hb d_Model_faultOf_393 (by decide) ?_
                              exact W.iret (v := 8) hx hb hr (fun t ht hW => ⟨⟨_, G69, rfl, ⟨hTy, hFR, ⟨_, by rw [eX_8] at kmo; exact kmo⟩, ⟨_, hfm, kmmA⟩, ⟨_, hfr, kmrA⟩⟩, by rw [ht]; exact hP, va_K.moved hW.alike hK, hD⟩, hS.F ht⟩) hS.2.2 d_Model_faultOf_395
                        · have p345 : ¬ (z310 ≤ z341) := (fun q9 => c345 ((nI_leI (a := z310) (b := z341) (by omega) (by omega)).mpr q9))
                          refine lv_aload_n hx hb d_Model_faultOf_348 rfl (lv_at hl 7 rfl) ?_
                          refine va_get (v := .ref msT) hx hb htb i_Model hown hK hP i_9 hg_9 rfl 6 (by decide) (htb _ q7_220) (fun _ h9 => h9) rfl d_Model_faultOf_349 ?_
                          refine lv_aload_n hx hb d_Model_faultOf_352 rfl (lv_at hl 7 rfl) ?_
                          refine va_get (v := .ref mwy) hx hb htb i_Model hown hK hP i_9 hg_9 rfl 21 (by decide) (htb _ q7_235) (fun _ h9 => h9) rfl d_Model_faultOf_353 ?_
                          refine lv_iload hx hb d_Model_faultOf_356 (lv_at hl 0 rfl) ?_
                          have h358 : vp_in (nI z341) 16 := vp_in_nI (by omega) (by omega)
                          refine va_iald hx hb hK hP i_11 1 hg_11 rfl h358 d_Model_faultOf_358 ?_
                          refine lv_topi (fun e358 he358 => ?_)
                          obtain ⟨cw358, hc1_358, hc2_358⟩ := hway z341 (by omega)
                          rw [nI_clamp (by omega), hc2_358] at he358
                          subst he358
                          have h359 : vp_in (nI cw358) 16 := vp_in_nI (by omega) (by omega)
                          refine va_aldq hx hb hK hP i_12 4 hg_12 rfl h359 d_Model_faultOf_359 ?_
                          obtain ⟨t359, ft359, kt359, hc_t359⟩ := hst cw358 (by omega)
                          rw [show va_rf (fS (nI cw358).toNatClampNeg) = .ref t359 from by rw [nI_clamp (by omega), ft359]; rfl]
                          have b1_t359 := hc_t359.b1
                          have b2_t359 := hc_t359.b2
                          have b3_t359 := hc_t359.b3
                          have b4_t359 := hc_t359.b4
                          have b5_t359 := hc_t359.b5
                          have b6_t359 := hc_t359.b6
                          have b8_t359 := hc_t359.b8
                          have b9_t359 := hc_t359.b9
                          obtain ⟨i_14, kA_14, hg_14⟩ := tr_20 hTy kt359
                          refine vp_callSi (pu_callV (As := []) (rest := []) ⟨hx, hb, hml, hown, hts⟩ tbin (p_Text_isOwn l dC dI sb γ κ Ad τ gT G69 t359  hTy kt359 hc_t359) q9_146 q9_147 q9_148 q1_10 q9_149 (n := 0) (by decide +kernel) rfl ⟨rfl, rfl⟩ ⟨Nat.le_of_ble_eq_true rfl, Nat.le_of_ble_eq_true rfl⟩ ⟨Nat.le_of_ble_eq_true rfl, Nat.le_of_ble_eq_true rfl⟩ hN (hT0.keep hS hAs) hK hP (List.range G69.length) (rg_all G69) [0, 1, 2, 3, 4] rfl i_14 13 hg_14 rfl rfl hl.1 rfl (Nat.le_of_ble_eq_true rfl) d_Model_faultOf_360) (fun r360 hr360 => ?_)
                          refine lv_if_ne (tgt := 369) hx hb d_Model_faultOf_363 (by decide) (fun c363 => ?_) (fun c363 => ?_)
                          · have p363 : ¬ (r360 = (0 : Int32)) := c363
                            refine lv_iinc (v := nI (z341 + 1)) (lv' := [(8, .int (nI (z341 + 1))), (7, .int x341_7), (6, .ref t332), (5, .int (nI z310)), (4, .int x69_4), (3, .ref t24), (2, .ref t10), (0, .ref mo), (1, .int (nI i9))]) hx hb d_Model_faultOf_369 hl (k := 0) rfl (nI_1 _) (by decide) rfl (fun ls hl => ?_)
                            refine lv_goto (tgt := 341) hx hb d_Model_faultOf_372 (by decide) ?_
                            exact ih341 ((z341 + 1), x341_7) ls (by dsimp only; omega) ⟨by dsimp only; omega, by dsimp only; omega⟩ (lv_sub hl [0, 1, 2, 3, 4, 5, 6, 7, 8] rfl)
                          · have p363 : r360 = (0 : Int32) := c363
                            obtain ⟨v366, ev366⟩ : ∃ y : Int32, y = x341_7 + 1 := ⟨_, rfl⟩
                            refine lv_iinc (v := v366) (lv' := [(7, .int v366), (8, .int (nI z341)), (6, .ref t332), (5, .int (nI z310)), (4, .int x69_4), (3, .ref t24), (2, .ref t10), (0, .ref mo), (1, .int (nI i9))]) hx hb d_Model_faultOf_366 hl (k := 1) rfl (by rw [ev366]; exact rfl) (by decide) rfl (fun ls hl => ?_)
                            refine lv_iinc (v := nI (z341 + 1)) (lv' := [(8, .int (nI (z341 + 1))), (7, .int v366), (6, .ref t332), (5, .int (nI z310)), (4, .int x69_4), (3, .ref t24), (2, .ref t10), (0, .ref mo), (1, .int (nI i9))]) hx hb d_Model_faultOf_369 hl (k := 1) rfl (nI_1 _) (by decide) rfl (fun ls hl => ?_)
                            refine lv_goto (tgt := 341) hx hb d_Model_faultOf_372 (by decide) ?_
                            exact ih341 ((z341 + 1), v366) ls (by dsimp only; omega) ⟨by dsimp only; omega, by dsimp only; omega⟩ (lv_sub hl [0, 1, 2, 3, 4, 5, 6, 7, 8] rfl)
                    · have p299 : ((τ t10).I 40) = (0 : Int32) := c299
                      refine lv_bipush (v := 7) hx hb d_Model_faultOf_302 (by decide) ?_
                      exact W.iret (v := 7) hx hb hr (fun t ht hW => ⟨⟨_, G69, rfl, ⟨hTy, hFR, ⟨_, by rw [eX_8] at kmo; exact kmo⟩, ⟨_, hfm, kmmA⟩, ⟨_, hfr, kmrA⟩⟩, by rw [ht]; exact hP, va_K.moved hW.alike hK, hD⟩, hS.F ht⟩) hS.2.2 d_Model_faultOf_304
                  · have p290 : i9 = 0 := ((nI_eq (a := i9) (b := 0) (by omega) (by omega)).mp c290)
                    refine lv_iconst (v := 0) hx hb d_Model_faultOf_293 (by decide) ?_
                    exact W.iret (v := 0) hx hb hr (fun t ht hW => ⟨⟨_, G69, rfl, ⟨hTy, hFR, ⟨_, by rw [eX_8] at kmo; exact kmo⟩, ⟨_, hfm, kmmA⟩, ⟨_, hfr, kmrA⟩⟩, by rw [ht]; exact hP, va_K.moved hW.alike hK, hD⟩, hS.F ht⟩) hS.2.2 d_Model_faultOf_294
                · have p283 : ¬ (((τ t10).I 30) ≤ (0 : Int32)) := c283
                  refine lv_bipush (v := 6) hx hb d_Model_faultOf_286 (by decide) ?_
                  exact W.iret (v := 6) hx hb hr (fun t ht hW => ⟨⟨_, G69, rfl, ⟨hTy, hFR, ⟨_, by rw [eX_8] at kmo; exact kmo⟩, ⟨_, hfm, kmmA⟩, ⟨_, hfr, kmrA⟩⟩, by rw [ht]; exact hP, va_K.moved hW.alike hK, hD⟩, hS.F ht⟩) hS.2.2 d_Model_faultOf_288
              · have p274 : r271 = (0 : Int32) := c274
                refine lv_iconst (v := 5) hx hb d_Model_faultOf_277 (by decide) ?_
                exact W.iret (v := 5) hx hb hr (fun t ht hW => ⟨⟨_, G69, rfl, ⟨hTy, hFR, ⟨_, by rw [eX_8] at kmo; exact kmo⟩, ⟨_, hfm, kmmA⟩, ⟨_, hfr, kmrA⟩⟩, by rw [ht]; exact hP, va_K.moved hW.alike hK, hD⟩, hS.F ht⟩) hS.2.2 d_Model_faultOf_278
            · have p258 : ¬ (i9 = 0) := (fun q9 => c258 ((nI_eq (a := i9) (b := 0) (by omega) (by omega)).mpr q9))
              refine lv_aload_n hx hb d_Model_faultOf_261 rfl (lv_at hl 3 rfl) ?_
              obtain ⟨i_15, kA_15, hg_15⟩ := tr_20 hTy kt10
              refine vp_callSi (pu_callV (As := []) (rest := []) ⟨hx, hb, hml, hown, hts⟩ tbin (p_Text_isOwn l dC dI sb γ κ Ad τ gT G69 t10  hTy kt10 hc_t10) q9_146 q9_147 q9_148 q1_10 q9_149 (n := 0) (by decide +kernel) rfl ⟨rfl, rfl⟩ ⟨Nat.le_of_ble_eq_true rfl, Nat.le_of_ble_eq_true rfl⟩ ⟨Nat.le_of_ble_eq_true rfl, Nat.le_of_ble_eq_true rfl⟩ hN (hT0.keep hS hAs) hK hP (List.range G69.length) (rg_all G69) [0, 1, 2, 3, 4] rfl i_15 13 hg_15 rfl rfl hl.1 rfl (Nat.le_of_ble_eq_true rfl) d_Model_faultOf_262) (fun r262 hr262 => ?_)
              refine lv_if_ne (tgt := 279) hx hb d_Model_faultOf_265 (by decide) (fun c265 => ?_) (fun c265 => ?_)
              · have p265 : ¬ (r262 = (0 : Int32)) := c265
                refine lv_aload_n hx hb d_Model_faultOf_279 rfl (lv_at hl 3 rfl) ?_
                refine va_get (v := .int ((τ t10).I 30)) hx hb htb i_Text hown hK hP i_15 hg_15 rfl 30 (by decide) (htb _ q6_233) (fun _ h9 => h9) rfl d_Model_faultOf_280 ?_
                refine lv_if_le (tgt := 289) hx hb d_Model_faultOf_283 (by decide) (fun c283 => ?_) (fun c283 => ?_)
                · have p283 : ((τ t10).I 30) ≤ (0 : Int32) := c283
                  refine lv_iload_n hx hb d_Model_faultOf_289 rfl (lv_at hl 5 rfl) ?_
                  refine lv_if_ne (tgt := 295) hx hb d_Model_faultOf_290 (by decide) (fun c290 => ?_) (fun c290 => ?_)
                  · have p290 : ¬ (i9 = 0) := (fun q9 => c290 ((nI_eq (a := i9) (b := 0) (by omega) (by omega)).mpr q9))
                    refine lv_aload_n hx hb d_Model_faultOf_295 rfl (lv_at hl 3 rfl) ?_
                    refine va_get (v := .int ((τ t10).I 40)) hx hb htb i_Text hown hK hP i_15 hg_15 rfl 40 (by decide) (htb _ q7_9) (fun _ h9 => h9) rfl d_Model_faultOf_296 ?_
                    refine lv_if_ne (tgt := 305) hx hb d_Model_faultOf_299 (by decide) (fun c299 => ?_) (fun c299 => ?_)
                    · have p299 : ¬ (((τ t10).I 40) = (0 : Int32)) := c299
                      refine lv_iload_n hx hb d_Model_faultOf_305 rfl (lv_at hl 5 rfl) ?_
                      refine lv_iconst (v := 1) hx hb d_Model_faultOf_306 (by decide) ?_
                      refine lv_iadd hx hb d_Model_faultOf_307 ?_
                      rw [show ((nI i9) + 1 : Int32) = nI (i9 + 1) from nI_add i9 1]
                      refine lv_istore (lv' := [(5, .int (nI (i9 + 1))), (4, .int x69_4), (3, .ref t24), (2, .ref t10), (0, .ref mo), (1, .int (nI i9))]) hx hb d_Model_faultOf_308 hl (by decide) rfl (fun ls hl => ?_)
                      refine w_loop (α := Nat) (fun a9 => i9 + 1 ≤ a9 ∧ a9 ≤ (s9 - 1)) (fun a9 => (s9 - 1) - a9) (fun a9 => [(5, .int (nI a9)), (4, .int x69_4), (3, .ref t24), (2, .ref t10), (0, .ref mo), (1, .int (nI i9))]) (fun _ => []) 9 310 (fun z310 ls hJ hl ih310 => ?_) ((i9 + 1)) ls ⟨by omega, by omega⟩ (lv_sub hl [0, 1, 2, 3, 4, 5] rfl)
                      skip
                      obtain ⟨hy310, hz310⟩ := hJ
                      refine lv_iload hx hb d_Model_faultOf_310 (lv_at hl 0 rfl) ?_
                      refine lv_aload_n hx hb d_Model_faultOf_312 rfl (lv_at hl 4 rfl) ?_
                      refine va_get (v := .int (nI s9)) hx hb htb i_Model hown hK hP i_9 hg_9 rfl 23 (by decide) (htb _ q7_237) (fun _ h9 => h9) rfl d_Model_faultOf_313 ?_
                      refine lv_iconst (v := 1) hx hb d_Model_faultOf_316 (by decide) ?_
                      refine lv_isub hx hb d_Model_faultOf_317 ?_
                      rw [show ((nI s9) - 1 : Int32) = nI (s9 - 1) from pk_sub (a := s9) (b := 1) (by omega)]
                      refine lv_icmp_ge (tgt := 402) hx hb d_Model_faultOf_318 (by decide) (fun c318 => ?_) (fun c318 => ?_)
                      · have p318 : (s9 - 1) ≤ z310 := ((nI_leI (a := (s9 - 1)) (b := z310) (by omega) (by omega)).mp c318)
                        refine lv_aload_n hx hb d_Model_faultOf_402 rfl (lv_at hl 3 rfl) ?_
                        refine va_get (v := .int ((τ t10).I 26)) hx hb htb i_Text hown hK hP i_15 hg_15 rfl 26 (by decide) (htb _ q6_224) (fun _ h9 => h9) rfl d_Model_faultOf_403 ?_
                        refine lv_if_lt (tgt := 425) hx hb d_Model_faultOf_406 (by decide) (fun c406 => ?_) (fun c406 => ?_)
                        · have p406 : ((τ t10).I 26) < (0 : Int32) := c406
                          refine lv_iconst (v := 0) hx hb d_Model_faultOf_425 (by decide) ?_
                          exact W.iret (v := 0) hx hb hr (fun t ht hW => ⟨⟨_, G69, rfl, ⟨hTy, hFR, ⟨_, by rw [eX_8] at kmo; exact kmo⟩, ⟨_, hfm, kmmA⟩, ⟨_, hfr, kmrA⟩⟩, by rw [ht]; exact hP, va_K.moved hW.alike hK, hD⟩, hS.F ht⟩) hS.2.2 d_Model_faultOf_426
                        · have p406 : ¬ (((τ t10).I 26) < (0 : Int32)) := c406
                          refine lv_aload_n hx hb d_Model_faultOf_409 rfl (lv_at hl 3 rfl) ?_
                          refine va_get (v := .int ((τ t10).I 26)) hx hb htb i_Text hown hK hP i_15 hg_15 rfl 26 (by decide) (htb _ q6_224) (fun _ h9 => h9) rfl d_Model_faultOf_410 ?_
                          refine lv_iconst (v := 5) hx hb d_Model_faultOf_413 (by decide) ?_
                          refine lv_ishr hx hb d_Model_faultOf_414 ?_
                          refine lv_iconst (v := 1) hx hb d_Model_faultOf_415 (by decide) ?_
                          refine lv_iand hx hb d_Model_faultOf_416 ?_
                          refine lv_if_ne (tgt := 425) hx hb d_Model_faultOf_417 (by decide) (fun c417 => ?_) (fun c417 => ?_)
                          · have p417 : ¬ (((((τ t10).I 26) >>> (5 &&& 31)) &&& 1) = (0 : Int32)) := c417
                            refine lv_iconst (v := 0) hx hb d_Model_faultOf_425 (by decide) ?_
                            exact W.iret (v := 0) hx hb hr (fun t ht hW => ⟨⟨_, G69, rfl, ⟨hTy, hFR, ⟨_, by rw [eX_8] at kmo; exact kmo⟩, ⟨_, hfm, kmmA⟩, ⟨_, hfr, kmrA⟩⟩, by rw [ht]; exact hP, va_K.moved hW.alike hK, hD⟩, hS.F ht⟩) hS.2.2 d_Model_faultOf_426
                          · have p417 : ((((τ t10).I 26) >>> (5 &&& 31)) &&& 1) = (0 : Int32) := c417
                            refine lv_bipush (v := 9) hx hb d_Model_faultOf_420 (by decide) ?_
                            refine lv_goto (tgt := 426) hx hb d_Model_faultOf_422 (by decide) ?_
                            exact W.iret (v := 9) hx hb hr (fun t ht hW => ⟨⟨_, G69, rfl, ⟨hTy, hFR, ⟨_, by rw [eX_8] at kmo; exact kmo⟩, ⟨_, hfm, kmmA⟩, ⟨_, hfr, kmrA⟩⟩, by rw [ht]; exact hP, va_K.moved hW.alike hK, hD⟩, hS.F ht⟩) hS.2.2 d_Model_faultOf_426
                      · have p318 : ¬ ((s9 - 1) ≤ z310) := (fun q9 => c318 ((nI_leI (a := (s9 - 1)) (b := z310) (by omega) (by omega)).mpr q9))
                        refine lv_aload_n hx hb d_Model_faultOf_321 rfl (lv_at hl 4 rfl) ?_
                        refine va_get (v := .ref msT) hx hb htb i_Model hown hK hP i_9 hg_9 rfl 6 (by decide) (htb _ q7_220) (fun _ h9 => h9) rfl d_Model_faultOf_322 ?_
                        refine lv_aload_n hx hb d_Model_faultOf_325 rfl (lv_at hl 4 rfl) ?_
                        refine va_get (v := .ref mwy) hx hb htb i_Model hown hK hP i_9 hg_9 rfl 21 (by decide) (htb _ q7_235) (fun _ h9 => h9) rfl d_Model_faultOf_326 ?_
                        refine lv_iload hx hb d_Model_faultOf_329 (lv_at hl 0 rfl) ?_
                        obtain ⟨i_16, hg_16⟩ := List.getElem?_of_mem kmwy.2
                        have h331 : vp_in (nI z310) 16 := vp_in_nI (by omega) (by omega)
                        refine va_iald hx hb hK hP i_16 1 hg_16 rfl h331 d_Model_faultOf_331 ?_
                        refine lv_topi (fun e331 he331 => ?_)
                        obtain ⟨cw331, hc1_331, hc2_331⟩ := hway z310 (by omega)
                        rw [nI_clamp (by omega), hc2_331] at he331
                        subst he331
                        obtain ⟨i_17, hg_17⟩ := List.getElem?_of_mem kmsT.2
                        have h332 : vp_in (nI cw331) 16 := vp_in_nI (by omega) (by omega)
                        refine va_aldq hx hb hK hP i_17 4 hg_17 rfl h332 d_Model_faultOf_332 ?_
                        obtain ⟨t332, ft332, kt332, hc_t332⟩ := hst cw331 (by omega)
                        rw [show va_rf (fS (nI cw331).toNatClampNeg) = .ref t332 from by rw [nI_clamp (by omega), ft332]; rfl]
                        have b1_t332 := hc_t332.b1
                        have b2_t332 := hc_t332.b2
                        have b3_t332 := hc_t332.b3
                        have b4_t332 := hc_t332.b4
                        have b5_t332 := hc_t332.b5
                        have b6_t332 := hc_t332.b6
                        have b8_t332 := hc_t332.b8
                        have b9_t332 := hc_t332.b9
                        refine lv_astore (lv' := [(6, .ref t332), (5, .int (nI z310)), (4, .int x69_4), (3, .ref t24), (2, .ref t10), (0, .ref mo), (1, .int (nI i9))]) hx hb d_Model_faultOf_333 hl (by decide) rfl (fun ls hl => ?_)
                        refine lv_iconst (v := 0) hx hb d_Model_faultOf_335 (by decide) ?_
                        refine lv_istore (lv' := [(7, .int 0), (6, .ref t332), (5, .int (nI z310)), (4, .int x69_4), (3, .ref t24), (2, .ref t10), (0, .ref mo), (1, .int (nI i9))]) hx hb d_Model_faultOf_336 hl (by decide) rfl (fun ls hl => ?_)
                        refine lv_iload_n hx hb d_Model_faultOf_338 rfl (lv_at hl 7 rfl) ?_
                        refine lv_istore (lv' := [(8, .int (nI i9)), (7, .int 0), (6, .ref t332), (5, .int (nI z310)), (4, .int x69_4), (3, .ref t24), (2, .ref t10), (0, .ref mo), (1, .int (nI i9))]) hx hb d_Model_faultOf_339 hl (by decide) rfl (fun ls hl => ?_)
                        refine w_loop (α := Nat × Int32) (fun a9 => i9 ≤ a9.1 ∧ a9.1 ≤ z310) (fun a9 => z310 - a9.1) (fun a9 => [(8, .int (nI a9.1)), (7, .int a9.2), (6, .ref t332), (5, .int (nI z310)), (4, .int x69_4), (3, .ref t24), (2, .ref t10), (0, .ref mo), (1, .int (nI i9))]) (fun _ => []) 9 341 (fun a9 ls hJ hl ih341 => ?_) (i9, (0 : Int32)) ls ⟨by omega, by omega⟩ (lv_sub hl [0, 1, 2, 3, 4, 5, 6, 7, 8] rfl)
                        obtain ⟨z341, x341_7⟩ := a9
                        obtain ⟨hy341, hz341⟩ := hJ
                        dsimp only at hy341 hz341 hl ih341
                        refine lv_iload hx hb d_Model_faultOf_341 (lv_at hl 0 rfl) ?_
                        refine lv_iload hx hb d_Model_faultOf_343 (lv_at hl 3 rfl) ?_
                        refine lv_icmp_ge (tgt := 375) hx hb d_Model_faultOf_345 (by decide) (fun c345 => ?_) (fun c345 => ?_)
                        · have p345 : z310 ≤ z341 := ((nI_leI (a := z310) (b := z341) (by omega) (by omega)).mp c345)
                          refine lv_aload hx hb d_Model_faultOf_375 (lv_at hl 2 rfl) ?_
                          obtain ⟨i_18, kA_18, hg_18⟩ := tr_20 hTy kt332
                          refine va_get (v := .int ((τ t332).I 25)) hx hb htb i_Text hown hK hP i_18 hg_18 rfl 25 (by decide) (htb _ q6_222) (fun _ h9 => h9) rfl d_Model_faultOf_377 ?_
                          refine lv_if_lt (tgt := 396) hx hb d_Model_faultOf_380 (by decide) (fun c380 => ?_) (fun c380 => ?_)
                          · have p380 : ((τ t332).I 25) < (0 : Int32) := c380
                            refine lv_iinc (v := nI (z310 + 1)) (lv' := [(5, .int (nI (z310 + 1))), (8, .int (nI z341)), (7, .int x341_7), (6, .ref t332), (4, .int x69_4), (3, .ref t24), (2, .ref t10), (0, .ref mo), (1, .int (nI i9))]) hx hb d_Model_faultOf_396 hl (k := 3) rfl (nI_1 _) (by decide) rfl (fun ls hl => ?_)
                            refine lv_goto (tgt := 310) hx hb d_Model_faultOf_399 (by decide) ?_
                            exact ih310 ((z310 + 1)) ls (by omega) ⟨by omega, by omega⟩ (lv_sub hl [0, 4, 5, 6, 7, 8] rfl)
                          · have p380 : ¬ (((τ t332).I 25) < (0 : Int32)) := c380
                            refine lv_aload hx hb d_Model_faultOf_383 (lv_at hl 2 rfl) ?_
                            refine va_get (v := .int ((τ t332).I 25)) hx hb htb i_Text hown hK hP i_18 hg_18 rfl 25 (by decide) (htb _ q6_222) (fun _ h9 => h9) rfl d_Model_faultOf_385 ?_
                            refine lv_iload hx hb d_Model_faultOf_388 (lv_at hl 1 rfl) ?_
                            refine lv_icmp_ge (tgt := 396) hx hb d_Model_faultOf_390 (by decide) (fun c390 => ?_) (fun c390 => ?_)
                            · have p390 : x341_7 ≤ ((τ t332).I 25) := c390
                              refine lv_iinc (v := nI (z310 + 1)) (lv' := [(5, .int (nI (z310 + 1))), (8, .int (nI z341)), (7, .int x341_7), (6, .ref t332), (4, .int x69_4), (3, .ref t24), (2, .ref t10), (0, .ref mo), (1, .int (nI i9))]) hx hb d_Model_faultOf_396 hl (k := 3) rfl (nI_1 _) (by decide) rfl (fun ls hl => ?_)
                              refine lv_goto (tgt := 310) hx hb d_Model_faultOf_399 (by decide) ?_
                              exact ih310 ((z310 + 1)) ls (by omega) ⟨by omega, by omega⟩ (lv_sub hl [0, 4, 5, 6, 7, 8] rfl)
                            · have p390 : ¬ (x341_7 ≤ ((τ t332).I 25)) := c390
                              refine lv_bipush (v := 8) hx hb d_Model_faultOf_393 (by decide) ?_
                              exact W.iret (v := 8) hx hb hr (fun t ht hW => ⟨⟨_, G69, rfl, ⟨hTy, hFR, ⟨_, by rw [eX_8] at kmo; exact kmo⟩, ⟨_, hfm, kmmA⟩, ⟨_, hfr, kmrA⟩⟩, by rw [ht]; exact hP, va_K.moved hW.alike hK, hD⟩, hS.F ht⟩) hS.2.2 d_Model_faultOf_395
                        · have p345 : ¬ (z310 ≤ z341) := (fun q9 => c345 ((nI_leI (a := z310) (b := z341) (by omega) (by omega)).mpr q9))
                          refine lv_aload_n hx hb d_Model_faultOf_348 rfl (lv_at hl 7 rfl) ?_
                          refine va_get (v := .ref msT) hx hb htb i_Model hown hK hP i_9 hg_9 rfl 6 (by decide) (htb _ q7_220) (fun _ h9 => h9) rfl d_Model_faultOf_349 ?_
                          refine lv_aload_n hx hb d_Model_faultOf_352 rfl (lv_at hl 7 rfl) ?_
                          refine va_get (v := .ref mwy) hx hb htb i_Model hown hK hP i_9 hg_9 rfl 21 (by decide) (htb _ q7_235) (fun _ h9 => h9) rfl d_Model_faultOf_353 ?_
                          refine lv_iload hx hb d_Model_faultOf_356 (lv_at hl 0 rfl) ?_
                          have h358 : vp_in (nI z341) 16 := vp_in_nI (by omega) (by omega)
                          refine va_iald hx hb hK hP i_16 1 hg_16 rfl h358 d_Model_faultOf_358 ?_
                          refine lv_topi (fun e358 he358 => ?_)
                          obtain ⟨cw358, hc1_358, hc2_358⟩ := hway z341 (by omega)
                          rw [nI_clamp (by omega), hc2_358] at he358
                          subst he358
                          have h359 : vp_in (nI cw358) 16 := vp_in_nI (by omega) (by omega)
                          refine va_aldq hx hb hK hP i_17 4 hg_17 rfl h359 d_Model_faultOf_359 ?_
                          obtain ⟨t359, ft359, kt359, hc_t359⟩ := hst cw358 (by omega)
                          rw [show va_rf (fS (nI cw358).toNatClampNeg) = .ref t359 from by rw [nI_clamp (by omega), ft359]; rfl]
                          have b1_t359 := hc_t359.b1
                          have b2_t359 := hc_t359.b2
                          have b3_t359 := hc_t359.b3
                          have b4_t359 := hc_t359.b4
                          have b5_t359 := hc_t359.b5
                          have b6_t359 := hc_t359.b6
                          have b8_t359 := hc_t359.b8
                          have b9_t359 := hc_t359.b9
                          obtain ⟨i_19, kA_19, hg_19⟩ := tr_20 hTy kt359
                          refine vp_callSi (pu_callV (As := []) (rest := []) ⟨hx, hb, hml, hown, hts⟩ tbin (p_Text_isOwn l dC dI sb γ κ Ad τ gT G69 t359  hTy kt359 hc_t359) q9_146 q9_147 q9_148 q1_10 q9_149 (n := 0) (by decide +kernel) rfl ⟨rfl, rfl⟩ ⟨Nat.le_of_ble_eq_true rfl, Nat.le_of_ble_eq_true rfl⟩ ⟨Nat.le_of_ble_eq_true rfl, Nat.le_of_ble_eq_true rfl⟩ hN (hT0.keep hS hAs) hK hP (List.range G69.length) (rg_all G69) [0, 1, 2, 3, 4] rfl i_19 13 hg_19 rfl rfl hl.1 rfl (Nat.le_of_ble_eq_true rfl) d_Model_faultOf_360) (fun r360 hr360 => ?_)
                          refine lv_if_ne (tgt := 369) hx hb d_Model_faultOf_363 (by decide) (fun c363 => ?_) (fun c363 => ?_)
                          · have p363 : ¬ (r360 = (0 : Int32)) := c363
                            refine lv_iinc (v := nI (z341 + 1)) (lv' := [(8, .int (nI (z341 + 1))), (7, .int x341_7), (6, .ref t332), (5, .int (nI z310)), (4, .int x69_4), (3, .ref t24), (2, .ref t10), (0, .ref mo), (1, .int (nI i9))]) hx hb d_Model_faultOf_369 hl (k := 0) rfl (nI_1 _) (by decide) rfl (fun ls hl => ?_)
                            refine lv_goto (tgt := 341) hx hb d_Model_faultOf_372 (by decide) ?_
                            exact ih341 ((z341 + 1), x341_7) ls (by dsimp only; omega) ⟨by dsimp only; omega, by dsimp only; omega⟩ (lv_sub hl [0, 1, 2, 3, 4, 5, 6, 7, 8] rfl)
                          · have p363 : r360 = (0 : Int32) := c363
                            obtain ⟨v366, ev366⟩ : ∃ y : Int32, y = x341_7 + 1 := ⟨_, rfl⟩
                            refine lv_iinc (v := v366) (lv' := [(7, .int v366), (8, .int (nI z341)), (6, .ref t332), (5, .int (nI z310)), (4, .int x69_4), (3, .ref t24), (2, .ref t10), (0, .ref mo), (1, .int (nI i9))]) hx hb d_Model_faultOf_366 hl (k := 1) rfl (by rw [ev366]; exact rfl) (by decide) rfl (fun ls hl => ?_)
                            refine lv_iinc (v := nI (z341 + 1)) (lv' := [(8, .int (nI (z341 + 1))), (7, .int v366), (6, .ref t332), (5, .int (nI z310)), (4, .int x69_4), (3, .ref t24), (2, .ref t10), (0, .ref mo), (1, .int (nI i9))]) hx hb d_Model_faultOf_369 hl (k := 1) rfl (nI_1 _) (by decide) rfl (fun ls hl => ?_)
                            refine lv_goto (tgt := 341) hx hb d_Model_faultOf_372 (by decide) ?_
                            exact ih341 ((z341 + 1), v366) ls (by dsimp only; omega) ⟨by dsimp only; omega, by dsimp only; omega⟩ (lv_sub hl [0, 1, 2, 3, 4, 5, 6, 7, 8] rfl)
                    · have p299 : ((τ t10).I 40) = (0 : Int32) := c299
                      refine lv_bipush (v := 7) hx hb d_Model_faultOf_302 (by decide) ?_
                      exact W.iret (v := 7) hx hb hr (fun t ht hW => ⟨⟨_, G69, rfl, ⟨hTy, hFR, ⟨_, by rw [eX_8] at kmo; exact kmo⟩, ⟨_, hfm, kmmA⟩, ⟨_, hfr, kmrA⟩⟩, by rw [ht]; exact hP, va_K.moved hW.alike hK, hD⟩, hS.F ht⟩) hS.2.2 d_Model_faultOf_304
                  · have p290 : i9 = 0 := ((nI_eq (a := i9) (b := 0) (by omega) (by omega)).mp c290)
                    refine lv_iconst (v := 0) hx hb d_Model_faultOf_293 (by decide) ?_
                    exact W.iret (v := 0) hx hb hr (fun t ht hW => ⟨⟨_, G69, rfl, ⟨hTy, hFR, ⟨_, by rw [eX_8] at kmo; exact kmo⟩, ⟨_, hfm, kmmA⟩, ⟨_, hfr, kmrA⟩⟩, by rw [ht]; exact hP, va_K.moved hW.alike hK, hD⟩, hS.F ht⟩) hS.2.2 d_Model_faultOf_294
                · have p283 : ¬ (((τ t10).I 30) ≤ (0 : Int32)) := c283
                  refine lv_bipush (v := 6) hx hb d_Model_faultOf_286 (by decide) ?_
                  exact W.iret (v := 6) hx hb hr (fun t ht hW => ⟨⟨_, G69, rfl, ⟨hTy, hFR, ⟨_, by rw [eX_8] at kmo; exact kmo⟩, ⟨_, hfm, kmmA⟩, ⟨_, hfr, kmrA⟩⟩, by rw [ht]; exact hP, va_K.moved hW.alike hK, hD⟩, hS.F ht⟩) hS.2.2 d_Model_faultOf_288
              · have p265 : r262 = (0 : Int32) := c265
                refine lv_aload_n hx hb d_Model_faultOf_268 rfl (lv_at hl 4 rfl) ?_
                refine lv_aload_n hx hb d_Model_faultOf_269 rfl (lv_at hl 3 rfl) ?_
                refine lv_iload_n hx hb d_Model_faultOf_270 rfl (lv_at hl 5 rfl) ?_
                refine vp_callSi (pu_callV (As := [.ref t10, .int (nI i9)]) (rest := []) ⟨hx, hb, hml, hown, hts⟩ tbin (p_Model_namesMayBe l dC dI sb γ κ Ad τ gT G69 mo t10 _ _ _ _ _ _ _ _ _ _ _ _ _ _ _ _ _ _ _ _ _ _ _ _ _ _ _ _ _ _ _ _ _ _ _ hTy (by have h9 := kmo; rw [eX_8] at h9; exact h9) kt10 hc_t10 kmwy kmsT hst hway (by omega) (by omega) (by omega)) q9_150 q9_152 qp_48 q1_9 q9_153 (n := 2) (by decide +kernel) rfl ⟨rfl, rfl⟩ ⟨Nat.le_of_ble_eq_true rfl, Nat.le_of_ble_eq_true rfl⟩ ⟨Nat.le_of_ble_eq_true rfl, Nat.le_of_ble_eq_true rfl⟩ hN (hT0.keep hS hAs) hK hP (List.range G69.length) (rg_all G69) [0, 1, 2, 3, 4] rfl i_9 12 hg_9 rfl rfl hl.1 rfl (Nat.le_of_ble_eq_true rfl) d_Model_faultOf_271) (fun r271 hr271 => ?_)
                refine lv_if_ne (tgt := 279) hx hb d_Model_faultOf_274 (by decide) (fun c274 => ?_) (fun c274 => ?_)
                · have p274 : ¬ (r271 = (0 : Int32)) := c274
                  refine lv_aload_n hx hb d_Model_faultOf_279 rfl (lv_at hl 3 rfl) ?_
                  refine va_get (v := .int ((τ t10).I 30)) hx hb htb i_Text hown hK hP i_15 hg_15 rfl 30 (by decide) (htb _ q6_233) (fun _ h9 => h9) rfl d_Model_faultOf_280 ?_
                  refine lv_if_le (tgt := 289) hx hb d_Model_faultOf_283 (by decide) (fun c283 => ?_) (fun c283 => ?_)
                  · have p283 : ((τ t10).I 30) ≤ (0 : Int32) := c283
                    refine lv_iload_n hx hb d_Model_faultOf_289 rfl (lv_at hl 5 rfl) ?_
                    refine lv_if_ne (tgt := 295) hx hb d_Model_faultOf_290 (by decide) (fun c290 => ?_) (fun c290 => ?_)
                    · have p290 : ¬ (i9 = 0) := (fun q9 => c290 ((nI_eq (a := i9) (b := 0) (by omega) (by omega)).mpr q9))
                      refine lv_aload_n hx hb d_Model_faultOf_295 rfl (lv_at hl 3 rfl) ?_
                      refine va_get (v := .int ((τ t10).I 40)) hx hb htb i_Text hown hK hP i_15 hg_15 rfl 40 (by decide) (htb _ q7_9) (fun _ h9 => h9) rfl d_Model_faultOf_296 ?_
                      refine lv_if_ne (tgt := 305) hx hb d_Model_faultOf_299 (by decide) (fun c299 => ?_) (fun c299 => ?_)
                      · have p299 : ¬ (((τ t10).I 40) = (0 : Int32)) := c299
                        refine lv_iload_n hx hb d_Model_faultOf_305 rfl (lv_at hl 5 rfl) ?_
                        refine lv_iconst (v := 1) hx hb d_Model_faultOf_306 (by decide) ?_
                        refine lv_iadd hx hb d_Model_faultOf_307 ?_
                        rw [show ((nI i9) + 1 : Int32) = nI (i9 + 1) from nI_add i9 1]
                        refine lv_istore (lv' := [(5, .int (nI (i9 + 1))), (4, .int x69_4), (3, .ref t24), (2, .ref t10), (0, .ref mo), (1, .int (nI i9))]) hx hb d_Model_faultOf_308 hl (by decide) rfl (fun ls hl => ?_)
                        refine w_loop (α := Nat) (fun a9 => i9 + 1 ≤ a9 ∧ a9 ≤ (s9 - 1)) (fun a9 => (s9 - 1) - a9) (fun a9 => [(5, .int (nI a9)), (4, .int x69_4), (3, .ref t24), (2, .ref t10), (0, .ref mo), (1, .int (nI i9))]) (fun _ => []) 9 310 (fun z310 ls hJ hl ih310 => ?_) ((i9 + 1)) ls ⟨by omega, by omega⟩ (lv_sub hl [0, 1, 2, 3, 4, 5] rfl)
                        skip
                        obtain ⟨hy310, hz310⟩ := hJ
                        refine lv_iload hx hb d_Model_faultOf_310 (lv_at hl 0 rfl) ?_
                        refine lv_aload_n hx hb d_Model_faultOf_312 rfl (lv_at hl 4 rfl) ?_
                        refine va_get (v := .int (nI s9)) hx hb htb i_Model hown hK hP i_9 hg_9 rfl 23 (by decide) (htb _ q7_237) (fun _ h9 => h9) rfl d_Model_faultOf_313 ?_
                        refine lv_iconst (v := 1) hx hb d_Model_faultOf_316 (by decide) ?_
                        refine lv_isub hx hb d_Model_faultOf_317 ?_
                        rw [show ((nI s9) - 1 : Int32) = nI (s9 - 1) from pk_sub (a := s9) (b := 1) (by omega)]
                        refine lv_icmp_ge (tgt := 402) hx hb d_Model_faultOf_318 (by decide) (fun c318 => ?_) (fun c318 => ?_)
                        · have p318 : (s9 - 1) ≤ z310 := ((nI_leI (a := (s9 - 1)) (b := z310) (by omega) (by omega)).mp c318)
                          refine lv_aload_n hx hb d_Model_faultOf_402 rfl (lv_at hl 3 rfl) ?_
                          refine va_get (v := .int ((τ t10).I 26)) hx hb htb i_Text hown hK hP i_15 hg_15 rfl 26 (by decide) (htb _ q6_224) (fun _ h9 => h9) rfl d_Model_faultOf_403 ?_
                          refine lv_if_lt (tgt := 425) hx hb d_Model_faultOf_406 (by decide) (fun c406 => ?_) (fun c406 => ?_)
                          · have p406 : ((τ t10).I 26) < (0 : Int32) := c406
                            refine lv_iconst (v := 0) hx hb d_Model_faultOf_425 (by decide) ?_
                            exact W.iret (v := 0) hx hb hr (fun t ht hW => ⟨⟨_, G69, rfl, ⟨hTy, hFR, ⟨_, by rw [eX_8] at kmo; exact kmo⟩, ⟨_, hfm, kmmA⟩, ⟨_, hfr, kmrA⟩⟩, by rw [ht]; exact hP, va_K.moved hW.alike hK, hD⟩, hS.F ht⟩) hS.2.2 d_Model_faultOf_426
                          · have p406 : ¬ (((τ t10).I 26) < (0 : Int32)) := c406
                            refine lv_aload_n hx hb d_Model_faultOf_409 rfl (lv_at hl 3 rfl) ?_
                            refine va_get (v := .int ((τ t10).I 26)) hx hb htb i_Text hown hK hP i_15 hg_15 rfl 26 (by decide) (htb _ q6_224) (fun _ h9 => h9) rfl d_Model_faultOf_410 ?_
                            refine lv_iconst (v := 5) hx hb d_Model_faultOf_413 (by decide) ?_
                            refine lv_ishr hx hb d_Model_faultOf_414 ?_
                            refine lv_iconst (v := 1) hx hb d_Model_faultOf_415 (by decide) ?_
                            refine lv_iand hx hb d_Model_faultOf_416 ?_
                            refine lv_if_ne (tgt := 425) hx hb d_Model_faultOf_417 (by decide) (fun c417 => ?_) (fun c417 => ?_)
                            · have p417 : ¬ (((((τ t10).I 26) >>> (5 &&& 31)) &&& 1) = (0 : Int32)) := c417
                              refine lv_iconst (v := 0) hx hb d_Model_faultOf_425 (by decide) ?_
                              exact W.iret (v := 0) hx hb hr (fun t ht hW => ⟨⟨_, G69, rfl, ⟨hTy, hFR, ⟨_, by rw [eX_8] at kmo; exact kmo⟩, ⟨_, hfm, kmmA⟩, ⟨_, hfr, kmrA⟩⟩, by rw [ht]; exact hP, va_K.moved hW.alike hK, hD⟩, hS.F ht⟩) hS.2.2 d_Model_faultOf_426
                            · have p417 : ((((τ t10).I 26) >>> (5 &&& 31)) &&& 1) = (0 : Int32) := c417
                              refine lv_bipush (v := 9) hx hb d_Model_faultOf_420 (by decide) ?_
                              refine lv_goto (tgt := 426) hx hb d_Model_faultOf_422 (by decide) ?_
                              exact W.iret (v := 9) hx hb hr (fun t ht hW => ⟨⟨_, G69, rfl, ⟨hTy, hFR, ⟨_, by rw [eX_8] at kmo; exact kmo⟩, ⟨_, hfm, kmmA⟩, ⟨_, hfr, kmrA⟩⟩, by rw [ht]; exact hP, va_K.moved hW.alike hK, hD⟩, hS.F ht⟩) hS.2.2 d_Model_faultOf_426
                        · have p318 : ¬ ((s9 - 1) ≤ z310) := (fun q9 => c318 ((nI_leI (a := (s9 - 1)) (b := z310) (by omega) (by omega)).mpr q9))
                          refine lv_aload_n hx hb d_Model_faultOf_321 rfl (lv_at hl 4 rfl) ?_
                          refine va_get (v := .ref msT) hx hb htb i_Model hown hK hP i_9 hg_9 rfl 6 (by decide) (htb _ q7_220) (fun _ h9 => h9) rfl d_Model_faultOf_322 ?_
                          refine lv_aload_n hx hb d_Model_faultOf_325 rfl (lv_at hl 4 rfl) ?_
                          refine va_get (v := .ref mwy) hx hb htb i_Model hown hK hP i_9 hg_9 rfl 21 (by decide) (htb _ q7_235) (fun _ h9 => h9) rfl d_Model_faultOf_326 ?_
                          refine lv_iload hx hb d_Model_faultOf_329 (lv_at hl 0 rfl) ?_
                          obtain ⟨i_20, hg_20⟩ := List.getElem?_of_mem kmwy.2
                          have h331 : vp_in (nI z310) 16 := vp_in_nI (by omega) (by omega)
                          refine va_iald hx hb hK hP i_20 1 hg_20 rfl h331 d_Model_faultOf_331 ?_
                          refine lv_topi (fun e331 he331 => ?_)
                          obtain ⟨cw331, hc1_331, hc2_331⟩ := hway z310 (by omega)
                          rw [nI_clamp (by omega), hc2_331] at he331
                          subst he331
                          obtain ⟨i_21, hg_21⟩ := List.getElem?_of_mem kmsT.2
                          have h332 : vp_in (nI cw331) 16 := vp_in_nI (by omega) (by omega)
                          refine va_aldq hx hb hK hP i_21 4 hg_21 rfl h332 d_Model_faultOf_332 ?_
                          obtain ⟨t332, ft332, kt332, hc_t332⟩ := hst cw331 (by omega)
                          rw [show va_rf (fS (nI cw331).toNatClampNeg) = .ref t332 from by rw [nI_clamp (by omega), ft332]; rfl]
                          have b1_t332 := hc_t332.b1
                          have b2_t332 := hc_t332.b2
                          have b3_t332 := hc_t332.b3
                          have b4_t332 := hc_t332.b4
                          have b5_t332 := hc_t332.b5
                          have b6_t332 := hc_t332.b6
                          have b8_t332 := hc_t332.b8
                          have b9_t332 := hc_t332.b9
                          refine lv_astore (lv' := [(6, .ref t332), (5, .int (nI z310)), (4, .int x69_4), (3, .ref t24), (2, .ref t10), (0, .ref mo), (1, .int (nI i9))]) hx hb d_Model_faultOf_333 hl (by decide) rfl (fun ls hl => ?_)
                          refine lv_iconst (v := 0) hx hb d_Model_faultOf_335 (by decide) ?_
                          refine lv_istore (lv' := [(7, .int 0), (6, .ref t332), (5, .int (nI z310)), (4, .int x69_4), (3, .ref t24), (2, .ref t10), (0, .ref mo), (1, .int (nI i9))]) hx hb d_Model_faultOf_336 hl (by decide) rfl (fun ls hl => ?_)
                          refine lv_iload_n hx hb d_Model_faultOf_338 rfl (lv_at hl 7 rfl) ?_
                          refine lv_istore (lv' := [(8, .int (nI i9)), (7, .int 0), (6, .ref t332), (5, .int (nI z310)), (4, .int x69_4), (3, .ref t24), (2, .ref t10), (0, .ref mo), (1, .int (nI i9))]) hx hb d_Model_faultOf_339 hl (by decide) rfl (fun ls hl => ?_)
                          refine w_loop (α := Nat × Int32) (fun a9 => i9 ≤ a9.1 ∧ a9.1 ≤ z310) (fun a9 => z310 - a9.1) (fun a9 => [(8, .int (nI a9.1)), (7, .int a9.2), (6, .ref t332), (5, .int (nI z310)), (4, .int x69_4), (3, .ref t24), (2, .ref t10), (0, .ref mo), (1, .int (nI i9))]) (fun _ => []) 9 341 (fun a9 ls hJ hl ih341 => ?_) (i9, (0 : Int32)) ls ⟨by omega, by omega⟩ (lv_sub hl [0, 1, 2, 3, 4, 5, 6, 7, 8] rfl)
                          obtain ⟨z341, x341_7⟩ := a9
                          obtain ⟨hy341, hz341⟩ := hJ
                          dsimp only at hy341 hz341 hl ih341
                          refine lv_iload hx hb d_Model_faultOf_341 (lv_at hl 0 rfl) ?_
                          refine lv_iload hx hb d_Model_faultOf_343 (lv_at hl 3 rfl) ?_
                          refine lv_icmp_ge (tgt := 375) hx hb d_Model_faultOf_345 (by decide) (fun c345 => ?_) (fun c345 => ?_)
                          · have p345 : z310 ≤ z341 := ((nI_leI (a := z310) (b := z341) (by omega) (by omega)).mp c345)
                            refine lv_aload hx hb d_Model_faultOf_375 (lv_at hl 2 rfl) ?_
                            obtain ⟨i_22, kA_22, hg_22⟩ := tr_20 hTy kt332
                            refine va_get (v := .int ((τ t332).I 25)) hx hb htb i_Text hown hK hP i_22 hg_22 rfl 25 (by decide) (htb _ q6_222) (fun _ h9 => h9) rfl d_Model_faultOf_377 ?_
                            refine lv_if_lt (tgt := 396) hx hb d_Model_faultOf_380 (by decide) (fun c380 => ?_) (fun c380 => ?_)
                            · have p380 : ((τ t332).I 25) < (0 : Int32) := c380
                              refine lv_iinc (v := nI (z310 + 1)) (lv' := [(5, .int (nI (z310 + 1))), (8, .int (nI z341)), (7, .int x341_7), (6, .ref t332), (4, .int x69_4), (3, .ref t24), (2, .ref t10), (0, .ref mo), (1, .int (nI i9))]) hx hb d_Model_faultOf_396 hl (k := 3) rfl (nI_1 _) (by decide) rfl (fun ls hl => ?_)
                              refine lv_goto (tgt := 310) hx hb d_Model_faultOf_399 (by decide) ?_
                              exact ih310 ((z310 + 1)) ls (by omega) ⟨by omega, by omega⟩ (lv_sub hl [0, 4, 5, 6, 7, 8] rfl)
                            · have p380 : ¬ (((τ t332).I 25) < (0 : Int32)) := c380
                              refine lv_aload hx hb d_Model_faultOf_383 (lv_at hl 2 rfl) ?_
                              refine va_get (v := .int ((τ t332).I 25)) hx hb htb i_Text hown hK hP i_22 hg_22 rfl 25 (by decide) (htb _ q6_222) (fun _ h9 => h9) rfl d_Model_faultOf_385 ?_
                              refine lv_iload hx hb d_Model_faultOf_388 (lv_at hl 1 rfl) ?_
                              refine lv_icmp_ge (tgt := 396) hx hb d_Model_faultOf_390 (by decide) (fun c390 => ?_) (fun c390 => ?_)
                              · have p390 : x341_7 ≤ ((τ t332).I 25) := c390
                                refine lv_iinc (v := nI (z310 + 1)) (lv' := [(5, .int (nI (z310 + 1))), (8, .int (nI z341)), (7, .int x341_7), (6, .ref t332), (4, .int x69_4), (3, .ref t24), (2, .ref t10), (0, .ref mo), (1, .int (nI i9))]) hx hb d_Model_faultOf_396 hl (k := 3) rfl (nI_1 _) (by decide) rfl (fun ls hl => ?_)
                                refine lv_goto (tgt := 310) hx hb d_Model_faultOf_399 (by decide) ?_
                                exact ih310 ((z310 + 1)) ls (by omega) ⟨by omega, by omega⟩ (lv_sub hl [0, 4, 5, 6, 7, 8] rfl)
                              · have p390 : ¬ (x341_7 ≤ ((τ t332).I 25)) := c390
                                refine lv_bipush (v := 8) hx hb d_Model_faultOf_393 (by decide) ?_
                                exact W.iret (v := 8) hx hb hr (fun t ht hW => ⟨⟨_, G69, rfl, ⟨hTy, hFR, ⟨_, by rw [eX_8] at kmo; exact kmo⟩, ⟨_, hfm, kmmA⟩, ⟨_, hfr, kmrA⟩⟩, by rw [ht]; exact hP, va_K.moved hW.alike hK, hD⟩, hS.F ht⟩) hS.2.2 d_Model_faultOf_395
                          · have p345 : ¬ (z310 ≤ z341) := (fun q9 => c345 ((nI_leI (a := z310) (b := z341) (by omega) (by omega)).mpr q9))
                            refine lv_aload_n hx hb d_Model_faultOf_348 rfl (lv_at hl 7 rfl) ?_
                            refine va_get (v := .ref msT) hx hb htb i_Model hown hK hP i_9 hg_9 rfl 6 (by decide) (htb _ q7_220) (fun _ h9 => h9) rfl d_Model_faultOf_349 ?_
                            refine lv_aload_n hx hb d_Model_faultOf_352 rfl (lv_at hl 7 rfl) ?_
                            refine va_get (v := .ref mwy) hx hb htb i_Model hown hK hP i_9 hg_9 rfl 21 (by decide) (htb _ q7_235) (fun _ h9 => h9) rfl d_Model_faultOf_353 ?_
                            refine lv_iload hx hb d_Model_faultOf_356 (lv_at hl 0 rfl) ?_
                            have h358 : vp_in (nI z341) 16 := vp_in_nI (by omega) (by omega)
                            refine va_iald hx hb hK hP i_20 1 hg_20 rfl h358 d_Model_faultOf_358 ?_
                            refine lv_topi (fun e358 he358 => ?_)
                            obtain ⟨cw358, hc1_358, hc2_358⟩ := hway z341 (by omega)
                            rw [nI_clamp (by omega), hc2_358] at he358
                            subst he358
                            have h359 : vp_in (nI cw358) 16 := vp_in_nI (by omega) (by omega)
                            refine va_aldq hx hb hK hP i_21 4 hg_21 rfl h359 d_Model_faultOf_359 ?_
                            obtain ⟨t359, ft359, kt359, hc_t359⟩ := hst cw358 (by omega)
                            rw [show va_rf (fS (nI cw358).toNatClampNeg) = .ref t359 from by rw [nI_clamp (by omega), ft359]; rfl]
                            have b1_t359 := hc_t359.b1
                            have b2_t359 := hc_t359.b2
                            have b3_t359 := hc_t359.b3
                            have b4_t359 := hc_t359.b4
                            have b5_t359 := hc_t359.b5
                            have b6_t359 := hc_t359.b6
                            have b8_t359 := hc_t359.b8
                            have b9_t359 := hc_t359.b9
                            obtain ⟨i_23, kA_23, hg_23⟩ := tr_20 hTy kt359
                            refine vp_callSi (pu_callV (As := []) (rest := []) ⟨hx, hb, hml, hown, hts⟩ tbin (p_Text_isOwn l dC dI sb γ κ Ad τ gT G69 t359  hTy kt359 hc_t359) q9_146 q9_147 q9_148 q1_10 q9_149 (n := 0) (by decide +kernel) rfl ⟨rfl, rfl⟩ ⟨Nat.le_of_ble_eq_true rfl, Nat.le_of_ble_eq_true rfl⟩ ⟨Nat.le_of_ble_eq_true rfl, Nat.le_of_ble_eq_true rfl⟩ hN (hT0.keep hS hAs) hK hP (List.range G69.length) (rg_all G69) [0, 1, 2, 3, 4] rfl i_23 13 hg_23 rfl rfl hl.1 rfl (Nat.le_of_ble_eq_true rfl) d_Model_faultOf_360) (fun r360 hr360 => ?_)
                            refine lv_if_ne (tgt := 369) hx hb d_Model_faultOf_363 (by decide) (fun c363 => ?_) (fun c363 => ?_)
                            · have p363 : ¬ (r360 = (0 : Int32)) := c363
                              refine lv_iinc (v := nI (z341 + 1)) (lv' := [(8, .int (nI (z341 + 1))), (7, .int x341_7), (6, .ref t332), (5, .int (nI z310)), (4, .int x69_4), (3, .ref t24), (2, .ref t10), (0, .ref mo), (1, .int (nI i9))]) hx hb d_Model_faultOf_369 hl (k := 0) rfl (nI_1 _) (by decide) rfl (fun ls hl => ?_)
                              refine lv_goto (tgt := 341) hx hb d_Model_faultOf_372 (by decide) ?_
                              exact ih341 ((z341 + 1), x341_7) ls (by dsimp only; omega) ⟨by dsimp only; omega, by dsimp only; omega⟩ (lv_sub hl [0, 1, 2, 3, 4, 5, 6, 7, 8] rfl)
                            · have p363 : r360 = (0 : Int32) := c363
                              obtain ⟨v366, ev366⟩ : ∃ y : Int32, y = x341_7 + 1 := ⟨_, rfl⟩
                              refine lv_iinc (v := v366) (lv' := [(7, .int v366), (8, .int (nI z341)), (6, .ref t332), (5, .int (nI z310)), (4, .int x69_4), (3, .ref t24), (2, .ref t10), (0, .ref mo), (1, .int (nI i9))]) hx hb d_Model_faultOf_366 hl (k := 1) rfl (by rw [ev366]; exact rfl) (by decide) rfl (fun ls hl => ?_)
                              refine lv_iinc (v := nI (z341 + 1)) (lv' := [(8, .int (nI (z341 + 1))), (7, .int v366), (6, .ref t332), (5, .int (nI z310)), (4, .int x69_4), (3, .ref t24), (2, .ref t10), (0, .ref mo), (1, .int (nI i9))]) hx hb d_Model_faultOf_369 hl (k := 1) rfl (nI_1 _) (by decide) rfl (fun ls hl => ?_)
                              refine lv_goto (tgt := 341) hx hb d_Model_faultOf_372 (by decide) ?_
                              exact ih341 ((z341 + 1), v366) ls (by dsimp only; omega) ⟨by dsimp only; omega, by dsimp only; omega⟩ (lv_sub hl [0, 1, 2, 3, 4, 5, 6, 7, 8] rfl)
                      · have p299 : ((τ t10).I 40) = (0 : Int32) := c299
                        refine lv_bipush (v := 7) hx hb d_Model_faultOf_302 (by decide) ?_
                        exact W.iret (v := 7) hx hb hr (fun t ht hW => ⟨⟨_, G69, rfl, ⟨hTy, hFR, ⟨_, by rw [eX_8] at kmo; exact kmo⟩, ⟨_, hfm, kmmA⟩, ⟨_, hfr, kmrA⟩⟩, by rw [ht]; exact hP, va_K.moved hW.alike hK, hD⟩, hS.F ht⟩) hS.2.2 d_Model_faultOf_304
                    · have p290 : i9 = 0 := ((nI_eq (a := i9) (b := 0) (by omega) (by omega)).mp c290)
                      refine lv_iconst (v := 0) hx hb d_Model_faultOf_293 (by decide) ?_
                      exact W.iret (v := 0) hx hb hr (fun t ht hW => ⟨⟨_, G69, rfl, ⟨hTy, hFR, ⟨_, by rw [eX_8] at kmo; exact kmo⟩, ⟨_, hfm, kmmA⟩, ⟨_, hfr, kmrA⟩⟩, by rw [ht]; exact hP, va_K.moved hW.alike hK, hD⟩, hS.F ht⟩) hS.2.2 d_Model_faultOf_294
                  · have p283 : ¬ (((τ t10).I 30) ≤ (0 : Int32)) := c283
                    refine lv_bipush (v := 6) hx hb d_Model_faultOf_286 (by decide) ?_
                    exact W.iret (v := 6) hx hb hr (fun t ht hW => ⟨⟨_, G69, rfl, ⟨hTy, hFR, ⟨_, by rw [eX_8] at kmo; exact kmo⟩, ⟨_, hfm, kmmA⟩, ⟨_, hfr, kmrA⟩⟩, by rw [ht]; exact hP, va_K.moved hW.alike hK, hD⟩, hS.F ht⟩) hS.2.2 d_Model_faultOf_288
                · have p274 : r271 = (0 : Int32) := c274
                  refine lv_iconst (v := 5) hx hb d_Model_faultOf_277 (by decide) ?_
                  exact W.iret (v := 5) hx hb hr (fun t ht hW => ⟨⟨_, G69, rfl, ⟨hTy, hFR, ⟨_, by rw [eX_8] at kmo; exact kmo⟩, ⟨_, hfm, kmmA⟩, ⟨_, hfr, kmrA⟩⟩, by rw [ht]; exact hP, va_K.moved hW.alike hK, hD⟩, hS.F ht⟩) hS.2.2 d_Model_faultOf_278
          · have p247 : ¬ (mmk = (0 : Int32)) := c247
            refine lv_iload hx hb d_Model_faultOf_250 (lv_at hl 1 rfl) ?_
            refine lv_if_ne (tgt := 257) hx hb d_Model_faultOf_252 (by decide) (fun c252 => ?_) (fun c252 => ?_)
            · have p252 : ¬ (x69_4 = (0 : Int32)) := c252
              refine lv_iload_n hx hb d_Model_faultOf_257 rfl (lv_at hl 5 rfl) ?_
              refine lv_if_eq (tgt := 268) hx hb d_Model_faultOf_258 (by decide) (fun c258 => ?_) (fun c258 => ?_)
              · have p258 : i9 = 0 := ((nI_eq (a := i9) (b := 0) (by omega) (by omega)).mp c258)
                refine lv_aload_n hx hb d_Model_faultOf_268 rfl (lv_at hl 4 rfl) ?_
                refine lv_aload_n hx hb d_Model_faultOf_269 rfl (lv_at hl 3 rfl) ?_
                refine lv_iload_n hx hb d_Model_faultOf_270 rfl (lv_at hl 5 rfl) ?_
                refine vp_callSi (pu_callV (As := [.ref t10, .int (nI i9)]) (rest := []) ⟨hx, hb, hml, hown, hts⟩ tbin (p_Model_namesMayBe l dC dI sb γ κ Ad τ gT G69 mo t10 _ _ _ _ _ _ _ _ _ _ _ _ _ _ _ _ _ _ _ _ _ _ _ _ _ _ _ _ _ _ _ _ _ _ _ hTy (by have h9 := kmo; rw [eX_8] at h9; exact h9) kt10 hc_t10 kmwy kmsT hst hway (by omega) (by omega) (by omega)) q9_150 q9_152 qp_48 q1_9 q9_153 (n := 2) (by decide +kernel) rfl ⟨rfl, rfl⟩ ⟨Nat.le_of_ble_eq_true rfl, Nat.le_of_ble_eq_true rfl⟩ ⟨Nat.le_of_ble_eq_true rfl, Nat.le_of_ble_eq_true rfl⟩ hN (hT0.keep hS hAs) hK hP (List.range G69.length) (rg_all G69) [0, 1, 2, 3, 4] rfl i_9 12 hg_9 rfl rfl hl.1 rfl (Nat.le_of_ble_eq_true rfl) d_Model_faultOf_271) (fun r271 hr271 => ?_)
                refine lv_if_ne (tgt := 279) hx hb d_Model_faultOf_274 (by decide) (fun c274 => ?_) (fun c274 => ?_)
                · have p274 : ¬ (r271 = (0 : Int32)) := c274
                  refine lv_aload_n hx hb d_Model_faultOf_279 rfl (lv_at hl 3 rfl) ?_
                  obtain ⟨i_24, kA_24, hg_24⟩ := tr_20 hTy kt10
                  refine va_get (v := .int ((τ t10).I 30)) hx hb htb i_Text hown hK hP i_24 hg_24 rfl 30 (by decide) (htb _ q6_233) (fun _ h9 => h9) rfl d_Model_faultOf_280 ?_
                  refine lv_if_le (tgt := 289) hx hb d_Model_faultOf_283 (by decide) (fun c283 => ?_) (fun c283 => ?_)
                  · have p283 : ((τ t10).I 30) ≤ (0 : Int32) := c283
                    refine lv_iload_n hx hb d_Model_faultOf_289 rfl (lv_at hl 5 rfl) ?_
                    refine lv_if_ne (tgt := 295) hx hb d_Model_faultOf_290 (by decide) (fun c290 => ?_) (fun c290 => ?_)
                    · have p290 : ¬ (i9 = 0) := (fun q9 => c290 ((nI_eq (a := i9) (b := 0) (by omega) (by omega)).mpr q9))
                      refine lv_aload_n hx hb d_Model_faultOf_295 rfl (lv_at hl 3 rfl) ?_
                      refine va_get (v := .int ((τ t10).I 40)) hx hb htb i_Text hown hK hP i_24 hg_24 rfl 40 (by decide) (htb _ q7_9) (fun _ h9 => h9) rfl d_Model_faultOf_296 ?_
                      refine lv_if_ne (tgt := 305) hx hb d_Model_faultOf_299 (by decide) (fun c299 => ?_) (fun c299 => ?_)
                      · have p299 : ¬ (((τ t10).I 40) = (0 : Int32)) := c299
                        refine lv_iload_n hx hb d_Model_faultOf_305 rfl (lv_at hl 5 rfl) ?_
                        refine lv_iconst (v := 1) hx hb d_Model_faultOf_306 (by decide) ?_
                        refine lv_iadd hx hb d_Model_faultOf_307 ?_
                        rw [show ((nI i9) + 1 : Int32) = nI (i9 + 1) from nI_add i9 1]
                        refine lv_istore (lv' := [(5, .int (nI (i9 + 1))), (4, .int x69_4), (3, .ref t24), (2, .ref t10), (0, .ref mo), (1, .int (nI i9))]) hx hb d_Model_faultOf_308 hl (by decide) rfl (fun ls hl => ?_)
                        refine w_loop (α := Nat) (fun a9 => i9 + 1 ≤ a9 ∧ a9 ≤ (s9 - 1)) (fun a9 => (s9 - 1) - a9) (fun a9 => [(5, .int (nI a9)), (4, .int x69_4), (3, .ref t24), (2, .ref t10), (0, .ref mo), (1, .int (nI i9))]) (fun _ => []) 9 310 (fun z310 ls hJ hl ih310 => ?_) ((i9 + 1)) ls ⟨by omega, by omega⟩ (lv_sub hl [0, 1, 2, 3, 4, 5] rfl)
                        skip
                        obtain ⟨hy310, hz310⟩ := hJ
                        refine lv_iload hx hb d_Model_faultOf_310 (lv_at hl 0 rfl) ?_
                        refine lv_aload_n hx hb d_Model_faultOf_312 rfl (lv_at hl 4 rfl) ?_
                        refine va_get (v := .int (nI s9)) hx hb htb i_Model hown hK hP i_9 hg_9 rfl 23 (by decide) (htb _ q7_237) (fun _ h9 => h9) rfl d_Model_faultOf_313 ?_
                        refine lv_iconst (v := 1) hx hb d_Model_faultOf_316 (by decide) ?_
                        refine lv_isub hx hb d_Model_faultOf_317 ?_
                        rw [show ((nI s9) - 1 : Int32) = nI (s9 - 1) from pk_sub (a := s9) (b := 1) (by omega)]
                        refine lv_icmp_ge (tgt := 402) hx hb d_Model_faultOf_318 (by decide) (fun c318 => ?_) (fun c318 => ?_)
                        · have p318 : (s9 - 1) ≤ z310 := ((nI_leI (a := (s9 - 1)) (b := z310) (by omega) (by omega)).mp c318)
                          refine lv_aload_n hx hb d_Model_faultOf_402 rfl (lv_at hl 3 rfl) ?_
                          refine va_get (v := .int ((τ t10).I 26)) hx hb htb i_Text hown hK hP i_24 hg_24 rfl 26 (by decide) (htb _ q6_224) (fun _ h9 => h9) rfl d_Model_faultOf_403 ?_
                          refine lv_if_lt (tgt := 425) hx hb d_Model_faultOf_406 (by decide) (fun c406 => ?_) (fun c406 => ?_)
                          · have p406 : ((τ t10).I 26) < (0 : Int32) := c406
                            refine lv_iconst (v := 0) hx hb d_Model_faultOf_425 (by decide) ?_
                            exact W.iret (v := 0) hx hb hr (fun t ht hW => ⟨⟨_, G69, rfl, ⟨hTy, hFR, ⟨_, by rw [eX_8] at kmo; exact kmo⟩, ⟨_, hfm, kmmA⟩, ⟨_, hfr, kmrA⟩⟩, by rw [ht]; exact hP, va_K.moved hW.alike hK, hD⟩, hS.F ht⟩) hS.2.2 d_Model_faultOf_426
                          · have p406 : ¬ (((τ t10).I 26) < (0 : Int32)) := c406
                            refine lv_aload_n hx hb d_Model_faultOf_409 rfl (lv_at hl 3 rfl) ?_
                            refine va_get (v := .int ((τ t10).I 26)) hx hb htb i_Text hown hK hP i_24 hg_24 rfl 26 (by decide) (htb _ q6_224) (fun _ h9 => h9) rfl d_Model_faultOf_410 ?_
                            refine lv_iconst (v := 5) hx hb d_Model_faultOf_413 (by decide) ?_
                            refine lv_ishr hx hb d_Model_faultOf_414 ?_
                            refine lv_iconst (v := 1) hx hb d_Model_faultOf_415 (by decide) ?_
                            refine lv_iand hx hb d_Model_faultOf_416 ?_
                            refine lv_if_ne (tgt := 425) hx hb d_Model_faultOf_417 (by decide) (fun c417 => ?_) (fun c417 => ?_)
                            · have p417 : ¬ (((((τ t10).I 26) >>> (5 &&& 31)) &&& 1) = (0 : Int32)) := c417
                              refine lv_iconst (v := 0) hx hb d_Model_faultOf_425 (by decide) ?_
                              exact W.iret (v := 0) hx hb hr (fun t ht hW => ⟨⟨_, G69, rfl, ⟨hTy, hFR, ⟨_, by rw [eX_8] at kmo; exact kmo⟩, ⟨_, hfm, kmmA⟩, ⟨_, hfr, kmrA⟩⟩, by rw [ht]; exact hP, va_K.moved hW.alike hK, hD⟩, hS.F ht⟩) hS.2.2 d_Model_faultOf_426
                            · have p417 : ((((τ t10).I 26) >>> (5 &&& 31)) &&& 1) = (0 : Int32) := c417
                              refine lv_bipush (v := 9) hx hb d_Model_faultOf_420 (by decide) ?_
                              refine lv_goto (tgt := 426) hx hb d_Model_faultOf_422 (by decide) ?_
                              exact W.iret (v := 9) hx hb hr (fun t ht hW => ⟨⟨_, G69, rfl, ⟨hTy, hFR, ⟨_, by rw [eX_8] at kmo; exact kmo⟩, ⟨_, hfm, kmmA⟩, ⟨_, hfr, kmrA⟩⟩, by rw [ht]; exact hP, va_K.moved hW.alike hK, hD⟩, hS.F ht⟩) hS.2.2 d_Model_faultOf_426
                        · have p318 : ¬ ((s9 - 1) ≤ z310) := (fun q9 => c318 ((nI_leI (a := (s9 - 1)) (b := z310) (by omega) (by omega)).mpr q9))
                          refine lv_aload_n hx hb d_Model_faultOf_321 rfl (lv_at hl 4 rfl) ?_
                          refine va_get (v := .ref msT) hx hb htb i_Model hown hK hP i_9 hg_9 rfl 6 (by decide) (htb _ q7_220) (fun _ h9 => h9) rfl d_Model_faultOf_322 ?_
                          refine lv_aload_n hx hb d_Model_faultOf_325 rfl (lv_at hl 4 rfl) ?_
                          refine va_get (v := .ref mwy) hx hb htb i_Model hown hK hP i_9 hg_9 rfl 21 (by decide) (htb _ q7_235) (fun _ h9 => h9) rfl d_Model_faultOf_326 ?_
                          refine lv_iload hx hb d_Model_faultOf_329 (lv_at hl 0 rfl) ?_
                          obtain ⟨i_25, hg_25⟩ := List.getElem?_of_mem kmwy.2
                          have h331 : vp_in (nI z310) 16 := vp_in_nI (by omega) (by omega)
                          refine va_iald hx hb hK hP i_25 1 hg_25 rfl h331 d_Model_faultOf_331 ?_
                          refine lv_topi (fun e331 he331 => ?_)
                          obtain ⟨cw331, hc1_331, hc2_331⟩ := hway z310 (by omega)
                          rw [nI_clamp (by omega), hc2_331] at he331
                          subst he331
                          obtain ⟨i_26, hg_26⟩ := List.getElem?_of_mem kmsT.2
                          have h332 : vp_in (nI cw331) 16 := vp_in_nI (by omega) (by omega)
                          refine va_aldq hx hb hK hP i_26 4 hg_26 rfl h332 d_Model_faultOf_332 ?_
                          obtain ⟨t332, ft332, kt332, hc_t332⟩ := hst cw331 (by omega)
                          rw [show va_rf (fS (nI cw331).toNatClampNeg) = .ref t332 from by rw [nI_clamp (by omega), ft332]; rfl]
                          have b1_t332 := hc_t332.b1
                          have b2_t332 := hc_t332.b2
                          have b3_t332 := hc_t332.b3
                          have b4_t332 := hc_t332.b4
                          have b5_t332 := hc_t332.b5
                          have b6_t332 := hc_t332.b6
                          have b8_t332 := hc_t332.b8
                          have b9_t332 := hc_t332.b9
                          refine lv_astore (lv' := [(6, .ref t332), (5, .int (nI z310)), (4, .int x69_4), (3, .ref t24), (2, .ref t10), (0, .ref mo), (1, .int (nI i9))]) hx hb d_Model_faultOf_333 hl (by decide) rfl (fun ls hl => ?_)
                          refine lv_iconst (v := 0) hx hb d_Model_faultOf_335 (by decide) ?_
                          refine lv_istore (lv' := [(7, .int 0), (6, .ref t332), (5, .int (nI z310)), (4, .int x69_4), (3, .ref t24), (2, .ref t10), (0, .ref mo), (1, .int (nI i9))]) hx hb d_Model_faultOf_336 hl (by decide) rfl (fun ls hl => ?_)
                          refine lv_iload_n hx hb d_Model_faultOf_338 rfl (lv_at hl 7 rfl) ?_
                          refine lv_istore (lv' := [(8, .int (nI i9)), (7, .int 0), (6, .ref t332), (5, .int (nI z310)), (4, .int x69_4), (3, .ref t24), (2, .ref t10), (0, .ref mo), (1, .int (nI i9))]) hx hb d_Model_faultOf_339 hl (by decide) rfl (fun ls hl => ?_)
                          refine w_loop (α := Nat × Int32) (fun a9 => i9 ≤ a9.1 ∧ a9.1 ≤ z310) (fun a9 => z310 - a9.1) (fun a9 => [(8, .int (nI a9.1)), (7, .int a9.2), (6, .ref t332), (5, .int (nI z310)), (4, .int x69_4), (3, .ref t24), (2, .ref t10), (0, .ref mo), (1, .int (nI i9))]) (fun _ => []) 9 341 (fun a9 ls hJ hl ih341 => ?_) (i9, (0 : Int32)) ls ⟨by omega, by omega⟩ (lv_sub hl [0, 1, 2, 3, 4, 5, 6, 7, 8] rfl)
                          obtain ⟨z341, x341_7⟩ := a9
                          obtain ⟨hy341, hz341⟩ := hJ
                          dsimp only at hy341 hz341 hl ih341
                          refine lv_iload hx hb d_Model_faultOf_341 (lv_at hl 0 rfl) ?_
                          refine lv_iload hx hb d_Model_faultOf_343 (lv_at hl 3 rfl) ?_
                          refine lv_icmp_ge (tgt := 375) hx hb d_Model_faultOf_345 (by decide) (fun c345 => ?_) (fun c345 => ?_)
                          · have p345 : z310 ≤ z341 := ((nI_leI (a := z310) (b := z341) (by omega) (by omega)).mp c345)
                            refine lv_aload hx hb d_Model_faultOf_375 (lv_at hl 2 rfl) ?_
                            obtain ⟨i_27, kA_27, hg_27⟩ := tr_20 hTy kt332
                            refine va_get (v := .int ((τ t332).I 25)) hx hb htb i_Text hown hK hP i_27 hg_27 rfl 25 (by decide) (htb _ q6_222) (fun _ h9 => h9) rfl d_Model_faultOf_377 ?_
                            refine lv_if_lt (tgt := 396) hx hb d_Model_faultOf_380 (by decide) (fun c380 => ?_) (fun c380 => ?_)
                            · have p380 : ((τ t332).I 25) < (0 : Int32) := c380
                              refine lv_iinc (v := nI (z310 + 1)) (lv' := [(5, .int (nI (z310 + 1))), (8, .int (nI z341)), (7, .int x341_7), (6, .ref t332), (4, .int x69_4), (3, .ref t24), (2, .ref t10), (0, .ref mo), (1, .int (nI i9))]) hx hb d_Model_faultOf_396 hl (k := 3) rfl (nI_1 _) (by decide) rfl (fun ls hl => ?_)
                              refine lv_goto (tgt := 310) hx hb d_Model_faultOf_399 (by decide) ?_
                              exact ih310 ((z310 + 1)) ls (by omega) ⟨by omega, by omega⟩ (lv_sub hl [0, 4, 5, 6, 7, 8] rfl)
                            · have p380 : ¬ (((τ t332).I 25) < (0 : Int32)) := c380
                              refine lv_aload hx hb d_Model_faultOf_383 (lv_at hl 2 rfl) ?_
                              refine va_get (v := .int ((τ t332).I 25)) hx hb htb i_Text hown hK hP i_27 hg_27 rfl 25 (by decide) (htb _ q6_222) (fun _ h9 => h9) rfl d_Model_faultOf_385 ?_
                              refine lv_iload hx hb d_Model_faultOf_388 (lv_at hl 1 rfl) ?_
                              refine lv_icmp_ge (tgt := 396) hx hb d_Model_faultOf_390 (by decide) (fun c390 => ?_) (fun c390 => ?_)
                              · have p390 : x341_7 ≤ ((τ t332).I 25) := c390
                                refine lv_iinc (v := nI (z310 + 1)) (lv' := [(5, .int (nI (z310 + 1))), (8, .int (nI z341)), (7, .int x341_7), (6, .ref t332), (4, .int x69_4), (3, .ref t24), (2, .ref t10), (0, .ref mo), (1, .int (nI i9))]) hx hb d_Model_faultOf_396 hl (k := 3) rfl (nI_1 _) (by decide) rfl (fun ls hl => ?_)
                                refine lv_goto (tgt := 310) hx hb d_Model_faultOf_399 (by decide) ?_
                                exact ih310 ((z310 + 1)) ls (by omega) ⟨by omega, by omega⟩ (lv_sub hl [0, 4, 5, 6, 7, 8] rfl)
                              · have p390 : ¬ (x341_7 ≤ ((τ t332).I 25)) := c390
                                refine lv_bipush (v := 8) hx hb d_Model_faultOf_393 (by decide) ?_
                                exact W.iret (v := 8) hx hb hr (fun t ht hW => ⟨⟨_, G69, rfl, ⟨hTy, hFR, ⟨_, by rw [eX_8] at kmo; exact kmo⟩, ⟨_, hfm, kmmA⟩, ⟨_, hfr, kmrA⟩⟩, by rw [ht]; exact hP, va_K.moved hW.alike hK, hD⟩, hS.F ht⟩) hS.2.2 d_Model_faultOf_395
                          · have p345 : ¬ (z310 ≤ z341) := (fun q9 => c345 ((nI_leI (a := z310) (b := z341) (by omega) (by omega)).mpr q9))
                            refine lv_aload_n hx hb d_Model_faultOf_348 rfl (lv_at hl 7 rfl) ?_
                            refine va_get (v := .ref msT) hx hb htb i_Model hown hK hP i_9 hg_9 rfl 6 (by decide) (htb _ q7_220) (fun _ h9 => h9) rfl d_Model_faultOf_349 ?_
                            refine lv_aload_n hx hb d_Model_faultOf_352 rfl (lv_at hl 7 rfl) ?_
                            refine va_get (v := .ref mwy) hx hb htb i_Model hown hK hP i_9 hg_9 rfl 21 (by decide) (htb _ q7_235) (fun _ h9 => h9) rfl d_Model_faultOf_353 ?_
                            refine lv_iload hx hb d_Model_faultOf_356 (lv_at hl 0 rfl) ?_
                            have h358 : vp_in (nI z341) 16 := vp_in_nI (by omega) (by omega)
                            refine va_iald hx hb hK hP i_25 1 hg_25 rfl h358 d_Model_faultOf_358 ?_
                            refine lv_topi (fun e358 he358 => ?_)
                            obtain ⟨cw358, hc1_358, hc2_358⟩ := hway z341 (by omega)
                            rw [nI_clamp (by omega), hc2_358] at he358
                            subst he358
                            have h359 : vp_in (nI cw358) 16 := vp_in_nI (by omega) (by omega)
                            refine va_aldq hx hb hK hP i_26 4 hg_26 rfl h359 d_Model_faultOf_359 ?_
                            obtain ⟨t359, ft359, kt359, hc_t359⟩ := hst cw358 (by omega)
                            rw [show va_rf (fS (nI cw358).toNatClampNeg) = .ref t359 from by rw [nI_clamp (by omega), ft359]; rfl]
                            have b1_t359 := hc_t359.b1
                            have b2_t359 := hc_t359.b2
                            have b3_t359 := hc_t359.b3
                            have b4_t359 := hc_t359.b4
                            have b5_t359 := hc_t359.b5
                            have b6_t359 := hc_t359.b6
                            have b8_t359 := hc_t359.b8
                            have b9_t359 := hc_t359.b9
                            obtain ⟨i_28, kA_28, hg_28⟩ := tr_20 hTy kt359
                            refine vp_callSi (pu_callV (As := []) (rest := []) ⟨hx, hb, hml, hown, hts⟩ tbin (p_Text_isOwn l dC dI sb γ κ Ad τ gT G69 t359  hTy kt359 hc_t359) q9_146 q9_147 q9_148 q1_10 q9_149 (n := 0) (by decide +kernel) rfl ⟨rfl, rfl⟩ ⟨Nat.le_of_ble_eq_true rfl, Nat.le_of_ble_eq_true rfl⟩ ⟨Nat.le_of_ble_eq_true rfl, Nat.le_of_ble_eq_true rfl⟩ hN (hT0.keep hS hAs) hK hP (List.range G69.length) (rg_all G69) [0, 1, 2, 3, 4] rfl i_28 13 hg_28 rfl rfl hl.1 rfl (Nat.le_of_ble_eq_true rfl) d_Model_faultOf_360) (fun r360 hr360 => ?_)
                            refine lv_if_ne (tgt := 369) hx hb d_Model_faultOf_363 (by decide) (fun c363 => ?_) (fun c363 => ?_)
                            · have p363 : ¬ (r360 = (0 : Int32)) := c363
                              refine lv_iinc (v := nI (z341 + 1)) (lv' := [(8, .int (nI (z341 + 1))), (7, .int x341_7), (6, .ref t332), (5, .int (nI z310)), (4, .int x69_4), (3, .ref t24), (2, .ref t10), (0, .ref mo), (1, .int (nI i9))]) hx hb d_Model_faultOf_369 hl (k := 0) rfl (nI_1 _) (by decide) rfl (fun ls hl => ?_)
                              refine lv_goto (tgt := 341) hx hb d_Model_faultOf_372 (by decide) ?_
                              exact ih341 ((z341 + 1), x341_7) ls (by dsimp only; omega) ⟨by dsimp only; omega, by dsimp only; omega⟩ (lv_sub hl [0, 1, 2, 3, 4, 5, 6, 7, 8] rfl)
                            · have p363 : r360 = (0 : Int32) := c363
                              obtain ⟨v366, ev366⟩ : ∃ y : Int32, y = x341_7 + 1 := ⟨_, rfl⟩
                              refine lv_iinc (v := v366) (lv' := [(7, .int v366), (8, .int (nI z341)), (6, .ref t332), (5, .int (nI z310)), (4, .int x69_4), (3, .ref t24), (2, .ref t10), (0, .ref mo), (1, .int (nI i9))]) hx hb d_Model_faultOf_366 hl (k := 1) rfl (by rw [ev366]; exact rfl) (by decide) rfl (fun ls hl => ?_)
                              refine lv_iinc (v := nI (z341 + 1)) (lv' := [(8, .int (nI (z341 + 1))), (7, .int v366), (6, .ref t332), (5, .int (nI z310)), (4, .int x69_4), (3, .ref t24), (2, .ref t10), (0, .ref mo), (1, .int (nI i9))]) hx hb d_Model_faultOf_369 hl (k := 1) rfl (nI_1 _) (by decide) rfl (fun ls hl => ?_)
                              refine lv_goto (tgt := 341) hx hb d_Model_faultOf_372 (by decide) ?_
                              exact ih341 ((z341 + 1), v366) ls (by dsimp only; omega) ⟨by dsimp only; omega, by dsimp only; omega⟩ (lv_sub hl [0, 1, 2, 3, 4, 5, 6, 7, 8] rfl)
                      · have p299 : ((τ t10).I 40) = (0 : Int32) := c299
                        refine lv_bipush (v := 7) hx hb d_Model_faultOf_302 (by decide) ?_
                        exact W.iret (v := 7) hx hb hr (fun t ht hW => ⟨⟨_, G69, rfl, ⟨hTy, hFR, ⟨_, by rw [eX_8] at kmo; exact kmo⟩, ⟨_, hfm, kmmA⟩, ⟨_, hfr, kmrA⟩⟩, by rw [ht]; exact hP, va_K.moved hW.alike hK, hD⟩, hS.F ht⟩) hS.2.2 d_Model_faultOf_304
                    · have p290 : i9 = 0 := ((nI_eq (a := i9) (b := 0) (by omega) (by omega)).mp c290)
                      refine lv_iconst (v := 0) hx hb d_Model_faultOf_293 (by decide) ?_
                      exact W.iret (v := 0) hx hb hr (fun t ht hW => ⟨⟨_, G69, rfl, ⟨hTy, hFR, ⟨_, by rw [eX_8] at kmo; exact kmo⟩, ⟨_, hfm, kmmA⟩, ⟨_, hfr, kmrA⟩⟩, by rw [ht]; exact hP, va_K.moved hW.alike hK, hD⟩, hS.F ht⟩) hS.2.2 d_Model_faultOf_294
                  · have p283 : ¬ (((τ t10).I 30) ≤ (0 : Int32)) := c283
                    refine lv_bipush (v := 6) hx hb d_Model_faultOf_286 (by decide) ?_
                    exact W.iret (v := 6) hx hb hr (fun t ht hW => ⟨⟨_, G69, rfl, ⟨hTy, hFR, ⟨_, by rw [eX_8] at kmo; exact kmo⟩, ⟨_, hfm, kmmA⟩, ⟨_, hfr, kmrA⟩⟩, by rw [ht]; exact hP, va_K.moved hW.alike hK, hD⟩, hS.F ht⟩) hS.2.2 d_Model_faultOf_288
                · have p274 : r271 = (0 : Int32) := c274
                  refine lv_iconst (v := 5) hx hb d_Model_faultOf_277 (by decide) ?_
                  exact W.iret (v := 5) hx hb hr (fun t ht hW => ⟨⟨_, G69, rfl, ⟨hTy, hFR, ⟨_, by rw [eX_8] at kmo; exact kmo⟩, ⟨_, hfm, kmmA⟩, ⟨_, hfr, kmrA⟩⟩, by rw [ht]; exact hP, va_K.moved hW.alike hK, hD⟩, hS.F ht⟩) hS.2.2 d_Model_faultOf_278
              · have p258 : ¬ (i9 = 0) := (fun q9 => c258 ((nI_eq (a := i9) (b := 0) (by omega) (by omega)).mpr q9))
                refine lv_aload_n hx hb d_Model_faultOf_261 rfl (lv_at hl 3 rfl) ?_
                obtain ⟨i_29, kA_29, hg_29⟩ := tr_20 hTy kt10
                refine vp_callSi (pu_callV (As := []) (rest := []) ⟨hx, hb, hml, hown, hts⟩ tbin (p_Text_isOwn l dC dI sb γ κ Ad τ gT G69 t10  hTy kt10 hc_t10) q9_146 q9_147 q9_148 q1_10 q9_149 (n := 0) (by decide +kernel) rfl ⟨rfl, rfl⟩ ⟨Nat.le_of_ble_eq_true rfl, Nat.le_of_ble_eq_true rfl⟩ ⟨Nat.le_of_ble_eq_true rfl, Nat.le_of_ble_eq_true rfl⟩ hN (hT0.keep hS hAs) hK hP (List.range G69.length) (rg_all G69) [0, 1, 2, 3, 4] rfl i_29 13 hg_29 rfl rfl hl.1 rfl (Nat.le_of_ble_eq_true rfl) d_Model_faultOf_262) (fun r262 hr262 => ?_)
                refine lv_if_ne (tgt := 279) hx hb d_Model_faultOf_265 (by decide) (fun c265 => ?_) (fun c265 => ?_)
                · have p265 : ¬ (r262 = (0 : Int32)) := c265
                  refine lv_aload_n hx hb d_Model_faultOf_279 rfl (lv_at hl 3 rfl) ?_
                  refine va_get (v := .int ((τ t10).I 30)) hx hb htb i_Text hown hK hP i_29 hg_29 rfl 30 (by decide) (htb _ q6_233) (fun _ h9 => h9) rfl d_Model_faultOf_280 ?_
                  refine lv_if_le (tgt := 289) hx hb d_Model_faultOf_283 (by decide) (fun c283 => ?_) (fun c283 => ?_)
                  · have p283 : ((τ t10).I 30) ≤ (0 : Int32) := c283
                    refine lv_iload_n hx hb d_Model_faultOf_289 rfl (lv_at hl 5 rfl) ?_
                    refine lv_if_ne (tgt := 295) hx hb d_Model_faultOf_290 (by decide) (fun c290 => ?_) (fun c290 => ?_)
                    · have p290 : ¬ (i9 = 0) := (fun q9 => c290 ((nI_eq (a := i9) (b := 0) (by omega) (by omega)).mpr q9))
                      refine lv_aload_n hx hb d_Model_faultOf_295 rfl (lv_at hl 3 rfl) ?_
                      refine va_get (v := .int ((τ t10).I 40)) hx hb htb i_Text hown hK hP i_29 hg_29 rfl 40 (by decide) (htb _ q7_9) (fun _ h9 => h9) rfl d_Model_faultOf_296 ?_
                      refine lv_if_ne (tgt := 305) hx hb d_Model_faultOf_299 (by decide) (fun c299 => ?_) (fun c299 => ?_)
                      · have p299 : ¬ (((τ t10).I 40) = (0 : Int32)) := c299
                        refine lv_iload_n hx hb d_Model_faultOf_305 rfl (lv_at hl 5 rfl) ?_
                        refine lv_iconst (v := 1) hx hb d_Model_faultOf_306 (by decide) ?_
                        refine lv_iadd hx hb d_Model_faultOf_307 ?_
                        rw [show ((nI i9) + 1 : Int32) = nI (i9 + 1) from nI_add i9 1]
                        refine lv_istore (lv' := [(5, .int (nI (i9 + 1))), (4, .int x69_4), (3, .ref t24), (2, .ref t10), (0, .ref mo), (1, .int (nI i9))]) hx hb d_Model_faultOf_308 hl (by decide) rfl (fun ls hl => ?_)
                        refine w_loop (α := Nat) (fun a9 => i9 + 1 ≤ a9 ∧ a9 ≤ (s9 - 1)) (fun a9 => (s9 - 1) - a9) (fun a9 => [(5, .int (nI a9)), (4, .int x69_4), (3, .ref t24), (2, .ref t10), (0, .ref mo), (1, .int (nI i9))]) (fun _ => []) 9 310 (fun z310 ls hJ hl ih310 => ?_) ((i9 + 1)) ls ⟨by omega, by omega⟩ (lv_sub hl [0, 1, 2, 3, 4, 5] rfl)
                        skip
                        obtain ⟨hy310, hz310⟩ := hJ
                        refine lv_iload hx hb d_Model_faultOf_310 (lv_at hl 0 rfl) ?_
                        refine lv_aload_n hx hb d_Model_faultOf_312 rfl (lv_at hl 4 rfl) ?_
                        refine va_get (v := .int (nI s9)) hx hb htb i_Model hown hK hP i_9 hg_9 rfl 23 (by decide) (htb _ q7_237) (fun _ h9 => h9) rfl d_Model_faultOf_313 ?_
                        refine lv_iconst (v := 1) hx hb d_Model_faultOf_316 (by decide) ?_
                        refine lv_isub hx hb d_Model_faultOf_317 ?_
                        rw [show ((nI s9) - 1 : Int32) = nI (s9 - 1) from pk_sub (a := s9) (b := 1) (by omega)]
                        refine lv_icmp_ge (tgt := 402) hx hb d_Model_faultOf_318 (by decide) (fun c318 => ?_) (fun c318 => ?_)
                        · have p318 : (s9 - 1) ≤ z310 := ((nI_leI (a := (s9 - 1)) (b := z310) (by omega) (by omega)).mp c318)
                          refine lv_aload_n hx hb d_Model_faultOf_402 rfl (lv_at hl 3 rfl) ?_
                          refine va_get (v := .int ((τ t10).I 26)) hx hb htb i_Text hown hK hP i_29 hg_29 rfl 26 (by decide) (htb _ q6_224) (fun _ h9 => h9) rfl d_Model_faultOf_403 ?_
                          refine lv_if_lt (tgt := 425) hx hb d_Model_faultOf_406 (by decide) (fun c406 => ?_) (fun c406 => ?_)
                          · have p406 : ((τ t10).I 26) < (0 : Int32) := c406
                            refine lv_iconst (v := 0) hx hb d_Model_faultOf_425 (by decide) ?_
                            exact W.iret (v := 0) hx hb hr (fun t ht hW => ⟨⟨_, G69, rfl, ⟨hTy, hFR, ⟨_, by rw [eX_8] at kmo; exact kmo⟩, ⟨_, hfm, kmmA⟩, ⟨_, hfr, kmrA⟩⟩, by rw [ht]; exact hP, va_K.moved hW.alike hK, hD⟩, hS.F ht⟩) hS.2.2 d_Model_faultOf_426
                          · have p406 : ¬ (((τ t10).I 26) < (0 : Int32)) := c406
                            refine lv_aload_n hx hb d_Model_faultOf_409 rfl (lv_at hl 3 rfl) ?_
                            refine va_get (v := .int ((τ t10).I 26)) hx hb htb i_Text hown hK hP i_29 hg_29 rfl 26 (by decide) (htb _ q6_224) (fun _ h9 => h9) rfl d_Model_faultOf_410 ?_
                            refine lv_iconst (v := 5) hx hb d_Model_faultOf_413 (by decide) ?_
                            refine lv_ishr hx hb d_Model_faultOf_414 ?_
                            refine lv_iconst (v := 1) hx hb d_Model_faultOf_415 (by decide) ?_
                            refine lv_iand hx hb d_Model_faultOf_416 ?_
                            refine lv_if_ne (tgt := 425) hx hb d_Model_faultOf_417 (by decide) (fun c417 => ?_) (fun c417 => ?_)
                            · have p417 : ¬ (((((τ t10).I 26) >>> (5 &&& 31)) &&& 1) = (0 : Int32)) := c417
                              refine lv_iconst (v := 0) hx hb d_Model_faultOf_425 (by decide) ?_
                              exact W.iret (v := 0) hx hb hr (fun t ht hW => ⟨⟨_, G69, rfl, ⟨hTy, hFR, ⟨_, by rw [eX_8] at kmo; exact kmo⟩, ⟨_, hfm, kmmA⟩, ⟨_, hfr, kmrA⟩⟩, by rw [ht]; exact hP, va_K.moved hW.alike hK, hD⟩, hS.F ht⟩) hS.2.2 d_Model_faultOf_426
                            · have p417 : ((((τ t10).I 26) >>> (5 &&& 31)) &&& 1) = (0 : Int32) := c417
                              refine lv_bipush (v := 9) hx hb d_Model_faultOf_420 (by decide) ?_
                              refine lv_goto (tgt := 426) hx hb d_Model_faultOf_422 (by decide) ?_
                              exact W.iret (v := 9) hx hb hr (fun t ht hW => ⟨⟨_, G69, rfl, ⟨hTy, hFR, ⟨_, by rw [eX_8] at kmo; exact kmo⟩, ⟨_, hfm, kmmA⟩, ⟨_, hfr, kmrA⟩⟩, by rw [ht]; exact hP, va_K.moved hW.alike hK, hD⟩, hS.F ht⟩) hS.2.2 d_Model_faultOf_426
                        · have p318 : ¬ ((s9 - 1) ≤ z310) := (fun q9 => c318 ((nI_leI (a := (s9 - 1)) (b := z310) (by omega) (by omega)).mpr q9))
                          refine lv_aload_n hx hb d_Model_faultOf_321 rfl (lv_at hl 4 rfl) ?_
                          refine va_get (v := .ref msT) hx hb htb i_Model hown hK hP i_9 hg_9 rfl 6 (by decide) (htb _ q7_220) (fun _ h9 => h9) rfl d_Model_faultOf_322 ?_
                          refine lv_aload_n hx hb d_Model_faultOf_325 rfl (lv_at hl 4 rfl) ?_
                          refine va_get (v := .ref mwy) hx hb htb i_Model hown hK hP i_9 hg_9 rfl 21 (by decide) (htb _ q7_235) (fun _ h9 => h9) rfl d_Model_faultOf_326 ?_
                          refine lv_iload hx hb d_Model_faultOf_329 (lv_at hl 0 rfl) ?_
                          obtain ⟨i_30, hg_30⟩ := List.getElem?_of_mem kmwy.2
                          have h331 : vp_in (nI z310) 16 := vp_in_nI (by omega) (by omega)
                          refine va_iald hx hb hK hP i_30 1 hg_30 rfl h331 d_Model_faultOf_331 ?_
                          refine lv_topi (fun e331 he331 => ?_)
                          obtain ⟨cw331, hc1_331, hc2_331⟩ := hway z310 (by omega)
                          rw [nI_clamp (by omega), hc2_331] at he331
                          subst he331
                          obtain ⟨i_31, hg_31⟩ := List.getElem?_of_mem kmsT.2
                          have h332 : vp_in (nI cw331) 16 := vp_in_nI (by omega) (by omega)
                          refine va_aldq hx hb hK hP i_31 4 hg_31 rfl h332 d_Model_faultOf_332 ?_
                          obtain ⟨t332, ft332, kt332, hc_t332⟩ := hst cw331 (by omega)
                          rw [show va_rf (fS (nI cw331).toNatClampNeg) = .ref t332 from by rw [nI_clamp (by omega), ft332]; rfl]
                          have b1_t332 := hc_t332.b1
                          have b2_t332 := hc_t332.b2
                          have b3_t332 := hc_t332.b3
                          have b4_t332 := hc_t332.b4
                          have b5_t332 := hc_t332.b5
                          have b6_t332 := hc_t332.b6
                          have b8_t332 := hc_t332.b8
                          have b9_t332 := hc_t332.b9
                          refine lv_astore (lv' := [(6, .ref t332), (5, .int (nI z310)), (4, .int x69_4), (3, .ref t24), (2, .ref t10), (0, .ref mo), (1, .int (nI i9))]) hx hb d_Model_faultOf_333 hl (by decide) rfl (fun ls hl => ?_)
                          refine lv_iconst (v := 0) hx hb d_Model_faultOf_335 (by decide) ?_
                          refine lv_istore (lv' := [(7, .int 0), (6, .ref t332), (5, .int (nI z310)), (4, .int x69_4), (3, .ref t24), (2, .ref t10), (0, .ref mo), (1, .int (nI i9))]) hx hb d_Model_faultOf_336 hl (by decide) rfl (fun ls hl => ?_)
                          refine lv_iload_n hx hb d_Model_faultOf_338 rfl (lv_at hl 7 rfl) ?_
                          refine lv_istore (lv' := [(8, .int (nI i9)), (7, .int 0), (6, .ref t332), (5, .int (nI z310)), (4, .int x69_4), (3, .ref t24), (2, .ref t10), (0, .ref mo), (1, .int (nI i9))]) hx hb d_Model_faultOf_339 hl (by decide) rfl (fun ls hl => ?_)
                          refine w_loop (α := Nat × Int32) (fun a9 => i9 ≤ a9.1 ∧ a9.1 ≤ z310) (fun a9 => z310 - a9.1) (fun a9 => [(8, .int (nI a9.1)), (7, .int a9.2), (6, .ref t332), (5, .int (nI z310)), (4, .int x69_4), (3, .ref t24), (2, .ref t10), (0, .ref mo), (1, .int (nI i9))]) (fun _ => []) 9 341 (fun a9 ls hJ hl ih341 => ?_) (i9, (0 : Int32)) ls ⟨by omega, by omega⟩ (lv_sub hl [0, 1, 2, 3, 4, 5, 6, 7, 8] rfl)
                          obtain ⟨z341, x341_7⟩ := a9
                          obtain ⟨hy341, hz341⟩ := hJ
                          dsimp only at hy341 hz341 hl ih341
                          refine lv_iload hx hb d_Model_faultOf_341 (lv_at hl 0 rfl) ?_
                          refine lv_iload hx hb d_Model_faultOf_343 (lv_at hl 3 rfl) ?_
                          refine lv_icmp_ge (tgt := 375) hx hb d_Model_faultOf_345 (by decide) (fun c345 => ?_) (fun c345 => ?_)
                          · have p345 : z310 ≤ z341 := ((nI_leI (a := z310) (b := z341) (by omega) (by omega)).mp c345)
                            refine lv_aload hx hb d_Model_faultOf_375 (lv_at hl 2 rfl) ?_
                            obtain ⟨i_32, kA_32, hg_32⟩ := tr_20 hTy kt332
                            refine va_get (v := .int ((τ t332).I 25)) hx hb htb i_Text hown hK hP i_32 hg_32 rfl 25 (by decide) (htb _ q6_222) (fun _ h9 => h9) rfl d_Model_faultOf_377 ?_
                            refine lv_if_lt (tgt := 396) hx hb d_Model_faultOf_380 (by decide) (fun c380 => ?_) (fun c380 => ?_)
                            · have p380 : ((τ t332).I 25) < (0 : Int32) := c380
                              refine lv_iinc (v := nI (z310 + 1)) (lv' := [(5, .int (nI (z310 + 1))), (8, .int (nI z341)), (7, .int x341_7), (6, .ref t332), (4, .int x69_4), (3, .ref t24), (2, .ref t10), (0, .ref mo), (1, .int (nI i9))]) hx hb d_Model_faultOf_396 hl (k := 3) rfl (nI_1 _) (by decide) rfl (fun ls hl => ?_)
                              refine lv_goto (tgt := 310) hx hb d_Model_faultOf_399 (by decide) ?_
                              exact ih310 ((z310 + 1)) ls (by omega) ⟨by omega, by omega⟩ (lv_sub hl [0, 4, 5, 6, 7, 8] rfl)
                            · have p380 : ¬ (((τ t332).I 25) < (0 : Int32)) := c380
                              refine lv_aload hx hb d_Model_faultOf_383 (lv_at hl 2 rfl) ?_
                              refine va_get (v := .int ((τ t332).I 25)) hx hb htb i_Text hown hK hP i_32 hg_32 rfl 25 (by decide) (htb _ q6_222) (fun _ h9 => h9) rfl d_Model_faultOf_385 ?_
                              refine lv_iload hx hb d_Model_faultOf_388 (lv_at hl 1 rfl) ?_
                              refine lv_icmp_ge (tgt := 396) hx hb d_Model_faultOf_390 (by decide) (fun c390 => ?_) (fun c390 => ?_)
                              · have p390 : x341_7 ≤ ((τ t332).I 25) := c390
                                refine lv_iinc (v := nI (z310 + 1)) (lv' := [(5, .int (nI (z310 + 1))), (8, .int (nI z341)), (7, .int x341_7), (6, .ref t332), (4, .int x69_4), (3, .ref t24), (2, .ref t10), (0, .ref mo), (1, .int (nI i9))]) hx hb d_Model_faultOf_396 hl (k := 3) rfl (nI_1 _) (by decide) rfl (fun ls hl => ?_)
                                refine lv_goto (tgt := 310) hx hb d_Model_faultOf_399 (by decide) ?_
                                exact ih310 ((z310 + 1)) ls (by omega) ⟨by omega, by omega⟩ (lv_sub hl [0, 4, 5, 6, 7, 8] rfl)
                              · have p390 : ¬ (x341_7 ≤ ((τ t332).I 25)) := c390
                                refine lv_bipush (v := 8) hx hb d_Model_faultOf_393 (by decide) ?_
                                exact W.iret (v := 8) hx hb hr (fun t ht hW => ⟨⟨_, G69, rfl, ⟨hTy, hFR, ⟨_, by rw [eX_8] at kmo; exact kmo⟩, ⟨_, hfm, kmmA⟩, ⟨_, hfr, kmrA⟩⟩, by rw [ht]; exact hP, va_K.moved hW.alike hK, hD⟩, hS.F ht⟩) hS.2.2 d_Model_faultOf_395
                          · have p345 : ¬ (z310 ≤ z341) := (fun q9 => c345 ((nI_leI (a := z310) (b := z341) (by omega) (by omega)).mpr q9))
                            refine lv_aload_n hx hb d_Model_faultOf_348 rfl (lv_at hl 7 rfl) ?_
                            refine va_get (v := .ref msT) hx hb htb i_Model hown hK hP i_9 hg_9 rfl 6 (by decide) (htb _ q7_220) (fun _ h9 => h9) rfl d_Model_faultOf_349 ?_
                            refine lv_aload_n hx hb d_Model_faultOf_352 rfl (lv_at hl 7 rfl) ?_
                            refine va_get (v := .ref mwy) hx hb htb i_Model hown hK hP i_9 hg_9 rfl 21 (by decide) (htb _ q7_235) (fun _ h9 => h9) rfl d_Model_faultOf_353 ?_
                            refine lv_iload hx hb d_Model_faultOf_356 (lv_at hl 0 rfl) ?_
                            have h358 : vp_in (nI z341) 16 := vp_in_nI (by omega) (by omega)
                            refine va_iald hx hb hK hP i_30 1 hg_30 rfl h358 d_Model_faultOf_358 ?_
                            refine lv_topi (fun e358 he358 => ?_)
                            obtain ⟨cw358, hc1_358, hc2_358⟩ := hway z341 (by omega)
                            rw [nI_clamp (by omega), hc2_358] at he358
                            subst he358
                            have h359 : vp_in (nI cw358) 16 := vp_in_nI (by omega) (by omega)
                            refine va_aldq hx hb hK hP i_31 4 hg_31 rfl h359 d_Model_faultOf_359 ?_
                            obtain ⟨t359, ft359, kt359, hc_t359⟩ := hst cw358 (by omega)
                            rw [show va_rf (fS (nI cw358).toNatClampNeg) = .ref t359 from by rw [nI_clamp (by omega), ft359]; rfl]
                            have b1_t359 := hc_t359.b1
                            have b2_t359 := hc_t359.b2
                            have b3_t359 := hc_t359.b3
                            have b4_t359 := hc_t359.b4
                            have b5_t359 := hc_t359.b5
                            have b6_t359 := hc_t359.b6
                            have b8_t359 := hc_t359.b8
                            have b9_t359 := hc_t359.b9
                            obtain ⟨i_33, kA_33, hg_33⟩ := tr_20 hTy kt359
                            refine vp_callSi (pu_callV (As := []) (rest := []) ⟨hx, hb, hml, hown, hts⟩ tbin (p_Text_isOwn l dC dI sb γ κ Ad τ gT G69 t359  hTy kt359 hc_t359) q9_146 q9_147 q9_148 q1_10 q9_149 (n := 0) (by decide +kernel) rfl ⟨rfl, rfl⟩ ⟨Nat.le_of_ble_eq_true rfl, Nat.le_of_ble_eq_true rfl⟩ ⟨Nat.le_of_ble_eq_true rfl, Nat.le_of_ble_eq_true rfl⟩ hN (hT0.keep hS hAs) hK hP (List.range G69.length) (rg_all G69) [0, 1, 2, 3, 4] rfl i_33 13 hg_33 rfl rfl hl.1 rfl (Nat.le_of_ble_eq_true rfl) d_Model_faultOf_360) (fun r360 hr360 => ?_)
                            refine lv_if_ne (tgt := 369) hx hb d_Model_faultOf_363 (by decide) (fun c363 => ?_) (fun c363 => ?_)
                            · have p363 : ¬ (r360 = (0 : Int32)) := c363
                              refine lv_iinc (v := nI (z341 + 1)) (lv' := [(8, .int (nI (z341 + 1))), (7, .int x341_7), (6, .ref t332), (5, .int (nI z310)), (4, .int x69_4), (3, .ref t24), (2, .ref t10), (0, .ref mo), (1, .int (nI i9))]) hx hb d_Model_faultOf_369 hl (k := 0) rfl (nI_1 _) (by decide) rfl (fun ls hl => ?_)
                              refine lv_goto (tgt := 341) hx hb d_Model_faultOf_372 (by decide) ?_
                              exact ih341 ((z341 + 1), x341_7) ls (by dsimp only; omega) ⟨by dsimp only; omega, by dsimp only; omega⟩ (lv_sub hl [0, 1, 2, 3, 4, 5, 6, 7, 8] rfl)
                            · have p363 : r360 = (0 : Int32) := c363
                              obtain ⟨v366, ev366⟩ : ∃ y : Int32, y = x341_7 + 1 := ⟨_, rfl⟩
                              refine lv_iinc (v := v366) (lv' := [(7, .int v366), (8, .int (nI z341)), (6, .ref t332), (5, .int (nI z310)), (4, .int x69_4), (3, .ref t24), (2, .ref t10), (0, .ref mo), (1, .int (nI i9))]) hx hb d_Model_faultOf_366 hl (k := 1) rfl (by rw [ev366]; exact rfl) (by decide) rfl (fun ls hl => ?_)
                              refine lv_iinc (v := nI (z341 + 1)) (lv' := [(8, .int (nI (z341 + 1))), (7, .int v366), (6, .ref t332), (5, .int (nI z310)), (4, .int x69_4), (3, .ref t24), (2, .ref t10), (0, .ref mo), (1, .int (nI i9))]) hx hb d_Model_faultOf_369 hl (k := 1) rfl (nI_1 _) (by decide) rfl (fun ls hl => ?_)
                              refine lv_goto (tgt := 341) hx hb d_Model_faultOf_372 (by decide) ?_
                              exact ih341 ((z341 + 1), v366) ls (by dsimp only; omega) ⟨by dsimp only; omega, by dsimp only; omega⟩ (lv_sub hl [0, 1, 2, 3, 4, 5, 6, 7, 8] rfl)
                      · have p299 : ((τ t10).I 40) = (0 : Int32) := c299
                        refine lv_bipush (v := 7) hx hb d_Model_faultOf_302 (by decide) ?_
                        exact W.iret (v := 7) hx hb hr (fun t ht hW => ⟨⟨_, G69, rfl, ⟨hTy, hFR, ⟨_, by rw [eX_8] at kmo; exact kmo⟩, ⟨_, hfm, kmmA⟩, ⟨_, hfr, kmrA⟩⟩, by rw [ht]; exact hP, va_K.moved hW.alike hK, hD⟩, hS.F ht⟩) hS.2.2 d_Model_faultOf_304
                    · have p290 : i9 = 0 := ((nI_eq (a := i9) (b := 0) (by omega) (by omega)).mp c290)
                      refine lv_iconst (v := 0) hx hb d_Model_faultOf_293 (by decide) ?_
                      exact W.iret (v := 0) hx hb hr (fun t ht hW => ⟨⟨_, G69, rfl, ⟨hTy, hFR, ⟨_, by rw [eX_8] at kmo; exact kmo⟩, ⟨_, hfm, kmmA⟩, ⟨_, hfr, kmrA⟩⟩, by rw [ht]; exact hP, va_K.moved hW.alike hK, hD⟩, hS.F ht⟩) hS.2.2 d_Model_faultOf_294
                  · have p283 : ¬ (((τ t10).I 30) ≤ (0 : Int32)) := c283
                    refine lv_bipush (v := 6) hx hb d_Model_faultOf_286 (by decide) ?_
                    exact W.iret (v := 6) hx hb hr (fun t ht hW => ⟨⟨_, G69, rfl, ⟨hTy, hFR, ⟨_, by rw [eX_8] at kmo; exact kmo⟩, ⟨_, hfm, kmmA⟩, ⟨_, hfr, kmrA⟩⟩, by rw [ht]; exact hP, va_K.moved hW.alike hK, hD⟩, hS.F ht⟩) hS.2.2 d_Model_faultOf_288
                · have p265 : r262 = (0 : Int32) := c265
                  refine lv_aload_n hx hb d_Model_faultOf_268 rfl (lv_at hl 4 rfl) ?_
                  refine lv_aload_n hx hb d_Model_faultOf_269 rfl (lv_at hl 3 rfl) ?_
                  refine lv_iload_n hx hb d_Model_faultOf_270 rfl (lv_at hl 5 rfl) ?_
                  refine vp_callSi (pu_callV (As := [.ref t10, .int (nI i9)]) (rest := []) ⟨hx, hb, hml, hown, hts⟩ tbin (p_Model_namesMayBe l dC dI sb γ κ Ad τ gT G69 mo t10 _ _ _ _ _ _ _ _ _ _ _ _ _ _ _ _ _ _ _ _ _ _ _ _ _ _ _ _ _ _ _ _ _ _ _ hTy (by have h9 := kmo; rw [eX_8] at h9; exact h9) kt10 hc_t10 kmwy kmsT hst hway (by omega) (by omega) (by omega)) q9_150 q9_152 qp_48 q1_9 q9_153 (n := 2) (by decide +kernel) rfl ⟨rfl, rfl⟩ ⟨Nat.le_of_ble_eq_true rfl, Nat.le_of_ble_eq_true rfl⟩ ⟨Nat.le_of_ble_eq_true rfl, Nat.le_of_ble_eq_true rfl⟩ hN (hT0.keep hS hAs) hK hP (List.range G69.length) (rg_all G69) [0, 1, 2, 3, 4] rfl i_9 12 hg_9 rfl rfl hl.1 rfl (Nat.le_of_ble_eq_true rfl) d_Model_faultOf_271) (fun r271 hr271 => ?_)
                  refine lv_if_ne (tgt := 279) hx hb d_Model_faultOf_274 (by decide) (fun c274 => ?_) (fun c274 => ?_)
                  · have p274 : ¬ (r271 = (0 : Int32)) := c274
                    refine lv_aload_n hx hb d_Model_faultOf_279 rfl (lv_at hl 3 rfl) ?_
                    refine va_get (v := .int ((τ t10).I 30)) hx hb htb i_Text hown hK hP i_29 hg_29 rfl 30 (by decide) (htb _ q6_233) (fun _ h9 => h9) rfl d_Model_faultOf_280 ?_
                    refine lv_if_le (tgt := 289) hx hb d_Model_faultOf_283 (by decide) (fun c283 => ?_) (fun c283 => ?_)
                    · have p283 : ((τ t10).I 30) ≤ (0 : Int32) := c283
                      refine lv_iload_n hx hb d_Model_faultOf_289 rfl (lv_at hl 5 rfl) ?_
                      refine lv_if_ne (tgt := 295) hx hb d_Model_faultOf_290 (by decide) (fun c290 => ?_) (fun c290 => ?_)
                      · have p290 : ¬ (i9 = 0) := (fun q9 => c290 ((nI_eq (a := i9) (b := 0) (by omega) (by omega)).mpr q9))
                        refine lv_aload_n hx hb d_Model_faultOf_295 rfl (lv_at hl 3 rfl) ?_
                        refine va_get (v := .int ((τ t10).I 40)) hx hb htb i_Text hown hK hP i_29 hg_29 rfl 40 (by decide) (htb _ q7_9) (fun _ h9 => h9) rfl d_Model_faultOf_296 ?_
                        refine lv_if_ne (tgt := 305) hx hb d_Model_faultOf_299 (by decide) (fun c299 => ?_) (fun c299 => ?_)
                        · have p299 : ¬ (((τ t10).I 40) = (0 : Int32)) := c299
                          refine lv_iload_n hx hb d_Model_faultOf_305 rfl (lv_at hl 5 rfl) ?_
                          refine lv_iconst (v := 1) hx hb d_Model_faultOf_306 (by decide) ?_
                          refine lv_iadd hx hb d_Model_faultOf_307 ?_
                          rw [show ((nI i9) + 1 : Int32) = nI (i9 + 1) from nI_add i9 1]
                          refine lv_istore (lv' := [(5, .int (nI (i9 + 1))), (4, .int x69_4), (3, .ref t24), (2, .ref t10), (0, .ref mo), (1, .int (nI i9))]) hx hb d_Model_faultOf_308 hl (by decide) rfl (fun ls hl => ?_)
                          refine w_loop (α := Nat) (fun a9 => i9 + 1 ≤ a9 ∧ a9 ≤ (s9 - 1)) (fun a9 => (s9 - 1) - a9) (fun a9 => [(5, .int (nI a9)), (4, .int x69_4), (3, .ref t24), (2, .ref t10), (0, .ref mo), (1, .int (nI i9))]) (fun _ => []) 9 310 (fun z310 ls hJ hl ih310 => ?_) ((i9 + 1)) ls ⟨by omega, by omega⟩ (lv_sub hl [0, 1, 2, 3, 4, 5] rfl)
                          skip
                          obtain ⟨hy310, hz310⟩ := hJ
                          refine lv_iload hx hb d_Model_faultOf_310 (lv_at hl 0 rfl) ?_
                          refine lv_aload_n hx hb d_Model_faultOf_312 rfl (lv_at hl 4 rfl) ?_
                          refine va_get (v := .int (nI s9)) hx hb htb i_Model hown hK hP i_9 hg_9 rfl 23 (by decide) (htb _ q7_237) (fun _ h9 => h9) rfl d_Model_faultOf_313 ?_
                          refine lv_iconst (v := 1) hx hb d_Model_faultOf_316 (by decide) ?_
                          refine lv_isub hx hb d_Model_faultOf_317 ?_
                          rw [show ((nI s9) - 1 : Int32) = nI (s9 - 1) from pk_sub (a := s9) (b := 1) (by omega)]
                          refine lv_icmp_ge (tgt := 402) hx hb d_Model_faultOf_318 (by decide) (fun c318 => ?_) (fun c318 => ?_)
                          · have p318 : (s9 - 1) ≤ z310 := ((nI_leI (a := (s9 - 1)) (b := z310) (by omega) (by omega)).mp c318)
                            refine lv_aload_n hx hb d_Model_faultOf_402 rfl (lv_at hl 3 rfl) ?_
                            refine va_get (v := .int ((τ t10).I 26)) hx hb htb i_Text hown hK hP i_29 hg_29 rfl 26 (by decide) (htb _ q6_224) (fun _ h9 => h9) rfl d_Model_faultOf_403 ?_
                            refine lv_if_lt (tgt := 425) hx hb d_Model_faultOf_406 (by decide) (fun c406 => ?_) (fun c406 => ?_)
                            · have p406 : ((τ t10).I 26) < (0 : Int32) := c406
                              refine lv_iconst (v := 0) hx hb d_Model_faultOf_425 (by decide) ?_
                              exact W.iret (v := 0) hx hb hr (fun t ht hW => ⟨⟨_, G69, rfl, ⟨hTy, hFR, ⟨_, by rw [eX_8] at kmo; exact kmo⟩, ⟨_, hfm, kmmA⟩, ⟨_, hfr, kmrA⟩⟩, by rw [ht]; exact hP, va_K.moved hW.alike hK, hD⟩, hS.F ht⟩) hS.2.2 d_Model_faultOf_426
                            · have p406 : ¬ (((τ t10).I 26) < (0 : Int32)) := c406
                              refine lv_aload_n hx hb d_Model_faultOf_409 rfl (lv_at hl 3 rfl) ?_
                              refine va_get (v := .int ((τ t10).I 26)) hx hb htb i_Text hown hK hP i_29 hg_29 rfl 26 (by decide) (htb _ q6_224) (fun _ h9 => h9) rfl d_Model_faultOf_410 ?_
                              refine lv_iconst (v := 5) hx hb d_Model_faultOf_413 (by decide) ?_
                              refine lv_ishr hx hb d_Model_faultOf_414 ?_
                              refine lv_iconst (v := 1) hx hb d_Model_faultOf_415 (by decide) ?_
                              refine lv_iand hx hb d_Model_faultOf_416 ?_
                              refine lv_if_ne (tgt := 425) hx hb d_Model_faultOf_417 (by decide) (fun c417 => ?_) (fun c417 => ?_)
                              · have p417 : ¬ (((((τ t10).I 26) >>> (5 &&& 31)) &&& 1) = (0 : Int32)) := c417
                                refine lv_iconst (v := 0) hx hb d_Model_faultOf_425 (by decide) ?_
                                exact W.iret (v := 0) hx hb hr (fun t ht hW => ⟨⟨_, G69, rfl, ⟨hTy, hFR, ⟨_, by rw [eX_8] at kmo; exact kmo⟩, ⟨_, hfm, kmmA⟩, ⟨_, hfr, kmrA⟩⟩, by rw [ht]; exact hP, va_K.moved hW.alike hK, hD⟩, hS.F ht⟩) hS.2.2 d_Model_faultOf_426
                              · have p417 : ((((τ t10).I 26) >>> (5 &&& 31)) &&& 1) = (0 : Int32) := c417
                                refine lv_bipush (v := 9) hx hb d_Model_faultOf_420 (by decide) ?_
                                refine lv_goto (tgt := 426) hx hb d_Model_faultOf_422 (by decide) ?_
                                exact W.iret (v := 9) hx hb hr (fun t ht hW => ⟨⟨_, G69, rfl, ⟨hTy, hFR, ⟨_, by rw [eX_8] at kmo; exact kmo⟩, ⟨_, hfm, kmmA⟩, ⟨_, hfr, kmrA⟩⟩, by rw [ht]; exact hP, va_K.moved hW.alike hK, hD⟩, hS.F ht⟩) hS.2.2 d_Model_faultOf_426
                          · have p318 : ¬ ((s9 - 1) ≤ z310) := (fun q9 => c318 ((nI_leI (a := (s9 - 1)) (b := z310) (by omega) (by omega)).mpr q9))
                            refine lv_aload_n hx hb d_Model_faultOf_321 rfl (lv_at hl 4 rfl) ?_
                            refine va_get (v := .ref msT) hx hb htb i_Model hown hK hP i_9 hg_9 rfl 6 (by decide) (htb _ q7_220) (fun _ h9 => h9) rfl d_Model_faultOf_322 ?_
                            refine lv_aload_n hx hb d_Model_faultOf_325 rfl (lv_at hl 4 rfl) ?_
                            refine va_get (v := .ref mwy) hx hb htb i_Model hown hK hP i_9 hg_9 rfl 21 (by decide) (htb _ q7_235) (fun _ h9 => h9) rfl d_Model_faultOf_326 ?_
                            refine lv_iload hx hb d_Model_faultOf_329 (lv_at hl 0 rfl) ?_
                            obtain ⟨i_34, hg_34⟩ := List.getElem?_of_mem kmwy.2
                            have h331 : vp_in (nI z310) 16 := vp_in_nI (by omega) (by omega)
                            refine va_iald hx hb hK hP i_34 1 hg_34 rfl h331 d_Model_faultOf_331 ?_
                            refine lv_topi (fun e331 he331 => ?_)
                            obtain ⟨cw331, hc1_331, hc2_331⟩ := hway z310 (by omega)
                            rw [nI_clamp (by omega), hc2_331] at he331
                            subst he331
                            obtain ⟨i_35, hg_35⟩ := List.getElem?_of_mem kmsT.2
                            have h332 : vp_in (nI cw331) 16 := vp_in_nI (by omega) (by omega)
                            refine va_aldq hx hb hK hP i_35 4 hg_35 rfl h332 d_Model_faultOf_332 ?_
                            obtain ⟨t332, ft332, kt332, hc_t332⟩ := hst cw331 (by omega)
                            rw [show va_rf (fS (nI cw331).toNatClampNeg) = .ref t332 from by rw [nI_clamp (by omega), ft332]; rfl]
                            have b1_t332 := hc_t332.b1
                            have b2_t332 := hc_t332.b2
                            have b3_t332 := hc_t332.b3
                            have b4_t332 := hc_t332.b4
                            have b5_t332 := hc_t332.b5
                            have b6_t332 := hc_t332.b6
                            have b8_t332 := hc_t332.b8
                            have b9_t332 := hc_t332.b9
                            refine lv_astore (lv' := [(6, .ref t332), (5, .int (nI z310)), (4, .int x69_4), (3, .ref t24), (2, .ref t10), (0, .ref mo), (1, .int (nI i9))]) hx hb d_Model_faultOf_333 hl (by decide) rfl (fun ls hl => ?_)
                            refine lv_iconst (v := 0) hx hb d_Model_faultOf_335 (by decide) ?_
                            refine lv_istore (lv' := [(7, .int 0), (6, .ref t332), (5, .int (nI z310)), (4, .int x69_4), (3, .ref t24), (2, .ref t10), (0, .ref mo), (1, .int (nI i9))]) hx hb d_Model_faultOf_336 hl (by decide) rfl (fun ls hl => ?_)
                            refine lv_iload_n hx hb d_Model_faultOf_338 rfl (lv_at hl 7 rfl) ?_
                            refine lv_istore (lv' := [(8, .int (nI i9)), (7, .int 0), (6, .ref t332), (5, .int (nI z310)), (4, .int x69_4), (3, .ref t24), (2, .ref t10), (0, .ref mo), (1, .int (nI i9))]) hx hb d_Model_faultOf_339 hl (by decide) rfl (fun ls hl => ?_)
                            refine w_loop (α := Nat × Int32) (fun a9 => i9 ≤ a9.1 ∧ a9.1 ≤ z310) (fun a9 => z310 - a9.1) (fun a9 => [(8, .int (nI a9.1)), (7, .int a9.2), (6, .ref t332), (5, .int (nI z310)), (4, .int x69_4), (3, .ref t24), (2, .ref t10), (0, .ref mo), (1, .int (nI i9))]) (fun _ => []) 9 341 (fun a9 ls hJ hl ih341 => ?_) (i9, (0 : Int32)) ls ⟨by omega, by omega⟩ (lv_sub hl [0, 1, 2, 3, 4, 5, 6, 7, 8] rfl)
                            obtain ⟨z341, x341_7⟩ := a9
                            obtain ⟨hy341, hz341⟩ := hJ
                            dsimp only at hy341 hz341 hl ih341
                            refine lv_iload hx hb d_Model_faultOf_341 (lv_at hl 0 rfl) ?_
                            refine lv_iload hx hb d_Model_faultOf_343 (lv_at hl 3 rfl) ?_
                            refine lv_icmp_ge (tgt := 375) hx hb d_Model_faultOf_345 (by decide) (fun c345 => ?_) (fun c345 => ?_)
                            · have p345 : z310 ≤ z341 := ((nI_leI (a := z310) (b := z341) (by omega) (by omega)).mp c345)
                              refine lv_aload hx hb d_Model_faultOf_375 (lv_at hl 2 rfl) ?_
                              obtain ⟨i_36, kA_36, hg_36⟩ := tr_20 hTy kt332
                              refine va_get (v := .int ((τ t332).I 25)) hx hb htb i_Text hown hK hP i_36 hg_36 rfl 25 (by decide) (htb _ q6_222) (fun _ h9 => h9) rfl d_Model_faultOf_377 ?_
                              refine lv_if_lt (tgt := 396) hx hb d_Model_faultOf_380 (by decide) (fun c380 => ?_) (fun c380 => ?_)
                              · have p380 : ((τ t332).I 25) < (0 : Int32) := c380
                                refine lv_iinc (v := nI (z310 + 1)) (lv' := [(5, .int (nI (z310 + 1))), (8, .int (nI z341)), (7, .int x341_7), (6, .ref t332), (4, .int x69_4), (3, .ref t24), (2, .ref t10), (0, .ref mo), (1, .int (nI i9))]) hx hb d_Model_faultOf_396 hl (k := 3) rfl (nI_1 _) (by decide) rfl (fun ls hl => ?_)
                                refine lv_goto (tgt := 310) hx hb d_Model_faultOf_399 (by decide) ?_
                                exact ih310 ((z310 + 1)) ls (by omega) ⟨by omega, by omega⟩ (lv_sub hl [0, 4, 5, 6, 7, 8] rfl)
                              · have p380 : ¬ (((τ t332).I 25) < (0 : Int32)) := c380
                                refine lv_aload hx hb d_Model_faultOf_383 (lv_at hl 2 rfl) ?_
                                refine va_get (v := .int ((τ t332).I 25)) hx hb htb i_Text hown hK hP i_36 hg_36 rfl 25 (by decide) (htb _ q6_222) (fun _ h9 => h9) rfl d_Model_faultOf_385 ?_
                                refine lv_iload hx hb d_Model_faultOf_388 (lv_at hl 1 rfl) ?_
                                refine lv_icmp_ge (tgt := 396) hx hb d_Model_faultOf_390 (by decide) (fun c390 => ?_) (fun c390 => ?_)
                                · have p390 : x341_7 ≤ ((τ t332).I 25) := c390
                                  refine lv_iinc (v := nI (z310 + 1)) (lv' := [(5, .int (nI (z310 + 1))), (8, .int (nI z341)), (7, .int x341_7), (6, .ref t332), (4, .int x69_4), (3, .ref t24), (2, .ref t10), (0, .ref mo), (1, .int (nI i9))]) hx hb d_Model_faultOf_396 hl (k := 3) rfl (nI_1 _) (by decide) rfl (fun ls hl => ?_)
                                  refine lv_goto (tgt := 310) hx hb d_Model_faultOf_399 (by decide) ?_
                                  exact ih310 ((z310 + 1)) ls (by omega) ⟨by omega, by omega⟩ (lv_sub hl [0, 4, 5, 6, 7, 8] rfl)
                                · have p390 : ¬ (x341_7 ≤ ((τ t332).I 25)) := c390
                                  refine lv_bipush (v := 8) hx hb d_Model_faultOf_393 (by decide) ?_
                                  exact W.iret (v := 8) hx hb hr (fun t ht hW => ⟨⟨_, G69, rfl, ⟨hTy, hFR, ⟨_, by rw [eX_8] at kmo; exact kmo⟩, ⟨_, hfm, kmmA⟩, ⟨_, hfr, kmrA⟩⟩, by rw [ht]; exact hP, va_K.moved hW.alike hK, hD⟩, hS.F ht⟩) hS.2.2 d_Model_faultOf_395
                            · have p345 : ¬ (z310 ≤ z341) := (fun q9 => c345 ((nI_leI (a := z310) (b := z341) (by omega) (by omega)).mpr q9))
                              refine lv_aload_n hx hb d_Model_faultOf_348 rfl (lv_at hl 7 rfl) ?_
                              refine va_get (v := .ref msT) hx hb htb i_Model hown hK hP i_9 hg_9 rfl 6 (by decide) (htb _ q7_220) (fun _ h9 => h9) rfl d_Model_faultOf_349 ?_
                              refine lv_aload_n hx hb d_Model_faultOf_352 rfl (lv_at hl 7 rfl) ?_
                              refine va_get (v := .ref mwy) hx hb htb i_Model hown hK hP i_9 hg_9 rfl 21 (by decide) (htb _ q7_235) (fun _ h9 => h9) rfl d_Model_faultOf_353 ?_
                              refine lv_iload hx hb d_Model_faultOf_356 (lv_at hl 0 rfl) ?_
                              have h358 : vp_in (nI z341) 16 := vp_in_nI (by omega) (by omega)
                              refine va_iald hx hb hK hP i_34 1 hg_34 rfl h358 d_Model_faultOf_358 ?_
                              refine lv_topi (fun e358 he358 => ?_)
                              obtain ⟨cw358, hc1_358, hc2_358⟩ := hway z341 (by omega)
                              rw [nI_clamp (by omega), hc2_358] at he358
                              subst he358
                              have h359 : vp_in (nI cw358) 16 := vp_in_nI (by omega) (by omega)
                              refine va_aldq hx hb hK hP i_35 4 hg_35 rfl h359 d_Model_faultOf_359 ?_
                              obtain ⟨t359, ft359, kt359, hc_t359⟩ := hst cw358 (by omega)
                              rw [show va_rf (fS (nI cw358).toNatClampNeg) = .ref t359 from by rw [nI_clamp (by omega), ft359]; rfl]
                              have b1_t359 := hc_t359.b1
                              have b2_t359 := hc_t359.b2
                              have b3_t359 := hc_t359.b3
                              have b4_t359 := hc_t359.b4
                              have b5_t359 := hc_t359.b5
                              have b6_t359 := hc_t359.b6
                              have b8_t359 := hc_t359.b8
                              have b9_t359 := hc_t359.b9
                              obtain ⟨i_37, kA_37, hg_37⟩ := tr_20 hTy kt359
                              refine vp_callSi (pu_callV (As := []) (rest := []) ⟨hx, hb, hml, hown, hts⟩ tbin (p_Text_isOwn l dC dI sb γ κ Ad τ gT G69 t359  hTy kt359 hc_t359) q9_146 q9_147 q9_148 q1_10 q9_149 (n := 0) (by decide +kernel) rfl ⟨rfl, rfl⟩ ⟨Nat.le_of_ble_eq_true rfl, Nat.le_of_ble_eq_true rfl⟩ ⟨Nat.le_of_ble_eq_true rfl, Nat.le_of_ble_eq_true rfl⟩ hN (hT0.keep hS hAs) hK hP (List.range G69.length) (rg_all G69) [0, 1, 2, 3, 4] rfl i_37 13 hg_37 rfl rfl hl.1 rfl (Nat.le_of_ble_eq_true rfl) d_Model_faultOf_360) (fun r360 hr360 => ?_)
                              refine lv_if_ne (tgt := 369) hx hb d_Model_faultOf_363 (by decide) (fun c363 => ?_) (fun c363 => ?_)
                              · have p363 : ¬ (r360 = (0 : Int32)) := c363
                                refine lv_iinc (v := nI (z341 + 1)) (lv' := [(8, .int (nI (z341 + 1))), (7, .int x341_7), (6, .ref t332), (5, .int (nI z310)), (4, .int x69_4), (3, .ref t24), (2, .ref t10), (0, .ref mo), (1, .int (nI i9))]) hx hb d_Model_faultOf_369 hl (k := 0) rfl (nI_1 _) (by decide) rfl (fun ls hl => ?_)
                                refine lv_goto (tgt := 341) hx hb d_Model_faultOf_372 (by decide) ?_
                                exact ih341 ((z341 + 1), x341_7) ls (by dsimp only; omega) ⟨by dsimp only; omega, by dsimp only; omega⟩ (lv_sub hl [0, 1, 2, 3, 4, 5, 6, 7, 8] rfl)
                              · have p363 : r360 = (0 : Int32) := c363
                                obtain ⟨v366, ev366⟩ : ∃ y : Int32, y = x341_7 + 1 := ⟨_, rfl⟩
                                refine lv_iinc (v := v366) (lv' := [(7, .int v366), (8, .int (nI z341)), (6, .ref t332), (5, .int (nI z310)), (4, .int x69_4), (3, .ref t24), (2, .ref t10), (0, .ref mo), (1, .int (nI i9))]) hx hb d_Model_faultOf_366 hl (k := 1) rfl (by rw [ev366]; exact rfl) (by decide) rfl (fun ls hl => ?_)
                                refine lv_iinc (v := nI (z341 + 1)) (lv' := [(8, .int (nI (z341 + 1))), (7, .int v366), (6, .ref t332), (5, .int (nI z310)), (4, .int x69_4), (3, .ref t24), (2, .ref t10), (0, .ref mo), (1, .int (nI i9))]) hx hb d_Model_faultOf_369 hl (k := 1) rfl (nI_1 _) (by decide) rfl (fun ls hl => ?_)
                                refine lv_goto (tgt := 341) hx hb d_Model_faultOf_372 (by decide) ?_
                                exact ih341 ((z341 + 1), v366) ls (by dsimp only; omega) ⟨by dsimp only; omega, by dsimp only; omega⟩ (lv_sub hl [0, 1, 2, 3, 4, 5, 6, 7, 8] rfl)
                        · have p299 : ((τ t10).I 40) = (0 : Int32) := c299
                          refine lv_bipush (v := 7) hx hb d_Model_faultOf_302 (by decide) ?_
                          exact W.iret (v := 7) hx hb hr (fun t ht hW => ⟨⟨_, G69, rfl, ⟨hTy, hFR, ⟨_, by rw [eX_8] at kmo; exact kmo⟩, ⟨_, hfm, kmmA⟩, ⟨_, hfr, kmrA⟩⟩, by rw [ht]; exact hP, va_K.moved hW.alike hK, hD⟩, hS.F ht⟩) hS.2.2 d_Model_faultOf_304
                      · have p290 : i9 = 0 := ((nI_eq (a := i9) (b := 0) (by omega) (by omega)).mp c290)
                        refine lv_iconst (v := 0) hx hb d_Model_faultOf_293 (by decide) ?_
                        exact W.iret (v := 0) hx hb hr (fun t ht hW => ⟨⟨_, G69, rfl, ⟨hTy, hFR, ⟨_, by rw [eX_8] at kmo; exact kmo⟩, ⟨_, hfm, kmmA⟩, ⟨_, hfr, kmrA⟩⟩, by rw [ht]; exact hP, va_K.moved hW.alike hK, hD⟩, hS.F ht⟩) hS.2.2 d_Model_faultOf_294
                    · have p283 : ¬ (((τ t10).I 30) ≤ (0 : Int32)) := c283
                      refine lv_bipush (v := 6) hx hb d_Model_faultOf_286 (by decide) ?_
                      exact W.iret (v := 6) hx hb hr (fun t ht hW => ⟨⟨_, G69, rfl, ⟨hTy, hFR, ⟨_, by rw [eX_8] at kmo; exact kmo⟩, ⟨_, hfm, kmmA⟩, ⟨_, hfr, kmrA⟩⟩, by rw [ht]; exact hP, va_K.moved hW.alike hK, hD⟩, hS.F ht⟩) hS.2.2 d_Model_faultOf_288
                  · have p274 : r271 = (0 : Int32) := c274
                    refine lv_iconst (v := 5) hx hb d_Model_faultOf_277 (by decide) ?_
                    exact W.iret (v := 5) hx hb hr (fun t ht hW => ⟨⟨_, G69, rfl, ⟨hTy, hFR, ⟨_, by rw [eX_8] at kmo; exact kmo⟩, ⟨_, hfm, kmmA⟩, ⟨_, hfr, kmrA⟩⟩, by rw [ht]; exact hP, va_K.moved hW.alike hK, hD⟩, hS.F ht⟩) hS.2.2 d_Model_faultOf_278
            · have p252 : x69_4 = (0 : Int32) := c252
              refine lv_iconst (v := 4) hx hb d_Model_faultOf_255 (by decide) ?_
              exact W.iret (v := 4) hx hb hr (fun t ht hW => ⟨⟨_, G69, rfl, ⟨hTy, hFR, ⟨_, by rw [eX_8] at kmo; exact kmo⟩, ⟨_, hfm, kmmA⟩, ⟨_, hfr, kmrA⟩⟩, by rw [ht]; exact hP, va_K.moved hW.alike hK, hD⟩, hS.F ht⟩) hS.2.2 d_Model_faultOf_256
        · have p75 : ¬ (KL ≤ z69) := (fun q9 => c75 ((nI_leI (a := KL) (b := z69) (by omega) (by omega)).mpr q9))
          refine lv_aload_n hx hb d_Model_faultOf_78 rfl (lv_at hl 4 rfl) ?_
          refine va_get (v := .ref mrV) hx hb htb i_Model hown hK hP i_9 hg_9 rfl 7 (by decide) (htb _ q7_221) (fun _ h9 => h9) rfl d_Model_faultOf_79 ?_
          refine lv_iload hx hb d_Model_faultOf_82 (lv_at hl 0 rfl) ?_
          obtain ⟨i_38, hg_38⟩ := List.getElem?_of_mem kmrV.2
          have h84 : vp_in (nI z69) 8 := vp_in_nI (by omega) (by omega)
          refine va_aldq hx hb hK hP i_38 4 hg_38 rfl h84 d_Model_faultOf_84 ?_
          obtain ⟨t84, ft84, kt84, hc_t84⟩ := hrv z69 (by omega)
          rw [show va_rf (fV (nI z69).toNatClampNeg) = .ref t84 from by rw [nI_clamp (by omega), ft84]; rfl]
          have b1_t84 := hc_t84.b1
          have b2_t84 := hc_t84.b2
          have b3_t84 := hc_t84.b3
          have b4_t84 := hc_t84.b4
          refine lv_astore (lv' := [(6, .ref t84), (5, .int (nI z69)), (4, .int x69_4), (3, .ref t24), (2, .ref t10), (0, .ref mo), (1, .int (nI i9))]) hx hb d_Model_faultOf_85 hl (by decide) rfl (fun ls hl => ?_)
          refine lv_aload hx hb d_Model_faultOf_87 (lv_at hl 0 rfl) ?_
          refine lv_aload hx hb d_Model_faultOf_89 (lv_at hl 0 rfl) ?_
          obtain ⟨i_39, kA_39, hg_39⟩ := tr_20 hTy kt84
          refine va_get (v := .int ((τ t84).I 12)) hx hb htb i_Text hown hK hP i_39 hg_39 rfl 12 (by decide) (htb _ q6_198) (fun _ h9 => h9) rfl d_Model_faultOf_91 ?_
          rw [hc_t84.e12]
          refine lv_aload hx hb d_Model_faultOf_94 (lv_at hl 0 rfl) ?_
          refine va_get (v := .int ((τ t84).I 13)) hx hb htb i_Text hown hK hP i_39 hg_39 rfl 13 (by decide) (htb _ q6_200) (fun _ h9 => h9) rfl d_Model_faultOf_96 ?_
          rw [hc_t84.e13]
          refine lv_aload_n hx hb d_Model_faultOf_99 rfl (lv_at hl 4 rfl) ?_
          refine lv_aload_n hx hb d_Model_faultOf_100 rfl (lv_at hl 4 rfl) ?_
          obtain ⟨i_40, kA_40, hg_40⟩ := tr_20 hTy kt10
          refine va_get (v := .int ((τ t10).I 12)) hx hb htb i_Text hown hK hP i_40 hg_40 rfl 12 (by decide) (htb _ q6_198) (fun _ h9 => h9) rfl d_Model_faultOf_101 ?_
          rw [hc_t10.e12]
          refine lv_aload_n hx hb d_Model_faultOf_104 rfl (lv_at hl 4 rfl) ?_
          refine va_get (v := .int ((τ t10).I 13)) hx hb htb i_Text hown hK hP i_40 hg_40 rfl 13 (by decide) (htb _ q6_200) (fun _ h9 => h9) rfl d_Model_faultOf_105 ?_
          rw [hc_t10.e13]
          refine vp_callSi (pu_callV (As := [.int (nI ((τ t84).is)), .int (nI ((τ t84).ie)), .ref t10, .int (nI ((τ t10).is)), .int (nI ((τ t10).ie))]) (rest := []) ⟨hx, hb, hml, hown, hts⟩ tbin (p_Text_same l dC dI sb γ κ Ad τ gT G69 t84 t10 ((τ t84).is) ((τ t84).ie) ((τ t10).is) ((τ t10).ie) hTy kt84 kt10 (by omega) (by omega) (by omega) (by omega)) q9_145 q9_32 q9_33 q1_10 q9_34 (n := 5) (by decide +kernel) rfl ⟨rfl, rfl⟩ ⟨Nat.le_of_ble_eq_true rfl, Nat.le_of_ble_eq_true rfl⟩ ⟨Nat.le_of_ble_eq_true rfl, Nat.le_of_ble_eq_true rfl⟩ hN (hT0.keep hS hAs) hK hP (List.range G69.length) (rg_all G69) [0, 1, 2, 3, 4] rfl i_39 13 hg_39 rfl rfl hl.1 rfl (Nat.le_of_ble_eq_true rfl) d_Model_faultOf_108) (fun r108 hr108 => ?_)
          refine lv_if_eq (tgt := 237) hx hb d_Model_faultOf_111 (by decide) (fun c111 => ?_) (fun c111 => ?_)
          · have p111 : r108 = (0 : Int32) := c111
            refine lv_iinc (v := nI (z69 + 1)) (lv' := [(5, .int (nI (z69 + 1))), (6, .ref t84), (4, .int x69_4), (3, .ref t24), (2, .ref t10), (0, .ref mo), (1, .int (nI i9))]) hx hb d_Model_faultOf_237 hl (k := 1) rfl (nI_1 _) (by decide) rfl (fun ls hl => ?_)
            refine lv_goto (tgt := 69) hx hb d_Model_faultOf_240 (by decide) ?_
            exact ih69 (z69 + 1, x69_4, f69_mmA, f69_mrA, v69_mqs, G69) _ _ ls (by dsimp only; omega) ⟨by dsimp only; omega, by dsimp only; omega, hTy, hFR, (by have h9 := kmo; rw [eX_8] at h9; exact h9), kmmA, kmrA, kmwy, kmsT, kmrV, ⟨hfm, hfr⟩⟩ hP hD hS (lv_sub hl [0, 2, 3, 4, 5, 6] rfl)
          · have p111 : ¬ (r108 = (0 : Int32)) := c111
            refine lv_aload_n hx hb d_Model_faultOf_114 rfl (lv_at hl 3 rfl) ?_
            obtain ⟨i_41, kA_41, hg_41⟩ := tr_20 hTy kt24
            refine va_get (v := .int ((τ t24).I 26)) hx hb htb i_Text hown hK hP i_41 hg_41 rfl 26 (by decide) (htb _ q6_224) (fun _ h9 => h9) rfl d_Model_faultOf_115 ?_
            refine lv_if_lt (tgt := 133) hx hb d_Model_faultOf_118 (by decide) (fun c118 => ?_) (fun c118 => ?_)
            · have p118 : ((τ t24).I 26) < (0 : Int32) := c118
              refine lv_aload_n hx hb d_Model_faultOf_133 rfl (lv_at hl 5 rfl) ?_
              refine va_get (v := .long mnw) hx hb htb i_Model hown hK hP i_9 hg_9 rfl 30 (by decide) (htb _ q8_4) (fun _ h9 => h9) rfl d_Model_faultOf_134 ?_
              refine lv_aload hx hb d_Model_faultOf_137 (lv_at hl 0 rfl) ?_
              refine va_get (v := .long ((τ t84).J 7)) hx hb htb i_Text hown hK hP i_39 hg_39 rfl 7 (by decide) (htb _ q6_188) (fun _ h9 => h9) rfl d_Model_faultOf_139 ?_
              refine W.lcmp hx hb d_Model_faultOf_142 ?_
              refine lv_if_lt (tgt := 237) hx hb d_Model_faultOf_143 (by decide) (fun c143 => ?_) (fun c143 => ?_)
              · have p143 : (lg_cmp mnw ((τ t84).J 7)) < (0 : Int32) := c143
                refine lv_iinc (v := nI (z69 + 1)) (lv' := [(5, .int (nI (z69 + 1))), (6, .ref t84), (4, .int x69_4), (3, .ref t24), (2, .ref t10), (0, .ref mo), (1, .int (nI i9))]) hx hb d_Model_faultOf_237 hl (k := 1) rfl (nI_1 _) (by decide) rfl (fun ls hl => ?_)
                refine lv_goto (tgt := 69) hx hb d_Model_faultOf_240 (by decide) ?_
                exact ih69 (z69 + 1, x69_4, f69_mmA, f69_mrA, v69_mqs, G69) _ _ ls (by dsimp only; omega) ⟨by dsimp only; omega, by dsimp only; omega, hTy, hFR, (by have h9 := kmo; rw [eX_8] at h9; exact h9), kmmA, kmrA, kmwy, kmsT, kmrV, ⟨hfm, hfr⟩⟩ hP hD hS (lv_sub hl [0, 2, 3, 4, 5, 6] rfl)
              · have p143 : ¬ ((lg_cmp mnw ((τ t84).J 7)) < (0 : Int32)) := c143
                refine lv_aload_n hx hb d_Model_faultOf_146 rfl (lv_at hl 5 rfl) ?_
                refine va_get (v := .long mnw) hx hb htb i_Model hown hK hP i_9 hg_9 rfl 30 (by decide) (htb _ q8_4) (fun _ h9 => h9) rfl d_Model_faultOf_147 ?_
                refine lv_aload hx hb d_Model_faultOf_150 (lv_at hl 0 rfl) ?_
                refine va_get (v := .long ((τ t84).J 8)) hx hb htb i_Text hown hK hP i_39 hg_39 rfl 8 (by decide) (htb _ q6_190) (fun _ h9 => h9) rfl d_Model_faultOf_152 ?_
                refine W.lcmp hx hb d_Model_faultOf_155 ?_
                refine lv_if_gt (tgt := 237) hx hb d_Model_faultOf_156 (by decide) (fun c156 => ?_) (fun c156 => ?_)
                · have p156 : (0 : Int32) < (lg_cmp mnw ((τ t84).J 8)) := c156
                  refine lv_iinc (v := nI (z69 + 1)) (lv' := [(5, .int (nI (z69 + 1))), (6, .ref t84), (4, .int x69_4), (3, .ref t24), (2, .ref t10), (0, .ref mo), (1, .int (nI i9))]) hx hb d_Model_faultOf_237 hl (k := 1) rfl (nI_1 _) (by decide) rfl (fun ls hl => ?_)
                  refine lv_goto (tgt := 69) hx hb d_Model_faultOf_240 (by decide) ?_
                  exact ih69 (z69 + 1, x69_4, f69_mmA, f69_mrA, v69_mqs, G69) _ _ ls (by dsimp only; omega) ⟨by dsimp only; omega, by dsimp only; omega, hTy, hFR, (by have h9 := kmo; rw [eX_8] at h9; exact h9), kmmA, kmrA, kmwy, kmsT, kmrV, ⟨hfm, hfr⟩⟩ hP hD hS (lv_sub hl [0, 2, 3, 4, 5, 6] rfl)
                · have p156 : ¬ ((0 : Int32) < (lg_cmp mnw ((τ t84).J 8))) := c156
                  refine lv_aload hx hb d_Model_faultOf_159 (lv_at hl 0 rfl) ?_
                  refine va_get (v := .int ((τ t84).I 30)) hx hb htb i_Text hown hK hP i_39 hg_39 rfl 30 (by decide) (htb _ q6_233) (fun _ h9 => h9) rfl d_Model_faultOf_161 ?_
                  refine lv_if_gt (tgt := 237) hx hb d_Model_faultOf_164 (by decide) (fun c164 => ?_) (fun c164 => ?_)
                  · have p164 : (0 : Int32) < ((τ t84).I 30) := c164
                    refine lv_iinc (v := nI (z69 + 1)) (lv' := [(5, .int (nI (z69 + 1))), (6, .ref t84), (4, .int x69_4), (3, .ref t24), (2, .ref t10), (0, .ref mo), (1, .int (nI i9))]) hx hb d_Model_faultOf_237 hl (k := 1) rfl (nI_1 _) (by decide) rfl (fun ls hl => ?_)
                    refine lv_goto (tgt := 69) hx hb d_Model_faultOf_240 (by decide) ?_
                    exact ih69 (z69 + 1, x69_4, f69_mmA, f69_mrA, v69_mqs, G69) _ _ ls (by dsimp only; omega) ⟨by dsimp only; omega, by dsimp only; omega, hTy, hFR, (by have h9 := kmo; rw [eX_8] at h9; exact h9), kmmA, kmrA, kmwy, kmsT, kmrV, ⟨hfm, hfr⟩⟩ hP hD hS (lv_sub hl [0, 2, 3, 4, 5, 6] rfl)
                  · have p164 : ¬ ((0 : Int32) < ((τ t84).I 30)) := c164
                    refine lv_aload_n hx hb d_Model_faultOf_167 rfl (lv_at hl 5 rfl) ?_
                    refine lv_aload hx hb d_Model_faultOf_168 (lv_at hl 0 rfl) ?_
                    refine lv_aload_n hx hb d_Model_faultOf_170 rfl (lv_at hl 3 rfl) ?_
                    have hFc := va_free (wc := G69) hD hS hA (List.range G69.length) (rg_is _)
                    refine va_calli (mu_runV (As := [.ref t84, .ref t24]) (rest := []) ⟨hx, hb, hml, hown, hts⟩ tbin (m9_Model_isSigned l dC dI sb γ κ Ad τ gT G69 mo t84 t24 _ _ _ _ _ _ _ _ _ _ _ _ _ _ _ _ _ _ _ _ _ _ _ _ _ _ _ _ _ _ _ _ _ _ HL69.size hTy (by have h9 := kmo; rw [eX_8] at h9; exact h9) kt84 kt24 kmmA kmrA kmzA kmqA kmyA kmxA kmbA kmwA kmhA kmpA kmfA hx_mo_mmA hx_mo_mrA hx_mmA_mrA hc_t84.toTB hc_t24 hfm hfr) q9_96 q9_98 qp_42 q1_9 q9_99 (n := 2) (by decide +kernel) rfl ⟨rfl, rfl⟩ ⟨Nat.le_of_ble_eq_true rfl, Nat.le_of_ble_eq_true rfl⟩ ⟨Nat.le_of_ble_eq_true rfl, Nat.le_of_ble_eq_true rfl⟩ hN (hT0.keep hS hAs) hAs (Nat.le_trans hB0 hS.1) hK hP hD (List.range G69.length) (rg_nd _) (rg_is _) [0, 1, 2, 3, 4] rfl i_9 12 hg_9 rfl rfl hl.1 rfl (Nat.le_of_ble_eq_true rfl) d_Model_faultOf_171) hS (fun q _ h => hFc q h) hFc (fun r171 G_42 tS H171 locs ht hvm hw171 hB hz1 hk1 hS => ?_)
                    obtain ⟨hTy, hF9, hr171⟩ := hw171
                    have kmwy := kmwy.fl hF9 (by simp only [List.mem_cons, List.not_mem_nil, or_false]; omega)
                    have kmsT := kmsT.fl hF9 (by simp only [List.mem_cons, List.not_mem_nil, or_false]; omega)
                    have kmrV := kmrV.fl hF9 (by simp only [List.mem_cons, List.not_mem_nil, or_false]; omega)
                    have hFR := hFR.tr (hF9.up (by intro x h; simp only [List.mem_cons, List.not_mem_nil, or_false] at h ⊢; omega))
                    obtain ⟨hP1, hK1, hD1⟩ := hB
                    rw [ht] at hP1
                    have hP : va_P (dC, dI) classes G_42 H171 := hP1
                    have hD : va_D A G_42 := hD1.weaken (fun _ _ _ h => hFc _ h)
                    obtain ⟨hz171, ⟨q171, kmo⟩, ⟨fa171, hfm, kmmA⟩, ⟨fb171, hfr, kmrA⟩⟩ := hr171
                    obtain ⟨cX_43, eX_43⟩ : ∃ z : va_E, z = .inr (12, (.int mer :: .int mfed :: .int mwr :: .int (nI K9) :: .int (nI KL) :: .ref moc :: .ref msT :: .ref mrV :: .ref msP :: .int q171 :: .ref mrA :: .ref mbA :: .ref mwA :: .ref mhA :: .ref mfA :: .ref mpA :: .ref mxA :: .ref myA :: .ref mmA :: .ref mqA :: .ref mzA :: .ref mwy :: .ref mfd :: .int (nI s9) :: .int (nI c9) :: .int mch :: .int mft :: .int mpt :: .int mdp :: .int mvd :: .long mnw :: .int mmk :: [])) := ⟨_, rfl⟩
                    rw [← eX_43] at kmo
                    refine lv_if_ne (tgt := 180) hx hb d_Model_faultOf_174 (by decide) (fun c174 => ?_) (fun c174 => ?_)
                    · have p174 : ¬ (r171 = (0 : Int32)) := c174
                      refine lv_iconst (v := 1) hx hb d_Model_faultOf_180 (by decide) ?_
                      refine lv_istore (lv' := [(4, .int 1), (6, .ref t84), (5, .int (nI z69)), (3, .ref t24), (2, .ref t10), (0, .ref mo), (1, .int (nI i9))]) hx hb d_Model_faultOf_181 hl (by decide) rfl (fun ls hl => ?_)
                      refine lv_iconst (v := 0) hx hb d_Model_faultOf_183 (by decide) ?_
                      refine lv_istore (lv' := [(7, .int 0), (4, .int 1), (6, .ref t84), (5, .int (nI z69)), (3, .ref t24), (2, .ref t10), (0, .ref mo), (1, .int (nI i9))]) hx hb d_Model_faultOf_184 hl (by decide) rfl (fun ls hl => ?_)
                      refine w_loop (α := Nat) (fun a9 => 0 ≤ a9 ∧ a9 ≤ ((τ t84).ne)) (fun a9 => ((τ t84).ne) - a9) (fun a9 => [(7, .int (nI a9)), (4, .int 1), (6, .ref t84), (5, .int (nI z69)), (3, .ref t24), (2, .ref t10), (0, .ref mo), (1, .int (nI i9))]) (fun _ => []) 9 186 (fun z186 ls hJ hl ih186 => ?_) (0) ls ⟨by omega, by omega⟩ (lv_sub hl [0, 1, 2, 3, 4, 5, 6, 7] rfl)
                      skip
                      obtain ⟨hy186, hz186⟩ := hJ
                      refine lv_iload hx hb d_Model_faultOf_186 (lv_at hl 0 rfl) ?_
                      refine lv_aload hx hb d_Model_faultOf_188 (lv_at hl 2 rfl) ?_
                      obtain ⟨i_44, kA_44, hg_44⟩ := tr_20 hTy kt84
                      refine va_get (v := .int ((τ t84).I 36)) hx hb htb i_Text hown hK hP i_44 hg_44 rfl 36 (by decide) (htb _ q7_4) (fun _ h9 => h9) rfl d_Model_faultOf_190 ?_
                      rw [hc_t84.e36]
                      refine lv_icmp_ge (tgt := 237) hx hb d_Model_faultOf_193 (by decide) (fun c193 => ?_) (fun c193 => ?_)
                      · have p193 : ((τ t84).ne) ≤ z186 := ((nI_leI (a := ((τ t84).ne)) (b := z186) (by omega) (by omega)).mp c193)
                        refine lv_iinc (v := nI (z69 + 1)) (lv' := [(5, .int (nI (z69 + 1))), (7, .int (nI z186)), (4, .int 1), (6, .ref t84), (3, .ref t24), (2, .ref t10), (0, .ref mo), (1, .int (nI i9))]) hx hb d_Model_faultOf_237 hl (k := 3) rfl (nI_1 _) (by decide) rfl (fun ls hl => ?_)
                        refine lv_goto (tgt := 69) hx hb d_Model_faultOf_240 (by decide) ?_
                        exact ih69 (z69 + 1, (1 : Int32), fa171, fb171, q171, G_42) _ _ ls (by dsimp only; omega) ⟨by dsimp only; omega, by dsimp only; omega, hTy, hFR, (by have h9 := kmo; rw [eX_43] at h9; exact h9), kmmA, kmrA, kmwy, kmsT, kmrV, ⟨hfm, hfr⟩⟩ hP hD hS (lv_sub hl [0, 2, 4, 5, 6, 7] rfl)
                      · have p193 : ¬ (((τ t84).ne) ≤ z186) := (fun q9 => c193 ((nI_leI (a := ((τ t84).ne)) (b := z186) (by omega) (by omega)).mpr q9))
                        refine lv_aload hx hb d_Model_faultOf_196 (lv_at hl 2 rfl) ?_
                        refine lv_aload hx hb d_Model_faultOf_198 (lv_at hl 2 rfl) ?_
                        refine va_get (v := .ref ((τ t84).A 8)) hx hb htb i_Text hown hK hP i_44 hg_44 rfl 50 (by decide) (htb _ q7_28) (fun _ h9 => h9) rfl d_Model_faultOf_200 ?_
                        refine lv_iload hx hb d_Model_faultOf_203 (lv_at hl 0 rfl) ?_
                        obtain ⟨i_45, hg_45⟩ := tr_18 hTy (kA_44 8 (by decide))
                        have hg_45 : G_42[i_45]? = some (((τ t84).A 8), .inl (γ.2.1, 200, .inl ((τ t84).D 8))) := hg_45
                        have h205 : vp_in (nI z186) 200 := vp_in_nI (by omega) (by omega)
                        refine va_iald hx hb hK hP i_45 1 hg_45 rfl h205 d_Model_faultOf_205 ?_
                        refine lv_topi (fun e205 he205 => ?_)
                        obtain ⟨q1_205, q2_205, q3_205, q4_205⟩ := hc_t84.l1 z186 (by omega)
                        rw [nI_clamp (by omega), q1_205] at he205
                        subst he205
                        refine lv_aload hx hb d_Model_faultOf_206 (lv_at hl 2 rfl) ?_
                        refine va_get (v := .ref ((τ t84).A 9)) hx hb htb i_Text hown hK hP i_44 hg_44 rfl 51 (by decide) (htb _ q7_30) (fun _ h9 => h9) rfl d_Model_faultOf_208 ?_
                        refine lv_iload hx hb d_Model_faultOf_211 (lv_at hl 0 rfl) ?_
                        obtain ⟨i_46, hg_46⟩ := tr_18 hTy (kA_44 9 (by decide))
                        have hg_46 : G_42[i_46]? = some (((τ t84).A 9), .inl (γ.2.1, 200, .inl ((τ t84).D 9))) := hg_46
                        have h213 : vp_in (nI z186) 200 := vp_in_nI (by omega) (by omega)
                        refine va_iald hx hb hK hP i_46 1 hg_46 rfl h213 d_Model_faultOf_213 ?_
                        refine lv_topi (fun e213 he213 => ?_)
                        obtain ⟨q1_213, q2_213, q3_213, q4_213⟩ := hc_t84.l1 z186 (by omega)
                        rw [nI_clamp (by omega), q2_213] at he213
                        subst he213
                        refine lv_aload_n hx hb d_Model_faultOf_214 rfl (lv_at hl 5 rfl) ?_
                        refine lv_aload_n hx hb d_Model_faultOf_215 rfl (lv_at hl 5 rfl) ?_
                        obtain ⟨i_47, kA_47, hg_47⟩ := tr_20 hTy kt10
                        refine va_get (v := .int ((τ t10).I 10)) hx hb htb i_Text hown hK hP i_47 hg_47 rfl 10 (by decide) (htb _ q6_193) (fun _ h9 => h9) rfl d_Model_faultOf_216 ?_
                        rw [hc_t10.e10]
                        refine lv_aload_n hx hb d_Model_faultOf_219 rfl (lv_at hl 5 rfl) ?_
                        refine va_get (v := .int ((τ t10).I 11)) hx hb htb i_Text hown hK hP i_47 hg_47 rfl 11 (by decide) (htb _ q6_195) (fun _ h9 => h9) rfl d_Model_faultOf_220 ?_
                        rw [hc_t10.e11]
                        refine vp_callSi (pu_callV (As := [.int (nI ((τ t84).ea z186)), .int (nI ((τ t84).eb z186)), .ref t10, .int (nI ((τ t10).sr)), .int (nI ((τ t10).re))]) (rest := []) ⟨hx, hb, hml, hown, hts⟩ tbin (p_Text_same l dC dI sb γ κ Ad τ gT G_42 t84 t10 ((τ t84).ea z186) ((τ t84).eb z186) ((τ t10).sr) ((τ t10).re) hTy kt84 kt10 (by omega) (by omega) (by omega) (by omega)) q9_145 q9_32 q9_33 q1_10 q9_34 (n := 5) (by decide +kernel) rfl ⟨rfl, rfl⟩ ⟨Nat.le_of_ble_eq_true rfl, Nat.le_of_ble_eq_true rfl⟩ ⟨Nat.le_of_ble_eq_true rfl, Nat.le_of_ble_eq_true rfl⟩ hN (hT0.keep hS hAs) hK hP (List.range G_42.length) (rg_all G_42) [0, 1, 2, 3, 4] rfl i_44 13 hg_44 rfl rfl hl.1 rfl (Nat.le_of_ble_eq_true rfl) d_Model_faultOf_223) (fun r223 hr223 => ?_)
                        refine lv_if_eq (tgt := 231) hx hb d_Model_faultOf_226 (by decide) (fun c226 => ?_) (fun c226 => ?_)
                        · have p226 : r223 = (0 : Int32) := c226
                          refine lv_iinc (v := nI (z186 + 1)) (lv' := [(7, .int (nI (z186 + 1))), (4, .int 1), (6, .ref t84), (5, .int (nI z69)), (3, .ref t24), (2, .ref t10), (0, .ref mo), (1, .int (nI i9))]) hx hb d_Model_faultOf_231 hl (k := 0) rfl (nI_1 _) (by decide) rfl (fun ls hl => ?_)
                          refine lv_goto (tgt := 186) hx hb d_Model_faultOf_234 (by decide) ?_
                          exact ih186 ((z186 + 1)) ls (by omega) ⟨by omega, by omega⟩ (lv_sub hl [0, 1, 2, 3, 4, 5, 6, 7] rfl)
                        · have p226 : ¬ (r223 = (0 : Int32)) := c226
                          refine lv_iconst (v := 3) hx hb d_Model_faultOf_229 (by decide) ?_
                          exact W.iret (v := 3) hx hb hr (fun t ht hW => ⟨⟨_, G_42, rfl, ⟨hTy, hFR, ⟨_, by rw [eX_43] at kmo; exact kmo⟩, ⟨_, hfm, kmmA⟩, ⟨_, hfr, kmrA⟩⟩, by rw [ht]; exact hP, va_K.moved hW.alike hK, hD⟩, hS.F ht⟩) hS.2.2 d_Model_faultOf_230
                    · have p174 : r171 = (0 : Int32) := c174
                      refine lv_goto (tgt := 237) hx hb d_Model_faultOf_177 (by decide) ?_
                      refine lv_iinc (v := nI (z69 + 1)) (lv' := [(5, .int (nI (z69 + 1))), (6, .ref t84), (4, .int x69_4), (3, .ref t24), (2, .ref t10), (0, .ref mo), (1, .int (nI i9))]) hx hb d_Model_faultOf_237 hl (k := 1) rfl (nI_1 _) (by decide) rfl (fun ls hl => ?_)
                      refine lv_goto (tgt := 69) hx hb d_Model_faultOf_240 (by decide) ?_
                      exact ih69 (z69 + 1, x69_4, fa171, fb171, q171, G_42) _ _ ls (by dsimp only; omega) ⟨by dsimp only; omega, by dsimp only; omega, hTy, hFR, (by have h9 := kmo; rw [eX_43] at h9; exact h9), kmmA, kmrA, kmwy, kmsT, kmrV, ⟨hfm, hfr⟩⟩ hP hD hS (lv_sub hl [0, 2, 3, 4, 5, 6] rfl)
            · have p118 : ¬ (((τ t24).I 26) < (0 : Int32)) := c118
              refine lv_aload_n hx hb d_Model_faultOf_121 rfl (lv_at hl 3 rfl) ?_
              refine va_get (v := .int ((τ t24).I 26)) hx hb htb i_Text hown hK hP i_41 hg_41 rfl 26 (by decide) (htb _ q6_224) (fun _ h9 => h9) rfl d_Model_faultOf_122 ?_
              refine lv_bipush (v := 6) hx hb d_Model_faultOf_125 (by decide) ?_
              refine lv_ishr hx hb d_Model_faultOf_127 ?_
              refine lv_iconst (v := 1) hx hb d_Model_faultOf_128 (by decide) ?_
              refine lv_iand hx hb d_Model_faultOf_129 ?_
              refine lv_if_eq (tgt := 237) hx hb d_Model_faultOf_130 (by decide) (fun c130 => ?_) (fun c130 => ?_)
              · have p130 : ((((τ t24).I 26) >>> (6 &&& 31)) &&& 1) = (0 : Int32) := c130
                refine lv_iinc (v := nI (z69 + 1)) (lv' := [(5, .int (nI (z69 + 1))), (6, .ref t84), (4, .int x69_4), (3, .ref t24), (2, .ref t10), (0, .ref mo), (1, .int (nI i9))]) hx hb d_Model_faultOf_237 hl (k := 1) rfl (nI_1 _) (by decide) rfl (fun ls hl => ?_)
                refine lv_goto (tgt := 69) hx hb d_Model_faultOf_240 (by decide) ?_
                exact ih69 (z69 + 1, x69_4, f69_mmA, f69_mrA, v69_mqs, G69) _ _ ls (by dsimp only; omega) ⟨by dsimp only; omega, by dsimp only; omega, hTy, hFR, (by have h9 := kmo; rw [eX_8] at h9; exact h9), kmmA, kmrA, kmwy, kmsT, kmrV, ⟨hfm, hfr⟩⟩ hP hD hS (lv_sub hl [0, 2, 3, 4, 5, 6] rfl)
              · have p130 : ¬ (((((τ t24).I 26) >>> (6 &&& 31)) &&& 1) = (0 : Int32)) := c130
                refine lv_aload_n hx hb d_Model_faultOf_133 rfl (lv_at hl 5 rfl) ?_
                refine va_get (v := .long mnw) hx hb htb i_Model hown hK hP i_9 hg_9 rfl 30 (by decide) (htb _ q8_4) (fun _ h9 => h9) rfl d_Model_faultOf_134 ?_
                refine lv_aload hx hb d_Model_faultOf_137 (lv_at hl 0 rfl) ?_
                refine va_get (v := .long ((τ t84).J 7)) hx hb htb i_Text hown hK hP i_39 hg_39 rfl 7 (by decide) (htb _ q6_188) (fun _ h9 => h9) rfl d_Model_faultOf_139 ?_
                refine W.lcmp hx hb d_Model_faultOf_142 ?_
                refine lv_if_lt (tgt := 237) hx hb d_Model_faultOf_143 (by decide) (fun c143 => ?_) (fun c143 => ?_)
                · have p143 : (lg_cmp mnw ((τ t84).J 7)) < (0 : Int32) := c143
                  refine lv_iinc (v := nI (z69 + 1)) (lv' := [(5, .int (nI (z69 + 1))), (6, .ref t84), (4, .int x69_4), (3, .ref t24), (2, .ref t10), (0, .ref mo), (1, .int (nI i9))]) hx hb d_Model_faultOf_237 hl (k := 1) rfl (nI_1 _) (by decide) rfl (fun ls hl => ?_)
                  refine lv_goto (tgt := 69) hx hb d_Model_faultOf_240 (by decide) ?_
                  exact ih69 (z69 + 1, x69_4, f69_mmA, f69_mrA, v69_mqs, G69) _ _ ls (by dsimp only; omega) ⟨by dsimp only; omega, by dsimp only; omega, hTy, hFR, (by have h9 := kmo; rw [eX_8] at h9; exact h9), kmmA, kmrA, kmwy, kmsT, kmrV, ⟨hfm, hfr⟩⟩ hP hD hS (lv_sub hl [0, 2, 3, 4, 5, 6] rfl)
                · have p143 : ¬ ((lg_cmp mnw ((τ t84).J 7)) < (0 : Int32)) := c143
                  refine lv_aload_n hx hb d_Model_faultOf_146 rfl (lv_at hl 5 rfl) ?_
                  refine va_get (v := .long mnw) hx hb htb i_Model hown hK hP i_9 hg_9 rfl 30 (by decide) (htb _ q8_4) (fun _ h9 => h9) rfl d_Model_faultOf_147 ?_
                  refine lv_aload hx hb d_Model_faultOf_150 (lv_at hl 0 rfl) ?_
                  refine va_get (v := .long ((τ t84).J 8)) hx hb htb i_Text hown hK hP i_39 hg_39 rfl 8 (by decide) (htb _ q6_190) (fun _ h9 => h9) rfl d_Model_faultOf_152 ?_
                  refine W.lcmp hx hb d_Model_faultOf_155 ?_
                  refine lv_if_gt (tgt := 237) hx hb d_Model_faultOf_156 (by decide) (fun c156 => ?_) (fun c156 => ?_)
                  · have p156 : (0 : Int32) < (lg_cmp mnw ((τ t84).J 8)) := c156
                    refine lv_iinc (v := nI (z69 + 1)) (lv' := [(5, .int (nI (z69 + 1))), (6, .ref t84), (4, .int x69_4), (3, .ref t24), (2, .ref t10), (0, .ref mo), (1, .int (nI i9))]) hx hb d_Model_faultOf_237 hl (k := 1) rfl (nI_1 _) (by decide) rfl (fun ls hl => ?_)
                    refine lv_goto (tgt := 69) hx hb d_Model_faultOf_240 (by decide) ?_
                    exact ih69 (z69 + 1, x69_4, f69_mmA, f69_mrA, v69_mqs, G69) _ _ ls (by dsimp only; omega) ⟨by dsimp only; omega, by dsimp only; omega, hTy, hFR, (by have h9 := kmo; rw [eX_8] at h9; exact h9), kmmA, kmrA, kmwy, kmsT, kmrV, ⟨hfm, hfr⟩⟩ hP hD hS (lv_sub hl [0, 2, 3, 4, 5, 6] rfl)
                  · have p156 : ¬ ((0 : Int32) < (lg_cmp mnw ((τ t84).J 8))) := c156
                    refine lv_aload hx hb d_Model_faultOf_159 (lv_at hl 0 rfl) ?_
                    refine va_get (v := .int ((τ t84).I 30)) hx hb htb i_Text hown hK hP i_39 hg_39 rfl 30 (by decide) (htb _ q6_233) (fun _ h9 => h9) rfl d_Model_faultOf_161 ?_
                    refine lv_if_gt (tgt := 237) hx hb d_Model_faultOf_164 (by decide) (fun c164 => ?_) (fun c164 => ?_)
                    · have p164 : (0 : Int32) < ((τ t84).I 30) := c164
                      refine lv_iinc (v := nI (z69 + 1)) (lv' := [(5, .int (nI (z69 + 1))), (6, .ref t84), (4, .int x69_4), (3, .ref t24), (2, .ref t10), (0, .ref mo), (1, .int (nI i9))]) hx hb d_Model_faultOf_237 hl (k := 1) rfl (nI_1 _) (by decide) rfl (fun ls hl => ?_)
                      refine lv_goto (tgt := 69) hx hb d_Model_faultOf_240 (by decide) ?_
                      exact ih69 (z69 + 1, x69_4, f69_mmA, f69_mrA, v69_mqs, G69) _ _ ls (by dsimp only; omega) ⟨by dsimp only; omega, by dsimp only; omega, hTy, hFR, (by have h9 := kmo; rw [eX_8] at h9; exact h9), kmmA, kmrA, kmwy, kmsT, kmrV, ⟨hfm, hfr⟩⟩ hP hD hS (lv_sub hl [0, 2, 3, 4, 5, 6] rfl)
                    · have p164 : ¬ ((0 : Int32) < ((τ t84).I 30)) := c164
                      refine lv_aload_n hx hb d_Model_faultOf_167 rfl (lv_at hl 5 rfl) ?_
                      refine lv_aload hx hb d_Model_faultOf_168 (lv_at hl 0 rfl) ?_
                      refine lv_aload_n hx hb d_Model_faultOf_170 rfl (lv_at hl 3 rfl) ?_
                      have hFc := va_free (wc := G69) hD hS hA (List.range G69.length) (rg_is _)
                      refine va_calli (mu_runV (As := [.ref t84, .ref t24]) (rest := []) ⟨hx, hb, hml, hown, hts⟩ tbin (m9_Model_isSigned l dC dI sb γ κ Ad τ gT G69 mo t84 t24 _ _ _ _ _ _ _ _ _ _ _ _ _ _ _ _ _ _ _ _ _ _ _ _ _ _ _ _ _ _ _ _ _ _ HL69.size hTy (by have h9 := kmo; rw [eX_8] at h9; exact h9) kt84 kt24 kmmA kmrA kmzA kmqA kmyA kmxA kmbA kmwA kmhA kmpA kmfA hx_mo_mmA hx_mo_mrA hx_mmA_mrA hc_t84.toTB hc_t24 hfm hfr) q9_96 q9_98 qp_42 q1_9 q9_99 (n := 2) (by decide +kernel) rfl ⟨rfl, rfl⟩ ⟨Nat.le_of_ble_eq_true rfl, Nat.le_of_ble_eq_true rfl⟩ ⟨Nat.le_of_ble_eq_true rfl, Nat.le_of_ble_eq_true rfl⟩ hN (hT0.keep hS hAs) hAs (Nat.le_trans hB0 hS.1) hK hP hD (List.range G69.length) (rg_nd _) (rg_is _) [0, 1, 2, 3, 4] rfl i_9 12 hg_9 rfl rfl hl.1 rfl (Nat.le_of_ble_eq_true rfl) d_Model_faultOf_171) hS (fun q _ h => hFc q h) hFc (fun r171 G_48 tS H171 locs ht hvm hw171 hB hz1 hk1 hS => ?_)
                      obtain ⟨hTy, hF9, hr171⟩ := hw171
                      have kmwy := kmwy.fl hF9 (by simp only [List.mem_cons, List.not_mem_nil, or_false]; omega)
                      have kmsT := kmsT.fl hF9 (by simp only [List.mem_cons, List.not_mem_nil, or_false]; omega)
                      have kmrV := kmrV.fl hF9 (by simp only [List.mem_cons, List.not_mem_nil, or_false]; omega)
                      have hFR := hFR.tr (hF9.up (by intro x h; simp only [List.mem_cons, List.not_mem_nil, or_false] at h ⊢; omega))
                      obtain ⟨hP1, hK1, hD1⟩ := hB
                      rw [ht] at hP1
                      have hP : va_P (dC, dI) classes G_48 H171 := hP1
                      have hD : va_D A G_48 := hD1.weaken (fun _ _ _ h => hFc _ h)
                      obtain ⟨hz171, ⟨q171, kmo⟩, ⟨fa171, hfm, kmmA⟩, ⟨fb171, hfr, kmrA⟩⟩ := hr171
                      obtain ⟨cX_49, eX_49⟩ : ∃ z : va_E, z = .inr (12, (.int mer :: .int mfed :: .int mwr :: .int (nI K9) :: .int (nI KL) :: .ref moc :: .ref msT :: .ref mrV :: .ref msP :: .int q171 :: .ref mrA :: .ref mbA :: .ref mwA :: .ref mhA :: .ref mfA :: .ref mpA :: .ref mxA :: .ref myA :: .ref mmA :: .ref mqA :: .ref mzA :: .ref mwy :: .ref mfd :: .int (nI s9) :: .int (nI c9) :: .int mch :: .int mft :: .int mpt :: .int mdp :: .int mvd :: .long mnw :: .int mmk :: [])) := ⟨_, rfl⟩
                      rw [← eX_49] at kmo
                      refine lv_if_ne (tgt := 180) hx hb d_Model_faultOf_174 (by decide) (fun c174 => ?_) (fun c174 => ?_)
                      · have p174 : ¬ (r171 = (0 : Int32)) := c174
                        refine lv_iconst (v := 1) hx hb d_Model_faultOf_180 (by decide) ?_
                        refine lv_istore (lv' := [(4, .int 1), (6, .ref t84), (5, .int (nI z69)), (3, .ref t24), (2, .ref t10), (0, .ref mo), (1, .int (nI i9))]) hx hb d_Model_faultOf_181 hl (by decide) rfl (fun ls hl => ?_)
                        refine lv_iconst (v := 0) hx hb d_Model_faultOf_183 (by decide) ?_
                        refine lv_istore (lv' := [(7, .int 0), (4, .int 1), (6, .ref t84), (5, .int (nI z69)), (3, .ref t24), (2, .ref t10), (0, .ref mo), (1, .int (nI i9))]) hx hb d_Model_faultOf_184 hl (by decide) rfl (fun ls hl => ?_)
                        refine w_loop (α := Nat) (fun a9 => 0 ≤ a9 ∧ a9 ≤ ((τ t84).ne)) (fun a9 => ((τ t84).ne) - a9) (fun a9 => [(7, .int (nI a9)), (4, .int 1), (6, .ref t84), (5, .int (nI z69)), (3, .ref t24), (2, .ref t10), (0, .ref mo), (1, .int (nI i9))]) (fun _ => []) 9 186 (fun z186 ls hJ hl ih186 => ?_) (0) ls ⟨by omega, by omega⟩ (lv_sub hl [0, 1, 2, 3, 4, 5, 6, 7] rfl)
                        skip
                        obtain ⟨hy186, hz186⟩ := hJ
                        refine lv_iload hx hb d_Model_faultOf_186 (lv_at hl 0 rfl) ?_
                        refine lv_aload hx hb d_Model_faultOf_188 (lv_at hl 2 rfl) ?_
                        obtain ⟨i_50, kA_50, hg_50⟩ := tr_20 hTy kt84
                        refine va_get (v := .int ((τ t84).I 36)) hx hb htb i_Text hown hK hP i_50 hg_50 rfl 36 (by decide) (htb _ q7_4) (fun _ h9 => h9) rfl d_Model_faultOf_190 ?_
                        rw [hc_t84.e36]
                        refine lv_icmp_ge (tgt := 237) hx hb d_Model_faultOf_193 (by decide) (fun c193 => ?_) (fun c193 => ?_)
                        · have p193 : ((τ t84).ne) ≤ z186 := ((nI_leI (a := ((τ t84).ne)) (b := z186) (by omega) (by omega)).mp c193)
                          refine lv_iinc (v := nI (z69 + 1)) (lv' := [(5, .int (nI (z69 + 1))), (7, .int (nI z186)), (4, .int 1), (6, .ref t84), (3, .ref t24), (2, .ref t10), (0, .ref mo), (1, .int (nI i9))]) hx hb d_Model_faultOf_237 hl (k := 3) rfl (nI_1 _) (by decide) rfl (fun ls hl => ?_)
                          refine lv_goto (tgt := 69) hx hb d_Model_faultOf_240 (by decide) ?_
                          exact ih69 (z69 + 1, (1 : Int32), fa171, fb171, q171, G_48) _ _ ls (by dsimp only; omega) ⟨by dsimp only; omega, by dsimp only; omega, hTy, hFR, (by have h9 := kmo; rw [eX_49] at h9; exact h9), kmmA, kmrA, kmwy, kmsT, kmrV, ⟨hfm, hfr⟩⟩ hP hD hS (lv_sub hl [0, 2, 4, 5, 6, 7] rfl)
                        · have p193 : ¬ (((τ t84).ne) ≤ z186) := (fun q9 => c193 ((nI_leI (a := ((τ t84).ne)) (b := z186) (by omega) (by omega)).mpr q9))
                          refine lv_aload hx hb d_Model_faultOf_196 (lv_at hl 2 rfl) ?_
                          refine lv_aload hx hb d_Model_faultOf_198 (lv_at hl 2 rfl) ?_
                          refine va_get (v := .ref ((τ t84).A 8)) hx hb htb i_Text hown hK hP i_50 hg_50 rfl 50 (by decide) (htb _ q7_28) (fun _ h9 => h9) rfl d_Model_faultOf_200 ?_
                          refine lv_iload hx hb d_Model_faultOf_203 (lv_at hl 0 rfl) ?_
                          obtain ⟨i_51, hg_51⟩ := tr_18 hTy (kA_50 8 (by decide))
                          have hg_51 : G_48[i_51]? = some (((τ t84).A 8), .inl (γ.2.1, 200, .inl ((τ t84).D 8))) := hg_51
                          have h205 : vp_in (nI z186) 200 := vp_in_nI (by omega) (by omega)
                          refine va_iald hx hb hK hP i_51 1 hg_51 rfl h205 d_Model_faultOf_205 ?_
                          refine lv_topi (fun e205 he205 => ?_)
                          obtain ⟨q1_205, q2_205, q3_205, q4_205⟩ := hc_t84.l1 z186 (by omega)
                          rw [nI_clamp (by omega), q1_205] at he205
                          subst he205
                          refine lv_aload hx hb d_Model_faultOf_206 (lv_at hl 2 rfl) ?_
                          refine va_get (v := .ref ((τ t84).A 9)) hx hb htb i_Text hown hK hP i_50 hg_50 rfl 51 (by decide) (htb _ q7_30) (fun _ h9 => h9) rfl d_Model_faultOf_208 ?_
                          refine lv_iload hx hb d_Model_faultOf_211 (lv_at hl 0 rfl) ?_
                          obtain ⟨i_52, hg_52⟩ := tr_18 hTy (kA_50 9 (by decide))
                          have hg_52 : G_48[i_52]? = some (((τ t84).A 9), .inl (γ.2.1, 200, .inl ((τ t84).D 9))) := hg_52
                          have h213 : vp_in (nI z186) 200 := vp_in_nI (by omega) (by omega)
                          refine va_iald hx hb hK hP i_52 1 hg_52 rfl h213 d_Model_faultOf_213 ?_
                          refine lv_topi (fun e213 he213 => ?_)
                          obtain ⟨q1_213, q2_213, q3_213, q4_213⟩ := hc_t84.l1 z186 (by omega)
                          rw [nI_clamp (by omega), q2_213] at he213
                          subst he213
                          refine lv_aload_n hx hb d_Model_faultOf_214 rfl (lv_at hl 5 rfl) ?_
                          refine lv_aload_n hx hb d_Model_faultOf_215 rfl (lv_at hl 5 rfl) ?_
                          obtain ⟨i_53, kA_53, hg_53⟩ := tr_20 hTy kt10
                          refine va_get (v := .int ((τ t10).I 10)) hx hb htb i_Text hown hK hP i_53 hg_53 rfl 10 (by decide) (htb _ q6_193) (fun _ h9 => h9) rfl d_Model_faultOf_216 ?_
                          rw [hc_t10.e10]
                          refine lv_aload_n hx hb d_Model_faultOf_219 rfl (lv_at hl 5 rfl) ?_
                          refine va_get (v := .int ((τ t10).I 11)) hx hb htb i_Text hown hK hP i_53 hg_53 rfl 11 (by decide) (htb _ q6_195) (fun _ h9 => h9) rfl d_Model_faultOf_220 ?_
                          rw [hc_t10.e11]
                          refine vp_callSi (pu_callV (As := [.int (nI ((τ t84).ea z186)), .int (nI ((τ t84).eb z186)), .ref t10, .int (nI ((τ t10).sr)), .int (nI ((τ t10).re))]) (rest := []) ⟨hx, hb, hml, hown, hts⟩ tbin (p_Text_same l dC dI sb γ κ Ad τ gT G_48 t84 t10 ((τ t84).ea z186) ((τ t84).eb z186) ((τ t10).sr) ((τ t10).re) hTy kt84 kt10 (by omega) (by omega) (by omega) (by omega)) q9_145 q9_32 q9_33 q1_10 q9_34 (n := 5) (by decide +kernel) rfl ⟨rfl, rfl⟩ ⟨Nat.le_of_ble_eq_true rfl, Nat.le_of_ble_eq_true rfl⟩ ⟨Nat.le_of_ble_eq_true rfl, Nat.le_of_ble_eq_true rfl⟩ hN (hT0.keep hS hAs) hK hP (List.range G_48.length) (rg_all G_48) [0, 1, 2, 3, 4] rfl i_50 13 hg_50 rfl rfl hl.1 rfl (Nat.le_of_ble_eq_true rfl) d_Model_faultOf_223) (fun r223 hr223 => ?_)
                          refine lv_if_eq (tgt := 231) hx hb d_Model_faultOf_226 (by decide) (fun c226 => ?_) (fun c226 => ?_)
                          · have p226 : r223 = (0 : Int32) := c226
                            refine lv_iinc (v := nI (z186 + 1)) (lv' := [(7, .int (nI (z186 + 1))), (4, .int 1), (6, .ref t84), (5, .int (nI z69)), (3, .ref t24), (2, .ref t10), (0, .ref mo), (1, .int (nI i9))]) hx hb d_Model_faultOf_231 hl (k := 0) rfl (nI_1 _) (by decide) rfl (fun ls hl => ?_)
                            refine lv_goto (tgt := 186) hx hb d_Model_faultOf_234 (by decide) ?_
                            exact ih186 ((z186 + 1)) ls (by omega) ⟨by omega, by omega⟩ (lv_sub hl [0, 1, 2, 3, 4, 5, 6, 7] rfl)
                          · have p226 : ¬ (r223 = (0 : Int32)) := c226
                            refine lv_iconst (v := 3) hx hb d_Model_faultOf_229 (by decide) ?_
                            exact W.iret (v := 3) hx hb hr (fun t ht hW => ⟨⟨_, G_48, rfl, ⟨hTy, hFR, ⟨_, by rw [eX_49] at kmo; exact kmo⟩, ⟨_, hfm, kmmA⟩, ⟨_, hfr, kmrA⟩⟩, by rw [ht]; exact hP, va_K.moved hW.alike hK, hD⟩, hS.F ht⟩) hS.2.2 d_Model_faultOf_230
                      · have p174 : r171 = (0 : Int32) := c174
                        refine lv_goto (tgt := 237) hx hb d_Model_faultOf_177 (by decide) ?_
                        refine lv_iinc (v := nI (z69 + 1)) (lv' := [(5, .int (nI (z69 + 1))), (6, .ref t84), (4, .int x69_4), (3, .ref t24), (2, .ref t10), (0, .ref mo), (1, .int (nI i9))]) hx hb d_Model_faultOf_237 hl (k := 1) rfl (nI_1 _) (by decide) rfl (fun ls hl => ?_)
                        refine lv_goto (tgt := 69) hx hb d_Model_faultOf_240 (by decide) ?_
                        exact ih69 (z69 + 1, x69_4, fa171, fb171, q171, G_48) _ _ ls (by dsimp only; omega) ⟨by dsimp only; omega, by dsimp only; omega, hTy, hFR, (by have h9 := kmo; rw [eX_49] at h9; exact h9), kmmA, kmrA, kmwy, kmsT, kmrV, ⟨hfm, hfr⟩⟩ hP hD hS (lv_sub hl [0, 2, 3, 4, 5, 6] rfl)
      · have p58 : ¬ ((lg_cmp mnw ((τ t10).J 8)) ≤ (0 : Int32)) := c58
        refine lv_iconst (v := 2) hx hb d_Model_faultOf_61 (by decide) ?_
        exact W.iret (v := 2) hx hb hr (fun t ht hW => ⟨⟨_, G_4, rfl, ⟨hTy, hFR, ⟨_, by rw [eX_5] at kmo; exact kmo⟩, ⟨_, hfm, kmmA⟩, ⟨_, hfr, kmrA⟩⟩, by rw [ht]; exact hP, va_K.moved hW.alike hK, hD⟩, hS.F ht⟩) hS.2.2 d_Model_faultOf_62
  · have p32 : r29 = (0 : Int32) := c32
    refine lv_iconst (v := 1) hx hb d_Model_faultOf_35 (by decide) ?_
    exact W.iret (v := 1) hx hb hr (fun t ht hW => ⟨⟨_, G_4, rfl, ⟨hTy, hFR, ⟨_, by rw [eX_5] at kmo; exact kmo⟩, ⟨_, hfm, kmmA⟩, ⟨_, hfr, kmrA⟩⟩, by rw [ht]; exact hP, va_K.moved hW.alike hK, hD⟩, hS.F ht⟩) hS.2.2 d_Model_faultOf_36
def y_Model_judged : MethodName := ⟨"TrustChainModel", "judged", "()Z"⟩
abbrev b_Model_judged : ByteArray := prog_14_method_34_code
def w_Model_judged : List Cond := Cond.code y_Model_judged b_Model_judged 4 ((some FieldType.boolean)) :: tb
theorem d_Model_judged_0 : decode b_Model_judged 0 = .ok (.aload_n 0, 1) := by decide +kernel
theorem d_Model_judged_1 : decode b_Model_judged 1 = .ok (.dup, 1) := by decide +kernel
theorem d_Model_judged_2 : decode b_Model_judged 2 = .ok (.getfield 321, 3) := by decide +kernel
theorem d_Model_judged_5 : decode b_Model_judged 5 = .ok (.iconst 1, 1) := by decide +kernel
theorem d_Model_judged_6 : decode b_Model_judged 6 = .ok (.iadd, 1) := by decide +kernel
theorem d_Model_judged_7 : decode b_Model_judged 7 = .ok (.putfield 321, 3) := by decide +kernel
theorem d_Model_judged_10 : decode b_Model_judged 10 = .ok (.iconst 0, 1) := by decide +kernel
theorem d_Model_judged_11 : decode b_Model_judged 11 = .ok (.istore_n 1, 1) := by decide +kernel
theorem d_Model_judged_12 : decode b_Model_judged 12 = .ok (.iconst (-1), 1) := by decide +kernel
theorem d_Model_judged_13 : decode b_Model_judged 13 = .ok (.istore_n 2, 1) := by decide +kernel
theorem d_Model_judged_14 : decode b_Model_judged 14 = .ok (.aload_n 0, 1) := by decide +kernel
theorem d_Model_judged_15 : decode b_Model_judged 15 = .ok (.getfield 333, 3) := by decide +kernel
theorem d_Model_judged_18 : decode b_Model_judged 18 = .ok (.iconst 2, 1) := by decide +kernel
theorem d_Model_judged_19 : decode b_Model_judged 19 = .ok (.isub, 1) := by decide +kernel
theorem d_Model_judged_20 : decode b_Model_judged 20 = .ok (.istore_n 3, 1) := by decide +kernel
theorem d_Model_judged_21 : decode b_Model_judged 21 = .ok (.iload_n 3, 1) := by decide +kernel
theorem d_Model_judged_22 : decode b_Model_judged 22 = .ok (.ifCond .lt 21, 3) := by decide +kernel
theorem d_Model_judged_25 : decode b_Model_judged 25 = .ok (.iload_n 1, 1) := by decide +kernel
theorem d_Model_judged_26 : decode b_Model_judged 26 = .ok (.ifCond .ne 17, 3) := by decide +kernel
theorem d_Model_judged_29 : decode b_Model_judged 29 = .ok (.aload_n 0, 1) := by decide +kernel
theorem d_Model_judged_30 : decode b_Model_judged 30 = .ok (.iload_n 3, 1) := by decide +kernel
theorem d_Model_judged_31 : decode b_Model_judged 31 = .ok (.invokevirtual 375, 3) := by decide +kernel
theorem d_Model_judged_34 : decode b_Model_judged 34 = .ok (.istore_n 1, 1) := by decide +kernel
theorem d_Model_judged_35 : decode b_Model_judged 35 = .ok (.iload_n 3, 1) := by decide +kernel
theorem d_Model_judged_36 : decode b_Model_judged 36 = .ok (.istore_n 2, 1) := by decide +kernel
theorem d_Model_judged_37 : decode b_Model_judged 37 = .ok (.iinc 3 (-1), 3) := by decide +kernel
theorem d_Model_judged_40 : decode b_Model_judged 40 = .ok (.goto (-19), 3) := by decide +kernel
theorem d_Model_judged_43 : decode b_Model_judged 43 = .ok (.iload_n 1, 1) := by decide +kernel
theorem d_Model_judged_44 : decode b_Model_judged 44 = .ok (.ifCond .eq 13, 3) := by decide +kernel
theorem d_Model_judged_47 : decode b_Model_judged 47 = .ok (.aload_n 0, 1) := by decide +kernel
theorem d_Model_judged_48 : decode b_Model_judged 48 = .ok (.getfield 321, 3) := by decide +kernel
theorem d_Model_judged_51 : decode b_Model_judged 51 = .ok (.iconst 1, 1) := by decide +kernel
theorem d_Model_judged_52 : decode b_Model_judged 52 = .ok (.if_icmp .le 5, 3) := by decide +kernel
theorem d_Model_judged_55 : decode b_Model_judged 55 = .ok (.iconst 0, 1) := by decide +kernel
theorem d_Model_judged_56 : decode b_Model_judged 56 = .ok (.ireturn, 1) := by decide +kernel
theorem d_Model_judged_57 : decode b_Model_judged 57 = .ok (.iconst 0, 1) := by decide +kernel
theorem d_Model_judged_58 : decode b_Model_judged 58 = .ok (.istore_n 3, 1) := by decide +kernel
theorem d_Model_judged_59 : decode b_Model_judged 59 = .ok (.iload_n 3, 1) := by decide +kernel
theorem d_Model_judged_60 : decode b_Model_judged 60 = .ok (.aload_n 0, 1) := by decide +kernel
theorem d_Model_judged_61 : decode b_Model_judged 61 = .ok (.getfield 333, 3) := by decide +kernel
theorem d_Model_judged_64 : decode b_Model_judged 64 = .ok (.if_icmp .ge 21, 3) := by decide +kernel
theorem d_Model_judged_67 : decode b_Model_judged 67 = .ok (.aload_n 0, 1) := by decide +kernel
theorem d_Model_judged_68 : decode b_Model_judged 68 = .ok (.getfield 139, 3) := by decide +kernel
theorem d_Model_judged_71 : decode b_Model_judged 71 = .ok (.iload_n 3, 1) := by decide +kernel
theorem d_Model_judged_72 : decode b_Model_judged 72 = .ok (.aload_n 0, 1) := by decide +kernel
theorem d_Model_judged_73 : decode b_Model_judged 73 = .ok (.getfield 136, 3) := by decide +kernel
theorem d_Model_judged_76 : decode b_Model_judged 76 = .ok (.iload_n 3, 1) := by decide +kernel
theorem d_Model_judged_77 : decode b_Model_judged 77 = .ok (.iaload, 1) := by decide +kernel
theorem d_Model_judged_78 : decode b_Model_judged 78 = .ok (.iastore, 1) := by decide +kernel
theorem d_Model_judged_79 : decode b_Model_judged 79 = .ok (.iinc 3 1, 3) := by decide +kernel
theorem d_Model_judged_82 : decode b_Model_judged 82 = .ok (.goto (-23), 3) := by decide +kernel
theorem d_Model_judged_85 : decode b_Model_judged 85 = .ok (.aload_n 0, 1) := by decide +kernel
theorem d_Model_judged_86 : decode b_Model_judged 86 = .ok (.aload_n 0, 1) := by decide +kernel
theorem d_Model_judged_87 : decode b_Model_judged 87 = .ok (.getfield 333, 3) := by decide +kernel
theorem d_Model_judged_90 : decode b_Model_judged 90 = .ok (.putfield 324, 3) := by decide +kernel
theorem d_Model_judged_93 : decode b_Model_judged 93 = .ok (.aload_n 0, 1) := by decide +kernel
theorem d_Model_judged_94 : decode b_Model_judged 94 = .ok (.iload_n 1, 1) := by decide +kernel
theorem d_Model_judged_95 : decode b_Model_judged 95 = .ok (.putfield 327, 3) := by decide +kernel
theorem d_Model_judged_98 : decode b_Model_judged 98 = .ok (.aload_n 0, 1) := by decide +kernel
theorem d_Model_judged_99 : decode b_Model_judged 99 = .ok (.iload_n 1, 1) := by decide +kernel
theorem d_Model_judged_100 : decode b_Model_judged 100 = .ok (.ifCond .ne 7, 3) := by decide +kernel
theorem d_Model_judged_103 : decode b_Model_judged 103 = .ok (.iconst (-1), 1) := by decide +kernel
theorem d_Model_judged_104 : decode b_Model_judged 104 = .ok (.goto 4, 3) := by decide +kernel
theorem d_Model_judged_107 : decode b_Model_judged 107 = .ok (.iload_n 2, 1) := by decide +kernel
theorem d_Model_judged_108 : decode b_Model_judged 108 = .ok (.putfield 142, 3) := by decide +kernel
theorem d_Model_judged_111 : decode b_Model_judged 111 = .ok (.iload_n 1, 1) := by decide +kernel
theorem d_Model_judged_112 : decode b_Model_judged 112 = .ok (.ifCond .ne 7, 3) := by decide +kernel
theorem d_Model_judged_115 : decode b_Model_judged 115 = .ok (.iconst 1, 1) := by decide +kernel
theorem d_Model_judged_116 : decode b_Model_judged 116 = .ok (.goto 4, 3) := by decide +kernel
theorem d_Model_judged_119 : decode b_Model_judged 119 = .ok (.iconst 0, 1) := by decide +kernel
theorem d_Model_judged_120 : decode b_Model_judged 120 = .ok (.ireturn, 1) := by decide +kernel
set_option maxHeartbeats 4000000 in
set_option maxRecDepth 100000 in
theorem m_Model_judged (l : Launch) (dC : Nat → ClassId) (dI : Nat → Nat → Nat) (sb : sB) (γ : cG) (κ : kE) (Ad : List Nat) (τ : Nat → TD) (gT : ClassId) (G : va_W) (mo : Nat) (moc msT mrV msP mrA mbA mwA mhA mfA mpA mxA myA mmA mqA mzA mwy mfd : Nat) (mer mfed mwr mqs mch mft mpt mdp mvd mmk : Int32) (mnw : Int64) (s9 K9 KL c9 : Nat) (fm fr fw : Nat → Int32) (fS fV : Nat → Option Nat) (sz : Nat) (hTy : TR γ κ Ad τ G) (kmo : Xc Ad mo (.inr (12, (.int mer :: .int mfed :: .int mwr :: .int (nI K9) :: .int (nI KL) :: .ref moc :: .ref msT :: .ref mrV :: .ref msP :: .int mqs :: .ref mrA :: .ref mbA :: .ref mwA :: .ref mhA :: .ref mfA :: .ref mpA :: .ref mxA :: .ref myA :: .ref mmA :: .ref mqA :: .ref mzA :: .ref mwy :: .ref mfd :: .int (nI s9) :: .int (nI c9) :: .int mch :: .int mft :: .int mpt :: .int mdp :: .int mvd :: .long mnw :: .int mmk :: []))) G) (kmmA : Xc Ad mmA (.inl (γ.2.1, 600, .inl fm)) G) (kmrA : Xc Ad mrA (.inl (γ.2.1, 600, .inl fr)) G) (kmwy : Xc Ad mwy (.inl (γ.2.1, 16, .inl fw)) G) (kmsT : Xc Ad msT (.inl (gT, 16, .inr (.inr (.inr (.inr fS))))) G) (kmrV : Xc Ad mrV (.inl (gT, 8, .inr (.inr (.inr (.inr fV))))) G) (kmzA : tK κ Ad mzA (6, 600, 6)) (kmqA : tK κ Ad mqA (6, 600, 4)) (kmyA : tK κ Ad myA (6, 600, 5)) (kmxA : tK κ Ad mxA (6, 600, 3)) (kmbA : tK κ Ad mbA (6, 2176, 0)) (kmwA : tK κ Ad mwA (6, 64, 0)) (kmhA : tK κ Ad mhA (6, 8, 0)) (kmpA : tK κ Ad mpA (6, 64, 2)) (kmfA : tK κ Ad mfA (6, 8, 1)) (kmfd : tK κ Ad mfd (6, 16, 0)) (hx_mo_mmA : mo ≠ mmA) (hx_mo_mrA : mo ≠ mrA) (hx_mo_mwy : mo ≠ mwy) (hx_mo_msT : mo ≠ msT) (hx_mo_mrV : mo ≠ mrV) (hx_mmA_mrA : mmA ≠ mrA) (hx_mmA_mwy : mmA ≠ mwy) (hx_mmA_msT : mmA ≠ msT) (hx_mmA_mrV : mmA ≠ mrV) (hx_mrA_mwy : mrA ≠ mwy) (hx_mrA_msT : mrA ≠ msT) (hx_mrA_mrV : mrA ≠ mrV) (hx_mwy_msT : mwy ≠ msT) (hx_mwy_mrV : mwy ≠ mrV) (hx_msT_mrV : msT ≠ mrV) (hst : STc κ Ad τ K9 fS) (hrv : STl κ Ad τ KL fV) (hway : ∀ j, j < s9 → ∃ c, c < K9 ∧ fw j = nI c) (hK9 : K9 ≤ 16) (hKL : KL ≤ 8) (hs9 : s9 ≤ 16) (hfm : bR fm) (hfr : bR fr) (hs1 : 1 ≤ s9) (hc9 : c9 ≤ 16) : Met l y_Model_judged w_Model_judged ({ frames := 7, cells := 0, slots := 0, locals := 167 }) (mu_P [.ref mo] (dC, dI) sb G [(γ.1, .byte), (γ.2.1, .int), (γ.2.2.1, .long), (γ.2.2.2, .object "java/lang/Object"), (gT, .object "TrustChainModel$Text")] sz) (va_Qi (fun r (G' : va_W) => TR γ κ Ad τ G' ∧ FL Ad [mo, mmA, mrA] G G' ∧ (bz r (r = 1) ∧ (∃ (q9 d9 e9 f9 : Int32) (c8 : Nat), c8 ≤ 16 ∧ Xc Ad mo (.inr (12, (.int mer :: .int mfed :: .int mwr :: .int (nI K9) :: .int (nI KL) :: .ref moc :: .ref msT :: .ref mrV :: .ref msP :: .int q9 :: .ref mrA :: .ref mbA :: .ref mwA :: .ref mhA :: .ref mfA :: .ref mpA :: .ref mxA :: .ref myA :: .ref mmA :: .ref mqA :: .ref mzA :: .ref mwy :: .ref mfd :: .int (nI s9) :: .int (nI c8) :: .int d9 :: .int f9 :: .int mpt :: .int mdp :: .int e9 :: .long mnw :: .int mmk :: []))) G') ∧ (∃ f9 : Nat → Int32, bR f9 ∧ Xc Ad mmA (.inl (γ.2.1, 600, .inl f9)) G') ∧ (∃ f9 : Nat → Int32, bR f9 ∧ Xc Ad mrA (.inl (γ.2.1, 600, .inl f9)) G'))) (mu_B (dC, dI) [(γ.1, .byte), (γ.2.1, .int), (γ.2.2.1, .long), (γ.2.2.2, .object "java/lang/Object"), (gT, .object "TrustChainModel$Text")] (va_A G sz) (fun G' : va_W => G')) (va_A G sz)) 0 0 (va_A G sz) := by
  refine Met.ofW (cc := b_Model_judged) (maxL := 4) (ret := (some FieldType.boolean)) (by decide) rfl ?_
  intro p e s m args below meth c s₁ B hml hv
  obtain ⟨rfl, hsz, hB0, hP, hK, hD0, hN, hT0⟩ := hv
  have hx := B.exec
  have hb := B.bytes
  have hr := B.returns
  have hts := atoms_spec (ws := w_Model_judged) B.pre
  have tbin : ∀ w ∈ tb, w ∈ w_Model_judged := fun w h => List.mem_cons_of_mem _ h
  have htb : ∀ w ∈ tb, w.before _ s = true := fun w h => hts w (tbin w h)
  have hown : s.vm.findClass "TrustChainModel" = some m.cls := findClass_of_methodNamed B.named
  have hlocks := B.notSynchronized
  subst hsz
  have hD := hD0.self (sz := s.heap.size)
  generalize hAe : va_A G s.heap.size = A at hD ⊢
  have hA : ∀ q : Nat, s.heap.size ≤ q → A q := fun q h => by rw [← hAe]; exact Or.inr h
  have hAs : ∀ q : Nat, A q → sb.1 ≤ q := fun q h => by
    rw [← hAe] at h
    rcases h with ⟨k, e, h⟩ | h
    · exact hD0.2 k _ h
    · exact Nat.le_trans hB0 h
  have hS : va_S A s.heap s.heap [] := va_S.rf
  have hFR := FL.rf Ad [mo, mmA, mrA] G
  have hcs : 0 ≤ (headSpec w_Model_judged ({ frames := 7, cells := 0, slots := 0, locals := 167 })).room.cells ∧ 0 ≤ (headSpec w_Model_judged ({ frames := 7, cells := 0, slots := 0, locals := 167 })).room.slots := ⟨Nat.le_refl _, Nat.le_refl _⟩
  have hP : va_P (dC, dI) classes G s.heap := hP
  have hl := lv_entry ([.ref mo]) (n := 4) (Nat.le_of_ble_eq_true rfl)
  rw [lg_entry_eq]
  generalize (lg_sl ([.ref mo]) ++ List.replicate (4 - (lg_sl ([.ref mo])).length) Slot.unset).toArray = ls at hl ⊢
  have hl : lv_has ls 4 [(0, .ref mo)] := hl
  obtain ⟨cX_mo, eX_mo⟩ : ∃ z : va_E, z = .inr (12, (.int mer :: .int mfed :: .int mwr :: .int (nI K9) :: .int (nI KL) :: .ref moc :: .ref msT :: .ref mrV :: .ref msP :: .int mqs :: .ref mrA :: .ref mbA :: .ref mwA :: .ref mhA :: .ref mfA :: .ref mpA :: .ref mxA :: .ref myA :: .ref mmA :: .ref mqA :: .ref mzA :: .ref mwy :: .ref mfd :: .int (nI s9) :: .int (nI c9) :: .int mch :: .int mft :: .int mpt :: .int mdp :: .int mvd :: .long mnw :: .int mmk :: [])) := ⟨_, rfl⟩
  rw [← eX_mo] at kmo
  refine lv_aload_n hx hb d_Model_judged_0 rfl (lv_at hl 0 rfl) ?_
  refine lv_dup hx hb d_Model_judged_1 rfl ?_
  obtain ⟨i_1, hg_1⟩ := List.getElem?_of_mem kmo.2
  rw [eX_mo] at hg_1
  refine va_get (v := .int mch) hx hb htb i_Model hown hK hP i_1 hg_1 rfl 25 (by decide) (htb _ q7_239) (fun _ h9 => h9) rfl d_Model_judged_2 ?_
  refine lv_iconst (v := 1) hx hb d_Model_judged_5 (by decide) ?_
  refine lv_iadd hx hb d_Model_judged_6 ?_
  refine lv_topi (fun v7 ev7 => ?_)
  refine va_put (v := .int v7) (ty := .int) hx hb htb i_Model t_Model t_Model_ok n_Model hown hK hP hD hS i_1 hg_1 rfl 25 (by decide) (htb _ q7_239) (fun _ h9 => h9) rfl (by decide +kernel) rfl rfl (Nat.le_of_ble_eq_true rfl) d_Model_judged_7 (fun H7 locs hP hD2 hS => ?_)
  have hP : va_P (dC, dI) classes (G.set i_1 (mo, .inr (12, (.int mer :: .int mfed :: .int mwr :: .int (nI K9) :: .int (nI KL) :: .ref moc :: .ref msT :: .ref mrV :: .ref msP :: .int mqs :: .ref mrA :: .ref mbA :: .ref mwA :: .ref mhA :: .ref mfA :: .ref mpA :: .ref mxA :: .ref myA :: .ref mmA :: .ref mqA :: .ref mzA :: .ref mwy :: .ref mfd :: .int (nI s9) :: .int (nI c9) :: .int v7 :: .int mft :: .int mpt :: .int mdp :: .int mvd :: .long mnw :: .int mmk :: [])))) H7 := hP
  have hD3 : va_D A (G.set i_1 (mo, .inr (12, (.int mer :: .int mfed :: .int mwr :: .int (nI K9) :: .int (nI KL) :: .ref moc :: .ref msT :: .ref mrV :: .ref msP :: .int mqs :: .ref mrA :: .ref mbA :: .ref mwA :: .ref mhA :: .ref mfA :: .ref mpA :: .ref mxA :: .ref myA :: .ref mmA :: .ref mqA :: .ref mzA :: .ref mwy :: .ref mfd :: .int (nI s9) :: .int (nI c9) :: .int v7 :: .int mft :: .int mpt :: .int mdp :: .int mvd :: .long mnw :: .int mmk :: [])))) := hD2
  have hTy := TR.setX (c' := .inr (12, (.int mer :: .int mfed :: .int mwr :: .int (nI K9) :: .int (nI KL) :: .ref moc :: .ref msT :: .ref mrV :: .ref msP :: .int mqs :: .ref mrA :: .ref mbA :: .ref mwA :: .ref mhA :: .ref mfA :: .ref mpA :: .ref mxA :: .ref myA :: .ref mmA :: .ref mqA :: .ref mzA :: .ref mwy :: .ref mfd :: .int (nI s9) :: .int (nI c9) :: .int v7 :: .int mft :: .int mpt :: .int mdp :: .int mvd :: .long mnw :: .int mmk :: []))) hTy hg_1 kmo.1
  have kmmA := Xc.setX (c' := .inr (12, (.int mer :: .int mfed :: .int mwr :: .int (nI K9) :: .int (nI KL) :: .ref moc :: .ref msT :: .ref mrV :: .ref msP :: .int mqs :: .ref mrA :: .ref mbA :: .ref mwA :: .ref mhA :: .ref mfA :: .ref mpA :: .ref mxA :: .ref myA :: .ref mmA :: .ref mqA :: .ref mzA :: .ref mwy :: .ref mfd :: .int (nI s9) :: .int (nI c9) :: .int v7 :: .int mft :: .int mpt :: .int mdp :: .int mvd :: .long mnw :: .int mmk :: []))) kmmA hg_1 (fun e => hx_mo_mmA.symm (congrArg Prod.fst e))
  have kmrA := Xc.setX (c' := .inr (12, (.int mer :: .int mfed :: .int mwr :: .int (nI K9) :: .int (nI KL) :: .ref moc :: .ref msT :: .ref mrV :: .ref msP :: .int mqs :: .ref mrA :: .ref mbA :: .ref mwA :: .ref mhA :: .ref mfA :: .ref mpA :: .ref mxA :: .ref myA :: .ref mmA :: .ref mqA :: .ref mzA :: .ref mwy :: .ref mfd :: .int (nI s9) :: .int (nI c9) :: .int v7 :: .int mft :: .int mpt :: .int mdp :: .int mvd :: .long mnw :: .int mmk :: []))) kmrA hg_1 (fun e => hx_mo_mrA.symm (congrArg Prod.fst e))
  have kmwy := Xc.setX (c' := .inr (12, (.int mer :: .int mfed :: .int mwr :: .int (nI K9) :: .int (nI KL) :: .ref moc :: .ref msT :: .ref mrV :: .ref msP :: .int mqs :: .ref mrA :: .ref mbA :: .ref mwA :: .ref mhA :: .ref mfA :: .ref mpA :: .ref mxA :: .ref myA :: .ref mmA :: .ref mqA :: .ref mzA :: .ref mwy :: .ref mfd :: .int (nI s9) :: .int (nI c9) :: .int v7 :: .int mft :: .int mpt :: .int mdp :: .int mvd :: .long mnw :: .int mmk :: []))) kmwy hg_1 (fun e => hx_mo_mwy.symm (congrArg Prod.fst e))
  have kmsT := Xc.setX (c' := .inr (12, (.int mer :: .int mfed :: .int mwr :: .int (nI K9) :: .int (nI KL) :: .ref moc :: .ref msT :: .ref mrV :: .ref msP :: .int mqs :: .ref mrA :: .ref mbA :: .ref mwA :: .ref mhA :: .ref mfA :: .ref mpA :: .ref mxA :: .ref myA :: .ref mmA :: .ref mqA :: .ref mzA :: .ref mwy :: .ref mfd :: .int (nI s9) :: .int (nI c9) :: .int v7 :: .int mft :: .int mpt :: .int mdp :: .int mvd :: .long mnw :: .int mmk :: []))) kmsT hg_1 (fun e => hx_mo_msT.symm (congrArg Prod.fst e))
  have kmrV := Xc.setX (c' := .inr (12, (.int mer :: .int mfed :: .int mwr :: .int (nI K9) :: .int (nI KL) :: .ref moc :: .ref msT :: .ref mrV :: .ref msP :: .int mqs :: .ref mrA :: .ref mbA :: .ref mwA :: .ref mhA :: .ref mfA :: .ref mpA :: .ref mxA :: .ref myA :: .ref mmA :: .ref mqA :: .ref mzA :: .ref mwy :: .ref mfd :: .int (nI s9) :: .int (nI c9) :: .int v7 :: .int mft :: .int mpt :: .int mdp :: .int mvd :: .long mnw :: .int mmk :: []))) kmrV hg_1 (fun e => hx_mo_mrV.symm (congrArg Prod.fst e))
  have hFR := hFR.tr (FL.set (Ad := Ad) (X := [mo, mmA, mrA]) (c' := .inr (12, (.int mer :: .int mfed :: .int mwr :: .int (nI K9) :: .int (nI KL) :: .ref moc :: .ref msT :: .ref mrV :: .ref msP :: .int mqs :: .ref mrA :: .ref mbA :: .ref mwA :: .ref mhA :: .ref mfA :: .ref mpA :: .ref mxA :: .ref myA :: .ref mmA :: .ref mqA :: .ref mzA :: .ref mwy :: .ref mfd :: .int (nI s9) :: .int (nI c9) :: .int v7 :: .int mft :: .int mpt :: .int mdp :: .int mvd :: .long mnw :: .int mmk :: []))) hg_1 (by simp))
  have hg_1 := set_here (c' := .inr (12, (.int mer :: .int mfed :: .int mwr :: .int (nI K9) :: .int (nI KL) :: .ref moc :: .ref msT :: .ref mrV :: .ref msP :: .int mqs :: .ref mrA :: .ref mbA :: .ref mwA :: .ref mhA :: .ref mfA :: .ref mpA :: .ref mxA :: .ref myA :: .ref mmA :: .ref mqA :: .ref mzA :: .ref mwy :: .ref mfd :: .int (nI s9) :: .int (nI c9) :: .int v7 :: .int mft :: .int mpt :: .int mdp :: .int mvd :: .long mnw :: .int mmk :: []))) hg_1
  have kmo : Xc Ad mo (.inr (12, (.int mer :: .int mfed :: .int mwr :: .int (nI K9) :: .int (nI KL) :: .ref moc :: .ref msT :: .ref mrV :: .ref msP :: .int mqs :: .ref mrA :: .ref mbA :: .ref mwA :: .ref mhA :: .ref mfA :: .ref mpA :: .ref mxA :: .ref myA :: .ref mmA :: .ref mqA :: .ref mzA :: .ref mwy :: .ref mfd :: .int (nI s9) :: .int (nI c9) :: .int v7 :: .int mft :: .int mpt :: .int mdp :: .int mvd :: .long mnw :: .int mmk :: []))) (G.set i_1 (mo, .inr (12, (.int mer :: .int mfed :: .int mwr :: .int (nI K9) :: .int (nI KL) :: .ref moc :: .ref msT :: .ref mrV :: .ref msP :: .int mqs :: .ref mrA :: .ref mbA :: .ref mwA :: .ref mhA :: .ref mfA :: .ref mpA :: .ref mxA :: .ref myA :: .ref mmA :: .ref mqA :: .ref mzA :: .ref mwy :: .ref mfd :: .int (nI s9) :: .int (nI c9) :: .int v7 :: .int mft :: .int mpt :: .int mdp :: .int mvd :: .long mnw :: .int mmk :: [])))) := ⟨kmo.1, List.mem_of_getElem? hg_1⟩
  have hD := hD3
  clear hD3 hD2
  generalize G.set i_1 (mo, .inr (12, (.int mer :: .int mfed :: .int mwr :: .int (nI K9) :: .int (nI KL) :: .ref moc :: .ref msT :: .ref mrV :: .ref msP :: .int mqs :: .ref mrA :: .ref mbA :: .ref mwA :: .ref mhA :: .ref mfA :: .ref mpA :: .ref mxA :: .ref myA :: .ref mmA :: .ref mqA :: .ref mzA :: .ref mwy :: .ref mfd :: .int (nI s9) :: .int (nI c9) :: .int v7 :: .int mft :: .int mpt :: .int mdp :: .int mvd :: .long mnw :: .int mmk :: []))) = G_2 at hP hD hTy hFR kmo kmmA kmrA kmwy kmsT kmrV hg_1
  obtain ⟨cX_3, eX_3⟩ : ∃ z : va_E, z = .inr (12, (.int mer :: .int mfed :: .int mwr :: .int (nI K9) :: .int (nI KL) :: .ref moc :: .ref msT :: .ref mrV :: .ref msP :: .int mqs :: .ref mrA :: .ref mbA :: .ref mwA :: .ref mhA :: .ref mfA :: .ref mpA :: .ref mxA :: .ref myA :: .ref mmA :: .ref mqA :: .ref mzA :: .ref mwy :: .ref mfd :: .int (nI s9) :: .int (nI c9) :: .int v7 :: .int mft :: .int mpt :: .int mdp :: .int mvd :: .long mnw :: .int mmk :: [])) := ⟨_, rfl⟩
  rw [← eX_3] at kmo
  refine lv_iconst (v := 0) hx hb d_Model_judged_10 (by decide) ?_
  refine lv_istore_n (lv' := [(1, .int 0), (0, .ref mo)]) hx hb d_Model_judged_11 rfl hl (by decide) rfl (fun ls hl => ?_)
  refine lv_iconst (v := -1) hx hb d_Model_judged_12 (by decide) ?_
  refine lv_istore_n (lv' := [(2, .int (-1)), (1, .int 0), (0, .ref mo)]) hx hb d_Model_judged_13 rfl hl (by decide) rfl (fun ls hl => ?_)
  refine lv_aload_n hx hb d_Model_judged_14 rfl (lv_at hl 2 rfl) ?_
  refine va_get (v := .int (nI s9)) hx hb htb i_Model hown hK hP i_1 hg_1 rfl 23 (by decide) (htb _ q7_237) (fun _ h9 => h9) rfl d_Model_judged_15 ?_
  refine lv_iconst (v := 2) hx hb d_Model_judged_18 (by decide) ?_
  refine lv_isub hx hb d_Model_judged_19 ?_
  refine lv_istore_n (lv' := [(3, .int ((nI s9) - 2)), (2, .int (-1)), (1, .int 0), (0, .ref mo)]) hx hb d_Model_judged_20 rfl hl (by decide) rfl (fun ls hl => ?_)
  have hl : lv_has ls 4 [(3, .int (jD (s9 - 1))), (2, .int (-1)), (1, .int 0), (0, .ref mo)] := by rw [← jD_sub2 (by omega)]; exact hl
  refine w_loopW (α := Nat × Int32 × Int32 × (Nat → Int32) × (Nat → Int32) × Int32 × va_W) (fun a9 => 0 ≤ a9.1 ∧ a9.1 ≤ (s9 - 1) ∧ TR γ κ Ad τ a9.2.2.2.2.2.2 ∧ FL Ad [mo, mmA, mrA] G a9.2.2.2.2.2.2 ∧ Xc Ad mo (.inr (12, (.int mer :: .int mfed :: .int mwr :: .int (nI K9) :: .int (nI KL) :: .ref moc :: .ref msT :: .ref mrV :: .ref msP :: .int a9.2.2.2.2.2.1 :: .ref mrA :: .ref mbA :: .ref mwA :: .ref mhA :: .ref mfA :: .ref mpA :: .ref mxA :: .ref myA :: .ref mmA :: .ref mqA :: .ref mzA :: .ref mwy :: .ref mfd :: .int (nI s9) :: .int (nI c9) :: .int v7 :: .int mft :: .int mpt :: .int mdp :: .int mvd :: .long mnw :: .int mmk :: []))) a9.2.2.2.2.2.2 ∧ Xc Ad mmA (.inl (γ.2.1, 600, .inl a9.2.2.2.1)) a9.2.2.2.2.2.2 ∧ Xc Ad mrA (.inl (γ.2.1, 600, .inl a9.2.2.2.2.1)) a9.2.2.2.2.2.2 ∧ Xc Ad mwy (.inl (γ.2.1, 16, .inl fw)) a9.2.2.2.2.2.2 ∧ Xc Ad msT (.inl (gT, 16, .inr (.inr (.inr (.inr fS))))) a9.2.2.2.2.2.2 ∧ Xc Ad mrV (.inl (gT, 8, .inr (.inr (.inr (.inr fV))))) a9.2.2.2.2.2.2 ∧ (bR a9.2.2.2.1 ∧ bR a9.2.2.2.2.1)) (fun a9 => a9.1) (fun a9 => [(3, .int (jD a9.1)), (2, .int a9.2.2.1), (1, .int a9.2.1), (0, .ref mo)]) (fun _ => []) (fun a9 => a9.2.2.2.2.2.2) 4 21 (fun a9 HL21 locs ls hJ hP hD hS hl ih21 => ?_) ((s9 - 1), (0 : Int32), (-1 : Int32), fm, fr, mqs, G_2) _ _ ls ⟨by omega, by omega, hTy, hFR, (by have h9 := kmo; rw [eX_3] at h9; exact h9), kmmA, kmrA, kmwy, kmsT, kmrV, ⟨hfm, hfr⟩⟩ hP hD hS (lv_sub hl [0, 1, 2, 3, 4] rfl)
  obtain ⟨z21, x21_1, x21_2, f21_mmA, f21_mrA, v21_mqs, G21⟩ := a9
  obtain ⟨hy21, hz21, hTy, hFR, kmo, kmmA, kmrA, kmwy, kmsT, kmrV, hJ21⟩ := hJ
  dsimp only at hy21 hz21 hTy hFR kmo kmmA kmrA kmwy kmsT kmrV hP hD hl ih21 hJ21
  obtain _ | z21 := z21
  · have hl : lv_has ls 4 [(3, .int (-1)), (2, .int x21_2), (1, .int x21_1), (0, .ref mo)] := hl
    obtain ⟨cX_4, eX_4⟩ : ∃ z : va_E, z = .inr (12, (.int mer :: .int mfed :: .int mwr :: .int (nI K9) :: .int (nI KL) :: .ref moc :: .ref msT :: .ref mrV :: .ref msP :: .int v21_mqs :: .ref mrA :: .ref mbA :: .ref mwA :: .ref mhA :: .ref mfA :: .ref mpA :: .ref mxA :: .ref myA :: .ref mmA :: .ref mqA :: .ref mzA :: .ref mwy :: .ref mfd :: .int (nI s9) :: .int (nI c9) :: .int v7 :: .int mft :: .int mpt :: .int mdp :: .int mvd :: .long mnw :: .int mmk :: [])) := ⟨_, rfl⟩
    rw [← eX_4] at kmo
    obtain ⟨hfm, hfr⟩ := hJ21
    refine lv_iload_n hx hb d_Model_judged_21 rfl (lv_at hl 0 rfl) ?_
    refine lv_if_lt (tgt := 43) hx hb d_Model_judged_22 (by decide) (fun c22 => ?_) (fun c22 => ?_)
    rotate_left
    · exact absurd c22 (by decide)
    refine lv_iload_n hx hb d_Model_judged_43 rfl (lv_at hl 2 rfl) ?_
    refine lv_if_eq (tgt := 57) hx hb d_Model_judged_44 (by decide) (fun c44 => ?_) (fun c44 => ?_)
    · have p44 : x21_1 = (0 : Int32) := c44
      refine lv_iconst (v := 0) hx hb d_Model_judged_57 (by decide) ?_
      refine lv_istore_n (lv' := [(3, .int 0), (2, .int x21_2), (1, .int x21_1), (0, .ref mo)]) hx hb d_Model_judged_58 rfl hl (by decide) rfl (fun ls hl => ?_)
      refine w_loopW (α := Nat × va_W) (fun a9 => 0 ≤ a9.1 ∧ a9.1 ≤ s9 ∧ TR γ κ Ad τ a9.2 ∧ FL Ad [mo, mmA, mrA] G a9.2 ∧ Xc Ad mo cX_4 a9.2 ∧ Xc Ad mmA (.inl (γ.2.1, 600, .inl f21_mmA)) a9.2 ∧ Xc Ad mrA (.inl (γ.2.1, 600, .inl f21_mrA)) a9.2 ∧ Xc Ad mwy (.inl (γ.2.1, 16, .inl fw)) a9.2 ∧ Xc Ad msT (.inl (gT, 16, .inr (.inr (.inr (.inr fS))))) a9.2 ∧ Xc Ad mrV (.inl (gT, 8, .inr (.inr (.inr (.inr fV))))) a9.2) (fun a9 => s9 - a9.1) (fun a9 => [(3, .int (nI a9.1)), (2, .int x21_2), (1, .int x21_1), (0, .ref mo)]) (fun _ => []) (fun a9 => a9.2) 4 59 (fun a9 HL59 locs ls hJ hP hD hS hl ih59 => ?_) (0, G21) _ _ ls ⟨by omega, by omega, hTy, hFR, kmo, kmmA, kmrA, kmwy, kmsT, kmrV⟩ hP hD hS (lv_sub hl [0, 1, 2, 3, 4] rfl)
      obtain ⟨z59, G59⟩ := a9
      obtain ⟨hy59, hz59, hTy, hFR, kmo, kmmA, kmrA, kmwy, kmsT, kmrV⟩ := hJ
      dsimp only at hy59 hz59 hTy hFR kmo kmmA kmrA kmwy kmsT kmrV hP hD hl ih59
      refine lv_iload_n hx hb d_Model_judged_59 rfl (lv_at hl 0 rfl) ?_
      refine lv_aload_n hx hb d_Model_judged_60 rfl (lv_at hl 3 rfl) ?_
      obtain ⟨i_5, hg_5⟩ := List.getElem?_of_mem kmo.2
      rw [eX_4] at hg_5
      refine va_get (v := .int (nI s9)) hx hb htb i_Model hown hK hP i_5 hg_5 rfl 23 (by decide) (htb _ q7_237) (fun _ h9 => h9) rfl d_Model_judged_61 ?_
      refine lv_icmp_ge (tgt := 85) hx hb d_Model_judged_64 (by decide) (fun c64 => ?_) (fun c64 => ?_)
      · have p64 : s9 ≤ z59 := ((nI_leI (a := s9) (b := z59) (by omega) (by omega)).mp c64)
        refine lv_aload_n hx hb d_Model_judged_85 rfl (lv_at hl 3 rfl) ?_
        refine lv_aload_n hx hb d_Model_judged_86 rfl (lv_at hl 3 rfl) ?_
        refine va_get (v := .int (nI s9)) hx hb htb i_Model hown hK hP i_5 hg_5 rfl 23 (by decide) (htb _ q7_237) (fun _ h9 => h9) rfl d_Model_judged_87 ?_
        refine va_put (v := .int (nI s9)) (ty := .int) hx hb htb i_Model t_Model t_Model_ok n_Model hown hK hP hD hS i_5 hg_5 rfl 24 (by decide) (htb _ q7_238) (fun _ h9 => h9) rfl (by decide +kernel) rfl rfl (Nat.le_of_ble_eq_true rfl) d_Model_judged_90 (fun H90 locs hP hD2 hS => ?_)
        have hP : va_P (dC, dI) classes (G59.set i_5 (mo, .inr (12, (.int mer :: .int mfed :: .int mwr :: .int (nI K9) :: .int (nI KL) :: .ref moc :: .ref msT :: .ref mrV :: .ref msP :: .int v21_mqs :: .ref mrA :: .ref mbA :: .ref mwA :: .ref mhA :: .ref mfA :: .ref mpA :: .ref mxA :: .ref myA :: .ref mmA :: .ref mqA :: .ref mzA :: .ref mwy :: .ref mfd :: .int (nI s9) :: .int (nI s9) :: .int v7 :: .int mft :: .int mpt :: .int mdp :: .int mvd :: .long mnw :: .int mmk :: [])))) H90 := hP
        have hD3 : va_D A (G59.set i_5 (mo, .inr (12, (.int mer :: .int mfed :: .int mwr :: .int (nI K9) :: .int (nI KL) :: .ref moc :: .ref msT :: .ref mrV :: .ref msP :: .int v21_mqs :: .ref mrA :: .ref mbA :: .ref mwA :: .ref mhA :: .ref mfA :: .ref mpA :: .ref mxA :: .ref myA :: .ref mmA :: .ref mqA :: .ref mzA :: .ref mwy :: .ref mfd :: .int (nI s9) :: .int (nI s9) :: .int v7 :: .int mft :: .int mpt :: .int mdp :: .int mvd :: .long mnw :: .int mmk :: [])))) := hD2
        have hTy := TR.setX (c' := .inr (12, (.int mer :: .int mfed :: .int mwr :: .int (nI K9) :: .int (nI KL) :: .ref moc :: .ref msT :: .ref mrV :: .ref msP :: .int v21_mqs :: .ref mrA :: .ref mbA :: .ref mwA :: .ref mhA :: .ref mfA :: .ref mpA :: .ref mxA :: .ref myA :: .ref mmA :: .ref mqA :: .ref mzA :: .ref mwy :: .ref mfd :: .int (nI s9) :: .int (nI s9) :: .int v7 :: .int mft :: .int mpt :: .int mdp :: .int mvd :: .long mnw :: .int mmk :: []))) hTy hg_5 kmo.1
        have kmmA := Xc.setX (c' := .inr (12, (.int mer :: .int mfed :: .int mwr :: .int (nI K9) :: .int (nI KL) :: .ref moc :: .ref msT :: .ref mrV :: .ref msP :: .int v21_mqs :: .ref mrA :: .ref mbA :: .ref mwA :: .ref mhA :: .ref mfA :: .ref mpA :: .ref mxA :: .ref myA :: .ref mmA :: .ref mqA :: .ref mzA :: .ref mwy :: .ref mfd :: .int (nI s9) :: .int (nI s9) :: .int v7 :: .int mft :: .int mpt :: .int mdp :: .int mvd :: .long mnw :: .int mmk :: []))) kmmA hg_5 (fun e => hx_mo_mmA.symm (congrArg Prod.fst e))
        have kmrA := Xc.setX (c' := .inr (12, (.int mer :: .int mfed :: .int mwr :: .int (nI K9) :: .int (nI KL) :: .ref moc :: .ref msT :: .ref mrV :: .ref msP :: .int v21_mqs :: .ref mrA :: .ref mbA :: .ref mwA :: .ref mhA :: .ref mfA :: .ref mpA :: .ref mxA :: .ref myA :: .ref mmA :: .ref mqA :: .ref mzA :: .ref mwy :: .ref mfd :: .int (nI s9) :: .int (nI s9) :: .int v7 :: .int mft :: .int mpt :: .int mdp :: .int mvd :: .long mnw :: .int mmk :: []))) kmrA hg_5 (fun e => hx_mo_mrA.symm (congrArg Prod.fst e))
        have kmwy := Xc.setX (c' := .inr (12, (.int mer :: .int mfed :: .int mwr :: .int (nI K9) :: .int (nI KL) :: .ref moc :: .ref msT :: .ref mrV :: .ref msP :: .int v21_mqs :: .ref mrA :: .ref mbA :: .ref mwA :: .ref mhA :: .ref mfA :: .ref mpA :: .ref mxA :: .ref myA :: .ref mmA :: .ref mqA :: .ref mzA :: .ref mwy :: .ref mfd :: .int (nI s9) :: .int (nI s9) :: .int v7 :: .int mft :: .int mpt :: .int mdp :: .int mvd :: .long mnw :: .int mmk :: []))) kmwy hg_5 (fun e => hx_mo_mwy.symm (congrArg Prod.fst e))
        have kmsT := Xc.setX (c' := .inr (12, (.int mer :: .int mfed :: .int mwr :: .int (nI K9) :: .int (nI KL) :: .ref moc :: .ref msT :: .ref mrV :: .ref msP :: .int v21_mqs :: .ref mrA :: .ref mbA :: .ref mwA :: .ref mhA :: .ref mfA :: .ref mpA :: .ref mxA :: .ref myA :: .ref mmA :: .ref mqA :: .ref mzA :: .ref mwy :: .ref mfd :: .int (nI s9) :: .int (nI s9) :: .int v7 :: .int mft :: .int mpt :: .int mdp :: .int mvd :: .long mnw :: .int mmk :: []))) kmsT hg_5 (fun e => hx_mo_msT.symm (congrArg Prod.fst e))
        have kmrV := Xc.setX (c' := .inr (12, (.int mer :: .int mfed :: .int mwr :: .int (nI K9) :: .int (nI KL) :: .ref moc :: .ref msT :: .ref mrV :: .ref msP :: .int v21_mqs :: .ref mrA :: .ref mbA :: .ref mwA :: .ref mhA :: .ref mfA :: .ref mpA :: .ref mxA :: .ref myA :: .ref mmA :: .ref mqA :: .ref mzA :: .ref mwy :: .ref mfd :: .int (nI s9) :: .int (nI s9) :: .int v7 :: .int mft :: .int mpt :: .int mdp :: .int mvd :: .long mnw :: .int mmk :: []))) kmrV hg_5 (fun e => hx_mo_mrV.symm (congrArg Prod.fst e))
        have hFR := hFR.tr (FL.set (Ad := Ad) (X := [mo, mmA, mrA]) (c' := .inr (12, (.int mer :: .int mfed :: .int mwr :: .int (nI K9) :: .int (nI KL) :: .ref moc :: .ref msT :: .ref mrV :: .ref msP :: .int v21_mqs :: .ref mrA :: .ref mbA :: .ref mwA :: .ref mhA :: .ref mfA :: .ref mpA :: .ref mxA :: .ref myA :: .ref mmA :: .ref mqA :: .ref mzA :: .ref mwy :: .ref mfd :: .int (nI s9) :: .int (nI s9) :: .int v7 :: .int mft :: .int mpt :: .int mdp :: .int mvd :: .long mnw :: .int mmk :: []))) hg_5 (by simp))
        have hg_5 := set_here (c' := .inr (12, (.int mer :: .int mfed :: .int mwr :: .int (nI K9) :: .int (nI KL) :: .ref moc :: .ref msT :: .ref mrV :: .ref msP :: .int v21_mqs :: .ref mrA :: .ref mbA :: .ref mwA :: .ref mhA :: .ref mfA :: .ref mpA :: .ref mxA :: .ref myA :: .ref mmA :: .ref mqA :: .ref mzA :: .ref mwy :: .ref mfd :: .int (nI s9) :: .int (nI s9) :: .int v7 :: .int mft :: .int mpt :: .int mdp :: .int mvd :: .long mnw :: .int mmk :: []))) hg_5
        have kmo : Xc Ad mo (.inr (12, (.int mer :: .int mfed :: .int mwr :: .int (nI K9) :: .int (nI KL) :: .ref moc :: .ref msT :: .ref mrV :: .ref msP :: .int v21_mqs :: .ref mrA :: .ref mbA :: .ref mwA :: .ref mhA :: .ref mfA :: .ref mpA :: .ref mxA :: .ref myA :: .ref mmA :: .ref mqA :: .ref mzA :: .ref mwy :: .ref mfd :: .int (nI s9) :: .int (nI s9) :: .int v7 :: .int mft :: .int mpt :: .int mdp :: .int mvd :: .long mnw :: .int mmk :: []))) (G59.set i_5 (mo, .inr (12, (.int mer :: .int mfed :: .int mwr :: .int (nI K9) :: .int (nI KL) :: .ref moc :: .ref msT :: .ref mrV :: .ref msP :: .int v21_mqs :: .ref mrA :: .ref mbA :: .ref mwA :: .ref mhA :: .ref mfA :: .ref mpA :: .ref mxA :: .ref myA :: .ref mmA :: .ref mqA :: .ref mzA :: .ref mwy :: .ref mfd :: .int (nI s9) :: .int (nI s9) :: .int v7 :: .int mft :: .int mpt :: .int mdp :: .int mvd :: .long mnw :: .int mmk :: [])))) := ⟨kmo.1, List.mem_of_getElem? hg_5⟩
        have hD := hD3
        clear hD3 hD2
        generalize G59.set i_5 (mo, .inr (12, (.int mer :: .int mfed :: .int mwr :: .int (nI K9) :: .int (nI KL) :: .ref moc :: .ref msT :: .ref mrV :: .ref msP :: .int v21_mqs :: .ref mrA :: .ref mbA :: .ref mwA :: .ref mhA :: .ref mfA :: .ref mpA :: .ref mxA :: .ref myA :: .ref mmA :: .ref mqA :: .ref mzA :: .ref mwy :: .ref mfd :: .int (nI s9) :: .int (nI s9) :: .int v7 :: .int mft :: .int mpt :: .int mdp :: .int mvd :: .long mnw :: .int mmk :: []))) = G_6 at hP hD hTy hFR kmo kmmA kmrA kmwy kmsT kmrV hg_5
        obtain ⟨cX_7, eX_7⟩ : ∃ z : va_E, z = .inr (12, (.int mer :: .int mfed :: .int mwr :: .int (nI K9) :: .int (nI KL) :: .ref moc :: .ref msT :: .ref mrV :: .ref msP :: .int v21_mqs :: .ref mrA :: .ref mbA :: .ref mwA :: .ref mhA :: .ref mfA :: .ref mpA :: .ref mxA :: .ref myA :: .ref mmA :: .ref mqA :: .ref mzA :: .ref mwy :: .ref mfd :: .int (nI s9) :: .int (nI s9) :: .int v7 :: .int mft :: .int mpt :: .int mdp :: .int mvd :: .long mnw :: .int mmk :: [])) := ⟨_, rfl⟩
        rw [← eX_7] at kmo
        refine lv_aload_n hx hb d_Model_judged_93 rfl (lv_at hl 3 rfl) ?_
        refine lv_iload_n hx hb d_Model_judged_94 rfl (lv_at hl 2 rfl) ?_
        refine va_put (v := .int x21_1) (ty := .int) hx hb htb i_Model t_Model t_Model_ok n_Model hown hK hP hD hS i_5 hg_5 rfl 29 (by decide) (htb _ q8_3) (fun _ h9 => h9) rfl (by decide +kernel) rfl rfl (Nat.le_of_ble_eq_true rfl) d_Model_judged_95 (fun H95 locs hP hD2 hS => ?_)
        have hP : va_P (dC, dI) classes (G_6.set i_5 (mo, .inr (12, (.int mer :: .int mfed :: .int mwr :: .int (nI K9) :: .int (nI KL) :: .ref moc :: .ref msT :: .ref mrV :: .ref msP :: .int v21_mqs :: .ref mrA :: .ref mbA :: .ref mwA :: .ref mhA :: .ref mfA :: .ref mpA :: .ref mxA :: .ref myA :: .ref mmA :: .ref mqA :: .ref mzA :: .ref mwy :: .ref mfd :: .int (nI s9) :: .int (nI s9) :: .int v7 :: .int mft :: .int mpt :: .int mdp :: .int x21_1 :: .long mnw :: .int mmk :: [])))) H95 := hP
        have hD3 : va_D A (G_6.set i_5 (mo, .inr (12, (.int mer :: .int mfed :: .int mwr :: .int (nI K9) :: .int (nI KL) :: .ref moc :: .ref msT :: .ref mrV :: .ref msP :: .int v21_mqs :: .ref mrA :: .ref mbA :: .ref mwA :: .ref mhA :: .ref mfA :: .ref mpA :: .ref mxA :: .ref myA :: .ref mmA :: .ref mqA :: .ref mzA :: .ref mwy :: .ref mfd :: .int (nI s9) :: .int (nI s9) :: .int v7 :: .int mft :: .int mpt :: .int mdp :: .int x21_1 :: .long mnw :: .int mmk :: [])))) := hD2
        have hTy := TR.setX (c' := .inr (12, (.int mer :: .int mfed :: .int mwr :: .int (nI K9) :: .int (nI KL) :: .ref moc :: .ref msT :: .ref mrV :: .ref msP :: .int v21_mqs :: .ref mrA :: .ref mbA :: .ref mwA :: .ref mhA :: .ref mfA :: .ref mpA :: .ref mxA :: .ref myA :: .ref mmA :: .ref mqA :: .ref mzA :: .ref mwy :: .ref mfd :: .int (nI s9) :: .int (nI s9) :: .int v7 :: .int mft :: .int mpt :: .int mdp :: .int x21_1 :: .long mnw :: .int mmk :: []))) hTy hg_5 kmo.1
        have kmmA := Xc.setX (c' := .inr (12, (.int mer :: .int mfed :: .int mwr :: .int (nI K9) :: .int (nI KL) :: .ref moc :: .ref msT :: .ref mrV :: .ref msP :: .int v21_mqs :: .ref mrA :: .ref mbA :: .ref mwA :: .ref mhA :: .ref mfA :: .ref mpA :: .ref mxA :: .ref myA :: .ref mmA :: .ref mqA :: .ref mzA :: .ref mwy :: .ref mfd :: .int (nI s9) :: .int (nI s9) :: .int v7 :: .int mft :: .int mpt :: .int mdp :: .int x21_1 :: .long mnw :: .int mmk :: []))) kmmA hg_5 (fun e => hx_mo_mmA.symm (congrArg Prod.fst e))
        have kmrA := Xc.setX (c' := .inr (12, (.int mer :: .int mfed :: .int mwr :: .int (nI K9) :: .int (nI KL) :: .ref moc :: .ref msT :: .ref mrV :: .ref msP :: .int v21_mqs :: .ref mrA :: .ref mbA :: .ref mwA :: .ref mhA :: .ref mfA :: .ref mpA :: .ref mxA :: .ref myA :: .ref mmA :: .ref mqA :: .ref mzA :: .ref mwy :: .ref mfd :: .int (nI s9) :: .int (nI s9) :: .int v7 :: .int mft :: .int mpt :: .int mdp :: .int x21_1 :: .long mnw :: .int mmk :: []))) kmrA hg_5 (fun e => hx_mo_mrA.symm (congrArg Prod.fst e))
        have kmwy := Xc.setX (c' := .inr (12, (.int mer :: .int mfed :: .int mwr :: .int (nI K9) :: .int (nI KL) :: .ref moc :: .ref msT :: .ref mrV :: .ref msP :: .int v21_mqs :: .ref mrA :: .ref mbA :: .ref mwA :: .ref mhA :: .ref mfA :: .ref mpA :: .ref mxA :: .ref myA :: .ref mmA :: .ref mqA :: .ref mzA :: .ref mwy :: .ref mfd :: .int (nI s9) :: .int (nI s9) :: .int v7 :: .int mft :: .int mpt :: .int mdp :: .int x21_1 :: .long mnw :: .int mmk :: []))) kmwy hg_5 (fun e => hx_mo_mwy.symm (congrArg Prod.fst e))
        have kmsT := Xc.setX (c' := .inr (12, (.int mer :: .int mfed :: .int mwr :: .int (nI K9) :: .int (nI KL) :: .ref moc :: .ref msT :: .ref mrV :: .ref msP :: .int v21_mqs :: .ref mrA :: .ref mbA :: .ref mwA :: .ref mhA :: .ref mfA :: .ref mpA :: .ref mxA :: .ref myA :: .ref mmA :: .ref mqA :: .ref mzA :: .ref mwy :: .ref mfd :: .int (nI s9) :: .int (nI s9) :: .int v7 :: .int mft :: .int mpt :: .int mdp :: .int x21_1 :: .long mnw :: .int mmk :: []))) kmsT hg_5 (fun e => hx_mo_msT.symm (congrArg Prod.fst e))
        have kmrV := Xc.setX (c' := .inr (12, (.int mer :: .int mfed :: .int mwr :: .int (nI K9) :: .int (nI KL) :: .ref moc :: .ref msT :: .ref mrV :: .ref msP :: .int v21_mqs :: .ref mrA :: .ref mbA :: .ref mwA :: .ref mhA :: .ref mfA :: .ref mpA :: .ref mxA :: .ref myA :: .ref mmA :: .ref mqA :: .ref mzA :: .ref mwy :: .ref mfd :: .int (nI s9) :: .int (nI s9) :: .int v7 :: .int mft :: .int mpt :: .int mdp :: .int x21_1 :: .long mnw :: .int mmk :: []))) kmrV hg_5 (fun e => hx_mo_mrV.symm (congrArg Prod.fst e))
        have hFR := hFR.tr (FL.set (Ad := Ad) (X := [mo, mmA, mrA]) (c' := .inr (12, (.int mer :: .int mfed :: .int mwr :: .int (nI K9) :: .int (nI KL) :: .ref moc :: .ref msT :: .ref mrV :: .ref msP :: .int v21_mqs :: .ref mrA :: .ref mbA :: .ref mwA :: .ref mhA :: .ref mfA :: .ref mpA :: .ref mxA :: .ref myA :: .ref mmA :: .ref mqA :: .ref mzA :: .ref mwy :: .ref mfd :: .int (nI s9) :: .int (nI s9) :: .int v7 :: .int mft :: .int mpt :: .int mdp :: .int x21_1 :: .long mnw :: .int mmk :: []))) hg_5 (by simp))
        have hg_5 := set_here (c' := .inr (12, (.int mer :: .int mfed :: .int mwr :: .int (nI K9) :: .int (nI KL) :: .ref moc :: .ref msT :: .ref mrV :: .ref msP :: .int v21_mqs :: .ref mrA :: .ref mbA :: .ref mwA :: .ref mhA :: .ref mfA :: .ref mpA :: .ref mxA :: .ref myA :: .ref mmA :: .ref mqA :: .ref mzA :: .ref mwy :: .ref mfd :: .int (nI s9) :: .int (nI s9) :: .int v7 :: .int mft :: .int mpt :: .int mdp :: .int x21_1 :: .long mnw :: .int mmk :: []))) hg_5
        have kmo : Xc Ad mo (.inr (12, (.int mer :: .int mfed :: .int mwr :: .int (nI K9) :: .int (nI KL) :: .ref moc :: .ref msT :: .ref mrV :: .ref msP :: .int v21_mqs :: .ref mrA :: .ref mbA :: .ref mwA :: .ref mhA :: .ref mfA :: .ref mpA :: .ref mxA :: .ref myA :: .ref mmA :: .ref mqA :: .ref mzA :: .ref mwy :: .ref mfd :: .int (nI s9) :: .int (nI s9) :: .int v7 :: .int mft :: .int mpt :: .int mdp :: .int x21_1 :: .long mnw :: .int mmk :: []))) (G_6.set i_5 (mo, .inr (12, (.int mer :: .int mfed :: .int mwr :: .int (nI K9) :: .int (nI KL) :: .ref moc :: .ref msT :: .ref mrV :: .ref msP :: .int v21_mqs :: .ref mrA :: .ref mbA :: .ref mwA :: .ref mhA :: .ref mfA :: .ref mpA :: .ref mxA :: .ref myA :: .ref mmA :: .ref mqA :: .ref mzA :: .ref mwy :: .ref mfd :: .int (nI s9) :: .int (nI s9) :: .int v7 :: .int mft :: .int mpt :: .int mdp :: .int x21_1 :: .long mnw :: .int mmk :: [])))) := ⟨kmo.1, List.mem_of_getElem? hg_5⟩
        have hD := hD3
        clear hD3 hD2
        generalize G_6.set i_5 (mo, .inr (12, (.int mer :: .int mfed :: .int mwr :: .int (nI K9) :: .int (nI KL) :: .ref moc :: .ref msT :: .ref mrV :: .ref msP :: .int v21_mqs :: .ref mrA :: .ref mbA :: .ref mwA :: .ref mhA :: .ref mfA :: .ref mpA :: .ref mxA :: .ref myA :: .ref mmA :: .ref mqA :: .ref mzA :: .ref mwy :: .ref mfd :: .int (nI s9) :: .int (nI s9) :: .int v7 :: .int mft :: .int mpt :: .int mdp :: .int x21_1 :: .long mnw :: .int mmk :: []))) = G_8 at hP hD hTy hFR kmo kmmA kmrA kmwy kmsT kmrV hg_5
        obtain ⟨cX_9, eX_9⟩ : ∃ z : va_E, z = .inr (12, (.int mer :: .int mfed :: .int mwr :: .int (nI K9) :: .int (nI KL) :: .ref moc :: .ref msT :: .ref mrV :: .ref msP :: .int v21_mqs :: .ref mrA :: .ref mbA :: .ref mwA :: .ref mhA :: .ref mfA :: .ref mpA :: .ref mxA :: .ref myA :: .ref mmA :: .ref mqA :: .ref mzA :: .ref mwy :: .ref mfd :: .int (nI s9) :: .int (nI s9) :: .int v7 :: .int mft :: .int mpt :: .int mdp :: .int x21_1 :: .long mnw :: .int mmk :: [])) := ⟨_, rfl⟩
        rw [← eX_9] at kmo
        refine lv_aload_n hx hb d_Model_judged_98 rfl (lv_at hl 3 rfl) ?_
        refine lv_iload_n hx hb d_Model_judged_99 rfl (lv_at hl 2 rfl) ?_
        refine lv_if_ne (tgt := 107) hx hb d_Model_judged_100 (by decide) (fun c100 => ?_) (fun c100 => ?_)
        · have p100 : ¬ (x21_1 = (0 : Int32)) := c100
          refine lv_iload_n hx hb d_Model_judged_107 rfl (lv_at hl 1 rfl) ?_
          refine va_put (v := .int x21_2) (ty := .int) hx hb htb i_Model t_Model t_Model_ok n_Model hown hK hP hD hS i_5 hg_5 rfl 26 (by decide) (htb _ q8_0) (fun _ h9 => h9) rfl (by decide +kernel) rfl rfl (Nat.le_of_ble_eq_true rfl) d_Model_judged_108 (fun H108 locs hP hD2 hS => ?_)
          have hP : va_P (dC, dI) classes (G_8.set i_5 (mo, .inr (12, (.int mer :: .int mfed :: .int mwr :: .int (nI K9) :: .int (nI KL) :: .ref moc :: .ref msT :: .ref mrV :: .ref msP :: .int v21_mqs :: .ref mrA :: .ref mbA :: .ref mwA :: .ref mhA :: .ref mfA :: .ref mpA :: .ref mxA :: .ref myA :: .ref mmA :: .ref mqA :: .ref mzA :: .ref mwy :: .ref mfd :: .int (nI s9) :: .int (nI s9) :: .int v7 :: .int x21_2 :: .int mpt :: .int mdp :: .int x21_1 :: .long mnw :: .int mmk :: [])))) H108 := hP
          have hD3 : va_D A (G_8.set i_5 (mo, .inr (12, (.int mer :: .int mfed :: .int mwr :: .int (nI K9) :: .int (nI KL) :: .ref moc :: .ref msT :: .ref mrV :: .ref msP :: .int v21_mqs :: .ref mrA :: .ref mbA :: .ref mwA :: .ref mhA :: .ref mfA :: .ref mpA :: .ref mxA :: .ref myA :: .ref mmA :: .ref mqA :: .ref mzA :: .ref mwy :: .ref mfd :: .int (nI s9) :: .int (nI s9) :: .int v7 :: .int x21_2 :: .int mpt :: .int mdp :: .int x21_1 :: .long mnw :: .int mmk :: [])))) := hD2
          have hTy := TR.setX (c' := .inr (12, (.int mer :: .int mfed :: .int mwr :: .int (nI K9) :: .int (nI KL) :: .ref moc :: .ref msT :: .ref mrV :: .ref msP :: .int v21_mqs :: .ref mrA :: .ref mbA :: .ref mwA :: .ref mhA :: .ref mfA :: .ref mpA :: .ref mxA :: .ref myA :: .ref mmA :: .ref mqA :: .ref mzA :: .ref mwy :: .ref mfd :: .int (nI s9) :: .int (nI s9) :: .int v7 :: .int x21_2 :: .int mpt :: .int mdp :: .int x21_1 :: .long mnw :: .int mmk :: []))) hTy hg_5 kmo.1
          have kmmA := Xc.setX (c' := .inr (12, (.int mer :: .int mfed :: .int mwr :: .int (nI K9) :: .int (nI KL) :: .ref moc :: .ref msT :: .ref mrV :: .ref msP :: .int v21_mqs :: .ref mrA :: .ref mbA :: .ref mwA :: .ref mhA :: .ref mfA :: .ref mpA :: .ref mxA :: .ref myA :: .ref mmA :: .ref mqA :: .ref mzA :: .ref mwy :: .ref mfd :: .int (nI s9) :: .int (nI s9) :: .int v7 :: .int x21_2 :: .int mpt :: .int mdp :: .int x21_1 :: .long mnw :: .int mmk :: []))) kmmA hg_5 (fun e => hx_mo_mmA.symm (congrArg Prod.fst e))
          have kmrA := Xc.setX (c' := .inr (12, (.int mer :: .int mfed :: .int mwr :: .int (nI K9) :: .int (nI KL) :: .ref moc :: .ref msT :: .ref mrV :: .ref msP :: .int v21_mqs :: .ref mrA :: .ref mbA :: .ref mwA :: .ref mhA :: .ref mfA :: .ref mpA :: .ref mxA :: .ref myA :: .ref mmA :: .ref mqA :: .ref mzA :: .ref mwy :: .ref mfd :: .int (nI s9) :: .int (nI s9) :: .int v7 :: .int x21_2 :: .int mpt :: .int mdp :: .int x21_1 :: .long mnw :: .int mmk :: []))) kmrA hg_5 (fun e => hx_mo_mrA.symm (congrArg Prod.fst e))
          have kmwy := Xc.setX (c' := .inr (12, (.int mer :: .int mfed :: .int mwr :: .int (nI K9) :: .int (nI KL) :: .ref moc :: .ref msT :: .ref mrV :: .ref msP :: .int v21_mqs :: .ref mrA :: .ref mbA :: .ref mwA :: .ref mhA :: .ref mfA :: .ref mpA :: .ref mxA :: .ref myA :: .ref mmA :: .ref mqA :: .ref mzA :: .ref mwy :: .ref mfd :: .int (nI s9) :: .int (nI s9) :: .int v7 :: .int x21_2 :: .int mpt :: .int mdp :: .int x21_1 :: .long mnw :: .int mmk :: []))) kmwy hg_5 (fun e => hx_mo_mwy.symm (congrArg Prod.fst e))
          have kmsT := Xc.setX (c' := .inr (12, (.int mer :: .int mfed :: .int mwr :: .int (nI K9) :: .int (nI KL) :: .ref moc :: .ref msT :: .ref mrV :: .ref msP :: .int v21_mqs :: .ref mrA :: .ref mbA :: .ref mwA :: .ref mhA :: .ref mfA :: .ref mpA :: .ref mxA :: .ref myA :: .ref mmA :: .ref mqA :: .ref mzA :: .ref mwy :: .ref mfd :: .int (nI s9) :: .int (nI s9) :: .int v7 :: .int x21_2 :: .int mpt :: .int mdp :: .int x21_1 :: .long mnw :: .int mmk :: []))) kmsT hg_5 (fun e => hx_mo_msT.symm (congrArg Prod.fst e))
          have kmrV := Xc.setX (c' := .inr (12, (.int mer :: .int mfed :: .int mwr :: .int (nI K9) :: .int (nI KL) :: .ref moc :: .ref msT :: .ref mrV :: .ref msP :: .int v21_mqs :: .ref mrA :: .ref mbA :: .ref mwA :: .ref mhA :: .ref mfA :: .ref mpA :: .ref mxA :: .ref myA :: .ref mmA :: .ref mqA :: .ref mzA :: .ref mwy :: .ref mfd :: .int (nI s9) :: .int (nI s9) :: .int v7 :: .int x21_2 :: .int mpt :: .int mdp :: .int x21_1 :: .long mnw :: .int mmk :: []))) kmrV hg_5 (fun e => hx_mo_mrV.symm (congrArg Prod.fst e))
          have hFR := hFR.tr (FL.set (Ad := Ad) (X := [mo, mmA, mrA]) (c' := .inr (12, (.int mer :: .int mfed :: .int mwr :: .int (nI K9) :: .int (nI KL) :: .ref moc :: .ref msT :: .ref mrV :: .ref msP :: .int v21_mqs :: .ref mrA :: .ref mbA :: .ref mwA :: .ref mhA :: .ref mfA :: .ref mpA :: .ref mxA :: .ref myA :: .ref mmA :: .ref mqA :: .ref mzA :: .ref mwy :: .ref mfd :: .int (nI s9) :: .int (nI s9) :: .int v7 :: .int x21_2 :: .int mpt :: .int mdp :: .int x21_1 :: .long mnw :: .int mmk :: []))) hg_5 (by simp))
          have hg_5 := set_here (c' := .inr (12, (.int mer :: .int mfed :: .int mwr :: .int (nI K9) :: .int (nI KL) :: .ref moc :: .ref msT :: .ref mrV :: .ref msP :: .int v21_mqs :: .ref mrA :: .ref mbA :: .ref mwA :: .ref mhA :: .ref mfA :: .ref mpA :: .ref mxA :: .ref myA :: .ref mmA :: .ref mqA :: .ref mzA :: .ref mwy :: .ref mfd :: .int (nI s9) :: .int (nI s9) :: .int v7 :: .int x21_2 :: .int mpt :: .int mdp :: .int x21_1 :: .long mnw :: .int mmk :: []))) hg_5
          have kmo : Xc Ad mo (.inr (12, (.int mer :: .int mfed :: .int mwr :: .int (nI K9) :: .int (nI KL) :: .ref moc :: .ref msT :: .ref mrV :: .ref msP :: .int v21_mqs :: .ref mrA :: .ref mbA :: .ref mwA :: .ref mhA :: .ref mfA :: .ref mpA :: .ref mxA :: .ref myA :: .ref mmA :: .ref mqA :: .ref mzA :: .ref mwy :: .ref mfd :: .int (nI s9) :: .int (nI s9) :: .int v7 :: .int x21_2 :: .int mpt :: .int mdp :: .int x21_1 :: .long mnw :: .int mmk :: []))) (G_8.set i_5 (mo, .inr (12, (.int mer :: .int mfed :: .int mwr :: .int (nI K9) :: .int (nI KL) :: .ref moc :: .ref msT :: .ref mrV :: .ref msP :: .int v21_mqs :: .ref mrA :: .ref mbA :: .ref mwA :: .ref mhA :: .ref mfA :: .ref mpA :: .ref mxA :: .ref myA :: .ref mmA :: .ref mqA :: .ref mzA :: .ref mwy :: .ref mfd :: .int (nI s9) :: .int (nI s9) :: .int v7 :: .int x21_2 :: .int mpt :: .int mdp :: .int x21_1 :: .long mnw :: .int mmk :: [])))) := ⟨kmo.1, List.mem_of_getElem? hg_5⟩
          have hD := hD3
          clear hD3 hD2
          generalize G_8.set i_5 (mo, .inr (12, (.int mer :: .int mfed :: .int mwr :: .int (nI K9) :: .int (nI KL) :: .ref moc :: .ref msT :: .ref mrV :: .ref msP :: .int v21_mqs :: .ref mrA :: .ref mbA :: .ref mwA :: .ref mhA :: .ref mfA :: .ref mpA :: .ref mxA :: .ref myA :: .ref mmA :: .ref mqA :: .ref mzA :: .ref mwy :: .ref mfd :: .int (nI s9) :: .int (nI s9) :: .int v7 :: .int x21_2 :: .int mpt :: .int mdp :: .int x21_1 :: .long mnw :: .int mmk :: []))) = G_10 at hP hD hTy hFR kmo kmmA kmrA kmwy kmsT kmrV hg_5
          obtain ⟨cX_11, eX_11⟩ : ∃ z : va_E, z = .inr (12, (.int mer :: .int mfed :: .int mwr :: .int (nI K9) :: .int (nI KL) :: .ref moc :: .ref msT :: .ref mrV :: .ref msP :: .int v21_mqs :: .ref mrA :: .ref mbA :: .ref mwA :: .ref mhA :: .ref mfA :: .ref mpA :: .ref mxA :: .ref myA :: .ref mmA :: .ref mqA :: .ref mzA :: .ref mwy :: .ref mfd :: .int (nI s9) :: .int (nI s9) :: .int v7 :: .int x21_2 :: .int mpt :: .int mdp :: .int x21_1 :: .long mnw :: .int mmk :: [])) := ⟨_, rfl⟩
          rw [← eX_11] at kmo
          refine lv_iload_n hx hb d_Model_judged_111 rfl (lv_at hl 2 rfl) ?_
          refine lv_if_ne (tgt := 119) hx hb d_Model_judged_112 (by decide) (fun c112 => ?_) (fun c112 => ?_)
          · have p112 : ¬ (x21_1 = (0 : Int32)) := c112
            refine lv_iconst (v := 0) hx hb d_Model_judged_119 (by decide) ?_
            exact W.zret (v := 0) hx hb hr rfl (fun t ht hW => ⟨⟨_, G_10, rfl, ⟨hTy, hFR, bz_f (by decide), ⟨_, _, _, _, s9, by omega, by rw [eX_11] at kmo; exact kmo⟩, ⟨_, hfm, kmmA⟩, ⟨_, hfr, kmrA⟩⟩, by rw [ht]; exact hP, va_K.moved hW.alike hK, hD⟩, hS.F ht⟩) hS.2.2 d_Model_judged_120
          · have p112 : x21_1 = (0 : Int32) := c112
            refine lv_iconst (v := 1) hx hb d_Model_judged_115 (by decide) ?_
            refine lv_goto (tgt := 120) hx hb d_Model_judged_116 (by decide) ?_
            exact W.zret (v := 1) hx hb hr rfl (fun t ht hW => ⟨⟨_, G_10, rfl, ⟨hTy, hFR, bz_t rfl, ⟨_, _, _, _, s9, by omega, by rw [eX_11] at kmo; exact kmo⟩, ⟨_, hfm, kmmA⟩, ⟨_, hfr, kmrA⟩⟩, by rw [ht]; exact hP, va_K.moved hW.alike hK, hD⟩, hS.F ht⟩) hS.2.2 d_Model_judged_120
        · have p100 : x21_1 = (0 : Int32) := c100
          refine lv_iconst (v := -1) hx hb d_Model_judged_103 (by decide) ?_
          refine lv_goto (tgt := 108) hx hb d_Model_judged_104 (by decide) ?_
          refine va_put (v := .int (-1)) (ty := .int) hx hb htb i_Model t_Model t_Model_ok n_Model hown hK hP hD hS i_5 hg_5 rfl 26 (by decide) (htb _ q8_0) (fun _ h9 => h9) rfl (by decide +kernel) rfl rfl (Nat.le_of_ble_eq_true rfl) d_Model_judged_108 (fun H108 locs hP hD2 hS => ?_)
          have hP : va_P (dC, dI) classes (G_8.set i_5 (mo, .inr (12, (.int mer :: .int mfed :: .int mwr :: .int (nI K9) :: .int (nI KL) :: .ref moc :: .ref msT :: .ref mrV :: .ref msP :: .int v21_mqs :: .ref mrA :: .ref mbA :: .ref mwA :: .ref mhA :: .ref mfA :: .ref mpA :: .ref mxA :: .ref myA :: .ref mmA :: .ref mqA :: .ref mzA :: .ref mwy :: .ref mfd :: .int (nI s9) :: .int (nI s9) :: .int v7 :: .int (-1) :: .int mpt :: .int mdp :: .int x21_1 :: .long mnw :: .int mmk :: [])))) H108 := hP
          have hD3 : va_D A (G_8.set i_5 (mo, .inr (12, (.int mer :: .int mfed :: .int mwr :: .int (nI K9) :: .int (nI KL) :: .ref moc :: .ref msT :: .ref mrV :: .ref msP :: .int v21_mqs :: .ref mrA :: .ref mbA :: .ref mwA :: .ref mhA :: .ref mfA :: .ref mpA :: .ref mxA :: .ref myA :: .ref mmA :: .ref mqA :: .ref mzA :: .ref mwy :: .ref mfd :: .int (nI s9) :: .int (nI s9) :: .int v7 :: .int (-1) :: .int mpt :: .int mdp :: .int x21_1 :: .long mnw :: .int mmk :: [])))) := hD2
          have hTy := TR.setX (c' := .inr (12, (.int mer :: .int mfed :: .int mwr :: .int (nI K9) :: .int (nI KL) :: .ref moc :: .ref msT :: .ref mrV :: .ref msP :: .int v21_mqs :: .ref mrA :: .ref mbA :: .ref mwA :: .ref mhA :: .ref mfA :: .ref mpA :: .ref mxA :: .ref myA :: .ref mmA :: .ref mqA :: .ref mzA :: .ref mwy :: .ref mfd :: .int (nI s9) :: .int (nI s9) :: .int v7 :: .int (-1) :: .int mpt :: .int mdp :: .int x21_1 :: .long mnw :: .int mmk :: []))) hTy hg_5 kmo.1
          have kmmA := Xc.setX (c' := .inr (12, (.int mer :: .int mfed :: .int mwr :: .int (nI K9) :: .int (nI KL) :: .ref moc :: .ref msT :: .ref mrV :: .ref msP :: .int v21_mqs :: .ref mrA :: .ref mbA :: .ref mwA :: .ref mhA :: .ref mfA :: .ref mpA :: .ref mxA :: .ref myA :: .ref mmA :: .ref mqA :: .ref mzA :: .ref mwy :: .ref mfd :: .int (nI s9) :: .int (nI s9) :: .int v7 :: .int (-1) :: .int mpt :: .int mdp :: .int x21_1 :: .long mnw :: .int mmk :: []))) kmmA hg_5 (fun e => hx_mo_mmA.symm (congrArg Prod.fst e))
          have kmrA := Xc.setX (c' := .inr (12, (.int mer :: .int mfed :: .int mwr :: .int (nI K9) :: .int (nI KL) :: .ref moc :: .ref msT :: .ref mrV :: .ref msP :: .int v21_mqs :: .ref mrA :: .ref mbA :: .ref mwA :: .ref mhA :: .ref mfA :: .ref mpA :: .ref mxA :: .ref myA :: .ref mmA :: .ref mqA :: .ref mzA :: .ref mwy :: .ref mfd :: .int (nI s9) :: .int (nI s9) :: .int v7 :: .int (-1) :: .int mpt :: .int mdp :: .int x21_1 :: .long mnw :: .int mmk :: []))) kmrA hg_5 (fun e => hx_mo_mrA.symm (congrArg Prod.fst e))
          have kmwy := Xc.setX (c' := .inr (12, (.int mer :: .int mfed :: .int mwr :: .int (nI K9) :: .int (nI KL) :: .ref moc :: .ref msT :: .ref mrV :: .ref msP :: .int v21_mqs :: .ref mrA :: .ref mbA :: .ref mwA :: .ref mhA :: .ref mfA :: .ref mpA :: .ref mxA :: .ref myA :: .ref mmA :: .ref mqA :: .ref mzA :: .ref mwy :: .ref mfd :: .int (nI s9) :: .int (nI s9) :: .int v7 :: .int (-1) :: .int mpt :: .int mdp :: .int x21_1 :: .long mnw :: .int mmk :: []))) kmwy hg_5 (fun e => hx_mo_mwy.symm (congrArg Prod.fst e))
          have kmsT := Xc.setX (c' := .inr (12, (.int mer :: .int mfed :: .int mwr :: .int (nI K9) :: .int (nI KL) :: .ref moc :: .ref msT :: .ref mrV :: .ref msP :: .int v21_mqs :: .ref mrA :: .ref mbA :: .ref mwA :: .ref mhA :: .ref mfA :: .ref mpA :: .ref mxA :: .ref myA :: .ref mmA :: .ref mqA :: .ref mzA :: .ref mwy :: .ref mfd :: .int (nI s9) :: .int (nI s9) :: .int v7 :: .int (-1) :: .int mpt :: .int mdp :: .int x21_1 :: .long mnw :: .int mmk :: []))) kmsT hg_5 (fun e => hx_mo_msT.symm (congrArg Prod.fst e))
          have kmrV := Xc.setX (c' := .inr (12, (.int mer :: .int mfed :: .int mwr :: .int (nI K9) :: .int (nI KL) :: .ref moc :: .ref msT :: .ref mrV :: .ref msP :: .int v21_mqs :: .ref mrA :: .ref mbA :: .ref mwA :: .ref mhA :: .ref mfA :: .ref mpA :: .ref mxA :: .ref myA :: .ref mmA :: .ref mqA :: .ref mzA :: .ref mwy :: .ref mfd :: .int (nI s9) :: .int (nI s9) :: .int v7 :: .int (-1) :: .int mpt :: .int mdp :: .int x21_1 :: .long mnw :: .int mmk :: []))) kmrV hg_5 (fun e => hx_mo_mrV.symm (congrArg Prod.fst e))
          have hFR := hFR.tr (FL.set (Ad := Ad) (X := [mo, mmA, mrA]) (c' := .inr (12, (.int mer :: .int mfed :: .int mwr :: .int (nI K9) :: .int (nI KL) :: .ref moc :: .ref msT :: .ref mrV :: .ref msP :: .int v21_mqs :: .ref mrA :: .ref mbA :: .ref mwA :: .ref mhA :: .ref mfA :: .ref mpA :: .ref mxA :: .ref myA :: .ref mmA :: .ref mqA :: .ref mzA :: .ref mwy :: .ref mfd :: .int (nI s9) :: .int (nI s9) :: .int v7 :: .int (-1) :: .int mpt :: .int mdp :: .int x21_1 :: .long mnw :: .int mmk :: []))) hg_5 (by simp))
          have hg_5 := set_here (c' := .inr (12, (.int mer :: .int mfed :: .int mwr :: .int (nI K9) :: .int (nI KL) :: .ref moc :: .ref msT :: .ref mrV :: .ref msP :: .int v21_mqs :: .ref mrA :: .ref mbA :: .ref mwA :: .ref mhA :: .ref mfA :: .ref mpA :: .ref mxA :: .ref myA :: .ref mmA :: .ref mqA :: .ref mzA :: .ref mwy :: .ref mfd :: .int (nI s9) :: .int (nI s9) :: .int v7 :: .int (-1) :: .int mpt :: .int mdp :: .int x21_1 :: .long mnw :: .int mmk :: []))) hg_5
          have kmo : Xc Ad mo (.inr (12, (.int mer :: .int mfed :: .int mwr :: .int (nI K9) :: .int (nI KL) :: .ref moc :: .ref msT :: .ref mrV :: .ref msP :: .int v21_mqs :: .ref mrA :: .ref mbA :: .ref mwA :: .ref mhA :: .ref mfA :: .ref mpA :: .ref mxA :: .ref myA :: .ref mmA :: .ref mqA :: .ref mzA :: .ref mwy :: .ref mfd :: .int (nI s9) :: .int (nI s9) :: .int v7 :: .int (-1) :: .int mpt :: .int mdp :: .int x21_1 :: .long mnw :: .int mmk :: []))) (G_8.set i_5 (mo, .inr (12, (.int mer :: .int mfed :: .int mwr :: .int (nI K9) :: .int (nI KL) :: .ref moc :: .ref msT :: .ref mrV :: .ref msP :: .int v21_mqs :: .ref mrA :: .ref mbA :: .ref mwA :: .ref mhA :: .ref mfA :: .ref mpA :: .ref mxA :: .ref myA :: .ref mmA :: .ref mqA :: .ref mzA :: .ref mwy :: .ref mfd :: .int (nI s9) :: .int (nI s9) :: .int v7 :: .int (-1) :: .int mpt :: .int mdp :: .int x21_1 :: .long mnw :: .int mmk :: [])))) := ⟨kmo.1, List.mem_of_getElem? hg_5⟩
          have hD := hD3
          clear hD3 hD2
          generalize G_8.set i_5 (mo, .inr (12, (.int mer :: .int mfed :: .int mwr :: .int (nI K9) :: .int (nI KL) :: .ref moc :: .ref msT :: .ref mrV :: .ref msP :: .int v21_mqs :: .ref mrA :: .ref mbA :: .ref mwA :: .ref mhA :: .ref mfA :: .ref mpA :: .ref mxA :: .ref myA :: .ref mmA :: .ref mqA :: .ref mzA :: .ref mwy :: .ref mfd :: .int (nI s9) :: .int (nI s9) :: .int v7 :: .int (-1) :: .int mpt :: .int mdp :: .int x21_1 :: .long mnw :: .int mmk :: []))) = G_12 at hP hD hTy hFR kmo kmmA kmrA kmwy kmsT kmrV hg_5
          obtain ⟨cX_13, eX_13⟩ : ∃ z : va_E, z = .inr (12, (.int mer :: .int mfed :: .int mwr :: .int (nI K9) :: .int (nI KL) :: .ref moc :: .ref msT :: .ref mrV :: .ref msP :: .int v21_mqs :: .ref mrA :: .ref mbA :: .ref mwA :: .ref mhA :: .ref mfA :: .ref mpA :: .ref mxA :: .ref myA :: .ref mmA :: .ref mqA :: .ref mzA :: .ref mwy :: .ref mfd :: .int (nI s9) :: .int (nI s9) :: .int v7 :: .int (-1) :: .int mpt :: .int mdp :: .int x21_1 :: .long mnw :: .int mmk :: [])) := ⟨_, rfl⟩
          rw [← eX_13] at kmo
          refine lv_iload_n hx hb d_Model_judged_111 rfl (lv_at hl 2 rfl) ?_
          refine lv_if_ne (tgt := 119) hx hb d_Model_judged_112 (by decide) (fun c112 => ?_) (fun c112 => ?_)
          · have p112 : ¬ (x21_1 = (0 : Int32)) := c112
            refine lv_iconst (v := 0) hx hb d_Model_judged_119 (by decide) ?_
            exact W.zret (v := 0) hx hb hr rfl (fun t ht hW => ⟨⟨_, G_12, rfl, ⟨hTy, hFR, bz_f (by decide), ⟨_, _, _, _, s9, by omega, by rw [eX_13] at kmo; exact kmo⟩, ⟨_, hfm, kmmA⟩, ⟨_, hfr, kmrA⟩⟩, by rw [ht]; exact hP, va_K.moved hW.alike hK, hD⟩, hS.F ht⟩) hS.2.2 d_Model_judged_120
          · have p112 : x21_1 = (0 : Int32) := c112
            refine lv_iconst (v := 1) hx hb d_Model_judged_115 (by decide) ?_
            refine lv_goto (tgt := 120) hx hb d_Model_judged_116 (by decide) ?_
            exact W.zret (v := 1) hx hb hr rfl (fun t ht hW => ⟨⟨_, G_12, rfl, ⟨hTy, hFR, bz_t rfl, ⟨_, _, _, _, s9, by omega, by rw [eX_13] at kmo; exact kmo⟩, ⟨_, hfm, kmmA⟩, ⟨_, hfr, kmrA⟩⟩, by rw [ht]; exact hP, va_K.moved hW.alike hK, hD⟩, hS.F ht⟩) hS.2.2 d_Model_judged_120
      · have p64 : ¬ (s9 ≤ z59) := (fun q9 => c64 ((nI_leI (a := s9) (b := z59) (by omega) (by omega)).mpr q9))
        refine lv_aload_n hx hb d_Model_judged_67 rfl (lv_at hl 3 rfl) ?_
        refine va_get (v := .ref mfd) hx hb htb i_Model hown hK hP i_5 hg_5 rfl 22 (by decide) (htb _ q7_236) (fun _ h9 => h9) rfl d_Model_judged_68 ?_
        refine lv_iload_n hx hb d_Model_judged_71 rfl (lv_at hl 0 rfl) ?_
        refine lv_aload_n hx hb d_Model_judged_72 rfl (lv_at hl 3 rfl) ?_
        refine va_get (v := .ref mwy) hx hb htb i_Model hown hK hP i_5 hg_5 rfl 21 (by decide) (htb _ q7_235) (fun _ h9 => h9) rfl d_Model_judged_73 ?_
        refine lv_iload_n hx hb d_Model_judged_76 rfl (lv_at hl 0 rfl) ?_
        obtain ⟨i_14, hg_14⟩ := List.getElem?_of_mem kmwy.2
        have h77 : vp_in (nI z59) 16 := vp_in_nI (by omega) (by omega)
        refine va_iald hx hb hK hP i_14 1 hg_14 rfl h77 d_Model_judged_77 ?_
        refine lv_topi (fun e77 he77 => ?_)
        obtain ⟨cw77, hc1_77, hc2_77⟩ := hway z59 (by omega)
        rw [nI_clamp (by omega), hc2_77] at he77
        subst he77
        obtain ⟨i_15, f_15, hn_15, hg_15⟩ := tr_6 hTy kmfd
        have h78 : vp_in (nI z59) 16 := vp_in_nI (by omega) (by omega)
        refine va_iast hx hb hK hP hD hS i_15 1 hg_15 rfl h78 d_Model_judged_78 (fun H78 locs hP hD2 hS => ?_)
        have hP : va_P (dC, dI) classes (G59.set i_15 (mfd, .inl (γ.2.1, 16, .inl (upd f_15 (nI z59).toNatClampNeg (nI cw77))))) H78 := hP
        have hD3 : va_D A (G59.set i_15 (mfd, .inl (γ.2.1, 16, .inl (upd f_15 (nI z59).toNatClampNeg (nI cw77))))) := hD2
        have hF1 := FR.set (c' := .inl (γ.2.1, 16, .inl (upd f_15 (nI z59).toNatClampNeg (nI cw77)))) hg_15 kmfd.1
        have kmo := kmo.fr hF1
        have kmmA := kmmA.fr hF1
        have kmrA := kmrA.fr hF1
        have kmwy := kmwy.fr hF1
        have kmsT := kmsT.fr hF1
        have kmrV := kmrV.fr hF1
        have hFR := hFR.tr hF1.l
        clear hF1
        have hTy := TR.set (c' := .inl (γ.2.1, 16, .inl (upd f_15 (nI z59).toNatClampNeg (nI cw77)))) hTy hg_15 (okr_6 kmfd hn_15 _)
        have hD := hD3
        clear hD3 hD2
        generalize G59.set i_15 (mfd, .inl (γ.2.1, 16, .inl (upd f_15 (nI z59).toNatClampNeg (nI cw77)))) = G_16 at hP hD hTy hFR kmo kmmA kmrA kmwy kmsT kmrV 
        refine lv_iinc (v := nI (z59 + 1)) (lv' := [(3, .int (nI (z59 + 1))), (2, .int x21_2), (1, .int x21_1), (0, .ref mo)]) hx hb d_Model_judged_79 hl (k := 0) rfl (nI_1 _) (by decide) rfl (fun ls hl => ?_)
        refine lv_goto (tgt := 59) hx hb d_Model_judged_82 (by decide) ?_
        exact ih59 (z59 + 1, G_16) _ _ ls (by dsimp only; omega) ⟨by dsimp only; omega, by dsimp only; omega, hTy, hFR, kmo, kmmA, kmrA, kmwy, kmsT, kmrV⟩ hP hD hS (lv_sub hl [0, 1, 2, 3, 4] rfl)
    · have p44 : ¬ (x21_1 = (0 : Int32)) := c44
      refine lv_aload_n hx hb d_Model_judged_47 rfl (lv_at hl 3 rfl) ?_
      obtain ⟨i_17, hg_17⟩ := List.getElem?_of_mem kmo.2
      rw [eX_4] at hg_17
      refine va_get (v := .int v7) hx hb htb i_Model hown hK hP i_17 hg_17 rfl 25 (by decide) (htb _ q7_239) (fun _ h9 => h9) rfl d_Model_judged_48 ?_
      refine lv_iconst (v := 1) hx hb d_Model_judged_51 (by decide) ?_
      refine lv_icmp_le (tgt := 57) hx hb d_Model_judged_52 (by decide) (fun c52 => ?_) (fun c52 => ?_)
      · have p52 : v7 ≤ (1 : Int32) := c52
        refine lv_iconst (v := 0) hx hb d_Model_judged_57 (by decide) ?_
        refine lv_istore_n (lv' := [(3, .int 0), (2, .int x21_2), (1, .int x21_1), (0, .ref mo)]) hx hb d_Model_judged_58 rfl hl (by decide) rfl (fun ls hl => ?_)
        refine w_loopW (α := Nat × va_W) (fun a9 => 0 ≤ a9.1 ∧ a9.1 ≤ s9 ∧ TR γ κ Ad τ a9.2 ∧ FL Ad [mo, mmA, mrA] G a9.2 ∧ Xc Ad mo cX_4 a9.2 ∧ Xc Ad mmA (.inl (γ.2.1, 600, .inl f21_mmA)) a9.2 ∧ Xc Ad mrA (.inl (γ.2.1, 600, .inl f21_mrA)) a9.2 ∧ Xc Ad mwy (.inl (γ.2.1, 16, .inl fw)) a9.2 ∧ Xc Ad msT (.inl (gT, 16, .inr (.inr (.inr (.inr fS))))) a9.2 ∧ Xc Ad mrV (.inl (gT, 8, .inr (.inr (.inr (.inr fV))))) a9.2) (fun a9 => s9 - a9.1) (fun a9 => [(3, .int (nI a9.1)), (2, .int x21_2), (1, .int x21_1), (0, .ref mo)]) (fun _ => []) (fun a9 => a9.2) 4 59 (fun a9 HL59 locs ls hJ hP hD hS hl ih59 => ?_) (0, G21) _ _ ls ⟨by omega, by omega, hTy, hFR, kmo, kmmA, kmrA, kmwy, kmsT, kmrV⟩ hP hD hS (lv_sub hl [0, 1, 2, 3, 4] rfl)
        obtain ⟨z59, G59⟩ := a9
        obtain ⟨hy59, hz59, hTy, hFR, kmo, kmmA, kmrA, kmwy, kmsT, kmrV⟩ := hJ
        dsimp only at hy59 hz59 hTy hFR kmo kmmA kmrA kmwy kmsT kmrV hP hD hl ih59
        refine lv_iload_n hx hb d_Model_judged_59 rfl (lv_at hl 0 rfl) ?_
        refine lv_aload_n hx hb d_Model_judged_60 rfl (lv_at hl 3 rfl) ?_
        obtain ⟨i_18, hg_18⟩ := List.getElem?_of_mem kmo.2
        rw [eX_4] at hg_18
        refine va_get (v := .int (nI s9)) hx hb htb i_Model hown hK hP i_18 hg_18 rfl 23 (by decide) (htb _ q7_237) (fun _ h9 => h9) rfl d_Model_judged_61 ?_
        refine lv_icmp_ge (tgt := 85) hx hb d_Model_judged_64 (by decide) (fun c64 => ?_) (fun c64 => ?_)
        · have p64 : s9 ≤ z59 := ((nI_leI (a := s9) (b := z59) (by omega) (by omega)).mp c64)
          refine lv_aload_n hx hb d_Model_judged_85 rfl (lv_at hl 3 rfl) ?_
          refine lv_aload_n hx hb d_Model_judged_86 rfl (lv_at hl 3 rfl) ?_
          refine va_get (v := .int (nI s9)) hx hb htb i_Model hown hK hP i_18 hg_18 rfl 23 (by decide) (htb _ q7_237) (fun _ h9 => h9) rfl d_Model_judged_87 ?_
          refine va_put (v := .int (nI s9)) (ty := .int) hx hb htb i_Model t_Model t_Model_ok n_Model hown hK hP hD hS i_18 hg_18 rfl 24 (by decide) (htb _ q7_238) (fun _ h9 => h9) rfl (by decide +kernel) rfl rfl (Nat.le_of_ble_eq_true rfl) d_Model_judged_90 (fun H90 locs hP hD2 hS => ?_)
          have hP : va_P (dC, dI) classes (G59.set i_18 (mo, .inr (12, (.int mer :: .int mfed :: .int mwr :: .int (nI K9) :: .int (nI KL) :: .ref moc :: .ref msT :: .ref mrV :: .ref msP :: .int v21_mqs :: .ref mrA :: .ref mbA :: .ref mwA :: .ref mhA :: .ref mfA :: .ref mpA :: .ref mxA :: .ref myA :: .ref mmA :: .ref mqA :: .ref mzA :: .ref mwy :: .ref mfd :: .int (nI s9) :: .int (nI s9) :: .int v7 :: .int mft :: .int mpt :: .int mdp :: .int mvd :: .long mnw :: .int mmk :: [])))) H90 := hP
          have hD3 : va_D A (G59.set i_18 (mo, .inr (12, (.int mer :: .int mfed :: .int mwr :: .int (nI K9) :: .int (nI KL) :: .ref moc :: .ref msT :: .ref mrV :: .ref msP :: .int v21_mqs :: .ref mrA :: .ref mbA :: .ref mwA :: .ref mhA :: .ref mfA :: .ref mpA :: .ref mxA :: .ref myA :: .ref mmA :: .ref mqA :: .ref mzA :: .ref mwy :: .ref mfd :: .int (nI s9) :: .int (nI s9) :: .int v7 :: .int mft :: .int mpt :: .int mdp :: .int mvd :: .long mnw :: .int mmk :: [])))) := hD2
          have hTy := TR.setX (c' := .inr (12, (.int mer :: .int mfed :: .int mwr :: .int (nI K9) :: .int (nI KL) :: .ref moc :: .ref msT :: .ref mrV :: .ref msP :: .int v21_mqs :: .ref mrA :: .ref mbA :: .ref mwA :: .ref mhA :: .ref mfA :: .ref mpA :: .ref mxA :: .ref myA :: .ref mmA :: .ref mqA :: .ref mzA :: .ref mwy :: .ref mfd :: .int (nI s9) :: .int (nI s9) :: .int v7 :: .int mft :: .int mpt :: .int mdp :: .int mvd :: .long mnw :: .int mmk :: []))) hTy hg_18 kmo.1
          have kmmA := Xc.setX (c' := .inr (12, (.int mer :: .int mfed :: .int mwr :: .int (nI K9) :: .int (nI KL) :: .ref moc :: .ref msT :: .ref mrV :: .ref msP :: .int v21_mqs :: .ref mrA :: .ref mbA :: .ref mwA :: .ref mhA :: .ref mfA :: .ref mpA :: .ref mxA :: .ref myA :: .ref mmA :: .ref mqA :: .ref mzA :: .ref mwy :: .ref mfd :: .int (nI s9) :: .int (nI s9) :: .int v7 :: .int mft :: .int mpt :: .int mdp :: .int mvd :: .long mnw :: .int mmk :: []))) kmmA hg_18 (fun e => hx_mo_mmA.symm (congrArg Prod.fst e))
          have kmrA := Xc.setX (c' := .inr (12, (.int mer :: .int mfed :: .int mwr :: .int (nI K9) :: .int (nI KL) :: .ref moc :: .ref msT :: .ref mrV :: .ref msP :: .int v21_mqs :: .ref mrA :: .ref mbA :: .ref mwA :: .ref mhA :: .ref mfA :: .ref mpA :: .ref mxA :: .ref myA :: .ref mmA :: .ref mqA :: .ref mzA :: .ref mwy :: .ref mfd :: .int (nI s9) :: .int (nI s9) :: .int v7 :: .int mft :: .int mpt :: .int mdp :: .int mvd :: .long mnw :: .int mmk :: []))) kmrA hg_18 (fun e => hx_mo_mrA.symm (congrArg Prod.fst e))
          have kmwy := Xc.setX (c' := .inr (12, (.int mer :: .int mfed :: .int mwr :: .int (nI K9) :: .int (nI KL) :: .ref moc :: .ref msT :: .ref mrV :: .ref msP :: .int v21_mqs :: .ref mrA :: .ref mbA :: .ref mwA :: .ref mhA :: .ref mfA :: .ref mpA :: .ref mxA :: .ref myA :: .ref mmA :: .ref mqA :: .ref mzA :: .ref mwy :: .ref mfd :: .int (nI s9) :: .int (nI s9) :: .int v7 :: .int mft :: .int mpt :: .int mdp :: .int mvd :: .long mnw :: .int mmk :: []))) kmwy hg_18 (fun e => hx_mo_mwy.symm (congrArg Prod.fst e))
          have kmsT := Xc.setX (c' := .inr (12, (.int mer :: .int mfed :: .int mwr :: .int (nI K9) :: .int (nI KL) :: .ref moc :: .ref msT :: .ref mrV :: .ref msP :: .int v21_mqs :: .ref mrA :: .ref mbA :: .ref mwA :: .ref mhA :: .ref mfA :: .ref mpA :: .ref mxA :: .ref myA :: .ref mmA :: .ref mqA :: .ref mzA :: .ref mwy :: .ref mfd :: .int (nI s9) :: .int (nI s9) :: .int v7 :: .int mft :: .int mpt :: .int mdp :: .int mvd :: .long mnw :: .int mmk :: []))) kmsT hg_18 (fun e => hx_mo_msT.symm (congrArg Prod.fst e))
          have kmrV := Xc.setX (c' := .inr (12, (.int mer :: .int mfed :: .int mwr :: .int (nI K9) :: .int (nI KL) :: .ref moc :: .ref msT :: .ref mrV :: .ref msP :: .int v21_mqs :: .ref mrA :: .ref mbA :: .ref mwA :: .ref mhA :: .ref mfA :: .ref mpA :: .ref mxA :: .ref myA :: .ref mmA :: .ref mqA :: .ref mzA :: .ref mwy :: .ref mfd :: .int (nI s9) :: .int (nI s9) :: .int v7 :: .int mft :: .int mpt :: .int mdp :: .int mvd :: .long mnw :: .int mmk :: []))) kmrV hg_18 (fun e => hx_mo_mrV.symm (congrArg Prod.fst e))
          have hFR := hFR.tr (FL.set (Ad := Ad) (X := [mo, mmA, mrA]) (c' := .inr (12, (.int mer :: .int mfed :: .int mwr :: .int (nI K9) :: .int (nI KL) :: .ref moc :: .ref msT :: .ref mrV :: .ref msP :: .int v21_mqs :: .ref mrA :: .ref mbA :: .ref mwA :: .ref mhA :: .ref mfA :: .ref mpA :: .ref mxA :: .ref myA :: .ref mmA :: .ref mqA :: .ref mzA :: .ref mwy :: .ref mfd :: .int (nI s9) :: .int (nI s9) :: .int v7 :: .int mft :: .int mpt :: .int mdp :: .int mvd :: .long mnw :: .int mmk :: []))) hg_18 (by simp))
          have hg_18 := set_here (c' := .inr (12, (.int mer :: .int mfed :: .int mwr :: .int (nI K9) :: .int (nI KL) :: .ref moc :: .ref msT :: .ref mrV :: .ref msP :: .int v21_mqs :: .ref mrA :: .ref mbA :: .ref mwA :: .ref mhA :: .ref mfA :: .ref mpA :: .ref mxA :: .ref myA :: .ref mmA :: .ref mqA :: .ref mzA :: .ref mwy :: .ref mfd :: .int (nI s9) :: .int (nI s9) :: .int v7 :: .int mft :: .int mpt :: .int mdp :: .int mvd :: .long mnw :: .int mmk :: []))) hg_18
          have kmo : Xc Ad mo (.inr (12, (.int mer :: .int mfed :: .int mwr :: .int (nI K9) :: .int (nI KL) :: .ref moc :: .ref msT :: .ref mrV :: .ref msP :: .int v21_mqs :: .ref mrA :: .ref mbA :: .ref mwA :: .ref mhA :: .ref mfA :: .ref mpA :: .ref mxA :: .ref myA :: .ref mmA :: .ref mqA :: .ref mzA :: .ref mwy :: .ref mfd :: .int (nI s9) :: .int (nI s9) :: .int v7 :: .int mft :: .int mpt :: .int mdp :: .int mvd :: .long mnw :: .int mmk :: []))) (G59.set i_18 (mo, .inr (12, (.int mer :: .int mfed :: .int mwr :: .int (nI K9) :: .int (nI KL) :: .ref moc :: .ref msT :: .ref mrV :: .ref msP :: .int v21_mqs :: .ref mrA :: .ref mbA :: .ref mwA :: .ref mhA :: .ref mfA :: .ref mpA :: .ref mxA :: .ref myA :: .ref mmA :: .ref mqA :: .ref mzA :: .ref mwy :: .ref mfd :: .int (nI s9) :: .int (nI s9) :: .int v7 :: .int mft :: .int mpt :: .int mdp :: .int mvd :: .long mnw :: .int mmk :: [])))) := ⟨kmo.1, List.mem_of_getElem? hg_18⟩
          have hD := hD3
          clear hD3 hD2
          generalize G59.set i_18 (mo, .inr (12, (.int mer :: .int mfed :: .int mwr :: .int (nI K9) :: .int (nI KL) :: .ref moc :: .ref msT :: .ref mrV :: .ref msP :: .int v21_mqs :: .ref mrA :: .ref mbA :: .ref mwA :: .ref mhA :: .ref mfA :: .ref mpA :: .ref mxA :: .ref myA :: .ref mmA :: .ref mqA :: .ref mzA :: .ref mwy :: .ref mfd :: .int (nI s9) :: .int (nI s9) :: .int v7 :: .int mft :: .int mpt :: .int mdp :: .int mvd :: .long mnw :: .int mmk :: []))) = G_19 at hP hD hTy hFR kmo kmmA kmrA kmwy kmsT kmrV hg_18
          obtain ⟨cX_20, eX_20⟩ : ∃ z : va_E, z = .inr (12, (.int mer :: .int mfed :: .int mwr :: .int (nI K9) :: .int (nI KL) :: .ref moc :: .ref msT :: .ref mrV :: .ref msP :: .int v21_mqs :: .ref mrA :: .ref mbA :: .ref mwA :: .ref mhA :: .ref mfA :: .ref mpA :: .ref mxA :: .ref myA :: .ref mmA :: .ref mqA :: .ref mzA :: .ref mwy :: .ref mfd :: .int (nI s9) :: .int (nI s9) :: .int v7 :: .int mft :: .int mpt :: .int mdp :: .int mvd :: .long mnw :: .int mmk :: [])) := ⟨_, rfl⟩
          rw [← eX_20] at kmo
          refine lv_aload_n hx hb d_Model_judged_93 rfl (lv_at hl 3 rfl) ?_
          refine lv_iload_n hx hb d_Model_judged_94 rfl (lv_at hl 2 rfl) ?_
          refine va_put (v := .int x21_1) (ty := .int) hx hb htb i_Model t_Model t_Model_ok n_Model hown hK hP hD hS i_18 hg_18 rfl 29 (by decide) (htb _ q8_3) (fun _ h9 => h9) rfl (by decide +kernel) rfl rfl (Nat.le_of_ble_eq_true rfl) d_Model_judged_95 (fun H95 locs hP hD2 hS => ?_)
          have hP : va_P (dC, dI) classes (G_19.set i_18 (mo, .inr (12, (.int mer :: .int mfed :: .int mwr :: .int (nI K9) :: .int (nI KL) :: .ref moc :: .ref msT :: .ref mrV :: .ref msP :: .int v21_mqs :: .ref mrA :: .ref mbA :: .ref mwA :: .ref mhA :: .ref mfA :: .ref mpA :: .ref mxA :: .ref myA :: .ref mmA :: .ref mqA :: .ref mzA :: .ref mwy :: .ref mfd :: .int (nI s9) :: .int (nI s9) :: .int v7 :: .int mft :: .int mpt :: .int mdp :: .int x21_1 :: .long mnw :: .int mmk :: [])))) H95 := hP
          have hD3 : va_D A (G_19.set i_18 (mo, .inr (12, (.int mer :: .int mfed :: .int mwr :: .int (nI K9) :: .int (nI KL) :: .ref moc :: .ref msT :: .ref mrV :: .ref msP :: .int v21_mqs :: .ref mrA :: .ref mbA :: .ref mwA :: .ref mhA :: .ref mfA :: .ref mpA :: .ref mxA :: .ref myA :: .ref mmA :: .ref mqA :: .ref mzA :: .ref mwy :: .ref mfd :: .int (nI s9) :: .int (nI s9) :: .int v7 :: .int mft :: .int mpt :: .int mdp :: .int x21_1 :: .long mnw :: .int mmk :: [])))) := hD2
          have hTy := TR.setX (c' := .inr (12, (.int mer :: .int mfed :: .int mwr :: .int (nI K9) :: .int (nI KL) :: .ref moc :: .ref msT :: .ref mrV :: .ref msP :: .int v21_mqs :: .ref mrA :: .ref mbA :: .ref mwA :: .ref mhA :: .ref mfA :: .ref mpA :: .ref mxA :: .ref myA :: .ref mmA :: .ref mqA :: .ref mzA :: .ref mwy :: .ref mfd :: .int (nI s9) :: .int (nI s9) :: .int v7 :: .int mft :: .int mpt :: .int mdp :: .int x21_1 :: .long mnw :: .int mmk :: []))) hTy hg_18 kmo.1
          have kmmA := Xc.setX (c' := .inr (12, (.int mer :: .int mfed :: .int mwr :: .int (nI K9) :: .int (nI KL) :: .ref moc :: .ref msT :: .ref mrV :: .ref msP :: .int v21_mqs :: .ref mrA :: .ref mbA :: .ref mwA :: .ref mhA :: .ref mfA :: .ref mpA :: .ref mxA :: .ref myA :: .ref mmA :: .ref mqA :: .ref mzA :: .ref mwy :: .ref mfd :: .int (nI s9) :: .int (nI s9) :: .int v7 :: .int mft :: .int mpt :: .int mdp :: .int x21_1 :: .long mnw :: .int mmk :: []))) kmmA hg_18 (fun e => hx_mo_mmA.symm (congrArg Prod.fst e))
          have kmrA := Xc.setX (c' := .inr (12, (.int mer :: .int mfed :: .int mwr :: .int (nI K9) :: .int (nI KL) :: .ref moc :: .ref msT :: .ref mrV :: .ref msP :: .int v21_mqs :: .ref mrA :: .ref mbA :: .ref mwA :: .ref mhA :: .ref mfA :: .ref mpA :: .ref mxA :: .ref myA :: .ref mmA :: .ref mqA :: .ref mzA :: .ref mwy :: .ref mfd :: .int (nI s9) :: .int (nI s9) :: .int v7 :: .int mft :: .int mpt :: .int mdp :: .int x21_1 :: .long mnw :: .int mmk :: []))) kmrA hg_18 (fun e => hx_mo_mrA.symm (congrArg Prod.fst e))
          have kmwy := Xc.setX (c' := .inr (12, (.int mer :: .int mfed :: .int mwr :: .int (nI K9) :: .int (nI KL) :: .ref moc :: .ref msT :: .ref mrV :: .ref msP :: .int v21_mqs :: .ref mrA :: .ref mbA :: .ref mwA :: .ref mhA :: .ref mfA :: .ref mpA :: .ref mxA :: .ref myA :: .ref mmA :: .ref mqA :: .ref mzA :: .ref mwy :: .ref mfd :: .int (nI s9) :: .int (nI s9) :: .int v7 :: .int mft :: .int mpt :: .int mdp :: .int x21_1 :: .long mnw :: .int mmk :: []))) kmwy hg_18 (fun e => hx_mo_mwy.symm (congrArg Prod.fst e))
          have kmsT := Xc.setX (c' := .inr (12, (.int mer :: .int mfed :: .int mwr :: .int (nI K9) :: .int (nI KL) :: .ref moc :: .ref msT :: .ref mrV :: .ref msP :: .int v21_mqs :: .ref mrA :: .ref mbA :: .ref mwA :: .ref mhA :: .ref mfA :: .ref mpA :: .ref mxA :: .ref myA :: .ref mmA :: .ref mqA :: .ref mzA :: .ref mwy :: .ref mfd :: .int (nI s9) :: .int (nI s9) :: .int v7 :: .int mft :: .int mpt :: .int mdp :: .int x21_1 :: .long mnw :: .int mmk :: []))) kmsT hg_18 (fun e => hx_mo_msT.symm (congrArg Prod.fst e))
          have kmrV := Xc.setX (c' := .inr (12, (.int mer :: .int mfed :: .int mwr :: .int (nI K9) :: .int (nI KL) :: .ref moc :: .ref msT :: .ref mrV :: .ref msP :: .int v21_mqs :: .ref mrA :: .ref mbA :: .ref mwA :: .ref mhA :: .ref mfA :: .ref mpA :: .ref mxA :: .ref myA :: .ref mmA :: .ref mqA :: .ref mzA :: .ref mwy :: .ref mfd :: .int (nI s9) :: .int (nI s9) :: .int v7 :: .int mft :: .int mpt :: .int mdp :: .int x21_1 :: .long mnw :: .int mmk :: []))) kmrV hg_18 (fun e => hx_mo_mrV.symm (congrArg Prod.fst e))
          have hFR := hFR.tr (FL.set (Ad := Ad) (X := [mo, mmA, mrA]) (c' := .inr (12, (.int mer :: .int mfed :: .int mwr :: .int (nI K9) :: .int (nI KL) :: .ref moc :: .ref msT :: .ref mrV :: .ref msP :: .int v21_mqs :: .ref mrA :: .ref mbA :: .ref mwA :: .ref mhA :: .ref mfA :: .ref mpA :: .ref mxA :: .ref myA :: .ref mmA :: .ref mqA :: .ref mzA :: .ref mwy :: .ref mfd :: .int (nI s9) :: .int (nI s9) :: .int v7 :: .int mft :: .int mpt :: .int mdp :: .int x21_1 :: .long mnw :: .int mmk :: []))) hg_18 (by simp))
          have hg_18 := set_here (c' := .inr (12, (.int mer :: .int mfed :: .int mwr :: .int (nI K9) :: .int (nI KL) :: .ref moc :: .ref msT :: .ref mrV :: .ref msP :: .int v21_mqs :: .ref mrA :: .ref mbA :: .ref mwA :: .ref mhA :: .ref mfA :: .ref mpA :: .ref mxA :: .ref myA :: .ref mmA :: .ref mqA :: .ref mzA :: .ref mwy :: .ref mfd :: .int (nI s9) :: .int (nI s9) :: .int v7 :: .int mft :: .int mpt :: .int mdp :: .int x21_1 :: .long mnw :: .int mmk :: []))) hg_18
          have kmo : Xc Ad mo (.inr (12, (.int mer :: .int mfed :: .int mwr :: .int (nI K9) :: .int (nI KL) :: .ref moc :: .ref msT :: .ref mrV :: .ref msP :: .int v21_mqs :: .ref mrA :: .ref mbA :: .ref mwA :: .ref mhA :: .ref mfA :: .ref mpA :: .ref mxA :: .ref myA :: .ref mmA :: .ref mqA :: .ref mzA :: .ref mwy :: .ref mfd :: .int (nI s9) :: .int (nI s9) :: .int v7 :: .int mft :: .int mpt :: .int mdp :: .int x21_1 :: .long mnw :: .int mmk :: []))) (G_19.set i_18 (mo, .inr (12, (.int mer :: .int mfed :: .int mwr :: .int (nI K9) :: .int (nI KL) :: .ref moc :: .ref msT :: .ref mrV :: .ref msP :: .int v21_mqs :: .ref mrA :: .ref mbA :: .ref mwA :: .ref mhA :: .ref mfA :: .ref mpA :: .ref mxA :: .ref myA :: .ref mmA :: .ref mqA :: .ref mzA :: .ref mwy :: .ref mfd :: .int (nI s9) :: .int (nI s9) :: .int v7 :: .int mft :: .int mpt :: .int mdp :: .int x21_1 :: .long mnw :: .int mmk :: [])))) := ⟨kmo.1, List.mem_of_getElem? hg_18⟩
          have hD := hD3
          clear hD3 hD2
          generalize G_19.set i_18 (mo, .inr (12, (.int mer :: .int mfed :: .int mwr :: .int (nI K9) :: .int (nI KL) :: .ref moc :: .ref msT :: .ref mrV :: .ref msP :: .int v21_mqs :: .ref mrA :: .ref mbA :: .ref mwA :: .ref mhA :: .ref mfA :: .ref mpA :: .ref mxA :: .ref myA :: .ref mmA :: .ref mqA :: .ref mzA :: .ref mwy :: .ref mfd :: .int (nI s9) :: .int (nI s9) :: .int v7 :: .int mft :: .int mpt :: .int mdp :: .int x21_1 :: .long mnw :: .int mmk :: []))) = G_21 at hP hD hTy hFR kmo kmmA kmrA kmwy kmsT kmrV hg_18
          obtain ⟨cX_22, eX_22⟩ : ∃ z : va_E, z = .inr (12, (.int mer :: .int mfed :: .int mwr :: .int (nI K9) :: .int (nI KL) :: .ref moc :: .ref msT :: .ref mrV :: .ref msP :: .int v21_mqs :: .ref mrA :: .ref mbA :: .ref mwA :: .ref mhA :: .ref mfA :: .ref mpA :: .ref mxA :: .ref myA :: .ref mmA :: .ref mqA :: .ref mzA :: .ref mwy :: .ref mfd :: .int (nI s9) :: .int (nI s9) :: .int v7 :: .int mft :: .int mpt :: .int mdp :: .int x21_1 :: .long mnw :: .int mmk :: [])) := ⟨_, rfl⟩
          rw [← eX_22] at kmo
          refine lv_aload_n hx hb d_Model_judged_98 rfl (lv_at hl 3 rfl) ?_
          refine lv_iload_n hx hb d_Model_judged_99 rfl (lv_at hl 2 rfl) ?_
          refine lv_if_ne (tgt := 107) hx hb d_Model_judged_100 (by decide) (fun c100 => ?_) (fun c100 => ?_)
          · have p100 : ¬ (x21_1 = (0 : Int32)) := c100
            refine lv_iload_n hx hb d_Model_judged_107 rfl (lv_at hl 1 rfl) ?_
            refine va_put (v := .int x21_2) (ty := .int) hx hb htb i_Model t_Model t_Model_ok n_Model hown hK hP hD hS i_18 hg_18 rfl 26 (by decide) (htb _ q8_0) (fun _ h9 => h9) rfl (by decide +kernel) rfl rfl (Nat.le_of_ble_eq_true rfl) d_Model_judged_108 (fun H108 locs hP hD2 hS => ?_)
            have hP : va_P (dC, dI) classes (G_21.set i_18 (mo, .inr (12, (.int mer :: .int mfed :: .int mwr :: .int (nI K9) :: .int (nI KL) :: .ref moc :: .ref msT :: .ref mrV :: .ref msP :: .int v21_mqs :: .ref mrA :: .ref mbA :: .ref mwA :: .ref mhA :: .ref mfA :: .ref mpA :: .ref mxA :: .ref myA :: .ref mmA :: .ref mqA :: .ref mzA :: .ref mwy :: .ref mfd :: .int (nI s9) :: .int (nI s9) :: .int v7 :: .int x21_2 :: .int mpt :: .int mdp :: .int x21_1 :: .long mnw :: .int mmk :: [])))) H108 := hP
            have hD3 : va_D A (G_21.set i_18 (mo, .inr (12, (.int mer :: .int mfed :: .int mwr :: .int (nI K9) :: .int (nI KL) :: .ref moc :: .ref msT :: .ref mrV :: .ref msP :: .int v21_mqs :: .ref mrA :: .ref mbA :: .ref mwA :: .ref mhA :: .ref mfA :: .ref mpA :: .ref mxA :: .ref myA :: .ref mmA :: .ref mqA :: .ref mzA :: .ref mwy :: .ref mfd :: .int (nI s9) :: .int (nI s9) :: .int v7 :: .int x21_2 :: .int mpt :: .int mdp :: .int x21_1 :: .long mnw :: .int mmk :: [])))) := hD2
            have hTy := TR.setX (c' := .inr (12, (.int mer :: .int mfed :: .int mwr :: .int (nI K9) :: .int (nI KL) :: .ref moc :: .ref msT :: .ref mrV :: .ref msP :: .int v21_mqs :: .ref mrA :: .ref mbA :: .ref mwA :: .ref mhA :: .ref mfA :: .ref mpA :: .ref mxA :: .ref myA :: .ref mmA :: .ref mqA :: .ref mzA :: .ref mwy :: .ref mfd :: .int (nI s9) :: .int (nI s9) :: .int v7 :: .int x21_2 :: .int mpt :: .int mdp :: .int x21_1 :: .long mnw :: .int mmk :: []))) hTy hg_18 kmo.1
            have kmmA := Xc.setX (c' := .inr (12, (.int mer :: .int mfed :: .int mwr :: .int (nI K9) :: .int (nI KL) :: .ref moc :: .ref msT :: .ref mrV :: .ref msP :: .int v21_mqs :: .ref mrA :: .ref mbA :: .ref mwA :: .ref mhA :: .ref mfA :: .ref mpA :: .ref mxA :: .ref myA :: .ref mmA :: .ref mqA :: .ref mzA :: .ref mwy :: .ref mfd :: .int (nI s9) :: .int (nI s9) :: .int v7 :: .int x21_2 :: .int mpt :: .int mdp :: .int x21_1 :: .long mnw :: .int mmk :: []))) kmmA hg_18 (fun e => hx_mo_mmA.symm (congrArg Prod.fst e))
            have kmrA := Xc.setX (c' := .inr (12, (.int mer :: .int mfed :: .int mwr :: .int (nI K9) :: .int (nI KL) :: .ref moc :: .ref msT :: .ref mrV :: .ref msP :: .int v21_mqs :: .ref mrA :: .ref mbA :: .ref mwA :: .ref mhA :: .ref mfA :: .ref mpA :: .ref mxA :: .ref myA :: .ref mmA :: .ref mqA :: .ref mzA :: .ref mwy :: .ref mfd :: .int (nI s9) :: .int (nI s9) :: .int v7 :: .int x21_2 :: .int mpt :: .int mdp :: .int x21_1 :: .long mnw :: .int mmk :: []))) kmrA hg_18 (fun e => hx_mo_mrA.symm (congrArg Prod.fst e))
            have kmwy := Xc.setX (c' := .inr (12, (.int mer :: .int mfed :: .int mwr :: .int (nI K9) :: .int (nI KL) :: .ref moc :: .ref msT :: .ref mrV :: .ref msP :: .int v21_mqs :: .ref mrA :: .ref mbA :: .ref mwA :: .ref mhA :: .ref mfA :: .ref mpA :: .ref mxA :: .ref myA :: .ref mmA :: .ref mqA :: .ref mzA :: .ref mwy :: .ref mfd :: .int (nI s9) :: .int (nI s9) :: .int v7 :: .int x21_2 :: .int mpt :: .int mdp :: .int x21_1 :: .long mnw :: .int mmk :: []))) kmwy hg_18 (fun e => hx_mo_mwy.symm (congrArg Prod.fst e))
            have kmsT := Xc.setX (c' := .inr (12, (.int mer :: .int mfed :: .int mwr :: .int (nI K9) :: .int (nI KL) :: .ref moc :: .ref msT :: .ref mrV :: .ref msP :: .int v21_mqs :: .ref mrA :: .ref mbA :: .ref mwA :: .ref mhA :: .ref mfA :: .ref mpA :: .ref mxA :: .ref myA :: .ref mmA :: .ref mqA :: .ref mzA :: .ref mwy :: .ref mfd :: .int (nI s9) :: .int (nI s9) :: .int v7 :: .int x21_2 :: .int mpt :: .int mdp :: .int x21_1 :: .long mnw :: .int mmk :: []))) kmsT hg_18 (fun e => hx_mo_msT.symm (congrArg Prod.fst e))
            have kmrV := Xc.setX (c' := .inr (12, (.int mer :: .int mfed :: .int mwr :: .int (nI K9) :: .int (nI KL) :: .ref moc :: .ref msT :: .ref mrV :: .ref msP :: .int v21_mqs :: .ref mrA :: .ref mbA :: .ref mwA :: .ref mhA :: .ref mfA :: .ref mpA :: .ref mxA :: .ref myA :: .ref mmA :: .ref mqA :: .ref mzA :: .ref mwy :: .ref mfd :: .int (nI s9) :: .int (nI s9) :: .int v7 :: .int x21_2 :: .int mpt :: .int mdp :: .int x21_1 :: .long mnw :: .int mmk :: []))) kmrV hg_18 (fun e => hx_mo_mrV.symm (congrArg Prod.fst e))
            have hFR := hFR.tr (FL.set (Ad := Ad) (X := [mo, mmA, mrA]) (c' := .inr (12, (.int mer :: .int mfed :: .int mwr :: .int (nI K9) :: .int (nI KL) :: .ref moc :: .ref msT :: .ref mrV :: .ref msP :: .int v21_mqs :: .ref mrA :: .ref mbA :: .ref mwA :: .ref mhA :: .ref mfA :: .ref mpA :: .ref mxA :: .ref myA :: .ref mmA :: .ref mqA :: .ref mzA :: .ref mwy :: .ref mfd :: .int (nI s9) :: .int (nI s9) :: .int v7 :: .int x21_2 :: .int mpt :: .int mdp :: .int x21_1 :: .long mnw :: .int mmk :: []))) hg_18 (by simp))
            have hg_18 := set_here (c' := .inr (12, (.int mer :: .int mfed :: .int mwr :: .int (nI K9) :: .int (nI KL) :: .ref moc :: .ref msT :: .ref mrV :: .ref msP :: .int v21_mqs :: .ref mrA :: .ref mbA :: .ref mwA :: .ref mhA :: .ref mfA :: .ref mpA :: .ref mxA :: .ref myA :: .ref mmA :: .ref mqA :: .ref mzA :: .ref mwy :: .ref mfd :: .int (nI s9) :: .int (nI s9) :: .int v7 :: .int x21_2 :: .int mpt :: .int mdp :: .int x21_1 :: .long mnw :: .int mmk :: []))) hg_18
            have kmo : Xc Ad mo (.inr (12, (.int mer :: .int mfed :: .int mwr :: .int (nI K9) :: .int (nI KL) :: .ref moc :: .ref msT :: .ref mrV :: .ref msP :: .int v21_mqs :: .ref mrA :: .ref mbA :: .ref mwA :: .ref mhA :: .ref mfA :: .ref mpA :: .ref mxA :: .ref myA :: .ref mmA :: .ref mqA :: .ref mzA :: .ref mwy :: .ref mfd :: .int (nI s9) :: .int (nI s9) :: .int v7 :: .int x21_2 :: .int mpt :: .int mdp :: .int x21_1 :: .long mnw :: .int mmk :: []))) (G_21.set i_18 (mo, .inr (12, (.int mer :: .int mfed :: .int mwr :: .int (nI K9) :: .int (nI KL) :: .ref moc :: .ref msT :: .ref mrV :: .ref msP :: .int v21_mqs :: .ref mrA :: .ref mbA :: .ref mwA :: .ref mhA :: .ref mfA :: .ref mpA :: .ref mxA :: .ref myA :: .ref mmA :: .ref mqA :: .ref mzA :: .ref mwy :: .ref mfd :: .int (nI s9) :: .int (nI s9) :: .int v7 :: .int x21_2 :: .int mpt :: .int mdp :: .int x21_1 :: .long mnw :: .int mmk :: [])))) := ⟨kmo.1, List.mem_of_getElem? hg_18⟩
            have hD := hD3
            clear hD3 hD2
            generalize G_21.set i_18 (mo, .inr (12, (.int mer :: .int mfed :: .int mwr :: .int (nI K9) :: .int (nI KL) :: .ref moc :: .ref msT :: .ref mrV :: .ref msP :: .int v21_mqs :: .ref mrA :: .ref mbA :: .ref mwA :: .ref mhA :: .ref mfA :: .ref mpA :: .ref mxA :: .ref myA :: .ref mmA :: .ref mqA :: .ref mzA :: .ref mwy :: .ref mfd :: .int (nI s9) :: .int (nI s9) :: .int v7 :: .int x21_2 :: .int mpt :: .int mdp :: .int x21_1 :: .long mnw :: .int mmk :: []))) = G_23 at hP hD hTy hFR kmo kmmA kmrA kmwy kmsT kmrV hg_18
            obtain ⟨cX_24, eX_24⟩ : ∃ z : va_E, z = .inr (12, (.int mer :: .int mfed :: .int mwr :: .int (nI K9) :: .int (nI KL) :: .ref moc :: .ref msT :: .ref mrV :: .ref msP :: .int v21_mqs :: .ref mrA :: .ref mbA :: .ref mwA :: .ref mhA :: .ref mfA :: .ref mpA :: .ref mxA :: .ref myA :: .ref mmA :: .ref mqA :: .ref mzA :: .ref mwy :: .ref mfd :: .int (nI s9) :: .int (nI s9) :: .int v7 :: .int x21_2 :: .int mpt :: .int mdp :: .int x21_1 :: .long mnw :: .int mmk :: [])) := ⟨_, rfl⟩
            rw [← eX_24] at kmo
            refine lv_iload_n hx hb d_Model_judged_111 rfl (lv_at hl 2 rfl) ?_
            refine lv_if_ne (tgt := 119) hx hb d_Model_judged_112 (by decide) (fun c112 => ?_) (fun c112 => ?_)
            · have p112 : ¬ (x21_1 = (0 : Int32)) := c112
              refine lv_iconst (v := 0) hx hb d_Model_judged_119 (by decide) ?_
              exact W.zret (v := 0) hx hb hr rfl (fun t ht hW => ⟨⟨_, G_23, rfl, ⟨hTy, hFR, bz_f (by decide), ⟨_, _, _, _, s9, by omega, by rw [eX_24] at kmo; exact kmo⟩, ⟨_, hfm, kmmA⟩, ⟨_, hfr, kmrA⟩⟩, by rw [ht]; exact hP, va_K.moved hW.alike hK, hD⟩, hS.F ht⟩) hS.2.2 d_Model_judged_120
            · have p112 : x21_1 = (0 : Int32) := c112
              refine lv_iconst (v := 1) hx hb d_Model_judged_115 (by decide) ?_
              refine lv_goto (tgt := 120) hx hb d_Model_judged_116 (by decide) ?_
              exact W.zret (v := 1) hx hb hr rfl (fun t ht hW => ⟨⟨_, G_23, rfl, ⟨hTy, hFR, bz_t rfl, ⟨_, _, _, _, s9, by omega, by rw [eX_24] at kmo; exact kmo⟩, ⟨_, hfm, kmmA⟩, ⟨_, hfr, kmrA⟩⟩, by rw [ht]; exact hP, va_K.moved hW.alike hK, hD⟩, hS.F ht⟩) hS.2.2 d_Model_judged_120
          · have p100 : x21_1 = (0 : Int32) := c100
            refine lv_iconst (v := -1) hx hb d_Model_judged_103 (by decide) ?_
            refine lv_goto (tgt := 108) hx hb d_Model_judged_104 (by decide) ?_
            refine va_put (v := .int (-1)) (ty := .int) hx hb htb i_Model t_Model t_Model_ok n_Model hown hK hP hD hS i_18 hg_18 rfl 26 (by decide) (htb _ q8_0) (fun _ h9 => h9) rfl (by decide +kernel) rfl rfl (Nat.le_of_ble_eq_true rfl) d_Model_judged_108 (fun H108 locs hP hD2 hS => ?_)
            have hP : va_P (dC, dI) classes (G_21.set i_18 (mo, .inr (12, (.int mer :: .int mfed :: .int mwr :: .int (nI K9) :: .int (nI KL) :: .ref moc :: .ref msT :: .ref mrV :: .ref msP :: .int v21_mqs :: .ref mrA :: .ref mbA :: .ref mwA :: .ref mhA :: .ref mfA :: .ref mpA :: .ref mxA :: .ref myA :: .ref mmA :: .ref mqA :: .ref mzA :: .ref mwy :: .ref mfd :: .int (nI s9) :: .int (nI s9) :: .int v7 :: .int (-1) :: .int mpt :: .int mdp :: .int x21_1 :: .long mnw :: .int mmk :: [])))) H108 := hP
            have hD3 : va_D A (G_21.set i_18 (mo, .inr (12, (.int mer :: .int mfed :: .int mwr :: .int (nI K9) :: .int (nI KL) :: .ref moc :: .ref msT :: .ref mrV :: .ref msP :: .int v21_mqs :: .ref mrA :: .ref mbA :: .ref mwA :: .ref mhA :: .ref mfA :: .ref mpA :: .ref mxA :: .ref myA :: .ref mmA :: .ref mqA :: .ref mzA :: .ref mwy :: .ref mfd :: .int (nI s9) :: .int (nI s9) :: .int v7 :: .int (-1) :: .int mpt :: .int mdp :: .int x21_1 :: .long mnw :: .int mmk :: [])))) := hD2
            have hTy := TR.setX (c' := .inr (12, (.int mer :: .int mfed :: .int mwr :: .int (nI K9) :: .int (nI KL) :: .ref moc :: .ref msT :: .ref mrV :: .ref msP :: .int v21_mqs :: .ref mrA :: .ref mbA :: .ref mwA :: .ref mhA :: .ref mfA :: .ref mpA :: .ref mxA :: .ref myA :: .ref mmA :: .ref mqA :: .ref mzA :: .ref mwy :: .ref mfd :: .int (nI s9) :: .int (nI s9) :: .int v7 :: .int (-1) :: .int mpt :: .int mdp :: .int x21_1 :: .long mnw :: .int mmk :: []))) hTy hg_18 kmo.1
            have kmmA := Xc.setX (c' := .inr (12, (.int mer :: .int mfed :: .int mwr :: .int (nI K9) :: .int (nI KL) :: .ref moc :: .ref msT :: .ref mrV :: .ref msP :: .int v21_mqs :: .ref mrA :: .ref mbA :: .ref mwA :: .ref mhA :: .ref mfA :: .ref mpA :: .ref mxA :: .ref myA :: .ref mmA :: .ref mqA :: .ref mzA :: .ref mwy :: .ref mfd :: .int (nI s9) :: .int (nI s9) :: .int v7 :: .int (-1) :: .int mpt :: .int mdp :: .int x21_1 :: .long mnw :: .int mmk :: []))) kmmA hg_18 (fun e => hx_mo_mmA.symm (congrArg Prod.fst e))
            have kmrA := Xc.setX (c' := .inr (12, (.int mer :: .int mfed :: .int mwr :: .int (nI K9) :: .int (nI KL) :: .ref moc :: .ref msT :: .ref mrV :: .ref msP :: .int v21_mqs :: .ref mrA :: .ref mbA :: .ref mwA :: .ref mhA :: .ref mfA :: .ref mpA :: .ref mxA :: .ref myA :: .ref mmA :: .ref mqA :: .ref mzA :: .ref mwy :: .ref mfd :: .int (nI s9) :: .int (nI s9) :: .int v7 :: .int (-1) :: .int mpt :: .int mdp :: .int x21_1 :: .long mnw :: .int mmk :: []))) kmrA hg_18 (fun e => hx_mo_mrA.symm (congrArg Prod.fst e))
            have kmwy := Xc.setX (c' := .inr (12, (.int mer :: .int mfed :: .int mwr :: .int (nI K9) :: .int (nI KL) :: .ref moc :: .ref msT :: .ref mrV :: .ref msP :: .int v21_mqs :: .ref mrA :: .ref mbA :: .ref mwA :: .ref mhA :: .ref mfA :: .ref mpA :: .ref mxA :: .ref myA :: .ref mmA :: .ref mqA :: .ref mzA :: .ref mwy :: .ref mfd :: .int (nI s9) :: .int (nI s9) :: .int v7 :: .int (-1) :: .int mpt :: .int mdp :: .int x21_1 :: .long mnw :: .int mmk :: []))) kmwy hg_18 (fun e => hx_mo_mwy.symm (congrArg Prod.fst e))
            have kmsT := Xc.setX (c' := .inr (12, (.int mer :: .int mfed :: .int mwr :: .int (nI K9) :: .int (nI KL) :: .ref moc :: .ref msT :: .ref mrV :: .ref msP :: .int v21_mqs :: .ref mrA :: .ref mbA :: .ref mwA :: .ref mhA :: .ref mfA :: .ref mpA :: .ref mxA :: .ref myA :: .ref mmA :: .ref mqA :: .ref mzA :: .ref mwy :: .ref mfd :: .int (nI s9) :: .int (nI s9) :: .int v7 :: .int (-1) :: .int mpt :: .int mdp :: .int x21_1 :: .long mnw :: .int mmk :: []))) kmsT hg_18 (fun e => hx_mo_msT.symm (congrArg Prod.fst e))
            have kmrV := Xc.setX (c' := .inr (12, (.int mer :: .int mfed :: .int mwr :: .int (nI K9) :: .int (nI KL) :: .ref moc :: .ref msT :: .ref mrV :: .ref msP :: .int v21_mqs :: .ref mrA :: .ref mbA :: .ref mwA :: .ref mhA :: .ref mfA :: .ref mpA :: .ref mxA :: .ref myA :: .ref mmA :: .ref mqA :: .ref mzA :: .ref mwy :: .ref mfd :: .int (nI s9) :: .int (nI s9) :: .int v7 :: .int (-1) :: .int mpt :: .int mdp :: .int x21_1 :: .long mnw :: .int mmk :: []))) kmrV hg_18 (fun e => hx_mo_mrV.symm (congrArg Prod.fst e))
            have hFR := hFR.tr (FL.set (Ad := Ad) (X := [mo, mmA, mrA]) (c' := .inr (12, (.int mer :: .int mfed :: .int mwr :: .int (nI K9) :: .int (nI KL) :: .ref moc :: .ref msT :: .ref mrV :: .ref msP :: .int v21_mqs :: .ref mrA :: .ref mbA :: .ref mwA :: .ref mhA :: .ref mfA :: .ref mpA :: .ref mxA :: .ref myA :: .ref mmA :: .ref mqA :: .ref mzA :: .ref mwy :: .ref mfd :: .int (nI s9) :: .int (nI s9) :: .int v7 :: .int (-1) :: .int mpt :: .int mdp :: .int x21_1 :: .long mnw :: .int mmk :: []))) hg_18 (by simp))
            have hg_18 := set_here (c' := .inr (12, (.int mer :: .int mfed :: .int mwr :: .int (nI K9) :: .int (nI KL) :: .ref moc :: .ref msT :: .ref mrV :: .ref msP :: .int v21_mqs :: .ref mrA :: .ref mbA :: .ref mwA :: .ref mhA :: .ref mfA :: .ref mpA :: .ref mxA :: .ref myA :: .ref mmA :: .ref mqA :: .ref mzA :: .ref mwy :: .ref mfd :: .int (nI s9) :: .int (nI s9) :: .int v7 :: .int (-1) :: .int mpt :: .int mdp :: .int x21_1 :: .long mnw :: .int mmk :: []))) hg_18
            have kmo : Xc Ad mo (.inr (12, (.int mer :: .int mfed :: .int mwr :: .int (nI K9) :: .int (nI KL) :: .ref moc :: .ref msT :: .ref mrV :: .ref msP :: .int v21_mqs :: .ref mrA :: .ref mbA :: .ref mwA :: .ref mhA :: .ref mfA :: .ref mpA :: .ref mxA :: .ref myA :: .ref mmA :: .ref mqA :: .ref mzA :: .ref mwy :: .ref mfd :: .int (nI s9) :: .int (nI s9) :: .int v7 :: .int (-1) :: .int mpt :: .int mdp :: .int x21_1 :: .long mnw :: .int mmk :: []))) (G_21.set i_18 (mo, .inr (12, (.int mer :: .int mfed :: .int mwr :: .int (nI K9) :: .int (nI KL) :: .ref moc :: .ref msT :: .ref mrV :: .ref msP :: .int v21_mqs :: .ref mrA :: .ref mbA :: .ref mwA :: .ref mhA :: .ref mfA :: .ref mpA :: .ref mxA :: .ref myA :: .ref mmA :: .ref mqA :: .ref mzA :: .ref mwy :: .ref mfd :: .int (nI s9) :: .int (nI s9) :: .int v7 :: .int (-1) :: .int mpt :: .int mdp :: .int x21_1 :: .long mnw :: .int mmk :: [])))) := ⟨kmo.1, List.mem_of_getElem? hg_18⟩
            have hD := hD3
            clear hD3 hD2
            generalize G_21.set i_18 (mo, .inr (12, (.int mer :: .int mfed :: .int mwr :: .int (nI K9) :: .int (nI KL) :: .ref moc :: .ref msT :: .ref mrV :: .ref msP :: .int v21_mqs :: .ref mrA :: .ref mbA :: .ref mwA :: .ref mhA :: .ref mfA :: .ref mpA :: .ref mxA :: .ref myA :: .ref mmA :: .ref mqA :: .ref mzA :: .ref mwy :: .ref mfd :: .int (nI s9) :: .int (nI s9) :: .int v7 :: .int (-1) :: .int mpt :: .int mdp :: .int x21_1 :: .long mnw :: .int mmk :: []))) = G_25 at hP hD hTy hFR kmo kmmA kmrA kmwy kmsT kmrV hg_18
            obtain ⟨cX_26, eX_26⟩ : ∃ z : va_E, z = .inr (12, (.int mer :: .int mfed :: .int mwr :: .int (nI K9) :: .int (nI KL) :: .ref moc :: .ref msT :: .ref mrV :: .ref msP :: .int v21_mqs :: .ref mrA :: .ref mbA :: .ref mwA :: .ref mhA :: .ref mfA :: .ref mpA :: .ref mxA :: .ref myA :: .ref mmA :: .ref mqA :: .ref mzA :: .ref mwy :: .ref mfd :: .int (nI s9) :: .int (nI s9) :: .int v7 :: .int (-1) :: .int mpt :: .int mdp :: .int x21_1 :: .long mnw :: .int mmk :: [])) := ⟨_, rfl⟩
            rw [← eX_26] at kmo
            refine lv_iload_n hx hb d_Model_judged_111 rfl (lv_at hl 2 rfl) ?_
            refine lv_if_ne (tgt := 119) hx hb d_Model_judged_112 (by decide) (fun c112 => ?_) (fun c112 => ?_)
            · have p112 : ¬ (x21_1 = (0 : Int32)) := c112
              refine lv_iconst (v := 0) hx hb d_Model_judged_119 (by decide) ?_
              exact W.zret (v := 0) hx hb hr rfl (fun t ht hW => ⟨⟨_, G_25, rfl, ⟨hTy, hFR, bz_f (by decide), ⟨_, _, _, _, s9, by omega, by rw [eX_26] at kmo; exact kmo⟩, ⟨_, hfm, kmmA⟩, ⟨_, hfr, kmrA⟩⟩, by rw [ht]; exact hP, va_K.moved hW.alike hK, hD⟩, hS.F ht⟩) hS.2.2 d_Model_judged_120
            · have p112 : x21_1 = (0 : Int32) := c112
              refine lv_iconst (v := 1) hx hb d_Model_judged_115 (by decide) ?_
              refine lv_goto (tgt := 120) hx hb d_Model_judged_116 (by decide) ?_
              exact W.zret (v := 1) hx hb hr rfl (fun t ht hW => ⟨⟨_, G_25, rfl, ⟨hTy, hFR, bz_t rfl, ⟨_, _, _, _, s9, by omega, by rw [eX_26] at kmo; exact kmo⟩, ⟨_, hfm, kmmA⟩, ⟨_, hfr, kmrA⟩⟩, by rw [ht]; exact hP, va_K.moved hW.alike hK, hD⟩, hS.F ht⟩) hS.2.2 d_Model_judged_120
        · have p64 : ¬ (s9 ≤ z59) := (fun q9 => c64 ((nI_leI (a := s9) (b := z59) (by omega) (by omega)).mpr q9))
          refine lv_aload_n hx hb d_Model_judged_67 rfl (lv_at hl 3 rfl) ?_
          refine va_get (v := .ref mfd) hx hb htb i_Model hown hK hP i_18 hg_18 rfl 22 (by decide) (htb _ q7_236) (fun _ h9 => h9) rfl d_Model_judged_68 ?_
          refine lv_iload_n hx hb d_Model_judged_71 rfl (lv_at hl 0 rfl) ?_
          refine lv_aload_n hx hb d_Model_judged_72 rfl (lv_at hl 3 rfl) ?_
          refine va_get (v := .ref mwy) hx hb htb i_Model hown hK hP i_18 hg_18 rfl 21 (by decide) (htb _ q7_235) (fun _ h9 => h9) rfl d_Model_judged_73 ?_
          refine lv_iload_n hx hb d_Model_judged_76 rfl (lv_at hl 0 rfl) ?_
          obtain ⟨i_27, hg_27⟩ := List.getElem?_of_mem kmwy.2
          have h77 : vp_in (nI z59) 16 := vp_in_nI (by omega) (by omega)
          refine va_iald hx hb hK hP i_27 1 hg_27 rfl h77 d_Model_judged_77 ?_
          refine lv_topi (fun e77 he77 => ?_)
          obtain ⟨cw77, hc1_77, hc2_77⟩ := hway z59 (by omega)
          rw [nI_clamp (by omega), hc2_77] at he77
          subst he77
          obtain ⟨i_28, f_28, hn_28, hg_28⟩ := tr_6 hTy kmfd
          have h78 : vp_in (nI z59) 16 := vp_in_nI (by omega) (by omega)
          refine va_iast hx hb hK hP hD hS i_28 1 hg_28 rfl h78 d_Model_judged_78 (fun H78 locs hP hD2 hS => ?_)
          have hP : va_P (dC, dI) classes (G59.set i_28 (mfd, .inl (γ.2.1, 16, .inl (upd f_28 (nI z59).toNatClampNeg (nI cw77))))) H78 := hP
          have hD3 : va_D A (G59.set i_28 (mfd, .inl (γ.2.1, 16, .inl (upd f_28 (nI z59).toNatClampNeg (nI cw77))))) := hD2
          have hF1 := FR.set (c' := .inl (γ.2.1, 16, .inl (upd f_28 (nI z59).toNatClampNeg (nI cw77)))) hg_28 kmfd.1
          have kmo := kmo.fr hF1
          have kmmA := kmmA.fr hF1
          have kmrA := kmrA.fr hF1
          have kmwy := kmwy.fr hF1
          have kmsT := kmsT.fr hF1
          have kmrV := kmrV.fr hF1
          have hFR := hFR.tr hF1.l
          clear hF1
          have hTy := TR.set (c' := .inl (γ.2.1, 16, .inl (upd f_28 (nI z59).toNatClampNeg (nI cw77)))) hTy hg_28 (okr_6 kmfd hn_28 _)
          have hD := hD3
          clear hD3 hD2
          generalize G59.set i_28 (mfd, .inl (γ.2.1, 16, .inl (upd f_28 (nI z59).toNatClampNeg (nI cw77)))) = G_29 at hP hD hTy hFR kmo kmmA kmrA kmwy kmsT kmrV 
          refine lv_iinc (v := nI (z59 + 1)) (lv' := [(3, .int (nI (z59 + 1))), (2, .int x21_2), (1, .int x21_1), (0, .ref mo)]) hx hb d_Model_judged_79 hl (k := 0) rfl (nI_1 _) (by decide) rfl (fun ls hl => ?_)
          refine lv_goto (tgt := 59) hx hb d_Model_judged_82 (by decide) ?_
          exact ih59 (z59 + 1, G_29) _ _ ls (by dsimp only; omega) ⟨by dsimp only; omega, by dsimp only; omega, hTy, hFR, kmo, kmmA, kmrA, kmwy, kmsT, kmrV⟩ hP hD hS (lv_sub hl [0, 1, 2, 3, 4] rfl)
      · have p52 : ¬ (v7 ≤ (1 : Int32)) := c52
        refine lv_iconst (v := 0) hx hb d_Model_judged_55 (by decide) ?_
        exact W.zret (v := 0) hx hb hr rfl (fun t ht hW => ⟨⟨_, G21, rfl, ⟨hTy, hFR, bz_f (by decide), ⟨_, _, _, _, c9, by omega, by rw [eX_4] at kmo; exact kmo⟩, ⟨_, hfm, kmmA⟩, ⟨_, hfr, kmrA⟩⟩, by rw [ht]; exact hP, va_K.moved hW.alike hK, hD⟩, hS.F ht⟩) hS.2.2 d_Model_judged_56
  · have hl : lv_has ls 4 [(3, .int (nI z21)), (2, .int x21_2), (1, .int x21_1), (0, .ref mo)] := hl
    obtain ⟨cX_30, eX_30⟩ : ∃ z : va_E, z = .inr (12, (.int mer :: .int mfed :: .int mwr :: .int (nI K9) :: .int (nI KL) :: .ref moc :: .ref msT :: .ref mrV :: .ref msP :: .int v21_mqs :: .ref mrA :: .ref mbA :: .ref mwA :: .ref mhA :: .ref mfA :: .ref mpA :: .ref mxA :: .ref myA :: .ref mmA :: .ref mqA :: .ref mzA :: .ref mwy :: .ref mfd :: .int (nI s9) :: .int (nI c9) :: .int v7 :: .int mft :: .int mpt :: .int mdp :: .int mvd :: .long mnw :: .int mmk :: [])) := ⟨_, rfl⟩
    rw [← eX_30] at kmo
    obtain ⟨hfm, hfr⟩ := hJ21
    refine lv_iload_n hx hb d_Model_judged_21 rfl (lv_at hl 0 rfl) ?_
    refine lv_if_lt (tgt := 43) hx hb d_Model_judged_22 (by decide) (fun c22 => ?_) (fun c22 => ?_)
    · have p22 : z21 < 0 := ((nI_ltI (a := z21) (b := 0) (by omega) (by omega)).mp c22)
      refine lv_iload_n hx hb d_Model_judged_43 rfl (lv_at hl 2 rfl) ?_
      refine lv_if_eq (tgt := 57) hx hb d_Model_judged_44 (by decide) (fun c44 => ?_) (fun c44 => ?_)
      · have p44 : x21_1 = (0 : Int32) := c44
        refine lv_iconst (v := 0) hx hb d_Model_judged_57 (by decide) ?_
        refine lv_istore_n (lv' := [(3, .int 0), (2, .int x21_2), (1, .int x21_1), (0, .ref mo)]) hx hb d_Model_judged_58 rfl hl (by decide) rfl (fun ls hl => ?_)
        refine w_loopW (α := Nat × va_W) (fun a9 => 0 ≤ a9.1 ∧ a9.1 ≤ s9 ∧ TR γ κ Ad τ a9.2 ∧ FL Ad [mo, mmA, mrA] G a9.2 ∧ Xc Ad mo cX_30 a9.2 ∧ Xc Ad mmA (.inl (γ.2.1, 600, .inl f21_mmA)) a9.2 ∧ Xc Ad mrA (.inl (γ.2.1, 600, .inl f21_mrA)) a9.2 ∧ Xc Ad mwy (.inl (γ.2.1, 16, .inl fw)) a9.2 ∧ Xc Ad msT (.inl (gT, 16, .inr (.inr (.inr (.inr fS))))) a9.2 ∧ Xc Ad mrV (.inl (gT, 8, .inr (.inr (.inr (.inr fV))))) a9.2) (fun a9 => s9 - a9.1) (fun a9 => [(3, .int (nI a9.1)), (2, .int x21_2), (1, .int x21_1), (0, .ref mo)]) (fun _ => []) (fun a9 => a9.2) 4 59 (fun a9 HL59 locs ls hJ hP hD hS hl ih59 => ?_) (0, G21) _ _ ls ⟨by omega, by omega, hTy, hFR, kmo, kmmA, kmrA, kmwy, kmsT, kmrV⟩ hP hD hS (lv_sub hl [0, 1, 2, 3, 4] rfl)
        obtain ⟨z59, G59⟩ := a9
        obtain ⟨hy59, hz59, hTy, hFR, kmo, kmmA, kmrA, kmwy, kmsT, kmrV⟩ := hJ
        dsimp only at hy59 hz59 hTy hFR kmo kmmA kmrA kmwy kmsT kmrV hP hD hl ih59
        refine lv_iload_n hx hb d_Model_judged_59 rfl (lv_at hl 0 rfl) ?_
        refine lv_aload_n hx hb d_Model_judged_60 rfl (lv_at hl 3 rfl) ?_
        obtain ⟨i_31, hg_31⟩ := List.getElem?_of_mem kmo.2
        rw [eX_30] at hg_31
        refine va_get (v := .int (nI s9)) hx hb htb i_Model hown hK hP i_31 hg_31 rfl 23 (by decide) (htb _ q7_237) (fun _ h9 => h9) rfl d_Model_judged_61 ?_
        refine lv_icmp_ge (tgt := 85) hx hb d_Model_judged_64 (by decide) (fun c64 => ?_) (fun c64 => ?_)
        · have p64 : s9 ≤ z59 := ((nI_leI (a := s9) (b := z59) (by omega) (by omega)).mp c64)
          refine lv_aload_n hx hb d_Model_judged_85 rfl (lv_at hl 3 rfl) ?_
          refine lv_aload_n hx hb d_Model_judged_86 rfl (lv_at hl 3 rfl) ?_
          refine va_get (v := .int (nI s9)) hx hb htb i_Model hown hK hP i_31 hg_31 rfl 23 (by decide) (htb _ q7_237) (fun _ h9 => h9) rfl d_Model_judged_87 ?_
          refine va_put (v := .int (nI s9)) (ty := .int) hx hb htb i_Model t_Model t_Model_ok n_Model hown hK hP hD hS i_31 hg_31 rfl 24 (by decide) (htb _ q7_238) (fun _ h9 => h9) rfl (by decide +kernel) rfl rfl (Nat.le_of_ble_eq_true rfl) d_Model_judged_90 (fun H90 locs hP hD2 hS => ?_)
          have hP : va_P (dC, dI) classes (G59.set i_31 (mo, .inr (12, (.int mer :: .int mfed :: .int mwr :: .int (nI K9) :: .int (nI KL) :: .ref moc :: .ref msT :: .ref mrV :: .ref msP :: .int v21_mqs :: .ref mrA :: .ref mbA :: .ref mwA :: .ref mhA :: .ref mfA :: .ref mpA :: .ref mxA :: .ref myA :: .ref mmA :: .ref mqA :: .ref mzA :: .ref mwy :: .ref mfd :: .int (nI s9) :: .int (nI s9) :: .int v7 :: .int mft :: .int mpt :: .int mdp :: .int mvd :: .long mnw :: .int mmk :: [])))) H90 := hP
          have hD3 : va_D A (G59.set i_31 (mo, .inr (12, (.int mer :: .int mfed :: .int mwr :: .int (nI K9) :: .int (nI KL) :: .ref moc :: .ref msT :: .ref mrV :: .ref msP :: .int v21_mqs :: .ref mrA :: .ref mbA :: .ref mwA :: .ref mhA :: .ref mfA :: .ref mpA :: .ref mxA :: .ref myA :: .ref mmA :: .ref mqA :: .ref mzA :: .ref mwy :: .ref mfd :: .int (nI s9) :: .int (nI s9) :: .int v7 :: .int mft :: .int mpt :: .int mdp :: .int mvd :: .long mnw :: .int mmk :: [])))) := hD2
          have hTy := TR.setX (c' := .inr (12, (.int mer :: .int mfed :: .int mwr :: .int (nI K9) :: .int (nI KL) :: .ref moc :: .ref msT :: .ref mrV :: .ref msP :: .int v21_mqs :: .ref mrA :: .ref mbA :: .ref mwA :: .ref mhA :: .ref mfA :: .ref mpA :: .ref mxA :: .ref myA :: .ref mmA :: .ref mqA :: .ref mzA :: .ref mwy :: .ref mfd :: .int (nI s9) :: .int (nI s9) :: .int v7 :: .int mft :: .int mpt :: .int mdp :: .int mvd :: .long mnw :: .int mmk :: []))) hTy hg_31 kmo.1
          have kmmA := Xc.setX (c' := .inr (12, (.int mer :: .int mfed :: .int mwr :: .int (nI K9) :: .int (nI KL) :: .ref moc :: .ref msT :: .ref mrV :: .ref msP :: .int v21_mqs :: .ref mrA :: .ref mbA :: .ref mwA :: .ref mhA :: .ref mfA :: .ref mpA :: .ref mxA :: .ref myA :: .ref mmA :: .ref mqA :: .ref mzA :: .ref mwy :: .ref mfd :: .int (nI s9) :: .int (nI s9) :: .int v7 :: .int mft :: .int mpt :: .int mdp :: .int mvd :: .long mnw :: .int mmk :: []))) kmmA hg_31 (fun e => hx_mo_mmA.symm (congrArg Prod.fst e))
          have kmrA := Xc.setX (c' := .inr (12, (.int mer :: .int mfed :: .int mwr :: .int (nI K9) :: .int (nI KL) :: .ref moc :: .ref msT :: .ref mrV :: .ref msP :: .int v21_mqs :: .ref mrA :: .ref mbA :: .ref mwA :: .ref mhA :: .ref mfA :: .ref mpA :: .ref mxA :: .ref myA :: .ref mmA :: .ref mqA :: .ref mzA :: .ref mwy :: .ref mfd :: .int (nI s9) :: .int (nI s9) :: .int v7 :: .int mft :: .int mpt :: .int mdp :: .int mvd :: .long mnw :: .int mmk :: []))) kmrA hg_31 (fun e => hx_mo_mrA.symm (congrArg Prod.fst e))
          have kmwy := Xc.setX (c' := .inr (12, (.int mer :: .int mfed :: .int mwr :: .int (nI K9) :: .int (nI KL) :: .ref moc :: .ref msT :: .ref mrV :: .ref msP :: .int v21_mqs :: .ref mrA :: .ref mbA :: .ref mwA :: .ref mhA :: .ref mfA :: .ref mpA :: .ref mxA :: .ref myA :: .ref mmA :: .ref mqA :: .ref mzA :: .ref mwy :: .ref mfd :: .int (nI s9) :: .int (nI s9) :: .int v7 :: .int mft :: .int mpt :: .int mdp :: .int mvd :: .long mnw :: .int mmk :: []))) kmwy hg_31 (fun e => hx_mo_mwy.symm (congrArg Prod.fst e))
          have kmsT := Xc.setX (c' := .inr (12, (.int mer :: .int mfed :: .int mwr :: .int (nI K9) :: .int (nI KL) :: .ref moc :: .ref msT :: .ref mrV :: .ref msP :: .int v21_mqs :: .ref mrA :: .ref mbA :: .ref mwA :: .ref mhA :: .ref mfA :: .ref mpA :: .ref mxA :: .ref myA :: .ref mmA :: .ref mqA :: .ref mzA :: .ref mwy :: .ref mfd :: .int (nI s9) :: .int (nI s9) :: .int v7 :: .int mft :: .int mpt :: .int mdp :: .int mvd :: .long mnw :: .int mmk :: []))) kmsT hg_31 (fun e => hx_mo_msT.symm (congrArg Prod.fst e))
          have kmrV := Xc.setX (c' := .inr (12, (.int mer :: .int mfed :: .int mwr :: .int (nI K9) :: .int (nI KL) :: .ref moc :: .ref msT :: .ref mrV :: .ref msP :: .int v21_mqs :: .ref mrA :: .ref mbA :: .ref mwA :: .ref mhA :: .ref mfA :: .ref mpA :: .ref mxA :: .ref myA :: .ref mmA :: .ref mqA :: .ref mzA :: .ref mwy :: .ref mfd :: .int (nI s9) :: .int (nI s9) :: .int v7 :: .int mft :: .int mpt :: .int mdp :: .int mvd :: .long mnw :: .int mmk :: []))) kmrV hg_31 (fun e => hx_mo_mrV.symm (congrArg Prod.fst e))
          have hFR := hFR.tr (FL.set (Ad := Ad) (X := [mo, mmA, mrA]) (c' := .inr (12, (.int mer :: .int mfed :: .int mwr :: .int (nI K9) :: .int (nI KL) :: .ref moc :: .ref msT :: .ref mrV :: .ref msP :: .int v21_mqs :: .ref mrA :: .ref mbA :: .ref mwA :: .ref mhA :: .ref mfA :: .ref mpA :: .ref mxA :: .ref myA :: .ref mmA :: .ref mqA :: .ref mzA :: .ref mwy :: .ref mfd :: .int (nI s9) :: .int (nI s9) :: .int v7 :: .int mft :: .int mpt :: .int mdp :: .int mvd :: .long mnw :: .int mmk :: []))) hg_31 (by simp))
          have hg_31 := set_here (c' := .inr (12, (.int mer :: .int mfed :: .int mwr :: .int (nI K9) :: .int (nI KL) :: .ref moc :: .ref msT :: .ref mrV :: .ref msP :: .int v21_mqs :: .ref mrA :: .ref mbA :: .ref mwA :: .ref mhA :: .ref mfA :: .ref mpA :: .ref mxA :: .ref myA :: .ref mmA :: .ref mqA :: .ref mzA :: .ref mwy :: .ref mfd :: .int (nI s9) :: .int (nI s9) :: .int v7 :: .int mft :: .int mpt :: .int mdp :: .int mvd :: .long mnw :: .int mmk :: []))) hg_31
          have kmo : Xc Ad mo (.inr (12, (.int mer :: .int mfed :: .int mwr :: .int (nI K9) :: .int (nI KL) :: .ref moc :: .ref msT :: .ref mrV :: .ref msP :: .int v21_mqs :: .ref mrA :: .ref mbA :: .ref mwA :: .ref mhA :: .ref mfA :: .ref mpA :: .ref mxA :: .ref myA :: .ref mmA :: .ref mqA :: .ref mzA :: .ref mwy :: .ref mfd :: .int (nI s9) :: .int (nI s9) :: .int v7 :: .int mft :: .int mpt :: .int mdp :: .int mvd :: .long mnw :: .int mmk :: []))) (G59.set i_31 (mo, .inr (12, (.int mer :: .int mfed :: .int mwr :: .int (nI K9) :: .int (nI KL) :: .ref moc :: .ref msT :: .ref mrV :: .ref msP :: .int v21_mqs :: .ref mrA :: .ref mbA :: .ref mwA :: .ref mhA :: .ref mfA :: .ref mpA :: .ref mxA :: .ref myA :: .ref mmA :: .ref mqA :: .ref mzA :: .ref mwy :: .ref mfd :: .int (nI s9) :: .int (nI s9) :: .int v7 :: .int mft :: .int mpt :: .int mdp :: .int mvd :: .long mnw :: .int mmk :: [])))) := ⟨kmo.1, List.mem_of_getElem? hg_31⟩
          have hD := hD3
          clear hD3 hD2
          generalize G59.set i_31 (mo, .inr (12, (.int mer :: .int mfed :: .int mwr :: .int (nI K9) :: .int (nI KL) :: .ref moc :: .ref msT :: .ref mrV :: .ref msP :: .int v21_mqs :: .ref mrA :: .ref mbA :: .ref mwA :: .ref mhA :: .ref mfA :: .ref mpA :: .ref mxA :: .ref myA :: .ref mmA :: .ref mqA :: .ref mzA :: .ref mwy :: .ref mfd :: .int (nI s9) :: .int (nI s9) :: .int v7 :: .int mft :: .int mpt :: .int mdp :: .int mvd :: .long mnw :: .int mmk :: []))) = G_32 at hP hD hTy hFR kmo kmmA kmrA kmwy kmsT kmrV hg_31
          obtain ⟨cX_33, eX_33⟩ : ∃ z : va_E, z = .inr (12, (.int mer :: .int mfed :: .int mwr :: .int (nI K9) :: .int (nI KL) :: .ref moc :: .ref msT :: .ref mrV :: .ref msP :: .int v21_mqs :: .ref mrA :: .ref mbA :: .ref mwA :: .ref mhA :: .ref mfA :: .ref mpA :: .ref mxA :: .ref myA :: .ref mmA :: .ref mqA :: .ref mzA :: .ref mwy :: .ref mfd :: .int (nI s9) :: .int (nI s9) :: .int v7 :: .int mft :: .int mpt :: .int mdp :: .int mvd :: .long mnw :: .int mmk :: [])) := ⟨_, rfl⟩
          rw [← eX_33] at kmo
          refine lv_aload_n hx hb d_Model_judged_93 rfl (lv_at hl 3 rfl) ?_
          refine lv_iload_n hx hb d_Model_judged_94 rfl (lv_at hl 2 rfl) ?_
          refine va_put (v := .int x21_1) (ty := .int) hx hb htb i_Model t_Model t_Model_ok n_Model hown hK hP hD hS i_31 hg_31 rfl 29 (by decide) (htb _ q8_3) (fun _ h9 => h9) rfl (by decide +kernel) rfl rfl (Nat.le_of_ble_eq_true rfl) d_Model_judged_95 (fun H95 locs hP hD2 hS => ?_)
          have hP : va_P (dC, dI) classes (G_32.set i_31 (mo, .inr (12, (.int mer :: .int mfed :: .int mwr :: .int (nI K9) :: .int (nI KL) :: .ref moc :: .ref msT :: .ref mrV :: .ref msP :: .int v21_mqs :: .ref mrA :: .ref mbA :: .ref mwA :: .ref mhA :: .ref mfA :: .ref mpA :: .ref mxA :: .ref myA :: .ref mmA :: .ref mqA :: .ref mzA :: .ref mwy :: .ref mfd :: .int (nI s9) :: .int (nI s9) :: .int v7 :: .int mft :: .int mpt :: .int mdp :: .int x21_1 :: .long mnw :: .int mmk :: [])))) H95 := hP
          have hD3 : va_D A (G_32.set i_31 (mo, .inr (12, (.int mer :: .int mfed :: .int mwr :: .int (nI K9) :: .int (nI KL) :: .ref moc :: .ref msT :: .ref mrV :: .ref msP :: .int v21_mqs :: .ref mrA :: .ref mbA :: .ref mwA :: .ref mhA :: .ref mfA :: .ref mpA :: .ref mxA :: .ref myA :: .ref mmA :: .ref mqA :: .ref mzA :: .ref mwy :: .ref mfd :: .int (nI s9) :: .int (nI s9) :: .int v7 :: .int mft :: .int mpt :: .int mdp :: .int x21_1 :: .long mnw :: .int mmk :: [])))) := hD2
          have hTy := TR.setX (c' := .inr (12, (.int mer :: .int mfed :: .int mwr :: .int (nI K9) :: .int (nI KL) :: .ref moc :: .ref msT :: .ref mrV :: .ref msP :: .int v21_mqs :: .ref mrA :: .ref mbA :: .ref mwA :: .ref mhA :: .ref mfA :: .ref mpA :: .ref mxA :: .ref myA :: .ref mmA :: .ref mqA :: .ref mzA :: .ref mwy :: .ref mfd :: .int (nI s9) :: .int (nI s9) :: .int v7 :: .int mft :: .int mpt :: .int mdp :: .int x21_1 :: .long mnw :: .int mmk :: []))) hTy hg_31 kmo.1
          have kmmA := Xc.setX (c' := .inr (12, (.int mer :: .int mfed :: .int mwr :: .int (nI K9) :: .int (nI KL) :: .ref moc :: .ref msT :: .ref mrV :: .ref msP :: .int v21_mqs :: .ref mrA :: .ref mbA :: .ref mwA :: .ref mhA :: .ref mfA :: .ref mpA :: .ref mxA :: .ref myA :: .ref mmA :: .ref mqA :: .ref mzA :: .ref mwy :: .ref mfd :: .int (nI s9) :: .int (nI s9) :: .int v7 :: .int mft :: .int mpt :: .int mdp :: .int x21_1 :: .long mnw :: .int mmk :: []))) kmmA hg_31 (fun e => hx_mo_mmA.symm (congrArg Prod.fst e))
          have kmrA := Xc.setX (c' := .inr (12, (.int mer :: .int mfed :: .int mwr :: .int (nI K9) :: .int (nI KL) :: .ref moc :: .ref msT :: .ref mrV :: .ref msP :: .int v21_mqs :: .ref mrA :: .ref mbA :: .ref mwA :: .ref mhA :: .ref mfA :: .ref mpA :: .ref mxA :: .ref myA :: .ref mmA :: .ref mqA :: .ref mzA :: .ref mwy :: .ref mfd :: .int (nI s9) :: .int (nI s9) :: .int v7 :: .int mft :: .int mpt :: .int mdp :: .int x21_1 :: .long mnw :: .int mmk :: []))) kmrA hg_31 (fun e => hx_mo_mrA.symm (congrArg Prod.fst e))
          have kmwy := Xc.setX (c' := .inr (12, (.int mer :: .int mfed :: .int mwr :: .int (nI K9) :: .int (nI KL) :: .ref moc :: .ref msT :: .ref mrV :: .ref msP :: .int v21_mqs :: .ref mrA :: .ref mbA :: .ref mwA :: .ref mhA :: .ref mfA :: .ref mpA :: .ref mxA :: .ref myA :: .ref mmA :: .ref mqA :: .ref mzA :: .ref mwy :: .ref mfd :: .int (nI s9) :: .int (nI s9) :: .int v7 :: .int mft :: .int mpt :: .int mdp :: .int x21_1 :: .long mnw :: .int mmk :: []))) kmwy hg_31 (fun e => hx_mo_mwy.symm (congrArg Prod.fst e))
          have kmsT := Xc.setX (c' := .inr (12, (.int mer :: .int mfed :: .int mwr :: .int (nI K9) :: .int (nI KL) :: .ref moc :: .ref msT :: .ref mrV :: .ref msP :: .int v21_mqs :: .ref mrA :: .ref mbA :: .ref mwA :: .ref mhA :: .ref mfA :: .ref mpA :: .ref mxA :: .ref myA :: .ref mmA :: .ref mqA :: .ref mzA :: .ref mwy :: .ref mfd :: .int (nI s9) :: .int (nI s9) :: .int v7 :: .int mft :: .int mpt :: .int mdp :: .int x21_1 :: .long mnw :: .int mmk :: []))) kmsT hg_31 (fun e => hx_mo_msT.symm (congrArg Prod.fst e))
          have kmrV := Xc.setX (c' := .inr (12, (.int mer :: .int mfed :: .int mwr :: .int (nI K9) :: .int (nI KL) :: .ref moc :: .ref msT :: .ref mrV :: .ref msP :: .int v21_mqs :: .ref mrA :: .ref mbA :: .ref mwA :: .ref mhA :: .ref mfA :: .ref mpA :: .ref mxA :: .ref myA :: .ref mmA :: .ref mqA :: .ref mzA :: .ref mwy :: .ref mfd :: .int (nI s9) :: .int (nI s9) :: .int v7 :: .int mft :: .int mpt :: .int mdp :: .int x21_1 :: .long mnw :: .int mmk :: []))) kmrV hg_31 (fun e => hx_mo_mrV.symm (congrArg Prod.fst e))
          have hFR := hFR.tr (FL.set (Ad := Ad) (X := [mo, mmA, mrA]) (c' := .inr (12, (.int mer :: .int mfed :: .int mwr :: .int (nI K9) :: .int (nI KL) :: .ref moc :: .ref msT :: .ref mrV :: .ref msP :: .int v21_mqs :: .ref mrA :: .ref mbA :: .ref mwA :: .ref mhA :: .ref mfA :: .ref mpA :: .ref mxA :: .ref myA :: .ref mmA :: .ref mqA :: .ref mzA :: .ref mwy :: .ref mfd :: .int (nI s9) :: .int (nI s9) :: .int v7 :: .int mft :: .int mpt :: .int mdp :: .int x21_1 :: .long mnw :: .int mmk :: []))) hg_31 (by simp))
          have hg_31 := set_here (c' := .inr (12, (.int mer :: .int mfed :: .int mwr :: .int (nI K9) :: .int (nI KL) :: .ref moc :: .ref msT :: .ref mrV :: .ref msP :: .int v21_mqs :: .ref mrA :: .ref mbA :: .ref mwA :: .ref mhA :: .ref mfA :: .ref mpA :: .ref mxA :: .ref myA :: .ref mmA :: .ref mqA :: .ref mzA :: .ref mwy :: .ref mfd :: .int (nI s9) :: .int (nI s9) :: .int v7 :: .int mft :: .int mpt :: .int mdp :: .int x21_1 :: .long mnw :: .int mmk :: []))) hg_31
          have kmo : Xc Ad mo (.inr (12, (.int mer :: .int mfed :: .int mwr :: .int (nI K9) :: .int (nI KL) :: .ref moc :: .ref msT :: .ref mrV :: .ref msP :: .int v21_mqs :: .ref mrA :: .ref mbA :: .ref mwA :: .ref mhA :: .ref mfA :: .ref mpA :: .ref mxA :: .ref myA :: .ref mmA :: .ref mqA :: .ref mzA :: .ref mwy :: .ref mfd :: .int (nI s9) :: .int (nI s9) :: .int v7 :: .int mft :: .int mpt :: .int mdp :: .int x21_1 :: .long mnw :: .int mmk :: []))) (G_32.set i_31 (mo, .inr (12, (.int mer :: .int mfed :: .int mwr :: .int (nI K9) :: .int (nI KL) :: .ref moc :: .ref msT :: .ref mrV :: .ref msP :: .int v21_mqs :: .ref mrA :: .ref mbA :: .ref mwA :: .ref mhA :: .ref mfA :: .ref mpA :: .ref mxA :: .ref myA :: .ref mmA :: .ref mqA :: .ref mzA :: .ref mwy :: .ref mfd :: .int (nI s9) :: .int (nI s9) :: .int v7 :: .int mft :: .int mpt :: .int mdp :: .int x21_1 :: .long mnw :: .int mmk :: [])))) := ⟨kmo.1, List.mem_of_getElem? hg_31⟩
          have hD := hD3
          clear hD3 hD2
          generalize G_32.set i_31 (mo, .inr (12, (.int mer :: .int mfed :: .int mwr :: .int (nI K9) :: .int (nI KL) :: .ref moc :: .ref msT :: .ref mrV :: .ref msP :: .int v21_mqs :: .ref mrA :: .ref mbA :: .ref mwA :: .ref mhA :: .ref mfA :: .ref mpA :: .ref mxA :: .ref myA :: .ref mmA :: .ref mqA :: .ref mzA :: .ref mwy :: .ref mfd :: .int (nI s9) :: .int (nI s9) :: .int v7 :: .int mft :: .int mpt :: .int mdp :: .int x21_1 :: .long mnw :: .int mmk :: []))) = G_34 at hP hD hTy hFR kmo kmmA kmrA kmwy kmsT kmrV hg_31
          obtain ⟨cX_35, eX_35⟩ : ∃ z : va_E, z = .inr (12, (.int mer :: .int mfed :: .int mwr :: .int (nI K9) :: .int (nI KL) :: .ref moc :: .ref msT :: .ref mrV :: .ref msP :: .int v21_mqs :: .ref mrA :: .ref mbA :: .ref mwA :: .ref mhA :: .ref mfA :: .ref mpA :: .ref mxA :: .ref myA :: .ref mmA :: .ref mqA :: .ref mzA :: .ref mwy :: .ref mfd :: .int (nI s9) :: .int (nI s9) :: .int v7 :: .int mft :: .int mpt :: .int mdp :: .int x21_1 :: .long mnw :: .int mmk :: [])) := ⟨_, rfl⟩
          rw [← eX_35] at kmo
          refine lv_aload_n hx hb d_Model_judged_98 rfl (lv_at hl 3 rfl) ?_
          refine lv_iload_n hx hb d_Model_judged_99 rfl (lv_at hl 2 rfl) ?_
          refine lv_if_ne (tgt := 107) hx hb d_Model_judged_100 (by decide) (fun c100 => ?_) (fun c100 => ?_)
          · have p100 : ¬ (x21_1 = (0 : Int32)) := c100
            refine lv_iload_n hx hb d_Model_judged_107 rfl (lv_at hl 1 rfl) ?_
            refine va_put (v := .int x21_2) (ty := .int) hx hb htb i_Model t_Model t_Model_ok n_Model hown hK hP hD hS i_31 hg_31 rfl 26 (by decide) (htb _ q8_0) (fun _ h9 => h9) rfl (by decide +kernel) rfl rfl (Nat.le_of_ble_eq_true rfl) d_Model_judged_108 (fun H108 locs hP hD2 hS => ?_)
            have hP : va_P (dC, dI) classes (G_34.set i_31 (mo, .inr (12, (.int mer :: .int mfed :: .int mwr :: .int (nI K9) :: .int (nI KL) :: .ref moc :: .ref msT :: .ref mrV :: .ref msP :: .int v21_mqs :: .ref mrA :: .ref mbA :: .ref mwA :: .ref mhA :: .ref mfA :: .ref mpA :: .ref mxA :: .ref myA :: .ref mmA :: .ref mqA :: .ref mzA :: .ref mwy :: .ref mfd :: .int (nI s9) :: .int (nI s9) :: .int v7 :: .int x21_2 :: .int mpt :: .int mdp :: .int x21_1 :: .long mnw :: .int mmk :: [])))) H108 := hP
            have hD3 : va_D A (G_34.set i_31 (mo, .inr (12, (.int mer :: .int mfed :: .int mwr :: .int (nI K9) :: .int (nI KL) :: .ref moc :: .ref msT :: .ref mrV :: .ref msP :: .int v21_mqs :: .ref mrA :: .ref mbA :: .ref mwA :: .ref mhA :: .ref mfA :: .ref mpA :: .ref mxA :: .ref myA :: .ref mmA :: .ref mqA :: .ref mzA :: .ref mwy :: .ref mfd :: .int (nI s9) :: .int (nI s9) :: .int v7 :: .int x21_2 :: .int mpt :: .int mdp :: .int x21_1 :: .long mnw :: .int mmk :: [])))) := hD2
            have hTy := TR.setX (c' := .inr (12, (.int mer :: .int mfed :: .int mwr :: .int (nI K9) :: .int (nI KL) :: .ref moc :: .ref msT :: .ref mrV :: .ref msP :: .int v21_mqs :: .ref mrA :: .ref mbA :: .ref mwA :: .ref mhA :: .ref mfA :: .ref mpA :: .ref mxA :: .ref myA :: .ref mmA :: .ref mqA :: .ref mzA :: .ref mwy :: .ref mfd :: .int (nI s9) :: .int (nI s9) :: .int v7 :: .int x21_2 :: .int mpt :: .int mdp :: .int x21_1 :: .long mnw :: .int mmk :: []))) hTy hg_31 kmo.1
            have kmmA := Xc.setX (c' := .inr (12, (.int mer :: .int mfed :: .int mwr :: .int (nI K9) :: .int (nI KL) :: .ref moc :: .ref msT :: .ref mrV :: .ref msP :: .int v21_mqs :: .ref mrA :: .ref mbA :: .ref mwA :: .ref mhA :: .ref mfA :: .ref mpA :: .ref mxA :: .ref myA :: .ref mmA :: .ref mqA :: .ref mzA :: .ref mwy :: .ref mfd :: .int (nI s9) :: .int (nI s9) :: .int v7 :: .int x21_2 :: .int mpt :: .int mdp :: .int x21_1 :: .long mnw :: .int mmk :: []))) kmmA hg_31 (fun e => hx_mo_mmA.symm (congrArg Prod.fst e))
            have kmrA := Xc.setX (c' := .inr (12, (.int mer :: .int mfed :: .int mwr :: .int (nI K9) :: .int (nI KL) :: .ref moc :: .ref msT :: .ref mrV :: .ref msP :: .int v21_mqs :: .ref mrA :: .ref mbA :: .ref mwA :: .ref mhA :: .ref mfA :: .ref mpA :: .ref mxA :: .ref myA :: .ref mmA :: .ref mqA :: .ref mzA :: .ref mwy :: .ref mfd :: .int (nI s9) :: .int (nI s9) :: .int v7 :: .int x21_2 :: .int mpt :: .int mdp :: .int x21_1 :: .long mnw :: .int mmk :: []))) kmrA hg_31 (fun e => hx_mo_mrA.symm (congrArg Prod.fst e))
            have kmwy := Xc.setX (c' := .inr (12, (.int mer :: .int mfed :: .int mwr :: .int (nI K9) :: .int (nI KL) :: .ref moc :: .ref msT :: .ref mrV :: .ref msP :: .int v21_mqs :: .ref mrA :: .ref mbA :: .ref mwA :: .ref mhA :: .ref mfA :: .ref mpA :: .ref mxA :: .ref myA :: .ref mmA :: .ref mqA :: .ref mzA :: .ref mwy :: .ref mfd :: .int (nI s9) :: .int (nI s9) :: .int v7 :: .int x21_2 :: .int mpt :: .int mdp :: .int x21_1 :: .long mnw :: .int mmk :: []))) kmwy hg_31 (fun e => hx_mo_mwy.symm (congrArg Prod.fst e))
            have kmsT := Xc.setX (c' := .inr (12, (.int mer :: .int mfed :: .int mwr :: .int (nI K9) :: .int (nI KL) :: .ref moc :: .ref msT :: .ref mrV :: .ref msP :: .int v21_mqs :: .ref mrA :: .ref mbA :: .ref mwA :: .ref mhA :: .ref mfA :: .ref mpA :: .ref mxA :: .ref myA :: .ref mmA :: .ref mqA :: .ref mzA :: .ref mwy :: .ref mfd :: .int (nI s9) :: .int (nI s9) :: .int v7 :: .int x21_2 :: .int mpt :: .int mdp :: .int x21_1 :: .long mnw :: .int mmk :: []))) kmsT hg_31 (fun e => hx_mo_msT.symm (congrArg Prod.fst e))
            have kmrV := Xc.setX (c' := .inr (12, (.int mer :: .int mfed :: .int mwr :: .int (nI K9) :: .int (nI KL) :: .ref moc :: .ref msT :: .ref mrV :: .ref msP :: .int v21_mqs :: .ref mrA :: .ref mbA :: .ref mwA :: .ref mhA :: .ref mfA :: .ref mpA :: .ref mxA :: .ref myA :: .ref mmA :: .ref mqA :: .ref mzA :: .ref mwy :: .ref mfd :: .int (nI s9) :: .int (nI s9) :: .int v7 :: .int x21_2 :: .int mpt :: .int mdp :: .int x21_1 :: .long mnw :: .int mmk :: []))) kmrV hg_31 (fun e => hx_mo_mrV.symm (congrArg Prod.fst e))
            have hFR := hFR.tr (FL.set (Ad := Ad) (X := [mo, mmA, mrA]) (c' := .inr (12, (.int mer :: .int mfed :: .int mwr :: .int (nI K9) :: .int (nI KL) :: .ref moc :: .ref msT :: .ref mrV :: .ref msP :: .int v21_mqs :: .ref mrA :: .ref mbA :: .ref mwA :: .ref mhA :: .ref mfA :: .ref mpA :: .ref mxA :: .ref myA :: .ref mmA :: .ref mqA :: .ref mzA :: .ref mwy :: .ref mfd :: .int (nI s9) :: .int (nI s9) :: .int v7 :: .int x21_2 :: .int mpt :: .int mdp :: .int x21_1 :: .long mnw :: .int mmk :: []))) hg_31 (by simp))
            have hg_31 := set_here (c' := .inr (12, (.int mer :: .int mfed :: .int mwr :: .int (nI K9) :: .int (nI KL) :: .ref moc :: .ref msT :: .ref mrV :: .ref msP :: .int v21_mqs :: .ref mrA :: .ref mbA :: .ref mwA :: .ref mhA :: .ref mfA :: .ref mpA :: .ref mxA :: .ref myA :: .ref mmA :: .ref mqA :: .ref mzA :: .ref mwy :: .ref mfd :: .int (nI s9) :: .int (nI s9) :: .int v7 :: .int x21_2 :: .int mpt :: .int mdp :: .int x21_1 :: .long mnw :: .int mmk :: []))) hg_31
            have kmo : Xc Ad mo (.inr (12, (.int mer :: .int mfed :: .int mwr :: .int (nI K9) :: .int (nI KL) :: .ref moc :: .ref msT :: .ref mrV :: .ref msP :: .int v21_mqs :: .ref mrA :: .ref mbA :: .ref mwA :: .ref mhA :: .ref mfA :: .ref mpA :: .ref mxA :: .ref myA :: .ref mmA :: .ref mqA :: .ref mzA :: .ref mwy :: .ref mfd :: .int (nI s9) :: .int (nI s9) :: .int v7 :: .int x21_2 :: .int mpt :: .int mdp :: .int x21_1 :: .long mnw :: .int mmk :: []))) (G_34.set i_31 (mo, .inr (12, (.int mer :: .int mfed :: .int mwr :: .int (nI K9) :: .int (nI KL) :: .ref moc :: .ref msT :: .ref mrV :: .ref msP :: .int v21_mqs :: .ref mrA :: .ref mbA :: .ref mwA :: .ref mhA :: .ref mfA :: .ref mpA :: .ref mxA :: .ref myA :: .ref mmA :: .ref mqA :: .ref mzA :: .ref mwy :: .ref mfd :: .int (nI s9) :: .int (nI s9) :: .int v7 :: .int x21_2 :: .int mpt :: .int mdp :: .int x21_1 :: .long mnw :: .int mmk :: [])))) := ⟨kmo.1, List.mem_of_getElem? hg_31⟩
            have hD := hD3
            clear hD3 hD2
            generalize G_34.set i_31 (mo, .inr (12, (.int mer :: .int mfed :: .int mwr :: .int (nI K9) :: .int (nI KL) :: .ref moc :: .ref msT :: .ref mrV :: .ref msP :: .int v21_mqs :: .ref mrA :: .ref mbA :: .ref mwA :: .ref mhA :: .ref mfA :: .ref mpA :: .ref mxA :: .ref myA :: .ref mmA :: .ref mqA :: .ref mzA :: .ref mwy :: .ref mfd :: .int (nI s9) :: .int (nI s9) :: .int v7 :: .int x21_2 :: .int mpt :: .int mdp :: .int x21_1 :: .long mnw :: .int mmk :: []))) = G_36 at hP hD hTy hFR kmo kmmA kmrA kmwy kmsT kmrV hg_31
            obtain ⟨cX_37, eX_37⟩ : ∃ z : va_E, z = .inr (12, (.int mer :: .int mfed :: .int mwr :: .int (nI K9) :: .int (nI KL) :: .ref moc :: .ref msT :: .ref mrV :: .ref msP :: .int v21_mqs :: .ref mrA :: .ref mbA :: .ref mwA :: .ref mhA :: .ref mfA :: .ref mpA :: .ref mxA :: .ref myA :: .ref mmA :: .ref mqA :: .ref mzA :: .ref mwy :: .ref mfd :: .int (nI s9) :: .int (nI s9) :: .int v7 :: .int x21_2 :: .int mpt :: .int mdp :: .int x21_1 :: .long mnw :: .int mmk :: [])) := ⟨_, rfl⟩
            rw [← eX_37] at kmo
            refine lv_iload_n hx hb d_Model_judged_111 rfl (lv_at hl 2 rfl) ?_
            refine lv_if_ne (tgt := 119) hx hb d_Model_judged_112 (by decide) (fun c112 => ?_) (fun c112 => ?_)
            · have p112 : ¬ (x21_1 = (0 : Int32)) := c112
              refine lv_iconst (v := 0) hx hb d_Model_judged_119 (by decide) ?_
              exact W.zret (v := 0) hx hb hr rfl (fun t ht hW => ⟨⟨_, G_36, rfl, ⟨hTy, hFR, bz_f (by decide), ⟨_, _, _, _, s9, by omega, by rw [eX_37] at kmo; exact kmo⟩, ⟨_, hfm, kmmA⟩, ⟨_, hfr, kmrA⟩⟩, by rw [ht]; exact hP, va_K.moved hW.alike hK, hD⟩, hS.F ht⟩) hS.2.2 d_Model_judged_120
            · have p112 : x21_1 = (0 : Int32) := c112
              refine lv_iconst (v := 1) hx hb d_Model_judged_115 (by decide) ?_
              refine lv_goto (tgt := 120) hx hb d_Model_judged_116 (by decide) ?_
              exact W.zret (v := 1) hx hb hr rfl (fun t ht hW => ⟨⟨_, G_36, rfl, ⟨hTy, hFR, bz_t rfl, ⟨_, _, _, _, s9, by omega, by rw [eX_37] at kmo; exact kmo⟩, ⟨_, hfm, kmmA⟩, ⟨_, hfr, kmrA⟩⟩, by rw [ht]; exact hP, va_K.moved hW.alike hK, hD⟩, hS.F ht⟩) hS.2.2 d_Model_judged_120
          · have p100 : x21_1 = (0 : Int32) := c100
            refine lv_iconst (v := -1) hx hb d_Model_judged_103 (by decide) ?_
            refine lv_goto (tgt := 108) hx hb d_Model_judged_104 (by decide) ?_
            refine va_put (v := .int (-1)) (ty := .int) hx hb htb i_Model t_Model t_Model_ok n_Model hown hK hP hD hS i_31 hg_31 rfl 26 (by decide) (htb _ q8_0) (fun _ h9 => h9) rfl (by decide +kernel) rfl rfl (Nat.le_of_ble_eq_true rfl) d_Model_judged_108 (fun H108 locs hP hD2 hS => ?_)
            have hP : va_P (dC, dI) classes (G_34.set i_31 (mo, .inr (12, (.int mer :: .int mfed :: .int mwr :: .int (nI K9) :: .int (nI KL) :: .ref moc :: .ref msT :: .ref mrV :: .ref msP :: .int v21_mqs :: .ref mrA :: .ref mbA :: .ref mwA :: .ref mhA :: .ref mfA :: .ref mpA :: .ref mxA :: .ref myA :: .ref mmA :: .ref mqA :: .ref mzA :: .ref mwy :: .ref mfd :: .int (nI s9) :: .int (nI s9) :: .int v7 :: .int (-1) :: .int mpt :: .int mdp :: .int x21_1 :: .long mnw :: .int mmk :: [])))) H108 := hP
            have hD3 : va_D A (G_34.set i_31 (mo, .inr (12, (.int mer :: .int mfed :: .int mwr :: .int (nI K9) :: .int (nI KL) :: .ref moc :: .ref msT :: .ref mrV :: .ref msP :: .int v21_mqs :: .ref mrA :: .ref mbA :: .ref mwA :: .ref mhA :: .ref mfA :: .ref mpA :: .ref mxA :: .ref myA :: .ref mmA :: .ref mqA :: .ref mzA :: .ref mwy :: .ref mfd :: .int (nI s9) :: .int (nI s9) :: .int v7 :: .int (-1) :: .int mpt :: .int mdp :: .int x21_1 :: .long mnw :: .int mmk :: [])))) := hD2
            have hTy := TR.setX (c' := .inr (12, (.int mer :: .int mfed :: .int mwr :: .int (nI K9) :: .int (nI KL) :: .ref moc :: .ref msT :: .ref mrV :: .ref msP :: .int v21_mqs :: .ref mrA :: .ref mbA :: .ref mwA :: .ref mhA :: .ref mfA :: .ref mpA :: .ref mxA :: .ref myA :: .ref mmA :: .ref mqA :: .ref mzA :: .ref mwy :: .ref mfd :: .int (nI s9) :: .int (nI s9) :: .int v7 :: .int (-1) :: .int mpt :: .int mdp :: .int x21_1 :: .long mnw :: .int mmk :: []))) hTy hg_31 kmo.1
            have kmmA := Xc.setX (c' := .inr (12, (.int mer :: .int mfed :: .int mwr :: .int (nI K9) :: .int (nI KL) :: .ref moc :: .ref msT :: .ref mrV :: .ref msP :: .int v21_mqs :: .ref mrA :: .ref mbA :: .ref mwA :: .ref mhA :: .ref mfA :: .ref mpA :: .ref mxA :: .ref myA :: .ref mmA :: .ref mqA :: .ref mzA :: .ref mwy :: .ref mfd :: .int (nI s9) :: .int (nI s9) :: .int v7 :: .int (-1) :: .int mpt :: .int mdp :: .int x21_1 :: .long mnw :: .int mmk :: []))) kmmA hg_31 (fun e => hx_mo_mmA.symm (congrArg Prod.fst e))
            have kmrA := Xc.setX (c' := .inr (12, (.int mer :: .int mfed :: .int mwr :: .int (nI K9) :: .int (nI KL) :: .ref moc :: .ref msT :: .ref mrV :: .ref msP :: .int v21_mqs :: .ref mrA :: .ref mbA :: .ref mwA :: .ref mhA :: .ref mfA :: .ref mpA :: .ref mxA :: .ref myA :: .ref mmA :: .ref mqA :: .ref mzA :: .ref mwy :: .ref mfd :: .int (nI s9) :: .int (nI s9) :: .int v7 :: .int (-1) :: .int mpt :: .int mdp :: .int x21_1 :: .long mnw :: .int mmk :: []))) kmrA hg_31 (fun e => hx_mo_mrA.symm (congrArg Prod.fst e))
            have kmwy := Xc.setX (c' := .inr (12, (.int mer :: .int mfed :: .int mwr :: .int (nI K9) :: .int (nI KL) :: .ref moc :: .ref msT :: .ref mrV :: .ref msP :: .int v21_mqs :: .ref mrA :: .ref mbA :: .ref mwA :: .ref mhA :: .ref mfA :: .ref mpA :: .ref mxA :: .ref myA :: .ref mmA :: .ref mqA :: .ref mzA :: .ref mwy :: .ref mfd :: .int (nI s9) :: .int (nI s9) :: .int v7 :: .int (-1) :: .int mpt :: .int mdp :: .int x21_1 :: .long mnw :: .int mmk :: []))) kmwy hg_31 (fun e => hx_mo_mwy.symm (congrArg Prod.fst e))
            have kmsT := Xc.setX (c' := .inr (12, (.int mer :: .int mfed :: .int mwr :: .int (nI K9) :: .int (nI KL) :: .ref moc :: .ref msT :: .ref mrV :: .ref msP :: .int v21_mqs :: .ref mrA :: .ref mbA :: .ref mwA :: .ref mhA :: .ref mfA :: .ref mpA :: .ref mxA :: .ref myA :: .ref mmA :: .ref mqA :: .ref mzA :: .ref mwy :: .ref mfd :: .int (nI s9) :: .int (nI s9) :: .int v7 :: .int (-1) :: .int mpt :: .int mdp :: .int x21_1 :: .long mnw :: .int mmk :: []))) kmsT hg_31 (fun e => hx_mo_msT.symm (congrArg Prod.fst e))
            have kmrV := Xc.setX (c' := .inr (12, (.int mer :: .int mfed :: .int mwr :: .int (nI K9) :: .int (nI KL) :: .ref moc :: .ref msT :: .ref mrV :: .ref msP :: .int v21_mqs :: .ref mrA :: .ref mbA :: .ref mwA :: .ref mhA :: .ref mfA :: .ref mpA :: .ref mxA :: .ref myA :: .ref mmA :: .ref mqA :: .ref mzA :: .ref mwy :: .ref mfd :: .int (nI s9) :: .int (nI s9) :: .int v7 :: .int (-1) :: .int mpt :: .int mdp :: .int x21_1 :: .long mnw :: .int mmk :: []))) kmrV hg_31 (fun e => hx_mo_mrV.symm (congrArg Prod.fst e))
            have hFR := hFR.tr (FL.set (Ad := Ad) (X := [mo, mmA, mrA]) (c' := .inr (12, (.int mer :: .int mfed :: .int mwr :: .int (nI K9) :: .int (nI KL) :: .ref moc :: .ref msT :: .ref mrV :: .ref msP :: .int v21_mqs :: .ref mrA :: .ref mbA :: .ref mwA :: .ref mhA :: .ref mfA :: .ref mpA :: .ref mxA :: .ref myA :: .ref mmA :: .ref mqA :: .ref mzA :: .ref mwy :: .ref mfd :: .int (nI s9) :: .int (nI s9) :: .int v7 :: .int (-1) :: .int mpt :: .int mdp :: .int x21_1 :: .long mnw :: .int mmk :: []))) hg_31 (by simp))
            have hg_31 := set_here (c' := .inr (12, (.int mer :: .int mfed :: .int mwr :: .int (nI K9) :: .int (nI KL) :: .ref moc :: .ref msT :: .ref mrV :: .ref msP :: .int v21_mqs :: .ref mrA :: .ref mbA :: .ref mwA :: .ref mhA :: .ref mfA :: .ref mpA :: .ref mxA :: .ref myA :: .ref mmA :: .ref mqA :: .ref mzA :: .ref mwy :: .ref mfd :: .int (nI s9) :: .int (nI s9) :: .int v7 :: .int (-1) :: .int mpt :: .int mdp :: .int x21_1 :: .long mnw :: .int mmk :: []))) hg_31
            have kmo : Xc Ad mo (.inr (12, (.int mer :: .int mfed :: .int mwr :: .int (nI K9) :: .int (nI KL) :: .ref moc :: .ref msT :: .ref mrV :: .ref msP :: .int v21_mqs :: .ref mrA :: .ref mbA :: .ref mwA :: .ref mhA :: .ref mfA :: .ref mpA :: .ref mxA :: .ref myA :: .ref mmA :: .ref mqA :: .ref mzA :: .ref mwy :: .ref mfd :: .int (nI s9) :: .int (nI s9) :: .int v7 :: .int (-1) :: .int mpt :: .int mdp :: .int x21_1 :: .long mnw :: .int mmk :: []))) (G_34.set i_31 (mo, .inr (12, (.int mer :: .int mfed :: .int mwr :: .int (nI K9) :: .int (nI KL) :: .ref moc :: .ref msT :: .ref mrV :: .ref msP :: .int v21_mqs :: .ref mrA :: .ref mbA :: .ref mwA :: .ref mhA :: .ref mfA :: .ref mpA :: .ref mxA :: .ref myA :: .ref mmA :: .ref mqA :: .ref mzA :: .ref mwy :: .ref mfd :: .int (nI s9) :: .int (nI s9) :: .int v7 :: .int (-1) :: .int mpt :: .int mdp :: .int x21_1 :: .long mnw :: .int mmk :: [])))) := ⟨kmo.1, List.mem_of_getElem? hg_31⟩
            have hD := hD3
            clear hD3 hD2
            generalize G_34.set i_31 (mo, .inr (12, (.int mer :: .int mfed :: .int mwr :: .int (nI K9) :: .int (nI KL) :: .ref moc :: .ref msT :: .ref mrV :: .ref msP :: .int v21_mqs :: .ref mrA :: .ref mbA :: .ref mwA :: .ref mhA :: .ref mfA :: .ref mpA :: .ref mxA :: .ref myA :: .ref mmA :: .ref mqA :: .ref mzA :: .ref mwy :: .ref mfd :: .int (nI s9) :: .int (nI s9) :: .int v7 :: .int (-1) :: .int mpt :: .int mdp :: .int x21_1 :: .long mnw :: .int mmk :: []))) = G_38 at hP hD hTy hFR kmo kmmA kmrA kmwy kmsT kmrV hg_31
            obtain ⟨cX_39, eX_39⟩ : ∃ z : va_E, z = .inr (12, (.int mer :: .int mfed :: .int mwr :: .int (nI K9) :: .int (nI KL) :: .ref moc :: .ref msT :: .ref mrV :: .ref msP :: .int v21_mqs :: .ref mrA :: .ref mbA :: .ref mwA :: .ref mhA :: .ref mfA :: .ref mpA :: .ref mxA :: .ref myA :: .ref mmA :: .ref mqA :: .ref mzA :: .ref mwy :: .ref mfd :: .int (nI s9) :: .int (nI s9) :: .int v7 :: .int (-1) :: .int mpt :: .int mdp :: .int x21_1 :: .long mnw :: .int mmk :: [])) := ⟨_, rfl⟩
            rw [← eX_39] at kmo
            refine lv_iload_n hx hb d_Model_judged_111 rfl (lv_at hl 2 rfl) ?_
            refine lv_if_ne (tgt := 119) hx hb d_Model_judged_112 (by decide) (fun c112 => ?_) (fun c112 => ?_)
            · have p112 : ¬ (x21_1 = (0 : Int32)) := c112
              refine lv_iconst (v := 0) hx hb d_Model_judged_119 (by decide) ?_
              exact W.zret (v := 0) hx hb hr rfl (fun t ht hW => ⟨⟨_, G_38, rfl, ⟨hTy, hFR, bz_f (by decide), ⟨_, _, _, _, s9, by omega, by rw [eX_39] at kmo; exact kmo⟩, ⟨_, hfm, kmmA⟩, ⟨_, hfr, kmrA⟩⟩, by rw [ht]; exact hP, va_K.moved hW.alike hK, hD⟩, hS.F ht⟩) hS.2.2 d_Model_judged_120
            · have p112 : x21_1 = (0 : Int32) := c112
              refine lv_iconst (v := 1) hx hb d_Model_judged_115 (by decide) ?_
              refine lv_goto (tgt := 120) hx hb d_Model_judged_116 (by decide) ?_
              exact W.zret (v := 1) hx hb hr rfl (fun t ht hW => ⟨⟨_, G_38, rfl, ⟨hTy, hFR, bz_t rfl, ⟨_, _, _, _, s9, by omega, by rw [eX_39] at kmo; exact kmo⟩, ⟨_, hfm, kmmA⟩, ⟨_, hfr, kmrA⟩⟩, by rw [ht]; exact hP, va_K.moved hW.alike hK, hD⟩, hS.F ht⟩) hS.2.2 d_Model_judged_120
        · have p64 : ¬ (s9 ≤ z59) := (fun q9 => c64 ((nI_leI (a := s9) (b := z59) (by omega) (by omega)).mpr q9))
          refine lv_aload_n hx hb d_Model_judged_67 rfl (lv_at hl 3 rfl) ?_
          refine va_get (v := .ref mfd) hx hb htb i_Model hown hK hP i_31 hg_31 rfl 22 (by decide) (htb _ q7_236) (fun _ h9 => h9) rfl d_Model_judged_68 ?_
          refine lv_iload_n hx hb d_Model_judged_71 rfl (lv_at hl 0 rfl) ?_
          refine lv_aload_n hx hb d_Model_judged_72 rfl (lv_at hl 3 rfl) ?_
          refine va_get (v := .ref mwy) hx hb htb i_Model hown hK hP i_31 hg_31 rfl 21 (by decide) (htb _ q7_235) (fun _ h9 => h9) rfl d_Model_judged_73 ?_
          refine lv_iload_n hx hb d_Model_judged_76 rfl (lv_at hl 0 rfl) ?_
          obtain ⟨i_40, hg_40⟩ := List.getElem?_of_mem kmwy.2
          have h77 : vp_in (nI z59) 16 := vp_in_nI (by omega) (by omega)
          refine va_iald hx hb hK hP i_40 1 hg_40 rfl h77 d_Model_judged_77 ?_
          refine lv_topi (fun e77 he77 => ?_)
          obtain ⟨cw77, hc1_77, hc2_77⟩ := hway z59 (by omega)
          rw [nI_clamp (by omega), hc2_77] at he77
          subst he77
          obtain ⟨i_41, f_41, hn_41, hg_41⟩ := tr_6 hTy kmfd
          have h78 : vp_in (nI z59) 16 := vp_in_nI (by omega) (by omega)
          refine va_iast hx hb hK hP hD hS i_41 1 hg_41 rfl h78 d_Model_judged_78 (fun H78 locs hP hD2 hS => ?_)
          have hP : va_P (dC, dI) classes (G59.set i_41 (mfd, .inl (γ.2.1, 16, .inl (upd f_41 (nI z59).toNatClampNeg (nI cw77))))) H78 := hP
          have hD3 : va_D A (G59.set i_41 (mfd, .inl (γ.2.1, 16, .inl (upd f_41 (nI z59).toNatClampNeg (nI cw77))))) := hD2
          have hF1 := FR.set (c' := .inl (γ.2.1, 16, .inl (upd f_41 (nI z59).toNatClampNeg (nI cw77)))) hg_41 kmfd.1
          have kmo := kmo.fr hF1
          have kmmA := kmmA.fr hF1
          have kmrA := kmrA.fr hF1
          have kmwy := kmwy.fr hF1
          have kmsT := kmsT.fr hF1
          have kmrV := kmrV.fr hF1
          have hFR := hFR.tr hF1.l
          clear hF1
          have hTy := TR.set (c' := .inl (γ.2.1, 16, .inl (upd f_41 (nI z59).toNatClampNeg (nI cw77)))) hTy hg_41 (okr_6 kmfd hn_41 _)
          have hD := hD3
          clear hD3 hD2
          generalize G59.set i_41 (mfd, .inl (γ.2.1, 16, .inl (upd f_41 (nI z59).toNatClampNeg (nI cw77)))) = G_42 at hP hD hTy hFR kmo kmmA kmrA kmwy kmsT kmrV 
          refine lv_iinc (v := nI (z59 + 1)) (lv' := [(3, .int (nI (z59 + 1))), (2, .int x21_2), (1, .int x21_1), (0, .ref mo)]) hx hb d_Model_judged_79 hl (k := 0) rfl (nI_1 _) (by decide) rfl (fun ls hl => ?_)
          refine lv_goto (tgt := 59) hx hb d_Model_judged_82 (by decide) ?_
          exact ih59 (z59 + 1, G_42) _ _ ls (by dsimp only; omega) ⟨by dsimp only; omega, by dsimp only; omega, hTy, hFR, kmo, kmmA, kmrA, kmwy, kmsT, kmrV⟩ hP hD hS (lv_sub hl [0, 1, 2, 3, 4] rfl)
      · have p44 : ¬ (x21_1 = (0 : Int32)) := c44
        refine lv_aload_n hx hb d_Model_judged_47 rfl (lv_at hl 3 rfl) ?_
        obtain ⟨i_43, hg_43⟩ := List.getElem?_of_mem kmo.2
        rw [eX_30] at hg_43
        refine va_get (v := .int v7) hx hb htb i_Model hown hK hP i_43 hg_43 rfl 25 (by decide) (htb _ q7_239) (fun _ h9 => h9) rfl d_Model_judged_48 ?_
        refine lv_iconst (v := 1) hx hb d_Model_judged_51 (by decide) ?_
        refine lv_icmp_le (tgt := 57) hx hb d_Model_judged_52 (by decide) (fun c52 => ?_) (fun c52 => ?_)
        · have p52 : v7 ≤ (1 : Int32) := c52
          refine lv_iconst (v := 0) hx hb d_Model_judged_57 (by decide) ?_
          refine lv_istore_n (lv' := [(3, .int 0), (2, .int x21_2), (1, .int x21_1), (0, .ref mo)]) hx hb d_Model_judged_58 rfl hl (by decide) rfl (fun ls hl => ?_)
          refine w_loopW (α := Nat × va_W) (fun a9 => 0 ≤ a9.1 ∧ a9.1 ≤ s9 ∧ TR γ κ Ad τ a9.2 ∧ FL Ad [mo, mmA, mrA] G a9.2 ∧ Xc Ad mo cX_30 a9.2 ∧ Xc Ad mmA (.inl (γ.2.1, 600, .inl f21_mmA)) a9.2 ∧ Xc Ad mrA (.inl (γ.2.1, 600, .inl f21_mrA)) a9.2 ∧ Xc Ad mwy (.inl (γ.2.1, 16, .inl fw)) a9.2 ∧ Xc Ad msT (.inl (gT, 16, .inr (.inr (.inr (.inr fS))))) a9.2 ∧ Xc Ad mrV (.inl (gT, 8, .inr (.inr (.inr (.inr fV))))) a9.2) (fun a9 => s9 - a9.1) (fun a9 => [(3, .int (nI a9.1)), (2, .int x21_2), (1, .int x21_1), (0, .ref mo)]) (fun _ => []) (fun a9 => a9.2) 4 59 (fun a9 HL59 locs ls hJ hP hD hS hl ih59 => ?_) (0, G21) _ _ ls ⟨by omega, by omega, hTy, hFR, kmo, kmmA, kmrA, kmwy, kmsT, kmrV⟩ hP hD hS (lv_sub hl [0, 1, 2, 3, 4] rfl)
          obtain ⟨z59, G59⟩ := a9
          obtain ⟨hy59, hz59, hTy, hFR, kmo, kmmA, kmrA, kmwy, kmsT, kmrV⟩ := hJ
          dsimp only at hy59 hz59 hTy hFR kmo kmmA kmrA kmwy kmsT kmrV hP hD hl ih59
          refine lv_iload_n hx hb d_Model_judged_59 rfl (lv_at hl 0 rfl) ?_
          refine lv_aload_n hx hb d_Model_judged_60 rfl (lv_at hl 3 rfl) ?_
          obtain ⟨i_44, hg_44⟩ := List.getElem?_of_mem kmo.2
          rw [eX_30] at hg_44
          refine va_get (v := .int (nI s9)) hx hb htb i_Model hown hK hP i_44 hg_44 rfl 23 (by decide) (htb _ q7_237) (fun _ h9 => h9) rfl d_Model_judged_61 ?_
          refine lv_icmp_ge (tgt := 85) hx hb d_Model_judged_64 (by decide) (fun c64 => ?_) (fun c64 => ?_)
          · have p64 : s9 ≤ z59 := ((nI_leI (a := s9) (b := z59) (by omega) (by omega)).mp c64)
            refine lv_aload_n hx hb d_Model_judged_85 rfl (lv_at hl 3 rfl) ?_
            refine lv_aload_n hx hb d_Model_judged_86 rfl (lv_at hl 3 rfl) ?_
            refine va_get (v := .int (nI s9)) hx hb htb i_Model hown hK hP i_44 hg_44 rfl 23 (by decide) (htb _ q7_237) (fun _ h9 => h9) rfl d_Model_judged_87 ?_
            refine va_put (v := .int (nI s9)) (ty := .int) hx hb htb i_Model t_Model t_Model_ok n_Model hown hK hP hD hS i_44 hg_44 rfl 24 (by decide) (htb _ q7_238) (fun _ h9 => h9) rfl (by decide +kernel) rfl rfl (Nat.le_of_ble_eq_true rfl) d_Model_judged_90 (fun H90 locs hP hD2 hS => ?_)
            have hP : va_P (dC, dI) classes (G59.set i_44 (mo, .inr (12, (.int mer :: .int mfed :: .int mwr :: .int (nI K9) :: .int (nI KL) :: .ref moc :: .ref msT :: .ref mrV :: .ref msP :: .int v21_mqs :: .ref mrA :: .ref mbA :: .ref mwA :: .ref mhA :: .ref mfA :: .ref mpA :: .ref mxA :: .ref myA :: .ref mmA :: .ref mqA :: .ref mzA :: .ref mwy :: .ref mfd :: .int (nI s9) :: .int (nI s9) :: .int v7 :: .int mft :: .int mpt :: .int mdp :: .int mvd :: .long mnw :: .int mmk :: [])))) H90 := hP
            have hD3 : va_D A (G59.set i_44 (mo, .inr (12, (.int mer :: .int mfed :: .int mwr :: .int (nI K9) :: .int (nI KL) :: .ref moc :: .ref msT :: .ref mrV :: .ref msP :: .int v21_mqs :: .ref mrA :: .ref mbA :: .ref mwA :: .ref mhA :: .ref mfA :: .ref mpA :: .ref mxA :: .ref myA :: .ref mmA :: .ref mqA :: .ref mzA :: .ref mwy :: .ref mfd :: .int (nI s9) :: .int (nI s9) :: .int v7 :: .int mft :: .int mpt :: .int mdp :: .int mvd :: .long mnw :: .int mmk :: [])))) := hD2
            have hTy := TR.setX (c' := .inr (12, (.int mer :: .int mfed :: .int mwr :: .int (nI K9) :: .int (nI KL) :: .ref moc :: .ref msT :: .ref mrV :: .ref msP :: .int v21_mqs :: .ref mrA :: .ref mbA :: .ref mwA :: .ref mhA :: .ref mfA :: .ref mpA :: .ref mxA :: .ref myA :: .ref mmA :: .ref mqA :: .ref mzA :: .ref mwy :: .ref mfd :: .int (nI s9) :: .int (nI s9) :: .int v7 :: .int mft :: .int mpt :: .int mdp :: .int mvd :: .long mnw :: .int mmk :: []))) hTy hg_44 kmo.1
            have kmmA := Xc.setX (c' := .inr (12, (.int mer :: .int mfed :: .int mwr :: .int (nI K9) :: .int (nI KL) :: .ref moc :: .ref msT :: .ref mrV :: .ref msP :: .int v21_mqs :: .ref mrA :: .ref mbA :: .ref mwA :: .ref mhA :: .ref mfA :: .ref mpA :: .ref mxA :: .ref myA :: .ref mmA :: .ref mqA :: .ref mzA :: .ref mwy :: .ref mfd :: .int (nI s9) :: .int (nI s9) :: .int v7 :: .int mft :: .int mpt :: .int mdp :: .int mvd :: .long mnw :: .int mmk :: []))) kmmA hg_44 (fun e => hx_mo_mmA.symm (congrArg Prod.fst e))
            have kmrA := Xc.setX (c' := .inr (12, (.int mer :: .int mfed :: .int mwr :: .int (nI K9) :: .int (nI KL) :: .ref moc :: .ref msT :: .ref mrV :: .ref msP :: .int v21_mqs :: .ref mrA :: .ref mbA :: .ref mwA :: .ref mhA :: .ref mfA :: .ref mpA :: .ref mxA :: .ref myA :: .ref mmA :: .ref mqA :: .ref mzA :: .ref mwy :: .ref mfd :: .int (nI s9) :: .int (nI s9) :: .int v7 :: .int mft :: .int mpt :: .int mdp :: .int mvd :: .long mnw :: .int mmk :: []))) kmrA hg_44 (fun e => hx_mo_mrA.symm (congrArg Prod.fst e))
            have kmwy := Xc.setX (c' := .inr (12, (.int mer :: .int mfed :: .int mwr :: .int (nI K9) :: .int (nI KL) :: .ref moc :: .ref msT :: .ref mrV :: .ref msP :: .int v21_mqs :: .ref mrA :: .ref mbA :: .ref mwA :: .ref mhA :: .ref mfA :: .ref mpA :: .ref mxA :: .ref myA :: .ref mmA :: .ref mqA :: .ref mzA :: .ref mwy :: .ref mfd :: .int (nI s9) :: .int (nI s9) :: .int v7 :: .int mft :: .int mpt :: .int mdp :: .int mvd :: .long mnw :: .int mmk :: []))) kmwy hg_44 (fun e => hx_mo_mwy.symm (congrArg Prod.fst e))
            have kmsT := Xc.setX (c' := .inr (12, (.int mer :: .int mfed :: .int mwr :: .int (nI K9) :: .int (nI KL) :: .ref moc :: .ref msT :: .ref mrV :: .ref msP :: .int v21_mqs :: .ref mrA :: .ref mbA :: .ref mwA :: .ref mhA :: .ref mfA :: .ref mpA :: .ref mxA :: .ref myA :: .ref mmA :: .ref mqA :: .ref mzA :: .ref mwy :: .ref mfd :: .int (nI s9) :: .int (nI s9) :: .int v7 :: .int mft :: .int mpt :: .int mdp :: .int mvd :: .long mnw :: .int mmk :: []))) kmsT hg_44 (fun e => hx_mo_msT.symm (congrArg Prod.fst e))
            have kmrV := Xc.setX (c' := .inr (12, (.int mer :: .int mfed :: .int mwr :: .int (nI K9) :: .int (nI KL) :: .ref moc :: .ref msT :: .ref mrV :: .ref msP :: .int v21_mqs :: .ref mrA :: .ref mbA :: .ref mwA :: .ref mhA :: .ref mfA :: .ref mpA :: .ref mxA :: .ref myA :: .ref mmA :: .ref mqA :: .ref mzA :: .ref mwy :: .ref mfd :: .int (nI s9) :: .int (nI s9) :: .int v7 :: .int mft :: .int mpt :: .int mdp :: .int mvd :: .long mnw :: .int mmk :: []))) kmrV hg_44 (fun e => hx_mo_mrV.symm (congrArg Prod.fst e))
            have hFR := hFR.tr (FL.set (Ad := Ad) (X := [mo, mmA, mrA]) (c' := .inr (12, (.int mer :: .int mfed :: .int mwr :: .int (nI K9) :: .int (nI KL) :: .ref moc :: .ref msT :: .ref mrV :: .ref msP :: .int v21_mqs :: .ref mrA :: .ref mbA :: .ref mwA :: .ref mhA :: .ref mfA :: .ref mpA :: .ref mxA :: .ref myA :: .ref mmA :: .ref mqA :: .ref mzA :: .ref mwy :: .ref mfd :: .int (nI s9) :: .int (nI s9) :: .int v7 :: .int mft :: .int mpt :: .int mdp :: .int mvd :: .long mnw :: .int mmk :: []))) hg_44 (by simp))
            have hg_44 := set_here (c' := .inr (12, (.int mer :: .int mfed :: .int mwr :: .int (nI K9) :: .int (nI KL) :: .ref moc :: .ref msT :: .ref mrV :: .ref msP :: .int v21_mqs :: .ref mrA :: .ref mbA :: .ref mwA :: .ref mhA :: .ref mfA :: .ref mpA :: .ref mxA :: .ref myA :: .ref mmA :: .ref mqA :: .ref mzA :: .ref mwy :: .ref mfd :: .int (nI s9) :: .int (nI s9) :: .int v7 :: .int mft :: .int mpt :: .int mdp :: .int mvd :: .long mnw :: .int mmk :: []))) hg_44
            have kmo : Xc Ad mo (.inr (12, (.int mer :: .int mfed :: .int mwr :: .int (nI K9) :: .int (nI KL) :: .ref moc :: .ref msT :: .ref mrV :: .ref msP :: .int v21_mqs :: .ref mrA :: .ref mbA :: .ref mwA :: .ref mhA :: .ref mfA :: .ref mpA :: .ref mxA :: .ref myA :: .ref mmA :: .ref mqA :: .ref mzA :: .ref mwy :: .ref mfd :: .int (nI s9) :: .int (nI s9) :: .int v7 :: .int mft :: .int mpt :: .int mdp :: .int mvd :: .long mnw :: .int mmk :: []))) (G59.set i_44 (mo, .inr (12, (.int mer :: .int mfed :: .int mwr :: .int (nI K9) :: .int (nI KL) :: .ref moc :: .ref msT :: .ref mrV :: .ref msP :: .int v21_mqs :: .ref mrA :: .ref mbA :: .ref mwA :: .ref mhA :: .ref mfA :: .ref mpA :: .ref mxA :: .ref myA :: .ref mmA :: .ref mqA :: .ref mzA :: .ref mwy :: .ref mfd :: .int (nI s9) :: .int (nI s9) :: .int v7 :: .int mft :: .int mpt :: .int mdp :: .int mvd :: .long mnw :: .int mmk :: [])))) := ⟨kmo.1, List.mem_of_getElem? hg_44⟩
            have hD := hD3
            clear hD3 hD2
            generalize G59.set i_44 (mo, .inr (12, (.int mer :: .int mfed :: .int mwr :: .int (nI K9) :: .int (nI KL) :: .ref moc :: .ref msT :: .ref mrV :: .ref msP :: .int v21_mqs :: .ref mrA :: .ref mbA :: .ref mwA :: .ref mhA :: .ref mfA :: .ref mpA :: .ref mxA :: .ref myA :: .ref mmA :: .ref mqA :: .ref mzA :: .ref mwy :: .ref mfd :: .int (nI s9) :: .int (nI s9) :: .int v7 :: .int mft :: .int mpt :: .int mdp :: .int mvd :: .long mnw :: .int mmk :: []))) = G_45 at hP hD hTy hFR kmo kmmA kmrA kmwy kmsT kmrV hg_44
            obtain ⟨cX_46, eX_46⟩ : ∃ z : va_E, z = .inr (12, (.int mer :: .int mfed :: .int mwr :: .int (nI K9) :: .int (nI KL) :: .ref moc :: .ref msT :: .ref mrV :: .ref msP :: .int v21_mqs :: .ref mrA :: .ref mbA :: .ref mwA :: .ref mhA :: .ref mfA :: .ref mpA :: .ref mxA :: .ref myA :: .ref mmA :: .ref mqA :: .ref mzA :: .ref mwy :: .ref mfd :: .int (nI s9) :: .int (nI s9) :: .int v7 :: .int mft :: .int mpt :: .int mdp :: .int mvd :: .long mnw :: .int mmk :: [])) := ⟨_, rfl⟩
            rw [← eX_46] at kmo
            refine lv_aload_n hx hb d_Model_judged_93 rfl (lv_at hl 3 rfl) ?_
            refine lv_iload_n hx hb d_Model_judged_94 rfl (lv_at hl 2 rfl) ?_
            refine va_put (v := .int x21_1) (ty := .int) hx hb htb i_Model t_Model t_Model_ok n_Model hown hK hP hD hS i_44 hg_44 rfl 29 (by decide) (htb _ q8_3) (fun _ h9 => h9) rfl (by decide +kernel) rfl rfl (Nat.le_of_ble_eq_true rfl) d_Model_judged_95 (fun H95 locs hP hD2 hS => ?_)
            have hP : va_P (dC, dI) classes (G_45.set i_44 (mo, .inr (12, (.int mer :: .int mfed :: .int mwr :: .int (nI K9) :: .int (nI KL) :: .ref moc :: .ref msT :: .ref mrV :: .ref msP :: .int v21_mqs :: .ref mrA :: .ref mbA :: .ref mwA :: .ref mhA :: .ref mfA :: .ref mpA :: .ref mxA :: .ref myA :: .ref mmA :: .ref mqA :: .ref mzA :: .ref mwy :: .ref mfd :: .int (nI s9) :: .int (nI s9) :: .int v7 :: .int mft :: .int mpt :: .int mdp :: .int x21_1 :: .long mnw :: .int mmk :: [])))) H95 := hP
            have hD3 : va_D A (G_45.set i_44 (mo, .inr (12, (.int mer :: .int mfed :: .int mwr :: .int (nI K9) :: .int (nI KL) :: .ref moc :: .ref msT :: .ref mrV :: .ref msP :: .int v21_mqs :: .ref mrA :: .ref mbA :: .ref mwA :: .ref mhA :: .ref mfA :: .ref mpA :: .ref mxA :: .ref myA :: .ref mmA :: .ref mqA :: .ref mzA :: .ref mwy :: .ref mfd :: .int (nI s9) :: .int (nI s9) :: .int v7 :: .int mft :: .int mpt :: .int mdp :: .int x21_1 :: .long mnw :: .int mmk :: [])))) := hD2
            have hTy := TR.setX (c' := .inr (12, (.int mer :: .int mfed :: .int mwr :: .int (nI K9) :: .int (nI KL) :: .ref moc :: .ref msT :: .ref mrV :: .ref msP :: .int v21_mqs :: .ref mrA :: .ref mbA :: .ref mwA :: .ref mhA :: .ref mfA :: .ref mpA :: .ref mxA :: .ref myA :: .ref mmA :: .ref mqA :: .ref mzA :: .ref mwy :: .ref mfd :: .int (nI s9) :: .int (nI s9) :: .int v7 :: .int mft :: .int mpt :: .int mdp :: .int x21_1 :: .long mnw :: .int mmk :: []))) hTy hg_44 kmo.1
            have kmmA := Xc.setX (c' := .inr (12, (.int mer :: .int mfed :: .int mwr :: .int (nI K9) :: .int (nI KL) :: .ref moc :: .ref msT :: .ref mrV :: .ref msP :: .int v21_mqs :: .ref mrA :: .ref mbA :: .ref mwA :: .ref mhA :: .ref mfA :: .ref mpA :: .ref mxA :: .ref myA :: .ref mmA :: .ref mqA :: .ref mzA :: .ref mwy :: .ref mfd :: .int (nI s9) :: .int (nI s9) :: .int v7 :: .int mft :: .int mpt :: .int mdp :: .int x21_1 :: .long mnw :: .int mmk :: []))) kmmA hg_44 (fun e => hx_mo_mmA.symm (congrArg Prod.fst e))
            have kmrA := Xc.setX (c' := .inr (12, (.int mer :: .int mfed :: .int mwr :: .int (nI K9) :: .int (nI KL) :: .ref moc :: .ref msT :: .ref mrV :: .ref msP :: .int v21_mqs :: .ref mrA :: .ref mbA :: .ref mwA :: .ref mhA :: .ref mfA :: .ref mpA :: .ref mxA :: .ref myA :: .ref mmA :: .ref mqA :: .ref mzA :: .ref mwy :: .ref mfd :: .int (nI s9) :: .int (nI s9) :: .int v7 :: .int mft :: .int mpt :: .int mdp :: .int x21_1 :: .long mnw :: .int mmk :: []))) kmrA hg_44 (fun e => hx_mo_mrA.symm (congrArg Prod.fst e))
            have kmwy := Xc.setX (c' := .inr (12, (.int mer :: .int mfed :: .int mwr :: .int (nI K9) :: .int (nI KL) :: .ref moc :: .ref msT :: .ref mrV :: .ref msP :: .int v21_mqs :: .ref mrA :: .ref mbA :: .ref mwA :: .ref mhA :: .ref mfA :: .ref mpA :: .ref mxA :: .ref myA :: .ref mmA :: .ref mqA :: .ref mzA :: .ref mwy :: .ref mfd :: .int (nI s9) :: .int (nI s9) :: .int v7 :: .int mft :: .int mpt :: .int mdp :: .int x21_1 :: .long mnw :: .int mmk :: []))) kmwy hg_44 (fun e => hx_mo_mwy.symm (congrArg Prod.fst e))
            have kmsT := Xc.setX (c' := .inr (12, (.int mer :: .int mfed :: .int mwr :: .int (nI K9) :: .int (nI KL) :: .ref moc :: .ref msT :: .ref mrV :: .ref msP :: .int v21_mqs :: .ref mrA :: .ref mbA :: .ref mwA :: .ref mhA :: .ref mfA :: .ref mpA :: .ref mxA :: .ref myA :: .ref mmA :: .ref mqA :: .ref mzA :: .ref mwy :: .ref mfd :: .int (nI s9) :: .int (nI s9) :: .int v7 :: .int mft :: .int mpt :: .int mdp :: .int x21_1 :: .long mnw :: .int mmk :: []))) kmsT hg_44 (fun e => hx_mo_msT.symm (congrArg Prod.fst e))
            have kmrV := Xc.setX (c' := .inr (12, (.int mer :: .int mfed :: .int mwr :: .int (nI K9) :: .int (nI KL) :: .ref moc :: .ref msT :: .ref mrV :: .ref msP :: .int v21_mqs :: .ref mrA :: .ref mbA :: .ref mwA :: .ref mhA :: .ref mfA :: .ref mpA :: .ref mxA :: .ref myA :: .ref mmA :: .ref mqA :: .ref mzA :: .ref mwy :: .ref mfd :: .int (nI s9) :: .int (nI s9) :: .int v7 :: .int mft :: .int mpt :: .int mdp :: .int x21_1 :: .long mnw :: .int mmk :: []))) kmrV hg_44 (fun e => hx_mo_mrV.symm (congrArg Prod.fst e))
            have hFR := hFR.tr (FL.set (Ad := Ad) (X := [mo, mmA, mrA]) (c' := .inr (12, (.int mer :: .int mfed :: .int mwr :: .int (nI K9) :: .int (nI KL) :: .ref moc :: .ref msT :: .ref mrV :: .ref msP :: .int v21_mqs :: .ref mrA :: .ref mbA :: .ref mwA :: .ref mhA :: .ref mfA :: .ref mpA :: .ref mxA :: .ref myA :: .ref mmA :: .ref mqA :: .ref mzA :: .ref mwy :: .ref mfd :: .int (nI s9) :: .int (nI s9) :: .int v7 :: .int mft :: .int mpt :: .int mdp :: .int x21_1 :: .long mnw :: .int mmk :: []))) hg_44 (by simp))
            have hg_44 := set_here (c' := .inr (12, (.int mer :: .int mfed :: .int mwr :: .int (nI K9) :: .int (nI KL) :: .ref moc :: .ref msT :: .ref mrV :: .ref msP :: .int v21_mqs :: .ref mrA :: .ref mbA :: .ref mwA :: .ref mhA :: .ref mfA :: .ref mpA :: .ref mxA :: .ref myA :: .ref mmA :: .ref mqA :: .ref mzA :: .ref mwy :: .ref mfd :: .int (nI s9) :: .int (nI s9) :: .int v7 :: .int mft :: .int mpt :: .int mdp :: .int x21_1 :: .long mnw :: .int mmk :: []))) hg_44
            have kmo : Xc Ad mo (.inr (12, (.int mer :: .int mfed :: .int mwr :: .int (nI K9) :: .int (nI KL) :: .ref moc :: .ref msT :: .ref mrV :: .ref msP :: .int v21_mqs :: .ref mrA :: .ref mbA :: .ref mwA :: .ref mhA :: .ref mfA :: .ref mpA :: .ref mxA :: .ref myA :: .ref mmA :: .ref mqA :: .ref mzA :: .ref mwy :: .ref mfd :: .int (nI s9) :: .int (nI s9) :: .int v7 :: .int mft :: .int mpt :: .int mdp :: .int x21_1 :: .long mnw :: .int mmk :: []))) (G_45.set i_44 (mo, .inr (12, (.int mer :: .int mfed :: .int mwr :: .int (nI K9) :: .int (nI KL) :: .ref moc :: .ref msT :: .ref mrV :: .ref msP :: .int v21_mqs :: .ref mrA :: .ref mbA :: .ref mwA :: .ref mhA :: .ref mfA :: .ref mpA :: .ref mxA :: .ref myA :: .ref mmA :: .ref mqA :: .ref mzA :: .ref mwy :: .ref mfd :: .int (nI s9) :: .int (nI s9) :: .int v7 :: .int mft :: .int mpt :: .int mdp :: .int x21_1 :: .long mnw :: .int mmk :: [])))) := ⟨kmo.1, List.mem_of_getElem? hg_44⟩
            have hD := hD3
            clear hD3 hD2
            generalize G_45.set i_44 (mo, .inr (12, (.int mer :: .int mfed :: .int mwr :: .int (nI K9) :: .int (nI KL) :: .ref moc :: .ref msT :: .ref mrV :: .ref msP :: .int v21_mqs :: .ref mrA :: .ref mbA :: .ref mwA :: .ref mhA :: .ref mfA :: .ref mpA :: .ref mxA :: .ref myA :: .ref mmA :: .ref mqA :: .ref mzA :: .ref mwy :: .ref mfd :: .int (nI s9) :: .int (nI s9) :: .int v7 :: .int mft :: .int mpt :: .int mdp :: .int x21_1 :: .long mnw :: .int mmk :: []))) = G_47 at hP hD hTy hFR kmo kmmA kmrA kmwy kmsT kmrV hg_44
            obtain ⟨cX_48, eX_48⟩ : ∃ z : va_E, z = .inr (12, (.int mer :: .int mfed :: .int mwr :: .int (nI K9) :: .int (nI KL) :: .ref moc :: .ref msT :: .ref mrV :: .ref msP :: .int v21_mqs :: .ref mrA :: .ref mbA :: .ref mwA :: .ref mhA :: .ref mfA :: .ref mpA :: .ref mxA :: .ref myA :: .ref mmA :: .ref mqA :: .ref mzA :: .ref mwy :: .ref mfd :: .int (nI s9) :: .int (nI s9) :: .int v7 :: .int mft :: .int mpt :: .int mdp :: .int x21_1 :: .long mnw :: .int mmk :: [])) := ⟨_, rfl⟩
            rw [← eX_48] at kmo
            refine lv_aload_n hx hb d_Model_judged_98 rfl (lv_at hl 3 rfl) ?_
            refine lv_iload_n hx hb d_Model_judged_99 rfl (lv_at hl 2 rfl) ?_
            refine lv_if_ne (tgt := 107) hx hb d_Model_judged_100 (by decide) (fun c100 => ?_) (fun c100 => ?_)
            · have p100 : ¬ (x21_1 = (0 : Int32)) := c100
              refine lv_iload_n hx hb d_Model_judged_107 rfl (lv_at hl 1 rfl) ?_
              refine va_put (v := .int x21_2) (ty := .int) hx hb htb i_Model t_Model t_Model_ok n_Model hown hK hP hD hS i_44 hg_44 rfl 26 (by decide) (htb _ q8_0) (fun _ h9 => h9) rfl (by decide +kernel) rfl rfl (Nat.le_of_ble_eq_true rfl) d_Model_judged_108 (fun H108 locs hP hD2 hS => ?_)
              have hP : va_P (dC, dI) classes (G_47.set i_44 (mo, .inr (12, (.int mer :: .int mfed :: .int mwr :: .int (nI K9) :: .int (nI KL) :: .ref moc :: .ref msT :: .ref mrV :: .ref msP :: .int v21_mqs :: .ref mrA :: .ref mbA :: .ref mwA :: .ref mhA :: .ref mfA :: .ref mpA :: .ref mxA :: .ref myA :: .ref mmA :: .ref mqA :: .ref mzA :: .ref mwy :: .ref mfd :: .int (nI s9) :: .int (nI s9) :: .int v7 :: .int x21_2 :: .int mpt :: .int mdp :: .int x21_1 :: .long mnw :: .int mmk :: [])))) H108 := hP
              have hD3 : va_D A (G_47.set i_44 (mo, .inr (12, (.int mer :: .int mfed :: .int mwr :: .int (nI K9) :: .int (nI KL) :: .ref moc :: .ref msT :: .ref mrV :: .ref msP :: .int v21_mqs :: .ref mrA :: .ref mbA :: .ref mwA :: .ref mhA :: .ref mfA :: .ref mpA :: .ref mxA :: .ref myA :: .ref mmA :: .ref mqA :: .ref mzA :: .ref mwy :: .ref mfd :: .int (nI s9) :: .int (nI s9) :: .int v7 :: .int x21_2 :: .int mpt :: .int mdp :: .int x21_1 :: .long mnw :: .int mmk :: [])))) := hD2
              have hTy := TR.setX (c' := .inr (12, (.int mer :: .int mfed :: .int mwr :: .int (nI K9) :: .int (nI KL) :: .ref moc :: .ref msT :: .ref mrV :: .ref msP :: .int v21_mqs :: .ref mrA :: .ref mbA :: .ref mwA :: .ref mhA :: .ref mfA :: .ref mpA :: .ref mxA :: .ref myA :: .ref mmA :: .ref mqA :: .ref mzA :: .ref mwy :: .ref mfd :: .int (nI s9) :: .int (nI s9) :: .int v7 :: .int x21_2 :: .int mpt :: .int mdp :: .int x21_1 :: .long mnw :: .int mmk :: []))) hTy hg_44 kmo.1
              have kmmA := Xc.setX (c' := .inr (12, (.int mer :: .int mfed :: .int mwr :: .int (nI K9) :: .int (nI KL) :: .ref moc :: .ref msT :: .ref mrV :: .ref msP :: .int v21_mqs :: .ref mrA :: .ref mbA :: .ref mwA :: .ref mhA :: .ref mfA :: .ref mpA :: .ref mxA :: .ref myA :: .ref mmA :: .ref mqA :: .ref mzA :: .ref mwy :: .ref mfd :: .int (nI s9) :: .int (nI s9) :: .int v7 :: .int x21_2 :: .int mpt :: .int mdp :: .int x21_1 :: .long mnw :: .int mmk :: []))) kmmA hg_44 (fun e => hx_mo_mmA.symm (congrArg Prod.fst e))
              have kmrA := Xc.setX (c' := .inr (12, (.int mer :: .int mfed :: .int mwr :: .int (nI K9) :: .int (nI KL) :: .ref moc :: .ref msT :: .ref mrV :: .ref msP :: .int v21_mqs :: .ref mrA :: .ref mbA :: .ref mwA :: .ref mhA :: .ref mfA :: .ref mpA :: .ref mxA :: .ref myA :: .ref mmA :: .ref mqA :: .ref mzA :: .ref mwy :: .ref mfd :: .int (nI s9) :: .int (nI s9) :: .int v7 :: .int x21_2 :: .int mpt :: .int mdp :: .int x21_1 :: .long mnw :: .int mmk :: []))) kmrA hg_44 (fun e => hx_mo_mrA.symm (congrArg Prod.fst e))
              have kmwy := Xc.setX (c' := .inr (12, (.int mer :: .int mfed :: .int mwr :: .int (nI K9) :: .int (nI KL) :: .ref moc :: .ref msT :: .ref mrV :: .ref msP :: .int v21_mqs :: .ref mrA :: .ref mbA :: .ref mwA :: .ref mhA :: .ref mfA :: .ref mpA :: .ref mxA :: .ref myA :: .ref mmA :: .ref mqA :: .ref mzA :: .ref mwy :: .ref mfd :: .int (nI s9) :: .int (nI s9) :: .int v7 :: .int x21_2 :: .int mpt :: .int mdp :: .int x21_1 :: .long mnw :: .int mmk :: []))) kmwy hg_44 (fun e => hx_mo_mwy.symm (congrArg Prod.fst e))
              have kmsT := Xc.setX (c' := .inr (12, (.int mer :: .int mfed :: .int mwr :: .int (nI K9) :: .int (nI KL) :: .ref moc :: .ref msT :: .ref mrV :: .ref msP :: .int v21_mqs :: .ref mrA :: .ref mbA :: .ref mwA :: .ref mhA :: .ref mfA :: .ref mpA :: .ref mxA :: .ref myA :: .ref mmA :: .ref mqA :: .ref mzA :: .ref mwy :: .ref mfd :: .int (nI s9) :: .int (nI s9) :: .int v7 :: .int x21_2 :: .int mpt :: .int mdp :: .int x21_1 :: .long mnw :: .int mmk :: []))) kmsT hg_44 (fun e => hx_mo_msT.symm (congrArg Prod.fst e))
              have kmrV := Xc.setX (c' := .inr (12, (.int mer :: .int mfed :: .int mwr :: .int (nI K9) :: .int (nI KL) :: .ref moc :: .ref msT :: .ref mrV :: .ref msP :: .int v21_mqs :: .ref mrA :: .ref mbA :: .ref mwA :: .ref mhA :: .ref mfA :: .ref mpA :: .ref mxA :: .ref myA :: .ref mmA :: .ref mqA :: .ref mzA :: .ref mwy :: .ref mfd :: .int (nI s9) :: .int (nI s9) :: .int v7 :: .int x21_2 :: .int mpt :: .int mdp :: .int x21_1 :: .long mnw :: .int mmk :: []))) kmrV hg_44 (fun e => hx_mo_mrV.symm (congrArg Prod.fst e))
              have hFR := hFR.tr (FL.set (Ad := Ad) (X := [mo, mmA, mrA]) (c' := .inr (12, (.int mer :: .int mfed :: .int mwr :: .int (nI K9) :: .int (nI KL) :: .ref moc :: .ref msT :: .ref mrV :: .ref msP :: .int v21_mqs :: .ref mrA :: .ref mbA :: .ref mwA :: .ref mhA :: .ref mfA :: .ref mpA :: .ref mxA :: .ref myA :: .ref mmA :: .ref mqA :: .ref mzA :: .ref mwy :: .ref mfd :: .int (nI s9) :: .int (nI s9) :: .int v7 :: .int x21_2 :: .int mpt :: .int mdp :: .int x21_1 :: .long mnw :: .int mmk :: []))) hg_44 (by simp))
              have hg_44 := set_here (c' := .inr (12, (.int mer :: .int mfed :: .int mwr :: .int (nI K9) :: .int (nI KL) :: .ref moc :: .ref msT :: .ref mrV :: .ref msP :: .int v21_mqs :: .ref mrA :: .ref mbA :: .ref mwA :: .ref mhA :: .ref mfA :: .ref mpA :: .ref mxA :: .ref myA :: .ref mmA :: .ref mqA :: .ref mzA :: .ref mwy :: .ref mfd :: .int (nI s9) :: .int (nI s9) :: .int v7 :: .int x21_2 :: .int mpt :: .int mdp :: .int x21_1 :: .long mnw :: .int mmk :: []))) hg_44
              have kmo : Xc Ad mo (.inr (12, (.int mer :: .int mfed :: .int mwr :: .int (nI K9) :: .int (nI KL) :: .ref moc :: .ref msT :: .ref mrV :: .ref msP :: .int v21_mqs :: .ref mrA :: .ref mbA :: .ref mwA :: .ref mhA :: .ref mfA :: .ref mpA :: .ref mxA :: .ref myA :: .ref mmA :: .ref mqA :: .ref mzA :: .ref mwy :: .ref mfd :: .int (nI s9) :: .int (nI s9) :: .int v7 :: .int x21_2 :: .int mpt :: .int mdp :: .int x21_1 :: .long mnw :: .int mmk :: []))) (G_47.set i_44 (mo, .inr (12, (.int mer :: .int mfed :: .int mwr :: .int (nI K9) :: .int (nI KL) :: .ref moc :: .ref msT :: .ref mrV :: .ref msP :: .int v21_mqs :: .ref mrA :: .ref mbA :: .ref mwA :: .ref mhA :: .ref mfA :: .ref mpA :: .ref mxA :: .ref myA :: .ref mmA :: .ref mqA :: .ref mzA :: .ref mwy :: .ref mfd :: .int (nI s9) :: .int (nI s9) :: .int v7 :: .int x21_2 :: .int mpt :: .int mdp :: .int x21_1 :: .long mnw :: .int mmk :: [])))) := ⟨kmo.1, List.mem_of_getElem? hg_44⟩
              have hD := hD3
              clear hD3 hD2
              generalize G_47.set i_44 (mo, .inr (12, (.int mer :: .int mfed :: .int mwr :: .int (nI K9) :: .int (nI KL) :: .ref moc :: .ref msT :: .ref mrV :: .ref msP :: .int v21_mqs :: .ref mrA :: .ref mbA :: .ref mwA :: .ref mhA :: .ref mfA :: .ref mpA :: .ref mxA :: .ref myA :: .ref mmA :: .ref mqA :: .ref mzA :: .ref mwy :: .ref mfd :: .int (nI s9) :: .int (nI s9) :: .int v7 :: .int x21_2 :: .int mpt :: .int mdp :: .int x21_1 :: .long mnw :: .int mmk :: []))) = G_49 at hP hD hTy hFR kmo kmmA kmrA kmwy kmsT kmrV hg_44
              obtain ⟨cX_50, eX_50⟩ : ∃ z : va_E, z = .inr (12, (.int mer :: .int mfed :: .int mwr :: .int (nI K9) :: .int (nI KL) :: .ref moc :: .ref msT :: .ref mrV :: .ref msP :: .int v21_mqs :: .ref mrA :: .ref mbA :: .ref mwA :: .ref mhA :: .ref mfA :: .ref mpA :: .ref mxA :: .ref myA :: .ref mmA :: .ref mqA :: .ref mzA :: .ref mwy :: .ref mfd :: .int (nI s9) :: .int (nI s9) :: .int v7 :: .int x21_2 :: .int mpt :: .int mdp :: .int x21_1 :: .long mnw :: .int mmk :: [])) := ⟨_, rfl⟩
              rw [← eX_50] at kmo
              refine lv_iload_n hx hb d_Model_judged_111 rfl (lv_at hl 2 rfl) ?_
              refine lv_if_ne (tgt := 119) hx hb d_Model_judged_112 (by decide) (fun c112 => ?_) (fun c112 => ?_)
              · have p112 : ¬ (x21_1 = (0 : Int32)) := c112
                refine lv_iconst (v := 0) hx hb d_Model_judged_119 (by decide) ?_
                exact W.zret (v := 0) hx hb hr rfl (fun t ht hW => ⟨⟨_, G_49, rfl, ⟨hTy, hFR, bz_f (by decide), ⟨_, _, _, _, s9, by omega, by rw [eX_50] at kmo; exact kmo⟩, ⟨_, hfm, kmmA⟩, ⟨_, hfr, kmrA⟩⟩, by rw [ht]; exact hP, va_K.moved hW.alike hK, hD⟩, hS.F ht⟩) hS.2.2 d_Model_judged_120
              · have p112 : x21_1 = (0 : Int32) := c112
                refine lv_iconst (v := 1) hx hb d_Model_judged_115 (by decide) ?_
                refine lv_goto (tgt := 120) hx hb d_Model_judged_116 (by decide) ?_
                exact W.zret (v := 1) hx hb hr rfl (fun t ht hW => ⟨⟨_, G_49, rfl, ⟨hTy, hFR, bz_t rfl, ⟨_, _, _, _, s9, by omega, by rw [eX_50] at kmo; exact kmo⟩, ⟨_, hfm, kmmA⟩, ⟨_, hfr, kmrA⟩⟩, by rw [ht]; exact hP, va_K.moved hW.alike hK, hD⟩, hS.F ht⟩) hS.2.2 d_Model_judged_120
            · have p100 : x21_1 = (0 : Int32) := c100
              refine lv_iconst (v := -1) hx hb d_Model_judged_103 (by decide) ?_
              refine lv_goto (tgt := 108) hx hb d_Model_judged_104 (by decide) ?_
              refine va_put (v := .int (-1)) (ty := .int) hx hb htb i_Model t_Model t_Model_ok n_Model hown hK hP hD hS i_44 hg_44 rfl 26 (by decide) (htb _ q8_0) (fun _ h9 => h9) rfl (by decide +kernel) rfl rfl (Nat.le_of_ble_eq_true rfl) d_Model_judged_108 (fun H108 locs hP hD2 hS => ?_)
              have hP : va_P (dC, dI) classes (G_47.set i_44 (mo, .inr (12, (.int mer :: .int mfed :: .int mwr :: .int (nI K9) :: .int (nI KL) :: .ref moc :: .ref msT :: .ref mrV :: .ref msP :: .int v21_mqs :: .ref mrA :: .ref mbA :: .ref mwA :: .ref mhA :: .ref mfA :: .ref mpA :: .ref mxA :: .ref myA :: .ref mmA :: .ref mqA :: .ref mzA :: .ref mwy :: .ref mfd :: .int (nI s9) :: .int (nI s9) :: .int v7 :: .int (-1) :: .int mpt :: .int mdp :: .int x21_1 :: .long mnw :: .int mmk :: [])))) H108 := hP
              have hD3 : va_D A (G_47.set i_44 (mo, .inr (12, (.int mer :: .int mfed :: .int mwr :: .int (nI K9) :: .int (nI KL) :: .ref moc :: .ref msT :: .ref mrV :: .ref msP :: .int v21_mqs :: .ref mrA :: .ref mbA :: .ref mwA :: .ref mhA :: .ref mfA :: .ref mpA :: .ref mxA :: .ref myA :: .ref mmA :: .ref mqA :: .ref mzA :: .ref mwy :: .ref mfd :: .int (nI s9) :: .int (nI s9) :: .int v7 :: .int (-1) :: .int mpt :: .int mdp :: .int x21_1 :: .long mnw :: .int mmk :: [])))) := hD2
              have hTy := TR.setX (c' := .inr (12, (.int mer :: .int mfed :: .int mwr :: .int (nI K9) :: .int (nI KL) :: .ref moc :: .ref msT :: .ref mrV :: .ref msP :: .int v21_mqs :: .ref mrA :: .ref mbA :: .ref mwA :: .ref mhA :: .ref mfA :: .ref mpA :: .ref mxA :: .ref myA :: .ref mmA :: .ref mqA :: .ref mzA :: .ref mwy :: .ref mfd :: .int (nI s9) :: .int (nI s9) :: .int v7 :: .int (-1) :: .int mpt :: .int mdp :: .int x21_1 :: .long mnw :: .int mmk :: []))) hTy hg_44 kmo.1
              have kmmA := Xc.setX (c' := .inr (12, (.int mer :: .int mfed :: .int mwr :: .int (nI K9) :: .int (nI KL) :: .ref moc :: .ref msT :: .ref mrV :: .ref msP :: .int v21_mqs :: .ref mrA :: .ref mbA :: .ref mwA :: .ref mhA :: .ref mfA :: .ref mpA :: .ref mxA :: .ref myA :: .ref mmA :: .ref mqA :: .ref mzA :: .ref mwy :: .ref mfd :: .int (nI s9) :: .int (nI s9) :: .int v7 :: .int (-1) :: .int mpt :: .int mdp :: .int x21_1 :: .long mnw :: .int mmk :: []))) kmmA hg_44 (fun e => hx_mo_mmA.symm (congrArg Prod.fst e))
              have kmrA := Xc.setX (c' := .inr (12, (.int mer :: .int mfed :: .int mwr :: .int (nI K9) :: .int (nI KL) :: .ref moc :: .ref msT :: .ref mrV :: .ref msP :: .int v21_mqs :: .ref mrA :: .ref mbA :: .ref mwA :: .ref mhA :: .ref mfA :: .ref mpA :: .ref mxA :: .ref myA :: .ref mmA :: .ref mqA :: .ref mzA :: .ref mwy :: .ref mfd :: .int (nI s9) :: .int (nI s9) :: .int v7 :: .int (-1) :: .int mpt :: .int mdp :: .int x21_1 :: .long mnw :: .int mmk :: []))) kmrA hg_44 (fun e => hx_mo_mrA.symm (congrArg Prod.fst e))
              have kmwy := Xc.setX (c' := .inr (12, (.int mer :: .int mfed :: .int mwr :: .int (nI K9) :: .int (nI KL) :: .ref moc :: .ref msT :: .ref mrV :: .ref msP :: .int v21_mqs :: .ref mrA :: .ref mbA :: .ref mwA :: .ref mhA :: .ref mfA :: .ref mpA :: .ref mxA :: .ref myA :: .ref mmA :: .ref mqA :: .ref mzA :: .ref mwy :: .ref mfd :: .int (nI s9) :: .int (nI s9) :: .int v7 :: .int (-1) :: .int mpt :: .int mdp :: .int x21_1 :: .long mnw :: .int mmk :: []))) kmwy hg_44 (fun e => hx_mo_mwy.symm (congrArg Prod.fst e))
              have kmsT := Xc.setX (c' := .inr (12, (.int mer :: .int mfed :: .int mwr :: .int (nI K9) :: .int (nI KL) :: .ref moc :: .ref msT :: .ref mrV :: .ref msP :: .int v21_mqs :: .ref mrA :: .ref mbA :: .ref mwA :: .ref mhA :: .ref mfA :: .ref mpA :: .ref mxA :: .ref myA :: .ref mmA :: .ref mqA :: .ref mzA :: .ref mwy :: .ref mfd :: .int (nI s9) :: .int (nI s9) :: .int v7 :: .int (-1) :: .int mpt :: .int mdp :: .int x21_1 :: .long mnw :: .int mmk :: []))) kmsT hg_44 (fun e => hx_mo_msT.symm (congrArg Prod.fst e))
              have kmrV := Xc.setX (c' := .inr (12, (.int mer :: .int mfed :: .int mwr :: .int (nI K9) :: .int (nI KL) :: .ref moc :: .ref msT :: .ref mrV :: .ref msP :: .int v21_mqs :: .ref mrA :: .ref mbA :: .ref mwA :: .ref mhA :: .ref mfA :: .ref mpA :: .ref mxA :: .ref myA :: .ref mmA :: .ref mqA :: .ref mzA :: .ref mwy :: .ref mfd :: .int (nI s9) :: .int (nI s9) :: .int v7 :: .int (-1) :: .int mpt :: .int mdp :: .int x21_1 :: .long mnw :: .int mmk :: []))) kmrV hg_44 (fun e => hx_mo_mrV.symm (congrArg Prod.fst e))
              have hFR := hFR.tr (FL.set (Ad := Ad) (X := [mo, mmA, mrA]) (c' := .inr (12, (.int mer :: .int mfed :: .int mwr :: .int (nI K9) :: .int (nI KL) :: .ref moc :: .ref msT :: .ref mrV :: .ref msP :: .int v21_mqs :: .ref mrA :: .ref mbA :: .ref mwA :: .ref mhA :: .ref mfA :: .ref mpA :: .ref mxA :: .ref myA :: .ref mmA :: .ref mqA :: .ref mzA :: .ref mwy :: .ref mfd :: .int (nI s9) :: .int (nI s9) :: .int v7 :: .int (-1) :: .int mpt :: .int mdp :: .int x21_1 :: .long mnw :: .int mmk :: []))) hg_44 (by simp))
              have hg_44 := set_here (c' := .inr (12, (.int mer :: .int mfed :: .int mwr :: .int (nI K9) :: .int (nI KL) :: .ref moc :: .ref msT :: .ref mrV :: .ref msP :: .int v21_mqs :: .ref mrA :: .ref mbA :: .ref mwA :: .ref mhA :: .ref mfA :: .ref mpA :: .ref mxA :: .ref myA :: .ref mmA :: .ref mqA :: .ref mzA :: .ref mwy :: .ref mfd :: .int (nI s9) :: .int (nI s9) :: .int v7 :: .int (-1) :: .int mpt :: .int mdp :: .int x21_1 :: .long mnw :: .int mmk :: []))) hg_44
              have kmo : Xc Ad mo (.inr (12, (.int mer :: .int mfed :: .int mwr :: .int (nI K9) :: .int (nI KL) :: .ref moc :: .ref msT :: .ref mrV :: .ref msP :: .int v21_mqs :: .ref mrA :: .ref mbA :: .ref mwA :: .ref mhA :: .ref mfA :: .ref mpA :: .ref mxA :: .ref myA :: .ref mmA :: .ref mqA :: .ref mzA :: .ref mwy :: .ref mfd :: .int (nI s9) :: .int (nI s9) :: .int v7 :: .int (-1) :: .int mpt :: .int mdp :: .int x21_1 :: .long mnw :: .int mmk :: []))) (G_47.set i_44 (mo, .inr (12, (.int mer :: .int mfed :: .int mwr :: .int (nI K9) :: .int (nI KL) :: .ref moc :: .ref msT :: .ref mrV :: .ref msP :: .int v21_mqs :: .ref mrA :: .ref mbA :: .ref mwA :: .ref mhA :: .ref mfA :: .ref mpA :: .ref mxA :: .ref myA :: .ref mmA :: .ref mqA :: .ref mzA :: .ref mwy :: .ref mfd :: .int (nI s9) :: .int (nI s9) :: .int v7 :: .int (-1) :: .int mpt :: .int mdp :: .int x21_1 :: .long mnw :: .int mmk :: [])))) := ⟨kmo.1, List.mem_of_getElem? hg_44⟩
              have hD := hD3
              clear hD3 hD2
              generalize G_47.set i_44 (mo, .inr (12, (.int mer :: .int mfed :: .int mwr :: .int (nI K9) :: .int (nI KL) :: .ref moc :: .ref msT :: .ref mrV :: .ref msP :: .int v21_mqs :: .ref mrA :: .ref mbA :: .ref mwA :: .ref mhA :: .ref mfA :: .ref mpA :: .ref mxA :: .ref myA :: .ref mmA :: .ref mqA :: .ref mzA :: .ref mwy :: .ref mfd :: .int (nI s9) :: .int (nI s9) :: .int v7 :: .int (-1) :: .int mpt :: .int mdp :: .int x21_1 :: .long mnw :: .int mmk :: []))) = G_51 at hP hD hTy hFR kmo kmmA kmrA kmwy kmsT kmrV hg_44
              obtain ⟨cX_52, eX_52⟩ : ∃ z : va_E, z = .inr (12, (.int mer :: .int mfed :: .int mwr :: .int (nI K9) :: .int (nI KL) :: .ref moc :: .ref msT :: .ref mrV :: .ref msP :: .int v21_mqs :: .ref mrA :: .ref mbA :: .ref mwA :: .ref mhA :: .ref mfA :: .ref mpA :: .ref mxA :: .ref myA :: .ref mmA :: .ref mqA :: .ref mzA :: .ref mwy :: .ref mfd :: .int (nI s9) :: .int (nI s9) :: .int v7 :: .int (-1) :: .int mpt :: .int mdp :: .int x21_1 :: .long mnw :: .int mmk :: [])) := ⟨_, rfl⟩
              rw [← eX_52] at kmo
              refine lv_iload_n hx hb d_Model_judged_111 rfl (lv_at hl 2 rfl) ?_
              refine lv_if_ne (tgt := 119) hx hb d_Model_judged_112 (by decide) (fun c112 => ?_) (fun c112 => ?_)
              · have p112 : ¬ (x21_1 = (0 : Int32)) := c112
                refine lv_iconst (v := 0) hx hb d_Model_judged_119 (by decide) ?_
                exact W.zret (v := 0) hx hb hr rfl (fun t ht hW => ⟨⟨_, G_51, rfl, ⟨hTy, hFR, bz_f (by decide), ⟨_, _, _, _, s9, by omega, by rw [eX_52] at kmo; exact kmo⟩, ⟨_, hfm, kmmA⟩, ⟨_, hfr, kmrA⟩⟩, by rw [ht]; exact hP, va_K.moved hW.alike hK, hD⟩, hS.F ht⟩) hS.2.2 d_Model_judged_120
              · have p112 : x21_1 = (0 : Int32) := c112
                refine lv_iconst (v := 1) hx hb d_Model_judged_115 (by decide) ?_
                refine lv_goto (tgt := 120) hx hb d_Model_judged_116 (by decide) ?_
                exact W.zret (v := 1) hx hb hr rfl (fun t ht hW => ⟨⟨_, G_51, rfl, ⟨hTy, hFR, bz_t rfl, ⟨_, _, _, _, s9, by omega, by rw [eX_52] at kmo; exact kmo⟩, ⟨_, hfm, kmmA⟩, ⟨_, hfr, kmrA⟩⟩, by rw [ht]; exact hP, va_K.moved hW.alike hK, hD⟩, hS.F ht⟩) hS.2.2 d_Model_judged_120
          · have p64 : ¬ (s9 ≤ z59) := (fun q9 => c64 ((nI_leI (a := s9) (b := z59) (by omega) (by omega)).mpr q9))
            refine lv_aload_n hx hb d_Model_judged_67 rfl (lv_at hl 3 rfl) ?_
            refine va_get (v := .ref mfd) hx hb htb i_Model hown hK hP i_44 hg_44 rfl 22 (by decide) (htb _ q7_236) (fun _ h9 => h9) rfl d_Model_judged_68 ?_
            refine lv_iload_n hx hb d_Model_judged_71 rfl (lv_at hl 0 rfl) ?_
            refine lv_aload_n hx hb d_Model_judged_72 rfl (lv_at hl 3 rfl) ?_
            refine va_get (v := .ref mwy) hx hb htb i_Model hown hK hP i_44 hg_44 rfl 21 (by decide) (htb _ q7_235) (fun _ h9 => h9) rfl d_Model_judged_73 ?_
            refine lv_iload_n hx hb d_Model_judged_76 rfl (lv_at hl 0 rfl) ?_
            obtain ⟨i_53, hg_53⟩ := List.getElem?_of_mem kmwy.2
            have h77 : vp_in (nI z59) 16 := vp_in_nI (by omega) (by omega)
            refine va_iald hx hb hK hP i_53 1 hg_53 rfl h77 d_Model_judged_77 ?_
            refine lv_topi (fun e77 he77 => ?_)
            obtain ⟨cw77, hc1_77, hc2_77⟩ := hway z59 (by omega)
            rw [nI_clamp (by omega), hc2_77] at he77
            subst he77
            obtain ⟨i_54, f_54, hn_54, hg_54⟩ := tr_6 hTy kmfd
            have h78 : vp_in (nI z59) 16 := vp_in_nI (by omega) (by omega)
            refine va_iast hx hb hK hP hD hS i_54 1 hg_54 rfl h78 d_Model_judged_78 (fun H78 locs hP hD2 hS => ?_)
            have hP : va_P (dC, dI) classes (G59.set i_54 (mfd, .inl (γ.2.1, 16, .inl (upd f_54 (nI z59).toNatClampNeg (nI cw77))))) H78 := hP
            have hD3 : va_D A (G59.set i_54 (mfd, .inl (γ.2.1, 16, .inl (upd f_54 (nI z59).toNatClampNeg (nI cw77))))) := hD2
            have hF1 := FR.set (c' := .inl (γ.2.1, 16, .inl (upd f_54 (nI z59).toNatClampNeg (nI cw77)))) hg_54 kmfd.1
            have kmo := kmo.fr hF1
            have kmmA := kmmA.fr hF1
            have kmrA := kmrA.fr hF1
            have kmwy := kmwy.fr hF1
            have kmsT := kmsT.fr hF1
            have kmrV := kmrV.fr hF1
            have hFR := hFR.tr hF1.l
            clear hF1
            have hTy := TR.set (c' := .inl (γ.2.1, 16, .inl (upd f_54 (nI z59).toNatClampNeg (nI cw77)))) hTy hg_54 (okr_6 kmfd hn_54 _)
            have hD := hD3
            clear hD3 hD2
            generalize G59.set i_54 (mfd, .inl (γ.2.1, 16, .inl (upd f_54 (nI z59).toNatClampNeg (nI cw77)))) = G_55 at hP hD hTy hFR kmo kmmA kmrA kmwy kmsT kmrV 
            refine lv_iinc (v := nI (z59 + 1)) (lv' := [(3, .int (nI (z59 + 1))), (2, .int x21_2), (1, .int x21_1), (0, .ref mo)]) hx hb d_Model_judged_79 hl (k := 0) rfl (nI_1 _) (by decide) rfl (fun ls hl => ?_)
            refine lv_goto (tgt := 59) hx hb d_Model_judged_82 (by decide) ?_
            exact ih59 (z59 + 1, G_55) _ _ ls (by dsimp only; omega) ⟨by dsimp only; omega, by dsimp only; omega, hTy, hFR, kmo, kmmA, kmrA, kmwy, kmsT, kmrV⟩ hP hD hS (lv_sub hl [0, 1, 2, 3, 4] rfl)
        · have p52 : ¬ (v7 ≤ (1 : Int32)) := c52
          refine lv_iconst (v := 0) hx hb d_Model_judged_55 (by decide) ?_
          exact W.zret (v := 0) hx hb hr rfl (fun t ht hW => ⟨⟨_, G21, rfl, ⟨hTy, hFR, bz_f (by decide), ⟨_, _, _, _, c9, by omega, by rw [eX_30] at kmo; exact kmo⟩, ⟨_, hfm, kmmA⟩, ⟨_, hfr, kmrA⟩⟩, by rw [ht]; exact hP, va_K.moved hW.alike hK, hD⟩, hS.F ht⟩) hS.2.2 d_Model_judged_56
    · have p22 : ¬ (z21 < 0) := (fun q9 => c22 ((nI_ltI (a := z21) (b := 0) (by omega) (by omega)).mpr q9))
      refine lv_iload_n hx hb d_Model_judged_25 rfl (lv_at hl 2 rfl) ?_
      refine lv_if_ne (tgt := 43) hx hb d_Model_judged_26 (by decide) (fun c26 => ?_) (fun c26 => ?_)
      · have p26 : ¬ (x21_1 = (0 : Int32)) := c26
        refine lv_iload_n hx hb d_Model_judged_43 rfl (lv_at hl 2 rfl) ?_
        refine lv_if_eq (tgt := 57) hx hb d_Model_judged_44 (by decide) (fun c44 => ?_) (fun c44 => ?_)
        · have p44 : x21_1 = (0 : Int32) := c44
          refine lv_iconst (v := 0) hx hb d_Model_judged_57 (by decide) ?_
          refine lv_istore_n (lv' := [(3, .int 0), (2, .int x21_2), (1, .int x21_1), (0, .ref mo)]) hx hb d_Model_judged_58 rfl hl (by decide) rfl (fun ls hl => ?_)
          refine w_loopW (α := Nat × va_W) (fun a9 => 0 ≤ a9.1 ∧ a9.1 ≤ s9 ∧ TR γ κ Ad τ a9.2 ∧ FL Ad [mo, mmA, mrA] G a9.2 ∧ Xc Ad mo cX_30 a9.2 ∧ Xc Ad mmA (.inl (γ.2.1, 600, .inl f21_mmA)) a9.2 ∧ Xc Ad mrA (.inl (γ.2.1, 600, .inl f21_mrA)) a9.2 ∧ Xc Ad mwy (.inl (γ.2.1, 16, .inl fw)) a9.2 ∧ Xc Ad msT (.inl (gT, 16, .inr (.inr (.inr (.inr fS))))) a9.2 ∧ Xc Ad mrV (.inl (gT, 8, .inr (.inr (.inr (.inr fV))))) a9.2) (fun a9 => s9 - a9.1) (fun a9 => [(3, .int (nI a9.1)), (2, .int x21_2), (1, .int x21_1), (0, .ref mo)]) (fun _ => []) (fun a9 => a9.2) 4 59 (fun a9 HL59 locs ls hJ hP hD hS hl ih59 => ?_) (0, G21) _ _ ls ⟨by omega, by omega, hTy, hFR, kmo, kmmA, kmrA, kmwy, kmsT, kmrV⟩ hP hD hS (lv_sub hl [0, 1, 2, 3, 4] rfl)
          obtain ⟨z59, G59⟩ := a9
          obtain ⟨hy59, hz59, hTy, hFR, kmo, kmmA, kmrA, kmwy, kmsT, kmrV⟩ := hJ
          dsimp only at hy59 hz59 hTy hFR kmo kmmA kmrA kmwy kmsT kmrV hP hD hl ih59
          refine lv_iload_n hx hb d_Model_judged_59 rfl (lv_at hl 0 rfl) ?_
          refine lv_aload_n hx hb d_Model_judged_60 rfl (lv_at hl 3 rfl) ?_
          obtain ⟨i_56, hg_56⟩ := List.getElem?_of_mem kmo.2
          rw [eX_30] at hg_56
          refine va_get (v := .int (nI s9)) hx hb htb i_Model hown hK hP i_56 hg_56 rfl 23 (by decide) (htb _ q7_237) (fun _ h9 => h9) rfl d_Model_judged_61 ?_
          refine lv_icmp_ge (tgt := 85) hx hb d_Model_judged_64 (by decide) (fun c64 => ?_) (fun c64 => ?_)
          · have p64 : s9 ≤ z59 := ((nI_leI (a := s9) (b := z59) (by omega) (by omega)).mp c64)
            refine lv_aload_n hx hb d_Model_judged_85 rfl (lv_at hl 3 rfl) ?_
            refine lv_aload_n hx hb d_Model_judged_86 rfl (lv_at hl 3 rfl) ?_
            refine va_get (v := .int (nI s9)) hx hb htb i_Model hown hK hP i_56 hg_56 rfl 23 (by decide) (htb _ q7_237) (fun _ h9 => h9) rfl d_Model_judged_87 ?_
            refine va_put (v := .int (nI s9)) (ty := .int) hx hb htb i_Model t_Model t_Model_ok n_Model hown hK hP hD hS i_56 hg_56 rfl 24 (by decide) (htb _ q7_238) (fun _ h9 => h9) rfl (by decide +kernel) rfl rfl (Nat.le_of_ble_eq_true rfl) d_Model_judged_90 (fun H90 locs hP hD2 hS => ?_)
            have hP : va_P (dC, dI) classes (G59.set i_56 (mo, .inr (12, (.int mer :: .int mfed :: .int mwr :: .int (nI K9) :: .int (nI KL) :: .ref moc :: .ref msT :: .ref mrV :: .ref msP :: .int v21_mqs :: .ref mrA :: .ref mbA :: .ref mwA :: .ref mhA :: .ref mfA :: .ref mpA :: .ref mxA :: .ref myA :: .ref mmA :: .ref mqA :: .ref mzA :: .ref mwy :: .ref mfd :: .int (nI s9) :: .int (nI s9) :: .int v7 :: .int mft :: .int mpt :: .int mdp :: .int mvd :: .long mnw :: .int mmk :: [])))) H90 := hP
            have hD3 : va_D A (G59.set i_56 (mo, .inr (12, (.int mer :: .int mfed :: .int mwr :: .int (nI K9) :: .int (nI KL) :: .ref moc :: .ref msT :: .ref mrV :: .ref msP :: .int v21_mqs :: .ref mrA :: .ref mbA :: .ref mwA :: .ref mhA :: .ref mfA :: .ref mpA :: .ref mxA :: .ref myA :: .ref mmA :: .ref mqA :: .ref mzA :: .ref mwy :: .ref mfd :: .int (nI s9) :: .int (nI s9) :: .int v7 :: .int mft :: .int mpt :: .int mdp :: .int mvd :: .long mnw :: .int mmk :: [])))) := hD2
            have hTy := TR.setX (c' := .inr (12, (.int mer :: .int mfed :: .int mwr :: .int (nI K9) :: .int (nI KL) :: .ref moc :: .ref msT :: .ref mrV :: .ref msP :: .int v21_mqs :: .ref mrA :: .ref mbA :: .ref mwA :: .ref mhA :: .ref mfA :: .ref mpA :: .ref mxA :: .ref myA :: .ref mmA :: .ref mqA :: .ref mzA :: .ref mwy :: .ref mfd :: .int (nI s9) :: .int (nI s9) :: .int v7 :: .int mft :: .int mpt :: .int mdp :: .int mvd :: .long mnw :: .int mmk :: []))) hTy hg_56 kmo.1
            have kmmA := Xc.setX (c' := .inr (12, (.int mer :: .int mfed :: .int mwr :: .int (nI K9) :: .int (nI KL) :: .ref moc :: .ref msT :: .ref mrV :: .ref msP :: .int v21_mqs :: .ref mrA :: .ref mbA :: .ref mwA :: .ref mhA :: .ref mfA :: .ref mpA :: .ref mxA :: .ref myA :: .ref mmA :: .ref mqA :: .ref mzA :: .ref mwy :: .ref mfd :: .int (nI s9) :: .int (nI s9) :: .int v7 :: .int mft :: .int mpt :: .int mdp :: .int mvd :: .long mnw :: .int mmk :: []))) kmmA hg_56 (fun e => hx_mo_mmA.symm (congrArg Prod.fst e))
            have kmrA := Xc.setX (c' := .inr (12, (.int mer :: .int mfed :: .int mwr :: .int (nI K9) :: .int (nI KL) :: .ref moc :: .ref msT :: .ref mrV :: .ref msP :: .int v21_mqs :: .ref mrA :: .ref mbA :: .ref mwA :: .ref mhA :: .ref mfA :: .ref mpA :: .ref mxA :: .ref myA :: .ref mmA :: .ref mqA :: .ref mzA :: .ref mwy :: .ref mfd :: .int (nI s9) :: .int (nI s9) :: .int v7 :: .int mft :: .int mpt :: .int mdp :: .int mvd :: .long mnw :: .int mmk :: []))) kmrA hg_56 (fun e => hx_mo_mrA.symm (congrArg Prod.fst e))
            have kmwy := Xc.setX (c' := .inr (12, (.int mer :: .int mfed :: .int mwr :: .int (nI K9) :: .int (nI KL) :: .ref moc :: .ref msT :: .ref mrV :: .ref msP :: .int v21_mqs :: .ref mrA :: .ref mbA :: .ref mwA :: .ref mhA :: .ref mfA :: .ref mpA :: .ref mxA :: .ref myA :: .ref mmA :: .ref mqA :: .ref mzA :: .ref mwy :: .ref mfd :: .int (nI s9) :: .int (nI s9) :: .int v7 :: .int mft :: .int mpt :: .int mdp :: .int mvd :: .long mnw :: .int mmk :: []))) kmwy hg_56 (fun e => hx_mo_mwy.symm (congrArg Prod.fst e))
            have kmsT := Xc.setX (c' := .inr (12, (.int mer :: .int mfed :: .int mwr :: .int (nI K9) :: .int (nI KL) :: .ref moc :: .ref msT :: .ref mrV :: .ref msP :: .int v21_mqs :: .ref mrA :: .ref mbA :: .ref mwA :: .ref mhA :: .ref mfA :: .ref mpA :: .ref mxA :: .ref myA :: .ref mmA :: .ref mqA :: .ref mzA :: .ref mwy :: .ref mfd :: .int (nI s9) :: .int (nI s9) :: .int v7 :: .int mft :: .int mpt :: .int mdp :: .int mvd :: .long mnw :: .int mmk :: []))) kmsT hg_56 (fun e => hx_mo_msT.symm (congrArg Prod.fst e))
            have kmrV := Xc.setX (c' := .inr (12, (.int mer :: .int mfed :: .int mwr :: .int (nI K9) :: .int (nI KL) :: .ref moc :: .ref msT :: .ref mrV :: .ref msP :: .int v21_mqs :: .ref mrA :: .ref mbA :: .ref mwA :: .ref mhA :: .ref mfA :: .ref mpA :: .ref mxA :: .ref myA :: .ref mmA :: .ref mqA :: .ref mzA :: .ref mwy :: .ref mfd :: .int (nI s9) :: .int (nI s9) :: .int v7 :: .int mft :: .int mpt :: .int mdp :: .int mvd :: .long mnw :: .int mmk :: []))) kmrV hg_56 (fun e => hx_mo_mrV.symm (congrArg Prod.fst e))
            have hFR := hFR.tr (FL.set (Ad := Ad) (X := [mo, mmA, mrA]) (c' := .inr (12, (.int mer :: .int mfed :: .int mwr :: .int (nI K9) :: .int (nI KL) :: .ref moc :: .ref msT :: .ref mrV :: .ref msP :: .int v21_mqs :: .ref mrA :: .ref mbA :: .ref mwA :: .ref mhA :: .ref mfA :: .ref mpA :: .ref mxA :: .ref myA :: .ref mmA :: .ref mqA :: .ref mzA :: .ref mwy :: .ref mfd :: .int (nI s9) :: .int (nI s9) :: .int v7 :: .int mft :: .int mpt :: .int mdp :: .int mvd :: .long mnw :: .int mmk :: []))) hg_56 (by simp))
            have hg_56 := set_here (c' := .inr (12, (.int mer :: .int mfed :: .int mwr :: .int (nI K9) :: .int (nI KL) :: .ref moc :: .ref msT :: .ref mrV :: .ref msP :: .int v21_mqs :: .ref mrA :: .ref mbA :: .ref mwA :: .ref mhA :: .ref mfA :: .ref mpA :: .ref mxA :: .ref myA :: .ref mmA :: .ref mqA :: .ref mzA :: .ref mwy :: .ref mfd :: .int (nI s9) :: .int (nI s9) :: .int v7 :: .int mft :: .int mpt :: .int mdp :: .int mvd :: .long mnw :: .int mmk :: []))) hg_56
            have kmo : Xc Ad mo (.inr (12, (.int mer :: .int mfed :: .int mwr :: .int (nI K9) :: .int (nI KL) :: .ref moc :: .ref msT :: .ref mrV :: .ref msP :: .int v21_mqs :: .ref mrA :: .ref mbA :: .ref mwA :: .ref mhA :: .ref mfA :: .ref mpA :: .ref mxA :: .ref myA :: .ref mmA :: .ref mqA :: .ref mzA :: .ref mwy :: .ref mfd :: .int (nI s9) :: .int (nI s9) :: .int v7 :: .int mft :: .int mpt :: .int mdp :: .int mvd :: .long mnw :: .int mmk :: []))) (G59.set i_56 (mo, .inr (12, (.int mer :: .int mfed :: .int mwr :: .int (nI K9) :: .int (nI KL) :: .ref moc :: .ref msT :: .ref mrV :: .ref msP :: .int v21_mqs :: .ref mrA :: .ref mbA :: .ref mwA :: .ref mhA :: .ref mfA :: .ref mpA :: .ref mxA :: .ref myA :: .ref mmA :: .ref mqA :: .ref mzA :: .ref mwy :: .ref mfd :: .int (nI s9) :: .int (nI s9) :: .int v7 :: .int mft :: .int mpt :: .int mdp :: .int mvd :: .long mnw :: .int mmk :: [])))) := ⟨kmo.1, List.mem_of_getElem? hg_56⟩
            have hD := hD3
            clear hD3 hD2
            generalize G59.set i_56 (mo, .inr (12, (.int mer :: .int mfed :: .int mwr :: .int (nI K9) :: .int (nI KL) :: .ref moc :: .ref msT :: .ref mrV :: .ref msP :: .int v21_mqs :: .ref mrA :: .ref mbA :: .ref mwA :: .ref mhA :: .ref mfA :: .ref mpA :: .ref mxA :: .ref myA :: .ref mmA :: .ref mqA :: .ref mzA :: .ref mwy :: .ref mfd :: .int (nI s9) :: .int (nI s9) :: .int v7 :: .int mft :: .int mpt :: .int mdp :: .int mvd :: .long mnw :: .int mmk :: []))) = G_57 at hP hD hTy hFR kmo kmmA kmrA kmwy kmsT kmrV hg_56
            obtain ⟨cX_58, eX_58⟩ : ∃ z : va_E, z = .inr (12, (.int mer :: .int mfed :: .int mwr :: .int (nI K9) :: .int (nI KL) :: .ref moc :: .ref msT :: .ref mrV :: .ref msP :: .int v21_mqs :: .ref mrA :: .ref mbA :: .ref mwA :: .ref mhA :: .ref mfA :: .ref mpA :: .ref mxA :: .ref myA :: .ref mmA :: .ref mqA :: .ref mzA :: .ref mwy :: .ref mfd :: .int (nI s9) :: .int (nI s9) :: .int v7 :: .int mft :: .int mpt :: .int mdp :: .int mvd :: .long mnw :: .int mmk :: [])) := ⟨_, rfl⟩
            rw [← eX_58] at kmo
            refine lv_aload_n hx hb d_Model_judged_93 rfl (lv_at hl 3 rfl) ?_
            refine lv_iload_n hx hb d_Model_judged_94 rfl (lv_at hl 2 rfl) ?_
            refine va_put (v := .int x21_1) (ty := .int) hx hb htb i_Model t_Model t_Model_ok n_Model hown hK hP hD hS i_56 hg_56 rfl 29 (by decide) (htb _ q8_3) (fun _ h9 => h9) rfl (by decide +kernel) rfl rfl (Nat.le_of_ble_eq_true rfl) d_Model_judged_95 (fun H95 locs hP hD2 hS => ?_)
            have hP : va_P (dC, dI) classes (G_57.set i_56 (mo, .inr (12, (.int mer :: .int mfed :: .int mwr :: .int (nI K9) :: .int (nI KL) :: .ref moc :: .ref msT :: .ref mrV :: .ref msP :: .int v21_mqs :: .ref mrA :: .ref mbA :: .ref mwA :: .ref mhA :: .ref mfA :: .ref mpA :: .ref mxA :: .ref myA :: .ref mmA :: .ref mqA :: .ref mzA :: .ref mwy :: .ref mfd :: .int (nI s9) :: .int (nI s9) :: .int v7 :: .int mft :: .int mpt :: .int mdp :: .int x21_1 :: .long mnw :: .int mmk :: [])))) H95 := hP
            have hD3 : va_D A (G_57.set i_56 (mo, .inr (12, (.int mer :: .int mfed :: .int mwr :: .int (nI K9) :: .int (nI KL) :: .ref moc :: .ref msT :: .ref mrV :: .ref msP :: .int v21_mqs :: .ref mrA :: .ref mbA :: .ref mwA :: .ref mhA :: .ref mfA :: .ref mpA :: .ref mxA :: .ref myA :: .ref mmA :: .ref mqA :: .ref mzA :: .ref mwy :: .ref mfd :: .int (nI s9) :: .int (nI s9) :: .int v7 :: .int mft :: .int mpt :: .int mdp :: .int x21_1 :: .long mnw :: .int mmk :: [])))) := hD2
            have hTy := TR.setX (c' := .inr (12, (.int mer :: .int mfed :: .int mwr :: .int (nI K9) :: .int (nI KL) :: .ref moc :: .ref msT :: .ref mrV :: .ref msP :: .int v21_mqs :: .ref mrA :: .ref mbA :: .ref mwA :: .ref mhA :: .ref mfA :: .ref mpA :: .ref mxA :: .ref myA :: .ref mmA :: .ref mqA :: .ref mzA :: .ref mwy :: .ref mfd :: .int (nI s9) :: .int (nI s9) :: .int v7 :: .int mft :: .int mpt :: .int mdp :: .int x21_1 :: .long mnw :: .int mmk :: []))) hTy hg_56 kmo.1
            have kmmA := Xc.setX (c' := .inr (12, (.int mer :: .int mfed :: .int mwr :: .int (nI K9) :: .int (nI KL) :: .ref moc :: .ref msT :: .ref mrV :: .ref msP :: .int v21_mqs :: .ref mrA :: .ref mbA :: .ref mwA :: .ref mhA :: .ref mfA :: .ref mpA :: .ref mxA :: .ref myA :: .ref mmA :: .ref mqA :: .ref mzA :: .ref mwy :: .ref mfd :: .int (nI s9) :: .int (nI s9) :: .int v7 :: .int mft :: .int mpt :: .int mdp :: .int x21_1 :: .long mnw :: .int mmk :: []))) kmmA hg_56 (fun e => hx_mo_mmA.symm (congrArg Prod.fst e))
            have kmrA := Xc.setX (c' := .inr (12, (.int mer :: .int mfed :: .int mwr :: .int (nI K9) :: .int (nI KL) :: .ref moc :: .ref msT :: .ref mrV :: .ref msP :: .int v21_mqs :: .ref mrA :: .ref mbA :: .ref mwA :: .ref mhA :: .ref mfA :: .ref mpA :: .ref mxA :: .ref myA :: .ref mmA :: .ref mqA :: .ref mzA :: .ref mwy :: .ref mfd :: .int (nI s9) :: .int (nI s9) :: .int v7 :: .int mft :: .int mpt :: .int mdp :: .int x21_1 :: .long mnw :: .int mmk :: []))) kmrA hg_56 (fun e => hx_mo_mrA.symm (congrArg Prod.fst e))
            have kmwy := Xc.setX (c' := .inr (12, (.int mer :: .int mfed :: .int mwr :: .int (nI K9) :: .int (nI KL) :: .ref moc :: .ref msT :: .ref mrV :: .ref msP :: .int v21_mqs :: .ref mrA :: .ref mbA :: .ref mwA :: .ref mhA :: .ref mfA :: .ref mpA :: .ref mxA :: .ref myA :: .ref mmA :: .ref mqA :: .ref mzA :: .ref mwy :: .ref mfd :: .int (nI s9) :: .int (nI s9) :: .int v7 :: .int mft :: .int mpt :: .int mdp :: .int x21_1 :: .long mnw :: .int mmk :: []))) kmwy hg_56 (fun e => hx_mo_mwy.symm (congrArg Prod.fst e))
            have kmsT := Xc.setX (c' := .inr (12, (.int mer :: .int mfed :: .int mwr :: .int (nI K9) :: .int (nI KL) :: .ref moc :: .ref msT :: .ref mrV :: .ref msP :: .int v21_mqs :: .ref mrA :: .ref mbA :: .ref mwA :: .ref mhA :: .ref mfA :: .ref mpA :: .ref mxA :: .ref myA :: .ref mmA :: .ref mqA :: .ref mzA :: .ref mwy :: .ref mfd :: .int (nI s9) :: .int (nI s9) :: .int v7 :: .int mft :: .int mpt :: .int mdp :: .int x21_1 :: .long mnw :: .int mmk :: []))) kmsT hg_56 (fun e => hx_mo_msT.symm (congrArg Prod.fst e))
            have kmrV := Xc.setX (c' := .inr (12, (.int mer :: .int mfed :: .int mwr :: .int (nI K9) :: .int (nI KL) :: .ref moc :: .ref msT :: .ref mrV :: .ref msP :: .int v21_mqs :: .ref mrA :: .ref mbA :: .ref mwA :: .ref mhA :: .ref mfA :: .ref mpA :: .ref mxA :: .ref myA :: .ref mmA :: .ref mqA :: .ref mzA :: .ref mwy :: .ref mfd :: .int (nI s9) :: .int (nI s9) :: .int v7 :: .int mft :: .int mpt :: .int mdp :: .int x21_1 :: .long mnw :: .int mmk :: []))) kmrV hg_56 (fun e => hx_mo_mrV.symm (congrArg Prod.fst e))
            have hFR := hFR.tr (FL.set (Ad := Ad) (X := [mo, mmA, mrA]) (c' := .inr (12, (.int mer :: .int mfed :: .int mwr :: .int (nI K9) :: .int (nI KL) :: .ref moc :: .ref msT :: .ref mrV :: .ref msP :: .int v21_mqs :: .ref mrA :: .ref mbA :: .ref mwA :: .ref mhA :: .ref mfA :: .ref mpA :: .ref mxA :: .ref myA :: .ref mmA :: .ref mqA :: .ref mzA :: .ref mwy :: .ref mfd :: .int (nI s9) :: .int (nI s9) :: .int v7 :: .int mft :: .int mpt :: .int mdp :: .int x21_1 :: .long mnw :: .int mmk :: []))) hg_56 (by simp))
            have hg_56 := set_here (c' := .inr (12, (.int mer :: .int mfed :: .int mwr :: .int (nI K9) :: .int (nI KL) :: .ref moc :: .ref msT :: .ref mrV :: .ref msP :: .int v21_mqs :: .ref mrA :: .ref mbA :: .ref mwA :: .ref mhA :: .ref mfA :: .ref mpA :: .ref mxA :: .ref myA :: .ref mmA :: .ref mqA :: .ref mzA :: .ref mwy :: .ref mfd :: .int (nI s9) :: .int (nI s9) :: .int v7 :: .int mft :: .int mpt :: .int mdp :: .int x21_1 :: .long mnw :: .int mmk :: []))) hg_56
            have kmo : Xc Ad mo (.inr (12, (.int mer :: .int mfed :: .int mwr :: .int (nI K9) :: .int (nI KL) :: .ref moc :: .ref msT :: .ref mrV :: .ref msP :: .int v21_mqs :: .ref mrA :: .ref mbA :: .ref mwA :: .ref mhA :: .ref mfA :: .ref mpA :: .ref mxA :: .ref myA :: .ref mmA :: .ref mqA :: .ref mzA :: .ref mwy :: .ref mfd :: .int (nI s9) :: .int (nI s9) :: .int v7 :: .int mft :: .int mpt :: .int mdp :: .int x21_1 :: .long mnw :: .int mmk :: []))) (G_57.set i_56 (mo, .inr (12, (.int mer :: .int mfed :: .int mwr :: .int (nI K9) :: .int (nI KL) :: .ref moc :: .ref msT :: .ref mrV :: .ref msP :: .int v21_mqs :: .ref mrA :: .ref mbA :: .ref mwA :: .ref mhA :: .ref mfA :: .ref mpA :: .ref mxA :: .ref myA :: .ref mmA :: .ref mqA :: .ref mzA :: .ref mwy :: .ref mfd :: .int (nI s9) :: .int (nI s9) :: .int v7 :: .int mft :: .int mpt :: .int mdp :: .int x21_1 :: .long mnw :: .int mmk :: [])))) := ⟨kmo.1, List.mem_of_getElem? hg_56⟩
            have hD := hD3
            clear hD3 hD2
            generalize G_57.set i_56 (mo, .inr (12, (.int mer :: .int mfed :: .int mwr :: .int (nI K9) :: .int (nI KL) :: .ref moc :: .ref msT :: .ref mrV :: .ref msP :: .int v21_mqs :: .ref mrA :: .ref mbA :: .ref mwA :: .ref mhA :: .ref mfA :: .ref mpA :: .ref mxA :: .ref myA :: .ref mmA :: .ref mqA :: .ref mzA :: .ref mwy :: .ref mfd :: .int (nI s9) :: .int (nI s9) :: .int v7 :: .int mft :: .int mpt :: .int mdp :: .int x21_1 :: .long mnw :: .int mmk :: []))) = G_59 at hP hD hTy hFR kmo kmmA kmrA kmwy kmsT kmrV hg_56
            obtain ⟨cX_60, eX_60⟩ : ∃ z : va_E, z = .inr (12, (.int mer :: .int mfed :: .int mwr :: .int (nI K9) :: .int (nI KL) :: .ref moc :: .ref msT :: .ref mrV :: .ref msP :: .int v21_mqs :: .ref mrA :: .ref mbA :: .ref mwA :: .ref mhA :: .ref mfA :: .ref mpA :: .ref mxA :: .ref myA :: .ref mmA :: .ref mqA :: .ref mzA :: .ref mwy :: .ref mfd :: .int (nI s9) :: .int (nI s9) :: .int v7 :: .int mft :: .int mpt :: .int mdp :: .int x21_1 :: .long mnw :: .int mmk :: [])) := ⟨_, rfl⟩
            rw [← eX_60] at kmo
            refine lv_aload_n hx hb d_Model_judged_98 rfl (lv_at hl 3 rfl) ?_
            refine lv_iload_n hx hb d_Model_judged_99 rfl (lv_at hl 2 rfl) ?_
            refine lv_if_ne (tgt := 107) hx hb d_Model_judged_100 (by decide) (fun c100 => ?_) (fun c100 => ?_)
            · have p100 : ¬ (x21_1 = (0 : Int32)) := c100
              refine lv_iload_n hx hb d_Model_judged_107 rfl (lv_at hl 1 rfl) ?_
              refine va_put (v := .int x21_2) (ty := .int) hx hb htb i_Model t_Model t_Model_ok n_Model hown hK hP hD hS i_56 hg_56 rfl 26 (by decide) (htb _ q8_0) (fun _ h9 => h9) rfl (by decide +kernel) rfl rfl (Nat.le_of_ble_eq_true rfl) d_Model_judged_108 (fun H108 locs hP hD2 hS => ?_)
              have hP : va_P (dC, dI) classes (G_59.set i_56 (mo, .inr (12, (.int mer :: .int mfed :: .int mwr :: .int (nI K9) :: .int (nI KL) :: .ref moc :: .ref msT :: .ref mrV :: .ref msP :: .int v21_mqs :: .ref mrA :: .ref mbA :: .ref mwA :: .ref mhA :: .ref mfA :: .ref mpA :: .ref mxA :: .ref myA :: .ref mmA :: .ref mqA :: .ref mzA :: .ref mwy :: .ref mfd :: .int (nI s9) :: .int (nI s9) :: .int v7 :: .int x21_2 :: .int mpt :: .int mdp :: .int x21_1 :: .long mnw :: .int mmk :: [])))) H108 := hP
              have hD3 : va_D A (G_59.set i_56 (mo, .inr (12, (.int mer :: .int mfed :: .int mwr :: .int (nI K9) :: .int (nI KL) :: .ref moc :: .ref msT :: .ref mrV :: .ref msP :: .int v21_mqs :: .ref mrA :: .ref mbA :: .ref mwA :: .ref mhA :: .ref mfA :: .ref mpA :: .ref mxA :: .ref myA :: .ref mmA :: .ref mqA :: .ref mzA :: .ref mwy :: .ref mfd :: .int (nI s9) :: .int (nI s9) :: .int v7 :: .int x21_2 :: .int mpt :: .int mdp :: .int x21_1 :: .long mnw :: .int mmk :: [])))) := hD2
              have hTy := TR.setX (c' := .inr (12, (.int mer :: .int mfed :: .int mwr :: .int (nI K9) :: .int (nI KL) :: .ref moc :: .ref msT :: .ref mrV :: .ref msP :: .int v21_mqs :: .ref mrA :: .ref mbA :: .ref mwA :: .ref mhA :: .ref mfA :: .ref mpA :: .ref mxA :: .ref myA :: .ref mmA :: .ref mqA :: .ref mzA :: .ref mwy :: .ref mfd :: .int (nI s9) :: .int (nI s9) :: .int v7 :: .int x21_2 :: .int mpt :: .int mdp :: .int x21_1 :: .long mnw :: .int mmk :: []))) hTy hg_56 kmo.1
              have kmmA := Xc.setX (c' := .inr (12, (.int mer :: .int mfed :: .int mwr :: .int (nI K9) :: .int (nI KL) :: .ref moc :: .ref msT :: .ref mrV :: .ref msP :: .int v21_mqs :: .ref mrA :: .ref mbA :: .ref mwA :: .ref mhA :: .ref mfA :: .ref mpA :: .ref mxA :: .ref myA :: .ref mmA :: .ref mqA :: .ref mzA :: .ref mwy :: .ref mfd :: .int (nI s9) :: .int (nI s9) :: .int v7 :: .int x21_2 :: .int mpt :: .int mdp :: .int x21_1 :: .long mnw :: .int mmk :: []))) kmmA hg_56 (fun e => hx_mo_mmA.symm (congrArg Prod.fst e))
              have kmrA := Xc.setX (c' := .inr (12, (.int mer :: .int mfed :: .int mwr :: .int (nI K9) :: .int (nI KL) :: .ref moc :: .ref msT :: .ref mrV :: .ref msP :: .int v21_mqs :: .ref mrA :: .ref mbA :: .ref mwA :: .ref mhA :: .ref mfA :: .ref mpA :: .ref mxA :: .ref myA :: .ref mmA :: .ref mqA :: .ref mzA :: .ref mwy :: .ref mfd :: .int (nI s9) :: .int (nI s9) :: .int v7 :: .int x21_2 :: .int mpt :: .int mdp :: .int x21_1 :: .long mnw :: .int mmk :: []))) kmrA hg_56 (fun e => hx_mo_mrA.symm (congrArg Prod.fst e))
              have kmwy := Xc.setX (c' := .inr (12, (.int mer :: .int mfed :: .int mwr :: .int (nI K9) :: .int (nI KL) :: .ref moc :: .ref msT :: .ref mrV :: .ref msP :: .int v21_mqs :: .ref mrA :: .ref mbA :: .ref mwA :: .ref mhA :: .ref mfA :: .ref mpA :: .ref mxA :: .ref myA :: .ref mmA :: .ref mqA :: .ref mzA :: .ref mwy :: .ref mfd :: .int (nI s9) :: .int (nI s9) :: .int v7 :: .int x21_2 :: .int mpt :: .int mdp :: .int x21_1 :: .long mnw :: .int mmk :: []))) kmwy hg_56 (fun e => hx_mo_mwy.symm (congrArg Prod.fst e))
              have kmsT := Xc.setX (c' := .inr (12, (.int mer :: .int mfed :: .int mwr :: .int (nI K9) :: .int (nI KL) :: .ref moc :: .ref msT :: .ref mrV :: .ref msP :: .int v21_mqs :: .ref mrA :: .ref mbA :: .ref mwA :: .ref mhA :: .ref mfA :: .ref mpA :: .ref mxA :: .ref myA :: .ref mmA :: .ref mqA :: .ref mzA :: .ref mwy :: .ref mfd :: .int (nI s9) :: .int (nI s9) :: .int v7 :: .int x21_2 :: .int mpt :: .int mdp :: .int x21_1 :: .long mnw :: .int mmk :: []))) kmsT hg_56 (fun e => hx_mo_msT.symm (congrArg Prod.fst e))
              have kmrV := Xc.setX (c' := .inr (12, (.int mer :: .int mfed :: .int mwr :: .int (nI K9) :: .int (nI KL) :: .ref moc :: .ref msT :: .ref mrV :: .ref msP :: .int v21_mqs :: .ref mrA :: .ref mbA :: .ref mwA :: .ref mhA :: .ref mfA :: .ref mpA :: .ref mxA :: .ref myA :: .ref mmA :: .ref mqA :: .ref mzA :: .ref mwy :: .ref mfd :: .int (nI s9) :: .int (nI s9) :: .int v7 :: .int x21_2 :: .int mpt :: .int mdp :: .int x21_1 :: .long mnw :: .int mmk :: []))) kmrV hg_56 (fun e => hx_mo_mrV.symm (congrArg Prod.fst e))
              have hFR := hFR.tr (FL.set (Ad := Ad) (X := [mo, mmA, mrA]) (c' := .inr (12, (.int mer :: .int mfed :: .int mwr :: .int (nI K9) :: .int (nI KL) :: .ref moc :: .ref msT :: .ref mrV :: .ref msP :: .int v21_mqs :: .ref mrA :: .ref mbA :: .ref mwA :: .ref mhA :: .ref mfA :: .ref mpA :: .ref mxA :: .ref myA :: .ref mmA :: .ref mqA :: .ref mzA :: .ref mwy :: .ref mfd :: .int (nI s9) :: .int (nI s9) :: .int v7 :: .int x21_2 :: .int mpt :: .int mdp :: .int x21_1 :: .long mnw :: .int mmk :: []))) hg_56 (by simp))
              have hg_56 := set_here (c' := .inr (12, (.int mer :: .int mfed :: .int mwr :: .int (nI K9) :: .int (nI KL) :: .ref moc :: .ref msT :: .ref mrV :: .ref msP :: .int v21_mqs :: .ref mrA :: .ref mbA :: .ref mwA :: .ref mhA :: .ref mfA :: .ref mpA :: .ref mxA :: .ref myA :: .ref mmA :: .ref mqA :: .ref mzA :: .ref mwy :: .ref mfd :: .int (nI s9) :: .int (nI s9) :: .int v7 :: .int x21_2 :: .int mpt :: .int mdp :: .int x21_1 :: .long mnw :: .int mmk :: []))) hg_56
              have kmo : Xc Ad mo (.inr (12, (.int mer :: .int mfed :: .int mwr :: .int (nI K9) :: .int (nI KL) :: .ref moc :: .ref msT :: .ref mrV :: .ref msP :: .int v21_mqs :: .ref mrA :: .ref mbA :: .ref mwA :: .ref mhA :: .ref mfA :: .ref mpA :: .ref mxA :: .ref myA :: .ref mmA :: .ref mqA :: .ref mzA :: .ref mwy :: .ref mfd :: .int (nI s9) :: .int (nI s9) :: .int v7 :: .int x21_2 :: .int mpt :: .int mdp :: .int x21_1 :: .long mnw :: .int mmk :: []))) (G_59.set i_56 (mo, .inr (12, (.int mer :: .int mfed :: .int mwr :: .int (nI K9) :: .int (nI KL) :: .ref moc :: .ref msT :: .ref mrV :: .ref msP :: .int v21_mqs :: .ref mrA :: .ref mbA :: .ref mwA :: .ref mhA :: .ref mfA :: .ref mpA :: .ref mxA :: .ref myA :: .ref mmA :: .ref mqA :: .ref mzA :: .ref mwy :: .ref mfd :: .int (nI s9) :: .int (nI s9) :: .int v7 :: .int x21_2 :: .int mpt :: .int mdp :: .int x21_1 :: .long mnw :: .int mmk :: [])))) := ⟨kmo.1, List.mem_of_getElem? hg_56⟩
              have hD := hD3
              clear hD3 hD2
              generalize G_59.set i_56 (mo, .inr (12, (.int mer :: .int mfed :: .int mwr :: .int (nI K9) :: .int (nI KL) :: .ref moc :: .ref msT :: .ref mrV :: .ref msP :: .int v21_mqs :: .ref mrA :: .ref mbA :: .ref mwA :: .ref mhA :: .ref mfA :: .ref mpA :: .ref mxA :: .ref myA :: .ref mmA :: .ref mqA :: .ref mzA :: .ref mwy :: .ref mfd :: .int (nI s9) :: .int (nI s9) :: .int v7 :: .int x21_2 :: .int mpt :: .int mdp :: .int x21_1 :: .long mnw :: .int mmk :: []))) = G_61 at hP hD hTy hFR kmo kmmA kmrA kmwy kmsT kmrV hg_56
              obtain ⟨cX_62, eX_62⟩ : ∃ z : va_E, z = .inr (12, (.int mer :: .int mfed :: .int mwr :: .int (nI K9) :: .int (nI KL) :: .ref moc :: .ref msT :: .ref mrV :: .ref msP :: .int v21_mqs :: .ref mrA :: .ref mbA :: .ref mwA :: .ref mhA :: .ref mfA :: .ref mpA :: .ref mxA :: .ref myA :: .ref mmA :: .ref mqA :: .ref mzA :: .ref mwy :: .ref mfd :: .int (nI s9) :: .int (nI s9) :: .int v7 :: .int x21_2 :: .int mpt :: .int mdp :: .int x21_1 :: .long mnw :: .int mmk :: [])) := ⟨_, rfl⟩
              rw [← eX_62] at kmo
              refine lv_iload_n hx hb d_Model_judged_111 rfl (lv_at hl 2 rfl) ?_
              refine lv_if_ne (tgt := 119) hx hb d_Model_judged_112 (by decide) (fun c112 => ?_) (fun c112 => ?_)
              · have p112 : ¬ (x21_1 = (0 : Int32)) := c112
                refine lv_iconst (v := 0) hx hb d_Model_judged_119 (by decide) ?_
                exact W.zret (v := 0) hx hb hr rfl (fun t ht hW => ⟨⟨_, G_61, rfl, ⟨hTy, hFR, bz_f (by decide), ⟨_, _, _, _, s9, by omega, by rw [eX_62] at kmo; exact kmo⟩, ⟨_, hfm, kmmA⟩, ⟨_, hfr, kmrA⟩⟩, by rw [ht]; exact hP, va_K.moved hW.alike hK, hD⟩, hS.F ht⟩) hS.2.2 d_Model_judged_120
              · have p112 : x21_1 = (0 : Int32) := c112
                refine lv_iconst (v := 1) hx hb d_Model_judged_115 (by decide) ?_
                refine lv_goto (tgt := 120) hx hb d_Model_judged_116 (by decide) ?_
                exact W.zret (v := 1) hx hb hr rfl (fun t ht hW => ⟨⟨_, G_61, rfl, ⟨hTy, hFR, bz_t rfl, ⟨_, _, _, _, s9, by omega, by rw [eX_62] at kmo; exact kmo⟩, ⟨_, hfm, kmmA⟩, ⟨_, hfr, kmrA⟩⟩, by rw [ht]; exact hP, va_K.moved hW.alike hK, hD⟩, hS.F ht⟩) hS.2.2 d_Model_judged_120
            · have p100 : x21_1 = (0 : Int32) := c100
              refine lv_iconst (v := -1) hx hb d_Model_judged_103 (by decide) ?_
              refine lv_goto (tgt := 108) hx hb d_Model_judged_104 (by decide) ?_
              refine va_put (v := .int (-1)) (ty := .int) hx hb htb i_Model t_Model t_Model_ok n_Model hown hK hP hD hS i_56 hg_56 rfl 26 (by decide) (htb _ q8_0) (fun _ h9 => h9) rfl (by decide +kernel) rfl rfl (Nat.le_of_ble_eq_true rfl) d_Model_judged_108 (fun H108 locs hP hD2 hS => ?_)
              have hP : va_P (dC, dI) classes (G_59.set i_56 (mo, .inr (12, (.int mer :: .int mfed :: .int mwr :: .int (nI K9) :: .int (nI KL) :: .ref moc :: .ref msT :: .ref mrV :: .ref msP :: .int v21_mqs :: .ref mrA :: .ref mbA :: .ref mwA :: .ref mhA :: .ref mfA :: .ref mpA :: .ref mxA :: .ref myA :: .ref mmA :: .ref mqA :: .ref mzA :: .ref mwy :: .ref mfd :: .int (nI s9) :: .int (nI s9) :: .int v7 :: .int (-1) :: .int mpt :: .int mdp :: .int x21_1 :: .long mnw :: .int mmk :: [])))) H108 := hP
              have hD3 : va_D A (G_59.set i_56 (mo, .inr (12, (.int mer :: .int mfed :: .int mwr :: .int (nI K9) :: .int (nI KL) :: .ref moc :: .ref msT :: .ref mrV :: .ref msP :: .int v21_mqs :: .ref mrA :: .ref mbA :: .ref mwA :: .ref mhA :: .ref mfA :: .ref mpA :: .ref mxA :: .ref myA :: .ref mmA :: .ref mqA :: .ref mzA :: .ref mwy :: .ref mfd :: .int (nI s9) :: .int (nI s9) :: .int v7 :: .int (-1) :: .int mpt :: .int mdp :: .int x21_1 :: .long mnw :: .int mmk :: [])))) := hD2
              have hTy := TR.setX (c' := .inr (12, (.int mer :: .int mfed :: .int mwr :: .int (nI K9) :: .int (nI KL) :: .ref moc :: .ref msT :: .ref mrV :: .ref msP :: .int v21_mqs :: .ref mrA :: .ref mbA :: .ref mwA :: .ref mhA :: .ref mfA :: .ref mpA :: .ref mxA :: .ref myA :: .ref mmA :: .ref mqA :: .ref mzA :: .ref mwy :: .ref mfd :: .int (nI s9) :: .int (nI s9) :: .int v7 :: .int (-1) :: .int mpt :: .int mdp :: .int x21_1 :: .long mnw :: .int mmk :: []))) hTy hg_56 kmo.1
              have kmmA := Xc.setX (c' := .inr (12, (.int mer :: .int mfed :: .int mwr :: .int (nI K9) :: .int (nI KL) :: .ref moc :: .ref msT :: .ref mrV :: .ref msP :: .int v21_mqs :: .ref mrA :: .ref mbA :: .ref mwA :: .ref mhA :: .ref mfA :: .ref mpA :: .ref mxA :: .ref myA :: .ref mmA :: .ref mqA :: .ref mzA :: .ref mwy :: .ref mfd :: .int (nI s9) :: .int (nI s9) :: .int v7 :: .int (-1) :: .int mpt :: .int mdp :: .int x21_1 :: .long mnw :: .int mmk :: []))) kmmA hg_56 (fun e => hx_mo_mmA.symm (congrArg Prod.fst e))
              have kmrA := Xc.setX (c' := .inr (12, (.int mer :: .int mfed :: .int mwr :: .int (nI K9) :: .int (nI KL) :: .ref moc :: .ref msT :: .ref mrV :: .ref msP :: .int v21_mqs :: .ref mrA :: .ref mbA :: .ref mwA :: .ref mhA :: .ref mfA :: .ref mpA :: .ref mxA :: .ref myA :: .ref mmA :: .ref mqA :: .ref mzA :: .ref mwy :: .ref mfd :: .int (nI s9) :: .int (nI s9) :: .int v7 :: .int (-1) :: .int mpt :: .int mdp :: .int x21_1 :: .long mnw :: .int mmk :: []))) kmrA hg_56 (fun e => hx_mo_mrA.symm (congrArg Prod.fst e))
              have kmwy := Xc.setX (c' := .inr (12, (.int mer :: .int mfed :: .int mwr :: .int (nI K9) :: .int (nI KL) :: .ref moc :: .ref msT :: .ref mrV :: .ref msP :: .int v21_mqs :: .ref mrA :: .ref mbA :: .ref mwA :: .ref mhA :: .ref mfA :: .ref mpA :: .ref mxA :: .ref myA :: .ref mmA :: .ref mqA :: .ref mzA :: .ref mwy :: .ref mfd :: .int (nI s9) :: .int (nI s9) :: .int v7 :: .int (-1) :: .int mpt :: .int mdp :: .int x21_1 :: .long mnw :: .int mmk :: []))) kmwy hg_56 (fun e => hx_mo_mwy.symm (congrArg Prod.fst e))
              have kmsT := Xc.setX (c' := .inr (12, (.int mer :: .int mfed :: .int mwr :: .int (nI K9) :: .int (nI KL) :: .ref moc :: .ref msT :: .ref mrV :: .ref msP :: .int v21_mqs :: .ref mrA :: .ref mbA :: .ref mwA :: .ref mhA :: .ref mfA :: .ref mpA :: .ref mxA :: .ref myA :: .ref mmA :: .ref mqA :: .ref mzA :: .ref mwy :: .ref mfd :: .int (nI s9) :: .int (nI s9) :: .int v7 :: .int (-1) :: .int mpt :: .int mdp :: .int x21_1 :: .long mnw :: .int mmk :: []))) kmsT hg_56 (fun e => hx_mo_msT.symm (congrArg Prod.fst e))
              have kmrV := Xc.setX (c' := .inr (12, (.int mer :: .int mfed :: .int mwr :: .int (nI K9) :: .int (nI KL) :: .ref moc :: .ref msT :: .ref mrV :: .ref msP :: .int v21_mqs :: .ref mrA :: .ref mbA :: .ref mwA :: .ref mhA :: .ref mfA :: .ref mpA :: .ref mxA :: .ref myA :: .ref mmA :: .ref mqA :: .ref mzA :: .ref mwy :: .ref mfd :: .int (nI s9) :: .int (nI s9) :: .int v7 :: .int (-1) :: .int mpt :: .int mdp :: .int x21_1 :: .long mnw :: .int mmk :: []))) kmrV hg_56 (fun e => hx_mo_mrV.symm (congrArg Prod.fst e))
              have hFR := hFR.tr (FL.set (Ad := Ad) (X := [mo, mmA, mrA]) (c' := .inr (12, (.int mer :: .int mfed :: .int mwr :: .int (nI K9) :: .int (nI KL) :: .ref moc :: .ref msT :: .ref mrV :: .ref msP :: .int v21_mqs :: .ref mrA :: .ref mbA :: .ref mwA :: .ref mhA :: .ref mfA :: .ref mpA :: .ref mxA :: .ref myA :: .ref mmA :: .ref mqA :: .ref mzA :: .ref mwy :: .ref mfd :: .int (nI s9) :: .int (nI s9) :: .int v7 :: .int (-1) :: .int mpt :: .int mdp :: .int x21_1 :: .long mnw :: .int mmk :: []))) hg_56 (by simp))
              have hg_56 := set_here (c' := .inr (12, (.int mer :: .int mfed :: .int mwr :: .int (nI K9) :: .int (nI KL) :: .ref moc :: .ref msT :: .ref mrV :: .ref msP :: .int v21_mqs :: .ref mrA :: .ref mbA :: .ref mwA :: .ref mhA :: .ref mfA :: .ref mpA :: .ref mxA :: .ref myA :: .ref mmA :: .ref mqA :: .ref mzA :: .ref mwy :: .ref mfd :: .int (nI s9) :: .int (nI s9) :: .int v7 :: .int (-1) :: .int mpt :: .int mdp :: .int x21_1 :: .long mnw :: .int mmk :: []))) hg_56
              have kmo : Xc Ad mo (.inr (12, (.int mer :: .int mfed :: .int mwr :: .int (nI K9) :: .int (nI KL) :: .ref moc :: .ref msT :: .ref mrV :: .ref msP :: .int v21_mqs :: .ref mrA :: .ref mbA :: .ref mwA :: .ref mhA :: .ref mfA :: .ref mpA :: .ref mxA :: .ref myA :: .ref mmA :: .ref mqA :: .ref mzA :: .ref mwy :: .ref mfd :: .int (nI s9) :: .int (nI s9) :: .int v7 :: .int (-1) :: .int mpt :: .int mdp :: .int x21_1 :: .long mnw :: .int mmk :: []))) (G_59.set i_56 (mo, .inr (12, (.int mer :: .int mfed :: .int mwr :: .int (nI K9) :: .int (nI KL) :: .ref moc :: .ref msT :: .ref mrV :: .ref msP :: .int v21_mqs :: .ref mrA :: .ref mbA :: .ref mwA :: .ref mhA :: .ref mfA :: .ref mpA :: .ref mxA :: .ref myA :: .ref mmA :: .ref mqA :: .ref mzA :: .ref mwy :: .ref mfd :: .int (nI s9) :: .int (nI s9) :: .int v7 :: .int (-1) :: .int mpt :: .int mdp :: .int x21_1 :: .long mnw :: .int mmk :: [])))) := ⟨kmo.1, List.mem_of_getElem? hg_56⟩
              have hD := hD3
              clear hD3 hD2
              generalize G_59.set i_56 (mo, .inr (12, (.int mer :: .int mfed :: .int mwr :: .int (nI K9) :: .int (nI KL) :: .ref moc :: .ref msT :: .ref mrV :: .ref msP :: .int v21_mqs :: .ref mrA :: .ref mbA :: .ref mwA :: .ref mhA :: .ref mfA :: .ref mpA :: .ref mxA :: .ref myA :: .ref mmA :: .ref mqA :: .ref mzA :: .ref mwy :: .ref mfd :: .int (nI s9) :: .int (nI s9) :: .int v7 :: .int (-1) :: .int mpt :: .int mdp :: .int x21_1 :: .long mnw :: .int mmk :: []))) = G_63 at hP hD hTy hFR kmo kmmA kmrA kmwy kmsT kmrV hg_56
              obtain ⟨cX_64, eX_64⟩ : ∃ z : va_E, z = .inr (12, (.int mer :: .int mfed :: .int mwr :: .int (nI K9) :: .int (nI KL) :: .ref moc :: .ref msT :: .ref mrV :: .ref msP :: .int v21_mqs :: .ref mrA :: .ref mbA :: .ref mwA :: .ref mhA :: .ref mfA :: .ref mpA :: .ref mxA :: .ref myA :: .ref mmA :: .ref mqA :: .ref mzA :: .ref mwy :: .ref mfd :: .int (nI s9) :: .int (nI s9) :: .int v7 :: .int (-1) :: .int mpt :: .int mdp :: .int x21_1 :: .long mnw :: .int mmk :: [])) := ⟨_, rfl⟩
              rw [← eX_64] at kmo
              refine lv_iload_n hx hb d_Model_judged_111 rfl (lv_at hl 2 rfl) ?_
              refine lv_if_ne (tgt := 119) hx hb d_Model_judged_112 (by decide) (fun c112 => ?_) (fun c112 => ?_)
              · have p112 : ¬ (x21_1 = (0 : Int32)) := c112
                refine lv_iconst (v := 0) hx hb d_Model_judged_119 (by decide) ?_
                exact W.zret (v := 0) hx hb hr rfl (fun t ht hW => ⟨⟨_, G_63, rfl, ⟨hTy, hFR, bz_f (by decide), ⟨_, _, _, _, s9, by omega, by rw [eX_64] at kmo; exact kmo⟩, ⟨_, hfm, kmmA⟩, ⟨_, hfr, kmrA⟩⟩, by rw [ht]; exact hP, va_K.moved hW.alike hK, hD⟩, hS.F ht⟩) hS.2.2 d_Model_judged_120
              · have p112 : x21_1 = (0 : Int32) := c112
                refine lv_iconst (v := 1) hx hb d_Model_judged_115 (by decide) ?_
                refine lv_goto (tgt := 120) hx hb d_Model_judged_116 (by decide) ?_
                exact W.zret (v := 1) hx hb hr rfl (fun t ht hW => ⟨⟨_, G_63, rfl, ⟨hTy, hFR, bz_t rfl, ⟨_, _, _, _, s9, by omega, by rw [eX_64] at kmo; exact kmo⟩, ⟨_, hfm, kmmA⟩, ⟨_, hfr, kmrA⟩⟩, by rw [ht]; exact hP, va_K.moved hW.alike hK, hD⟩, hS.F ht⟩) hS.2.2 d_Model_judged_120
          · have p64 : ¬ (s9 ≤ z59) := (fun q9 => c64 ((nI_leI (a := s9) (b := z59) (by omega) (by omega)).mpr q9))
            refine lv_aload_n hx hb d_Model_judged_67 rfl (lv_at hl 3 rfl) ?_
            refine va_get (v := .ref mfd) hx hb htb i_Model hown hK hP i_56 hg_56 rfl 22 (by decide) (htb _ q7_236) (fun _ h9 => h9) rfl d_Model_judged_68 ?_
            refine lv_iload_n hx hb d_Model_judged_71 rfl (lv_at hl 0 rfl) ?_
            refine lv_aload_n hx hb d_Model_judged_72 rfl (lv_at hl 3 rfl) ?_
            refine va_get (v := .ref mwy) hx hb htb i_Model hown hK hP i_56 hg_56 rfl 21 (by decide) (htb _ q7_235) (fun _ h9 => h9) rfl d_Model_judged_73 ?_
            refine lv_iload_n hx hb d_Model_judged_76 rfl (lv_at hl 0 rfl) ?_
            obtain ⟨i_65, hg_65⟩ := List.getElem?_of_mem kmwy.2
            have h77 : vp_in (nI z59) 16 := vp_in_nI (by omega) (by omega)
            refine va_iald hx hb hK hP i_65 1 hg_65 rfl h77 d_Model_judged_77 ?_
            refine lv_topi (fun e77 he77 => ?_)
            obtain ⟨cw77, hc1_77, hc2_77⟩ := hway z59 (by omega)
            rw [nI_clamp (by omega), hc2_77] at he77
            subst he77
            obtain ⟨i_66, f_66, hn_66, hg_66⟩ := tr_6 hTy kmfd
            have h78 : vp_in (nI z59) 16 := vp_in_nI (by omega) (by omega)
            refine va_iast hx hb hK hP hD hS i_66 1 hg_66 rfl h78 d_Model_judged_78 (fun H78 locs hP hD2 hS => ?_)
            have hP : va_P (dC, dI) classes (G59.set i_66 (mfd, .inl (γ.2.1, 16, .inl (upd f_66 (nI z59).toNatClampNeg (nI cw77))))) H78 := hP
            have hD3 : va_D A (G59.set i_66 (mfd, .inl (γ.2.1, 16, .inl (upd f_66 (nI z59).toNatClampNeg (nI cw77))))) := hD2
            have hF1 := FR.set (c' := .inl (γ.2.1, 16, .inl (upd f_66 (nI z59).toNatClampNeg (nI cw77)))) hg_66 kmfd.1
            have kmo := kmo.fr hF1
            have kmmA := kmmA.fr hF1
            have kmrA := kmrA.fr hF1
            have kmwy := kmwy.fr hF1
            have kmsT := kmsT.fr hF1
            have kmrV := kmrV.fr hF1
            have hFR := hFR.tr hF1.l
            clear hF1
            have hTy := TR.set (c' := .inl (γ.2.1, 16, .inl (upd f_66 (nI z59).toNatClampNeg (nI cw77)))) hTy hg_66 (okr_6 kmfd hn_66 _)
            have hD := hD3
            clear hD3 hD2
            generalize G59.set i_66 (mfd, .inl (γ.2.1, 16, .inl (upd f_66 (nI z59).toNatClampNeg (nI cw77)))) = G_67 at hP hD hTy hFR kmo kmmA kmrA kmwy kmsT kmrV 
            refine lv_iinc (v := nI (z59 + 1)) (lv' := [(3, .int (nI (z59 + 1))), (2, .int x21_2), (1, .int x21_1), (0, .ref mo)]) hx hb d_Model_judged_79 hl (k := 0) rfl (nI_1 _) (by decide) rfl (fun ls hl => ?_)
            refine lv_goto (tgt := 59) hx hb d_Model_judged_82 (by decide) ?_
            exact ih59 (z59 + 1, G_67) _ _ ls (by dsimp only; omega) ⟨by dsimp only; omega, by dsimp only; omega, hTy, hFR, kmo, kmmA, kmrA, kmwy, kmsT, kmrV⟩ hP hD hS (lv_sub hl [0, 1, 2, 3, 4] rfl)
        · have p44 : ¬ (x21_1 = (0 : Int32)) := c44
          refine lv_aload_n hx hb d_Model_judged_47 rfl (lv_at hl 3 rfl) ?_
          obtain ⟨i_68, hg_68⟩ := List.getElem?_of_mem kmo.2
          rw [eX_30] at hg_68
          refine va_get (v := .int v7) hx hb htb i_Model hown hK hP i_68 hg_68 rfl 25 (by decide) (htb _ q7_239) (fun _ h9 => h9) rfl d_Model_judged_48 ?_
          refine lv_iconst (v := 1) hx hb d_Model_judged_51 (by decide) ?_
          refine lv_icmp_le (tgt := 57) hx hb d_Model_judged_52 (by decide) (fun c52 => ?_) (fun c52 => ?_)
          · have p52 : v7 ≤ (1 : Int32) := c52
            refine lv_iconst (v := 0) hx hb d_Model_judged_57 (by decide) ?_
            refine lv_istore_n (lv' := [(3, .int 0), (2, .int x21_2), (1, .int x21_1), (0, .ref mo)]) hx hb d_Model_judged_58 rfl hl (by decide) rfl (fun ls hl => ?_)
            refine w_loopW (α := Nat × va_W) (fun a9 => 0 ≤ a9.1 ∧ a9.1 ≤ s9 ∧ TR γ κ Ad τ a9.2 ∧ FL Ad [mo, mmA, mrA] G a9.2 ∧ Xc Ad mo cX_30 a9.2 ∧ Xc Ad mmA (.inl (γ.2.1, 600, .inl f21_mmA)) a9.2 ∧ Xc Ad mrA (.inl (γ.2.1, 600, .inl f21_mrA)) a9.2 ∧ Xc Ad mwy (.inl (γ.2.1, 16, .inl fw)) a9.2 ∧ Xc Ad msT (.inl (gT, 16, .inr (.inr (.inr (.inr fS))))) a9.2 ∧ Xc Ad mrV (.inl (gT, 8, .inr (.inr (.inr (.inr fV))))) a9.2) (fun a9 => s9 - a9.1) (fun a9 => [(3, .int (nI a9.1)), (2, .int x21_2), (1, .int x21_1), (0, .ref mo)]) (fun _ => []) (fun a9 => a9.2) 4 59 (fun a9 HL59 locs ls hJ hP hD hS hl ih59 => ?_) (0, G21) _ _ ls ⟨by omega, by omega, hTy, hFR, kmo, kmmA, kmrA, kmwy, kmsT, kmrV⟩ hP hD hS (lv_sub hl [0, 1, 2, 3, 4] rfl)
            obtain ⟨z59, G59⟩ := a9
            obtain ⟨hy59, hz59, hTy, hFR, kmo, kmmA, kmrA, kmwy, kmsT, kmrV⟩ := hJ
            dsimp only at hy59 hz59 hTy hFR kmo kmmA kmrA kmwy kmsT kmrV hP hD hl ih59
            refine lv_iload_n hx hb d_Model_judged_59 rfl (lv_at hl 0 rfl) ?_
            refine lv_aload_n hx hb d_Model_judged_60 rfl (lv_at hl 3 rfl) ?_
            obtain ⟨i_69, hg_69⟩ := List.getElem?_of_mem kmo.2
            rw [eX_30] at hg_69
            refine va_get (v := .int (nI s9)) hx hb htb i_Model hown hK hP i_69 hg_69 rfl 23 (by decide) (htb _ q7_237) (fun _ h9 => h9) rfl d_Model_judged_61 ?_
            refine lv_icmp_ge (tgt := 85) hx hb d_Model_judged_64 (by decide) (fun c64 => ?_) (fun c64 => ?_)
            · have p64 : s9 ≤ z59 := ((nI_leI (a := s9) (b := z59) (by omega) (by omega)).mp c64)
              refine lv_aload_n hx hb d_Model_judged_85 rfl (lv_at hl 3 rfl) ?_
              refine lv_aload_n hx hb d_Model_judged_86 rfl (lv_at hl 3 rfl) ?_
              refine va_get (v := .int (nI s9)) hx hb htb i_Model hown hK hP i_69 hg_69 rfl 23 (by decide) (htb _ q7_237) (fun _ h9 => h9) rfl d_Model_judged_87 ?_
              refine va_put (v := .int (nI s9)) (ty := .int) hx hb htb i_Model t_Model t_Model_ok n_Model hown hK hP hD hS i_69 hg_69 rfl 24 (by decide) (htb _ q7_238) (fun _ h9 => h9) rfl (by decide +kernel) rfl rfl (Nat.le_of_ble_eq_true rfl) d_Model_judged_90 (fun H90 locs hP hD2 hS => ?_)
              have hP : va_P (dC, dI) classes (G59.set i_69 (mo, .inr (12, (.int mer :: .int mfed :: .int mwr :: .int (nI K9) :: .int (nI KL) :: .ref moc :: .ref msT :: .ref mrV :: .ref msP :: .int v21_mqs :: .ref mrA :: .ref mbA :: .ref mwA :: .ref mhA :: .ref mfA :: .ref mpA :: .ref mxA :: .ref myA :: .ref mmA :: .ref mqA :: .ref mzA :: .ref mwy :: .ref mfd :: .int (nI s9) :: .int (nI s9) :: .int v7 :: .int mft :: .int mpt :: .int mdp :: .int mvd :: .long mnw :: .int mmk :: [])))) H90 := hP
              have hD3 : va_D A (G59.set i_69 (mo, .inr (12, (.int mer :: .int mfed :: .int mwr :: .int (nI K9) :: .int (nI KL) :: .ref moc :: .ref msT :: .ref mrV :: .ref msP :: .int v21_mqs :: .ref mrA :: .ref mbA :: .ref mwA :: .ref mhA :: .ref mfA :: .ref mpA :: .ref mxA :: .ref myA :: .ref mmA :: .ref mqA :: .ref mzA :: .ref mwy :: .ref mfd :: .int (nI s9) :: .int (nI s9) :: .int v7 :: .int mft :: .int mpt :: .int mdp :: .int mvd :: .long mnw :: .int mmk :: [])))) := hD2
              have hTy := TR.setX (c' := .inr (12, (.int mer :: .int mfed :: .int mwr :: .int (nI K9) :: .int (nI KL) :: .ref moc :: .ref msT :: .ref mrV :: .ref msP :: .int v21_mqs :: .ref mrA :: .ref mbA :: .ref mwA :: .ref mhA :: .ref mfA :: .ref mpA :: .ref mxA :: .ref myA :: .ref mmA :: .ref mqA :: .ref mzA :: .ref mwy :: .ref mfd :: .int (nI s9) :: .int (nI s9) :: .int v7 :: .int mft :: .int mpt :: .int mdp :: .int mvd :: .long mnw :: .int mmk :: []))) hTy hg_69 kmo.1
              have kmmA := Xc.setX (c' := .inr (12, (.int mer :: .int mfed :: .int mwr :: .int (nI K9) :: .int (nI KL) :: .ref moc :: .ref msT :: .ref mrV :: .ref msP :: .int v21_mqs :: .ref mrA :: .ref mbA :: .ref mwA :: .ref mhA :: .ref mfA :: .ref mpA :: .ref mxA :: .ref myA :: .ref mmA :: .ref mqA :: .ref mzA :: .ref mwy :: .ref mfd :: .int (nI s9) :: .int (nI s9) :: .int v7 :: .int mft :: .int mpt :: .int mdp :: .int mvd :: .long mnw :: .int mmk :: []))) kmmA hg_69 (fun e => hx_mo_mmA.symm (congrArg Prod.fst e))
              have kmrA := Xc.setX (c' := .inr (12, (.int mer :: .int mfed :: .int mwr :: .int (nI K9) :: .int (nI KL) :: .ref moc :: .ref msT :: .ref mrV :: .ref msP :: .int v21_mqs :: .ref mrA :: .ref mbA :: .ref mwA :: .ref mhA :: .ref mfA :: .ref mpA :: .ref mxA :: .ref myA :: .ref mmA :: .ref mqA :: .ref mzA :: .ref mwy :: .ref mfd :: .int (nI s9) :: .int (nI s9) :: .int v7 :: .int mft :: .int mpt :: .int mdp :: .int mvd :: .long mnw :: .int mmk :: []))) kmrA hg_69 (fun e => hx_mo_mrA.symm (congrArg Prod.fst e))
              have kmwy := Xc.setX (c' := .inr (12, (.int mer :: .int mfed :: .int mwr :: .int (nI K9) :: .int (nI KL) :: .ref moc :: .ref msT :: .ref mrV :: .ref msP :: .int v21_mqs :: .ref mrA :: .ref mbA :: .ref mwA :: .ref mhA :: .ref mfA :: .ref mpA :: .ref mxA :: .ref myA :: .ref mmA :: .ref mqA :: .ref mzA :: .ref mwy :: .ref mfd :: .int (nI s9) :: .int (nI s9) :: .int v7 :: .int mft :: .int mpt :: .int mdp :: .int mvd :: .long mnw :: .int mmk :: []))) kmwy hg_69 (fun e => hx_mo_mwy.symm (congrArg Prod.fst e))
              have kmsT := Xc.setX (c' := .inr (12, (.int mer :: .int mfed :: .int mwr :: .int (nI K9) :: .int (nI KL) :: .ref moc :: .ref msT :: .ref mrV :: .ref msP :: .int v21_mqs :: .ref mrA :: .ref mbA :: .ref mwA :: .ref mhA :: .ref mfA :: .ref mpA :: .ref mxA :: .ref myA :: .ref mmA :: .ref mqA :: .ref mzA :: .ref mwy :: .ref mfd :: .int (nI s9) :: .int (nI s9) :: .int v7 :: .int mft :: .int mpt :: .int mdp :: .int mvd :: .long mnw :: .int mmk :: []))) kmsT hg_69 (fun e => hx_mo_msT.symm (congrArg Prod.fst e))
              have kmrV := Xc.setX (c' := .inr (12, (.int mer :: .int mfed :: .int mwr :: .int (nI K9) :: .int (nI KL) :: .ref moc :: .ref msT :: .ref mrV :: .ref msP :: .int v21_mqs :: .ref mrA :: .ref mbA :: .ref mwA :: .ref mhA :: .ref mfA :: .ref mpA :: .ref mxA :: .ref myA :: .ref mmA :: .ref mqA :: .ref mzA :: .ref mwy :: .ref mfd :: .int (nI s9) :: .int (nI s9) :: .int v7 :: .int mft :: .int mpt :: .int mdp :: .int mvd :: .long mnw :: .int mmk :: []))) kmrV hg_69 (fun e => hx_mo_mrV.symm (congrArg Prod.fst e))
              have hFR := hFR.tr (FL.set (Ad := Ad) (X := [mo, mmA, mrA]) (c' := .inr (12, (.int mer :: .int mfed :: .int mwr :: .int (nI K9) :: .int (nI KL) :: .ref moc :: .ref msT :: .ref mrV :: .ref msP :: .int v21_mqs :: .ref mrA :: .ref mbA :: .ref mwA :: .ref mhA :: .ref mfA :: .ref mpA :: .ref mxA :: .ref myA :: .ref mmA :: .ref mqA :: .ref mzA :: .ref mwy :: .ref mfd :: .int (nI s9) :: .int (nI s9) :: .int v7 :: .int mft :: .int mpt :: .int mdp :: .int mvd :: .long mnw :: .int mmk :: []))) hg_69 (by simp))
              have hg_69 := set_here (c' := .inr (12, (.int mer :: .int mfed :: .int mwr :: .int (nI K9) :: .int (nI KL) :: .ref moc :: .ref msT :: .ref mrV :: .ref msP :: .int v21_mqs :: .ref mrA :: .ref mbA :: .ref mwA :: .ref mhA :: .ref mfA :: .ref mpA :: .ref mxA :: .ref myA :: .ref mmA :: .ref mqA :: .ref mzA :: .ref mwy :: .ref mfd :: .int (nI s9) :: .int (nI s9) :: .int v7 :: .int mft :: .int mpt :: .int mdp :: .int mvd :: .long mnw :: .int mmk :: []))) hg_69
              have kmo : Xc Ad mo (.inr (12, (.int mer :: .int mfed :: .int mwr :: .int (nI K9) :: .int (nI KL) :: .ref moc :: .ref msT :: .ref mrV :: .ref msP :: .int v21_mqs :: .ref mrA :: .ref mbA :: .ref mwA :: .ref mhA :: .ref mfA :: .ref mpA :: .ref mxA :: .ref myA :: .ref mmA :: .ref mqA :: .ref mzA :: .ref mwy :: .ref mfd :: .int (nI s9) :: .int (nI s9) :: .int v7 :: .int mft :: .int mpt :: .int mdp :: .int mvd :: .long mnw :: .int mmk :: []))) (G59.set i_69 (mo, .inr (12, (.int mer :: .int mfed :: .int mwr :: .int (nI K9) :: .int (nI KL) :: .ref moc :: .ref msT :: .ref mrV :: .ref msP :: .int v21_mqs :: .ref mrA :: .ref mbA :: .ref mwA :: .ref mhA :: .ref mfA :: .ref mpA :: .ref mxA :: .ref myA :: .ref mmA :: .ref mqA :: .ref mzA :: .ref mwy :: .ref mfd :: .int (nI s9) :: .int (nI s9) :: .int v7 :: .int mft :: .int mpt :: .int mdp :: .int mvd :: .long mnw :: .int mmk :: [])))) := ⟨kmo.1, List.mem_of_getElem? hg_69⟩
              have hD := hD3
              clear hD3 hD2
              generalize G59.set i_69 (mo, .inr (12, (.int mer :: .int mfed :: .int mwr :: .int (nI K9) :: .int (nI KL) :: .ref moc :: .ref msT :: .ref mrV :: .ref msP :: .int v21_mqs :: .ref mrA :: .ref mbA :: .ref mwA :: .ref mhA :: .ref mfA :: .ref mpA :: .ref mxA :: .ref myA :: .ref mmA :: .ref mqA :: .ref mzA :: .ref mwy :: .ref mfd :: .int (nI s9) :: .int (nI s9) :: .int v7 :: .int mft :: .int mpt :: .int mdp :: .int mvd :: .long mnw :: .int mmk :: []))) = G_70 at hP hD hTy hFR kmo kmmA kmrA kmwy kmsT kmrV hg_69
              obtain ⟨cX_71, eX_71⟩ : ∃ z : va_E, z = .inr (12, (.int mer :: .int mfed :: .int mwr :: .int (nI K9) :: .int (nI KL) :: .ref moc :: .ref msT :: .ref mrV :: .ref msP :: .int v21_mqs :: .ref mrA :: .ref mbA :: .ref mwA :: .ref mhA :: .ref mfA :: .ref mpA :: .ref mxA :: .ref myA :: .ref mmA :: .ref mqA :: .ref mzA :: .ref mwy :: .ref mfd :: .int (nI s9) :: .int (nI s9) :: .int v7 :: .int mft :: .int mpt :: .int mdp :: .int mvd :: .long mnw :: .int mmk :: [])) := ⟨_, rfl⟩
              rw [← eX_71] at kmo
              refine lv_aload_n hx hb d_Model_judged_93 rfl (lv_at hl 3 rfl) ?_
              refine lv_iload_n hx hb d_Model_judged_94 rfl (lv_at hl 2 rfl) ?_
              refine va_put (v := .int x21_1) (ty := .int) hx hb htb i_Model t_Model t_Model_ok n_Model hown hK hP hD hS i_69 hg_69 rfl 29 (by decide) (htb _ q8_3) (fun _ h9 => h9) rfl (by decide +kernel) rfl rfl (Nat.le_of_ble_eq_true rfl) d_Model_judged_95 (fun H95 locs hP hD2 hS => ?_)
              have hP : va_P (dC, dI) classes (G_70.set i_69 (mo, .inr (12, (.int mer :: .int mfed :: .int mwr :: .int (nI K9) :: .int (nI KL) :: .ref moc :: .ref msT :: .ref mrV :: .ref msP :: .int v21_mqs :: .ref mrA :: .ref mbA :: .ref mwA :: .ref mhA :: .ref mfA :: .ref mpA :: .ref mxA :: .ref myA :: .ref mmA :: .ref mqA :: .ref mzA :: .ref mwy :: .ref mfd :: .int (nI s9) :: .int (nI s9) :: .int v7 :: .int mft :: .int mpt :: .int mdp :: .int x21_1 :: .long mnw :: .int mmk :: [])))) H95 := hP
              have hD3 : va_D A (G_70.set i_69 (mo, .inr (12, (.int mer :: .int mfed :: .int mwr :: .int (nI K9) :: .int (nI KL) :: .ref moc :: .ref msT :: .ref mrV :: .ref msP :: .int v21_mqs :: .ref mrA :: .ref mbA :: .ref mwA :: .ref mhA :: .ref mfA :: .ref mpA :: .ref mxA :: .ref myA :: .ref mmA :: .ref mqA :: .ref mzA :: .ref mwy :: .ref mfd :: .int (nI s9) :: .int (nI s9) :: .int v7 :: .int mft :: .int mpt :: .int mdp :: .int x21_1 :: .long mnw :: .int mmk :: [])))) := hD2
              have hTy := TR.setX (c' := .inr (12, (.int mer :: .int mfed :: .int mwr :: .int (nI K9) :: .int (nI KL) :: .ref moc :: .ref msT :: .ref mrV :: .ref msP :: .int v21_mqs :: .ref mrA :: .ref mbA :: .ref mwA :: .ref mhA :: .ref mfA :: .ref mpA :: .ref mxA :: .ref myA :: .ref mmA :: .ref mqA :: .ref mzA :: .ref mwy :: .ref mfd :: .int (nI s9) :: .int (nI s9) :: .int v7 :: .int mft :: .int mpt :: .int mdp :: .int x21_1 :: .long mnw :: .int mmk :: []))) hTy hg_69 kmo.1
              have kmmA := Xc.setX (c' := .inr (12, (.int mer :: .int mfed :: .int mwr :: .int (nI K9) :: .int (nI KL) :: .ref moc :: .ref msT :: .ref mrV :: .ref msP :: .int v21_mqs :: .ref mrA :: .ref mbA :: .ref mwA :: .ref mhA :: .ref mfA :: .ref mpA :: .ref mxA :: .ref myA :: .ref mmA :: .ref mqA :: .ref mzA :: .ref mwy :: .ref mfd :: .int (nI s9) :: .int (nI s9) :: .int v7 :: .int mft :: .int mpt :: .int mdp :: .int x21_1 :: .long mnw :: .int mmk :: []))) kmmA hg_69 (fun e => hx_mo_mmA.symm (congrArg Prod.fst e))
              have kmrA := Xc.setX (c' := .inr (12, (.int mer :: .int mfed :: .int mwr :: .int (nI K9) :: .int (nI KL) :: .ref moc :: .ref msT :: .ref mrV :: .ref msP :: .int v21_mqs :: .ref mrA :: .ref mbA :: .ref mwA :: .ref mhA :: .ref mfA :: .ref mpA :: .ref mxA :: .ref myA :: .ref mmA :: .ref mqA :: .ref mzA :: .ref mwy :: .ref mfd :: .int (nI s9) :: .int (nI s9) :: .int v7 :: .int mft :: .int mpt :: .int mdp :: .int x21_1 :: .long mnw :: .int mmk :: []))) kmrA hg_69 (fun e => hx_mo_mrA.symm (congrArg Prod.fst e))
              have kmwy := Xc.setX (c' := .inr (12, (.int mer :: .int mfed :: .int mwr :: .int (nI K9) :: .int (nI KL) :: .ref moc :: .ref msT :: .ref mrV :: .ref msP :: .int v21_mqs :: .ref mrA :: .ref mbA :: .ref mwA :: .ref mhA :: .ref mfA :: .ref mpA :: .ref mxA :: .ref myA :: .ref mmA :: .ref mqA :: .ref mzA :: .ref mwy :: .ref mfd :: .int (nI s9) :: .int (nI s9) :: .int v7 :: .int mft :: .int mpt :: .int mdp :: .int x21_1 :: .long mnw :: .int mmk :: []))) kmwy hg_69 (fun e => hx_mo_mwy.symm (congrArg Prod.fst e))
              have kmsT := Xc.setX (c' := .inr (12, (.int mer :: .int mfed :: .int mwr :: .int (nI K9) :: .int (nI KL) :: .ref moc :: .ref msT :: .ref mrV :: .ref msP :: .int v21_mqs :: .ref mrA :: .ref mbA :: .ref mwA :: .ref mhA :: .ref mfA :: .ref mpA :: .ref mxA :: .ref myA :: .ref mmA :: .ref mqA :: .ref mzA :: .ref mwy :: .ref mfd :: .int (nI s9) :: .int (nI s9) :: .int v7 :: .int mft :: .int mpt :: .int mdp :: .int x21_1 :: .long mnw :: .int mmk :: []))) kmsT hg_69 (fun e => hx_mo_msT.symm (congrArg Prod.fst e))
              have kmrV := Xc.setX (c' := .inr (12, (.int mer :: .int mfed :: .int mwr :: .int (nI K9) :: .int (nI KL) :: .ref moc :: .ref msT :: .ref mrV :: .ref msP :: .int v21_mqs :: .ref mrA :: .ref mbA :: .ref mwA :: .ref mhA :: .ref mfA :: .ref mpA :: .ref mxA :: .ref myA :: .ref mmA :: .ref mqA :: .ref mzA :: .ref mwy :: .ref mfd :: .int (nI s9) :: .int (nI s9) :: .int v7 :: .int mft :: .int mpt :: .int mdp :: .int x21_1 :: .long mnw :: .int mmk :: []))) kmrV hg_69 (fun e => hx_mo_mrV.symm (congrArg Prod.fst e))
              have hFR := hFR.tr (FL.set (Ad := Ad) (X := [mo, mmA, mrA]) (c' := .inr (12, (.int mer :: .int mfed :: .int mwr :: .int (nI K9) :: .int (nI KL) :: .ref moc :: .ref msT :: .ref mrV :: .ref msP :: .int v21_mqs :: .ref mrA :: .ref mbA :: .ref mwA :: .ref mhA :: .ref mfA :: .ref mpA :: .ref mxA :: .ref myA :: .ref mmA :: .ref mqA :: .ref mzA :: .ref mwy :: .ref mfd :: .int (nI s9) :: .int (nI s9) :: .int v7 :: .int mft :: .int mpt :: .int mdp :: .int x21_1 :: .long mnw :: .int mmk :: []))) hg_69 (by simp))
              have hg_69 := set_here (c' := .inr (12, (.int mer :: .int mfed :: .int mwr :: .int (nI K9) :: .int (nI KL) :: .ref moc :: .ref msT :: .ref mrV :: .ref msP :: .int v21_mqs :: .ref mrA :: .ref mbA :: .ref mwA :: .ref mhA :: .ref mfA :: .ref mpA :: .ref mxA :: .ref myA :: .ref mmA :: .ref mqA :: .ref mzA :: .ref mwy :: .ref mfd :: .int (nI s9) :: .int (nI s9) :: .int v7 :: .int mft :: .int mpt :: .int mdp :: .int x21_1 :: .long mnw :: .int mmk :: []))) hg_69
              have kmo : Xc Ad mo (.inr (12, (.int mer :: .int mfed :: .int mwr :: .int (nI K9) :: .int (nI KL) :: .ref moc :: .ref msT :: .ref mrV :: .ref msP :: .int v21_mqs :: .ref mrA :: .ref mbA :: .ref mwA :: .ref mhA :: .ref mfA :: .ref mpA :: .ref mxA :: .ref myA :: .ref mmA :: .ref mqA :: .ref mzA :: .ref mwy :: .ref mfd :: .int (nI s9) :: .int (nI s9) :: .int v7 :: .int mft :: .int mpt :: .int mdp :: .int x21_1 :: .long mnw :: .int mmk :: []))) (G_70.set i_69 (mo, .inr (12, (.int mer :: .int mfed :: .int mwr :: .int (nI K9) :: .int (nI KL) :: .ref moc :: .ref msT :: .ref mrV :: .ref msP :: .int v21_mqs :: .ref mrA :: .ref mbA :: .ref mwA :: .ref mhA :: .ref mfA :: .ref mpA :: .ref mxA :: .ref myA :: .ref mmA :: .ref mqA :: .ref mzA :: .ref mwy :: .ref mfd :: .int (nI s9) :: .int (nI s9) :: .int v7 :: .int mft :: .int mpt :: .int mdp :: .int x21_1 :: .long mnw :: .int mmk :: [])))) := ⟨kmo.1, List.mem_of_getElem? hg_69⟩
              have hD := hD3
              clear hD3 hD2
              generalize G_70.set i_69 (mo, .inr (12, (.int mer :: .int mfed :: .int mwr :: .int (nI K9) :: .int (nI KL) :: .ref moc :: .ref msT :: .ref mrV :: .ref msP :: .int v21_mqs :: .ref mrA :: .ref mbA :: .ref mwA :: .ref mhA :: .ref mfA :: .ref mpA :: .ref mxA :: .ref myA :: .ref mmA :: .ref mqA :: .ref mzA :: .ref mwy :: .ref mfd :: .int (nI s9) :: .int (nI s9) :: .int v7 :: .int mft :: .int mpt :: .int mdp :: .int x21_1 :: .long mnw :: .int mmk :: []))) = G_72 at hP hD hTy hFR kmo kmmA kmrA kmwy kmsT kmrV hg_69
              obtain ⟨cX_73, eX_73⟩ : ∃ z : va_E, z = .inr (12, (.int mer :: .int mfed :: .int mwr :: .int (nI K9) :: .int (nI KL) :: .ref moc :: .ref msT :: .ref mrV :: .ref msP :: .int v21_mqs :: .ref mrA :: .ref mbA :: .ref mwA :: .ref mhA :: .ref mfA :: .ref mpA :: .ref mxA :: .ref myA :: .ref mmA :: .ref mqA :: .ref mzA :: .ref mwy :: .ref mfd :: .int (nI s9) :: .int (nI s9) :: .int v7 :: .int mft :: .int mpt :: .int mdp :: .int x21_1 :: .long mnw :: .int mmk :: [])) := ⟨_, rfl⟩
              rw [← eX_73] at kmo
              refine lv_aload_n hx hb d_Model_judged_98 rfl (lv_at hl 3 rfl) ?_
              refine lv_iload_n hx hb d_Model_judged_99 rfl (lv_at hl 2 rfl) ?_
              refine lv_if_ne (tgt := 107) hx hb d_Model_judged_100 (by decide) (fun c100 => ?_) (fun c100 => ?_)
              · have p100 : ¬ (x21_1 = (0 : Int32)) := c100
                refine lv_iload_n hx hb d_Model_judged_107 rfl (lv_at hl 1 rfl) ?_
                refine va_put (v := .int x21_2) (ty := .int) hx hb htb i_Model t_Model t_Model_ok n_Model hown hK hP hD hS i_69 hg_69 rfl 26 (by decide) (htb _ q8_0) (fun _ h9 => h9) rfl (by decide +kernel) rfl rfl (Nat.le_of_ble_eq_true rfl) d_Model_judged_108 (fun H108 locs hP hD2 hS => ?_)
                have hP : va_P (dC, dI) classes (G_72.set i_69 (mo, .inr (12, (.int mer :: .int mfed :: .int mwr :: .int (nI K9) :: .int (nI KL) :: .ref moc :: .ref msT :: .ref mrV :: .ref msP :: .int v21_mqs :: .ref mrA :: .ref mbA :: .ref mwA :: .ref mhA :: .ref mfA :: .ref mpA :: .ref mxA :: .ref myA :: .ref mmA :: .ref mqA :: .ref mzA :: .ref mwy :: .ref mfd :: .int (nI s9) :: .int (nI s9) :: .int v7 :: .int x21_2 :: .int mpt :: .int mdp :: .int x21_1 :: .long mnw :: .int mmk :: [])))) H108 := hP
                have hD3 : va_D A (G_72.set i_69 (mo, .inr (12, (.int mer :: .int mfed :: .int mwr :: .int (nI K9) :: .int (nI KL) :: .ref moc :: .ref msT :: .ref mrV :: .ref msP :: .int v21_mqs :: .ref mrA :: .ref mbA :: .ref mwA :: .ref mhA :: .ref mfA :: .ref mpA :: .ref mxA :: .ref myA :: .ref mmA :: .ref mqA :: .ref mzA :: .ref mwy :: .ref mfd :: .int (nI s9) :: .int (nI s9) :: .int v7 :: .int x21_2 :: .int mpt :: .int mdp :: .int x21_1 :: .long mnw :: .int mmk :: [])))) := hD2
                have hTy := TR.setX (c' := .inr (12, (.int mer :: .int mfed :: .int mwr :: .int (nI K9) :: .int (nI KL) :: .ref moc :: .ref msT :: .ref mrV :: .ref msP :: .int v21_mqs :: .ref mrA :: .ref mbA :: .ref mwA :: .ref mhA :: .ref mfA :: .ref mpA :: .ref mxA :: .ref myA :: .ref mmA :: .ref mqA :: .ref mzA :: .ref mwy :: .ref mfd :: .int (nI s9) :: .int (nI s9) :: .int v7 :: .int x21_2 :: .int mpt :: .int mdp :: .int x21_1 :: .long mnw :: .int mmk :: []))) hTy hg_69 kmo.1
                have kmmA := Xc.setX (c' := .inr (12, (.int mer :: .int mfed :: .int mwr :: .int (nI K9) :: .int (nI KL) :: .ref moc :: .ref msT :: .ref mrV :: .ref msP :: .int v21_mqs :: .ref mrA :: .ref mbA :: .ref mwA :: .ref mhA :: .ref mfA :: .ref mpA :: .ref mxA :: .ref myA :: .ref mmA :: .ref mqA :: .ref mzA :: .ref mwy :: .ref mfd :: .int (nI s9) :: .int (nI s9) :: .int v7 :: .int x21_2 :: .int mpt :: .int mdp :: .int x21_1 :: .long mnw :: .int mmk :: []))) kmmA hg_69 (fun e => hx_mo_mmA.symm (congrArg Prod.fst e))
                have kmrA := Xc.setX (c' := .inr (12, (.int mer :: .int mfed :: .int mwr :: .int (nI K9) :: .int (nI KL) :: .ref moc :: .ref msT :: .ref mrV :: .ref msP :: .int v21_mqs :: .ref mrA :: .ref mbA :: .ref mwA :: .ref mhA :: .ref mfA :: .ref mpA :: .ref mxA :: .ref myA :: .ref mmA :: .ref mqA :: .ref mzA :: .ref mwy :: .ref mfd :: .int (nI s9) :: .int (nI s9) :: .int v7 :: .int x21_2 :: .int mpt :: .int mdp :: .int x21_1 :: .long mnw :: .int mmk :: []))) kmrA hg_69 (fun e => hx_mo_mrA.symm (congrArg Prod.fst e))
                have kmwy := Xc.setX (c' := .inr (12, (.int mer :: .int mfed :: .int mwr :: .int (nI K9) :: .int (nI KL) :: .ref moc :: .ref msT :: .ref mrV :: .ref msP :: .int v21_mqs :: .ref mrA :: .ref mbA :: .ref mwA :: .ref mhA :: .ref mfA :: .ref mpA :: .ref mxA :: .ref myA :: .ref mmA :: .ref mqA :: .ref mzA :: .ref mwy :: .ref mfd :: .int (nI s9) :: .int (nI s9) :: .int v7 :: .int x21_2 :: .int mpt :: .int mdp :: .int x21_1 :: .long mnw :: .int mmk :: []))) kmwy hg_69 (fun e => hx_mo_mwy.symm (congrArg Prod.fst e))
                have kmsT := Xc.setX (c' := .inr (12, (.int mer :: .int mfed :: .int mwr :: .int (nI K9) :: .int (nI KL) :: .ref moc :: .ref msT :: .ref mrV :: .ref msP :: .int v21_mqs :: .ref mrA :: .ref mbA :: .ref mwA :: .ref mhA :: .ref mfA :: .ref mpA :: .ref mxA :: .ref myA :: .ref mmA :: .ref mqA :: .ref mzA :: .ref mwy :: .ref mfd :: .int (nI s9) :: .int (nI s9) :: .int v7 :: .int x21_2 :: .int mpt :: .int mdp :: .int x21_1 :: .long mnw :: .int mmk :: []))) kmsT hg_69 (fun e => hx_mo_msT.symm (congrArg Prod.fst e))
                have kmrV := Xc.setX (c' := .inr (12, (.int mer :: .int mfed :: .int mwr :: .int (nI K9) :: .int (nI KL) :: .ref moc :: .ref msT :: .ref mrV :: .ref msP :: .int v21_mqs :: .ref mrA :: .ref mbA :: .ref mwA :: .ref mhA :: .ref mfA :: .ref mpA :: .ref mxA :: .ref myA :: .ref mmA :: .ref mqA :: .ref mzA :: .ref mwy :: .ref mfd :: .int (nI s9) :: .int (nI s9) :: .int v7 :: .int x21_2 :: .int mpt :: .int mdp :: .int x21_1 :: .long mnw :: .int mmk :: []))) kmrV hg_69 (fun e => hx_mo_mrV.symm (congrArg Prod.fst e))
                have hFR := hFR.tr (FL.set (Ad := Ad) (X := [mo, mmA, mrA]) (c' := .inr (12, (.int mer :: .int mfed :: .int mwr :: .int (nI K9) :: .int (nI KL) :: .ref moc :: .ref msT :: .ref mrV :: .ref msP :: .int v21_mqs :: .ref mrA :: .ref mbA :: .ref mwA :: .ref mhA :: .ref mfA :: .ref mpA :: .ref mxA :: .ref myA :: .ref mmA :: .ref mqA :: .ref mzA :: .ref mwy :: .ref mfd :: .int (nI s9) :: .int (nI s9) :: .int v7 :: .int x21_2 :: .int mpt :: .int mdp :: .int x21_1 :: .long mnw :: .int mmk :: []))) hg_69 (by simp))
                have hg_69 := set_here (c' := .inr (12, (.int mer :: .int mfed :: .int mwr :: .int (nI K9) :: .int (nI KL) :: .ref moc :: .ref msT :: .ref mrV :: .ref msP :: .int v21_mqs :: .ref mrA :: .ref mbA :: .ref mwA :: .ref mhA :: .ref mfA :: .ref mpA :: .ref mxA :: .ref myA :: .ref mmA :: .ref mqA :: .ref mzA :: .ref mwy :: .ref mfd :: .int (nI s9) :: .int (nI s9) :: .int v7 :: .int x21_2 :: .int mpt :: .int mdp :: .int x21_1 :: .long mnw :: .int mmk :: []))) hg_69
                have kmo : Xc Ad mo (.inr (12, (.int mer :: .int mfed :: .int mwr :: .int (nI K9) :: .int (nI KL) :: .ref moc :: .ref msT :: .ref mrV :: .ref msP :: .int v21_mqs :: .ref mrA :: .ref mbA :: .ref mwA :: .ref mhA :: .ref mfA :: .ref mpA :: .ref mxA :: .ref myA :: .ref mmA :: .ref mqA :: .ref mzA :: .ref mwy :: .ref mfd :: .int (nI s9) :: .int (nI s9) :: .int v7 :: .int x21_2 :: .int mpt :: .int mdp :: .int x21_1 :: .long mnw :: .int mmk :: []))) (G_72.set i_69 (mo, .inr (12, (.int mer :: .int mfed :: .int mwr :: .int (nI K9) :: .int (nI KL) :: .ref moc :: .ref msT :: .ref mrV :: .ref msP :: .int v21_mqs :: .ref mrA :: .ref mbA :: .ref mwA :: .ref mhA :: .ref mfA :: .ref mpA :: .ref mxA :: .ref myA :: .ref mmA :: .ref mqA :: .ref mzA :: .ref mwy :: .ref mfd :: .int (nI s9) :: .int (nI s9) :: .int v7 :: .int x21_2 :: .int mpt :: .int mdp :: .int x21_1 :: .long mnw :: .int mmk :: [])))) := ⟨kmo.1, List.mem_of_getElem? hg_69⟩
                have hD := hD3
                clear hD3 hD2
                generalize G_72.set i_69 (mo, .inr (12, (.int mer :: .int mfed :: .int mwr :: .int (nI K9) :: .int (nI KL) :: .ref moc :: .ref msT :: .ref mrV :: .ref msP :: .int v21_mqs :: .ref mrA :: .ref mbA :: .ref mwA :: .ref mhA :: .ref mfA :: .ref mpA :: .ref mxA :: .ref myA :: .ref mmA :: .ref mqA :: .ref mzA :: .ref mwy :: .ref mfd :: .int (nI s9) :: .int (nI s9) :: .int v7 :: .int x21_2 :: .int mpt :: .int mdp :: .int x21_1 :: .long mnw :: .int mmk :: []))) = G_74 at hP hD hTy hFR kmo kmmA kmrA kmwy kmsT kmrV hg_69
                obtain ⟨cX_75, eX_75⟩ : ∃ z : va_E, z = .inr (12, (.int mer :: .int mfed :: .int mwr :: .int (nI K9) :: .int (nI KL) :: .ref moc :: .ref msT :: .ref mrV :: .ref msP :: .int v21_mqs :: .ref mrA :: .ref mbA :: .ref mwA :: .ref mhA :: .ref mfA :: .ref mpA :: .ref mxA :: .ref myA :: .ref mmA :: .ref mqA :: .ref mzA :: .ref mwy :: .ref mfd :: .int (nI s9) :: .int (nI s9) :: .int v7 :: .int x21_2 :: .int mpt :: .int mdp :: .int x21_1 :: .long mnw :: .int mmk :: [])) := ⟨_, rfl⟩
                rw [← eX_75] at kmo
                refine lv_iload_n hx hb d_Model_judged_111 rfl (lv_at hl 2 rfl) ?_
                refine lv_if_ne (tgt := 119) hx hb d_Model_judged_112 (by decide) (fun c112 => ?_) (fun c112 => ?_)
                · have p112 : ¬ (x21_1 = (0 : Int32)) := c112
                  refine lv_iconst (v := 0) hx hb d_Model_judged_119 (by decide) ?_
                  exact W.zret (v := 0) hx hb hr rfl (fun t ht hW => ⟨⟨_, G_74, rfl, ⟨hTy, hFR, bz_f (by decide), ⟨_, _, _, _, s9, by omega, by rw [eX_75] at kmo; exact kmo⟩, ⟨_, hfm, kmmA⟩, ⟨_, hfr, kmrA⟩⟩, by rw [ht]; exact hP, va_K.moved hW.alike hK, hD⟩, hS.F ht⟩) hS.2.2 d_Model_judged_120
                · have p112 : x21_1 = (0 : Int32) := c112
                  refine lv_iconst (v := 1) hx hb d_Model_judged_115 (by decide) ?_
                  refine lv_goto (tgt := 120) hx hb d_Model_judged_116 (by decide) ?_
                  exact W.zret (v := 1) hx hb hr rfl (fun t ht hW => ⟨⟨_, G_74, rfl, ⟨hTy, hFR, bz_t rfl, ⟨_, _, _, _, s9, by omega, by rw [eX_75] at kmo; exact kmo⟩, ⟨_, hfm, kmmA⟩, ⟨_, hfr, kmrA⟩⟩, by rw [ht]; exact hP, va_K.moved hW.alike hK, hD⟩, hS.F ht⟩) hS.2.2 d_Model_judged_120
              · have p100 : x21_1 = (0 : Int32) := c100
                refine lv_iconst (v := -1) hx hb d_Model_judged_103 (by decide) ?_
                refine lv_goto (tgt := 108) hx hb d_Model_judged_104 (by decide) ?_
                refine va_put (v := .int (-1)) (ty := .int) hx hb htb i_Model t_Model t_Model_ok n_Model hown hK hP hD hS i_69 hg_69 rfl 26 (by decide) (htb _ q8_0) (fun _ h9 => h9) rfl (by decide +kernel) rfl rfl (Nat.le_of_ble_eq_true rfl) d_Model_judged_108 (fun H108 locs hP hD2 hS => ?_)
                have hP : va_P (dC, dI) classes (G_72.set i_69 (mo, .inr (12, (.int mer :: .int mfed :: .int mwr :: .int (nI K9) :: .int (nI KL) :: .ref moc :: .ref msT :: .ref mrV :: .ref msP :: .int v21_mqs :: .ref mrA :: .ref mbA :: .ref mwA :: .ref mhA :: .ref mfA :: .ref mpA :: .ref mxA :: .ref myA :: .ref mmA :: .ref mqA :: .ref mzA :: .ref mwy :: .ref mfd :: .int (nI s9) :: .int (nI s9) :: .int v7 :: .int (-1) :: .int mpt :: .int mdp :: .int x21_1 :: .long mnw :: .int mmk :: [])))) H108 := hP
                have hD3 : va_D A (G_72.set i_69 (mo, .inr (12, (.int mer :: .int mfed :: .int mwr :: .int (nI K9) :: .int (nI KL) :: .ref moc :: .ref msT :: .ref mrV :: .ref msP :: .int v21_mqs :: .ref mrA :: .ref mbA :: .ref mwA :: .ref mhA :: .ref mfA :: .ref mpA :: .ref mxA :: .ref myA :: .ref mmA :: .ref mqA :: .ref mzA :: .ref mwy :: .ref mfd :: .int (nI s9) :: .int (nI s9) :: .int v7 :: .int (-1) :: .int mpt :: .int mdp :: .int x21_1 :: .long mnw :: .int mmk :: [])))) := hD2
                have hTy := TR.setX (c' := .inr (12, (.int mer :: .int mfed :: .int mwr :: .int (nI K9) :: .int (nI KL) :: .ref moc :: .ref msT :: .ref mrV :: .ref msP :: .int v21_mqs :: .ref mrA :: .ref mbA :: .ref mwA :: .ref mhA :: .ref mfA :: .ref mpA :: .ref mxA :: .ref myA :: .ref mmA :: .ref mqA :: .ref mzA :: .ref mwy :: .ref mfd :: .int (nI s9) :: .int (nI s9) :: .int v7 :: .int (-1) :: .int mpt :: .int mdp :: .int x21_1 :: .long mnw :: .int mmk :: []))) hTy hg_69 kmo.1
                have kmmA := Xc.setX (c' := .inr (12, (.int mer :: .int mfed :: .int mwr :: .int (nI K9) :: .int (nI KL) :: .ref moc :: .ref msT :: .ref mrV :: .ref msP :: .int v21_mqs :: .ref mrA :: .ref mbA :: .ref mwA :: .ref mhA :: .ref mfA :: .ref mpA :: .ref mxA :: .ref myA :: .ref mmA :: .ref mqA :: .ref mzA :: .ref mwy :: .ref mfd :: .int (nI s9) :: .int (nI s9) :: .int v7 :: .int (-1) :: .int mpt :: .int mdp :: .int x21_1 :: .long mnw :: .int mmk :: []))) kmmA hg_69 (fun e => hx_mo_mmA.symm (congrArg Prod.fst e))
                have kmrA := Xc.setX (c' := .inr (12, (.int mer :: .int mfed :: .int mwr :: .int (nI K9) :: .int (nI KL) :: .ref moc :: .ref msT :: .ref mrV :: .ref msP :: .int v21_mqs :: .ref mrA :: .ref mbA :: .ref mwA :: .ref mhA :: .ref mfA :: .ref mpA :: .ref mxA :: .ref myA :: .ref mmA :: .ref mqA :: .ref mzA :: .ref mwy :: .ref mfd :: .int (nI s9) :: .int (nI s9) :: .int v7 :: .int (-1) :: .int mpt :: .int mdp :: .int x21_1 :: .long mnw :: .int mmk :: []))) kmrA hg_69 (fun e => hx_mo_mrA.symm (congrArg Prod.fst e))
                have kmwy := Xc.setX (c' := .inr (12, (.int mer :: .int mfed :: .int mwr :: .int (nI K9) :: .int (nI KL) :: .ref moc :: .ref msT :: .ref mrV :: .ref msP :: .int v21_mqs :: .ref mrA :: .ref mbA :: .ref mwA :: .ref mhA :: .ref mfA :: .ref mpA :: .ref mxA :: .ref myA :: .ref mmA :: .ref mqA :: .ref mzA :: .ref mwy :: .ref mfd :: .int (nI s9) :: .int (nI s9) :: .int v7 :: .int (-1) :: .int mpt :: .int mdp :: .int x21_1 :: .long mnw :: .int mmk :: []))) kmwy hg_69 (fun e => hx_mo_mwy.symm (congrArg Prod.fst e))
                have kmsT := Xc.setX (c' := .inr (12, (.int mer :: .int mfed :: .int mwr :: .int (nI K9) :: .int (nI KL) :: .ref moc :: .ref msT :: .ref mrV :: .ref msP :: .int v21_mqs :: .ref mrA :: .ref mbA :: .ref mwA :: .ref mhA :: .ref mfA :: .ref mpA :: .ref mxA :: .ref myA :: .ref mmA :: .ref mqA :: .ref mzA :: .ref mwy :: .ref mfd :: .int (nI s9) :: .int (nI s9) :: .int v7 :: .int (-1) :: .int mpt :: .int mdp :: .int x21_1 :: .long mnw :: .int mmk :: []))) kmsT hg_69 (fun e => hx_mo_msT.symm (congrArg Prod.fst e))
                have kmrV := Xc.setX (c' := .inr (12, (.int mer :: .int mfed :: .int mwr :: .int (nI K9) :: .int (nI KL) :: .ref moc :: .ref msT :: .ref mrV :: .ref msP :: .int v21_mqs :: .ref mrA :: .ref mbA :: .ref mwA :: .ref mhA :: .ref mfA :: .ref mpA :: .ref mxA :: .ref myA :: .ref mmA :: .ref mqA :: .ref mzA :: .ref mwy :: .ref mfd :: .int (nI s9) :: .int (nI s9) :: .int v7 :: .int (-1) :: .int mpt :: .int mdp :: .int x21_1 :: .long mnw :: .int mmk :: []))) kmrV hg_69 (fun e => hx_mo_mrV.symm (congrArg Prod.fst e))
                have hFR := hFR.tr (FL.set (Ad := Ad) (X := [mo, mmA, mrA]) (c' := .inr (12, (.int mer :: .int mfed :: .int mwr :: .int (nI K9) :: .int (nI KL) :: .ref moc :: .ref msT :: .ref mrV :: .ref msP :: .int v21_mqs :: .ref mrA :: .ref mbA :: .ref mwA :: .ref mhA :: .ref mfA :: .ref mpA :: .ref mxA :: .ref myA :: .ref mmA :: .ref mqA :: .ref mzA :: .ref mwy :: .ref mfd :: .int (nI s9) :: .int (nI s9) :: .int v7 :: .int (-1) :: .int mpt :: .int mdp :: .int x21_1 :: .long mnw :: .int mmk :: []))) hg_69 (by simp))
                have hg_69 := set_here (c' := .inr (12, (.int mer :: .int mfed :: .int mwr :: .int (nI K9) :: .int (nI KL) :: .ref moc :: .ref msT :: .ref mrV :: .ref msP :: .int v21_mqs :: .ref mrA :: .ref mbA :: .ref mwA :: .ref mhA :: .ref mfA :: .ref mpA :: .ref mxA :: .ref myA :: .ref mmA :: .ref mqA :: .ref mzA :: .ref mwy :: .ref mfd :: .int (nI s9) :: .int (nI s9) :: .int v7 :: .int (-1) :: .int mpt :: .int mdp :: .int x21_1 :: .long mnw :: .int mmk :: []))) hg_69
                have kmo : Xc Ad mo (.inr (12, (.int mer :: .int mfed :: .int mwr :: .int (nI K9) :: .int (nI KL) :: .ref moc :: .ref msT :: .ref mrV :: .ref msP :: .int v21_mqs :: .ref mrA :: .ref mbA :: .ref mwA :: .ref mhA :: .ref mfA :: .ref mpA :: .ref mxA :: .ref myA :: .ref mmA :: .ref mqA :: .ref mzA :: .ref mwy :: .ref mfd :: .int (nI s9) :: .int (nI s9) :: .int v7 :: .int (-1) :: .int mpt :: .int mdp :: .int x21_1 :: .long mnw :: .int mmk :: []))) (G_72.set i_69 (mo, .inr (12, (.int mer :: .int mfed :: .int mwr :: .int (nI K9) :: .int (nI KL) :: .ref moc :: .ref msT :: .ref mrV :: .ref msP :: .int v21_mqs :: .ref mrA :: .ref mbA :: .ref mwA :: .ref mhA :: .ref mfA :: .ref mpA :: .ref mxA :: .ref myA :: .ref mmA :: .ref mqA :: .ref mzA :: .ref mwy :: .ref mfd :: .int (nI s9) :: .int (nI s9) :: .int v7 :: .int (-1) :: .int mpt :: .int mdp :: .int x21_1 :: .long mnw :: .int mmk :: [])))) := ⟨kmo.1, List.mem_of_getElem? hg_69⟩
                have hD := hD3
                clear hD3 hD2
                generalize G_72.set i_69 (mo, .inr (12, (.int mer :: .int mfed :: .int mwr :: .int (nI K9) :: .int (nI KL) :: .ref moc :: .ref msT :: .ref mrV :: .ref msP :: .int v21_mqs :: .ref mrA :: .ref mbA :: .ref mwA :: .ref mhA :: .ref mfA :: .ref mpA :: .ref mxA :: .ref myA :: .ref mmA :: .ref mqA :: .ref mzA :: .ref mwy :: .ref mfd :: .int (nI s9) :: .int (nI s9) :: .int v7 :: .int (-1) :: .int mpt :: .int mdp :: .int x21_1 :: .long mnw :: .int mmk :: []))) = G_76 at hP hD hTy hFR kmo kmmA kmrA kmwy kmsT kmrV hg_69
                obtain ⟨cX_77, eX_77⟩ : ∃ z : va_E, z = .inr (12, (.int mer :: .int mfed :: .int mwr :: .int (nI K9) :: .int (nI KL) :: .ref moc :: .ref msT :: .ref mrV :: .ref msP :: .int v21_mqs :: .ref mrA :: .ref mbA :: .ref mwA :: .ref mhA :: .ref mfA :: .ref mpA :: .ref mxA :: .ref myA :: .ref mmA :: .ref mqA :: .ref mzA :: .ref mwy :: .ref mfd :: .int (nI s9) :: .int (nI s9) :: .int v7 :: .int (-1) :: .int mpt :: .int mdp :: .int x21_1 :: .long mnw :: .int mmk :: [])) := ⟨_, rfl⟩
                rw [← eX_77] at kmo
                refine lv_iload_n hx hb d_Model_judged_111 rfl (lv_at hl 2 rfl) ?_
                refine lv_if_ne (tgt := 119) hx hb d_Model_judged_112 (by decide) (fun c112 => ?_) (fun c112 => ?_)
                · have p112 : ¬ (x21_1 = (0 : Int32)) := c112
                  refine lv_iconst (v := 0) hx hb d_Model_judged_119 (by decide) ?_
                  exact W.zret (v := 0) hx hb hr rfl (fun t ht hW => ⟨⟨_, G_76, rfl, ⟨hTy, hFR, bz_f (by decide), ⟨_, _, _, _, s9, by omega, by rw [eX_77] at kmo; exact kmo⟩, ⟨_, hfm, kmmA⟩, ⟨_, hfr, kmrA⟩⟩, by rw [ht]; exact hP, va_K.moved hW.alike hK, hD⟩, hS.F ht⟩) hS.2.2 d_Model_judged_120
                · have p112 : x21_1 = (0 : Int32) := c112
                  refine lv_iconst (v := 1) hx hb d_Model_judged_115 (by decide) ?_
                  refine lv_goto (tgt := 120) hx hb d_Model_judged_116 (by decide) ?_
                  exact W.zret (v := 1) hx hb hr rfl (fun t ht hW => ⟨⟨_, G_76, rfl, ⟨hTy, hFR, bz_t rfl, ⟨_, _, _, _, s9, by omega, by rw [eX_77] at kmo; exact kmo⟩, ⟨_, hfm, kmmA⟩, ⟨_, hfr, kmrA⟩⟩, by rw [ht]; exact hP, va_K.moved hW.alike hK, hD⟩, hS.F ht⟩) hS.2.2 d_Model_judged_120
            · have p64 : ¬ (s9 ≤ z59) := (fun q9 => c64 ((nI_leI (a := s9) (b := z59) (by omega) (by omega)).mpr q9))
              refine lv_aload_n hx hb d_Model_judged_67 rfl (lv_at hl 3 rfl) ?_
              refine va_get (v := .ref mfd) hx hb htb i_Model hown hK hP i_69 hg_69 rfl 22 (by decide) (htb _ q7_236) (fun _ h9 => h9) rfl d_Model_judged_68 ?_
              refine lv_iload_n hx hb d_Model_judged_71 rfl (lv_at hl 0 rfl) ?_
              refine lv_aload_n hx hb d_Model_judged_72 rfl (lv_at hl 3 rfl) ?_
              refine va_get (v := .ref mwy) hx hb htb i_Model hown hK hP i_69 hg_69 rfl 21 (by decide) (htb _ q7_235) (fun _ h9 => h9) rfl d_Model_judged_73 ?_
              refine lv_iload_n hx hb d_Model_judged_76 rfl (lv_at hl 0 rfl) ?_
              obtain ⟨i_78, hg_78⟩ := List.getElem?_of_mem kmwy.2
              have h77 : vp_in (nI z59) 16 := vp_in_nI (by omega) (by omega)
              refine va_iald hx hb hK hP i_78 1 hg_78 rfl h77 d_Model_judged_77 ?_
              refine lv_topi (fun e77 he77 => ?_)
              obtain ⟨cw77, hc1_77, hc2_77⟩ := hway z59 (by omega)
              rw [nI_clamp (by omega), hc2_77] at he77
              subst he77
              obtain ⟨i_79, f_79, hn_79, hg_79⟩ := tr_6 hTy kmfd
              have h78 : vp_in (nI z59) 16 := vp_in_nI (by omega) (by omega)
              refine va_iast hx hb hK hP hD hS i_79 1 hg_79 rfl h78 d_Model_judged_78 (fun H78 locs hP hD2 hS => ?_)
              have hP : va_P (dC, dI) classes (G59.set i_79 (mfd, .inl (γ.2.1, 16, .inl (upd f_79 (nI z59).toNatClampNeg (nI cw77))))) H78 := hP
              have hD3 : va_D A (G59.set i_79 (mfd, .inl (γ.2.1, 16, .inl (upd f_79 (nI z59).toNatClampNeg (nI cw77))))) := hD2
              have hF1 := FR.set (c' := .inl (γ.2.1, 16, .inl (upd f_79 (nI z59).toNatClampNeg (nI cw77)))) hg_79 kmfd.1
              have kmo := kmo.fr hF1
              have kmmA := kmmA.fr hF1
              have kmrA := kmrA.fr hF1
              have kmwy := kmwy.fr hF1
              have kmsT := kmsT.fr hF1
              have kmrV := kmrV.fr hF1
              have hFR := hFR.tr hF1.l
              clear hF1
              have hTy := TR.set (c' := .inl (γ.2.1, 16, .inl (upd f_79 (nI z59).toNatClampNeg (nI cw77)))) hTy hg_79 (okr_6 kmfd hn_79 _)
              have hD := hD3
              clear hD3 hD2
              generalize G59.set i_79 (mfd, .inl (γ.2.1, 16, .inl (upd f_79 (nI z59).toNatClampNeg (nI cw77)))) = G_80 at hP hD hTy hFR kmo kmmA kmrA kmwy kmsT kmrV 
              refine lv_iinc (v := nI (z59 + 1)) (lv' := [(3, .int (nI (z59 + 1))), (2, .int x21_2), (1, .int x21_1), (0, .ref mo)]) hx hb d_Model_judged_79 hl (k := 0) rfl (nI_1 _) (by decide) rfl (fun ls hl => ?_)
              refine lv_goto (tgt := 59) hx hb d_Model_judged_82 (by decide) ?_
              exact ih59 (z59 + 1, G_80) _ _ ls (by dsimp only; omega) ⟨by dsimp only; omega, by dsimp only; omega, hTy, hFR, kmo, kmmA, kmrA, kmwy, kmsT, kmrV⟩ hP hD hS (lv_sub hl [0, 1, 2, 3, 4] rfl)
          · have p52 : ¬ (v7 ≤ (1 : Int32)) := c52
            refine lv_iconst (v := 0) hx hb d_Model_judged_55 (by decide) ?_
            exact W.zret (v := 0) hx hb hr rfl (fun t ht hW => ⟨⟨_, G21, rfl, ⟨hTy, hFR, bz_f (by decide), ⟨_, _, _, _, c9, by omega, by rw [eX_30] at kmo; exact kmo⟩, ⟨_, hfm, kmmA⟩, ⟨_, hfr, kmrA⟩⟩, by rw [ht]; exact hP, va_K.moved hW.alike hK, hD⟩, hS.F ht⟩) hS.2.2 d_Model_judged_56
      · have p26 : x21_1 = (0 : Int32) := c26
        refine lv_aload_n hx hb d_Model_judged_29 rfl (lv_at hl 3 rfl) ?_
        refine lv_iload_n hx hb d_Model_judged_30 rfl (lv_at hl 0 rfl) ?_
        have hFc := va_free (wc := G21) hD hS hA (List.range G21.length) (rg_is _)
        obtain ⟨i_82, hg_82⟩ := List.getElem?_of_mem kmo.2
        rw [eX_30] at hg_82
        refine va_calli (mu_runV (As := [.int (nI z21)]) (rest := []) ⟨hx, hb, hml, hown, hts⟩ tbin (m_Model_faultOf l dC dI sb γ κ Ad τ gT G21 mo _ _ _ _ _ _ _ _ _ _ _ _ _ _ _ _ _ _ _ _ _ _ _ _ _ _ _ _ _ _ _ _ _ _ _ _ _ _ HL21.size hTy (by have h9 := kmo; rw [eX_30] at h9; exact h9) kmmA kmrA kmwy kmsT kmrV kmzA kmqA kmyA kmxA kmbA kmwA kmhA kmpA kmfA hx_mo_mmA hx_mo_mrA hx_mo_mwy hx_mo_msT hx_mo_mrV hx_mmA_mrA hx_mmA_mwy hx_mmA_msT hx_mmA_mrV hx_mrA_mwy hx_mrA_msT hx_mrA_mrV hx_mwy_msT hx_mwy_mrV hx_msT_mrV hst hrv hway (by omega) (by omega) (by omega) hfm hfr (by omega)) q9_141 q9_143 qp_47 q1_9 q9_144 (n := 1) (by decide +kernel) rfl ⟨rfl, rfl⟩ ⟨Nat.le_of_ble_eq_true rfl, Nat.le_of_ble_eq_true rfl⟩ ⟨Nat.le_of_ble_eq_true rfl, Nat.le_of_ble_eq_true rfl⟩ hN (hT0.keep hS hAs) hAs (Nat.le_trans hB0 hS.1) hK hP hD (List.range G21.length) (rg_nd _) (rg_is _) [0, 1, 2, 3, 4] rfl i_82 12 hg_82 rfl rfl hl.1 rfl (Nat.le_of_ble_eq_true rfl) d_Model_judged_31) hS (fun q _ h => hFc q h) hFc (fun r31 G_81 tS H31 locs ht hvm hw31 hB hz1 hk1 hS => ?_)
        obtain ⟨hTy, hF9, hr31⟩ := hw31
        have kmwy := kmwy.fl hF9 (by simp only [List.mem_cons, List.not_mem_nil, or_false]; omega)
        have kmsT := kmsT.fl hF9 (by simp only [List.mem_cons, List.not_mem_nil, or_false]; omega)
        have kmrV := kmrV.fl hF9 (by simp only [List.mem_cons, List.not_mem_nil, or_false]; omega)
        have hFR := hFR.tr (hF9.up (by intro x h; simp only [List.mem_cons, List.not_mem_nil, or_false] at h ⊢; omega))
        obtain ⟨hP1, hK1, hD1⟩ := hB
        rw [ht] at hP1
        have hP : va_P (dC, dI) classes G_81 H31 := hP1
        have hD : va_D A G_81 := hD1.weaken (fun _ _ _ h => hFc _ h)
        obtain ⟨⟨q31, kmo⟩, ⟨fa31, hfm, kmmA⟩, ⟨fb31, hfr, kmrA⟩⟩ := hr31
        obtain ⟨cX_83, eX_83⟩ : ∃ z : va_E, z = .inr (12, (.int mer :: .int mfed :: .int mwr :: .int (nI K9) :: .int (nI KL) :: .ref moc :: .ref msT :: .ref mrV :: .ref msP :: .int q31 :: .ref mrA :: .ref mbA :: .ref mwA :: .ref mhA :: .ref mfA :: .ref mpA :: .ref mxA :: .ref myA :: .ref mmA :: .ref mqA :: .ref mzA :: .ref mwy :: .ref mfd :: .int (nI s9) :: .int (nI c9) :: .int v7 :: .int mft :: .int mpt :: .int mdp :: .int mvd :: .long mnw :: .int mmk :: [])) := ⟨_, rfl⟩
        rw [← eX_83] at kmo
        refine lv_istore_n (lv' := [(1, .int r31), (3, .int (nI z21)), (2, .int x21_2), (0, .ref mo)]) hx hb d_Model_judged_34 rfl hl (by decide) rfl (fun ls hl => ?_)
        refine lv_iload_n hx hb d_Model_judged_35 rfl (lv_at hl 1 rfl) ?_
        refine lv_istore_n (lv' := [(2, .int (nI z21)), (1, .int r31), (3, .int (nI z21)), (0, .ref mo)]) hx hb d_Model_judged_36 rfl hl (by decide) rfl (fun ls hl => ?_)
        refine lv_iinc (v := jD z21) (lv' := [(3, .int (jD z21)), (2, .int (nI z21)), (1, .int r31), (0, .ref mo)]) hx hb d_Model_judged_37 hl (k := 2) rfl (jD_dec _) (by decide) rfl (fun ls hl => ?_)
        refine lv_goto (tgt := 21) hx hb d_Model_judged_40 (by decide) ?_
        exact ih21 (z21, r31, nI z21, fa31, fb31, q31, G_81) _ _ ls (by dsimp only; omega) ⟨by dsimp only; omega, by dsimp only; omega, hTy, hFR, (by have h9 := kmo; rw [eX_83] at h9; exact h9), kmmA, kmrA, kmwy, kmsT, kmrV, ⟨hfm, hfr⟩⟩ hP hD hS (lv_sub hl [0, 1, 2, 3, 4] rfl)
