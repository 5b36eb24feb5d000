/-! The reference's faultOf and judged: what they answer. -/
theorem jD_sub2 {k : Nat} (h : 1 ≤ k) : nI k - 2 = jD (k - 1) := by
  rcases k with _ | k
  · omega
  · rw [Nat.add_sub_cancel]
    rw [show nI (k + 1) - 2 = nI k - 1 from by
      rw [← nI_add, Int32.sub_eq_add_neg, Int32.add_assoc, show nI 1 + -(2 : Int32) = -1 from by decide, Int32.sub_eq_add_neg]]
    exact jD_dec' k
def y_Model_faultOf : MethodName := ⟨"TrustChainModel", "faultOf", "(I)I"⟩
abbrev b_Model_faultOf : ByteArray := prog_14_method_35_code
def w_Model_faultOf : List Cond := Cond.code y_Model_faultOf b_Model_faultOf 9 ((some FieldType.int)) :: tb
theorem d_Model_faultOf_0 : decode b_Model_faultOf 0 = .ok (.aload_n 0, 1) := by decide +kernel
theorem d_Model_faultOf_1 : decode b_Model_faultOf 1 = .ok (.getfield 19, 3) := by decide +kernel
theorem d_Model_faultOf_4 : decode b_Model_faultOf 4 = .ok (.aload_n 0, 1) := by decide +kernel
theorem d_Model_faultOf_5 : decode b_Model_faultOf 5 = .ok (.getfield 136, 3) := by decide +kernel
theorem d_Model_faultOf_8 : decode b_Model_faultOf 8 = .ok (.iload_n 1, 1) := by decide +kernel
theorem d_Model_faultOf_9 : decode b_Model_faultOf 9 = .ok (.iaload, 1) := by decide +kernel
theorem d_Model_faultOf_10 : decode b_Model_faultOf 10 = .ok (.aaload, 1) := by decide +kernel
theorem d_Model_faultOf_11 : decode b_Model_faultOf 11 = .ok (.astore_n 2, 1) := by decide +kernel
theorem d_Model_faultOf_12 : decode b_Model_faultOf 12 = .ok (.aload_n 0, 1) := by decide +kernel
theorem d_Model_faultOf_13 : decode b_Model_faultOf 13 = .ok (.getfield 19, 3) := by decide +kernel
theorem d_Model_faultOf_16 : decode b_Model_faultOf 16 = .ok (.aload_n 0, 1) := by decide +kernel
theorem d_Model_faultOf_17 : decode b_Model_faultOf 17 = .ok (.getfield 136, 3) := by decide +kernel
theorem d_Model_faultOf_20 : decode b_Model_faultOf 20 = .ok (.iload_n 1, 1) := by decide +kernel
theorem d_Model_faultOf_21 : decode b_Model_faultOf 21 = .ok (.iconst 1, 1) := by decide +kernel
theorem d_Model_faultOf_22 : decode b_Model_faultOf 22 = .ok (.iadd, 1) := by decide +kernel
theorem d_Model_faultOf_23 : decode b_Model_faultOf 23 = .ok (.iaload, 1) := by decide +kernel
theorem d_Model_faultOf_24 : decode b_Model_faultOf 24 = .ok (.aaload, 1) := by decide +kernel
theorem d_Model_faultOf_25 : decode b_Model_faultOf 25 = .ok (.astore_n 3, 1) := by decide +kernel
theorem d_Model_faultOf_26 : decode b_Model_faultOf 26 = .ok (.aload_n 0, 1) := by decide +kernel
theorem d_Model_faultOf_27 : decode b_Model_faultOf 27 = .ok (.aload_n 2, 1) := by decide +kernel
theorem d_Model_faultOf_28 : decode b_Model_faultOf 28 = .ok (.aload_n 3, 1) := by decide +kernel
theorem d_Model_faultOf_29 : decode b_Model_faultOf 29 = .ok (.invokevirtual 308, 3) := by decide +kernel
theorem d_Model_faultOf_32 : decode b_Model_faultOf 32 = .ok (.ifCond .ne 5, 3) := by decide +kernel
theorem d_Model_faultOf_35 : decode b_Model_faultOf 35 = .ok (.iconst 1, 1) := by decide +kernel
theorem d_Model_faultOf_36 : decode b_Model_faultOf 36 = .ok (.ireturn, 1) := by decide +kernel
theorem d_Model_faultOf_37 : decode b_Model_faultOf 37 = .ok (.aload_n 0, 1) := by decide +kernel
theorem d_Model_faultOf_38 : decode b_Model_faultOf 38 = .ok (.getfield 312, 3) := by decide +kernel
theorem d_Model_faultOf_41 : decode b_Model_faultOf 41 = .ok (.aload_n 2, 1) := by decide +kernel
theorem d_Model_faultOf_42 : decode b_Model_faultOf 42 = .ok (.getfield 213, 3) := by decide +kernel
theorem d_Model_faultOf_45 : decode b_Model_faultOf 45 = .ok (.lcmp, 1) := by decide +kernel
theorem d_Model_faultOf_46 : decode b_Model_faultOf 46 = .ok (.ifCond .lt 15, 3) := by decide +kernel
theorem d_Model_faultOf_49 : decode b_Model_faultOf 49 = .ok (.aload_n 0, 1) := by decide +kernel
theorem d_Model_faultOf_50 : decode b_Model_faultOf 50 = .ok (.getfield 312, 3) := by decide +kernel
theorem d_Model_faultOf_53 : decode b_Model_faultOf 53 = .ok (.aload_n 2, 1) := by decide +kernel
theorem d_Model_faultOf_54 : decode b_Model_faultOf 54 = .ok (.getfield 217, 3) := by decide +kernel
theorem d_Model_faultOf_57 : decode b_Model_faultOf 57 = .ok (.lcmp, 1) := by decide +kernel
theorem d_Model_faultOf_58 : decode b_Model_faultOf 58 = .ok (.ifCond .le 5, 3) := by decide +kernel
theorem d_Model_faultOf_61 : decode b_Model_faultOf 61 = .ok (.iconst 2, 1) := by decide +kernel
theorem d_Model_faultOf_62 : decode b_Model_faultOf 62 = .ok (.ireturn, 1) := by decide +kernel
theorem d_Model_faultOf_63 : decode b_Model_faultOf 63 = .ok (.iconst 0, 1) := by decide +kernel
theorem d_Model_faultOf_64 : decode b_Model_faultOf 64 = .ok (.istore 4, 2) := by decide +kernel
theorem d_Model_faultOf_66 : decode b_Model_faultOf 66 = .ok (.iconst 0, 1) := by decide +kernel
theorem d_Model_faultOf_67 : decode b_Model_faultOf 67 = .ok (.istore 5, 2) := by decide +kernel
theorem d_Model_faultOf_69 : decode b_Model_faultOf 69 = .ok (.iload 5, 2) := by decide +kernel
theorem d_Model_faultOf_71 : decode b_Model_faultOf 71 = .ok (.aload_n 0, 1) := by decide +kernel
theorem d_Model_faultOf_72 : decode b_Model_faultOf 72 = .ok (.getfield 180, 3) := by decide +kernel
theorem d_Model_faultOf_75 : decode b_Model_faultOf 75 = .ok (.if_icmp .ge 168, 3) := by decide +kernel
theorem d_Model_faultOf_78 : decode b_Model_faultOf 78 = .ok (.aload_n 0, 1) := by decide +kernel
theorem d_Model_faultOf_79 : decode b_Model_faultOf 79 = .ok (.getfield 23, 3) := by decide +kernel
theorem d_Model_faultOf_82 : decode b_Model_faultOf 82 = .ok (.iload 5, 2) := by decide +kernel
theorem d_Model_faultOf_84 : decode b_Model_faultOf 84 = .ok (.aaload, 1) := by decide +kernel
theorem d_Model_faultOf_85 : decode b_Model_faultOf 85 = .ok (.astore 6, 2) := by decide +kernel
theorem d_Model_faultOf_87 : decode b_Model_faultOf 87 = .ok (.aload 6, 2) := by decide +kernel
theorem d_Model_faultOf_89 : decode b_Model_faultOf 89 = .ok (.aload 6, 2) := by decide +kernel
theorem d_Model_faultOf_91 : decode b_Model_faultOf 91 = .ok (.getfield 353, 3) := by decide +kernel
theorem d_Model_faultOf_94 : decode b_Model_faultOf 94 = .ok (.aload 6, 2) := by decide +kernel
theorem d_Model_faultOf_96 : decode b_Model_faultOf 96 = .ok (.getfield 356, 3) := by decide +kernel
theorem d_Model_faultOf_99 : decode b_Model_faultOf 99 = .ok (.aload_n 2, 1) := by decide +kernel
theorem d_Model_faultOf_100 : decode b_Model_faultOf 100 = .ok (.aload_n 2, 1) := by decide +kernel
theorem d_Model_faultOf_101 : decode b_Model_faultOf 101 = .ok (.getfield 353, 3) := by decide +kernel
theorem d_Model_faultOf_104 : decode b_Model_faultOf 104 = .ok (.aload_n 2, 1) := by decide +kernel
theorem d_Model_faultOf_105 : decode b_Model_faultOf 105 = .ok (.getfield 356, 3) := by decide +kernel
theorem d_Model_faultOf_108 : decode b_Model_faultOf 108 = .ok (.invokevirtual 359, 3) := by decide +kernel
theorem d_Model_faultOf_111 : decode b_Model_faultOf 111 = .ok (.ifCond .eq 126, 3) := by decide +kernel
theorem d_Model_faultOf_114 : decode b_Model_faultOf 114 = .ok (.aload_n 3, 1) := by decide +kernel
theorem d_Model_faultOf_115 : decode b_Model_faultOf 115 = .ok (.getfield 234, 3) := by decide +kernel
theorem d_Model_faultOf_118 : decode b_Model_faultOf 118 = .ok (.ifCond .lt 15, 3) := by decide +kernel
theorem d_Model_faultOf_121 : decode b_Model_faultOf 121 = .ok (.aload_n 3, 1) := by decide +kernel
theorem d_Model_faultOf_122 : decode b_Model_faultOf 122 = .ok (.getfield 234, 3) := by decide +kernel
theorem d_Model_faultOf_125 : decode b_Model_faultOf 125 = .ok (.bipush 6, 2) := by decide +kernel
theorem d_Model_faultOf_127 : decode b_Model_faultOf 127 = .ok (.ishr, 1) := by decide +kernel
theorem d_Model_faultOf_128 : decode b_Model_faultOf 128 = .ok (.iconst 1, 1) := by decide +kernel
theorem d_Model_faultOf_129 : decode b_Model_faultOf 129 = .ok (.iand, 1) := by decide +kernel
theorem d_Model_faultOf_130 : decode b_Model_faultOf 130 = .ok (.ifCond .eq 107, 3) := by decide +kernel
theorem d_Model_faultOf_133 : decode b_Model_faultOf 133 = .ok (.aload_n 0, 1) := by decide +kernel
theorem d_Model_faultOf_134 : decode b_Model_faultOf 134 = .ok (.getfield 312, 3) := by decide +kernel
theorem d_Model_faultOf_137 : decode b_Model_faultOf 137 = .ok (.aload 6, 2) := by decide +kernel
theorem d_Model_faultOf_139 : decode b_Model_faultOf 139 = .ok (.getfield 213, 3) := by decide +kernel
theorem d_Model_faultOf_142 : decode b_Model_faultOf 142 = .ok (.lcmp, 1) := by decide +kernel
theorem d_Model_faultOf_143 : decode b_Model_faultOf 143 = .ok (.ifCond .lt 94, 3) := by decide +kernel
theorem d_Model_faultOf_146 : decode b_Model_faultOf 146 = .ok (.aload_n 0, 1) := by decide +kernel
theorem d_Model_faultOf_147 : decode b_Model_faultOf 147 = .ok (.getfield 312, 3) := by decide +kernel
theorem d_Model_faultOf_150 : decode b_Model_faultOf 150 = .ok (.aload 6, 2) := by decide +kernel
theorem d_Model_faultOf_152 : decode b_Model_faultOf 152 = .ok (.getfield 217, 3) := by decide +kernel
theorem d_Model_faultOf_155 : decode b_Model_faultOf 155 = .ok (.lcmp, 1) := by decide +kernel
theorem d_Model_faultOf_156 : decode b_Model_faultOf 156 = .ok (.ifCond .gt 81, 3) := by decide +kernel
theorem d_Model_faultOf_159 : decode b_Model_faultOf 159 = .ok (.aload 6, 2) := by decide +kernel
theorem d_Model_faultOf_161 : decode b_Model_faultOf 161 = .ok (.getfield 246, 3) := by decide +kernel
theorem d_Model_faultOf_164 : decode b_Model_faultOf 164 = .ok (.ifCond .gt 73, 3) := by decide +kernel
theorem d_Model_faultOf_167 : decode b_Model_faultOf 167 = .ok (.aload_n 0, 1) := by decide +kernel
theorem d_Model_faultOf_168 : decode b_Model_faultOf 168 = .ok (.aload 6, 2) := by decide +kernel
theorem d_Model_faultOf_170 : decode b_Model_faultOf 170 = .ok (.aload_n 3, 1) := by decide +kernel
theorem d_Model_faultOf_171 : decode b_Model_faultOf 171 = .ok (.invokevirtual 308, 3) := by decide +kernel
theorem d_Model_faultOf_174 : decode b_Model_faultOf 174 = .ok (.ifCond .ne 6, 3) := by decide +kernel
theorem d_Model_faultOf_177 : decode b_Model_faultOf 177 = .ok (.goto 60, 3) := by decide +kernel
theorem d_Model_faultOf_180 : decode b_Model_faultOf 180 = .ok (.iconst 1, 1) := by decide +kernel
theorem d_Model_faultOf_181 : decode b_Model_faultOf 181 = .ok (.istore 4, 2) := by decide +kernel
theorem d_Model_faultOf_183 : decode b_Model_faultOf 183 = .ok (.iconst 0, 1) := by decide +kernel
theorem d_Model_faultOf_184 : decode b_Model_faultOf 184 = .ok (.istore 7, 2) := by decide +kernel
theorem d_Model_faultOf_186 : decode b_Model_faultOf 186 = .ok (.iload 7, 2) := by decide +kernel
theorem d_Model_faultOf_188 : decode b_Model_faultOf 188 = .ok (.aload 6, 2) := by decide +kernel
theorem d_Model_faultOf_190 : decode b_Model_faultOf 190 = .ok (.getfield 255, 3) := by decide +kernel
theorem d_Model_faultOf_193 : decode b_Model_faultOf 193 = .ok (.if_icmp .ge 44, 3) := by decide +kernel
theorem d_Model_faultOf_196 : decode b_Model_faultOf 196 = .ok (.aload 6, 2) := by decide +kernel
theorem d_Model_faultOf_198 : decode b_Model_faultOf 198 = .ok (.aload 6, 2) := by decide +kernel
theorem d_Model_faultOf_200 : decode b_Model_faultOf 200 = .ok (.getfield 378, 3) := by decide +kernel
theorem d_Model_faultOf_203 : decode b_Model_faultOf 203 = .ok (.iload 7, 2) := by decide +kernel
theorem d_Model_faultOf_205 : decode b_Model_faultOf 205 = .ok (.iaload, 1) := by decide +kernel
theorem d_Model_faultOf_206 : decode b_Model_faultOf 206 = .ok (.aload 6, 2) := by decide +kernel
theorem d_Model_faultOf_208 : decode b_Model_faultOf 208 = .ok (.getfield 381, 3) := by decide +kernel
theorem d_Model_faultOf_211 : decode b_Model_faultOf 211 = .ok (.iload 7, 2) := by decide +kernel
theorem d_Model_faultOf_213 : decode b_Model_faultOf 213 = .ok (.iaload, 1) := by decide +kernel
theorem d_Model_faultOf_214 : decode b_Model_faultOf 214 = .ok (.aload_n 2, 1) := by decide +kernel
theorem d_Model_faultOf_215 : decode b_Model_faultOf 215 = .ok (.aload_n 2, 1) := by decide +kernel
theorem d_Model_faultOf_216 : decode b_Model_faultOf 216 = .ok (.getfield 252, 3) := by decide +kernel
theorem d_Model_faultOf_219 : decode b_Model_faultOf 219 = .ok (.aload_n 2, 1) := by decide +kernel
theorem d_Model_faultOf_220 : decode b_Model_faultOf 220 = .ok (.getfield 249, 3) := by decide +kernel
theorem d_Model_faultOf_223 : decode b_Model_faultOf 223 = .ok (.invokevirtual 359, 3) := by decide +kernel
theorem d_Model_faultOf_226 : decode b_Model_faultOf 226 = .ok (.ifCond .eq 5, 3) := by decide +kernel
theorem d_Model_faultOf_229 : decode b_Model_faultOf 229 = .ok (.iconst 3, 1) := by decide +kernel
theorem d_Model_faultOf_230 : decode b_Model_faultOf 230 = .ok (.ireturn, 1) := by decide +kernel
theorem d_Model_faultOf_231 : decode b_Model_faultOf 231 = .ok (.iinc 7 1, 3) := by decide +kernel
theorem d_Model_faultOf_234 : decode b_Model_faultOf 234 = .ok (.goto (-48), 3) := by decide +kernel
theorem d_Model_faultOf_237 : decode b_Model_faultOf 237 = .ok (.iinc 5 1, 3) := by decide +kernel
theorem d_Model_faultOf_240 : decode b_Model_faultOf 240 = .ok (.goto (-171), 3) := by decide +kernel
theorem d_Model_faultOf_243 : decode b_Model_faultOf 243 = .ok (.aload_n 0, 1) := by decide +kernel
theorem d_Model_faultOf_244 : decode b_Model_faultOf 244 = .ok (.getfield 318, 3) := by decide +kernel
theorem d_Model_faultOf_247 : decode b_Model_faultOf 247 = .ok (.ifCond .eq 10, 3) := by decide +kernel
theorem d_Model_faultOf_250 : decode b_Model_faultOf 250 = .ok (.iload 4, 2) := by decide +kernel
theorem d_Model_faultOf_252 : decode b_Model_faultOf 252 = .ok (.ifCond .ne 5, 3) := by decide +kernel
theorem d_Model_faultOf_255 : decode b_Model_faultOf 255 = .ok (.iconst 4, 1) := by decide +kernel
theorem d_Model_faultOf_256 : decode b_Model_faultOf 256 = .ok (.ireturn, 1) := by decide +kernel
theorem d_Model_faultOf_257 : decode b_Model_faultOf 257 = .ok (.iload_n 1, 1) := by decide +kernel
theorem d_Model_faultOf_258 : decode b_Model_faultOf 258 = .ok (.ifCond .eq 10, 3) := by decide +kernel
theorem d_Model_faultOf_261 : decode b_Model_faultOf 261 = .ok (.aload_n 2, 1) := by decide +kernel
theorem d_Model_faultOf_262 : decode b_Model_faultOf 262 = .ok (.invokevirtual 384, 3) := by decide +kernel
theorem d_Model_faultOf_265 : decode b_Model_faultOf 265 = .ok (.ifCond .ne 14, 3) := by decide +kernel
theorem d_Model_faultOf_268 : decode b_Model_faultOf 268 = .ok (.aload_n 0, 1) := by decide +kernel
theorem d_Model_faultOf_269 : decode b_Model_faultOf 269 = .ok (.aload_n 2, 1) := by decide +kernel
theorem d_Model_faultOf_270 : decode b_Model_faultOf 270 = .ok (.iload_n 1, 1) := by decide +kernel
theorem d_Model_faultOf_271 : decode b_Model_faultOf 271 = .ok (.invokevirtual 387, 3) := by decide +kernel
theorem d_Model_faultOf_274 : decode b_Model_faultOf 274 = .ok (.ifCond .ne 5, 3) := by decide +kernel
theorem d_Model_faultOf_277 : decode b_Model_faultOf 277 = .ok (.iconst 5, 1) := by decide +kernel
theorem d_Model_faultOf_278 : decode b_Model_faultOf 278 = .ok (.ireturn, 1) := by decide +kernel
theorem d_Model_faultOf_279 : decode b_Model_faultOf 279 = .ok (.aload_n 2, 1) := by decide +kernel
theorem d_Model_faultOf_280 : decode b_Model_faultOf 280 = .ok (.getfield 246, 3) := by decide +kernel
theorem d_Model_faultOf_283 : decode b_Model_faultOf 283 = .ok (.ifCond .le 6, 3) := by decide +kernel
theorem d_Model_faultOf_286 : decode b_Model_faultOf 286 = .ok (.bipush 6, 2) := by decide +kernel
theorem d_Model_faultOf_288 : decode b_Model_faultOf 288 = .ok (.ireturn, 1) := by decide +kernel
theorem d_Model_faultOf_289 : decode b_Model_faultOf 289 = .ok (.iload_n 1, 1) := by decide +kernel
theorem d_Model_faultOf_290 : decode b_Model_faultOf 290 = .ok (.ifCond .ne 5, 3) := by decide +kernel
theorem d_Model_faultOf_293 : decode b_Model_faultOf 293 = .ok (.iconst 0, 1) := by decide +kernel
theorem d_Model_faultOf_294 : decode b_Model_faultOf 294 = .ok (.ireturn, 1) := by decide +kernel
theorem d_Model_faultOf_295 : decode b_Model_faultOf 295 = .ok (.aload_n 2, 1) := by decide +kernel
theorem d_Model_faultOf_296 : decode b_Model_faultOf 296 = .ok (.getfield 229, 3) := by decide +kernel
theorem d_Model_faultOf_299 : decode b_Model_faultOf 299 = .ok (.ifCond .ne 6, 3) := by decide +kernel
theorem d_Model_faultOf_302 : decode b_Model_faultOf 302 = .ok (.bipush 7, 2) := by decide +kernel
theorem d_Model_faultOf_304 : decode b_Model_faultOf 304 = .ok (.ireturn, 1) := by decide +kernel
theorem d_Model_faultOf_305 : decode b_Model_faultOf 305 = .ok (.iload_n 1, 1) := by decide +kernel
theorem d_Model_faultOf_306 : decode b_Model_faultOf 306 = .ok (.iconst 1, 1) := by decide +kernel
theorem d_Model_faultOf_307 : decode b_Model_faultOf 307 = .ok (.iadd, 1) := by decide +kernel
theorem d_Model_faultOf_308 : decode b_Model_faultOf 308 = .ok (.istore 5, 2) := by decide +kernel
theorem d_Model_faultOf_310 : decode b_Model_faultOf 310 = .ok (.iload 5, 2) := by decide +kernel
theorem d_Model_faultOf_312 : decode b_Model_faultOf 312 = .ok (.aload_n 0, 1) := by decide +kernel
theorem d_Model_faultOf_313 : decode b_Model_faultOf 313 = .ok (.getfield 333, 3) := by decide +kernel
theorem d_Model_faultOf_316 : decode b_Model_faultOf 316 = .ok (.iconst 1, 1) := by decide +kernel
theorem d_Model_faultOf_317 : decode b_Model_faultOf 317 = .ok (.isub, 1) := by decide +kernel
theorem d_Model_faultOf_318 : decode b_Model_faultOf 318 = .ok (.if_icmp .ge 84, 3) := by decide +kernel
theorem d_Model_faultOf_321 : decode b_Model_faultOf 321 = .ok (.aload_n 0, 1) := by decide +kernel
theorem d_Model_faultOf_322 : decode b_Model_faultOf 322 = .ok (.getfield 19, 3) := by decide +kernel
theorem d_Model_faultOf_325 : decode b_Model_faultOf 325 = .ok (.aload_n 0, 1) := by decide +kernel
theorem d_Model_faultOf_326 : decode b_Model_faultOf 326 = .ok (.getfield 136, 3) := by decide +kernel
theorem d_Model_faultOf_329 : decode b_Model_faultOf 329 = .ok (.iload 5, 2) := by decide +kernel
theorem d_Model_faultOf_331 : decode b_Model_faultOf 331 = .ok (.iaload, 1) := by decide +kernel
theorem d_Model_faultOf_332 : decode b_Model_faultOf 332 = .ok (.aaload, 1) := by decide +kernel
theorem d_Model_faultOf_333 : decode b_Model_faultOf 333 = .ok (.astore 6, 2) := by decide +kernel
theorem d_Model_faultOf_335 : decode b_Model_faultOf 335 = .ok (.iconst 0, 1) := by decide +kernel
theorem d_Model_faultOf_336 : decode b_Model_faultOf 336 = .ok (.istore 7, 2) := by decide +kernel
theorem d_Model_faultOf_338 : decode b_Model_faultOf 338 = .ok (.iload_n 1, 1) := by decide +kernel
theorem d_Model_faultOf_339 : decode b_Model_faultOf 339 = .ok (.istore 8, 2) := by decide +kernel
theorem d_Model_faultOf_341 : decode b_Model_faultOf 341 = .ok (.iload 8, 2) := by decide +kernel
theorem d_Model_faultOf_343 : decode b_Model_faultOf 343 = .ok (.iload 5, 2) := by decide +kernel
theorem d_Model_faultOf_345 : decode b_Model_faultOf 345 = .ok (.if_icmp .ge 30, 3) := by decide +kernel
theorem d_Model_faultOf_348 : decode b_Model_faultOf 348 = .ok (.aload_n 0, 1) := by decide +kernel
theorem d_Model_faultOf_349 : decode b_Model_faultOf 349 = .ok (.getfield 19, 3) := by decide +kernel
theorem d_Model_faultOf_352 : decode b_Model_faultOf 352 = .ok (.aload_n 0, 1) := by decide +kernel
theorem d_Model_faultOf_353 : decode b_Model_faultOf 353 = .ok (.getfield 136, 3) := by decide +kernel
theorem d_Model_faultOf_356 : decode b_Model_faultOf 356 = .ok (.iload 8, 2) := by decide +kernel
theorem d_Model_faultOf_358 : decode b_Model_faultOf 358 = .ok (.iaload, 1) := by decide +kernel
theorem d_Model_faultOf_359 : decode b_Model_faultOf 359 = .ok (.aaload, 1) := by decide +kernel
theorem d_Model_faultOf_360 : decode b_Model_faultOf 360 = .ok (.invokevirtual 384, 3) := by decide +kernel
theorem d_Model_faultOf_363 : decode b_Model_faultOf 363 = .ok (.ifCond .ne 6, 3) := by decide +kernel
theorem d_Model_faultOf_366 : decode b_Model_faultOf 366 = .ok (.iinc 7 1, 3) := by decide +kernel
theorem d_Model_faultOf_369 : decode b_Model_faultOf 369 = .ok (.iinc 8 1, 3) := by decide +kernel
theorem d_Model_faultOf_372 : decode b_Model_faultOf 372 = .ok (.goto (-31), 3) := by decide +kernel
theorem d_Model_faultOf_375 : decode b_Model_faultOf 375 = .ok (.aload 6, 2) := by decide +kernel
theorem d_Model_faultOf_377 : decode b_Model_faultOf 377 = .ok (.getfield 232, 3) := by decide +kernel
theorem d_Model_faultOf_380 : decode b_Model_faultOf 380 = .ok (.ifCond .lt 16, 3) := by decide +kernel
theorem d_Model_faultOf_383 : decode b_Model_faultOf 383 = .ok (.aload 6, 2) := by decide +kernel
theorem d_Model_faultOf_385 : decode b_Model_faultOf 385 = .ok (.getfield 232, 3) := by decide +kernel
theorem d_Model_faultOf_388 : decode b_Model_faultOf 388 = .ok (.iload 7, 2) := by decide +kernel
theorem d_Model_faultOf_390 : decode b_Model_faultOf 390 = .ok (.if_icmp .ge 6, 3) := by decide +kernel
theorem d_Model_faultOf_393 : decode b_Model_faultOf 393 = .ok (.bipush 8, 2) := by decide +kernel
theorem d_Model_faultOf_395 : decode b_Model_faultOf 395 = .ok (.ireturn, 1) := by decide +kernel
theorem d_Model_faultOf_396 : decode b_Model_faultOf 396 = .ok (.iinc 5 1, 3) := by decide +kernel
theorem d_Model_faultOf_399 : decode b_Model_faultOf 399 = .ok (.goto (-89), 3) := by decide +kernel
theorem d_Model_faultOf_402 : decode b_Model_faultOf 402 = .ok (.aload_n 2, 1) := by decide +kernel
theorem d_Model_faultOf_403 : decode b_Model_faultOf 403 = .ok (.getfield 234, 3) := by decide +kernel
theorem d_Model_faultOf_406 : decode b_Model_faultOf 406 = .ok (.ifCond .lt 19, 3) := by decide +kernel
theorem d_Model_faultOf_409 : decode b_Model_faultOf 409 = .ok (.aload_n 2, 1) := by decide +kernel
theorem d_Model_faultOf_410 : decode b_Model_faultOf 410 = .ok (.getfield 234, 3) := by decide +kernel
theorem d_Model_faultOf_413 : decode b_Model_faultOf 413 = .ok (.iconst 5, 1) := by decide +kernel
theorem d_Model_faultOf_414 : decode b_Model_faultOf 414 = .ok (.ishr, 1) := by decide +kernel
theorem d_Model_faultOf_415 : decode b_Model_faultOf 415 = .ok (.iconst 1, 1) := by decide +kernel
theorem d_Model_faultOf_416 : decode b_Model_faultOf 416 = .ok (.iand, 1) := by decide +kernel
theorem d_Model_faultOf_417 : decode b_Model_faultOf 417 = .ok (.ifCond .ne 8, 3) := by decide +kernel
theorem d_Model_faultOf_420 : decode b_Model_faultOf 420 = .ok (.bipush 9, 2) := by decide +kernel
theorem d_Model_faultOf_422 : decode b_Model_faultOf 422 = .ok (.goto 4, 3) := by decide +kernel
theorem d_Model_faultOf_425 : decode b_Model_faultOf 425 = .ok (.iconst 0, 1) := by decide +kernel
theorem d_Model_faultOf_426 : decode b_Model_faultOf 426 = .ok (.ireturn, 1) := by decide +kernel
set_option maxHeartbeats 4000000 in
set_option maxRecDepth 100000 in
theorem m_Model_faultOf (l : Launch) (dC : Nat → ClassId) (dI : Nat → Nat → Nat) (sb : sB) (γ : cG) (κ : kE) (Ad : List Nat) (τ : Nat → TD) (gT : ClassId) (G : va_W) (mo : Nat) (moc msT mrV msP mrA mbA mwA mhA mfA mpA mxA myA mmA mqA mzA mwy mfd : Nat) (mer mfed mwr mqs mch mft mpt mdp mvd mmk : Int32) (mnw : Int64) (s9 K9 KL c9 : Nat) (fm fr fw ff : Nat → Int32) (fS fV : Nat → Option Nat) (wl : List Nat) (i9 : Nat) (sz : Nat) (hTy : TR γ κ Ad τ G) (kmo : Xc Ad mo (.inr (12, (.int mer :: .int mfed :: .int mwr :: .int (nI K9) :: .int (nI KL) :: .ref moc :: .ref msT :: .ref mrV :: .ref msP :: .int mqs :: .ref mrA :: .ref mbA :: .ref mwA :: .ref mhA :: .ref mfA :: .ref mpA :: .ref mxA :: .ref myA :: .ref mmA :: .ref mqA :: .ref mzA :: .ref mwy :: .ref mfd :: .int (nI s9) :: .int (nI c9) :: .int mch :: .int mft :: .int mpt :: .int mdp :: .int mvd :: .long mnw :: .int mmk :: []))) G) (kmmA : Xc Ad mmA (.inl (γ.2.1, 600, .inl fm)) G) (kmrA : Xc Ad mrA (.inl (γ.2.1, 600, .inl fr)) G) (kmwy : Xc Ad mwy (.inl (γ.2.1, 16, .inl fw)) G) (kmsT : Xc Ad msT (.inl (gT, 16, .inr (.inr (.inr (.inr fS))))) G) (kmrV : Xc Ad mrV (.inl (gT, 8, .inr (.inr (.inr (.inr fV))))) G) (kmfd : Xc Ad mfd (.inl (γ.2.1, 16, .inl ff)) G) (kmzA : tK κ Ad mzA (6, 600, 6)) (kmqA : tK κ Ad mqA (6, 600, 4)) (kmyA : tK κ Ad myA (6, 600, 5)) (kmxA : tK κ Ad mxA (6, 600, 3)) (kmbA : tK κ Ad mbA (6, 2176, 0)) (kmwA : tK κ Ad mwA (6, 64, 0)) (kmhA : tK κ Ad mhA (6, 8, 0)) (kmpA : tK κ Ad mpA (6, 64, 2)) (kmfA : tK κ Ad mfA (6, 8, 1)) (hx_mo_mmA : mo ≠ mmA) (hx_mo_mrA : mo ≠ mrA) (hx_mo_mwy : mo ≠ mwy) (hx_mo_msT : mo ≠ msT) (hx_mo_mrV : mo ≠ mrV) (hx_mo_mfd : mo ≠ mfd) (hx_mmA_mrA : mmA ≠ mrA) (hx_mmA_mwy : mmA ≠ mwy) (hx_mmA_msT : mmA ≠ msT) (hx_mmA_mrV : mmA ≠ mrV) (hx_mmA_mfd : mmA ≠ mfd) (hx_mrA_mwy : mrA ≠ mwy) (hx_mrA_msT : mrA ≠ msT) (hx_mrA_mrV : mrA ≠ mrV) (hx_mrA_mfd : mrA ≠ mfd) (hx_mwy_msT : mwy ≠ msT) (hx_mwy_mrV : mwy ≠ mrV) (hx_mwy_mfd : mwy ≠ mfd) (hx_msT_mrV : msT ≠ mrV) (hx_msT_mfd : msT ≠ mfd) (hx_mrV_mfd : mrV ≠ mfd) (hst : STc κ Ad τ K9 fS) (hrv : STl κ Ad τ KL fV) (hway : wyR wl K9 fw) (hwl : wl.length = s9) (hK9 : K9 ≤ 16) (hKL : KL ≤ 8) (hs9 : s9 ≤ 16) (hfm : bR fm) (hfr : bR fr) (hmk : b01 mmk) (hma : ∀ l9, l9 < KL → ¬ (τ ((fV l9).getD 0)).I 30 < 0) (hi9 : i9 + 2 ≤ s9) : Met l y_Model_faultOf w_Model_faultOf ({ frames := 6, cells := 0, slots := 0, locals := 139 }) (mu_P [.ref mo, .int (nI i9)] (dC, dI) sb G [(γ.1, .byte), (γ.2.1, .int), (γ.2.2.1, .long), (γ.2.2.2, .object "java/lang/Object"), (gT, .object "TrustChainModel$Text")] sz) (va_Qi (fun r (G' : va_W) => TR γ κ Ad τ G' ∧ FL Ad [mo, mmA, mrA] G G' ∧ (r = (rFT τ fS fV KL mnw mmk wl) i9 ∧ (∃ q9 : Int32, Xc Ad mo (.inr (12, (.int mer :: .int mfed :: .int mwr :: .int (nI K9) :: .int (nI KL) :: .ref moc :: .ref msT :: .ref mrV :: .ref msP :: .int q9 :: .ref mrA :: .ref mbA :: .ref mwA :: .ref mhA :: .ref mfA :: .ref mpA :: .ref mxA :: .ref myA :: .ref mmA :: .ref mqA :: .ref mzA :: .ref mwy :: .ref mfd :: .int (nI s9) :: .int (nI c9) :: .int mch :: .int mft :: .int mpt :: .int mdp :: .int mvd :: .long mnw :: .int mmk :: []))) G') ∧ (∃ f9 : Nat → Int32, bR f9 ∧ Xc Ad mmA (.inl (γ.2.1, 600, .inl f9)) G') ∧ (∃ f9 : Nat → Int32, bR f9 ∧ Xc Ad mrA (.inl (γ.2.1, 600, .inl f9)) G'))) (mu_B (dC, dI) [(γ.1, .byte), (γ.2.1, .int), (γ.2.2.1, .long), (γ.2.2.2, .object "java/lang/Object"), (gT, .object "TrustChainModel$Text")] (va_A G sz) (fun G' : va_W => G')) (va_A G sz)) 0 0 (va_A G sz) := by
  refine Met.ofW (cc := b_Model_faultOf) (maxL := 9) (ret := (some FieldType.int)) (by decide) rfl ?_
  intro p e s m args below meth c s₁ B hml hv
  obtain ⟨rfl, hsz, hB0, hP, hK, hD0, hN, hT0⟩ := hv
  have hx := B.exec
  have hb := B.bytes
  have hr := B.returns
  have hts := atoms_spec (ws := w_Model_faultOf) B.pre
  have tbin : ∀ w ∈ tb, w ∈ w_Model_faultOf := fun w h => List.mem_cons_of_mem _ h
  have htb : ∀ w ∈ tb, w.before _ s = true := fun w h => hts w (tbin w h)
  have hown : s.vm.findClass "TrustChainModel" = some m.cls := findClass_of_methodNamed B.named
  have hlocks := B.notSynchronized
  subst hsz
  have hD := hD0.self (sz := s.heap.size)
  generalize hAe : va_A G s.heap.size = A at hD ⊢
  have hA : ∀ q : Nat, s.heap.size ≤ q → A q := fun q h => by rw [← hAe]; exact Or.inr h
  have hAs : ∀ q : Nat, A q → sb.1 ≤ q := fun q h => by
    rw [← hAe] at h
    rcases h with ⟨k, e, h⟩ | h
    · exact hD0.2 k _ h
    · exact Nat.le_trans hB0 h
  have hS : va_S A s.heap s.heap [] := va_S.rf
  have hFR := FL.rf Ad [mo, mmA, mrA] G
  have hcs : 0 ≤ (headSpec w_Model_faultOf ({ frames := 6, cells := 0, slots := 0, locals := 139 })).room.cells ∧ 0 ≤ (headSpec w_Model_faultOf ({ frames := 6, cells := 0, slots := 0, locals := 139 })).room.slots := ⟨Nat.le_refl _, Nat.le_refl _⟩
  have hP : va_P (dC, dI) classes G s.heap := hP
  have hl := lv_entry ([.ref mo, .int (nI i9)]) (n := 9) (Nat.le_of_ble_eq_true rfl)
  rw [lg_entry_eq]
  generalize (lg_sl ([.ref mo, .int (nI i9)]) ++ List.replicate (9 - (lg_sl ([.ref mo, .int (nI i9)])).length) Slot.unset).toArray = ls at hl ⊢
  have hl : lv_has ls 9 [(0, .ref mo), (1, .int (nI i9))] := hl
  obtain ⟨cX_mo, eX_mo⟩ : ∃ z : va_E, z = .inr (12, (.int mer :: .int mfed :: .int mwr :: .int (nI K9) :: .int (nI KL) :: .ref moc :: .ref msT :: .ref mrV :: .ref msP :: .int mqs :: .ref mrA :: .ref mbA :: .ref mwA :: .ref mhA :: .ref mfA :: .ref mpA :: .ref mxA :: .ref myA :: .ref mmA :: .ref mqA :: .ref mzA :: .ref mwy :: .ref mfd :: .int (nI s9) :: .int (nI c9) :: .int mch :: .int mft :: .int mpt :: .int mdp :: .int mvd :: .long mnw :: .int mmk :: [])) := ⟨_, rfl⟩
  rw [← eX_mo] at kmo
  refine lv_aload_n hx hb d_Model_faultOf_0 rfl (lv_at hl 0 rfl) ?_
  obtain ⟨i_1, hg_1⟩ := List.getElem?_of_mem kmo.2
  rw [eX_mo] at hg_1
  refine va_get (v := .ref msT) hx hb htb i_Model hown hK hP i_1 hg_1 rfl 6 (by decide) (htb _ q7_220) (fun _ h9 => h9) rfl d_Model_faultOf_1 ?_
  refine lv_aload_n hx hb d_Model_faultOf_4 rfl (lv_at hl 0 rfl) ?_
  refine va_get (v := .ref mwy) hx hb htb i_Model hown hK hP i_1 hg_1 rfl 21 (by decide) (htb _ q7_235) (fun _ h9 => h9) rfl d_Model_faultOf_5 ?_
  refine lv_iload_n hx hb d_Model_faultOf_8 rfl (lv_at hl 1 rfl) ?_
  obtain ⟨i_2, hg_2⟩ := List.getElem?_of_mem kmwy.2
  have h9 : vp_in (nI i9) 16 := vp_in_nI (by omega) (by omega)
  refine va_iald hx hb hK hP i_2 1 hg_2 rfl h9 d_Model_faultOf_9 ?_
  refine lv_topi (fun e9 he9 => ?_)
  have hw9 := hway i9 (by omega)
  rw [nI_clamp (by omega), hw9.2] at he9
  have hw9 := hw9.1
  subst he9
  obtain ⟨i_3, hg_3⟩ := List.getElem?_of_mem kmsT.2
  have h10 : vp_in (nI (wl.getD i9 0)) 16 := vp_in_nI (by omega) (by omega)
  refine va_aldq hx hb hK hP i_3 4 hg_3 rfl h10 d_Model_faultOf_10 ?_
  obtain ⟨t_4, ft_4, kt_4, hc_4⟩ := hst (wl.getD i9 0) (by omega)
  obtain rfl : t_4 = ((fS (wl.getD i9 0)).getD 0) := by rw [ft_4]; rfl
  rw [show va_rf (fS (nI (wl.getD i9 0)).toNatClampNeg) = .ref ((fS (wl.getD i9 0)).getD 0) from by rw [nI_clamp (by omega), ft_4]; rfl]
  have b1_4 := hc_4.b1
  have b2_4 := hc_4.b2
  have b3_4 := hc_4.b3
  have b4_4 := hc_4.b4
  have b5_4 := hc_4.b5
  have b6_4 := hc_4.b6
  have b8_4 := hc_4.b8
  have b9_4 := hc_4.b9
  refine lv_astore_n (lv' := [(2, .ref ((fS (wl.getD i9 0)).getD 0)), (0, .ref mo), (1, .int (nI i9))]) hx hb d_Model_faultOf_11 rfl hl (by decide) rfl (fun ls hl => ?_)
  refine lv_aload_n hx hb d_Model_faultOf_12 rfl (lv_at hl 1 rfl) ?_
  refine va_get (v := .ref msT) hx hb htb i_Model hown hK hP i_1 hg_1 rfl 6 (by decide) (htb _ q7_220) (fun _ h9 => h9) rfl d_Model_faultOf_13 ?_
  refine lv_aload_n hx hb d_Model_faultOf_16 rfl (lv_at hl 1 rfl) ?_
  refine va_get (v := .ref mwy) hx hb htb i_Model hown hK hP i_1 hg_1 rfl 21 (by decide) (htb _ q7_235) (fun _ h9 => h9) rfl d_Model_faultOf_17 ?_
  refine lv_iload_n hx hb d_Model_faultOf_20 rfl (lv_at hl 2 rfl) ?_
  refine lv_iconst (v := 1) hx hb d_Model_faultOf_21 (by decide) ?_
  refine lv_iadd hx hb d_Model_faultOf_22 ?_
  rw [show ((nI i9) + 1 : Int32) = nI (i9 + 1) from nI_add i9 1]
  have h23 : vp_in (nI (i9 + 1)) 16 := vp_in_nI (by omega) (by omega)
  refine va_iald hx hb hK hP i_2 1 hg_2 rfl h23 d_Model_faultOf_23 ?_
  refine lv_topi (fun e23 he23 => ?_)
  have hw23 := hway (i9 + 1) (by omega)
  rw [nI_clamp (by omega), hw23.2] at he23
  have hw23 := hw23.1
  subst he23
  have h24 : vp_in (nI (wl.getD (i9 + 1) 0)) 16 := vp_in_nI (by omega) (by omega)
  refine va_aldq hx hb hK hP i_3 4 hg_3 rfl h24 d_Model_faultOf_24 ?_
  obtain ⟨t_5, ft_5, kt_5, hc_5⟩ := hst (wl.getD (i9 + 1) 0) (by omega)
  obtain rfl : t_5 = ((fS (wl.getD (i9 + 1) 0)).getD 0) := by rw [ft_5]; rfl
  rw [show va_rf (fS (nI (wl.getD (i9 + 1) 0)).toNatClampNeg) = .ref ((fS (wl.getD (i9 + 1) 0)).getD 0) from by rw [nI_clamp (by omega), ft_5]; rfl]
  have b1_5 := hc_5.b1
  have b2_5 := hc_5.b2
  have b3_5 := hc_5.b3
  have b4_5 := hc_5.b4
  have b5_5 := hc_5.b5
  have b6_5 := hc_5.b6
  have b8_5 := hc_5.b8
  have b9_5 := hc_5.b9
  refine lv_astore_n (lv' := [(3, .ref ((fS (wl.getD (i9 + 1) 0)).getD 0)), (2, .ref ((fS (wl.getD i9 0)).getD 0)), (0, .ref mo), (1, .int (nI i9))]) hx hb d_Model_faultOf_25 rfl hl (by decide) rfl (fun ls hl => ?_)
  refine lv_aload_n hx hb d_Model_faultOf_26 rfl (lv_at hl 2 rfl) ?_
  refine lv_aload_n hx hb d_Model_faultOf_27 rfl (lv_at hl 1 rfl) ?_
  refine lv_aload_n hx hb d_Model_faultOf_28 rfl (lv_at hl 0 rfl) ?_
  have hFc := va_free (wc := G) hD hS hA (List.range G.length) (rg_is _)
  refine va_calli (mu_runV (As := [.ref ((fS (wl.getD i9 0)).getD 0), .ref ((fS (wl.getD (i9 + 1) 0)).getD 0)]) (rest := []) ⟨hx, hb, hml, hown, hts⟩ tbin (m9_Model_isSigned l dC dI sb γ κ Ad τ gT G mo ((fS (wl.getD i9 0)).getD 0) ((fS (wl.getD (i9 + 1) 0)).getD 0) _ _ _ _ _ _ _ _ _ _ _ _ _ _ _ _ _ _ _ _ _ _ _ _ _ _ _ _ _ _ _ _ _ _ s.heap.size hTy (by have h9 := kmo; rw [eX_mo] at h9; exact h9) kt_4 kt_5 kmmA kmrA kmzA kmqA kmyA kmxA kmbA kmwA kmhA kmpA kmfA hx_mo_mmA hx_mo_mrA hx_mmA_mrA hc_4.toTB hc_5 hfm hfr) q9_96 q9_98 qp_42 q1_9 q9_99 (n := 2) (by decide +kernel) rfl ⟨rfl, rfl⟩ ⟨Nat.le_of_ble_eq_true rfl, Nat.le_of_ble_eq_true rfl⟩ ⟨Nat.le_of_ble_eq_true rfl, Nat.le_of_ble_eq_true rfl⟩ hN (hT0.keep hS hAs) hAs (Nat.le_trans hB0 hS.1) hK hP hD (List.range G.length) (rg_nd _) (rg_is _) [0, 1, 2, 3, 4] rfl i_1 12 hg_1 rfl rfl hl.1 rfl (Nat.le_of_ble_eq_true rfl) d_Model_faultOf_29) hS (fun q _ h => hFc q h) hFc (fun r29 G_6 tS H29 locs ht hvm hw29 hB hz1 hk1 hS => ?_)
  obtain ⟨hTy, hF9, hr29⟩ := hw29
  have kmwy := kmwy.fl hF9 (q_nmc (hx_mo_mwy.symm) (q_nmc (hx_mmA_mwy.symm) (q_nmc (hx_mrA_mwy.symm) (q_nmn))))
  have kmsT := kmsT.fl hF9 (q_nmc (hx_mo_msT.symm) (q_nmc (hx_mmA_msT.symm) (q_nmc (hx_mrA_msT.symm) (q_nmn))))
  have kmrV := kmrV.fl hF9 (q_nmc (hx_mo_mrV.symm) (q_nmc (hx_mmA_mrV.symm) (q_nmc (hx_mrA_mrV.symm) (q_nmn))))
  have kmfd := kmfd.fl hF9 (q_nmc (hx_mo_mfd.symm) (q_nmc (hx_mmA_mfd.symm) (q_nmc (hx_mrA_mfd.symm) (q_nmn))))
  have hFR := hFR.tr (hF9.up (q_gac (by simp) (q_gac (by simp) (q_gac (by simp) (q_gan)))))
  obtain ⟨hP1, hK1, hD1⟩ := hB
  rw [ht] at hP1
  have hP : va_P (dC, dI) classes G_6 H29 := hP1
  have hD : va_D A G_6 := hD1.weaken (fun _ _ _ h => hFc _ h)
  obtain ⟨hz29, ⟨q29, kmo⟩, ⟨fa29, hfm, kmmA⟩, ⟨fb29, hfr, kmrA⟩⟩ := hr29
  obtain ⟨cX_7, eX_7⟩ : ∃ z : va_E, z = .inr (12, (.int mer :: .int mfed :: .int mwr :: .int (nI K9) :: .int (nI KL) :: .ref moc :: .ref msT :: .ref mrV :: .ref msP :: .int q29 :: .ref mrA :: .ref mbA :: .ref mwA :: .ref mhA :: .ref mfA :: .ref mpA :: .ref mxA :: .ref myA :: .ref mmA :: .ref mqA :: .ref mzA :: .ref mwy :: .ref mfd :: .int (nI s9) :: .int (nI c9) :: .int mch :: .int mft :: .int mpt :: .int mdp :: .int mvd :: .long mnw :: .int mmk :: [])) := ⟨_, rfl⟩
  rw [← eX_7] at kmo
  obtain rfl := Eq.symm (bz_zP hz29)
  refine lv_if_ne (tgt := 37) hx hb d_Model_faultOf_32 (by decide) (fun c32 => ?_) (fun c32 => ?_)
  · have p32 : sgT (τ ((fS (wl.getD i9 0)).getD 0)) (τ ((fS (wl.getD (i9 + 1) 0)).getD 0)) := (zP_1 c32)
    refine lv_aload_n hx hb d_Model_faultOf_37 rfl (lv_at hl 2 rfl) ?_
    obtain ⟨i_8, hg_8⟩ := List.getElem?_of_mem kmo.2
    rw [eX_7] at hg_8
    refine va_get (v := .long mnw) hx hb htb i_Model hown hK hP i_8 hg_8 rfl 30 (by decide) (htb _ q8_4) (fun _ h9 => h9) rfl d_Model_faultOf_38 ?_
    refine lv_aload_n hx hb d_Model_faultOf_41 rfl (lv_at hl 1 rfl) ?_
    obtain ⟨i_9, kA_9, hg_9⟩ := tr_20 hTy kt_4
    refine va_get (v := .long ((τ ((fS (wl.getD i9 0)).getD 0)).J 7)) hx hb htb i_Text hown hK hP i_9 hg_9 rfl 7 (by decide) (htb _ q6_188) (fun _ h9 => h9) rfl d_Model_faultOf_42 ?_
    refine W.lcmp hx hb d_Model_faultOf_45 ?_
    refine lv_if_lt (tgt := 61) hx hb d_Model_faultOf_46 (by decide) (fun c46 => ?_) (fun c46 => ?_)
    · have p46 : (lg_cmp mnw ((τ ((fS (wl.getD i9 0)).getD 0)).J 7)) < (0 : Int32) := c46
      refine lv_iconst (v := 2) hx hb d_Model_faultOf_61 (by decide) ?_
      exact W.iret (v := 2) hx hb hr (fun t ht hW => ⟨⟨_, G_6, rfl, ⟨hTy, hFR, Eq.symm (if_nt (fun q9 => q9 p32) (if_pos (Or.inl (cmp_lt.mp p46)))), ⟨_, by rw [eX_7] at kmo; exact kmo⟩, ⟨_, hfm, kmmA⟩, ⟨_, hfr, kmrA⟩⟩, by rw [ht]; exact hP, va_K.moved hW.alike hK, hD⟩, hS.F ht⟩) hS.2.2 d_Model_faultOf_62
    · have p46 : ¬ ((lg_cmp mnw ((τ ((fS (wl.getD i9 0)).getD 0)).J 7)) < (0 : Int32)) := c46
      refine lv_aload_n hx hb d_Model_faultOf_49 rfl (lv_at hl 2 rfl) ?_
      refine va_get (v := .long mnw) hx hb htb i_Model hown hK hP i_8 hg_8 rfl 30 (by decide) (htb _ q8_4) (fun _ h9 => h9) rfl d_Model_faultOf_50 ?_
      refine lv_aload_n hx hb d_Model_faultOf_53 rfl (lv_at hl 1 rfl) ?_
      refine va_get (v := .long ((τ ((fS (wl.getD i9 0)).getD 0)).J 8)) hx hb htb i_Text hown hK hP i_9 hg_9 rfl 8 (by decide) (htb _ q6_190) (fun _ h9 => h9) rfl d_Model_faultOf_54 ?_
      refine W.lcmp hx hb d_Model_faultOf_57 ?_
      refine lv_if_le (tgt := 63) hx hb d_Model_faultOf_58 (by decide) (fun c58 => ?_) (fun c58 => ?_)
      · have p58 : (lg_cmp mnw ((τ ((fS (wl.getD i9 0)).getD 0)).J 8)) ≤ (0 : Int32) := c58
        refine lv_iconst (v := 0) hx hb d_Model_faultOf_63 (by decide) ?_
        refine lv_istore (lv' := [(4, .int 0), (3, .ref ((fS (wl.getD (i9 + 1) 0)).getD 0)), (2, .ref ((fS (wl.getD i9 0)).getD 0)), (0, .ref mo), (1, .int (nI i9))]) hx hb d_Model_faultOf_64 hl (by decide) rfl (fun ls hl => ?_)
        have e4 : (0 : Int32) = zP (∃ l8, l8 < 0 ∧ couQ (cXf τ fS) (lXf τ fV) (fun l9 b9 => sgT (τ ((fV l9).getD 0)) (τ ((fS b9).getD 0))) mnw (wl.getD i9 0) (wl.getD (i9 + 1) 0) l8) := zP_f (fun ⟨_, h9, _⟩ => absurd h9 (Nat.not_lt_zero _))
        have hl : lv_has ls 9 [(4, .int (zP (∃ l8, l8 < 0 ∧ couQ (cXf τ fS) (lXf τ fV) (fun l9 b9 => sgT (τ ((fV l9).getD 0)) (τ ((fS b9).getD 0))) mnw (wl.getD i9 0) (wl.getD (i9 + 1) 0) l8))), (3, .ref ((fS (wl.getD (i9 + 1) 0)).getD 0)), (2, .ref ((fS (wl.getD i9 0)).getD 0)), (0, .ref mo), (1, .int (nI i9))] := by rw [← e4]; exact hl
        refine lv_iconst (v := 0) hx hb d_Model_faultOf_66 (by decide) ?_
        refine lv_istore (lv' := [(5, .int 0), (4, .int (zP (∃ l8, l8 < 0 ∧ couQ (cXf τ fS) (lXf τ fV) (fun l9 b9 => sgT (τ ((fV l9).getD 0)) (τ ((fS b9).getD 0))) mnw (wl.getD i9 0) (wl.getD (i9 + 1) 0) l8))), (3, .ref ((fS (wl.getD (i9 + 1) 0)).getD 0)), (2, .ref ((fS (wl.getD i9 0)).getD 0)), (0, .ref mo), (1, .int (nI i9))]) hx hb d_Model_faultOf_67 hl (by decide) rfl (fun ls hl => ?_)
        refine w_loopW (α := Nat × (Nat → Int32) × (Nat → Int32) × Int32 × va_W) (fun a9 => 0 ≤ a9.1 ∧ a9.1 ≤ KL ∧ TR γ κ Ad τ a9.2.2.2.2 ∧ FL Ad [mo, mmA, mrA] G a9.2.2.2.2 ∧ Xc Ad mo (.inr (12, (.int mer :: .int mfed :: .int mwr :: .int (nI K9) :: .int (nI KL) :: .ref moc :: .ref msT :: .ref mrV :: .ref msP :: .int a9.2.2.2.1 :: .ref mrA :: .ref mbA :: .ref mwA :: .ref mhA :: .ref mfA :: .ref mpA :: .ref mxA :: .ref myA :: .ref mmA :: .ref mqA :: .ref mzA :: .ref mwy :: .ref mfd :: .int (nI s9) :: .int (nI c9) :: .int mch :: .int mft :: .int mpt :: .int mdp :: .int mvd :: .long mnw :: .int mmk :: []))) a9.2.2.2.2 ∧ Xc Ad mmA (.inl (γ.2.1, 600, .inl a9.2.1)) a9.2.2.2.2 ∧ Xc Ad mrA (.inl (γ.2.1, 600, .inl a9.2.2.1)) a9.2.2.2.2 ∧ Xc Ad mwy (.inl (γ.2.1, 16, .inl fw)) a9.2.2.2.2 ∧ Xc Ad msT (.inl (gT, 16, .inr (.inr (.inr (.inr fS))))) a9.2.2.2.2 ∧ Xc Ad mrV (.inl (gT, 8, .inr (.inr (.inr (.inr fV))))) a9.2.2.2.2 ∧ Xc Ad mfd (.inl (γ.2.1, 16, .inl ff)) a9.2.2.2.2 ∧ (bR a9.2.1 ∧ bR a9.2.2.1 ∧ ∀ l8, l8 < a9.1 → couQ (cXf τ fS) (lXf τ fV) (fun l9 b9 => sgT (τ ((fV l9).getD 0)) (τ ((fS b9).getD 0))) mnw (wl.getD i9 0) (wl.getD (i9 + 1) 0) l8 → ¬ ((cXf τ fS) (wl.getD i9 0)).se ∈ ((lXf τ fV) l8).en)) (fun a9 => KL - a9.1) (fun a9 => [(5, .int (nI a9.1)), (4, .int (zP (∃ l8, l8 < a9.1 ∧ couQ (cXf τ fS) (lXf τ fV) (fun l9 b9 => sgT (τ ((fV l9).getD 0)) (τ ((fS b9).getD 0))) mnw (wl.getD i9 0) (wl.getD (i9 + 1) 0) l8))), (3, .ref ((fS (wl.getD (i9 + 1) 0)).getD 0)), (2, .ref ((fS (wl.getD i9 0)).getD 0)), (0, .ref mo), (1, .int (nI i9))]) (fun _ => []) (fun a9 => a9.2.2.2.2) 9 69 (fun a9 HL69 locs ls hJ hP hD hS hl ih69 => ?_) (0, fa29, fb29, q29, G_6) _ _ ls ⟨by omega, by omega, hTy, hFR, (by have h9 := kmo; rw [eX_7] at h9; exact h9), kmmA, kmrA, kmwy, kmsT, kmrV, kmfd, ⟨hfm, hfr, fun l8 h9 => absurd h9 (Nat.not_lt_zero l8)⟩⟩ hP hD hS (lv_sub hl [0, 1, 2, 3, 4, 5] rfl)
        obtain ⟨z69, f69_mmA, f69_mrA, v69_mqs, G69⟩ := a9
        obtain ⟨hy69, hz69, hTy, hFR, kmo, kmmA, kmrA, kmwy, kmsT, kmrV, kmfd, hJ69⟩ := hJ
        dsimp only at hy69 hz69 hTy hFR kmo kmmA kmrA kmwy kmsT kmrV kmfd hP hD hl ih69 hJ69
        obtain ⟨cX_10, eX_10⟩ : ∃ z : va_E, z = .inr (12, (.int mer :: .int mfed :: .int mwr :: .int (nI K9) :: .int (nI KL) :: .ref moc :: .ref msT :: .ref mrV :: .ref msP :: .int v69_mqs :: .ref mrA :: .ref mbA :: .ref mwA :: .ref mhA :: .ref mfA :: .ref mpA :: .ref mxA :: .ref myA :: .ref mmA :: .ref mqA :: .ref mzA :: .ref mwy :: .ref mfd :: .int (nI s9) :: .int (nI c9) :: .int mch :: .int mft :: .int mpt :: .int mdp :: .int mvd :: .long mnw :: .int mmk :: [])) := ⟨_, rfl⟩
        rw [← eX_10] at kmo
        obtain ⟨hfm, hfr, hJk⟩ := hJ69
        refine lv_iload hx hb d_Model_faultOf_69 (lv_at hl 0 rfl) ?_
        refine lv_aload_n hx hb d_Model_faultOf_71 rfl (lv_at hl 4 rfl) ?_
        obtain ⟨i_11, hg_11⟩ := List.getElem?_of_mem kmo.2
        rw [eX_10] at hg_11
        refine va_get (v := .int (nI KL)) hx hb htb i_Model hown hK hP i_11 hg_11 rfl 4 (by decide) (htb _ q7_218) (fun _ h9 => h9) rfl d_Model_faultOf_72 ?_
        refine lv_icmp_ge (tgt := 243) hx hb d_Model_faultOf_75 (by decide) (fun c75 => ?_) (fun c75 => ?_)
        · have p75 : KL ≤ z69 := ((nI_leI (a := KL) (b := z69) (by omega) (by omega)).mp c75)
          refine lv_aload_n hx hb d_Model_faultOf_243 rfl (lv_at hl 4 rfl) ?_
          refine va_get (v := .int mmk) hx hb htb i_Model hown hK hP i_11 hg_11 rfl 31 (by decide) (htb _ q8_5) (fun _ h9 => h9) rfl d_Model_faultOf_244 ?_
          refine lv_if_eq (tgt := 257) hx hb d_Model_faultOf_247 (by decide) (fun c247 => ?_) (fun c247 => ?_)
          · have p247 : mmk = (0 : Int32) := c247
            refine lv_iload_n hx hb d_Model_faultOf_257 rfl (lv_at hl 5 rfl) ?_
            refine lv_if_eq (tgt := 268) hx hb d_Model_faultOf_258 (by decide) (fun c258 => ?_) (fun c258 => ?_)
            · have p258 : i9 = 0 := ((nI_eq (a := i9) (b := 0) (by omega) (by omega)).mp c258)
              refine lv_aload_n hx hb d_Model_faultOf_268 rfl (lv_at hl 4 rfl) ?_
              refine lv_aload_n hx hb d_Model_faultOf_269 rfl (lv_at hl 3 rfl) ?_
              refine lv_iload_n hx hb d_Model_faultOf_270 rfl (lv_at hl 5 rfl) ?_
              refine vp_callSi (pu_callV (As := [.ref ((fS (wl.getD i9 0)).getD 0), .int (nI i9)]) (rest := []) ⟨hx, hb, hml, hown, hts⟩ tbin (p_Model_namesMayBe l dC dI sb γ κ Ad τ gT G69 mo ((fS (wl.getD i9 0)).getD 0) _ _ _ _ _ _ _ _ _ _ _ _ _ _ _ _ _ _ _ _ _ _ _ _ _ _ _ _ _ _ _ _ _ _ _ _ hTy (by have h9 := kmo; rw [eX_10] at h9; exact h9) kt_4 hc_4 kmwy kmsT hst hway hwl (by omega) (by omega) (by omega)) q9_150 q9_152 qp_48 q1_9 q9_153 (n := 2) (by decide +kernel) rfl ⟨rfl, rfl⟩ ⟨Nat.le_of_ble_eq_true rfl, Nat.le_of_ble_eq_true rfl⟩ ⟨Nat.le_of_ble_eq_true rfl, Nat.le_of_ble_eq_true rfl⟩ hN (hT0.keep hS hAs) hK hP (List.range G69.length) (rg_all G69) [0, 1, 2, 3, 4] rfl i_11 12 hg_11 rfl rfl hl.1 rfl (Nat.le_of_ble_eq_true rfl) d_Model_faultOf_271) (fun r271 hr271 => ?_)
              obtain rfl : r271 = zP (namQ (cXf τ fS) wl i9) := hr271
              refine lv_if_ne (tgt := 279) hx hb d_Model_faultOf_274 (by decide) (fun c274 => ?_) (fun c274 => ?_)
              · have p274 : namQ (cXf τ fS) wl i9 := (zP_1 c274)
                refine lv_aload_n hx hb d_Model_faultOf_279 rfl (lv_at hl 3 rfl) ?_
                obtain ⟨i_12, kA_12, hg_12⟩ := tr_20 hTy kt_4
                refine va_get (v := .int ((τ ((fS (wl.getD i9 0)).getD 0)).I 30)) hx hb htb i_Text hown hK hP i_12 hg_12 rfl 30 (by decide) (htb _ q6_233) (fun _ h9 => h9) rfl d_Model_faultOf_280 ?_
                refine lv_if_le (tgt := 289) hx hb d_Model_faultOf_283 (by decide) (fun c283 => ?_) (fun c283 => ?_)
                · have p283 : ((τ ((fS (wl.getD i9 0)).getD 0)).I 30) ≤ (0 : Int32) := c283
                  refine lv_iload_n hx hb d_Model_faultOf_289 rfl (lv_at hl 5 rfl) ?_
                  refine lv_if_ne (tgt := 295) hx hb d_Model_faultOf_290 (by decide) (fun c290 => ?_) (fun c290 => ?_)
                  · have p290 : ¬ (i9 = 0) := (fun q9 => c290 ((nI_eq (a := i9) (b := 0) (by omega) (by omega)).mpr q9))
                    have hca9 : b01 ((τ ((fS (wl.getD i9 0)).getD 0)).I 40) := hc_4.c1
                    refine lv_aload_n hx hb d_Model_faultOf_295 rfl (lv_at hl 3 rfl) ?_
                    refine va_get (v := .int ((τ ((fS (wl.getD i9 0)).getD 0)).I 40)) hx hb htb i_Text hown hK hP i_12 hg_12 rfl 40 (by decide) (htb _ q7_9) (fun _ h9 => h9) rfl d_Model_faultOf_296 ?_
                    refine lv_if_ne (tgt := 305) hx hb d_Model_faultOf_299 (by decide) (fun c299 => ?_) (fun c299 => ?_)
                    · have p299 : ¬ (((τ ((fS (wl.getD i9 0)).getD 0)).I 40) = (0 : Int32)) := c299
                      refine lv_iload_n hx hb d_Model_faultOf_305 rfl (lv_at hl 5 rfl) ?_
                      refine lv_iconst (v := 1) hx hb d_Model_faultOf_306 (by decide) ?_
                      refine lv_iadd hx hb d_Model_faultOf_307 ?_
                      rw [show ((nI i9) + 1 : Int32) = nI (i9 + 1) from nI_add i9 1]
                      refine lv_istore (lv' := [(5, .int (nI (i9 + 1))), (4, .int (zP (∃ l8, l8 < z69 ∧ couQ (cXf τ fS) (lXf τ fV) (fun l9 b9 => sgT (τ ((fV l9).getD 0)) (τ ((fS b9).getD 0))) mnw (wl.getD i9 0) (wl.getD (i9 + 1) 0) l8))), (3, .ref ((fS (wl.getD (i9 + 1) 0)).getD 0)), (2, .ref ((fS (wl.getD i9 0)).getD 0)), (0, .ref mo), (1, .int (nI i9))]) hx hb d_Model_faultOf_308 hl (by decide) rfl (fun ls hl => ?_)
                      refine w_loop (α := Nat) (fun a9 => i9 + 1 ≤ a9 ∧ a9 ≤ (s9 - 1) ∧ (∀ j9, j9 < a9 → ¬ (i9 < j9 ∧ ¬ ((cXf τ fS) (wl.getD j9 0)).ln < 0 ∧ ((cXf τ fS) (wl.getD j9 0)).ln < nI (btwQ (cXf τ fS) wl i9 (j9 - i9))))) (fun a9 => (s9 - 1) - a9) (fun a9 => [(5, .int (nI a9)), (4, .int (zP (∃ l8, l8 < z69 ∧ couQ (cXf τ fS) (lXf τ fV) (fun l9 b9 => sgT (τ ((fV l9).getD 0)) (τ ((fS b9).getD 0))) mnw (wl.getD i9 0) (wl.getD (i9 + 1) 0) l8))), (3, .ref ((fS (wl.getD (i9 + 1) 0)).getD 0)), (2, .ref ((fS (wl.getD i9 0)).getD 0)), (0, .ref mo), (1, .int (nI i9))]) (fun _ => []) 9 310 (fun z310 ls hJ hl ih310 => ?_) ((i9 + 1)) ls ⟨by omega, by omega, fun j9 h9 q9 => absurd q9.1 (by omega)⟩ (lv_sub hl [0, 1, 2, 3, 4, 5] rfl)
                      skip
                      obtain ⟨hy310, hz310, hJ310⟩ := hJ
                      refine lv_iload hx hb d_Model_faultOf_310 (lv_at hl 0 rfl) ?_
                      refine lv_aload_n hx hb d_Model_faultOf_312 rfl (lv_at hl 4 rfl) ?_
                      refine va_get (v := .int (nI s9)) hx hb htb i_Model hown hK hP i_11 hg_11 rfl 23 (by decide) (htb _ q7_237) (fun _ h9 => h9) rfl d_Model_faultOf_313 ?_
                      refine lv_iconst (v := 1) hx hb d_Model_faultOf_316 (by decide) ?_
                      refine lv_isub hx hb d_Model_faultOf_317 ?_
                      rw [show ((nI s9) - 1 : Int32) = nI (s9 - 1) from pk_sub (a := s9) (b := 1) (by omega)]
                      refine lv_icmp_ge (tgt := 402) hx hb d_Model_faultOf_318 (by decide) (fun c318 => ?_) (fun c318 => ?_)
                      · have p318 : (s9 - 1) ≤ z310 := ((nI_leI (a := (s9 - 1)) (b := z310) (by omega) (by omega)).mp c318)
                        refine lv_aload_n hx hb d_Model_faultOf_402 rfl (lv_at hl 3 rfl) ?_
                        refine va_get (v := .int ((τ ((fS (wl.getD i9 0)).getD 0)).I 26)) hx hb htb i_Text hown hK hP i_12 hg_12 rfl 26 (by decide) (htb _ q6_224) (fun _ h9 => h9) rfl d_Model_faultOf_403 ?_
                        refine lv_if_lt (tgt := 425) hx hb d_Model_faultOf_406 (by decide) (fun c406 => ?_) (fun c406 => ?_)
                        · have p406 : ((τ ((fS (wl.getD i9 0)).getD 0)).I 26) < (0 : Int32) := c406
                          refine lv_iconst (v := 0) hx hb d_Model_faultOf_425 (by decide) ?_
                          exact W.iret (v := 0) hx hb hr (fun t ht hW => ⟨⟨_, G69, rfl, ⟨hTy, hFR, Eq.symm (if_nt (fun q9 => q9 p32) (if_nt (fun q9 => q9.elim (fun z => p46 (cmp_lt.mpr z)) (fun z => q_ng p58 (cmp_gt.mpr z))) (if_nt (fun ⟨l8, h7, h8, h9⟩ => hJk l8 (by omega) h8 h9) (if_nt (fun q9 => absurd q9.1 (k01_n p247)) (if_nt (fun q9 => q9.2 p274) (if_nt (q_ng p283) (if_nt p290 (if_nt (fun q9 => q9 (b01_1 hca9 p299)) (if_nt (fun ⟨j9, h6, h7, h8, h9⟩ => hJ310 j9 (by omega) ⟨h6, h8, h9⟩) (if_pos (use_5.mpr (Or.inl p406)))))))))))), ⟨_, by rw [eX_10] at kmo; exact kmo⟩, ⟨_, hfm, kmmA⟩, ⟨_, hfr, kmrA⟩⟩, by rw [ht]; exact hP, va_K.moved hW.alike hK, hD⟩, hS.F ht⟩) hS.2.2 d_Model_faultOf_426
                        · have p406 : ¬ (((τ ((fS (wl.getD i9 0)).getD 0)).I 26) < (0 : Int32)) := c406
                          refine lv_aload_n hx hb d_Model_faultOf_409 rfl (lv_at hl 3 rfl) ?_
                          refine va_get (v := .int ((τ ((fS (wl.getD i9 0)).getD 0)).I 26)) hx hb htb i_Text hown hK hP i_12 hg_12 rfl 26 (by decide) (htb _ q6_224) (fun _ h9 => h9) rfl d_Model_faultOf_410 ?_
                          refine lv_iconst (v := 5) hx hb d_Model_faultOf_413 (by decide) ?_
                          refine lv_ishr hx hb d_Model_faultOf_414 ?_
                          refine lv_iconst (v := 1) hx hb d_Model_faultOf_415 (by decide) ?_
                          refine lv_iand hx hb d_Model_faultOf_416 ?_
                          refine lv_if_ne (tgt := 425) hx hb d_Model_faultOf_417 (by decide) (fun c417 => ?_) (fun c417 => ?_)
                          · have p417 : ¬ (((((τ ((fS (wl.getD i9 0)).getD 0)).I 26) >>> (5 &&& 31)) &&& 1) = (0 : Int32)) := c417
                            refine lv_iconst (v := 0) hx hb d_Model_faultOf_425 (by decide) ?_
                            exact W.iret (v := 0) hx hb hr (fun t ht hW => ⟨⟨_, G69, rfl, ⟨hTy, hFR, Eq.symm (if_nt (fun q9 => q9 p32) (if_nt (fun q9 => q9.elim (fun z => p46 (cmp_lt.mpr z)) (fun z => q_ng p58 (cmp_gt.mpr z))) (if_nt (fun ⟨l8, h7, h8, h9⟩ => hJk l8 (by omega) h8 h9) (if_nt (fun q9 => absurd q9.1 (k01_n p247)) (if_nt (fun q9 => q9.2 p274) (if_nt (q_ng p283) (if_nt p290 (if_nt (fun q9 => q9 (b01_1 hca9 p299)) (if_nt (fun ⟨j9, h6, h7, h8, h9⟩ => hJ310 j9 (by omega) ⟨h6, h8, h9⟩) (if_pos (use_5.mpr (Or.inr p417)))))))))))), ⟨_, by rw [eX_10] at kmo; exact kmo⟩, ⟨_, hfm, kmmA⟩, ⟨_, hfr, kmrA⟩⟩, by rw [ht]; exact hP, va_K.moved hW.alike hK, hD⟩, hS.F ht⟩) hS.2.2 d_Model_faultOf_426
                          · have p417 : ((((τ ((fS (wl.getD i9 0)).getD 0)).I 26) >>> (5 &&& 31)) &&& 1) = (0 : Int32) := c417
                            refine lv_bipush (v := 9) hx hb d_Model_faultOf_420 (by decide) ?_
                            refine lv_goto (tgt := 426) hx hb d_Model_faultOf_422 (by decide) ?_
                            exact W.iret (v := 9) hx hb hr (fun t ht hW => ⟨⟨_, G69, rfl, ⟨hTy, hFR, Eq.symm (if_nt (fun q9 => q9 p32) (if_nt (fun q9 => q9.elim (fun z => p46 (cmp_lt.mpr z)) (fun z => q_ng p58 (cmp_gt.mpr z))) (if_nt (fun ⟨l8, h7, h8, h9⟩ => hJk l8 (by omega) h8 h9) (if_nt (fun q9 => absurd q9.1 (k01_n p247)) (if_nt (fun q9 => q9.2 p274) (if_nt (q_ng p283) (if_nt p290 (if_nt (fun q9 => q9 (b01_1 hca9 p299)) (if_nt (fun ⟨j9, h6, h7, h8, h9⟩ => hJ310 j9 (by omega) ⟨h6, h8, h9⟩) (if_neg (fun q9 => (use_5.mp q9).elim p406 (fun z9 => z9 p417)))))))))))), ⟨_, by rw [eX_10] at kmo; exact kmo⟩, ⟨_, hfm, kmmA⟩, ⟨_, hfr, kmrA⟩⟩, by rw [ht]; exact hP, va_K.moved hW.alike hK, hD⟩, hS.F ht⟩) hS.2.2 d_Model_faultOf_426
                      · have p318 : ¬ ((s9 - 1) ≤ z310) := (fun q9 => c318 ((nI_leI (a := (s9 - 1)) (b := z310) (by omega) (by omega)).mpr q9))
                        refine lv_aload_n hx hb d_Model_faultOf_321 rfl (lv_at hl 4 rfl) ?_
                        refine va_get (v := .ref msT) hx hb htb i_Model hown hK hP i_11 hg_11 rfl 6 (by decide) (htb _ q7_220) (fun _ h9 => h9) rfl d_Model_faultOf_322 ?_
                        refine lv_aload_n hx hb d_Model_faultOf_325 rfl (lv_at hl 4 rfl) ?_
                        refine va_get (v := .ref mwy) hx hb htb i_Model hown hK hP i_11 hg_11 rfl 21 (by decide) (htb _ q7_235) (fun _ h9 => h9) rfl d_Model_faultOf_326 ?_
                        refine lv_iload hx hb d_Model_faultOf_329 (lv_at hl 0 rfl) ?_
                        obtain ⟨i_13, hg_13⟩ := List.getElem?_of_mem kmwy.2
                        have h331 : vp_in (nI z310) 16 := vp_in_nI (by omega) (by omega)
                        refine va_iald hx hb hK hP i_13 1 hg_13 rfl h331 d_Model_faultOf_331 ?_
                        refine lv_topi (fun e331 he331 => ?_)
                        have hw331 := hway z310 (by omega)
                        rw [nI_clamp (by omega), hw331.2] at he331
                        have hw331 := hw331.1
                        subst he331
                        obtain ⟨i_14, hg_14⟩ := List.getElem?_of_mem kmsT.2
                        have h332 : vp_in (nI (wl.getD z310 0)) 16 := vp_in_nI (by omega) (by omega)
                        refine va_aldq hx hb hK hP i_14 4 hg_14 rfl h332 d_Model_faultOf_332 ?_
                        obtain ⟨t_15, ft_15, kt_15, hc_15⟩ := hst (wl.getD z310 0) (by omega)
                        obtain rfl : t_15 = ((fS (wl.getD z310 0)).getD 0) := by rw [ft_15]; rfl
                        rw [show va_rf (fS (nI (wl.getD z310 0)).toNatClampNeg) = .ref ((fS (wl.getD z310 0)).getD 0) from by rw [nI_clamp (by omega), ft_15]; rfl]
                        have b1_15 := hc_15.b1
                        have b2_15 := hc_15.b2
                        have b3_15 := hc_15.b3
                        have b4_15 := hc_15.b4
                        have b5_15 := hc_15.b5
                        have b6_15 := hc_15.b6
                        have b8_15 := hc_15.b8
                        have b9_15 := hc_15.b9
                        refine lv_astore (lv' := [(6, .ref ((fS (wl.getD z310 0)).getD 0)), (5, .int (nI z310)), (4, .int (zP (∃ l8, l8 < z69 ∧ couQ (cXf τ fS) (lXf τ fV) (fun l9 b9 => sgT (τ ((fV l9).getD 0)) (τ ((fS b9).getD 0))) mnw (wl.getD i9 0) (wl.getD (i9 + 1) 0) l8))), (3, .ref ((fS (wl.getD (i9 + 1) 0)).getD 0)), (2, .ref ((fS (wl.getD i9 0)).getD 0)), (0, .ref mo), (1, .int (nI i9))]) hx hb d_Model_faultOf_333 hl (by decide) rfl (fun ls hl => ?_)
                        refine lv_iconst (v := 0) hx hb d_Model_faultOf_335 (by decide) ?_
                        refine lv_istore (lv' := [(7, .int 0), (6, .ref ((fS (wl.getD z310 0)).getD 0)), (5, .int (nI z310)), (4, .int (zP (∃ l8, l8 < z69 ∧ couQ (cXf τ fS) (lXf τ fV) (fun l9 b9 => sgT (τ ((fV l9).getD 0)) (τ ((fS b9).getD 0))) mnw (wl.getD i9 0) (wl.getD (i9 + 1) 0) l8))), (3, .ref ((fS (wl.getD (i9 + 1) 0)).getD 0)), (2, .ref ((fS (wl.getD i9 0)).getD 0)), (0, .ref mo), (1, .int (nI i9))]) hx hb d_Model_faultOf_336 hl (by decide) rfl (fun ls hl => ?_)
                        have e7 : (0 : Int32) = nI (btwQ (cXf τ fS) wl i9 (i9 - i9)) := by rw [Nat.sub_self]; rfl
                        have hl : lv_has ls 9 [(7, .int (nI (btwQ (cXf τ fS) wl i9 (i9 - i9)))), (6, .ref ((fS (wl.getD z310 0)).getD 0)), (5, .int (nI z310)), (4, .int (zP (∃ l8, l8 < z69 ∧ couQ (cXf τ fS) (lXf τ fV) (fun l9 b9 => sgT (τ ((fV l9).getD 0)) (τ ((fS b9).getD 0))) mnw (wl.getD i9 0) (wl.getD (i9 + 1) 0) l8))), (3, .ref ((fS (wl.getD (i9 + 1) 0)).getD 0)), (2, .ref ((fS (wl.getD i9 0)).getD 0)), (0, .ref mo), (1, .int (nI i9))] := by rw [← e7]; exact hl
                        refine lv_iload_n hx hb d_Model_faultOf_338 rfl (lv_at hl 7 rfl) ?_
                        refine lv_istore (lv' := [(8, .int (nI i9)), (7, .int (nI (btwQ (cXf τ fS) wl i9 (i9 - i9)))), (6, .ref ((fS (wl.getD z310 0)).getD 0)), (5, .int (nI z310)), (4, .int (zP (∃ l8, l8 < z69 ∧ couQ (cXf τ fS) (lXf τ fV) (fun l9 b9 => sgT (τ ((fV l9).getD 0)) (τ ((fS b9).getD 0))) mnw (wl.getD i9 0) (wl.getD (i9 + 1) 0) l8))), (3, .ref ((fS (wl.getD (i9 + 1) 0)).getD 0)), (2, .ref ((fS (wl.getD i9 0)).getD 0)), (0, .ref mo), (1, .int (nI i9))]) hx hb d_Model_faultOf_339 hl (by decide) rfl (fun ls hl => ?_)
                        refine w_loop (α := Nat) (fun a9 => i9 ≤ a9 ∧ a9 ≤ z310) (fun a9 => z310 - a9) (fun a9 => [(8, .int (nI a9)), (7, .int (nI (btwQ (cXf τ fS) wl i9 (a9 - i9)))), (6, .ref ((fS (wl.getD z310 0)).getD 0)), (5, .int (nI z310)), (4, .int (zP (∃ l8, l8 < z69 ∧ couQ (cXf τ fS) (lXf τ fV) (fun l9 b9 => sgT (τ ((fV l9).getD 0)) (τ ((fS b9).getD 0))) mnw (wl.getD i9 0) (wl.getD (i9 + 1) 0) l8))), (3, .ref ((fS (wl.getD (i9 + 1) 0)).getD 0)), (2, .ref ((fS (wl.getD i9 0)).getD 0)), (0, .ref mo), (1, .int (nI i9))]) (fun _ => []) 9 341 (fun z341 ls hJ hl ih341 => ?_) (i9) ls ⟨by omega, by omega⟩ (lv_sub hl [0, 1, 2, 3, 4, 5, 6, 7, 8] rfl)
                        skip
                        obtain ⟨hy341, hz341⟩ := hJ
                        refine lv_iload hx hb d_Model_faultOf_341 (lv_at hl 0 rfl) ?_
                        refine lv_iload hx hb d_Model_faultOf_343 (lv_at hl 3 rfl) ?_
                        refine lv_icmp_ge (tgt := 375) hx hb d_Model_faultOf_345 (by decide) (fun c345 => ?_) (fun c345 => ?_)
                        · have p345 : z310 ≤ z341 := ((nI_leI (a := z310) (b := z341) (by omega) (by omega)).mp c345)
                          have ez341 : z341 = z310 := by omega
                          rw [ez341] at hl
                          refine lv_aload hx hb d_Model_faultOf_375 (lv_at hl 2 rfl) ?_
                          obtain ⟨i_16, kA_16, hg_16⟩ := tr_20 hTy kt_15
                          refine va_get (v := .int ((τ ((fS (wl.getD z310 0)).getD 0)).I 25)) hx hb htb i_Text hown hK hP i_16 hg_16 rfl 25 (by decide) (htb _ q6_222) (fun _ h9 => h9) rfl d_Model_faultOf_377 ?_
                          refine lv_if_lt (tgt := 396) hx hb d_Model_faultOf_380 (by decide) (fun c380 => ?_) (fun c380 => ?_)
                          · have p380 : ((τ ((fS (wl.getD z310 0)).getD 0)).I 25) < (0 : Int32) := c380
                            refine lv_iinc (v := nI (z310 + 1)) (lv' := [(5, .int (nI (z310 + 1))), (8, .int (nI z310)), (7, .int (nI (btwQ (cXf τ fS) wl i9 (z310 - i9)))), (6, .ref ((fS (wl.getD z310 0)).getD 0)), (4, .int (zP (∃ l8, l8 < z69 ∧ couQ (cXf τ fS) (lXf τ fV) (fun l9 b9 => sgT (τ ((fV l9).getD 0)) (τ ((fS b9).getD 0))) mnw (wl.getD i9 0) (wl.getD (i9 + 1) 0) l8))), (3, .ref ((fS (wl.getD (i9 + 1) 0)).getD 0)), (2, .ref ((fS (wl.getD i9 0)).getD 0)), (0, .ref mo), (1, .int (nI i9))]) hx hb d_Model_faultOf_396 hl (k := 3) rfl (nI_1 _) (by decide) rfl (fun ls hl => ?_)
                            refine lv_goto (tgt := 310) hx hb d_Model_faultOf_399 (by decide) ?_
                            exact ih310 ((z310 + 1)) ls (by omega) ⟨by omega, by omega, fun j9 h9 => (Nat.lt_succ_iff_lt_or_eq.mp h9).elim (hJ310 j9) (fun e9 => by subst e9; exact fun q9 => q9.2.1 p380)⟩ (lv_sub hl [0, 4, 5, 6, 7, 8] rfl)
                          · have p380 : ¬ (((τ ((fS (wl.getD z310 0)).getD 0)).I 25) < (0 : Int32)) := c380
                            refine lv_aload hx hb d_Model_faultOf_383 (lv_at hl 2 rfl) ?_
                            refine va_get (v := .int ((τ ((fS (wl.getD z310 0)).getD 0)).I 25)) hx hb htb i_Text hown hK hP i_16 hg_16 rfl 25 (by decide) (htb _ q6_222) (fun _ h9 => h9) rfl d_Model_faultOf_385 ?_
                            refine lv_iload hx hb d_Model_faultOf_388 (lv_at hl 1 rfl) ?_
                            refine lv_icmp_ge (tgt := 396) hx hb d_Model_faultOf_390 (by decide) (fun c390 => ?_) (fun c390 => ?_)
                            · have p390 : (nI (btwQ (cXf τ fS) wl i9 (z310 - i9))) ≤ ((τ ((fS (wl.getD z310 0)).getD 0)).I 25) := c390
                              refine lv_iinc (v := nI (z310 + 1)) (lv' := [(5, .int (nI (z310 + 1))), (8, .int (nI z310)), (7, .int (nI (btwQ (cXf τ fS) wl i9 (z310 - i9)))), (6, .ref ((fS (wl.getD z310 0)).getD 0)), (4, .int (zP (∃ l8, l8 < z69 ∧ couQ (cXf τ fS) (lXf τ fV) (fun l9 b9 => sgT (τ ((fV l9).getD 0)) (τ ((fS b9).getD 0))) mnw (wl.getD i9 0) (wl.getD (i9 + 1) 0) l8))), (3, .ref ((fS (wl.getD (i9 + 1) 0)).getD 0)), (2, .ref ((fS (wl.getD i9 0)).getD 0)), (0, .ref mo), (1, .int (nI i9))]) hx hb d_Model_faultOf_396 hl (k := 3) rfl (nI_1 _) (by decide) rfl (fun ls hl => ?_)
                              refine lv_goto (tgt := 310) hx hb d_Model_faultOf_399 (by decide) ?_
                              exact ih310 ((z310 + 1)) ls (by omega) ⟨by omega, by omega, fun j9 h9 => (Nat.lt_succ_iff_lt_or_eq.mp h9).elim (hJ310 j9) (fun e9 => by subst e9; exact fun q9 => (q_ng p390) q9.2.2)⟩ (lv_sub hl [0, 4, 5, 6, 7, 8] rfl)
                            · have p390 : ¬ ((nI (btwQ (cXf τ fS) wl i9 (z310 - i9))) ≤ ((τ ((fS (wl.getD z310 0)).getD 0)).I 25)) := c390
                              refine lv_bipush (v := 8) hx hb d_Model_faultOf_393 (by decide) ?_
                              exact W.iret (v := 8) hx hb hr (fun t ht hW => ⟨⟨_, G69, rfl, ⟨hTy, hFR, Eq.symm (if_nt (fun q9 => q9 p32) (if_nt (fun q9 => q9.elim (fun z => p46 (cmp_lt.mpr z)) (fun z => q_ng p58 (cmp_gt.mpr z))) (if_nt (fun ⟨l8, h7, h8, h9⟩ => hJk l8 (by omega) h8 h9) (if_nt (fun q9 => absurd q9.1 (k01_n p247)) (if_nt (fun q9 => q9.2 p274) (if_nt (q_ng p283) (if_nt p290 (if_nt (fun q9 => q9 (b01_1 hca9 p299)) (if_pos ⟨z310, by omega, by omega, p380, q_gt p390⟩))))))))), ⟨_, by rw [eX_10] at kmo; exact kmo⟩, ⟨_, hfm, kmmA⟩, ⟨_, hfr, kmrA⟩⟩, by rw [ht]; exact hP, va_K.moved hW.alike hK, hD⟩, hS.F ht⟩) hS.2.2 d_Model_faultOf_395
                        · have p345 : ¬ (z310 ≤ z341) := (fun q9 => c345 ((nI_leI (a := z310) (b := z341) (by omega) (by omega)).mpr q9))
                          refine lv_aload_n hx hb d_Model_faultOf_348 rfl (lv_at hl 7 rfl) ?_
                          refine va_get (v := .ref msT) hx hb htb i_Model hown hK hP i_11 hg_11 rfl 6 (by decide) (htb _ q7_220) (fun _ h9 => h9) rfl d_Model_faultOf_349 ?_
                          refine lv_aload_n hx hb d_Model_faultOf_352 rfl (lv_at hl 7 rfl) ?_
                          refine va_get (v := .ref mwy) hx hb htb i_Model hown hK hP i_11 hg_11 rfl 21 (by decide) (htb _ q7_235) (fun _ h9 => h9) rfl d_Model_faultOf_353 ?_
                          refine lv_iload hx hb d_Model_faultOf_356 (lv_at hl 0 rfl) ?_
                          have h358 : vp_in (nI z341) 16 := vp_in_nI (by omega) (by omega)
                          refine va_iald hx hb hK hP i_13 1 hg_13 rfl h358 d_Model_faultOf_358 ?_
                          refine lv_topi (fun e358 he358 => ?_)
                          have hw358 := hway z341 (by omega)
                          rw [nI_clamp (by omega), hw358.2] at he358
                          have hw358 := hw358.1
                          subst he358
                          have h359 : vp_in (nI (wl.getD z341 0)) 16 := vp_in_nI (by omega) (by omega)
                          refine va_aldq hx hb hK hP i_14 4 hg_14 rfl h359 d_Model_faultOf_359 ?_
                          obtain ⟨t_17, ft_17, kt_17, hc_17⟩ := hst (wl.getD z341 0) (by omega)
                          obtain rfl : t_17 = ((fS (wl.getD z341 0)).getD 0) := by rw [ft_17]; rfl
                          rw [show va_rf (fS (nI (wl.getD z341 0)).toNatClampNeg) = .ref ((fS (wl.getD z341 0)).getD 0) from by rw [nI_clamp (by omega), ft_17]; rfl]
                          have b1_17 := hc_17.b1
                          have b2_17 := hc_17.b2
                          have b3_17 := hc_17.b3
                          have b4_17 := hc_17.b4
                          have b5_17 := hc_17.b5
                          have b6_17 := hc_17.b6
                          have b8_17 := hc_17.b8
                          have b9_17 := hc_17.b9
                          obtain ⟨i_18, kA_18, hg_18⟩ := tr_20 hTy kt_17
                          refine vp_callSi (pu_callV (As := []) (rest := []) ⟨hx, hb, hml, hown, hts⟩ tbin (p_Text_isOwn l dC dI sb γ κ Ad τ gT G69 ((fS (wl.getD z341 0)).getD 0)  hTy kt_17 hc_17) q9_146 q9_147 q9_148 q1_10 q9_149 (n := 0) (by decide +kernel) rfl ⟨rfl, rfl⟩ ⟨Nat.le_of_ble_eq_true rfl, Nat.le_of_ble_eq_true rfl⟩ ⟨Nat.le_of_ble_eq_true rfl, Nat.le_of_ble_eq_true rfl⟩ hN (hT0.keep hS hAs) hK hP (List.range G69.length) (rg_all G69) [0, 1, 2, 3, 4] rfl i_18 13 hg_18 rfl rfl hl.1 rfl (Nat.le_of_ble_eq_true rfl) d_Model_faultOf_360) (fun r360 hr360 => ?_)
                          obtain rfl : r360 = zP (ownQ (cT (τ ((fS (wl.getD z341 0)).getD 0)))) := hr360
                          refine lv_if_ne (tgt := 369) hx hb d_Model_faultOf_363 (by decide) (fun c363 => ?_) (fun c363 => ?_)
                          · have p363 : ownQ (cT (τ ((fS (wl.getD z341 0)).getD 0))) := (zP_1 c363)
                            have e7 : (nI (btwQ (cXf τ fS) wl i9 (z341 - i9)) : Int32) = nI (btwQ (cXf τ fS) wl i9 (z341 + 1 - i9)) := btw_y (by omega) p363
                            have hl : lv_has ls 9 [(8, .int (nI z341)), (7, .int (nI (btwQ (cXf τ fS) wl i9 (z341 + 1 - i9)))), (6, .ref ((fS (wl.getD z310 0)).getD 0)), (5, .int (nI z310)), (4, .int (zP (∃ l8, l8 < z69 ∧ couQ (cXf τ fS) (lXf τ fV) (fun l9 b9 => sgT (τ ((fV l9).getD 0)) (τ ((fS b9).getD 0))) mnw (wl.getD i9 0) (wl.getD (i9 + 1) 0) l8))), (3, .ref ((fS (wl.getD (i9 + 1) 0)).getD 0)), (2, .ref ((fS (wl.getD i9 0)).getD 0)), (0, .ref mo), (1, .int (nI i9))] := by rw [← e7]; exact hl
                            refine lv_iinc (v := nI (z341 + 1)) (lv' := [(8, .int (nI (z341 + 1))), (7, .int (nI (btwQ (cXf τ fS) wl i9 (z341 + 1 - i9)))), (6, .ref ((fS (wl.getD z310 0)).getD 0)), (5, .int (nI z310)), (4, .int (zP (∃ l8, l8 < z69 ∧ couQ (cXf τ fS) (lXf τ fV) (fun l9 b9 => sgT (τ ((fV l9).getD 0)) (τ ((fS b9).getD 0))) mnw (wl.getD i9 0) (wl.getD (i9 + 1) 0) l8))), (3, .ref ((fS (wl.getD (i9 + 1) 0)).getD 0)), (2, .ref ((fS (wl.getD i9 0)).getD 0)), (0, .ref mo), (1, .int (nI i9))]) hx hb d_Model_faultOf_369 hl (k := 0) rfl (nI_1 _) (by decide) rfl (fun ls hl => ?_)
                            refine lv_goto (tgt := 341) hx hb d_Model_faultOf_372 (by decide) ?_
                            exact ih341 ((z341 + 1)) ls (by omega) ⟨by omega, by omega⟩ (lv_sub hl [0, 1, 2, 3, 4, 5, 6, 7, 8] rfl)
                          · have p363 : ¬ (ownQ (cT (τ ((fS (wl.getD z341 0)).getD 0)))) := (zP_0.mp c363)
                            refine lv_iinc (v := nI (btwQ (cXf τ fS) wl i9 (z341 - i9) + 1)) (lv' := [(7, .int (nI (btwQ (cXf τ fS) wl i9 (z341 - i9) + 1))), (8, .int (nI z341)), (6, .ref ((fS (wl.getD z310 0)).getD 0)), (5, .int (nI z310)), (4, .int (zP (∃ l8, l8 < z69 ∧ couQ (cXf τ fS) (lXf τ fV) (fun l9 b9 => sgT (τ ((fV l9).getD 0)) (τ ((fS b9).getD 0))) mnw (wl.getD i9 0) (wl.getD (i9 + 1) 0) l8))), (3, .ref ((fS (wl.getD (i9 + 1) 0)).getD 0)), (2, .ref ((fS (wl.getD i9 0)).getD 0)), (0, .ref mo), (1, .int (nI i9))]) hx hb d_Model_faultOf_366 hl (k := 1) rfl (nI_1 _) (by decide) rfl (fun ls hl => ?_)
                            have e7 : (nI (btwQ (cXf τ fS) wl i9 (z341 - i9) + 1) : Int32) = nI (btwQ (cXf τ fS) wl i9 (z341 + 1 - i9)) := btw_n (by omega) p363
                            have hl : lv_has ls 9 [(7, .int (nI (btwQ (cXf τ fS) wl i9 (z341 + 1 - i9)))), (8, .int (nI z341)), (6, .ref ((fS (wl.getD z310 0)).getD 0)), (5, .int (nI z310)), (4, .int (zP (∃ l8, l8 < z69 ∧ couQ (cXf τ fS) (lXf τ fV) (fun l9 b9 => sgT (τ ((fV l9).getD 0)) (τ ((fS b9).getD 0))) mnw (wl.getD i9 0) (wl.getD (i9 + 1) 0) l8))), (3, .ref ((fS (wl.getD (i9 + 1) 0)).getD 0)), (2, .ref ((fS (wl.getD i9 0)).getD 0)), (0, .ref mo), (1, .int (nI i9))] := by rw [← e7]; exact hl
                            refine lv_iinc (v := nI (z341 + 1)) (lv' := [(8, .int (nI (z341 + 1))), (7, .int (nI (btwQ (cXf τ fS) wl i9 (z341 + 1 - i9)))), (6, .ref ((fS (wl.getD z310 0)).getD 0)), (5, .int (nI z310)), (4, .int (zP (∃ l8, l8 < z69 ∧ couQ (cXf τ fS) (lXf τ fV) (fun l9 b9 => sgT (τ ((fV l9).getD 0)) (τ ((fS b9).getD 0))) mnw (wl.getD i9 0) (wl.getD (i9 + 1) 0) l8))), (3, .ref ((fS (wl.getD (i9 + 1) 0)).getD 0)), (2, .ref ((fS (wl.getD i9 0)).getD 0)), (0, .ref mo), (1, .int (nI i9))]) hx hb d_Model_faultOf_369 hl (k := 1) rfl (nI_1 _) (by decide) rfl (fun ls hl => ?_)
                            refine lv_goto (tgt := 341) hx hb d_Model_faultOf_372 (by decide) ?_
                            exact ih341 ((z341 + 1)) ls (by omega) ⟨by omega, by omega⟩ (lv_sub hl [0, 1, 2, 3, 4, 5, 6, 7, 8] rfl)
                    · have p299 : ((τ ((fS (wl.getD i9 0)).getD 0)).I 40) = (0 : Int32) := c299
                      refine lv_bipush (v := 7) hx hb d_Model_faultOf_302 (by decide) ?_
                      exact W.iret (v := 7) hx hb hr (fun t ht hW => ⟨⟨_, G69, rfl, ⟨hTy, hFR, Eq.symm (if_nt (fun q9 => q9 p32) (if_nt (fun q9 => q9.elim (fun z => p46 (cmp_lt.mpr z)) (fun z => q_ng p58 (cmp_gt.mpr z))) (if_nt (fun ⟨l8, h7, h8, h9⟩ => hJk l8 (by omega) h8 h9) (if_nt (fun q9 => absurd q9.1 (k01_n p247)) (if_nt (fun q9 => q9.2 p274) (if_nt (q_ng p283) (if_nt p290 (if_pos (k01_n p299))))))))), ⟨_, by rw [eX_10] at kmo; exact kmo⟩, ⟨_, hfm, kmmA⟩, ⟨_, hfr, kmrA⟩⟩, by rw [ht]; exact hP, va_K.moved hW.alike hK, hD⟩, hS.F ht⟩) hS.2.2 d_Model_faultOf_304
                  · have p290 : i9 = 0 := ((nI_eq (a := i9) (b := 0) (by omega) (by omega)).mp c290)
                    refine lv_iconst (v := 0) hx hb d_Model_faultOf_293 (by decide) ?_
                    exact W.iret (v := 0) hx hb hr (fun t ht hW => ⟨⟨_, G69, rfl, ⟨hTy, hFR, Eq.symm (if_nt (fun q9 => q9 p32) (if_nt (fun q9 => q9.elim (fun z => p46 (cmp_lt.mpr z)) (fun z => q_ng p58 (cmp_gt.mpr z))) (if_nt (fun ⟨l8, h7, h8, h9⟩ => hJk l8 (by omega) h8 h9) (if_nt (fun q9 => absurd q9.1 (k01_n p247)) (if_nt (fun q9 => q9.2 p274) (if_nt (q_ng p283) (if_pos p290))))))), ⟨_, by rw [eX_10] at kmo; exact kmo⟩, ⟨_, hfm, kmmA⟩, ⟨_, hfr, kmrA⟩⟩, by rw [ht]; exact hP, va_K.moved hW.alike hK, hD⟩, hS.F ht⟩) hS.2.2 d_Model_faultOf_294
                · have p283 : ¬ (((τ ((fS (wl.getD i9 0)).getD 0)).I 30) ≤ (0 : Int32)) := c283
                  refine lv_bipush (v := 6) hx hb d_Model_faultOf_286 (by decide) ?_
                  exact W.iret (v := 6) hx hb hr (fun t ht hW => ⟨⟨_, G69, rfl, ⟨hTy, hFR, Eq.symm (if_nt (fun q9 => q9 p32) (if_nt (fun q9 => q9.elim (fun z => p46 (cmp_lt.mpr z)) (fun z => q_ng p58 (cmp_gt.mpr z))) (if_nt (fun ⟨l8, h7, h8, h9⟩ => hJk l8 (by omega) h8 h9) (if_nt (fun q9 => absurd q9.1 (k01_n p247)) (if_nt (fun q9 => q9.2 p274) (if_pos (q_gt p283))))))), ⟨_, by rw [eX_10] at kmo; exact kmo⟩, ⟨_, hfm, kmmA⟩, ⟨_, hfr, kmrA⟩⟩, by rw [ht]; exact hP, va_K.moved hW.alike hK, hD⟩, hS.F ht⟩) hS.2.2 d_Model_faultOf_288
              · have p274 : ¬ (namQ (cXf τ fS) wl i9) := (zP_0.mp c274)
                refine lv_iconst (v := 5) hx hb d_Model_faultOf_277 (by decide) ?_
                exact W.iret (v := 5) hx hb hr (fun t ht hW => ⟨⟨_, G69, rfl, ⟨hTy, hFR, Eq.symm (if_nt (fun q9 => q9 p32) (if_nt (fun q9 => q9.elim (fun z => p46 (cmp_lt.mpr z)) (fun z => q_ng p58 (cmp_gt.mpr z))) (if_nt (fun ⟨l8, h7, h8, h9⟩ => hJk l8 (by omega) h8 h9) (if_nt (fun q9 => absurd q9.1 (k01_n p247)) (if_pos ⟨Or.inl p258, p274⟩))))), ⟨_, by rw [eX_10] at kmo; exact kmo⟩, ⟨_, hfm, kmmA⟩, ⟨_, hfr, kmrA⟩⟩, by rw [ht]; exact hP, va_K.moved hW.alike hK, hD⟩, hS.F ht⟩) hS.2.2 d_Model_faultOf_278
            · have p258 : ¬ (i9 = 0) := (fun q9 => c258 ((nI_eq (a := i9) (b := 0) (by omega) (by omega)).mpr q9))
              refine lv_aload_n hx hb d_Model_faultOf_261 rfl (lv_at hl 3 rfl) ?_
              obtain ⟨i_19, kA_19, hg_19⟩ := tr_20 hTy kt_4
              refine vp_callSi (pu_callV (As := []) (rest := []) ⟨hx, hb, hml, hown, hts⟩ tbin (p_Text_isOwn l dC dI sb γ κ Ad τ gT G69 ((fS (wl.getD i9 0)).getD 0)  hTy kt_4 hc_4) q9_146 q9_147 q9_148 q1_10 q9_149 (n := 0) (by decide +kernel) rfl ⟨rfl, rfl⟩ ⟨Nat.le_of_ble_eq_true rfl, Nat.le_of_ble_eq_true rfl⟩ ⟨Nat.le_of_ble_eq_true rfl, Nat.le_of_ble_eq_true rfl⟩ hN (hT0.keep hS hAs) hK hP (List.range G69.length) (rg_all G69) [0, 1, 2, 3, 4] rfl i_19 13 hg_19 rfl rfl hl.1 rfl (Nat.le_of_ble_eq_true rfl) d_Model_faultOf_262) (fun r262 hr262 => ?_)
              obtain rfl : r262 = zP (ownQ (cT (τ ((fS (wl.getD i9 0)).getD 0)))) := hr262
              refine lv_if_ne (tgt := 279) hx hb d_Model_faultOf_265 (by decide) (fun c265 => ?_) (fun c265 => ?_)
              · have p265 : ownQ (cT (τ ((fS (wl.getD i9 0)).getD 0))) := (zP_1 c265)
                refine lv_aload_n hx hb d_Model_faultOf_279 rfl (lv_at hl 3 rfl) ?_
                refine va_get (v := .int ((τ ((fS (wl.getD i9 0)).getD 0)).I 30)) hx hb htb i_Text hown hK hP i_19 hg_19 rfl 30 (by decide) (htb _ q6_233) (fun _ h9 => h9) rfl d_Model_faultOf_280 ?_
                refine lv_if_le (tgt := 289) hx hb d_Model_faultOf_283 (by decide) (fun c283 => ?_) (fun c283 => ?_)
                · have p283 : ((τ ((fS (wl.getD i9 0)).getD 0)).I 30) ≤ (0 : Int32) := c283
                  refine lv_iload_n hx hb d_Model_faultOf_289 rfl (lv_at hl 5 rfl) ?_
                  refine lv_if_ne (tgt := 295) hx hb d_Model_faultOf_290 (by decide) (fun c290 => ?_) (fun c290 => ?_)
                  · have p290 : ¬ (i9 = 0) := (fun q9 => c290 ((nI_eq (a := i9) (b := 0) (by omega) (by omega)).mpr q9))
                    have hca9 : b01 ((τ ((fS (wl.getD i9 0)).getD 0)).I 40) := hc_4.c1
                    refine lv_aload_n hx hb d_Model_faultOf_295 rfl (lv_at hl 3 rfl) ?_
                    refine va_get (v := .int ((τ ((fS (wl.getD i9 0)).getD 0)).I 40)) hx hb htb i_Text hown hK hP i_19 hg_19 rfl 40 (by decide) (htb _ q7_9) (fun _ h9 => h9) rfl d_Model_faultOf_296 ?_
                    refine lv_if_ne (tgt := 305) hx hb d_Model_faultOf_299 (by decide) (fun c299 => ?_) (fun c299 => ?_)
                    · have p299 : ¬ (((τ ((fS (wl.getD i9 0)).getD 0)).I 40) = (0 : Int32)) := c299
                      refine lv_iload_n hx hb d_Model_faultOf_305 rfl (lv_at hl 5 rfl) ?_
                      refine lv_iconst (v := 1) hx hb d_Model_faultOf_306 (by decide) ?_
                      refine lv_iadd hx hb d_Model_faultOf_307 ?_
                      rw [show ((nI i9) + 1 : Int32) = nI (i9 + 1) from nI_add i9 1]
                      refine lv_istore (lv' := [(5, .int (nI (i9 + 1))), (4, .int (zP (∃ l8, l8 < z69 ∧ couQ (cXf τ fS) (lXf τ fV) (fun l9 b9 => sgT (τ ((fV l9).getD 0)) (τ ((fS b9).getD 0))) mnw (wl.getD i9 0) (wl.getD (i9 + 1) 0) l8))), (3, .ref ((fS (wl.getD (i9 + 1) 0)).getD 0)), (2, .ref ((fS (wl.getD i9 0)).getD 0)), (0, .ref mo), (1, .int (nI i9))]) hx hb d_Model_faultOf_308 hl (by decide) rfl (fun ls hl => ?_)
                      refine w_loop (α := Nat) (fun a9 => i9 + 1 ≤ a9 ∧ a9 ≤ (s9 - 1) ∧ (∀ j9, j9 < a9 → ¬ (i9 < j9 ∧ ¬ ((cXf τ fS) (wl.getD j9 0)).ln < 0 ∧ ((cXf τ fS) (wl.getD j9 0)).ln < nI (btwQ (cXf τ fS) wl i9 (j9 - i9))))) (fun a9 => (s9 - 1) - a9) (fun a9 => [(5, .int (nI a9)), (4, .int (zP (∃ l8, l8 < z69 ∧ couQ (cXf τ fS) (lXf τ fV) (fun l9 b9 => sgT (τ ((fV l9).getD 0)) (τ ((fS b9).getD 0))) mnw (wl.getD i9 0) (wl.getD (i9 + 1) 0) l8))), (3, .ref ((fS (wl.getD (i9 + 1) 0)).getD 0)), (2, .ref ((fS (wl.getD i9 0)).getD 0)), (0, .ref mo), (1, .int (nI i9))]) (fun _ => []) 9 310 (fun z310 ls hJ hl ih310 => ?_) ((i9 + 1)) ls ⟨by omega, by omega, fun j9 h9 q9 => absurd q9.1 (by omega)⟩ (lv_sub hl [0, 1, 2, 3, 4, 5] rfl)
                      skip
                      obtain ⟨hy310, hz310, hJ310⟩ := hJ
                      refine lv_iload hx hb d_Model_faultOf_310 (lv_at hl 0 rfl) ?_
                      refine lv_aload_n hx hb d_Model_faultOf_312 rfl (lv_at hl 4 rfl) ?_
                      refine va_get (v := .int (nI s9)) hx hb htb i_Model hown hK hP i_11 hg_11 rfl 23 (by decide) (htb _ q7_237) (fun _ h9 => h9) rfl d_Model_faultOf_313 ?_
                      refine lv_iconst (v := 1) hx hb d_Model_faultOf_316 (by decide) ?_
                      refine lv_isub hx hb d_Model_faultOf_317 ?_
                      rw [show ((nI s9) - 1 : Int32) = nI (s9 - 1) from pk_sub (a := s9) (b := 1) (by omega)]
                      refine lv_icmp_ge (tgt := 402) hx hb d_Model_faultOf_318 (by decide) (fun c318 => ?_) (fun c318 => ?_)
                      · have p318 : (s9 - 1) ≤ z310 := ((nI_leI (a := (s9 - 1)) (b := z310) (by omega) (by omega)).mp c318)
                        refine lv_aload_n hx hb d_Model_faultOf_402 rfl (lv_at hl 3 rfl) ?_
                        refine va_get (v := .int ((τ ((fS (wl.getD i9 0)).getD 0)).I 26)) hx hb htb i_Text hown hK hP i_19 hg_19 rfl 26 (by decide) (htb _ q6_224) (fun _ h9 => h9) rfl d_Model_faultOf_403 ?_
                        refine lv_if_lt (tgt := 425) hx hb d_Model_faultOf_406 (by decide) (fun c406 => ?_) (fun c406 => ?_)
                        · have p406 : ((τ ((fS (wl.getD i9 0)).getD 0)).I 26) < (0 : Int32) := c406
                          refine lv_iconst (v := 0) hx hb d_Model_faultOf_425 (by decide) ?_
                          exact W.iret (v := 0) hx hb hr (fun t ht hW => ⟨⟨_, G69, rfl, ⟨hTy, hFR, Eq.symm (if_nt (fun q9 => q9 p32) (if_nt (fun q9 => q9.elim (fun z => p46 (cmp_lt.mpr z)) (fun z => q_ng p58 (cmp_gt.mpr z))) (if_nt (fun ⟨l8, h7, h8, h9⟩ => hJk l8 (by omega) h8 h9) (if_nt (fun q9 => absurd q9.1 (k01_n p247)) (if_nt (fun q9 => q9.1.elim p258 (fun z9 => z9 p265)) (if_nt (q_ng p283) (if_nt p290 (if_nt (fun q9 => q9 (b01_1 hca9 p299)) (if_nt (fun ⟨j9, h6, h7, h8, h9⟩ => hJ310 j9 (by omega) ⟨h6, h8, h9⟩) (if_pos (use_5.mpr (Or.inl p406)))))))))))), ⟨_, by rw [eX_10] at kmo; exact kmo⟩, ⟨_, hfm, kmmA⟩, ⟨_, hfr, kmrA⟩⟩, by rw [ht]; exact hP, va_K.moved hW.alike hK, hD⟩, hS.F ht⟩) hS.2.2 d_Model_faultOf_426
                        · have p406 : ¬ (((τ ((fS (wl.getD i9 0)).getD 0)).I 26) < (0 : Int32)) := c406
                          refine lv_aload_n hx hb d_Model_faultOf_409 rfl (lv_at hl 3 rfl) ?_
                          refine va_get (v := .int ((τ ((fS (wl.getD i9 0)).getD 0)).I 26)) hx hb htb i_Text hown hK hP i_19 hg_19 rfl 26 (by decide) (htb _ q6_224) (fun _ h9 => h9) rfl d_Model_faultOf_410 ?_
                          refine lv_iconst (v := 5) hx hb d_Model_faultOf_413 (by decide) ?_
                          refine lv_ishr hx hb d_Model_faultOf_414 ?_
                          refine lv_iconst (v := 1) hx hb d_Model_faultOf_415 (by decide) ?_
                          refine lv_iand hx hb d_Model_faultOf_416 ?_
                          refine lv_if_ne (tgt := 425) hx hb d_Model_faultOf_417 (by decide) (fun c417 => ?_) (fun c417 => ?_)
                          · have p417 : ¬ (((((τ ((fS (wl.getD i9 0)).getD 0)).I 26) >>> (5 &&& 31)) &&& 1) = (0 : Int32)) := c417
                            refine lv_iconst (v := 0) hx hb d_Model_faultOf_425 (by decide) ?_
                            exact W.iret (v := 0) hx hb hr (fun t ht hW => ⟨⟨_, G69, rfl, ⟨hTy, hFR, Eq.symm (if_nt (fun q9 => q9 p32) (if_nt (fun q9 => q9.elim (fun z => p46 (cmp_lt.mpr z)) (fun z => q_ng p58 (cmp_gt.mpr z))) (if_nt (fun ⟨l8, h7, h8, h9⟩ => hJk l8 (by omega) h8 h9) (if_nt (fun q9 => absurd q9.1 (k01_n p247)) (if_nt (fun q9 => q9.1.elim p258 (fun z9 => z9 p265)) (if_nt (q_ng p283) (if_nt p290 (if_nt (fun q9 => q9 (b01_1 hca9 p299)) (if_nt (fun ⟨j9, h6, h7, h8, h9⟩ => hJ310 j9 (by omega) ⟨h6, h8, h9⟩) (if_pos (use_5.mpr (Or.inr p417)))))))))))), ⟨_, by rw [eX_10] at kmo; exact kmo⟩, ⟨_, hfm, kmmA⟩, ⟨_, hfr, kmrA⟩⟩, by rw [ht]; exact hP, va_K.moved hW.alike hK, hD⟩, hS.F ht⟩) hS.2.2 d_Model_faultOf_426
                          · have p417 : ((((τ ((fS (wl.getD i9 0)).getD 0)).I 26) >>> (5 &&& 31)) &&& 1) = (0 : Int32) := c417
                            refine lv_bipush (v := 9) hx hb d_Model_faultOf_420 (by decide) ?_
                            refine lv_goto (tgt := 426) hx hb d_Model_faultOf_422 (by decide) ?_
                            exact W.iret (v := 9) hx hb hr (fun t ht hW => ⟨⟨_, G69, rfl, ⟨hTy, hFR, Eq.symm (if_nt (fun q9 => q9 p32) (if_nt (fun q9 => q9.elim (fun z => p46 (cmp_lt.mpr z)) (fun z => q_ng p58 (cmp_gt.mpr z))) (if_nt (fun ⟨l8, h7, h8, h9⟩ => hJk l8 (by omega) h8 h9) (if_nt (fun q9 => absurd q9.1 (k01_n p247)) (if_nt (fun q9 => q9.1.elim p258 (fun z9 => z9 p265)) (if_nt (q_ng p283) (if_nt p290 (if_nt (fun q9 => q9 (b01_1 hca9 p299)) (if_nt (fun ⟨j9, h6, h7, h8, h9⟩ => hJ310 j9 (by omega) ⟨h6, h8, h9⟩) (if_neg (fun q9 => (use_5.mp q9).elim p406 (fun z9 => z9 p417)))))))))))), ⟨_, by rw [eX_10] at kmo; exact kmo⟩, ⟨_, hfm, kmmA⟩, ⟨_, hfr, kmrA⟩⟩, by rw [ht]; exact hP, va_K.moved hW.alike hK, hD⟩, hS.F ht⟩) hS.2.2 d_Model_faultOf_426
                      · have p318 : ¬ ((s9 - 1) ≤ z310) := (fun q9 => c318 ((nI_leI (a := (s9 - 1)) (b := z310) (by omega) (by omega)).mpr q9))
                        refine lv_aload_n hx hb d_Model_faultOf_321 rfl (lv_at hl 4 rfl) ?_
                        refine va_get (v := .ref msT) hx hb htb i_Model hown hK hP i_11 hg_11 rfl 6 (by decide) (htb _ q7_220) (fun _ h9 => h9) rfl d_Model_faultOf_322 ?_
                        refine lv_aload_n hx hb d_Model_faultOf_325 rfl (lv_at hl 4 rfl) ?_
                        refine va_get (v := .ref mwy) hx hb htb i_Model hown hK hP i_11 hg_11 rfl 21 (by decide) (htb _ q7_235) (fun _ h9 => h9) rfl d_Model_faultOf_326 ?_
                        refine lv_iload hx hb d_Model_faultOf_329 (lv_at hl 0 rfl) ?_
                        obtain ⟨i_20, hg_20⟩ := List.getElem?_of_mem kmwy.2
                        have h331 : vp_in (nI z310) 16 := vp_in_nI (by omega) (by omega)
                        refine va_iald hx hb hK hP i_20 1 hg_20 rfl h331 d_Model_faultOf_331 ?_
                        refine lv_topi (fun e331 he331 => ?_)
                        have hw331 := hway z310 (by omega)
                        rw [nI_clamp (by omega), hw331.2] at he331
                        have hw331 := hw331.1
                        subst he331
                        obtain ⟨i_21, hg_21⟩ := List.getElem?_of_mem kmsT.2
                        have h332 : vp_in (nI (wl.getD z310 0)) 16 := vp_in_nI (by omega) (by omega)
                        refine va_aldq hx hb hK hP i_21 4 hg_21 rfl h332 d_Model_faultOf_332 ?_
                        obtain ⟨t_22, ft_22, kt_22, hc_22⟩ := hst (wl.getD z310 0) (by omega)
                        obtain rfl : t_22 = ((fS (wl.getD z310 0)).getD 0) := by rw [ft_22]; rfl
                        rw [show va_rf (fS (nI (wl.getD z310 0)).toNatClampNeg) = .ref ((fS (wl.getD z310 0)).getD 0) from by rw [nI_clamp (by omega), ft_22]; rfl]
                        have b1_22 := hc_22.b1
                        have b2_22 := hc_22.b2
                        have b3_22 := hc_22.b3
                        have b4_22 := hc_22.b4
                        have b5_22 := hc_22.b5
                        have b6_22 := hc_22.b6
                        have b8_22 := hc_22.b8
                        have b9_22 := hc_22.b9
                        refine lv_astore (lv' := [(6, .ref ((fS (wl.getD z310 0)).getD 0)), (5, .int (nI z310)), (4, .int (zP (∃ l8, l8 < z69 ∧ couQ (cXf τ fS) (lXf τ fV) (fun l9 b9 => sgT (τ ((fV l9).getD 0)) (τ ((fS b9).getD 0))) mnw (wl.getD i9 0) (wl.getD (i9 + 1) 0) l8))), (3, .ref ((fS (wl.getD (i9 + 1) 0)).getD 0)), (2, .ref ((fS (wl.getD i9 0)).getD 0)), (0, .ref mo), (1, .int (nI i9))]) hx hb d_Model_faultOf_333 hl (by decide) rfl (fun ls hl => ?_)
                        refine lv_iconst (v := 0) hx hb d_Model_faultOf_335 (by decide) ?_
                        refine lv_istore (lv' := [(7, .int 0), (6, .ref ((fS (wl.getD z310 0)).getD 0)), (5, .int (nI z310)), (4, .int (zP (∃ l8, l8 < z69 ∧ couQ (cXf τ fS) (lXf τ fV) (fun l9 b9 => sgT (τ ((fV l9).getD 0)) (τ ((fS b9).getD 0))) mnw (wl.getD i9 0) (wl.getD (i9 + 1) 0) l8))), (3, .ref ((fS (wl.getD (i9 + 1) 0)).getD 0)), (2, .ref ((fS (wl.getD i9 0)).getD 0)), (0, .ref mo), (1, .int (nI i9))]) hx hb d_Model_faultOf_336 hl (by decide) rfl (fun ls hl => ?_)
                        have e7 : (0 : Int32) = nI (btwQ (cXf τ fS) wl i9 (i9 - i9)) := by rw [Nat.sub_self]; rfl
                        have hl : lv_has ls 9 [(7, .int (nI (btwQ (cXf τ fS) wl i9 (i9 - i9)))), (6, .ref ((fS (wl.getD z310 0)).getD 0)), (5, .int (nI z310)), (4, .int (zP (∃ l8, l8 < z69 ∧ couQ (cXf τ fS) (lXf τ fV) (fun l9 b9 => sgT (τ ((fV l9).getD 0)) (τ ((fS b9).getD 0))) mnw (wl.getD i9 0) (wl.getD (i9 + 1) 0) l8))), (3, .ref ((fS (wl.getD (i9 + 1) 0)).getD 0)), (2, .ref ((fS (wl.getD i9 0)).getD 0)), (0, .ref mo), (1, .int (nI i9))] := by rw [← e7]; exact hl
                        refine lv_iload_n hx hb d_Model_faultOf_338 rfl (lv_at hl 7 rfl) ?_
                        refine lv_istore (lv' := [(8, .int (nI i9)), (7, .int (nI (btwQ (cXf τ fS) wl i9 (i9 - i9)))), (6, .ref ((fS (wl.getD z310 0)).getD 0)), (5, .int (nI z310)), (4, .int (zP (∃ l8, l8 < z69 ∧ couQ (cXf τ fS) (lXf τ fV) (fun l9 b9 => sgT (τ ((fV l9).getD 0)) (τ ((fS b9).getD 0))) mnw (wl.getD i9 0) (wl.getD (i9 + 1) 0) l8))), (3, .ref ((fS (wl.getD (i9 + 1) 0)).getD 0)), (2, .ref ((fS (wl.getD i9 0)).getD 0)), (0, .ref mo), (1, .int (nI i9))]) hx hb d_Model_faultOf_339 hl (by decide) rfl (fun ls hl => ?_)
                        refine w_loop (α := Nat) (fun a9 => i9 ≤ a9 ∧ a9 ≤ z310) (fun a9 => z310 - a9) (fun a9 => [(8, .int (nI a9)), (7, .int (nI (btwQ (cXf τ fS) wl i9 (a9 - i9)))), (6, .ref ((fS (wl.getD z310 0)).getD 0)), (5, .int (nI z310)), (4, .int (zP (∃ l8, l8 < z69 ∧ couQ (cXf τ fS) (lXf τ fV) (fun l9 b9 => sgT (τ ((fV l9).getD 0)) (τ ((fS b9).getD 0))) mnw (wl.getD i9 0) (wl.getD (i9 + 1) 0) l8))), (3, .ref ((fS (wl.getD (i9 + 1) 0)).getD 0)), (2, .ref ((fS (wl.getD i9 0)).getD 0)), (0, .ref mo), (1, .int (nI i9))]) (fun _ => []) 9 341 (fun z341 ls hJ hl ih341 => ?_) (i9) ls ⟨by omega, by omega⟩ (lv_sub hl [0, 1, 2, 3, 4, 5, 6, 7, 8] rfl)
                        skip
                        obtain ⟨hy341, hz341⟩ := hJ
                        refine lv_iload hx hb d_Model_faultOf_341 (lv_at hl 0 rfl) ?_
                        refine lv_iload hx hb d_Model_faultOf_343 (lv_at hl 3 rfl) ?_
                        refine lv_icmp_ge (tgt := 375) hx hb d_Model_faultOf_345 (by decide) (fun c345 => ?_) (fun c345 => ?_)
                        · have p345 : z310 ≤ z341 := ((nI_leI (a := z310) (b := z341) (by omega) (by omega)).mp c345)
                          have ez341 : z341 = z310 := by omega
                          rw [ez341] at hl
                          refine lv_aload hx hb d_Model_faultOf_375 (lv_at hl 2 rfl) ?_
                          obtain ⟨i_23, kA_23, hg_23⟩ := tr_20 hTy kt_22
                          refine va_get (v := .int ((τ ((fS (wl.getD z310 0)).getD 0)).I 25)) hx hb htb i_Text hown hK hP i_23 hg_23 rfl 25 (by decide) (htb _ q6_222) (fun _ h9 => h9) rfl d_Model_faultOf_377 ?_
                          refine lv_if_lt (tgt := 396) hx hb d_Model_faultOf_380 (by decide) (fun c380 => ?_) (fun c380 => ?_)
                          · have p380 : ((τ ((fS (wl.getD z310 0)).getD 0)).I 25) < (0 : Int32) := c380
                            refine lv_iinc (v := nI (z310 + 1)) (lv' := [(5, .int (nI (z310 + 1))), (8, .int (nI z310)), (7, .int (nI (btwQ (cXf τ fS) wl i9 (z310 - i9)))), (6, .ref ((fS (wl.getD z310 0)).getD 0)), (4, .int (zP (∃ l8, l8 < z69 ∧ couQ (cXf τ fS) (lXf τ fV) (fun l9 b9 => sgT (τ ((fV l9).getD 0)) (τ ((fS b9).getD 0))) mnw (wl.getD i9 0) (wl.getD (i9 + 1) 0) l8))), (3, .ref ((fS (wl.getD (i9 + 1) 0)).getD 0)), (2, .ref ((fS (wl.getD i9 0)).getD 0)), (0, .ref mo), (1, .int (nI i9))]) hx hb d_Model_faultOf_396 hl (k := 3) rfl (nI_1 _) (by decide) rfl (fun ls hl => ?_)
                            refine lv_goto (tgt := 310) hx hb d_Model_faultOf_399 (by decide) ?_
                            exact ih310 ((z310 + 1)) ls (by omega) ⟨by omega, by omega, fun j9 h9 => (Nat.lt_succ_iff_lt_or_eq.mp h9).elim (hJ310 j9) (fun e9 => by subst e9; exact fun q9 => q9.2.1 p380)⟩ (lv_sub hl [0, 4, 5, 6, 7, 8] rfl)
                          · have p380 : ¬ (((τ ((fS (wl.getD z310 0)).getD 0)).I 25) < (0 : Int32)) := c380
                            refine lv_aload hx hb d_Model_faultOf_383 (lv_at hl 2 rfl) ?_
                            refine va_get (v := .int ((τ ((fS (wl.getD z310 0)).getD 0)).I 25)) hx hb htb i_Text hown hK hP i_23 hg_23 rfl 25 (by decide) (htb _ q6_222) (fun _ h9 => h9) rfl d_Model_faultOf_385 ?_
                            refine lv_iload hx hb d_Model_faultOf_388 (lv_at hl 1 rfl) ?_
                            refine lv_icmp_ge (tgt := 396) hx hb d_Model_faultOf_390 (by decide) (fun c390 => ?_) (fun c390 => ?_)
                            · have p390 : (nI (btwQ (cXf τ fS) wl i9 (z310 - i9))) ≤ ((τ ((fS (wl.getD z310 0)).getD 0)).I 25) := c390
                              refine lv_iinc (v := nI (z310 + 1)) (lv' := [(5, .int (nI (z310 + 1))), (8, .int (nI z310)), (7, .int (nI (btwQ (cXf τ fS) wl i9 (z310 - i9)))), (6, .ref ((fS (wl.getD z310 0)).getD 0)), (4, .int (zP (∃ l8, l8 < z69 ∧ couQ (cXf τ fS) (lXf τ fV) (fun l9 b9 => sgT (τ ((fV l9).getD 0)) (τ ((fS b9).getD 0))) mnw (wl.getD i9 0) (wl.getD (i9 + 1) 0) l8))), (3, .ref ((fS (wl.getD (i9 + 1) 0)).getD 0)), (2, .ref ((fS (wl.getD i9 0)).getD 0)), (0, .ref mo), (1, .int (nI i9))]) hx hb d_Model_faultOf_396 hl (k := 3) rfl (nI_1 _) (by decide) rfl (fun ls hl => ?_)
                              refine lv_goto (tgt := 310) hx hb d_Model_faultOf_399 (by decide) ?_
                              exact ih310 ((z310 + 1)) ls (by omega) ⟨by omega, by omega, fun j9 h9 => (Nat.lt_succ_iff_lt_or_eq.mp h9).elim (hJ310 j9) (fun e9 => by subst e9; exact fun q9 => (q_ng p390) q9.2.2)⟩ (lv_sub hl [0, 4, 5, 6, 7, 8] rfl)
                            · have p390 : ¬ ((nI (btwQ (cXf τ fS) wl i9 (z310 - i9))) ≤ ((τ ((fS (wl.getD z310 0)).getD 0)).I 25)) := c390
                              refine lv_bipush (v := 8) hx hb d_Model_faultOf_393 (by decide) ?_
                              exact W.iret (v := 8) hx hb hr (fun t ht hW => ⟨⟨_, G69, rfl, ⟨hTy, hFR, Eq.symm (if_nt (fun q9 => q9 p32) (if_nt (fun q9 => q9.elim (fun z => p46 (cmp_lt.mpr z)) (fun z => q_ng p58 (cmp_gt.mpr z))) (if_nt (fun ⟨l8, h7, h8, h9⟩ => hJk l8 (by omega) h8 h9) (if_nt (fun q9 => absurd q9.1 (k01_n p247)) (if_nt (fun q9 => q9.1.elim p258 (fun z9 => z9 p265)) (if_nt (q_ng p283) (if_nt p290 (if_nt (fun q9 => q9 (b01_1 hca9 p299)) (if_pos ⟨z310, by omega, by omega, p380, q_gt p390⟩))))))))), ⟨_, by rw [eX_10] at kmo; exact kmo⟩, ⟨_, hfm, kmmA⟩, ⟨_, hfr, kmrA⟩⟩, by rw [ht]; exact hP, va_K.moved hW.alike hK, hD⟩, hS.F ht⟩) hS.2.2 d_Model_faultOf_395
                        · have p345 : ¬ (z310 ≤ z341) := (fun q9 => c345 ((nI_leI (a := z310) (b := z341) (by omega) (by omega)).mpr q9))
                          refine lv_aload_n hx hb d_Model_faultOf_348 rfl (lv_at hl 7 rfl) ?_
                          refine va_get (v := .ref msT) hx hb htb i_Model hown hK hP i_11 hg_11 rfl 6 (by decide) (htb _ q7_220) (fun _ h9 => h9) rfl d_Model_faultOf_349 ?_
                          refine lv_aload_n hx hb d_Model_faultOf_352 rfl (lv_at hl 7 rfl) ?_
                          refine va_get (v := .ref mwy) hx hb htb i_Model hown hK hP i_11 hg_11 rfl 21 (by decide) (htb _ q7_235) (fun _ h9 => h9) rfl d_Model_faultOf_353 ?_
                          refine lv_iload hx hb d_Model_faultOf_356 (lv_at hl 0 rfl) ?_
                          have h358 : vp_in (nI z341) 16 := vp_in_nI (by omega) (by omega)
                          refine va_iald hx hb hK hP i_20 1 hg_20 rfl h358 d_Model_faultOf_358 ?_
                          refine lv_topi (fun e358 he358 => ?_)
                          have hw358 := hway z341 (by omega)
                          rw [nI_clamp (by omega), hw358.2] at he358
                          have hw358 := hw358.1
                          subst he358
                          have h359 : vp_in (nI (wl.getD z341 0)) 16 := vp_in_nI (by omega) (by omega)
                          refine va_aldq hx hb hK hP i_21 4 hg_21 rfl h359 d_Model_faultOf_359 ?_
                          obtain ⟨t_24, ft_24, kt_24, hc_24⟩ := hst (wl.getD z341 0) (by omega)
                          obtain rfl : t_24 = ((fS (wl.getD z341 0)).getD 0) := by rw [ft_24]; rfl
                          rw [show va_rf (fS (nI (wl.getD z341 0)).toNatClampNeg) = .ref ((fS (wl.getD z341 0)).getD 0) from by rw [nI_clamp (by omega), ft_24]; rfl]
                          have b1_24 := hc_24.b1
                          have b2_24 := hc_24.b2
                          have b3_24 := hc_24.b3
                          have b4_24 := hc_24.b4
                          have b5_24 := hc_24.b5
                          have b6_24 := hc_24.b6
                          have b8_24 := hc_24.b8
                          have b9_24 := hc_24.b9
                          obtain ⟨i_25, kA_25, hg_25⟩ := tr_20 hTy kt_24
                          refine vp_callSi (pu_callV (As := []) (rest := []) ⟨hx, hb, hml, hown, hts⟩ tbin (p_Text_isOwn l dC dI sb γ κ Ad τ gT G69 ((fS (wl.getD z341 0)).getD 0)  hTy kt_24 hc_24) q9_146 q9_147 q9_148 q1_10 q9_149 (n := 0) (by decide +kernel) rfl ⟨rfl, rfl⟩ ⟨Nat.le_of_ble_eq_true rfl, Nat.le_of_ble_eq_true rfl⟩ ⟨Nat.le_of_ble_eq_true rfl, Nat.le_of_ble_eq_true rfl⟩ hN (hT0.keep hS hAs) hK hP (List.range G69.length) (rg_all G69) [0, 1, 2, 3, 4] rfl i_25 13 hg_25 rfl rfl hl.1 rfl (Nat.le_of_ble_eq_true rfl) d_Model_faultOf_360) (fun r360 hr360 => ?_)
                          obtain rfl : r360 = zP (ownQ (cT (τ ((fS (wl.getD z341 0)).getD 0)))) := hr360
                          refine lv_if_ne (tgt := 369) hx hb d_Model_faultOf_363 (by decide) (fun c363 => ?_) (fun c363 => ?_)
                          · have p363 : ownQ (cT (τ ((fS (wl.getD z341 0)).getD 0))) := (zP_1 c363)
                            have e7 : (nI (btwQ (cXf τ fS) wl i9 (z341 - i9)) : Int32) = nI (btwQ (cXf τ fS) wl i9 (z341 + 1 - i9)) := btw_y (by omega) p363
                            have hl : lv_has ls 9 [(8, .int (nI z341)), (7, .int (nI (btwQ (cXf τ fS) wl i9 (z341 + 1 - i9)))), (6, .ref ((fS (wl.getD z310 0)).getD 0)), (5, .int (nI z310)), (4, .int (zP (∃ l8, l8 < z69 ∧ couQ (cXf τ fS) (lXf τ fV) (fun l9 b9 => sgT (τ ((fV l9).getD 0)) (τ ((fS b9).getD 0))) mnw (wl.getD i9 0) (wl.getD (i9 + 1) 0) l8))), (3, .ref ((fS (wl.getD (i9 + 1) 0)).getD 0)), (2, .ref ((fS (wl.getD i9 0)).getD 0)), (0, .ref mo), (1, .int (nI i9))] := by rw [← e7]; exact hl
                            refine lv_iinc (v := nI (z341 + 1)) (lv' := [(8, .int (nI (z341 + 1))), (7, .int (nI (btwQ (cXf τ fS) wl i9 (z341 + 1 - i9)))), (6, .ref ((fS (wl.getD z310 0)).getD 0)), (5, .int (nI z310)), (4, .int (zP (∃ l8, l8 < z69 ∧ couQ (cXf τ fS) (lXf τ fV) (fun l9 b9 => sgT (τ ((fV l9).getD 0)) (τ ((fS b9).getD 0))) mnw (wl.getD i9 0) (wl.getD (i9 + 1) 0) l8))), (3, .ref ((fS (wl.getD (i9 + 1) 0)).getD 0)), (2, .ref ((fS (wl.getD i9 0)).getD 0)), (0, .ref mo), (1, .int (nI i9))]) hx hb d_Model_faultOf_369 hl (k := 0) rfl (nI_1 _) (by decide) rfl (fun ls hl => ?_)
                            refine lv_goto (tgt := 341) hx hb d_Model_faultOf_372 (by decide) ?_
                            exact ih341 ((z341 + 1)) ls (by omega) ⟨by omega, by omega⟩ (lv_sub hl [0, 1, 2, 3, 4, 5, 6, 7, 8] rfl)
                          · have p363 : ¬ (ownQ (cT (τ ((fS (wl.getD z341 0)).getD 0)))) := (zP_0.mp c363)
                            refine lv_iinc (v := nI (btwQ (cXf τ fS) wl i9 (z341 - i9) + 1)) (lv' := [(7, .int (nI (btwQ (cXf τ fS) wl i9 (z341 - i9) + 1))), (8, .int (nI z341)), (6, .ref ((fS (wl.getD z310 0)).getD 0)), (5, .int (nI z310)), (4, .int (zP (∃ l8, l8 < z69 ∧ couQ (cXf τ fS) (lXf τ fV) (fun l9 b9 => sgT (τ ((fV l9).getD 0)) (τ ((fS b9).getD 0))) mnw (wl.getD i9 0) (wl.getD (i9 + 1) 0) l8))), (3, .ref ((fS (wl.getD (i9 + 1) 0)).getD 0)), (2, .ref ((fS (wl.getD i9 0)).getD 0)), (0, .ref mo), (1, .int (nI i9))]) hx hb d_Model_faultOf_366 hl (k := 1) rfl (nI_1 _) (by decide) rfl (fun ls hl => ?_)
                            have e7 : (nI (btwQ (cXf τ fS) wl i9 (z341 - i9) + 1) : Int32) = nI (btwQ (cXf τ fS) wl i9 (z341 + 1 - i9)) := btw_n (by omega) p363
                            have hl : lv_has ls 9 [(7, .int (nI (btwQ (cXf τ fS) wl i9 (z341 + 1 - i9)))), (8, .int (nI z341)), (6, .ref ((fS (wl.getD z310 0)).getD 0)), (5, .int (nI z310)), (4, .int (zP (∃ l8, l8 < z69 ∧ couQ (cXf τ fS) (lXf τ fV) (fun l9 b9 => sgT (τ ((fV l9).getD 0)) (τ ((fS b9).getD 0))) mnw (wl.getD i9 0) (wl.getD (i9 + 1) 0) l8))), (3, .ref ((fS (wl.getD (i9 + 1) 0)).getD 0)), (2, .ref ((fS (wl.getD i9 0)).getD 0)), (0, .ref mo), (1, .int (nI i9))] := by rw [← e7]; exact hl
                            refine lv_iinc (v := nI (z341 + 1)) (lv' := [(8, .int (nI (z341 + 1))), (7, .int (nI (btwQ (cXf τ fS) wl i9 (z341 + 1 - i9)))), (6, .ref ((fS (wl.getD z310 0)).getD 0)), (5, .int (nI z310)), (4, .int (zP (∃ l8, l8 < z69 ∧ couQ (cXf τ fS) (lXf τ fV) (fun l9 b9 => sgT (τ ((fV l9).getD 0)) (τ ((fS b9).getD 0))) mnw (wl.getD i9 0) (wl.getD (i9 + 1) 0) l8))), (3, .ref ((fS (wl.getD (i9 + 1) 0)).getD 0)), (2, .ref ((fS (wl.getD i9 0)).getD 0)), (0, .ref mo), (1, .int (nI i9))]) hx hb d_Model_faultOf_369 hl (k := 1) rfl (nI_1 _) (by decide) rfl (fun ls hl => ?_)
                            refine lv_goto (tgt := 341) hx hb d_Model_faultOf_372 (by decide) ?_
                            exact ih341 ((z341 + 1)) ls (by omega) ⟨by omega, by omega⟩ (lv_sub hl [0, 1, 2, 3, 4, 5, 6, 7, 8] rfl)
                    · have p299 : ((τ ((fS (wl.getD i9 0)).getD 0)).I 40) = (0 : Int32) := c299
                      refine lv_bipush (v := 7) hx hb d_Model_faultOf_302 (by decide) ?_
                      exact W.iret (v := 7) hx hb hr (fun t ht hW => ⟨⟨_, G69, rfl, ⟨hTy, hFR, Eq.symm (if_nt (fun q9 => q9 p32) (if_nt (fun q9 => q9.elim (fun z => p46 (cmp_lt.mpr z)) (fun z => q_ng p58 (cmp_gt.mpr z))) (if_nt (fun ⟨l8, h7, h8, h9⟩ => hJk l8 (by omega) h8 h9) (if_nt (fun q9 => absurd q9.1 (k01_n p247)) (if_nt (fun q9 => q9.1.elim p258 (fun z9 => z9 p265)) (if_nt (q_ng p283) (if_nt p290 (if_pos (k01_n p299))))))))), ⟨_, by rw [eX_10] at kmo; exact kmo⟩, ⟨_, hfm, kmmA⟩, ⟨_, hfr, kmrA⟩⟩, by rw [ht]; exact hP, va_K.moved hW.alike hK, hD⟩, hS.F ht⟩) hS.2.2 d_Model_faultOf_304
                  · have p290 : i9 = 0 := ((nI_eq (a := i9) (b := 0) (by omega) (by omega)).mp c290)
                    refine lv_iconst (v := 0) hx hb d_Model_faultOf_293 (by decide) ?_
                    exact W.iret (v := 0) hx hb hr (fun t ht hW => ⟨⟨_, G69, rfl, ⟨hTy, hFR, Eq.symm (if_nt (fun q9 => q9 p32) (if_nt (fun q9 => q9.elim (fun z => p46 (cmp_lt.mpr z)) (fun z => q_ng p58 (cmp_gt.mpr z))) (if_nt (fun ⟨l8, h7, h8, h9⟩ => hJk l8 (by omega) h8 h9) (if_nt (fun q9 => absurd q9.1 (k01_n p247)) (if_nt (fun q9 => q9.1.elim p258 (fun z9 => z9 p265)) (if_nt (q_ng p283) (if_pos p290))))))), ⟨_, by rw [eX_10] at kmo; exact kmo⟩, ⟨_, hfm, kmmA⟩, ⟨_, hfr, kmrA⟩⟩, by rw [ht]; exact hP, va_K.moved hW.alike hK, hD⟩, hS.F ht⟩) hS.2.2 d_Model_faultOf_294
                · have p283 : ¬ (((τ ((fS (wl.getD i9 0)).getD 0)).I 30) ≤ (0 : Int32)) := c283
                  refine lv_bipush (v := 6) hx hb d_Model_faultOf_286 (by decide) ?_
                  exact W.iret (v := 6) hx hb hr (fun t ht hW => ⟨⟨_, G69, rfl, ⟨hTy, hFR, Eq.symm (if_nt (fun q9 => q9 p32) (if_nt (fun q9 => q9.elim (fun z => p46 (cmp_lt.mpr z)) (fun z => q_ng p58 (cmp_gt.mpr z))) (if_nt (fun ⟨l8, h7, h8, h9⟩ => hJk l8 (by omega) h8 h9) (if_nt (fun q9 => absurd q9.1 (k01_n p247)) (if_nt (fun q9 => q9.1.elim p258 (fun z9 => z9 p265)) (if_pos (q_gt p283))))))), ⟨_, by rw [eX_10] at kmo; exact kmo⟩, ⟨_, hfm, kmmA⟩, ⟨_, hfr, kmrA⟩⟩, by rw [ht]; exact hP, va_K.moved hW.alike hK, hD⟩, hS.F ht⟩) hS.2.2 d_Model_faultOf_288
              · have p265 : ¬ (ownQ (cT (τ ((fS (wl.getD i9 0)).getD 0)))) := (zP_0.mp c265)
                refine lv_aload_n hx hb d_Model_faultOf_268 rfl (lv_at hl 4 rfl) ?_
                refine lv_aload_n hx hb d_Model_faultOf_269 rfl (lv_at hl 3 rfl) ?_
                refine lv_iload_n hx hb d_Model_faultOf_270 rfl (lv_at hl 5 rfl) ?_
                refine vp_callSi (pu_callV (As := [.ref ((fS (wl.getD i9 0)).getD 0), .int (nI i9)]) (rest := []) ⟨hx, hb, hml, hown, hts⟩ tbin (p_Model_namesMayBe l dC dI sb γ κ Ad τ gT G69 mo ((fS (wl.getD i9 0)).getD 0) _ _ _ _ _ _ _ _ _ _ _ _ _ _ _ _ _ _ _ _ _ _ _ _ _ _ _ _ _ _ _ _ _ _ _ _ hTy (by have h9 := kmo; rw [eX_10] at h9; exact h9) kt_4 hc_4 kmwy kmsT hst hway hwl (by omega) (by omega) (by omega)) q9_150 q9_152 qp_48 q1_9 q9_153 (n := 2) (by decide +kernel) rfl ⟨rfl, rfl⟩ ⟨Nat.le_of_ble_eq_true rfl, Nat.le_of_ble_eq_true rfl⟩ ⟨Nat.le_of_ble_eq_true rfl, Nat.le_of_ble_eq_true rfl⟩ hN (hT0.keep hS hAs) hK hP (List.range G69.length) (rg_all G69) [0, 1, 2, 3, 4] rfl i_11 12 hg_11 rfl rfl hl.1 rfl (Nat.le_of_ble_eq_true rfl) d_Model_faultOf_271) (fun r271 hr271 => ?_)
                obtain rfl : r271 = zP (namQ (cXf τ fS) wl i9) := hr271
                refine lv_if_ne (tgt := 279) hx hb d_Model_faultOf_274 (by decide) (fun c274 => ?_) (fun c274 => ?_)
                · have p274 : namQ (cXf τ fS) wl i9 := (zP_1 c274)
                  refine lv_aload_n hx hb d_Model_faultOf_279 rfl (lv_at hl 3 rfl) ?_
                  refine va_get (v := .int ((τ ((fS (wl.getD i9 0)).getD 0)).I 30)) hx hb htb i_Text hown hK hP i_19 hg_19 rfl 30 (by decide) (htb _ q6_233) (fun _ h9 => h9) rfl d_Model_faultOf_280 ?_
                  refine lv_if_le (tgt := 289) hx hb d_Model_faultOf_283 (by decide) (fun c283 => ?_) (fun c283 => ?_)
                  · have p283 : ((τ ((fS (wl.getD i9 0)).getD 0)).I 30) ≤ (0 : Int32) := c283
                    refine lv_iload_n hx hb d_Model_faultOf_289 rfl (lv_at hl 5 rfl) ?_
                    refine lv_if_ne (tgt := 295) hx hb d_Model_faultOf_290 (by decide) (fun c290 => ?_) (fun c290 => ?_)
                    · have p290 : ¬ (i9 = 0) := (fun q9 => c290 ((nI_eq (a := i9) (b := 0) (by omega) (by omega)).mpr q9))
                      have hca9 : b01 ((τ ((fS (wl.getD i9 0)).getD 0)).I 40) := hc_4.c1
                      refine lv_aload_n hx hb d_Model_faultOf_295 rfl (lv_at hl 3 rfl) ?_
                      refine va_get (v := .int ((τ ((fS (wl.getD i9 0)).getD 0)).I 40)) hx hb htb i_Text hown hK hP i_19 hg_19 rfl 40 (by decide) (htb _ q7_9) (fun _ h9 => h9) rfl d_Model_faultOf_296 ?_
                      refine lv_if_ne (tgt := 305) hx hb d_Model_faultOf_299 (by decide) (fun c299 => ?_) (fun c299 => ?_)
                      · have p299 : ¬ (((τ ((fS (wl.getD i9 0)).getD 0)).I 40) = (0 : Int32)) := c299
                        refine lv_iload_n hx hb d_Model_faultOf_305 rfl (lv_at hl 5 rfl) ?_
                        refine lv_iconst (v := 1) hx hb d_Model_faultOf_306 (by decide) ?_
                        refine lv_iadd hx hb d_Model_faultOf_307 ?_
                        rw [show ((nI i9) + 1 : Int32) = nI (i9 + 1) from nI_add i9 1]
                        refine lv_istore (lv' := [(5, .int (nI (i9 + 1))), (4, .int (zP (∃ l8, l8 < z69 ∧ couQ (cXf τ fS) (lXf τ fV) (fun l9 b9 => sgT (τ ((fV l9).getD 0)) (τ ((fS b9).getD 0))) mnw (wl.getD i9 0) (wl.getD (i9 + 1) 0) l8))), (3, .ref ((fS (wl.getD (i9 + 1) 0)).getD 0)), (2, .ref ((fS (wl.getD i9 0)).getD 0)), (0, .ref mo), (1, .int (nI i9))]) hx hb d_Model_faultOf_308 hl (by decide) rfl (fun ls hl => ?_)
                        refine w_loop (α := Nat) (fun a9 => i9 + 1 ≤ a9 ∧ a9 ≤ (s9 - 1) ∧ (∀ j9, j9 < a9 → ¬ (i9 < j9 ∧ ¬ ((cXf τ fS) (wl.getD j9 0)).ln < 0 ∧ ((cXf τ fS) (wl.getD j9 0)).ln < nI (btwQ (cXf τ fS) wl i9 (j9 - i9))))) (fun a9 => (s9 - 1) - a9) (fun a9 => [(5, .int (nI a9)), (4, .int (zP (∃ l8, l8 < z69 ∧ couQ (cXf τ fS) (lXf τ fV) (fun l9 b9 => sgT (τ ((fV l9).getD 0)) (τ ((fS b9).getD 0))) mnw (wl.getD i9 0) (wl.getD (i9 + 1) 0) l8))), (3, .ref ((fS (wl.getD (i9 + 1) 0)).getD 0)), (2, .ref ((fS (wl.getD i9 0)).getD 0)), (0, .ref mo), (1, .int (nI i9))]) (fun _ => []) 9 310 (fun z310 ls hJ hl ih310 => ?_) ((i9 + 1)) ls ⟨by omega, by omega, fun j9 h9 q9 => absurd q9.1 (by omega)⟩ (lv_sub hl [0, 1, 2, 3, 4, 5] rfl)
                        skip
                        obtain ⟨hy310, hz310, hJ310⟩ := hJ
                        refine lv_iload hx hb d_Model_faultOf_310 (lv_at hl 0 rfl) ?_
                        refine lv_aload_n hx hb d_Model_faultOf_312 rfl (lv_at hl 4 rfl) ?_
                        refine va_get (v := .int (nI s9)) hx hb htb i_Model hown hK hP i_11 hg_11 rfl 23 (by decide) (htb _ q7_237) (fun _ h9 => h9) rfl d_Model_faultOf_313 ?_
                        refine lv_iconst (v := 1) hx hb d_Model_faultOf_316 (by decide) ?_
                        refine lv_isub hx hb d_Model_faultOf_317 ?_
                        rw [show ((nI s9) - 1 : Int32) = nI (s9 - 1) from pk_sub (a := s9) (b := 1) (by omega)]
                        refine lv_icmp_ge (tgt := 402) hx hb d_Model_faultOf_318 (by decide) (fun c318 => ?_) (fun c318 => ?_)
                        · have p318 : (s9 - 1) ≤ z310 := ((nI_leI (a := (s9 - 1)) (b := z310) (by omega) (by omega)).mp c318)
                          refine lv_aload_n hx hb d_Model_faultOf_402 rfl (lv_at hl 3 rfl) ?_
                          refine va_get (v := .int ((τ ((fS (wl.getD i9 0)).getD 0)).I 26)) hx hb htb i_Text hown hK hP i_19 hg_19 rfl 26 (by decide) (htb _ q6_224) (fun _ h9 => h9) rfl d_Model_faultOf_403 ?_
                          refine lv_if_lt (tgt := 425) hx hb d_Model_faultOf_406 (by decide) (fun c406 => ?_) (fun c406 => ?_)
                          · have p406 : ((τ ((fS (wl.getD i9 0)).getD 0)).I 26) < (0 : Int32) := c406
                            refine lv_iconst (v := 0) hx hb d_Model_faultOf_425 (by decide) ?_
                            exact W.iret (v := 0) hx hb hr (fun t ht hW => ⟨⟨_, G69, rfl, ⟨hTy, hFR, Eq.symm (if_nt (fun q9 => q9 p32) (if_nt (fun q9 => q9.elim (fun z => p46 (cmp_lt.mpr z)) (fun z => q_ng p58 (cmp_gt.mpr z))) (if_nt (fun ⟨l8, h7, h8, h9⟩ => hJk l8 (by omega) h8 h9) (if_nt (fun q9 => absurd q9.1 (k01_n p247)) (if_nt (fun q9 => q9.2 p274) (if_nt (q_ng p283) (if_nt p290 (if_nt (fun q9 => q9 (b01_1 hca9 p299)) (if_nt (fun ⟨j9, h6, h7, h8, h9⟩ => hJ310 j9 (by omega) ⟨h6, h8, h9⟩) (if_pos (use_5.mpr (Or.inl p406)))))))))))), ⟨_, by rw [eX_10] at kmo; exact kmo⟩, ⟨_, hfm, kmmA⟩, ⟨_, hfr, kmrA⟩⟩, by rw [ht]; exact hP, va_K.moved hW.alike hK, hD⟩, hS.F ht⟩) hS.2.2 d_Model_faultOf_426
                          · have p406 : ¬ (((τ ((fS (wl.getD i9 0)).getD 0)).I 26) < (0 : Int32)) := c406
                            refine lv_aload_n hx hb d_Model_faultOf_409 rfl (lv_at hl 3 rfl) ?_
                            refine va_get (v := .int ((τ ((fS (wl.getD i9 0)).getD 0)).I 26)) hx hb htb i_Text hown hK hP i_19 hg_19 rfl 26 (by decide) (htb _ q6_224) (fun _ h9 => h9) rfl d_Model_faultOf_410 ?_
                            refine lv_iconst (v := 5) hx hb d_Model_faultOf_413 (by decide) ?_
                            refine lv_ishr hx hb d_Model_faultOf_414 ?_
                            refine lv_iconst (v := 1) hx hb d_Model_faultOf_415 (by decide) ?_
                            refine lv_iand hx hb d_Model_faultOf_416 ?_
                            refine lv_if_ne (tgt := 425) hx hb d_Model_faultOf_417 (by decide) (fun c417 => ?_) (fun c417 => ?_)
                            · have p417 : ¬ (((((τ ((fS (wl.getD i9 0)).getD 0)).I 26) >>> (5 &&& 31)) &&& 1) = (0 : Int32)) := c417
                              refine lv_iconst (v := 0) hx hb d_Model_faultOf_425 (by decide) ?_
                              exact W.iret (v := 0) hx hb hr (fun t ht hW => ⟨⟨_, G69, rfl, ⟨hTy, hFR, Eq.symm (if_nt (fun q9 => q9 p32) (if_nt (fun q9 => q9.elim (fun z => p46 (cmp_lt.mpr z)) (fun z => q_ng p58 (cmp_gt.mpr z))) (if_nt (fun ⟨l8, h7, h8, h9⟩ => hJk l8 (by omega) h8 h9) (if_nt (fun q9 => absurd q9.1 (k01_n p247)) (if_nt (fun q9 => q9.2 p274) (if_nt (q_ng p283) (if_nt p290 (if_nt (fun q9 => q9 (b01_1 hca9 p299)) (if_nt (fun ⟨j9, h6, h7, h8, h9⟩ => hJ310 j9 (by omega) ⟨h6, h8, h9⟩) (if_pos (use_5.mpr (Or.inr p417)))))))))))), ⟨_, by rw [eX_10] at kmo; exact kmo⟩, ⟨_, hfm, kmmA⟩, ⟨_, hfr, kmrA⟩⟩, by rw [ht]; exact hP, va_K.moved hW.alike hK, hD⟩, hS.F ht⟩) hS.2.2 d_Model_faultOf_426
                            · have p417 : ((((τ ((fS (wl.getD i9 0)).getD 0)).I 26) >>> (5 &&& 31)) &&& 1) = (0 : Int32) := c417
                              refine lv_bipush (v := 9) hx hb d_Model_faultOf_420 (by decide) ?_
                              refine lv_goto (tgt := 426) hx hb d_Model_faultOf_422 (by decide) ?_
                              exact W.iret (v := 9) hx hb hr (fun t ht hW => ⟨⟨_, G69, rfl, ⟨hTy, hFR, Eq.symm (if_nt (fun q9 => q9 p32) (if_nt (fun q9 => q9.elim (fun z => p46 (cmp_lt.mpr z)) (fun z => q_ng p58 (cmp_gt.mpr z))) (if_nt (fun ⟨l8, h7, h8, h9⟩ => hJk l8 (by omega) h8 h9) (if_nt (fun q9 => absurd q9.1 (k01_n p247)) (if_nt (fun q9 => q9.2 p274) (if_nt (q_ng p283) (if_nt p290 (if_nt (fun q9 => q9 (b01_1 hca9 p299)) (if_nt (fun ⟨j9, h6, h7, h8, h9⟩ => hJ310 j9 (by omega) ⟨h6, h8, h9⟩) (if_neg (fun q9 => (use_5.mp q9).elim p406 (fun z9 => z9 p417)))))))))))), ⟨_, by rw [eX_10] at kmo; exact kmo⟩, ⟨_, hfm, kmmA⟩, ⟨_, hfr, kmrA⟩⟩, by rw [ht]; exact hP, va_K.moved hW.alike hK, hD⟩, hS.F ht⟩) hS.2.2 d_Model_faultOf_426
                        · have p318 : ¬ ((s9 - 1) ≤ z310) := (fun q9 => c318 ((nI_leI (a := (s9 - 1)) (b := z310) (by omega) (by omega)).mpr q9))
                          refine lv_aload_n hx hb d_Model_faultOf_321 rfl (lv_at hl 4 rfl) ?_
                          refine va_get (v := .ref msT) hx hb htb i_Model hown hK hP i_11 hg_11 rfl 6 (by decide) (htb _ q7_220) (fun _ h9 => h9) rfl d_Model_faultOf_322 ?_
                          refine lv_aload_n hx hb d_Model_faultOf_325 rfl (lv_at hl 4 rfl) ?_
                          refine va_get (v := .ref mwy) hx hb htb i_Model hown hK hP i_11 hg_11 rfl 21 (by decide) (htb _ q7_235) (fun _ h9 => h9) rfl d_Model_faultOf_326 ?_
                          refine lv_iload hx hb d_Model_faultOf_329 (lv_at hl 0 rfl) ?_
                          obtain ⟨i_26, hg_26⟩ := List.getElem?_of_mem kmwy.2
                          have h331 : vp_in (nI z310) 16 := vp_in_nI (by omega) (by omega)
                          refine va_iald hx hb hK hP i_26 1 hg_26 rfl h331 d_Model_faultOf_331 ?_
                          refine lv_topi (fun e331 he331 => ?_)
                          have hw331 := hway z310 (by omega)
                          rw [nI_clamp (by omega), hw331.2] at he331
                          have hw331 := hw331.1
                          subst he331
                          obtain ⟨i_27, hg_27⟩ := List.getElem?_of_mem kmsT.2
                          have h332 : vp_in (nI (wl.getD z310 0)) 16 := vp_in_nI (by omega) (by omega)
                          refine va_aldq hx hb hK hP i_27 4 hg_27 rfl h332 d_Model_faultOf_332 ?_
                          obtain ⟨t_28, ft_28, kt_28, hc_28⟩ := hst (wl.getD z310 0) (by omega)
                          obtain rfl : t_28 = ((fS (wl.getD z310 0)).getD 0) := by rw [ft_28]; rfl
                          rw [show va_rf (fS (nI (wl.getD z310 0)).toNatClampNeg) = .ref ((fS (wl.getD z310 0)).getD 0) from by rw [nI_clamp (by omega), ft_28]; rfl]
                          have b1_28 := hc_28.b1
                          have b2_28 := hc_28.b2
                          have b3_28 := hc_28.b3
                          have b4_28 := hc_28.b4
                          have b5_28 := hc_28.b5
                          have b6_28 := hc_28.b6
                          have b8_28 := hc_28.b8
                          have b9_28 := hc_28.b9
                          refine lv_astore (lv' := [(6, .ref ((fS (wl.getD z310 0)).getD 0)), (5, .int (nI z310)), (4, .int (zP (∃ l8, l8 < z69 ∧ couQ (cXf τ fS) (lXf τ fV) (fun l9 b9 => sgT (τ ((fV l9).getD 0)) (τ ((fS b9).getD 0))) mnw (wl.getD i9 0) (wl.getD (i9 + 1) 0) l8))), (3, .ref ((fS (wl.getD (i9 + 1) 0)).getD 0)), (2, .ref ((fS (wl.getD i9 0)).getD 0)), (0, .ref mo), (1, .int (nI i9))]) hx hb d_Model_faultOf_333 hl (by decide) rfl (fun ls hl => ?_)
                          refine lv_iconst (v := 0) hx hb d_Model_faultOf_335 (by decide) ?_
                          refine lv_istore (lv' := [(7, .int 0), (6, .ref ((fS (wl.getD z310 0)).getD 0)), (5, .int (nI z310)), (4, .int (zP (∃ l8, l8 < z69 ∧ couQ (cXf τ fS) (lXf τ fV) (fun l9 b9 => sgT (τ ((fV l9).getD 0)) (τ ((fS b9).getD 0))) mnw (wl.getD i9 0) (wl.getD (i9 + 1) 0) l8))), (3, .ref ((fS (wl.getD (i9 + 1) 0)).getD 0)), (2, .ref ((fS (wl.getD i9 0)).getD 0)), (0, .ref mo), (1, .int (nI i9))]) hx hb d_Model_faultOf_336 hl (by decide) rfl (fun ls hl => ?_)
                          have e7 : (0 : Int32) = nI (btwQ (cXf τ fS) wl i9 (i9 - i9)) := by rw [Nat.sub_self]; rfl
                          have hl : lv_has ls 9 [(7, .int (nI (btwQ (cXf τ fS) wl i9 (i9 - i9)))), (6, .ref ((fS (wl.getD z310 0)).getD 0)), (5, .int (nI z310)), (4, .int (zP (∃ l8, l8 < z69 ∧ couQ (cXf τ fS) (lXf τ fV) (fun l9 b9 => sgT (τ ((fV l9).getD 0)) (τ ((fS b9).getD 0))) mnw (wl.getD i9 0) (wl.getD (i9 + 1) 0) l8))), (3, .ref ((fS (wl.getD (i9 + 1) 0)).getD 0)), (2, .ref ((fS (wl.getD i9 0)).getD 0)), (0, .ref mo), (1, .int (nI i9))] := by rw [← e7]; exact hl
                          refine lv_iload_n hx hb d_Model_faultOf_338 rfl (lv_at hl 7 rfl) ?_
                          refine lv_istore (lv' := [(8, .int (nI i9)), (7, .int (nI (btwQ (cXf τ fS) wl i9 (i9 - i9)))), (6, .ref ((fS (wl.getD z310 0)).getD 0)), (5, .int (nI z310)), (4, .int (zP (∃ l8, l8 < z69 ∧ couQ (cXf τ fS) (lXf τ fV) (fun l9 b9 => sgT (τ ((fV l9).getD 0)) (τ ((fS b9).getD 0))) mnw (wl.getD i9 0) (wl.getD (i9 + 1) 0) l8))), (3, .ref ((fS (wl.getD (i9 + 1) 0)).getD 0)), (2, .ref ((fS (wl.getD i9 0)).getD 0)), (0, .ref mo), (1, .int (nI i9))]) hx hb d_Model_faultOf_339 hl (by decide) rfl (fun ls hl => ?_)
                          refine w_loop (α := Nat) (fun a9 => i9 ≤ a9 ∧ a9 ≤ z310) (fun a9 => z310 - a9) (fun a9 => [(8, .int (nI a9)), (7, .int (nI (btwQ (cXf τ fS) wl i9 (a9 - i9)))), (6, .ref ((fS (wl.getD z310 0)).getD 0)), (5, .int (nI z310)), (4, .int (zP (∃ l8, l8 < z69 ∧ couQ (cXf τ fS) (lXf τ fV) (fun l9 b9 => sgT (τ ((fV l9).getD 0)) (τ ((fS b9).getD 0))) mnw (wl.getD i9 0) (wl.getD (i9 + 1) 0) l8))), (3, .ref ((fS (wl.getD (i9 + 1) 0)).getD 0)), (2, .ref ((fS (wl.getD i9 0)).getD 0)), (0, .ref mo), (1, .int (nI i9))]) (fun _ => []) 9 341 (fun z341 ls hJ hl ih341 => ?_) (i9) ls ⟨by omega, by omega⟩ (lv_sub hl [0, 1, 2, 3, 4, 5, 6, 7, 8] rfl)
                          skip
                          obtain ⟨hy341, hz341⟩ := hJ
                          refine lv_iload hx hb d_Model_faultOf_341 (lv_at hl 0 rfl) ?_
                          refine lv_iload hx hb d_Model_faultOf_343 (lv_at hl 3 rfl) ?_
                          refine lv_icmp_ge (tgt := 375) hx hb d_Model_faultOf_345 (by decide) (fun c345 => ?_) (fun c345 => ?_)
                          · have p345 : z310 ≤ z341 := ((nI_leI (a := z310) (b := z341) (by omega) (by omega)).mp c345)
                            have ez341 : z341 = z310 := by omega
                            rw [ez341] at hl
                            refine lv_aload hx hb d_Model_faultOf_375 (lv_at hl 2 rfl) ?_
                            obtain ⟨i_29, kA_29, hg_29⟩ := tr_20 hTy kt_28
                            refine va_get (v := .int ((τ ((fS (wl.getD z310 0)).getD 0)).I 25)) hx hb htb i_Text hown hK hP i_29 hg_29 rfl 25 (by decide) (htb _ q6_222) (fun _ h9 => h9) rfl d_Model_faultOf_377 ?_
                            refine lv_if_lt (tgt := 396) hx hb d_Model_faultOf_380 (by decide) (fun c380 => ?_) (fun c380 => ?_)
                            · have p380 : ((τ ((fS (wl.getD z310 0)).getD 0)).I 25) < (0 : Int32) := c380
                              refine lv_iinc (v := nI (z310 + 1)) (lv' := [(5, .int (nI (z310 + 1))), (8, .int (nI z310)), (7, .int (nI (btwQ (cXf τ fS) wl i9 (z310 - i9)))), (6, .ref ((fS (wl.getD z310 0)).getD 0)), (4, .int (zP (∃ l8, l8 < z69 ∧ couQ (cXf τ fS) (lXf τ fV) (fun l9 b9 => sgT (τ ((fV l9).getD 0)) (τ ((fS b9).getD 0))) mnw (wl.getD i9 0) (wl.getD (i9 + 1) 0) l8))), (3, .ref ((fS (wl.getD (i9 + 1) 0)).getD 0)), (2, .ref ((fS (wl.getD i9 0)).getD 0)), (0, .ref mo), (1, .int (nI i9))]) hx hb d_Model_faultOf_396 hl (k := 3) rfl (nI_1 _) (by decide) rfl (fun ls hl => ?_)
                              refine lv_goto (tgt := 310) hx hb d_Model_faultOf_399 (by decide) ?_
                              exact ih310 ((z310 + 1)) ls (by omega) ⟨by omega, by omega, fun j9 h9 => (Nat.lt_succ_iff_lt_or_eq.mp h9).elim (hJ310 j9) (fun e9 => by subst e9; exact fun q9 => q9.2.1 p380)⟩ (lv_sub hl [0, 4, 5, 6, 7, 8] rfl)
                            · have p380 : ¬ (((τ ((fS (wl.getD z310 0)).getD 0)).I 25) < (0 : Int32)) := c380
                              refine lv_aload hx hb d_Model_faultOf_383 (lv_at hl 2 rfl) ?_
                              refine va_get (v := .int ((τ ((fS (wl.getD z310 0)).getD 0)).I 25)) hx hb htb i_Text hown hK hP i_29 hg_29 rfl 25 (by decide) (htb _ q6_222) (fun _ h9 => h9) rfl d_Model_faultOf_385 ?_
                              refine lv_iload hx hb d_Model_faultOf_388 (lv_at hl 1 rfl) ?_
                              refine lv_icmp_ge (tgt := 396) hx hb d_Model_faultOf_390 (by decide) (fun c390 => ?_) (fun c390 => ?_)
                              · have p390 : (nI (btwQ (cXf τ fS) wl i9 (z310 - i9))) ≤ ((τ ((fS (wl.getD z310 0)).getD 0)).I 25) := c390
                                refine lv_iinc (v := nI (z310 + 1)) (lv' := [(5, .int (nI (z310 + 1))), (8, .int (nI z310)), (7, .int (nI (btwQ (cXf τ fS) wl i9 (z310 - i9)))), (6, .ref ((fS (wl.getD z310 0)).getD 0)), (4, .int (zP (∃ l8, l8 < z69 ∧ couQ (cXf τ fS) (lXf τ fV) (fun l9 b9 => sgT (τ ((fV l9).getD 0)) (τ ((fS b9).getD 0))) mnw (wl.getD i9 0) (wl.getD (i9 + 1) 0) l8))), (3, .ref ((fS (wl.getD (i9 + 1) 0)).getD 0)), (2, .ref ((fS (wl.getD i9 0)).getD 0)), (0, .ref mo), (1, .int (nI i9))]) hx hb d_Model_faultOf_396 hl (k := 3) rfl (nI_1 _) (by decide) rfl (fun ls hl => ?_)
                                refine lv_goto (tgt := 310) hx hb d_Model_faultOf_399 (by decide) ?_
                                exact ih310 ((z310 + 1)) ls (by omega) ⟨by omega, by omega, fun j9 h9 => (Nat.lt_succ_iff_lt_or_eq.mp h9).elim (hJ310 j9) (fun e9 => by subst e9; exact fun q9 => (q_ng p390) q9.2.2)⟩ (lv_sub hl [0, 4, 5, 6, 7, 8] rfl)
                              · have p390 : ¬ ((nI (btwQ (cXf τ fS) wl i9 (z310 - i9))) ≤ ((τ ((fS (wl.getD z310 0)).getD 0)).I 25)) := c390
                                refine lv_bipush (v := 8) hx hb d_Model_faultOf_393 (by decide) ?_
                                exact W.iret (v := 8) hx hb hr (fun t ht hW => ⟨⟨_, G69, rfl, ⟨hTy, hFR, Eq.symm (if_nt (fun q9 => q9 p32) (if_nt (fun q9 => q9.elim (fun z => p46 (cmp_lt.mpr z)) (fun z => q_ng p58 (cmp_gt.mpr z))) (if_nt (fun ⟨l8, h7, h8, h9⟩ => hJk l8 (by omega) h8 h9) (if_nt (fun q9 => absurd q9.1 (k01_n p247)) (if_nt (fun q9 => q9.2 p274) (if_nt (q_ng p283) (if_nt p290 (if_nt (fun q9 => q9 (b01_1 hca9 p299)) (if_pos ⟨z310, by omega, by omega, p380, q_gt p390⟩))))))))), ⟨_, by rw [eX_10] at kmo; exact kmo⟩, ⟨_, hfm, kmmA⟩, ⟨_, hfr, kmrA⟩⟩, by rw [ht]; exact hP, va_K.moved hW.alike hK, hD⟩, hS.F ht⟩) hS.2.2 d_Model_faultOf_395
                          · have p345 : ¬ (z310 ≤ z341) := (fun q9 => c345 ((nI_leI (a := z310) (b := z341) (by omega) (by omega)).mpr q9))
                            refine lv_aload_n hx hb d_Model_faultOf_348 rfl (lv_at hl 7 rfl) ?_
                            refine va_get (v := .ref msT) hx hb htb i_Model hown hK hP i_11 hg_11 rfl 6 (by decide) (htb _ q7_220) (fun _ h9 => h9) rfl d_Model_faultOf_349 ?_
                            refine lv_aload_n hx hb d_Model_faultOf_352 rfl (lv_at hl 7 rfl) ?_
                            refine va_get (v := .ref mwy) hx hb htb i_Model hown hK hP i_11 hg_11 rfl 21 (by decide) (htb _ q7_235) (fun _ h9 => h9) rfl d_Model_faultOf_353 ?_
                            refine lv_iload hx hb d_Model_faultOf_356 (lv_at hl 0 rfl) ?_
                            have h358 : vp_in (nI z341) 16 := vp_in_nI (by omega) (by omega)
                            refine va_iald hx hb hK hP i_26 1 hg_26 rfl h358 d_Model_faultOf_358 ?_
                            refine lv_topi (fun e358 he358 => ?_)
                            have hw358 := hway z341 (by omega)
                            rw [nI_clamp (by omega), hw358.2] at he358
                            have hw358 := hw358.1
                            subst he358
                            have h359 : vp_in (nI (wl.getD z341 0)) 16 := vp_in_nI (by omega) (by omega)
                            refine va_aldq hx hb hK hP i_27 4 hg_27 rfl h359 d_Model_faultOf_359 ?_
                            obtain ⟨t_30, ft_30, kt_30, hc_30⟩ := hst (wl.getD z341 0) (by omega)
                            obtain rfl : t_30 = ((fS (wl.getD z341 0)).getD 0) := by rw [ft_30]; rfl
                            rw [show va_rf (fS (nI (wl.getD z341 0)).toNatClampNeg) = .ref ((fS (wl.getD z341 0)).getD 0) from by rw [nI_clamp (by omega), ft_30]; rfl]
                            have b1_30 := hc_30.b1
                            have b2_30 := hc_30.b2
                            have b3_30 := hc_30.b3
                            have b4_30 := hc_30.b4
                            have b5_30 := hc_30.b5
                            have b6_30 := hc_30.b6
                            have b8_30 := hc_30.b8
                            have b9_30 := hc_30.b9
                            obtain ⟨i_31, kA_31, hg_31⟩ := tr_20 hTy kt_30
                            refine vp_callSi (pu_callV (As := []) (rest := []) ⟨hx, hb, hml, hown, hts⟩ tbin (p_Text_isOwn l dC dI sb γ κ Ad τ gT G69 ((fS (wl.getD z341 0)).getD 0)  hTy kt_30 hc_30) q9_146 q9_147 q9_148 q1_10 q9_149 (n := 0) (by decide +kernel) rfl ⟨rfl, rfl⟩ ⟨Nat.le_of_ble_eq_true rfl, Nat.le_of_ble_eq_true rfl⟩ ⟨Nat.le_of_ble_eq_true rfl, Nat.le_of_ble_eq_true rfl⟩ hN (hT0.keep hS hAs) hK hP (List.range G69.length) (rg_all G69) [0, 1, 2, 3, 4] rfl i_31 13 hg_31 rfl rfl hl.1 rfl (Nat.le_of_ble_eq_true rfl) d_Model_faultOf_360) (fun r360 hr360 => ?_)
                            obtain rfl : r360 = zP (ownQ (cT (τ ((fS (wl.getD z341 0)).getD 0)))) := hr360
                            refine lv_if_ne (tgt := 369) hx hb d_Model_faultOf_363 (by decide) (fun c363 => ?_) (fun c363 => ?_)
                            · have p363 : ownQ (cT (τ ((fS (wl.getD z341 0)).getD 0))) := (zP_1 c363)
                              have e7 : (nI (btwQ (cXf τ fS) wl i9 (z341 - i9)) : Int32) = nI (btwQ (cXf τ fS) wl i9 (z341 + 1 - i9)) := btw_y (by omega) p363
                              have hl : lv_has ls 9 [(8, .int (nI z341)), (7, .int (nI (btwQ (cXf τ fS) wl i9 (z341 + 1 - i9)))), (6, .ref ((fS (wl.getD z310 0)).getD 0)), (5, .int (nI z310)), (4, .int (zP (∃ l8, l8 < z69 ∧ couQ (cXf τ fS) (lXf τ fV) (fun l9 b9 => sgT (τ ((fV l9).getD 0)) (τ ((fS b9).getD 0))) mnw (wl.getD i9 0) (wl.getD (i9 + 1) 0) l8))), (3, .ref ((fS (wl.getD (i9 + 1) 0)).getD 0)), (2, .ref ((fS (wl.getD i9 0)).getD 0)), (0, .ref mo), (1, .int (nI i9))] := by rw [← e7]; exact hl
                              refine lv_iinc (v := nI (z341 + 1)) (lv' := [(8, .int (nI (z341 + 1))), (7, .int (nI (btwQ (cXf τ fS) wl i9 (z341 + 1 - i9)))), (6, .ref ((fS (wl.getD z310 0)).getD 0)), (5, .int (nI z310)), (4, .int (zP (∃ l8, l8 < z69 ∧ couQ (cXf τ fS) (lXf τ fV) (fun l9 b9 => sgT (τ ((fV l9).getD 0)) (τ ((fS b9).getD 0))) mnw (wl.getD i9 0) (wl.getD (i9 + 1) 0) l8))), (3, .ref ((fS (wl.getD (i9 + 1) 0)).getD 0)), (2, .ref ((fS (wl.getD i9 0)).getD 0)), (0, .ref mo), (1, .int (nI i9))]) hx hb d_Model_faultOf_369 hl (k := 0) rfl (nI_1 _) (by decide) rfl (fun ls hl => ?_)
                              refine lv_goto (tgt := 341) hx hb d_Model_faultOf_372 (by decide) ?_
                              exact ih341 ((z341 + 1)) ls (by omega) ⟨by omega, by omega⟩ (lv_sub hl [0, 1, 2, 3, 4, 5, 6, 7, 8] rfl)
                            · have p363 : ¬ (ownQ (cT (τ ((fS (wl.getD z341 0)).getD 0)))) := (zP_0.mp c363)
                              refine lv_iinc (v := nI (btwQ (cXf τ fS) wl i9 (z341 - i9) + 1)) (lv' := [(7, .int (nI (btwQ (cXf τ fS) wl i9 (z341 - i9) + 1))), (8, .int (nI z341)), (6, .ref ((fS (wl.getD z310 0)).getD 0)), (5, .int (nI z310)), (4, .int (zP (∃ l8, l8 < z69 ∧ couQ (cXf τ fS) (lXf τ fV) (fun l9 b9 => sgT (τ ((fV l9).getD 0)) (τ ((fS b9).getD 0))) mnw (wl.getD i9 0) (wl.getD (i9 + 1) 0) l8))), (3, .ref ((fS (wl.getD (i9 + 1) 0)).getD 0)), (2, .ref ((fS (wl.getD i9 0)).getD 0)), (0, .ref mo), (1, .int (nI i9))]) hx hb d_Model_faultOf_366 hl (k := 1) rfl (nI_1 _) (by decide) rfl (fun ls hl => ?_)
                              have e7 : (nI (btwQ (cXf τ fS) wl i9 (z341 - i9) + 1) : Int32) = nI (btwQ (cXf τ fS) wl i9 (z341 + 1 - i9)) := btw_n (by omega) p363
                              have hl : lv_has ls 9 [(7, .int (nI (btwQ (cXf τ fS) wl i9 (z341 + 1 - i9)))), (8, .int (nI z341)), (6, .ref ((fS (wl.getD z310 0)).getD 0)), (5, .int (nI z310)), (4, .int (zP (∃ l8, l8 < z69 ∧ couQ (cXf τ fS) (lXf τ fV) (fun l9 b9 => sgT (τ ((fV l9).getD 0)) (τ ((fS b9).getD 0))) mnw (wl.getD i9 0) (wl.getD (i9 + 1) 0) l8))), (3, .ref ((fS (wl.getD (i9 + 1) 0)).getD 0)), (2, .ref ((fS (wl.getD i9 0)).getD 0)), (0, .ref mo), (1, .int (nI i9))] := by rw [← e7]; exact hl
                              refine lv_iinc (v := nI (z341 + 1)) (lv' := [(8, .int (nI (z341 + 1))), (7, .int (nI (btwQ (cXf τ fS) wl i9 (z341 + 1 - i9)))), (6, .ref ((fS (wl.getD z310 0)).getD 0)), (5, .int (nI z310)), (4, .int (zP (∃ l8, l8 < z69 ∧ couQ (cXf τ fS) (lXf τ fV) (fun l9 b9 => sgT (τ ((fV l9).getD 0)) (τ ((fS b9).getD 0))) mnw (wl.getD i9 0) (wl.getD (i9 + 1) 0) l8))), (3, .ref ((fS (wl.getD (i9 + 1) 0)).getD 0)), (2, .ref ((fS (wl.getD i9 0)).getD 0)), (0, .ref mo), (1, .int (nI i9))]) hx hb d_Model_faultOf_369 hl (k := 1) rfl (nI_1 _) (by decide) rfl (fun ls hl => ?_)
                              refine lv_goto (tgt := 341) hx hb d_Model_faultOf_372 (by decide) ?_
                              exact ih341 ((z341 + 1)) ls (by omega) ⟨by omega, by omega⟩ (lv_sub hl [0, 1, 2, 3, 4, 5, 6, 7, 8] rfl)
                      · have p299 : ((τ ((fS (wl.getD i9 0)).getD 0)).I 40) = (0 : Int32) := c299
                        refine lv_bipush (v := 7) hx hb d_Model_faultOf_302 (by decide) ?_
                        exact W.iret (v := 7) hx hb hr (fun t ht hW => ⟨⟨_, G69, rfl, ⟨hTy, hFR, Eq.symm (if_nt (fun q9 => q9 p32) (if_nt (fun q9 => q9.elim (fun z => p46 (cmp_lt.mpr z)) (fun z => q_ng p58 (cmp_gt.mpr z))) (if_nt (fun ⟨l8, h7, h8, h9⟩ => hJk l8 (by omega) h8 h9) (if_nt (fun q9 => absurd q9.1 (k01_n p247)) (if_nt (fun q9 => q9.2 p274) (if_nt (q_ng p283) (if_nt p290 (if_pos (k01_n p299))))))))), ⟨_, by rw [eX_10] at kmo; exact kmo⟩, ⟨_, hfm, kmmA⟩, ⟨_, hfr, kmrA⟩⟩, by rw [ht]; exact hP, va_K.moved hW.alike hK, hD⟩, hS.F ht⟩) hS.2.2 d_Model_faultOf_304
                    · have p290 : i9 = 0 := ((nI_eq (a := i9) (b := 0) (by omega) (by omega)).mp c290)
                      refine lv_iconst (v := 0) hx hb d_Model_faultOf_293 (by decide) ?_
                      exact W.iret (v := 0) hx hb hr (fun t ht hW => ⟨⟨_, G69, rfl, ⟨hTy, hFR, Eq.symm (if_nt (fun q9 => q9 p32) (if_nt (fun q9 => q9.elim (fun z => p46 (cmp_lt.mpr z)) (fun z => q_ng p58 (cmp_gt.mpr z))) (if_nt (fun ⟨l8, h7, h8, h9⟩ => hJk l8 (by omega) h8 h9) (if_nt (fun q9 => absurd q9.1 (k01_n p247)) (if_nt (fun q9 => q9.2 p274) (if_nt (q_ng p283) (if_pos p290))))))), ⟨_, by rw [eX_10] at kmo; exact kmo⟩, ⟨_, hfm, kmmA⟩, ⟨_, hfr, kmrA⟩⟩, by rw [ht]; exact hP, va_K.moved hW.alike hK, hD⟩, hS.F ht⟩) hS.2.2 d_Model_faultOf_294
                  · have p283 : ¬ (((τ ((fS (wl.getD i9 0)).getD 0)).I 30) ≤ (0 : Int32)) := c283
                    refine lv_bipush (v := 6) hx hb d_Model_faultOf_286 (by decide) ?_
                    exact W.iret (v := 6) hx hb hr (fun t ht hW => ⟨⟨_, G69, rfl, ⟨hTy, hFR, Eq.symm (if_nt (fun q9 => q9 p32) (if_nt (fun q9 => q9.elim (fun z => p46 (cmp_lt.mpr z)) (fun z => q_ng p58 (cmp_gt.mpr z))) (if_nt (fun ⟨l8, h7, h8, h9⟩ => hJk l8 (by omega) h8 h9) (if_nt (fun q9 => absurd q9.1 (k01_n p247)) (if_nt (fun q9 => q9.2 p274) (if_pos (q_gt p283))))))), ⟨_, by rw [eX_10] at kmo; exact kmo⟩, ⟨_, hfm, kmmA⟩, ⟨_, hfr, kmrA⟩⟩, by rw [ht]; exact hP, va_K.moved hW.alike hK, hD⟩, hS.F ht⟩) hS.2.2 d_Model_faultOf_288
                · have p274 : ¬ (namQ (cXf τ fS) wl i9) := (zP_0.mp c274)
                  refine lv_iconst (v := 5) hx hb d_Model_faultOf_277 (by decide) ?_
                  exact W.iret (v := 5) hx hb hr (fun t ht hW => ⟨⟨_, G69, rfl, ⟨hTy, hFR, Eq.symm (if_nt (fun q9 => q9 p32) (if_nt (fun q9 => q9.elim (fun z => p46 (cmp_lt.mpr z)) (fun z => q_ng p58 (cmp_gt.mpr z))) (if_nt (fun ⟨l8, h7, h8, h9⟩ => hJk l8 (by omega) h8 h9) (if_nt (fun q9 => absurd q9.1 (k01_n p247)) (if_pos ⟨Or.inr p265, p274⟩))))), ⟨_, by rw [eX_10] at kmo; exact kmo⟩, ⟨_, hfm, kmmA⟩, ⟨_, hfr, kmrA⟩⟩, by rw [ht]; exact hP, va_K.moved hW.alike hK, hD⟩, hS.F ht⟩) hS.2.2 d_Model_faultOf_278
          · have p247 : ¬ (mmk = (0 : Int32)) := c247
            refine lv_iload hx hb d_Model_faultOf_250 (lv_at hl 1 rfl) ?_
            refine lv_if_ne (tgt := 257) hx hb d_Model_faultOf_252 (by decide) (fun c252 => ?_) (fun c252 => ?_)
            · have p252 : ∃ l8, l8 < z69 ∧ couQ (cXf τ fS) (lXf τ fV) (fun l9 b9 => sgT (τ ((fV l9).getD 0)) (τ ((fS b9).getD 0))) mnw (wl.getD i9 0) (wl.getD (i9 + 1) 0) l8 := (zP_1 c252)
              refine lv_iload_n hx hb d_Model_faultOf_257 rfl (lv_at hl 5 rfl) ?_
              refine lv_if_eq (tgt := 268) hx hb d_Model_faultOf_258 (by decide) (fun c258 => ?_) (fun c258 => ?_)
              · have p258 : i9 = 0 := ((nI_eq (a := i9) (b := 0) (by omega) (by omega)).mp c258)
                refine lv_aload_n hx hb d_Model_faultOf_268 rfl (lv_at hl 4 rfl) ?_
                refine lv_aload_n hx hb d_Model_faultOf_269 rfl (lv_at hl 3 rfl) ?_
                refine lv_iload_n hx hb d_Model_faultOf_270 rfl (lv_at hl 5 rfl) ?_
                refine vp_callSi (pu_callV (As := [.ref ((fS (wl.getD i9 0)).getD 0), .int (nI i9)]) (rest := []) ⟨hx, hb, hml, hown, hts⟩ tbin (p_Model_namesMayBe l dC dI sb γ κ Ad τ gT G69 mo ((fS (wl.getD i9 0)).getD 0) _ _ _ _ _ _ _ _ _ _ _ _ _ _ _ _ _ _ _ _ _ _ _ _ _ _ _ _ _ _ _ _ _ _ _ _ hTy (by have h9 := kmo; rw [eX_10] at h9; exact h9) kt_4 hc_4 kmwy kmsT hst hway hwl (by omega) (by omega) (by omega)) q9_150 q9_152 qp_48 q1_9 q9_153 (n := 2) (by decide +kernel) rfl ⟨rfl, rfl⟩ ⟨Nat.le_of_ble_eq_true rfl, Nat.le_of_ble_eq_true rfl⟩ ⟨Nat.le_of_ble_eq_true rfl, Nat.le_of_ble_eq_true rfl⟩ hN (hT0.keep hS hAs) hK hP (List.range G69.length) (rg_all G69) [0, 1, 2, 3, 4] rfl i_11 12 hg_11 rfl rfl hl.1 rfl (Nat.le_of_ble_eq_true rfl) d_Model_faultOf_271) (fun r271 hr271 => ?_)
                obtain rfl : r271 = zP (namQ (cXf τ fS) wl i9) := hr271
                refine lv_if_ne (tgt := 279) hx hb d_Model_faultOf_274 (by decide) (fun c274 => ?_) (fun c274 => ?_)
                · have p274 : namQ (cXf τ fS) wl i9 := (zP_1 c274)
                  refine lv_aload_n hx hb d_Model_faultOf_279 rfl (lv_at hl 3 rfl) ?_
                  obtain ⟨i_32, kA_32, hg_32⟩ := tr_20 hTy kt_4
                  refine va_get (v := .int ((τ ((fS (wl.getD i9 0)).getD 0)).I 30)) hx hb htb i_Text hown hK hP i_32 hg_32 rfl 30 (by decide) (htb _ q6_233) (fun _ h9 => h9) rfl d_Model_faultOf_280 ?_
                  refine lv_if_le (tgt := 289) hx hb d_Model_faultOf_283 (by decide) (fun c283 => ?_) (fun c283 => ?_)
                  · have p283 : ((τ ((fS (wl.getD i9 0)).getD 0)).I 30) ≤ (0 : Int32) := c283
                    refine lv_iload_n hx hb d_Model_faultOf_289 rfl (lv_at hl 5 rfl) ?_
                    refine lv_if_ne (tgt := 295) hx hb d_Model_faultOf_290 (by decide) (fun c290 => ?_) (fun c290 => ?_)
                    · have p290 : ¬ (i9 = 0) := (fun q9 => c290 ((nI_eq (a := i9) (b := 0) (by omega) (by omega)).mpr q9))
                      have hca9 : b01 ((τ ((fS (wl.getD i9 0)).getD 0)).I 40) := hc_4.c1
                      refine lv_aload_n hx hb d_Model_faultOf_295 rfl (lv_at hl 3 rfl) ?_
                      refine va_get (v := .int ((τ ((fS (wl.getD i9 0)).getD 0)).I 40)) hx hb htb i_Text hown hK hP i_32 hg_32 rfl 40 (by decide) (htb _ q7_9) (fun _ h9 => h9) rfl d_Model_faultOf_296 ?_
                      refine lv_if_ne (tgt := 305) hx hb d_Model_faultOf_299 (by decide) (fun c299 => ?_) (fun c299 => ?_)
                      · have p299 : ¬ (((τ ((fS (wl.getD i9 0)).getD 0)).I 40) = (0 : Int32)) := c299
                        refine lv_iload_n hx hb d_Model_faultOf_305 rfl (lv_at hl 5 rfl) ?_
                        refine lv_iconst (v := 1) hx hb d_Model_faultOf_306 (by decide) ?_
                        refine lv_iadd hx hb d_Model_faultOf_307 ?_
                        rw [show ((nI i9) + 1 : Int32) = nI (i9 + 1) from nI_add i9 1]
                        refine lv_istore (lv' := [(5, .int (nI (i9 + 1))), (4, .int (zP (∃ l8, l8 < z69 ∧ couQ (cXf τ fS) (lXf τ fV) (fun l9 b9 => sgT (τ ((fV l9).getD 0)) (τ ((fS b9).getD 0))) mnw (wl.getD i9 0) (wl.getD (i9 + 1) 0) l8))), (3, .ref ((fS (wl.getD (i9 + 1) 0)).getD 0)), (2, .ref ((fS (wl.getD i9 0)).getD 0)), (0, .ref mo), (1, .int (nI i9))]) hx hb d_Model_faultOf_308 hl (by decide) rfl (fun ls hl => ?_)
                        refine w_loop (α := Nat) (fun a9 => i9 + 1 ≤ a9 ∧ a9 ≤ (s9 - 1) ∧ (∀ j9, j9 < a9 → ¬ (i9 < j9 ∧ ¬ ((cXf τ fS) (wl.getD j9 0)).ln < 0 ∧ ((cXf τ fS) (wl.getD j9 0)).ln < nI (btwQ (cXf τ fS) wl i9 (j9 - i9))))) (fun a9 => (s9 - 1) - a9) (fun a9 => [(5, .int (nI a9)), (4, .int (zP (∃ l8, l8 < z69 ∧ couQ (cXf τ fS) (lXf τ fV) (fun l9 b9 => sgT (τ ((fV l9).getD 0)) (τ ((fS b9).getD 0))) mnw (wl.getD i9 0) (wl.getD (i9 + 1) 0) l8))), (3, .ref ((fS (wl.getD (i9 + 1) 0)).getD 0)), (2, .ref ((fS (wl.getD i9 0)).getD 0)), (0, .ref mo), (1, .int (nI i9))]) (fun _ => []) 9 310 (fun z310 ls hJ hl ih310 => ?_) ((i9 + 1)) ls ⟨by omega, by omega, fun j9 h9 q9 => absurd q9.1 (by omega)⟩ (lv_sub hl [0, 1, 2, 3, 4, 5] rfl)
                        skip
                        obtain ⟨hy310, hz310, hJ310⟩ := hJ
                        refine lv_iload hx hb d_Model_faultOf_310 (lv_at hl 0 rfl) ?_
                        refine lv_aload_n hx hb d_Model_faultOf_312 rfl (lv_at hl 4 rfl) ?_
                        refine va_get (v := .int (nI s9)) hx hb htb i_Model hown hK hP i_11 hg_11 rfl 23 (by decide) (htb _ q7_237) (fun _ h9 => h9) rfl d_Model_faultOf_313 ?_
                        refine lv_iconst (v := 1) hx hb d_Model_faultOf_316 (by decide) ?_
                        refine lv_isub hx hb d_Model_faultOf_317 ?_
                        rw [show ((nI s9) - 1 : Int32) = nI (s9 - 1) from pk_sub (a := s9) (b := 1) (by omega)]
                        refine lv_icmp_ge (tgt := 402) hx hb d_Model_faultOf_318 (by decide) (fun c318 => ?_) (fun c318 => ?_)
                        · have p318 : (s9 - 1) ≤ z310 := ((nI_leI (a := (s9 - 1)) (b := z310) (by omega) (by omega)).mp c318)
                          refine lv_aload_n hx hb d_Model_faultOf_402 rfl (lv_at hl 3 rfl) ?_
                          refine va_get (v := .int ((τ ((fS (wl.getD i9 0)).getD 0)).I 26)) hx hb htb i_Text hown hK hP i_32 hg_32 rfl 26 (by decide) (htb _ q6_224) (fun _ h9 => h9) rfl d_Model_faultOf_403 ?_
                          refine lv_if_lt (tgt := 425) hx hb d_Model_faultOf_406 (by decide) (fun c406 => ?_) (fun c406 => ?_)
                          · have p406 : ((τ ((fS (wl.getD i9 0)).getD 0)).I 26) < (0 : Int32) := c406
                            refine lv_iconst (v := 0) hx hb d_Model_faultOf_425 (by decide) ?_
                            exact W.iret (v := 0) hx hb hr (fun t ht hW => ⟨⟨_, G69, rfl, ⟨hTy, hFR, Eq.symm (if_nt (fun q9 => q9 p32) (if_nt (fun q9 => q9.elim (fun z => p46 (cmp_lt.mpr z)) (fun z => q_ng p58 (cmp_gt.mpr z))) (if_nt (fun ⟨l8, h7, h8, h9⟩ => hJk l8 (by omega) h8 h9) (if_nt (fun q9 => q9.2 (by obtain ⟨l8, h7, h8⟩ := p252; exact ⟨l8, by omega, h8⟩)) (if_nt (fun q9 => q9.2 p274) (if_nt (q_ng p283) (if_nt p290 (if_nt (fun q9 => q9 (b01_1 hca9 p299)) (if_nt (fun ⟨j9, h6, h7, h8, h9⟩ => hJ310 j9 (by omega) ⟨h6, h8, h9⟩) (if_pos (use_5.mpr (Or.inl p406)))))))))))), ⟨_, by rw [eX_10] at kmo; exact kmo⟩, ⟨_, hfm, kmmA⟩, ⟨_, hfr, kmrA⟩⟩, by rw [ht]; exact hP, va_K.moved hW.alike hK, hD⟩, hS.F ht⟩) hS.2.2 d_Model_faultOf_426
                          · have p406 : ¬ (((τ ((fS (wl.getD i9 0)).getD 0)).I 26) < (0 : Int32)) := c406
                            refine lv_aload_n hx hb d_Model_faultOf_409 rfl (lv_at hl 3 rfl) ?_
                            refine va_get (v := .int ((τ ((fS (wl.getD i9 0)).getD 0)).I 26)) hx hb htb i_Text hown hK hP i_32 hg_32 rfl 26 (by decide) (htb _ q6_224) (fun _ h9 => h9) rfl d_Model_faultOf_410 ?_
                            refine lv_iconst (v := 5) hx hb d_Model_faultOf_413 (by decide) ?_
                            refine lv_ishr hx hb d_Model_faultOf_414 ?_
                            refine lv_iconst (v := 1) hx hb d_Model_faultOf_415 (by decide) ?_
                            refine lv_iand hx hb d_Model_faultOf_416 ?_
                            refine lv_if_ne (tgt := 425) hx hb d_Model_faultOf_417 (by decide) (fun c417 => ?_) (fun c417 => ?_)
                            · have p417 : ¬ (((((τ ((fS (wl.getD i9 0)).getD 0)).I 26) >>> (5 &&& 31)) &&& 1) = (0 : Int32)) := c417
                              refine lv_iconst (v := 0) hx hb d_Model_faultOf_425 (by decide) ?_
                              exact W.iret (v := 0) hx hb hr (fun t ht hW => ⟨⟨_, G69, rfl, ⟨hTy, hFR, Eq.symm (if_nt (fun q9 => q9 p32) (if_nt (fun q9 => q9.elim (fun z => p46 (cmp_lt.mpr z)) (fun z => q_ng p58 (cmp_gt.mpr z))) (if_nt (fun ⟨l8, h7, h8, h9⟩ => hJk l8 (by omega) h8 h9) (if_nt (fun q9 => q9.2 (by obtain ⟨l8, h7, h8⟩ := p252; exact ⟨l8, by omega, h8⟩)) (if_nt (fun q9 => q9.2 p274) (if_nt (q_ng p283) (if_nt p290 (if_nt (fun q9 => q9 (b01_1 hca9 p299)) (if_nt (fun ⟨j9, h6, h7, h8, h9⟩ => hJ310 j9 (by omega) ⟨h6, h8, h9⟩) (if_pos (use_5.mpr (Or.inr p417)))))))))))), ⟨_, by rw [eX_10] at kmo; exact kmo⟩, ⟨_, hfm, kmmA⟩, ⟨_, hfr, kmrA⟩⟩, by rw [ht]; exact hP, va_K.moved hW.alike hK, hD⟩, hS.F ht⟩) hS.2.2 d_Model_faultOf_426
                            · have p417 : ((((τ ((fS (wl.getD i9 0)).getD 0)).I 26) >>> (5 &&& 31)) &&& 1) = (0 : Int32) := c417
                              refine lv_bipush (v := 9) hx hb d_Model_faultOf_420 (by decide) ?_
                              refine lv_goto (tgt := 426) hx hb d_Model_faultOf_422 (by decide) ?_
                              exact W.iret (v := 9) hx hb hr (fun t ht hW => ⟨⟨_, G69, rfl, ⟨hTy, hFR, Eq.symm (if_nt (fun q9 => q9 p32) (if_nt (fun q9 => q9.elim (fun z => p46 (cmp_lt.mpr z)) (fun z => q_ng p58 (cmp_gt.mpr z))) (if_nt (fun ⟨l8, h7, h8, h9⟩ => hJk l8 (by omega) h8 h9) (if_nt (fun q9 => q9.2 (by obtain ⟨l8, h7, h8⟩ := p252; exact ⟨l8, by omega, h8⟩)) (if_nt (fun q9 => q9.2 p274) (if_nt (q_ng p283) (if_nt p290 (if_nt (fun q9 => q9 (b01_1 hca9 p299)) (if_nt (fun ⟨j9, h6, h7, h8, h9⟩ => hJ310 j9 (by omega) ⟨h6, h8, h9⟩) (if_neg (fun q9 => (use_5.mp q9).elim p406 (fun z9 => z9 p417)))))))))))), ⟨_, by rw [eX_10] at kmo; exact kmo⟩, ⟨_, hfm, kmmA⟩, ⟨_, hfr, kmrA⟩⟩, by rw [ht]; exact hP, va_K.moved hW.alike hK, hD⟩, hS.F ht⟩) hS.2.2 d_Model_faultOf_426
                        · have p318 : ¬ ((s9 - 1) ≤ z310) := (fun q9 => c318 ((nI_leI (a := (s9 - 1)) (b := z310) (by omega) (by omega)).mpr q9))
                          refine lv_aload_n hx hb d_Model_faultOf_321 rfl (lv_at hl 4 rfl) ?_
                          refine va_get (v := .ref msT) hx hb htb i_Model hown hK hP i_11 hg_11 rfl 6 (by decide) (htb _ q7_220) (fun _ h9 => h9) rfl d_Model_faultOf_322 ?_
                          refine lv_aload_n hx hb d_Model_faultOf_325 rfl (lv_at hl 4 rfl) ?_
                          refine va_get (v := .ref mwy) hx hb htb i_Model hown hK hP i_11 hg_11 rfl 21 (by decide) (htb _ q7_235) (fun _ h9 => h9) rfl d_Model_faultOf_326 ?_
                          refine lv_iload hx hb d_Model_faultOf_329 (lv_at hl 0 rfl) ?_
                          obtain ⟨i_33, hg_33⟩ := List.getElem?_of_mem kmwy.2
                          have h331 : vp_in (nI z310) 16 := vp_in_nI (by omega) (by omega)
                          refine va_iald hx hb hK hP i_33 1 hg_33 rfl h331 d_Model_faultOf_331 ?_
                          refine lv_topi (fun e331 he331 => ?_)
                          have hw331 := hway z310 (by omega)
                          rw [nI_clamp (by omega), hw331.2] at he331
                          have hw331 := hw331.1
                          subst he331
                          obtain ⟨i_34, hg_34⟩ := List.getElem?_of_mem kmsT.2
                          have h332 : vp_in (nI (wl.getD z310 0)) 16 := vp_in_nI (by omega) (by omega)
                          refine va_aldq hx hb hK hP i_34 4 hg_34 rfl h332 d_Model_faultOf_332 ?_
                          obtain ⟨t_35, ft_35, kt_35, hc_35⟩ := hst (wl.getD z310 0) (by omega)
                          obtain rfl : t_35 = ((fS (wl.getD z310 0)).getD 0) := by rw [ft_35]; rfl
                          rw [show va_rf (fS (nI (wl.getD z310 0)).toNatClampNeg) = .ref ((fS (wl.getD z310 0)).getD 0) from by rw [nI_clamp (by omega), ft_35]; rfl]
                          have b1_35 := hc_35.b1
                          have b2_35 := hc_35.b2
                          have b3_35 := hc_35.b3
                          have b4_35 := hc_35.b4
                          have b5_35 := hc_35.b5
                          have b6_35 := hc_35.b6
                          have b8_35 := hc_35.b8
                          have b9_35 := hc_35.b9
                          refine lv_astore (lv' := [(6, .ref ((fS (wl.getD z310 0)).getD 0)), (5, .int (nI z310)), (4, .int (zP (∃ l8, l8 < z69 ∧ couQ (cXf τ fS) (lXf τ fV) (fun l9 b9 => sgT (τ ((fV l9).getD 0)) (τ ((fS b9).getD 0))) mnw (wl.getD i9 0) (wl.getD (i9 + 1) 0) l8))), (3, .ref ((fS (wl.getD (i9 + 1) 0)).getD 0)), (2, .ref ((fS (wl.getD i9 0)).getD 0)), (0, .ref mo), (1, .int (nI i9))]) hx hb d_Model_faultOf_333 hl (by decide) rfl (fun ls hl => ?_)
                          refine lv_iconst (v := 0) hx hb d_Model_faultOf_335 (by decide) ?_
                          refine lv_istore (lv' := [(7, .int 0), (6, .ref ((fS (wl.getD z310 0)).getD 0)), (5, .int (nI z310)), (4, .int (zP (∃ l8, l8 < z69 ∧ couQ (cXf τ fS) (lXf τ fV) (fun l9 b9 => sgT (τ ((fV l9).getD 0)) (τ ((fS b9).getD 0))) mnw (wl.getD i9 0) (wl.getD (i9 + 1) 0) l8))), (3, .ref ((fS (wl.getD (i9 + 1) 0)).getD 0)), (2, .ref ((fS (wl.getD i9 0)).getD 0)), (0, .ref mo), (1, .int (nI i9))]) hx hb d_Model_faultOf_336 hl (by decide) rfl (fun ls hl => ?_)
                          have e7 : (0 : Int32) = nI (btwQ (cXf τ fS) wl i9 (i9 - i9)) := by rw [Nat.sub_self]; rfl
                          have hl : lv_has ls 9 [(7, .int (nI (btwQ (cXf τ fS) wl i9 (i9 - i9)))), (6, .ref ((fS (wl.getD z310 0)).getD 0)), (5, .int (nI z310)), (4, .int (zP (∃ l8, l8 < z69 ∧ couQ (cXf τ fS) (lXf τ fV) (fun l9 b9 => sgT (τ ((fV l9).getD 0)) (τ ((fS b9).getD 0))) mnw (wl.getD i9 0) (wl.getD (i9 + 1) 0) l8))), (3, .ref ((fS (wl.getD (i9 + 1) 0)).getD 0)), (2, .ref ((fS (wl.getD i9 0)).getD 0)), (0, .ref mo), (1, .int (nI i9))] := by rw [← e7]; exact hl
                          refine lv_iload_n hx hb d_Model_faultOf_338 rfl (lv_at hl 7 rfl) ?_
                          refine lv_istore (lv' := [(8, .int (nI i9)), (7, .int (nI (btwQ (cXf τ fS) wl i9 (i9 - i9)))), (6, .ref ((fS (wl.getD z310 0)).getD 0)), (5, .int (nI z310)), (4, .int (zP (∃ l8, l8 < z69 ∧ couQ (cXf τ fS) (lXf τ fV) (fun l9 b9 => sgT (τ ((fV l9).getD 0)) (τ ((fS b9).getD 0))) mnw (wl.getD i9 0) (wl.getD (i9 + 1) 0) l8))), (3, .ref ((fS (wl.getD (i9 + 1) 0)).getD 0)), (2, .ref ((fS (wl.getD i9 0)).getD 0)), (0, .ref mo), (1, .int (nI i9))]) hx hb d_Model_faultOf_339 hl (by decide) rfl (fun ls hl => ?_)
                          refine w_loop (α := Nat) (fun a9 => i9 ≤ a9 ∧ a9 ≤ z310) (fun a9 => z310 - a9) (fun a9 => [(8, .int (nI a9)), (7, .int (nI (btwQ (cXf τ fS) wl i9 (a9 - i9)))), (6, .ref ((fS (wl.getD z310 0)).getD 0)), (5, .int (nI z310)), (4, .int (zP (∃ l8, l8 < z69 ∧ couQ (cXf τ fS) (lXf τ fV) (fun l9 b9 => sgT (τ ((fV l9).getD 0)) (τ ((fS b9).getD 0))) mnw (wl.getD i9 0) (wl.getD (i9 + 1) 0) l8))), (3, .ref ((fS (wl.getD (i9 + 1) 0)).getD 0)), (2, .ref ((fS (wl.getD i9 0)).getD 0)), (0, .ref mo), (1, .int (nI i9))]) (fun _ => []) 9 341 (fun z341 ls hJ hl ih341 => ?_) (i9) ls ⟨by omega, by omega⟩ (lv_sub hl [0, 1, 2, 3, 4, 5, 6, 7, 8] rfl)
                          skip
                          obtain ⟨hy341, hz341⟩ := hJ
                          refine lv_iload hx hb d_Model_faultOf_341 (lv_at hl 0 rfl) ?_
                          refine lv_iload hx hb d_Model_faultOf_343 (lv_at hl 3 rfl) ?_
                          refine lv_icmp_ge (tgt := 375) hx hb d_Model_faultOf_345 (by decide) (fun c345 => ?_) (fun c345 => ?_)
                          · have p345 : z310 ≤ z341 := ((nI_leI (a := z310) (b := z341) (by omega) (by omega)).mp c345)
                            have ez341 : z341 = z310 := by omega
                            rw [ez341] at hl
                            refine lv_aload hx hb d_Model_faultOf_375 (lv_at hl 2 rfl) ?_
                            obtain ⟨i_36, kA_36, hg_36⟩ := tr_20 hTy kt_35
                            refine va_get (v := .int ((τ ((fS (wl.getD z310 0)).getD 0)).I 25)) hx hb htb i_Text hown hK hP i_36 hg_36 rfl 25 (by decide) (htb _ q6_222) (fun _ h9 => h9) rfl d_Model_faultOf_377 ?_
                            refine lv_if_lt (tgt := 396) hx hb d_Model_faultOf_380 (by decide) (fun c380 => ?_) (fun c380 => ?_)
                            · have p380 : ((τ ((fS (wl.getD z310 0)).getD 0)).I 25) < (0 : Int32) := c380
                              refine lv_iinc (v := nI (z310 + 1)) (lv' := [(5, .int (nI (z310 + 1))), (8, .int (nI z310)), (7, .int (nI (btwQ (cXf τ fS) wl i9 (z310 - i9)))), (6, .ref ((fS (wl.getD z310 0)).getD 0)), (4, .int (zP (∃ l8, l8 < z69 ∧ couQ (cXf τ fS) (lXf τ fV) (fun l9 b9 => sgT (τ ((fV l9).getD 0)) (τ ((fS b9).getD 0))) mnw (wl.getD i9 0) (wl.getD (i9 + 1) 0) l8))), (3, .ref ((fS (wl.getD (i9 + 1) 0)).getD 0)), (2, .ref ((fS (wl.getD i9 0)).getD 0)), (0, .ref mo), (1, .int (nI i9))]) hx hb d_Model_faultOf_396 hl (k := 3) rfl (nI_1 _) (by decide) rfl (fun ls hl => ?_)
                              refine lv_goto (tgt := 310) hx hb d_Model_faultOf_399 (by decide) ?_
                              exact ih310 ((z310 + 1)) ls (by omega) ⟨by omega, by omega, fun j9 h9 => (Nat.lt_succ_iff_lt_or_eq.mp h9).elim (hJ310 j9) (fun e9 => by subst e9; exact fun q9 => q9.2.1 p380)⟩ (lv_sub hl [0, 4, 5, 6, 7, 8] rfl)
                            · have p380 : ¬ (((τ ((fS (wl.getD z310 0)).getD 0)).I 25) < (0 : Int32)) := c380
                              refine lv_aload hx hb d_Model_faultOf_383 (lv_at hl 2 rfl) ?_
                              refine va_get (v := .int ((τ ((fS (wl.getD z310 0)).getD 0)).I 25)) hx hb htb i_Text hown hK hP i_36 hg_36 rfl 25 (by decide) (htb _ q6_222) (fun _ h9 => h9) rfl d_Model_faultOf_385 ?_
                              refine lv_iload hx hb d_Model_faultOf_388 (lv_at hl 1 rfl) ?_
                              refine lv_icmp_ge (tgt := 396) hx hb d_Model_faultOf_390 (by decide) (fun c390 => ?_) (fun c390 => ?_)
                              · have p390 : (nI (btwQ (cXf τ fS) wl i9 (z310 - i9))) ≤ ((τ ((fS (wl.getD z310 0)).getD 0)).I 25) := c390
                                refine lv_iinc (v := nI (z310 + 1)) (lv' := [(5, .int (nI (z310 + 1))), (8, .int (nI z310)), (7, .int (nI (btwQ (cXf τ fS) wl i9 (z310 - i9)))), (6, .ref ((fS (wl.getD z310 0)).getD 0)), (4, .int (zP (∃ l8, l8 < z69 ∧ couQ (cXf τ fS) (lXf τ fV) (fun l9 b9 => sgT (τ ((fV l9).getD 0)) (τ ((fS b9).getD 0))) mnw (wl.getD i9 0) (wl.getD (i9 + 1) 0) l8))), (3, .ref ((fS (wl.getD (i9 + 1) 0)).getD 0)), (2, .ref ((fS (wl.getD i9 0)).getD 0)), (0, .ref mo), (1, .int (nI i9))]) hx hb d_Model_faultOf_396 hl (k := 3) rfl (nI_1 _) (by decide) rfl (fun ls hl => ?_)
                                refine lv_goto (tgt := 310) hx hb d_Model_faultOf_399 (by decide) ?_
                                exact ih310 ((z310 + 1)) ls (by omega) ⟨by omega, by omega, fun j9 h9 => (Nat.lt_succ_iff_lt_or_eq.mp h9).elim (hJ310 j9) (fun e9 => by subst e9; exact fun q9 => (q_ng p390) q9.2.2)⟩ (lv_sub hl [0, 4, 5, 6, 7, 8] rfl)
                              · have p390 : ¬ ((nI (btwQ (cXf τ fS) wl i9 (z310 - i9))) ≤ ((τ ((fS (wl.getD z310 0)).getD 0)).I 25)) := c390
                                refine lv_bipush (v := 8) hx hb d_Model_faultOf_393 (by decide) ?_
                                exact W.iret (v := 8) hx hb hr (fun t ht hW => ⟨⟨_, G69, rfl, ⟨hTy, hFR, Eq.symm (if_nt (fun q9 => q9 p32) (if_nt (fun q9 => q9.elim (fun z => p46 (cmp_lt.mpr z)) (fun z => q_ng p58 (cmp_gt.mpr z))) (if_nt (fun ⟨l8, h7, h8, h9⟩ => hJk l8 (by omega) h8 h9) (if_nt (fun q9 => q9.2 (by obtain ⟨l8, h7, h8⟩ := p252; exact ⟨l8, by omega, h8⟩)) (if_nt (fun q9 => q9.2 p274) (if_nt (q_ng p283) (if_nt p290 (if_nt (fun q9 => q9 (b01_1 hca9 p299)) (if_pos ⟨z310, by omega, by omega, p380, q_gt p390⟩))))))))), ⟨_, by rw [eX_10] at kmo; exact kmo⟩, ⟨_, hfm, kmmA⟩, ⟨_, hfr, kmrA⟩⟩, by rw [ht]; exact hP, va_K.moved hW.alike hK, hD⟩, hS.F ht⟩) hS.2.2 d_Model_faultOf_395
                          · have p345 : ¬ (z310 ≤ z341) := (fun q9 => c345 ((nI_leI (a := z310) (b := z341) (by omega) (by omega)).mpr q9))
                            refine lv_aload_n hx hb d_Model_faultOf_348 rfl (lv_at hl 7 rfl) ?_
                            refine va_get (v := .ref msT) hx hb htb i_Model hown hK hP i_11 hg_11 rfl 6 (by decide) (htb _ q7_220) (fun _ h9 => h9) rfl d_Model_faultOf_349 ?_
                            refine lv_aload_n hx hb d_Model_faultOf_352 rfl (lv_at hl 7 rfl) ?_
                            refine va_get (v := .ref mwy) hx hb htb i_Model hown hK hP i_11 hg_11 rfl 21 (by decide) (htb _ q7_235) (fun _ h9 => h9) rfl d_Model_faultOf_353 ?_
                            refine lv_iload hx hb d_Model_faultOf_356 (lv_at hl 0 rfl) ?_
                            have h358 : vp_in (nI z341) 16 := vp_in_nI (by omega) (by omega)
                            refine va_iald hx hb hK hP i_33 1 hg_33 rfl h358 d_Model_faultOf_358 ?_
                            refine lv_topi (fun e358 he358 => ?_)
                            have hw358 := hway z341 (by omega)
                            rw [nI_clamp (by omega), hw358.2] at he358
                            have hw358 := hw358.1
                            subst he358
                            have h359 : vp_in (nI (wl.getD z341 0)) 16 := vp_in_nI (by omega) (by omega)
                            refine va_aldq hx hb hK hP i_34 4 hg_34 rfl h359 d_Model_faultOf_359 ?_
                            obtain ⟨t_37, ft_37, kt_37, hc_37⟩ := hst (wl.getD z341 0) (by omega)
                            obtain rfl : t_37 = ((fS (wl.getD z341 0)).getD 0) := by rw [ft_37]; rfl
                            rw [show va_rf (fS (nI (wl.getD z341 0)).toNatClampNeg) = .ref ((fS (wl.getD z341 0)).getD 0) from by rw [nI_clamp (by omega), ft_37]; rfl]
                            have b1_37 := hc_37.b1
                            have b2_37 := hc_37.b2
                            have b3_37 := hc_37.b3
                            have b4_37 := hc_37.b4
                            have b5_37 := hc_37.b5
                            have b6_37 := hc_37.b6
                            have b8_37 := hc_37.b8
                            have b9_37 := hc_37.b9
                            obtain ⟨i_38, kA_38, hg_38⟩ := tr_20 hTy kt_37
                            refine vp_callSi (pu_callV (As := []) (rest := []) ⟨hx, hb, hml, hown, hts⟩ tbin (p_Text_isOwn l dC dI sb γ κ Ad τ gT G69 ((fS (wl.getD z341 0)).getD 0)  hTy kt_37 hc_37) q9_146 q9_147 q9_148 q1_10 q9_149 (n := 0) (by decide +kernel) rfl ⟨rfl, rfl⟩ ⟨Nat.le_of_ble_eq_true rfl, Nat.le_of_ble_eq_true rfl⟩ ⟨Nat.le_of_ble_eq_true rfl, Nat.le_of_ble_eq_true rfl⟩ hN (hT0.keep hS hAs) hK hP (List.range G69.length) (rg_all G69) [0, 1, 2, 3, 4] rfl i_38 13 hg_38 rfl rfl hl.1 rfl (Nat.le_of_ble_eq_true rfl) d_Model_faultOf_360) (fun r360 hr360 => ?_)
                            obtain rfl : r360 = zP (ownQ (cT (τ ((fS (wl.getD z341 0)).getD 0)))) := hr360
                            refine lv_if_ne (tgt := 369) hx hb d_Model_faultOf_363 (by decide) (fun c363 => ?_) (fun c363 => ?_)
                            · have p363 : ownQ (cT (τ ((fS (wl.getD z341 0)).getD 0))) := (zP_1 c363)
                              have e7 : (nI (btwQ (cXf τ fS) wl i9 (z341 - i9)) : Int32) = nI (btwQ (cXf τ fS) wl i9 (z341 + 1 - i9)) := btw_y (by omega) p363
                              have hl : lv_has ls 9 [(8, .int (nI z341)), (7, .int (nI (btwQ (cXf τ fS) wl i9 (z341 + 1 - i9)))), (6, .ref ((fS (wl.getD z310 0)).getD 0)), (5, .int (nI z310)), (4, .int (zP (∃ l8, l8 < z69 ∧ couQ (cXf τ fS) (lXf τ fV) (fun l9 b9 => sgT (τ ((fV l9).getD 0)) (τ ((fS b9).getD 0))) mnw (wl.getD i9 0) (wl.getD (i9 + 1) 0) l8))), (3, .ref ((fS (wl.getD (i9 + 1) 0)).getD 0)), (2, .ref ((fS (wl.getD i9 0)).getD 0)), (0, .ref mo), (1, .int (nI i9))] := by rw [← e7]; exact hl
                              refine lv_iinc (v := nI (z341 + 1)) (lv' := [(8, .int (nI (z341 + 1))), (7, .int (nI (btwQ (cXf τ fS) wl i9 (z341 + 1 - i9)))), (6, .ref ((fS (wl.getD z310 0)).getD 0)), (5, .int (nI z310)), (4, .int (zP (∃ l8, l8 < z69 ∧ couQ (cXf τ fS) (lXf τ fV) (fun l9 b9 => sgT (τ ((fV l9).getD 0)) (τ ((fS b9).getD 0))) mnw (wl.getD i9 0) (wl.getD (i9 + 1) 0) l8))), (3, .ref ((fS (wl.getD (i9 + 1) 0)).getD 0)), (2, .ref ((fS (wl.getD i9 0)).getD 0)), (0, .ref mo), (1, .int (nI i9))]) hx hb d_Model_faultOf_369 hl (k := 0) rfl (nI_1 _) (by decide) rfl (fun ls hl => ?_)
                              refine lv_goto (tgt := 341) hx hb d_Model_faultOf_372 (by decide) ?_
                              exact ih341 ((z341 + 1)) ls (by omega) ⟨by omega, by omega⟩ (lv_sub hl [0, 1, 2, 3, 4, 5, 6, 7, 8] rfl)
                            · have p363 : ¬ (ownQ (cT (τ ((fS (wl.getD z341 0)).getD 0)))) := (zP_0.mp c363)
                              refine lv_iinc (v := nI (btwQ (cXf τ fS) wl i9 (z341 - i9) + 1)) (lv' := [(7, .int (nI (btwQ (cXf τ fS) wl i9 (z341 - i9) + 1))), (8, .int (nI z341)), (6, .ref ((fS (wl.getD z310 0)).getD 0)), (5, .int (nI z310)), (4, .int (zP (∃ l8, l8 < z69 ∧ couQ (cXf τ fS) (lXf τ fV) (fun l9 b9 => sgT (τ ((fV l9).getD 0)) (τ ((fS b9).getD 0))) mnw (wl.getD i9 0) (wl.getD (i9 + 1) 0) l8))), (3, .ref ((fS (wl.getD (i9 + 1) 0)).getD 0)), (2, .ref ((fS (wl.getD i9 0)).getD 0)), (0, .ref mo), (1, .int (nI i9))]) hx hb d_Model_faultOf_366 hl (k := 1) rfl (nI_1 _) (by decide) rfl (fun ls hl => ?_)
                              have e7 : (nI (btwQ (cXf τ fS) wl i9 (z341 - i9) + 1) : Int32) = nI (btwQ (cXf τ fS) wl i9 (z341 + 1 - i9)) := btw_n (by omega) p363
                              have hl : lv_has ls 9 [(7, .int (nI (btwQ (cXf τ fS) wl i9 (z341 + 1 - i9)))), (8, .int (nI z341)), (6, .ref ((fS (wl.getD z310 0)).getD 0)), (5, .int (nI z310)), (4, .int (zP (∃ l8, l8 < z69 ∧ couQ (cXf τ fS) (lXf τ fV) (fun l9 b9 => sgT (τ ((fV l9).getD 0)) (τ ((fS b9).getD 0))) mnw (wl.getD i9 0) (wl.getD (i9 + 1) 0) l8))), (3, .ref ((fS (wl.getD (i9 + 1) 0)).getD 0)), (2, .ref ((fS (wl.getD i9 0)).getD 0)), (0, .ref mo), (1, .int (nI i9))] := by rw [← e7]; exact hl
                              refine lv_iinc (v := nI (z341 + 1)) (lv' := [(8, .int (nI (z341 + 1))), (7, .int (nI (btwQ (cXf τ fS) wl i9 (z341 + 1 - i9)))), (6, .ref ((fS (wl.getD z310 0)).getD 0)), (5, .int (nI z310)), (4, .int (zP (∃ l8, l8 < z69 ∧ couQ (cXf τ fS) (lXf τ fV) (fun l9 b9 => sgT (τ ((fV l9).getD 0)) (τ ((fS b9).getD 0))) mnw (wl.getD i9 0) (wl.getD (i9 + 1) 0) l8))), (3, .ref ((fS (wl.getD (i9 + 1) 0)).getD 0)), (2, .ref ((fS (wl.getD i9 0)).getD 0)), (0, .ref mo), (1, .int (nI i9))]) hx hb d_Model_faultOf_369 hl (k := 1) rfl (nI_1 _) (by decide) rfl (fun ls hl => ?_)
                              refine lv_goto (tgt := 341) hx hb d_Model_faultOf_372 (by decide) ?_
                              exact ih341 ((z341 + 1)) ls (by omega) ⟨by omega, by omega⟩ (lv_sub hl [0, 1, 2, 3, 4, 5, 6, 7, 8] rfl)
                      · have p299 : ((τ ((fS (wl.getD i9 0)).getD 0)).I 40) = (0 : Int32) := c299
                        refine lv_bipush (v := 7) hx hb d_Model_faultOf_302 (by decide) ?_
                        exact W.iret (v := 7) hx hb hr (fun t ht hW => ⟨⟨_, G69, rfl, ⟨hTy, hFR, Eq.symm (if_nt (fun q9 => q9 p32) (if_nt (fun q9 => q9.elim (fun z => p46 (cmp_lt.mpr z)) (fun z => q_ng p58 (cmp_gt.mpr z))) (if_nt (fun ⟨l8, h7, h8, h9⟩ => hJk l8 (by omega) h8 h9) (if_nt (fun q9 => q9.2 (by obtain ⟨l8, h7, h8⟩ := p252; exact ⟨l8, by omega, h8⟩)) (if_nt (fun q9 => q9.2 p274) (if_nt (q_ng p283) (if_nt p290 (if_pos (k01_n p299))))))))), ⟨_, by rw [eX_10] at kmo; exact kmo⟩, ⟨_, hfm, kmmA⟩, ⟨_, hfr, kmrA⟩⟩, by rw [ht]; exact hP, va_K.moved hW.alike hK, hD⟩, hS.F ht⟩) hS.2.2 d_Model_faultOf_304
                    · have p290 : i9 = 0 := ((nI_eq (a := i9) (b := 0) (by omega) (by omega)).mp c290)
                      refine lv_iconst (v := 0) hx hb d_Model_faultOf_293 (by decide) ?_
                      exact W.iret (v := 0) hx hb hr (fun t ht hW => ⟨⟨_, G69, rfl, ⟨hTy, hFR, Eq.symm (if_nt (fun q9 => q9 p32) (if_nt (fun q9 => q9.elim (fun z => p46 (cmp_lt.mpr z)) (fun z => q_ng p58 (cmp_gt.mpr z))) (if_nt (fun ⟨l8, h7, h8, h9⟩ => hJk l8 (by omega) h8 h9) (if_nt (fun q9 => q9.2 (by obtain ⟨l8, h7, h8⟩ := p252; exact ⟨l8, by omega, h8⟩)) (if_nt (fun q9 => q9.2 p274) (if_nt (q_ng p283) (if_pos p290))))))), ⟨_, by rw [eX_10] at kmo; exact kmo⟩, ⟨_, hfm, kmmA⟩, ⟨_, hfr, kmrA⟩⟩, by rw [ht]; exact hP, va_K.moved hW.alike hK, hD⟩, hS.F ht⟩) hS.2.2 d_Model_faultOf_294
                  · have p283 : ¬ (((τ ((fS (wl.getD i9 0)).getD 0)).I 30) ≤ (0 : Int32)) := c283
                    refine lv_bipush (v := 6) hx hb d_Model_faultOf_286 (by decide) ?_
                    exact W.iret (v := 6) hx hb hr (fun t ht hW => ⟨⟨_, G69, rfl, ⟨hTy, hFR, Eq.symm (if_nt (fun q9 => q9 p32) (if_nt (fun q9 => q9.elim (fun z => p46 (cmp_lt.mpr z)) (fun z => q_ng p58 (cmp_gt.mpr z))) (if_nt (fun ⟨l8, h7, h8, h9⟩ => hJk l8 (by omega) h8 h9) (if_nt (fun q9 => q9.2 (by obtain ⟨l8, h7, h8⟩ := p252; exact ⟨l8, by omega, h8⟩)) (if_nt (fun q9 => q9.2 p274) (if_pos (q_gt p283))))))), ⟨_, by rw [eX_10] at kmo; exact kmo⟩, ⟨_, hfm, kmmA⟩, ⟨_, hfr, kmrA⟩⟩, by rw [ht]; exact hP, va_K.moved hW.alike hK, hD⟩, hS.F ht⟩) hS.2.2 d_Model_faultOf_288
                · have p274 : ¬ (namQ (cXf τ fS) wl i9) := (zP_0.mp c274)
                  refine lv_iconst (v := 5) hx hb d_Model_faultOf_277 (by decide) ?_
                  exact W.iret (v := 5) hx hb hr (fun t ht hW => ⟨⟨_, G69, rfl, ⟨hTy, hFR, Eq.symm (if_nt (fun q9 => q9 p32) (if_nt (fun q9 => q9.elim (fun z => p46 (cmp_lt.mpr z)) (fun z => q_ng p58 (cmp_gt.mpr z))) (if_nt (fun ⟨l8, h7, h8, h9⟩ => hJk l8 (by omega) h8 h9) (if_nt (fun q9 => q9.2 (by obtain ⟨l8, h7, h8⟩ := p252; exact ⟨l8, by omega, h8⟩)) (if_pos ⟨Or.inl p258, p274⟩))))), ⟨_, by rw [eX_10] at kmo; exact kmo⟩, ⟨_, hfm, kmmA⟩, ⟨_, hfr, kmrA⟩⟩, by rw [ht]; exact hP, va_K.moved hW.alike hK, hD⟩, hS.F ht⟩) hS.2.2 d_Model_faultOf_278
              · have p258 : ¬ (i9 = 0) := (fun q9 => c258 ((nI_eq (a := i9) (b := 0) (by omega) (by omega)).mpr q9))
                refine lv_aload_n hx hb d_Model_faultOf_261 rfl (lv_at hl 3 rfl) ?_
                obtain ⟨i_39, kA_39, hg_39⟩ := tr_20 hTy kt_4
                refine vp_callSi (pu_callV (As := []) (rest := []) ⟨hx, hb, hml, hown, hts⟩ tbin (p_Text_isOwn l dC dI sb γ κ Ad τ gT G69 ((fS (wl.getD i9 0)).getD 0)  hTy kt_4 hc_4) q9_146 q9_147 q9_148 q1_10 q9_149 (n := 0) (by decide +kernel) rfl ⟨rfl, rfl⟩ ⟨Nat.le_of_ble_eq_true rfl, Nat.le_of_ble_eq_true rfl⟩ ⟨Nat.le_of_ble_eq_true rfl, Nat.le_of_ble_eq_true rfl⟩ hN (hT0.keep hS hAs) hK hP (List.range G69.length) (rg_all G69) [0, 1, 2, 3, 4] rfl i_39 13 hg_39 rfl rfl hl.1 rfl (Nat.le_of_ble_eq_true rfl) d_Model_faultOf_262) (fun r262 hr262 => ?_)
                obtain rfl : r262 = zP (ownQ (cT (τ ((fS (wl.getD i9 0)).getD 0)))) := hr262
                refine lv_if_ne (tgt := 279) hx hb d_Model_faultOf_265 (by decide) (fun c265 => ?_) (fun c265 => ?_)
                · have p265 : ownQ (cT (τ ((fS (wl.getD i9 0)).getD 0))) := (zP_1 c265)
                  refine lv_aload_n hx hb d_Model_faultOf_279 rfl (lv_at hl 3 rfl) ?_
                  refine va_get (v := .int ((τ ((fS (wl.getD i9 0)).getD 0)).I 30)) hx hb htb i_Text hown hK hP i_39 hg_39 rfl 30 (by decide) (htb _ q6_233) (fun _ h9 => h9) rfl d_Model_faultOf_280 ?_
                  refine lv_if_le (tgt := 289) hx hb d_Model_faultOf_283 (by decide) (fun c283 => ?_) (fun c283 => ?_)
                  · have p283 : ((τ ((fS (wl.getD i9 0)).getD 0)).I 30) ≤ (0 : Int32) := c283
                    refine lv_iload_n hx hb d_Model_faultOf_289 rfl (lv_at hl 5 rfl) ?_
                    refine lv_if_ne (tgt := 295) hx hb d_Model_faultOf_290 (by decide) (fun c290 => ?_) (fun c290 => ?_)
                    · have p290 : ¬ (i9 = 0) := (fun q9 => c290 ((nI_eq (a := i9) (b := 0) (by omega) (by omega)).mpr q9))
                      have hca9 : b01 ((τ ((fS (wl.getD i9 0)).getD 0)).I 40) := hc_4.c1
                      refine lv_aload_n hx hb d_Model_faultOf_295 rfl (lv_at hl 3 rfl) ?_
                      refine va_get (v := .int ((τ ((fS (wl.getD i9 0)).getD 0)).I 40)) hx hb htb i_Text hown hK hP i_39 hg_39 rfl 40 (by decide) (htb _ q7_9) (fun _ h9 => h9) rfl d_Model_faultOf_296 ?_
                      refine lv_if_ne (tgt := 305) hx hb d_Model_faultOf_299 (by decide) (fun c299 => ?_) (fun c299 => ?_)
                      · have p299 : ¬ (((τ ((fS (wl.getD i9 0)).getD 0)).I 40) = (0 : Int32)) := c299
                        refine lv_iload_n hx hb d_Model_faultOf_305 rfl (lv_at hl 5 rfl) ?_
                        refine lv_iconst (v := 1) hx hb d_Model_faultOf_306 (by decide) ?_
                        refine lv_iadd hx hb d_Model_faultOf_307 ?_
                        rw [show ((nI i9) + 1 : Int32) = nI (i9 + 1) from nI_add i9 1]
                        refine lv_istore (lv' := [(5, .int (nI (i9 + 1))), (4, .int (zP (∃ l8, l8 < z69 ∧ couQ (cXf τ fS) (lXf τ fV) (fun l9 b9 => sgT (τ ((fV l9).getD 0)) (τ ((fS b9).getD 0))) mnw (wl.getD i9 0) (wl.getD (i9 + 1) 0) l8))), (3, .ref ((fS (wl.getD (i9 + 1) 0)).getD 0)), (2, .ref ((fS (wl.getD i9 0)).getD 0)), (0, .ref mo), (1, .int (nI i9))]) hx hb d_Model_faultOf_308 hl (by decide) rfl (fun ls hl => ?_)
                        refine w_loop (α := Nat) (fun a9 => i9 + 1 ≤ a9 ∧ a9 ≤ (s9 - 1) ∧ (∀ j9, j9 < a9 → ¬ (i9 < j9 ∧ ¬ ((cXf τ fS) (wl.getD j9 0)).ln < 0 ∧ ((cXf τ fS) (wl.getD j9 0)).ln < nI (btwQ (cXf τ fS) wl i9 (j9 - i9))))) (fun a9 => (s9 - 1) - a9) (fun a9 => [(5, .int (nI a9)), (4, .int (zP (∃ l8, l8 < z69 ∧ couQ (cXf τ fS) (lXf τ fV) (fun l9 b9 => sgT (τ ((fV l9).getD 0)) (τ ((fS b9).getD 0))) mnw (wl.getD i9 0) (wl.getD (i9 + 1) 0) l8))), (3, .ref ((fS (wl.getD (i9 + 1) 0)).getD 0)), (2, .ref ((fS (wl.getD i9 0)).getD 0)), (0, .ref mo), (1, .int (nI i9))]) (fun _ => []) 9 310 (fun z310 ls hJ hl ih310 => ?_) ((i9 + 1)) ls ⟨by omega, by omega, fun j9 h9 q9 => absurd q9.1 (by omega)⟩ (lv_sub hl [0, 1, 2, 3, 4, 5] rfl)
                        skip
                        obtain ⟨hy310, hz310, hJ310⟩ := hJ
                        refine lv_iload hx hb d_Model_faultOf_310 (lv_at hl 0 rfl) ?_
                        refine lv_aload_n hx hb d_Model_faultOf_312 rfl (lv_at hl 4 rfl) ?_
                        refine va_get (v := .int (nI s9)) hx hb htb i_Model hown hK hP i_11 hg_11 rfl 23 (by decide) (htb _ q7_237) (fun _ h9 => h9) rfl d_Model_faultOf_313 ?_
                        refine lv_iconst (v := 1) hx hb d_Model_faultOf_316 (by decide) ?_
                        refine lv_isub hx hb d_Model_faultOf_317 ?_
                        rw [show ((nI s9) - 1 : Int32) = nI (s9 - 1) from pk_sub (a := s9) (b := 1) (by omega)]
                        refine lv_icmp_ge (tgt := 402) hx hb d_Model_faultOf_318 (by decide) (fun c318 => ?_) (fun c318 => ?_)
                        · have p318 : (s9 - 1) ≤ z310 := ((nI_leI (a := (s9 - 1)) (b := z310) (by omega) (by omega)).mp c318)
                          refine lv_aload_n hx hb d_Model_faultOf_402 rfl (lv_at hl 3 rfl) ?_
                          refine va_get (v := .int ((τ ((fS (wl.getD i9 0)).getD 0)).I 26)) hx hb htb i_Text hown hK hP i_39 hg_39 rfl 26 (by decide) (htb _ q6_224) (fun _ h9 => h9) rfl d_Model_faultOf_403 ?_
                          refine lv_if_lt (tgt := 425) hx hb d_Model_faultOf_406 (by decide) (fun c406 => ?_) (fun c406 => ?_)
                          · have p406 : ((τ ((fS (wl.getD i9 0)).getD 0)).I 26) < (0 : Int32) := c406
                            refine lv_iconst (v := 0) hx hb d_Model_faultOf_425 (by decide) ?_
                            exact W.iret (v := 0) hx hb hr (fun t ht hW => ⟨⟨_, G69, rfl, ⟨hTy, hFR, Eq.symm (if_nt (fun q9 => q9 p32) (if_nt (fun q9 => q9.elim (fun z => p46 (cmp_lt.mpr z)) (fun z => q_ng p58 (cmp_gt.mpr z))) (if_nt (fun ⟨l8, h7, h8, h9⟩ => hJk l8 (by omega) h8 h9) (if_nt (fun q9 => q9.2 (by obtain ⟨l8, h7, h8⟩ := p252; exact ⟨l8, by omega, h8⟩)) (if_nt (fun q9 => q9.1.elim p258 (fun z9 => z9 p265)) (if_nt (q_ng p283) (if_nt p290 (if_nt (fun q9 => q9 (b01_1 hca9 p299)) (if_nt (fun ⟨j9, h6, h7, h8, h9⟩ => hJ310 j9 (by omega) ⟨h6, h8, h9⟩) (if_pos (use_5.mpr (Or.inl p406)))))))))))), ⟨_, by rw [eX_10] at kmo; exact kmo⟩, ⟨_, hfm, kmmA⟩, ⟨_, hfr, kmrA⟩⟩, by rw [ht]; exact hP, va_K.moved hW.alike hK, hD⟩, hS.F ht⟩) hS.2.2 d_Model_faultOf_426
                          · have p406 : ¬ (((τ ((fS (wl.getD i9 0)).getD 0)).I 26) < (0 : Int32)) := c406
                            refine lv_aload_n hx hb d_Model_faultOf_409 rfl (lv_at hl 3 rfl) ?_
                            refine va_get (v := .int ((τ ((fS (wl.getD i9 0)).getD 0)).I 26)) hx hb htb i_Text hown hK hP i_39 hg_39 rfl 26 (by decide) (htb _ q6_224) (fun _ h9 => h9) rfl d_Model_faultOf_410 ?_
                            refine lv_iconst (v := 5) hx hb d_Model_faultOf_413 (by decide) ?_
                            refine lv_ishr hx hb d_Model_faultOf_414 ?_
                            refine lv_iconst (v := 1) hx hb d_Model_faultOf_415 (by decide) ?_
                            refine lv_iand hx hb d_Model_faultOf_416 ?_
                            refine lv_if_ne (tgt := 425) hx hb d_Model_faultOf_417 (by decide) (fun c417 => ?_) (fun c417 => ?_)
                            · have p417 : ¬ (((((τ ((fS (wl.getD i9 0)).getD 0)).I 26) >>> (5 &&& 31)) &&& 1) = (0 : Int32)) := c417
                              refine lv_iconst (v := 0) hx hb d_Model_faultOf_425 (by decide) ?_
                              exact W.iret (v := 0) hx hb hr (fun t ht hW => ⟨⟨_, G69, rfl, ⟨hTy, hFR, Eq.symm (if_nt (fun q9 => q9 p32) (if_nt (fun q9 => q9.elim (fun z => p46 (cmp_lt.mpr z)) (fun z => q_ng p58 (cmp_gt.mpr z))) (if_nt (fun ⟨l8, h7, h8, h9⟩ => hJk l8 (by omega) h8 h9) (if_nt (fun q9 => q9.2 (by obtain ⟨l8, h7, h8⟩ := p252; exact ⟨l8, by omega, h8⟩)) (if_nt (fun q9 => q9.1.elim p258 (fun z9 => z9 p265)) (if_nt (q_ng p283) (if_nt p290 (if_nt (fun q9 => q9 (b01_1 hca9 p299)) (if_nt (fun ⟨j9, h6, h7, h8, h9⟩ => hJ310 j9 (by omega) ⟨h6, h8, h9⟩) (if_pos (use_5.mpr (Or.inr p417)))))))))))), ⟨_, by rw [eX_10] at kmo; exact kmo⟩, ⟨_, hfm, kmmA⟩, ⟨_, hfr, kmrA⟩⟩, by rw [ht]; exact hP, va_K.moved hW.alike hK, hD⟩, hS.F ht⟩) hS.2.2 d_Model_faultOf_426
                            · have p417 : ((((τ ((fS (wl.getD i9 0)).getD 0)).I 26) >>> (5 &&& 31)) &&& 1) = (0 : Int32) := c417
                              refine lv_bipush (v := 9) hx hb d_Model_faultOf_420 (by decide) ?_
                              refine lv_goto (tgt := 426) hx hb d_Model_faultOf_422 (by decide) ?_
                              exact W.iret (v := 9) hx hb hr (fun t ht hW => ⟨⟨_, G69, rfl, ⟨hTy, hFR, Eq.symm (if_nt (fun q9 => q9 p32) (if_nt (fun q9 => q9.elim (fun z => p46 (cmp_lt.mpr z)) (fun z => q_ng p58 (cmp_gt.mpr z))) (if_nt (fun ⟨l8, h7, h8, h9⟩ => hJk l8 (by omega) h8 h9) (if_nt (fun q9 => q9.2 (by obtain ⟨l8, h7, h8⟩ := p252; exact ⟨l8, by omega, h8⟩)) (if_nt (fun q9 => q9.1.elim p258 (fun z9 => z9 p265)) (if_nt (q_ng p283) (if_nt p290 (if_nt (fun q9 => q9 (b01_1 hca9 p299)) (if_nt (fun ⟨j9, h6, h7, h8, h9⟩ => hJ310 j9 (by omega) ⟨h6, h8, h9⟩) (if_neg (fun q9 => (use_5.mp q9).elim p406 (fun z9 => z9 p417)))))))))))), ⟨_, by rw [eX_10] at kmo; exact kmo⟩, ⟨_, hfm, kmmA⟩, ⟨_, hfr, kmrA⟩⟩, by rw [ht]; exact hP, va_K.moved hW.alike hK, hD⟩, hS.F ht⟩) hS.2.2 d_Model_faultOf_426
                        · have p318 : ¬ ((s9 - 1) ≤ z310) := (fun q9 => c318 ((nI_leI (a := (s9 - 1)) (b := z310) (by omega) (by omega)).mpr q9))
                          refine lv_aload_n hx hb d_Model_faultOf_321 rfl (lv_at hl 4 rfl) ?_
                          refine va_get (v := .ref msT) hx hb htb i_Model hown hK hP i_11 hg_11 rfl 6 (by decide) (htb _ q7_220) (fun _ h9 => h9) rfl d_Model_faultOf_322 ?_
                          refine lv_aload_n hx hb d_Model_faultOf_325 rfl (lv_at hl 4 rfl) ?_
                          refine va_get (v := .ref mwy) hx hb htb i_Model hown hK hP i_11 hg_11 rfl 21 (by decide) (htb _ q7_235) (fun _ h9 => h9) rfl d_Model_faultOf_326 ?_
                          refine lv_iload hx hb d_Model_faultOf_329 (lv_at hl 0 rfl) ?_
                          obtain ⟨i_40, hg_40⟩ := List.getElem?_of_mem kmwy.2
                          have h331 : vp_in (nI z310) 16 := vp_in_nI (by omega) (by omega)
                          refine va_iald hx hb hK hP i_40 1 hg_40 rfl h331 d_Model_faultOf_331 ?_
                          refine lv_topi (fun e331 he331 => ?_)
                          have hw331 := hway z310 (by omega)
                          rw [nI_clamp (by omega), hw331.2] at he331
                          have hw331 := hw331.1
                          subst he331
                          obtain ⟨i_41, hg_41⟩ := List.getElem?_of_mem kmsT.2
                          have h332 : vp_in (nI (wl.getD z310 0)) 16 := vp_in_nI (by omega) (by omega)
                          refine va_aldq hx hb hK hP i_41 4 hg_41 rfl h332 d_Model_faultOf_332 ?_
                          obtain ⟨t_42, ft_42, kt_42, hc_42⟩ := hst (wl.getD z310 0) (by omega)
                          obtain rfl : t_42 = ((fS (wl.getD z310 0)).getD 0) := by rw [ft_42]; rfl
                          rw [show va_rf (fS (nI (wl.getD z310 0)).toNatClampNeg) = .ref ((fS (wl.getD z310 0)).getD 0) from by rw [nI_clamp (by omega), ft_42]; rfl]
                          have b1_42 := hc_42.b1
                          have b2_42 := hc_42.b2
                          have b3_42 := hc_42.b3
                          have b4_42 := hc_42.b4
                          have b5_42 := hc_42.b5
                          have b6_42 := hc_42.b6
                          have b8_42 := hc_42.b8
                          have b9_42 := hc_42.b9
                          refine lv_astore (lv' := [(6, .ref ((fS (wl.getD z310 0)).getD 0)), (5, .int (nI z310)), (4, .int (zP (∃ l8, l8 < z69 ∧ couQ (cXf τ fS) (lXf τ fV) (fun l9 b9 => sgT (τ ((fV l9).getD 0)) (τ ((fS b9).getD 0))) mnw (wl.getD i9 0) (wl.getD (i9 + 1) 0) l8))), (3, .ref ((fS (wl.getD (i9 + 1) 0)).getD 0)), (2, .ref ((fS (wl.getD i9 0)).getD 0)), (0, .ref mo), (1, .int (nI i9))]) hx hb d_Model_faultOf_333 hl (by decide) rfl (fun ls hl => ?_)
                          refine lv_iconst (v := 0) hx hb d_Model_faultOf_335 (by decide) ?_
                          refine lv_istore (lv' := [(7, .int 0), (6, .ref ((fS (wl.getD z310 0)).getD 0)), (5, .int (nI z310)), (4, .int (zP (∃ l8, l8 < z69 ∧ couQ (cXf τ fS) (lXf τ fV) (fun l9 b9 => sgT (τ ((fV l9).getD 0)) (τ ((fS b9).getD 0))) mnw (wl.getD i9 0) (wl.getD (i9 + 1) 0) l8))), (3, .ref ((fS (wl.getD (i9 + 1) 0)).getD 0)), (2, .ref ((fS (wl.getD i9 0)).getD 0)), (0, .ref mo), (1, .int (nI i9))]) hx hb d_Model_faultOf_336 hl (by decide) rfl (fun ls hl => ?_)
                          have e7 : (0 : Int32) = nI (btwQ (cXf τ fS) wl i9 (i9 - i9)) := by rw [Nat.sub_self]; rfl
                          have hl : lv_has ls 9 [(7, .int (nI (btwQ (cXf τ fS) wl i9 (i9 - i9)))), (6, .ref ((fS (wl.getD z310 0)).getD 0)), (5, .int (nI z310)), (4, .int (zP (∃ l8, l8 < z69 ∧ couQ (cXf τ fS) (lXf τ fV) (fun l9 b9 => sgT (τ ((fV l9).getD 0)) (τ ((fS b9).getD 0))) mnw (wl.getD i9 0) (wl.getD (i9 + 1) 0) l8))), (3, .ref ((fS (wl.getD (i9 + 1) 0)).getD 0)), (2, .ref ((fS (wl.getD i9 0)).getD 0)), (0, .ref mo), (1, .int (nI i9))] := by rw [← e7]; exact hl
                          refine lv_iload_n hx hb d_Model_faultOf_338 rfl (lv_at hl 7 rfl) ?_
                          refine lv_istore (lv' := [(8, .int (nI i9)), (7, .int (nI (btwQ (cXf τ fS) wl i9 (i9 - i9)))), (6, .ref ((fS (wl.getD z310 0)).getD 0)), (5, .int (nI z310)), (4, .int (zP (∃ l8, l8 < z69 ∧ couQ (cXf τ fS) (lXf τ fV) (fun l9 b9 => sgT (τ ((fV l9).getD 0)) (τ ((fS b9).getD 0))) mnw (wl.getD i9 0) (wl.getD (i9 + 1) 0) l8))), (3, .ref ((fS (wl.getD (i9 + 1) 0)).getD 0)), (2, .ref ((fS (wl.getD i9 0)).getD 0)), (0, .ref mo), (1, .int (nI i9))]) hx hb d_Model_faultOf_339 hl (by decide) rfl (fun ls hl => ?_)
                          refine w_loop (α := Nat) (fun a9 => i9 ≤ a9 ∧ a9 ≤ z310) (fun a9 => z310 - a9) (fun a9 => [(8, .int (nI a9)), (7, .int (nI (btwQ (cXf τ fS) wl i9 (a9 - i9)))), (6, .ref ((fS (wl.getD z310 0)).getD 0)), (5, .int (nI z310)), (4, .int (zP (∃ l8, l8 < z69 ∧ couQ (cXf τ fS) (lXf τ fV) (fun l9 b9 => sgT (τ ((fV l9).getD 0)) (τ ((fS b9).getD 0))) mnw (wl.getD i9 0) (wl.getD (i9 + 1) 0) l8))), (3, .ref ((fS (wl.getD (i9 + 1) 0)).getD 0)), (2, .ref ((fS (wl.getD i9 0)).getD 0)), (0, .ref mo), (1, .int (nI i9))]) (fun _ => []) 9 341 (fun z341 ls hJ hl ih341 => ?_) (i9) ls ⟨by omega, by omega⟩ (lv_sub hl [0, 1, 2, 3, 4, 5, 6, 7, 8] rfl)
                          skip
                          obtain ⟨hy341, hz341⟩ := hJ
                          refine lv_iload hx hb d_Model_faultOf_341 (lv_at hl 0 rfl) ?_
                          refine lv_iload hx hb d_Model_faultOf_343 (lv_at hl 3 rfl) ?_
                          refine lv_icmp_ge (tgt := 375) hx hb d_Model_faultOf_345 (by decide) (fun c345 => ?_) (fun c345 => ?_)
                          · have p345 : z310 ≤ z341 := ((nI_leI (a := z310) (b := z341) (by omega) (by omega)).mp c345)
                            have ez341 : z341 = z310 := by omega
                            rw [ez341] at hl
                            refine lv_aload hx hb d_Model_faultOf_375 (lv_at hl 2 rfl) ?_
                            obtain ⟨i_43, kA_43, hg_43⟩ := tr_20 hTy kt_42
                            refine va_get (v := .int ((τ ((fS (wl.getD z310 0)).getD 0)).I 25)) hx hb htb i_Text hown hK hP i_43 hg_43 rfl 25 (by decide) (htb _ q6_222) (fun _ h9 => h9) rfl d_Model_faultOf_377 ?_
                            refine lv_if_lt (tgt := 396) hx hb d_Model_faultOf_380 (by decide) (fun c380 => ?_) (fun c380 => ?_)
                            · have p380 : ((τ ((fS (wl.getD z310 0)).getD 0)).I 25) < (0 : Int32) := c380
                              refine lv_iinc (v := nI (z310 + 1)) (lv' := [(5, .int (nI (z310 + 1))), (8, .int (nI z310)), (7, .int (nI (btwQ (cXf τ fS) wl i9 (z310 - i9)))), (6, .ref ((fS (wl.getD z310 0)).getD 0)), (4, .int (zP (∃ l8, l8 < z69 ∧ couQ (cXf τ fS) (lXf τ fV) (fun l9 b9 => sgT (τ ((fV l9).getD 0)) (τ ((fS b9).getD 0))) mnw (wl.getD i9 0) (wl.getD (i9 + 1) 0) l8))), (3, .ref ((fS (wl.getD (i9 + 1) 0)).getD 0)), (2, .ref ((fS (wl.getD i9 0)).getD 0)), (0, .ref mo), (1, .int (nI i9))]) hx hb d_Model_faultOf_396 hl (k := 3) rfl (nI_1 _) (by decide) rfl (fun ls hl => ?_)
                              refine lv_goto (tgt := 310) hx hb d_Model_faultOf_399 (by decide) ?_
                              exact ih310 ((z310 + 1)) ls (by omega) ⟨by omega, by omega, fun j9 h9 => (Nat.lt_succ_iff_lt_or_eq.mp h9).elim (hJ310 j9) (fun e9 => by subst e9; exact fun q9 => q9.2.1 p380)⟩ (lv_sub hl [0, 4, 5, 6, 7, 8] rfl)
                            · have p380 : ¬ (((τ ((fS (wl.getD z310 0)).getD 0)).I 25) < (0 : Int32)) := c380
                              refine lv_aload hx hb d_Model_faultOf_383 (lv_at hl 2 rfl) ?_
                              refine va_get (v := .int ((τ ((fS (wl.getD z310 0)).getD 0)).I 25)) hx hb htb i_Text hown hK hP i_43 hg_43 rfl 25 (by decide) (htb _ q6_222) (fun _ h9 => h9) rfl d_Model_faultOf_385 ?_
                              refine lv_iload hx hb d_Model_faultOf_388 (lv_at hl 1 rfl) ?_
                              refine lv_icmp_ge (tgt := 396) hx hb d_Model_faultOf_390 (by decide) (fun c390 => ?_) (fun c390 => ?_)
                              · have p390 : (nI (btwQ (cXf τ fS) wl i9 (z310 - i9))) ≤ ((τ ((fS (wl.getD z310 0)).getD 0)).I 25) := c390
                                refine lv_iinc (v := nI (z310 + 1)) (lv' := [(5, .int (nI (z310 + 1))), (8, .int (nI z310)), (7, .int (nI (btwQ (cXf τ fS) wl i9 (z310 - i9)))), (6, .ref ((fS (wl.getD z310 0)).getD 0)), (4, .int (zP (∃ l8, l8 < z69 ∧ couQ (cXf τ fS) (lXf τ fV) (fun l9 b9 => sgT (τ ((fV l9).getD 0)) (τ ((fS b9).getD 0))) mnw (wl.getD i9 0) (wl.getD (i9 + 1) 0) l8))), (3, .ref ((fS (wl.getD (i9 + 1) 0)).getD 0)), (2, .ref ((fS (wl.getD i9 0)).getD 0)), (0, .ref mo), (1, .int (nI i9))]) hx hb d_Model_faultOf_396 hl (k := 3) rfl (nI_1 _) (by decide) rfl (fun ls hl => ?_)
                                refine lv_goto (tgt := 310) hx hb d_Model_faultOf_399 (by decide) ?_
                                exact ih310 ((z310 + 1)) ls (by omega) ⟨by omega, by omega, fun j9 h9 => (Nat.lt_succ_iff_lt_or_eq.mp h9).elim (hJ310 j9) (fun e9 => by subst e9; exact fun q9 => (q_ng p390) q9.2.2)⟩ (lv_sub hl [0, 4, 5, 6, 7, 8] rfl)
                              · have p390 : ¬ ((nI (btwQ (cXf τ fS) wl i9 (z310 - i9))) ≤ ((τ ((fS (wl.getD z310 0)).getD 0)).I 25)) := c390
                                refine lv_bipush (v := 8) hx hb d_Model_faultOf_393 (by decide) ?_
                                exact W.iret (v := 8) hx hb hr (fun t ht hW => ⟨⟨_, G69, rfl, ⟨hTy, hFR, Eq.symm (if_nt (fun q9 => q9 p32) (if_nt (fun q9 => q9.elim (fun z => p46 (cmp_lt.mpr z)) (fun z => q_ng p58 (cmp_gt.mpr z))) (if_nt (fun ⟨l8, h7, h8, h9⟩ => hJk l8 (by omega) h8 h9) (if_nt (fun q9 => q9.2 (by obtain ⟨l8, h7, h8⟩ := p252; exact ⟨l8, by omega, h8⟩)) (if_nt (fun q9 => q9.1.elim p258 (fun z9 => z9 p265)) (if_nt (q_ng p283) (if_nt p290 (if_nt (fun q9 => q9 (b01_1 hca9 p299)) (if_pos ⟨z310, by omega, by omega, p380, q_gt p390⟩))))))))), ⟨_, by rw [eX_10] at kmo; exact kmo⟩, ⟨_, hfm, kmmA⟩, ⟨_, hfr, kmrA⟩⟩, by rw [ht]; exact hP, va_K.moved hW.alike hK, hD⟩, hS.F ht⟩) hS.2.2 d_Model_faultOf_395
                          · have p345 : ¬ (z310 ≤ z341) := (fun q9 => c345 ((nI_leI (a := z310) (b := z341) (by omega) (by omega)).mpr q9))
                            refine lv_aload_n hx hb d_Model_faultOf_348 rfl (lv_at hl 7 rfl) ?_
                            refine va_get (v := .ref msT) hx hb htb i_Model hown hK hP i_11 hg_11 rfl 6 (by decide) (htb _ q7_220) (fun _ h9 => h9) rfl d_Model_faultOf_349 ?_
                            refine lv_aload_n hx hb d_Model_faultOf_352 rfl (lv_at hl 7 rfl) ?_
                            refine va_get (v := .ref mwy) hx hb htb i_Model hown hK hP i_11 hg_11 rfl 21 (by decide) (htb _ q7_235) (fun _ h9 => h9) rfl d_Model_faultOf_353 ?_
                            refine lv_iload hx hb d_Model_faultOf_356 (lv_at hl 0 rfl) ?_
                            have h358 : vp_in (nI z341) 16 := vp_in_nI (by omega) (by omega)
                            refine va_iald hx hb hK hP i_40 1 hg_40 rfl h358 d_Model_faultOf_358 ?_
                            refine lv_topi (fun e358 he358 => ?_)
                            have hw358 := hway z341 (by omega)
                            rw [nI_clamp (by omega), hw358.2] at he358
                            have hw358 := hw358.1
                            subst he358
                            have h359 : vp_in (nI (wl.getD z341 0)) 16 := vp_in_nI (by omega) (by omega)
                            refine va_aldq hx hb hK hP i_41 4 hg_41 rfl h359 d_Model_faultOf_359 ?_
                            obtain ⟨t_44, ft_44, kt_44, hc_44⟩ := hst (wl.getD z341 0) (by omega)
                            obtain rfl : t_44 = ((fS (wl.getD z341 0)).getD 0) := by rw [ft_44]; rfl
                            rw [show va_rf (fS (nI (wl.getD z341 0)).toNatClampNeg) = .ref ((fS (wl.getD z341 0)).getD 0) from by rw [nI_clamp (by omega), ft_44]; rfl]
                            have b1_44 := hc_44.b1
                            have b2_44 := hc_44.b2
                            have b3_44 := hc_44.b3
                            have b4_44 := hc_44.b4
                            have b5_44 := hc_44.b5
                            have b6_44 := hc_44.b6
                            have b8_44 := hc_44.b8
                            have b9_44 := hc_44.b9
                            obtain ⟨i_45, kA_45, hg_45⟩ := tr_20 hTy kt_44
                            refine vp_callSi (pu_callV (As := []) (rest := []) ⟨hx, hb, hml, hown, hts⟩ tbin (p_Text_isOwn l dC dI sb γ κ Ad τ gT G69 ((fS (wl.getD z341 0)).getD 0)  hTy kt_44 hc_44) q9_146 q9_147 q9_148 q1_10 q9_149 (n := 0) (by decide +kernel) rfl ⟨rfl, rfl⟩ ⟨Nat.le_of_ble_eq_true rfl, Nat.le_of_ble_eq_true rfl⟩ ⟨Nat.le_of_ble_eq_true rfl, Nat.le_of_ble_eq_true rfl⟩ hN (hT0.keep hS hAs) hK hP (List.range G69.length) (rg_all G69) [0, 1, 2, 3, 4] rfl i_45 13 hg_45 rfl rfl hl.1 rfl (Nat.le_of_ble_eq_true rfl) d_Model_faultOf_360) (fun r360 hr360 => ?_)
                            obtain rfl : r360 = zP (ownQ (cT (τ ((fS (wl.getD z341 0)).getD 0)))) := hr360
                            refine lv_if_ne (tgt := 369) hx hb d_Model_faultOf_363 (by decide) (fun c363 => ?_) (fun c363 => ?_)
                            · have p363 : ownQ (cT (τ ((fS (wl.getD z341 0)).getD 0))) := (zP_1 c363)
                              have e7 : (nI (btwQ (cXf τ fS) wl i9 (z341 - i9)) : Int32) = nI (btwQ (cXf τ fS) wl i9 (z341 + 1 - i9)) := btw_y (by omega) p363
                              have hl : lv_has ls 9 [(8, .int (nI z341)), (7, .int (nI (btwQ (cXf τ fS) wl i9 (z341 + 1 - i9)))), (6, .ref ((fS (wl.getD z310 0)).getD 0)), (5, .int (nI z310)), (4, .int (zP (∃ l8, l8 < z69 ∧ couQ (cXf τ fS) (lXf τ fV) (fun l9 b9 => sgT (τ ((fV l9).getD 0)) (τ ((fS b9).getD 0))) mnw (wl.getD i9 0) (wl.getD (i9 + 1) 0) l8))), (3, .ref ((fS (wl.getD (i9 + 1) 0)).getD 0)), (2, .ref ((fS (wl.getD i9 0)).getD 0)), (0, .ref mo), (1, .int (nI i9))] := by rw [← e7]; exact hl
                              refine lv_iinc (v := nI (z341 + 1)) (lv' := [(8, .int (nI (z341 + 1))), (7, .int (nI (btwQ (cXf τ fS) wl i9 (z341 + 1 - i9)))), (6, .ref ((fS (wl.getD z310 0)).getD 0)), (5, .int (nI z310)), (4, .int (zP (∃ l8, l8 < z69 ∧ couQ (cXf τ fS) (lXf τ fV) (fun l9 b9 => sgT (τ ((fV l9).getD 0)) (τ ((fS b9).getD 0))) mnw (wl.getD i9 0) (wl.getD (i9 + 1) 0) l8))), (3, .ref ((fS (wl.getD (i9 + 1) 0)).getD 0)), (2, .ref ((fS (wl.getD i9 0)).getD 0)), (0, .ref mo), (1, .int (nI i9))]) hx hb d_Model_faultOf_369 hl (k := 0) rfl (nI_1 _) (by decide) rfl (fun ls hl => ?_)
                              refine lv_goto (tgt := 341) hx hb d_Model_faultOf_372 (by decide) ?_
                              exact ih341 ((z341 + 1)) ls (by omega) ⟨by omega, by omega⟩ (lv_sub hl [0, 1, 2, 3, 4, 5, 6, 7, 8] rfl)
                            · have p363 : ¬ (ownQ (cT (τ ((fS (wl.getD z341 0)).getD 0)))) := (zP_0.mp c363)
                              refine lv_iinc (v := nI (btwQ (cXf τ fS) wl i9 (z341 - i9) + 1)) (lv' := [(7, .int (nI (btwQ (cXf τ fS) wl i9 (z341 - i9) + 1))), (8, .int (nI z341)), (6, .ref ((fS (wl.getD z310 0)).getD 0)), (5, .int (nI z310)), (4, .int (zP (∃ l8, l8 < z69 ∧ couQ (cXf τ fS) (lXf τ fV) (fun l9 b9 => sgT (τ ((fV l9).getD 0)) (τ ((fS b9).getD 0))) mnw (wl.getD i9 0) (wl.getD (i9 + 1) 0) l8))), (3, .ref ((fS (wl.getD (i9 + 1) 0)).getD 0)), (2, .ref ((fS (wl.getD i9 0)).getD 0)), (0, .ref mo), (1, .int (nI i9))]) hx hb d_Model_faultOf_366 hl (k := 1) rfl (nI_1 _) (by decide) rfl (fun ls hl => ?_)
                              have e7 : (nI (btwQ (cXf τ fS) wl i9 (z341 - i9) + 1) : Int32) = nI (btwQ (cXf τ fS) wl i9 (z341 + 1 - i9)) := btw_n (by omega) p363
                              have hl : lv_has ls 9 [(7, .int (nI (btwQ (cXf τ fS) wl i9 (z341 + 1 - i9)))), (8, .int (nI z341)), (6, .ref ((fS (wl.getD z310 0)).getD 0)), (5, .int (nI z310)), (4, .int (zP (∃ l8, l8 < z69 ∧ couQ (cXf τ fS) (lXf τ fV) (fun l9 b9 => sgT (τ ((fV l9).getD 0)) (τ ((fS b9).getD 0))) mnw (wl.getD i9 0) (wl.getD (i9 + 1) 0) l8))), (3, .ref ((fS (wl.getD (i9 + 1) 0)).getD 0)), (2, .ref ((fS (wl.getD i9 0)).getD 0)), (0, .ref mo), (1, .int (nI i9))] := by rw [← e7]; exact hl
                              refine lv_iinc (v := nI (z341 + 1)) (lv' := [(8, .int (nI (z341 + 1))), (7, .int (nI (btwQ (cXf τ fS) wl i9 (z341 + 1 - i9)))), (6, .ref ((fS (wl.getD z310 0)).getD 0)), (5, .int (nI z310)), (4, .int (zP (∃ l8, l8 < z69 ∧ couQ (cXf τ fS) (lXf τ fV) (fun l9 b9 => sgT (τ ((fV l9).getD 0)) (τ ((fS b9).getD 0))) mnw (wl.getD i9 0) (wl.getD (i9 + 1) 0) l8))), (3, .ref ((fS (wl.getD (i9 + 1) 0)).getD 0)), (2, .ref ((fS (wl.getD i9 0)).getD 0)), (0, .ref mo), (1, .int (nI i9))]) hx hb d_Model_faultOf_369 hl (k := 1) rfl (nI_1 _) (by decide) rfl (fun ls hl => ?_)
                              refine lv_goto (tgt := 341) hx hb d_Model_faultOf_372 (by decide) ?_
                              exact ih341 ((z341 + 1)) ls (by omega) ⟨by omega, by omega⟩ (lv_sub hl [0, 1, 2, 3, 4, 5, 6, 7, 8] rfl)
                      · have p299 : ((τ ((fS (wl.getD i9 0)).getD 0)).I 40) = (0 : Int32) := c299
                        refine lv_bipush (v := 7) hx hb d_Model_faultOf_302 (by decide) ?_
                        exact W.iret (v := 7) hx hb hr (fun t ht hW => ⟨⟨_, G69, rfl, ⟨hTy, hFR, Eq.symm (if_nt (fun q9 => q9 p32) (if_nt (fun q9 => q9.elim (fun z => p46 (cmp_lt.mpr z)) (fun z => q_ng p58 (cmp_gt.mpr z))) (if_nt (fun ⟨l8, h7, h8, h9⟩ => hJk l8 (by omega) h8 h9) (if_nt (fun q9 => q9.2 (by obtain ⟨l8, h7, h8⟩ := p252; exact ⟨l8, by omega, h8⟩)) (if_nt (fun q9 => q9.1.elim p258 (fun z9 => z9 p265)) (if_nt (q_ng p283) (if_nt p290 (if_pos (k01_n p299))))))))), ⟨_, by rw [eX_10] at kmo; exact kmo⟩, ⟨_, hfm, kmmA⟩, ⟨_, hfr, kmrA⟩⟩, by rw [ht]; exact hP, va_K.moved hW.alike hK, hD⟩, hS.F ht⟩) hS.2.2 d_Model_faultOf_304
                    · have p290 : i9 = 0 := ((nI_eq (a := i9) (b := 0) (by omega) (by omega)).mp c290)
                      refine lv_iconst (v := 0) hx hb d_Model_faultOf_293 (by decide) ?_
                      exact W.iret (v := 0) hx hb hr (fun t ht hW => ⟨⟨_, G69, rfl, ⟨hTy, hFR, Eq.symm (if_nt (fun q9 => q9 p32) (if_nt (fun q9 => q9.elim (fun z => p46 (cmp_lt.mpr z)) (fun z => q_ng p58 (cmp_gt.mpr z))) (if_nt (fun ⟨l8, h7, h8, h9⟩ => hJk l8 (by omega) h8 h9) (if_nt (fun q9 => q9.2 (by obtain ⟨l8, h7, h8⟩ := p252; exact ⟨l8, by omega, h8⟩)) (if_nt (fun q9 => q9.1.elim p258 (fun z9 => z9 p265)) (if_nt (q_ng p283) (if_pos p290))))))), ⟨_, by rw [eX_10] at kmo; exact kmo⟩, ⟨_, hfm, kmmA⟩, ⟨_, hfr, kmrA⟩⟩, by rw [ht]; exact hP, va_K.moved hW.alike hK, hD⟩, hS.F ht⟩) hS.2.2 d_Model_faultOf_294
                  · have p283 : ¬ (((τ ((fS (wl.getD i9 0)).getD 0)).I 30) ≤ (0 : Int32)) := c283
                    refine lv_bipush (v := 6) hx hb d_Model_faultOf_286 (by decide) ?_
                    exact W.iret (v := 6) hx hb hr (fun t ht hW => ⟨⟨_, G69, rfl, ⟨hTy, hFR, Eq.symm (if_nt (fun q9 => q9 p32) (if_nt (fun q9 => q9.elim (fun z => p46 (cmp_lt.mpr z)) (fun z => q_ng p58 (cmp_gt.mpr z))) (if_nt (fun ⟨l8, h7, h8, h9⟩ => hJk l8 (by omega) h8 h9) (if_nt (fun q9 => q9.2 (by obtain ⟨l8, h7, h8⟩ := p252; exact ⟨l8, by omega, h8⟩)) (if_nt (fun q9 => q9.1.elim p258 (fun z9 => z9 p265)) (if_pos (q_gt p283))))))), ⟨_, by rw [eX_10] at kmo; exact kmo⟩, ⟨_, hfm, kmmA⟩, ⟨_, hfr, kmrA⟩⟩, by rw [ht]; exact hP, va_K.moved hW.alike hK, hD⟩, hS.F ht⟩) hS.2.2 d_Model_faultOf_288
                · have p265 : ¬ (ownQ (cT (τ ((fS (wl.getD i9 0)).getD 0)))) := (zP_0.mp c265)
                  refine lv_aload_n hx hb d_Model_faultOf_268 rfl (lv_at hl 4 rfl) ?_
                  refine lv_aload_n hx hb d_Model_faultOf_269 rfl (lv_at hl 3 rfl) ?_
                  refine lv_iload_n hx hb d_Model_faultOf_270 rfl (lv_at hl 5 rfl) ?_
                  refine vp_callSi (pu_callV (As := [.ref ((fS (wl.getD i9 0)).getD 0), .int (nI i9)]) (rest := []) ⟨hx, hb, hml, hown, hts⟩ tbin (p_Model_namesMayBe l dC dI sb γ κ Ad τ gT G69 mo ((fS (wl.getD i9 0)).getD 0) _ _ _ _ _ _ _ _ _ _ _ _ _ _ _ _ _ _ _ _ _ _ _ _ _ _ _ _ _ _ _ _ _ _ _ _ hTy (by have h9 := kmo; rw [eX_10] at h9; exact h9) kt_4 hc_4 kmwy kmsT hst hway hwl (by omega) (by omega) (by omega)) q9_150 q9_152 qp_48 q1_9 q9_153 (n := 2) (by decide +kernel) rfl ⟨rfl, rfl⟩ ⟨Nat.le_of_ble_eq_true rfl, Nat.le_of_ble_eq_true rfl⟩ ⟨Nat.le_of_ble_eq_true rfl, Nat.le_of_ble_eq_true rfl⟩ hN (hT0.keep hS hAs) hK hP (List.range G69.length) (rg_all G69) [0, 1, 2, 3, 4] rfl i_11 12 hg_11 rfl rfl hl.1 rfl (Nat.le_of_ble_eq_true rfl) d_Model_faultOf_271) (fun r271 hr271 => ?_)
                  obtain rfl : r271 = zP (namQ (cXf τ fS) wl i9) := hr271
                  refine lv_if_ne (tgt := 279) hx hb d_Model_faultOf_274 (by decide) (fun c274 => ?_) (fun c274 => ?_)
                  · have p274 : namQ (cXf τ fS) wl i9 := (zP_1 c274)
                    refine lv_aload_n hx hb d_Model_faultOf_279 rfl (lv_at hl 3 rfl) ?_
                    refine va_get (v := .int ((τ ((fS (wl.getD i9 0)).getD 0)).I 30)) hx hb htb i_Text hown hK hP i_39 hg_39 rfl 30 (by decide) (htb _ q6_233) (fun _ h9 => h9) rfl d_Model_faultOf_280 ?_
                    refine lv_if_le (tgt := 289) hx hb d_Model_faultOf_283 (by decide) (fun c283 => ?_) (fun c283 => ?_)
                    · have p283 : ((τ ((fS (wl.getD i9 0)).getD 0)).I 30) ≤ (0 : Int32) := c283
                      refine lv_iload_n hx hb d_Model_faultOf_289 rfl (lv_at hl 5 rfl) ?_
                      refine lv_if_ne (tgt := 295) hx hb d_Model_faultOf_290 (by decide) (fun c290 => ?_) (fun c290 => ?_)
                      · have p290 : ¬ (i9 = 0) := (fun q9 => c290 ((nI_eq (a := i9) (b := 0) (by omega) (by omega)).mpr q9))
                        have hca9 : b01 ((τ ((fS (wl.getD i9 0)).getD 0)).I 40) := hc_4.c1
                        refine lv_aload_n hx hb d_Model_faultOf_295 rfl (lv_at hl 3 rfl) ?_
                        refine va_get (v := .int ((τ ((fS (wl.getD i9 0)).getD 0)).I 40)) hx hb htb i_Text hown hK hP i_39 hg_39 rfl 40 (by decide) (htb _ q7_9) (fun _ h9 => h9) rfl d_Model_faultOf_296 ?_
                        refine lv_if_ne (tgt := 305) hx hb d_Model_faultOf_299 (by decide) (fun c299 => ?_) (fun c299 => ?_)
                        · have p299 : ¬ (((τ ((fS (wl.getD i9 0)).getD 0)).I 40) = (0 : Int32)) := c299
                          refine lv_iload_n hx hb d_Model_faultOf_305 rfl (lv_at hl 5 rfl) ?_
                          refine lv_iconst (v := 1) hx hb d_Model_faultOf_306 (by decide) ?_
                          refine lv_iadd hx hb d_Model_faultOf_307 ?_
                          rw [show ((nI i9) + 1 : Int32) = nI (i9 + 1) from nI_add i9 1]
                          refine lv_istore (lv' := [(5, .int (nI (i9 + 1))), (4, .int (zP (∃ l8, l8 < z69 ∧ couQ (cXf τ fS) (lXf τ fV) (fun l9 b9 => sgT (τ ((fV l9).getD 0)) (τ ((fS b9).getD 0))) mnw (wl.getD i9 0) (wl.getD (i9 + 1) 0) l8))), (3, .ref ((fS (wl.getD (i9 + 1) 0)).getD 0)), (2, .ref ((fS (wl.getD i9 0)).getD 0)), (0, .ref mo), (1, .int (nI i9))]) hx hb d_Model_faultOf_308 hl (by decide) rfl (fun ls hl => ?_)
                          refine w_loop (α := Nat) (fun a9 => i9 + 1 ≤ a9 ∧ a9 ≤ (s9 - 1) ∧ (∀ j9, j9 < a9 → ¬ (i9 < j9 ∧ ¬ ((cXf τ fS) (wl.getD j9 0)).ln < 0 ∧ ((cXf τ fS) (wl.getD j9 0)).ln < nI (btwQ (cXf τ fS) wl i9 (j9 - i9))))) (fun a9 => (s9 - 1) - a9) (fun a9 => [(5, .int (nI a9)), (4, .int (zP (∃ l8, l8 < z69 ∧ couQ (cXf τ fS) (lXf τ fV) (fun l9 b9 => sgT (τ ((fV l9).getD 0)) (τ ((fS b9).getD 0))) mnw (wl.getD i9 0) (wl.getD (i9 + 1) 0) l8))), (3, .ref ((fS (wl.getD (i9 + 1) 0)).getD 0)), (2, .ref ((fS (wl.getD i9 0)).getD 0)), (0, .ref mo), (1, .int (nI i9))]) (fun _ => []) 9 310 (fun z310 ls hJ hl ih310 => ?_) ((i9 + 1)) ls ⟨by omega, by omega, fun j9 h9 q9 => absurd q9.1 (by omega)⟩ (lv_sub hl [0, 1, 2, 3, 4, 5] rfl)
                          skip
                          obtain ⟨hy310, hz310, hJ310⟩ := hJ
                          refine lv_iload hx hb d_Model_faultOf_310 (lv_at hl 0 rfl) ?_
                          refine lv_aload_n hx hb d_Model_faultOf_312 rfl (lv_at hl 4 rfl) ?_
                          refine va_get (v := .int (nI s9)) hx hb htb i_Model hown hK hP i_11 hg_11 rfl 23 (by decide) (htb _ q7_237) (fun _ h9 => h9) rfl d_Model_faultOf_313 ?_
                          refine lv_iconst (v := 1) hx hb d_Model_faultOf_316 (by decide) ?_
                          refine lv_isub hx hb d_Model_faultOf_317 ?_
                          rw [show ((nI s9) - 1 : Int32) = nI (s9 - 1) from pk_sub (a := s9) (b := 1) (by omega)]
                          refine lv_icmp_ge (tgt := 402) hx hb d_Model_faultOf_318 (by decide) (fun c318 => ?_) (fun c318 => ?_)
                          · have p318 : (s9 - 1) ≤ z310 := ((nI_leI (a := (s9 - 1)) (b := z310) (by omega) (by omega)).mp c318)
                            refine lv_aload_n hx hb d_Model_faultOf_402 rfl (lv_at hl 3 rfl) ?_
                            refine va_get (v := .int ((τ ((fS (wl.getD i9 0)).getD 0)).I 26)) hx hb htb i_Text hown hK hP i_39 hg_39 rfl 26 (by decide) (htb _ q6_224) (fun _ h9 => h9) rfl d_Model_faultOf_403 ?_
                            refine lv_if_lt (tgt := 425) hx hb d_Model_faultOf_406 (by decide) (fun c406 => ?_) (fun c406 => ?_)
                            · have p406 : ((τ ((fS (wl.getD i9 0)).getD 0)).I 26) < (0 : Int32) := c406
                              refine lv_iconst (v := 0) hx hb d_Model_faultOf_425 (by decide) ?_
                              exact W.iret (v := 0) hx hb hr (fun t ht hW => ⟨⟨_, G69, rfl, ⟨hTy, hFR, Eq.symm (if_nt (fun q9 => q9 p32) (if_nt (fun q9 => q9.elim (fun z => p46 (cmp_lt.mpr z)) (fun z => q_ng p58 (cmp_gt.mpr z))) (if_nt (fun ⟨l8, h7, h8, h9⟩ => hJk l8 (by omega) h8 h9) (if_nt (fun q9 => q9.2 (by obtain ⟨l8, h7, h8⟩ := p252; exact ⟨l8, by omega, h8⟩)) (if_nt (fun q9 => q9.2 p274) (if_nt (q_ng p283) (if_nt p290 (if_nt (fun q9 => q9 (b01_1 hca9 p299)) (if_nt (fun ⟨j9, h6, h7, h8, h9⟩ => hJ310 j9 (by omega) ⟨h6, h8, h9⟩) (if_pos (use_5.mpr (Or.inl p406)))))))))))), ⟨_, by rw [eX_10] at kmo; exact kmo⟩, ⟨_, hfm, kmmA⟩, ⟨_, hfr, kmrA⟩⟩, by rw [ht]; exact hP, va_K.moved hW.alike hK, hD⟩, hS.F ht⟩) hS.2.2 d_Model_faultOf_426
                            · have p406 : ¬ (((τ ((fS (wl.getD i9 0)).getD 0)).I 26) < (0 : Int32)) := c406
                              refine lv_aload_n hx hb d_Model_faultOf_409 rfl (lv_at hl 3 rfl) ?_
                              refine va_get (v := .int ((τ ((fS (wl.getD i9 0)).getD 0)).I 26)) hx hb htb i_Text hown hK hP i_39 hg_39 rfl 26 (by decide) (htb _ q6_224) (fun _ h9 => h9) rfl d_Model_faultOf_410 ?_
                              refine lv_iconst (v := 5) hx hb d_Model_faultOf_413 (by decide) ?_
                              refine lv_ishr hx hb d_Model_faultOf_414 ?_
                              refine lv_iconst (v := 1) hx hb d_Model_faultOf_415 (by decide) ?_
                              refine lv_iand hx hb d_Model_faultOf_416 ?_
                              refine lv_if_ne (tgt := 425) hx hb d_Model_faultOf_417 (by decide) (fun c417 => ?_) (fun c417 => ?_)
                              · have p417 : ¬ (((((τ ((fS (wl.getD i9 0)).getD 0)).I 26) >>> (5 &&& 31)) &&& 1) = (0 : Int32)) := c417
                                refine lv_iconst (v := 0) hx hb d_Model_faultOf_425 (by decide) ?_
                                exact W.iret (v := 0) hx hb hr (fun t ht hW => ⟨⟨_, G69, rfl, ⟨hTy, hFR, Eq.symm (if_nt (fun q9 => q9 p32) (if_nt (fun q9 => q9.elim (fun z => p46 (cmp_lt.mpr z)) (fun z => q_ng p58 (cmp_gt.mpr z))) (if_nt (fun ⟨l8, h7, h8, h9⟩ => hJk l8 (by omega) h8 h9) (if_nt (fun q9 => q9.2 (by obtain ⟨l8, h7, h8⟩ := p252; exact ⟨l8, by omega, h8⟩)) (if_nt (fun q9 => q9.2 p274) (if_nt (q_ng p283) (if_nt p290 (if_nt (fun q9 => q9 (b01_1 hca9 p299)) (if_nt (fun ⟨j9, h6, h7, h8, h9⟩ => hJ310 j9 (by omega) ⟨h6, h8, h9⟩) (if_pos (use_5.mpr (Or.inr p417)))))))))))), ⟨_, by rw [eX_10] at kmo; exact kmo⟩, ⟨_, hfm, kmmA⟩, ⟨_, hfr, kmrA⟩⟩, by rw [ht]; exact hP, va_K.moved hW.alike hK, hD⟩, hS.F ht⟩) hS.2.2 d_Model_faultOf_426
                              · have p417 : ((((τ ((fS (wl.getD i9 0)).getD 0)).I 26) >>> (5 &&& 31)) &&& 1) = (0 : Int32) := c417
                                refine lv_bipush (v := 9) hx hb d_Model_faultOf_420 (by decide) ?_
                                refine lv_goto (tgt := 426) hx hb d_Model_faultOf_422 (by decide) ?_
                                exact W.iret (v := 9) hx hb hr (fun t ht hW => ⟨⟨_, G69, rfl, ⟨hTy, hFR, Eq.symm (if_nt (fun q9 => q9 p32) (if_nt (fun q9 => q9.elim (fun z => p46 (cmp_lt.mpr z)) (fun z => q_ng p58 (cmp_gt.mpr z))) (if_nt (fun ⟨l8, h7, h8, h9⟩ => hJk l8 (by omega) h8 h9) (if_nt (fun q9 => q9.2 (by obtain ⟨l8, h7, h8⟩ := p252; exact ⟨l8, by omega, h8⟩)) (if_nt (fun q9 => q9.2 p274) (if_nt (q_ng p283) (if_nt p290 (if_nt (fun q9 => q9 (b01_1 hca9 p299)) (if_nt (fun ⟨j9, h6, h7, h8, h9⟩ => hJ310 j9 (by omega) ⟨h6, h8, h9⟩) (if_neg (fun q9 => (use_5.mp q9).elim p406 (fun z9 => z9 p417)))))))))))), ⟨_, by rw [eX_10] at kmo; exact kmo⟩, ⟨_, hfm, kmmA⟩, ⟨_, hfr, kmrA⟩⟩, by rw [ht]; exact hP, va_K.moved hW.alike hK, hD⟩, hS.F ht⟩) hS.2.2 d_Model_faultOf_426
                          · have p318 : ¬ ((s9 - 1) ≤ z310) := (fun q9 => c318 ((nI_leI (a := (s9 - 1)) (b := z310) (by omega) (by omega)).mpr q9))
                            refine lv_aload_n hx hb d_Model_faultOf_321 rfl (lv_at hl 4 rfl) ?_
                            refine va_get (v := .ref msT) hx hb htb i_Model hown hK hP i_11 hg_11 rfl 6 (by decide) (htb _ q7_220) (fun _ h9 => h9) rfl d_Model_faultOf_322 ?_
                            refine lv_aload_n hx hb d_Model_faultOf_325 rfl (lv_at hl 4 rfl) ?_
                            refine va_get (v := .ref mwy) hx hb htb i_Model hown hK hP i_11 hg_11 rfl 21 (by decide) (htb _ q7_235) (fun _ h9 => h9) rfl d_Model_faultOf_326 ?_
                            refine lv_iload hx hb d_Model_faultOf_329 (lv_at hl 0 rfl) ?_
                            obtain ⟨i_46, hg_46⟩ := List.getElem?_of_mem kmwy.2
                            have h331 : vp_in (nI z310) 16 := vp_in_nI (by omega) (by omega)
                            refine va_iald hx hb hK hP i_46 1 hg_46 rfl h331 d_Model_faultOf_331 ?_
                            refine lv_topi (fun e331 he331 => ?_)
                            have hw331 := hway z310 (by omega)
                            rw [nI_clamp (by omega), hw331.2] at he331
                            have hw331 := hw331.1
                            subst he331
                            obtain ⟨i_47, hg_47⟩ := List.getElem?_of_mem kmsT.2
                            have h332 : vp_in (nI (wl.getD z310 0)) 16 := vp_in_nI (by omega) (by omega)
                            refine va_aldq hx hb hK hP i_47 4 hg_47 rfl h332 d_Model_faultOf_332 ?_
                            obtain ⟨t_48, ft_48, kt_48, hc_48⟩ := hst (wl.getD z310 0) (by omega)
                            obtain rfl : t_48 = ((fS (wl.getD z310 0)).getD 0) := by rw [ft_48]; rfl
                            rw [show va_rf (fS (nI (wl.getD z310 0)).toNatClampNeg) = .ref ((fS (wl.getD z310 0)).getD 0) from by rw [nI_clamp (by omega), ft_48]; rfl]
                            have b1_48 := hc_48.b1
                            have b2_48 := hc_48.b2
                            have b3_48 := hc_48.b3
                            have b4_48 := hc_48.b4
                            have b5_48 := hc_48.b5
                            have b6_48 := hc_48.b6
                            have b8_48 := hc_48.b8
                            have b9_48 := hc_48.b9
                            refine lv_astore (lv' := [(6, .ref ((fS (wl.getD z310 0)).getD 0)), (5, .int (nI z310)), (4, .int (zP (∃ l8, l8 < z69 ∧ couQ (cXf τ fS) (lXf τ fV) (fun l9 b9 => sgT (τ ((fV l9).getD 0)) (τ ((fS b9).getD 0))) mnw (wl.getD i9 0) (wl.getD (i9 + 1) 0) l8))), (3, .ref ((fS (wl.getD (i9 + 1) 0)).getD 0)), (2, .ref ((fS (wl.getD i9 0)).getD 0)), (0, .ref mo), (1, .int (nI i9))]) hx hb d_Model_faultOf_333 hl (by decide) rfl (fun ls hl => ?_)
                            refine lv_iconst (v := 0) hx hb d_Model_faultOf_335 (by decide) ?_
                            refine lv_istore (lv' := [(7, .int 0), (6, .ref ((fS (wl.getD z310 0)).getD 0)), (5, .int (nI z310)), (4, .int (zP (∃ l8, l8 < z69 ∧ couQ (cXf τ fS) (lXf τ fV) (fun l9 b9 => sgT (τ ((fV l9).getD 0)) (τ ((fS b9).getD 0))) mnw (wl.getD i9 0) (wl.getD (i9 + 1) 0) l8))), (3, .ref ((fS (wl.getD (i9 + 1) 0)).getD 0)), (2, .ref ((fS (wl.getD i9 0)).getD 0)), (0, .ref mo), (1, .int (nI i9))]) hx hb d_Model_faultOf_336 hl (by decide) rfl (fun ls hl => ?_)
                            have e7 : (0 : Int32) = nI (btwQ (cXf τ fS) wl i9 (i9 - i9)) := by rw [Nat.sub_self]; rfl
                            have hl : lv_has ls 9 [(7, .int (nI (btwQ (cXf τ fS) wl i9 (i9 - i9)))), (6, .ref ((fS (wl.getD z310 0)).getD 0)), (5, .int (nI z310)), (4, .int (zP (∃ l8, l8 < z69 ∧ couQ (cXf τ fS) (lXf τ fV) (fun l9 b9 => sgT (τ ((fV l9).getD 0)) (τ ((fS b9).getD 0))) mnw (wl.getD i9 0) (wl.getD (i9 + 1) 0) l8))), (3, .ref ((fS (wl.getD (i9 + 1) 0)).getD 0)), (2, .ref ((fS (wl.getD i9 0)).getD 0)), (0, .ref mo), (1, .int (nI i9))] := by rw [← e7]; exact hl
                            refine lv_iload_n hx hb d_Model_faultOf_338 rfl (lv_at hl 7 rfl) ?_
                            refine lv_istore (lv' := [(8, .int (nI i9)), (7, .int (nI (btwQ (cXf τ fS) wl i9 (i9 - i9)))), (6, .ref ((fS (wl.getD z310 0)).getD 0)), (5, .int (nI z310)), (4, .int (zP (∃ l8, l8 < z69 ∧ couQ (cXf τ fS) (lXf τ fV) (fun l9 b9 => sgT (τ ((fV l9).getD 0)) (τ ((fS b9).getD 0))) mnw (wl.getD i9 0) (wl.getD (i9 + 1) 0) l8))), (3, .ref ((fS (wl.getD (i9 + 1) 0)).getD 0)), (2, .ref ((fS (wl.getD i9 0)).getD 0)), (0, .ref mo), (1, .int (nI i9))]) hx hb d_Model_faultOf_339 hl (by decide) rfl (fun ls hl => ?_)
                            refine w_loop (α := Nat) (fun a9 => i9 ≤ a9 ∧ a9 ≤ z310) (fun a9 => z310 - a9) (fun a9 => [(8, .int (nI a9)), (7, .int (nI (btwQ (cXf τ fS) wl i9 (a9 - i9)))), (6, .ref ((fS (wl.getD z310 0)).getD 0)), (5, .int (nI z310)), (4, .int (zP (∃ l8, l8 < z69 ∧ couQ (cXf τ fS) (lXf τ fV) (fun l9 b9 => sgT (τ ((fV l9).getD 0)) (τ ((fS b9).getD 0))) mnw (wl.getD i9 0) (wl.getD (i9 + 1) 0) l8))), (3, .ref ((fS (wl.getD (i9 + 1) 0)).getD 0)), (2, .ref ((fS (wl.getD i9 0)).getD 0)), (0, .ref mo), (1, .int (nI i9))]) (fun _ => []) 9 341 (fun z341 ls hJ hl ih341 => ?_) (i9) ls ⟨by omega, by omega⟩ (lv_sub hl [0, 1, 2, 3, 4, 5, 6, 7, 8] rfl)
                            skip
                            obtain ⟨hy341, hz341⟩ := hJ
                            refine lv_iload hx hb d_Model_faultOf_341 (lv_at hl 0 rfl) ?_
                            refine lv_iload hx hb d_Model_faultOf_343 (lv_at hl 3 rfl) ?_
                            refine lv_icmp_ge (tgt := 375) hx hb d_Model_faultOf_345 (by decide) (fun c345 => ?_) (fun c345 => ?_)
                            · have p345 : z310 ≤ z341 := ((nI_leI (a := z310) (b := z341) (by omega) (by omega)).mp c345)
                              have ez341 : z341 = z310 := by omega
                              rw [ez341] at hl
                              refine lv_aload hx hb d_Model_faultOf_375 (lv_at hl 2 rfl) ?_
                              obtain ⟨i_49, kA_49, hg_49⟩ := tr_20 hTy kt_48
                              refine va_get (v := .int ((τ ((fS (wl.getD z310 0)).getD 0)).I 25)) hx hb htb i_Text hown hK hP i_49 hg_49 rfl 25 (by decide) (htb _ q6_222) (fun _ h9 => h9) rfl d_Model_faultOf_377 ?_
                              refine lv_if_lt (tgt := 396) hx hb d_Model_faultOf_380 (by decide) (fun c380 => ?_) (fun c380 => ?_)
                              · have p380 : ((τ ((fS (wl.getD z310 0)).getD 0)).I 25) < (0 : Int32) := c380
                                refine lv_iinc (v := nI (z310 + 1)) (lv' := [(5, .int (nI (z310 + 1))), (8, .int (nI z310)), (7, .int (nI (btwQ (cXf τ fS) wl i9 (z310 - i9)))), (6, .ref ((fS (wl.getD z310 0)).getD 0)), (4, .int (zP (∃ l8, l8 < z69 ∧ couQ (cXf τ fS) (lXf τ fV) (fun l9 b9 => sgT (τ ((fV l9).getD 0)) (τ ((fS b9).getD 0))) mnw (wl.getD i9 0) (wl.getD (i9 + 1) 0) l8))), (3, .ref ((fS (wl.getD (i9 + 1) 0)).getD 0)), (2, .ref ((fS (wl.getD i9 0)).getD 0)), (0, .ref mo), (1, .int (nI i9))]) hx hb d_Model_faultOf_396 hl (k := 3) rfl (nI_1 _) (by decide) rfl (fun ls hl => ?_)
                                refine lv_goto (tgt := 310) hx hb d_Model_faultOf_399 (by decide) ?_
                                exact ih310 ((z310 + 1)) ls (by omega) ⟨by omega, by omega, fun j9 h9 => (Nat.lt_succ_iff_lt_or_eq.mp h9).elim (hJ310 j9) (fun e9 => by subst e9; exact fun q9 => q9.2.1 p380)⟩ (lv_sub hl [0, 4, 5, 6, 7, 8] rfl)
                              · have p380 : ¬ (((τ ((fS (wl.getD z310 0)).getD 0)).I 25) < (0 : Int32)) := c380
                                refine lv_aload hx hb d_Model_faultOf_383 (lv_at hl 2 rfl) ?_
                                refine va_get (v := .int ((τ ((fS (wl.getD z310 0)).getD 0)).I 25)) hx hb htb i_Text hown hK hP i_49 hg_49 rfl 25 (by decide) (htb _ q6_222) (fun _ h9 => h9) rfl d_Model_faultOf_385 ?_
                                refine lv_iload hx hb d_Model_faultOf_388 (lv_at hl 1 rfl) ?_
                                refine lv_icmp_ge (tgt := 396) hx hb d_Model_faultOf_390 (by decide) (fun c390 => ?_) (fun c390 => ?_)
                                · have p390 : (nI (btwQ (cXf τ fS) wl i9 (z310 - i9))) ≤ ((τ ((fS (wl.getD z310 0)).getD 0)).I 25) := c390
                                  refine lv_iinc (v := nI (z310 + 1)) (lv' := [(5, .int (nI (z310 + 1))), (8, .int (nI z310)), (7, .int (nI (btwQ (cXf τ fS) wl i9 (z310 - i9)))), (6, .ref ((fS (wl.getD z310 0)).getD 0)), (4, .int (zP (∃ l8, l8 < z69 ∧ couQ (cXf τ fS) (lXf τ fV) (fun l9 b9 => sgT (τ ((fV l9).getD 0)) (τ ((fS b9).getD 0))) mnw (wl.getD i9 0) (wl.getD (i9 + 1) 0) l8))), (3, .ref ((fS (wl.getD (i9 + 1) 0)).getD 0)), (2, .ref ((fS (wl.getD i9 0)).getD 0)), (0, .ref mo), (1, .int (nI i9))]) hx hb d_Model_faultOf_396 hl (k := 3) rfl (nI_1 _) (by decide) rfl (fun ls hl => ?_)
                                  refine lv_goto (tgt := 310) hx hb d_Model_faultOf_399 (by decide) ?_
                                  exact ih310 ((z310 + 1)) ls (by omega) ⟨by omega, by omega, fun j9 h9 => (Nat.lt_succ_iff_lt_or_eq.mp h9).elim (hJ310 j9) (fun e9 => by subst e9; exact fun q9 => (q_ng p390) q9.2.2)⟩ (lv_sub hl [0, 4, 5, 6, 7, 8] rfl)
                                · have p390 : ¬ ((nI (btwQ (cXf τ fS) wl i9 (z310 - i9))) ≤ ((τ ((fS (wl.getD z310 0)).getD 0)).I 25)) := c390
                                  refine lv_bipush (v := 8) hx hb d_Model_faultOf_393 (by decide) ?_
                                  exact W.iret (v := 8) hx hb hr (fun t ht hW => ⟨⟨_, G69, rfl, ⟨hTy, hFR, Eq.symm (if_nt (fun q9 => q9 p32) (if_nt (fun q9 => q9.elim (fun z => p46 (cmp_lt.mpr z)) (fun z => q_ng p58 (cmp_gt.mpr z))) (if_nt (fun ⟨l8, h7, h8, h9⟩ => hJk l8 (by omega) h8 h9) (if_nt (fun q9 => q9.2 (by obtain ⟨l8, h7, h8⟩ := p252; exact ⟨l8, by omega, h8⟩)) (if_nt (fun q9 => q9.2 p274) (if_nt (q_ng p283) (if_nt p290 (if_nt (fun q9 => q9 (b01_1 hca9 p299)) (if_pos ⟨z310, by omega, by omega, p380, q_gt p390⟩))))))))), ⟨_, by rw [eX_10] at kmo; exact kmo⟩, ⟨_, hfm, kmmA⟩, ⟨_, hfr, kmrA⟩⟩, by rw [ht]; exact hP, va_K.moved hW.alike hK, hD⟩, hS.F ht⟩) hS.2.2 d_Model_faultOf_395
                            · have p345 : ¬ (z310 ≤ z341) := (fun q9 => c345 ((nI_leI (a := z310) (b := z341) (by omega) (by omega)).mpr q9))
                              refine lv_aload_n hx hb d_Model_faultOf_348 rfl (lv_at hl 7 rfl) ?_
                              refine va_get (v := .ref msT) hx hb htb i_Model hown hK hP i_11 hg_11 rfl 6 (by decide) (htb _ q7_220) (fun _ h9 => h9) rfl d_Model_faultOf_349 ?_
                              refine lv_aload_n hx hb d_Model_faultOf_352 rfl (lv_at hl 7 rfl) ?_
                              refine va_get (v := .ref mwy) hx hb htb i_Model hown hK hP i_11 hg_11 rfl 21 (by decide) (htb _ q7_235) (fun _ h9 => h9) rfl d_Model_faultOf_353 ?_
                              refine lv_iload hx hb d_Model_faultOf_356 (lv_at hl 0 rfl) ?_
                              have h358 : vp_in (nI z341) 16 := vp_in_nI (by omega) (by omega)
                              refine va_iald hx hb hK hP i_46 1 hg_46 rfl h358 d_Model_faultOf_358 ?_
                              refine lv_topi (fun e358 he358 => ?_)
                              have hw358 := hway z341 (by omega)
                              rw [nI_clamp (by omega), hw358.2] at he358
                              have hw358 := hw358.1
                              subst he358
                              have h359 : vp_in (nI (wl.getD z341 0)) 16 := vp_in_nI (by omega) (by omega)
                              refine va_aldq hx hb hK hP i_47 4 hg_47 rfl h359 d_Model_faultOf_359 ?_
                              obtain ⟨t_50, ft_50, kt_50, hc_50⟩ := hst (wl.getD z341 0) (by omega)
                              obtain rfl : t_50 = ((fS (wl.getD z341 0)).getD 0) := by rw [ft_50]; rfl
                              rw [show va_rf (fS (nI (wl.getD z341 0)).toNatClampNeg) = .ref ((fS (wl.getD z341 0)).getD 0) from by rw [nI_clamp (by omega), ft_50]; rfl]
                              have b1_50 := hc_50.b1
                              have b2_50 := hc_50.b2
                              have b3_50 := hc_50.b3
                              have b4_50 := hc_50.b4
                              have b5_50 := hc_50.b5
                              have b6_50 := hc_50.b6
                              have b8_50 := hc_50.b8
                              have b9_50 := hc_50.b9
                              obtain ⟨i_51, kA_51, hg_51⟩ := tr_20 hTy kt_50
                              refine vp_callSi (pu_callV (As := []) (rest := []) ⟨hx, hb, hml, hown, hts⟩ tbin (p_Text_isOwn l dC dI sb γ κ Ad τ gT G69 ((fS (wl.getD z341 0)).getD 0)  hTy kt_50 hc_50) q9_146 q9_147 q9_148 q1_10 q9_149 (n := 0) (by decide +kernel) rfl ⟨rfl, rfl⟩ ⟨Nat.le_of_ble_eq_true rfl, Nat.le_of_ble_eq_true rfl⟩ ⟨Nat.le_of_ble_eq_true rfl, Nat.le_of_ble_eq_true rfl⟩ hN (hT0.keep hS hAs) hK hP (List.range G69.length) (rg_all G69) [0, 1, 2, 3, 4] rfl i_51 13 hg_51 rfl rfl hl.1 rfl (Nat.le_of_ble_eq_true rfl) d_Model_faultOf_360) (fun r360 hr360 => ?_)
                              obtain rfl : r360 = zP (ownQ (cT (τ ((fS (wl.getD z341 0)).getD 0)))) := hr360
                              refine lv_if_ne (tgt := 369) hx hb d_Model_faultOf_363 (by decide) (fun c363 => ?_) (fun c363 => ?_)
                              · have p363 : ownQ (cT (τ ((fS (wl.getD z341 0)).getD 0))) := (zP_1 c363)
                                have e7 : (nI (btwQ (cXf τ fS) wl i9 (z341 - i9)) : Int32) = nI (btwQ (cXf τ fS) wl i9 (z341 + 1 - i9)) := btw_y (by omega) p363
                                have hl : lv_has ls 9 [(8, .int (nI z341)), (7, .int (nI (btwQ (cXf τ fS) wl i9 (z341 + 1 - i9)))), (6, .ref ((fS (wl.getD z310 0)).getD 0)), (5, .int (nI z310)), (4, .int (zP (∃ l8, l8 < z69 ∧ couQ (cXf τ fS) (lXf τ fV) (fun l9 b9 => sgT (τ ((fV l9).getD 0)) (τ ((fS b9).getD 0))) mnw (wl.getD i9 0) (wl.getD (i9 + 1) 0) l8))), (3, .ref ((fS (wl.getD (i9 + 1) 0)).getD 0)), (2, .ref ((fS (wl.getD i9 0)).getD 0)), (0, .ref mo), (1, .int (nI i9))] := by rw [← e7]; exact hl
                                refine lv_iinc (v := nI (z341 + 1)) (lv' := [(8, .int (nI (z341 + 1))), (7, .int (nI (btwQ (cXf τ fS) wl i9 (z341 + 1 - i9)))), (6, .ref ((fS (wl.getD z310 0)).getD 0)), (5, .int (nI z310)), (4, .int (zP (∃ l8, l8 < z69 ∧ couQ (cXf τ fS) (lXf τ fV) (fun l9 b9 => sgT (τ ((fV l9).getD 0)) (τ ((fS b9).getD 0))) mnw (wl.getD i9 0) (wl.getD (i9 + 1) 0) l8))), (3, .ref ((fS (wl.getD (i9 + 1) 0)).getD 0)), (2, .ref ((fS (wl.getD i9 0)).getD 0)), (0, .ref mo), (1, .int (nI i9))]) hx hb d_Model_faultOf_369 hl (k := 0) rfl (nI_1 _) (by decide) rfl (fun ls hl => ?_)
                                refine lv_goto (tgt := 341) hx hb d_Model_faultOf_372 (by decide) ?_
                                exact ih341 ((z341 + 1)) ls (by omega) ⟨by omega, by omega⟩ (lv_sub hl [0, 1, 2, 3, 4, 5, 6, 7, 8] rfl)
                              · have p363 : ¬ (ownQ (cT (τ ((fS (wl.getD z341 0)).getD 0)))) := (zP_0.mp c363)
                                refine lv_iinc (v := nI (btwQ (cXf τ fS) wl i9 (z341 - i9) + 1)) (lv' := [(7, .int (nI (btwQ (cXf τ fS) wl i9 (z341 - i9) + 1))), (8, .int (nI z341)), (6, .ref ((fS (wl.getD z310 0)).getD 0)), (5, .int (nI z310)), (4, .int (zP (∃ l8, l8 < z69 ∧ couQ (cXf τ fS) (lXf τ fV) (fun l9 b9 => sgT (τ ((fV l9).getD 0)) (τ ((fS b9).getD 0))) mnw (wl.getD i9 0) (wl.getD (i9 + 1) 0) l8))), (3, .ref ((fS (wl.getD (i9 + 1) 0)).getD 0)), (2, .ref ((fS (wl.getD i9 0)).getD 0)), (0, .ref mo), (1, .int (nI i9))]) hx hb d_Model_faultOf_366 hl (k := 1) rfl (nI_1 _) (by decide) rfl (fun ls hl => ?_)
                                have e7 : (nI (btwQ (cXf τ fS) wl i9 (z341 - i9) + 1) : Int32) = nI (btwQ (cXf τ fS) wl i9 (z341 + 1 - i9)) := btw_n (by omega) p363
                                have hl : lv_has ls 9 [(7, .int (nI (btwQ (cXf τ fS) wl i9 (z341 + 1 - i9)))), (8, .int (nI z341)), (6, .ref ((fS (wl.getD z310 0)).getD 0)), (5, .int (nI z310)), (4, .int (zP (∃ l8, l8 < z69 ∧ couQ (cXf τ fS) (lXf τ fV) (fun l9 b9 => sgT (τ ((fV l9).getD 0)) (τ ((fS b9).getD 0))) mnw (wl.getD i9 0) (wl.getD (i9 + 1) 0) l8))), (3, .ref ((fS (wl.getD (i9 + 1) 0)).getD 0)), (2, .ref ((fS (wl.getD i9 0)).getD 0)), (0, .ref mo), (1, .int (nI i9))] := by rw [← e7]; exact hl
                                refine lv_iinc (v := nI (z341 + 1)) (lv' := [(8, .int (nI (z341 + 1))), (7, .int (nI (btwQ (cXf τ fS) wl i9 (z341 + 1 - i9)))), (6, .ref ((fS (wl.getD z310 0)).getD 0)), (5, .int (nI z310)), (4, .int (zP (∃ l8, l8 < z69 ∧ couQ (cXf τ fS) (lXf τ fV) (fun l9 b9 => sgT (τ ((fV l9).getD 0)) (τ ((fS b9).getD 0))) mnw (wl.getD i9 0) (wl.getD (i9 + 1) 0) l8))), (3, .ref ((fS (wl.getD (i9 + 1) 0)).getD 0)), (2, .ref ((fS (wl.getD i9 0)).getD 0)), (0, .ref mo), (1, .int (nI i9))]) hx hb d_Model_faultOf_369 hl (k := 1) rfl (nI_1 _) (by decide) rfl (fun ls hl => ?_)
                                refine lv_goto (tgt := 341) hx hb d_Model_faultOf_372 (by decide) ?_
                                exact ih341 ((z341 + 1)) ls (by omega) ⟨by omega, by omega⟩ (lv_sub hl [0, 1, 2, 3, 4, 5, 6, 7, 8] rfl)
                        · have p299 : ((τ ((fS (wl.getD i9 0)).getD 0)).I 40) = (0 : Int32) := c299
                          refine lv_bipush (v := 7) hx hb d_Model_faultOf_302 (by decide) ?_
                          exact W.iret (v := 7) hx hb hr (fun t ht hW => ⟨⟨_, G69, rfl, ⟨hTy, hFR, Eq.symm (if_nt (fun q9 => q9 p32) (if_nt (fun q9 => q9.elim (fun z => p46 (cmp_lt.mpr z)) (fun z => q_ng p58 (cmp_gt.mpr z))) (if_nt (fun ⟨l8, h7, h8, h9⟩ => hJk l8 (by omega) h8 h9) (if_nt (fun q9 => q9.2 (by obtain ⟨l8, h7, h8⟩ := p252; exact ⟨l8, by omega, h8⟩)) (if_nt (fun q9 => q9.2 p274) (if_nt (q_ng p283) (if_nt p290 (if_pos (k01_n p299))))))))), ⟨_, by rw [eX_10] at kmo; exact kmo⟩, ⟨_, hfm, kmmA⟩, ⟨_, hfr, kmrA⟩⟩, by rw [ht]; exact hP, va_K.moved hW.alike hK, hD⟩, hS.F ht⟩) hS.2.2 d_Model_faultOf_304
                      · have p290 : i9 = 0 := ((nI_eq (a := i9) (b := 0) (by omega) (by omega)).mp c290)
                        refine lv_iconst (v := 0) hx hb d_Model_faultOf_293 (by decide) ?_
                        exact W.iret (v := 0) hx hb hr (fun t ht hW => ⟨⟨_, G69, rfl, ⟨hTy, hFR, Eq.symm (if_nt (fun q9 => q9 p32) (if_nt (fun q9 => q9.elim (fun z => p46 (cmp_lt.mpr z)) (fun z => q_ng p58 (cmp_gt.mpr z))) (if_nt (fun ⟨l8, h7, h8, h9⟩ => hJk l8 (by omega) h8 h9) (if_nt (fun q9 => q9.2 (by obtain ⟨l8, h7, h8⟩ := p252; exact ⟨l8, by omega, h8⟩)) (if_nt (fun q9 => q9.2 p274) (if_nt (q_ng p283) (if_pos p290))))))), ⟨_, by rw [eX_10] at kmo; exact kmo⟩, ⟨_, hfm, kmmA⟩, ⟨_, hfr, kmrA⟩⟩, by rw [ht]; exact hP, va_K.moved hW.alike hK, hD⟩, hS.F ht⟩) hS.2.2 d_Model_faultOf_294
                    · have p283 : ¬ (((τ ((fS (wl.getD i9 0)).getD 0)).I 30) ≤ (0 : Int32)) := c283
                      refine lv_bipush (v := 6) hx hb d_Model_faultOf_286 (by decide) ?_
                      exact W.iret (v := 6) hx hb hr (fun t ht hW => ⟨⟨_, G69, rfl, ⟨hTy, hFR, Eq.symm (if_nt (fun q9 => q9 p32) (if_nt (fun q9 => q9.elim (fun z => p46 (cmp_lt.mpr z)) (fun z => q_ng p58 (cmp_gt.mpr z))) (if_nt (fun ⟨l8, h7, h8, h9⟩ => hJk l8 (by omega) h8 h9) (if_nt (fun q9 => q9.2 (by obtain ⟨l8, h7, h8⟩ := p252; exact ⟨l8, by omega, h8⟩)) (if_nt (fun q9 => q9.2 p274) (if_pos (q_gt p283))))))), ⟨_, by rw [eX_10] at kmo; exact kmo⟩, ⟨_, hfm, kmmA⟩, ⟨_, hfr, kmrA⟩⟩, by rw [ht]; exact hP, va_K.moved hW.alike hK, hD⟩, hS.F ht⟩) hS.2.2 d_Model_faultOf_288
                  · have p274 : ¬ (namQ (cXf τ fS) wl i9) := (zP_0.mp c274)
                    refine lv_iconst (v := 5) hx hb d_Model_faultOf_277 (by decide) ?_
                    exact W.iret (v := 5) hx hb hr (fun t ht hW => ⟨⟨_, G69, rfl, ⟨hTy, hFR, Eq.symm (if_nt (fun q9 => q9 p32) (if_nt (fun q9 => q9.elim (fun z => p46 (cmp_lt.mpr z)) (fun z => q_ng p58 (cmp_gt.mpr z))) (if_nt (fun ⟨l8, h7, h8, h9⟩ => hJk l8 (by omega) h8 h9) (if_nt (fun q9 => q9.2 (by obtain ⟨l8, h7, h8⟩ := p252; exact ⟨l8, by omega, h8⟩)) (if_pos ⟨Or.inr p265, p274⟩))))), ⟨_, by rw [eX_10] at kmo; exact kmo⟩, ⟨_, hfm, kmmA⟩, ⟨_, hfr, kmrA⟩⟩, by rw [ht]; exact hP, va_K.moved hW.alike hK, hD⟩, hS.F ht⟩) hS.2.2 d_Model_faultOf_278
            · have p252 : ¬ (∃ l8, l8 < z69 ∧ couQ (cXf τ fS) (lXf τ fV) (fun l9 b9 => sgT (τ ((fV l9).getD 0)) (τ ((fS b9).getD 0))) mnw (wl.getD i9 0) (wl.getD (i9 + 1) 0) l8) := (zP_0.mp c252)
              refine lv_iconst (v := 4) hx hb d_Model_faultOf_255 (by decide) ?_
              exact W.iret (v := 4) hx hb hr (fun t ht hW => ⟨⟨_, G69, rfl, ⟨hTy, hFR, Eq.symm (if_nt (fun q9 => q9 p32) (if_nt (fun q9 => q9.elim (fun z => p46 (cmp_lt.mpr z)) (fun z => q_ng p58 (cmp_gt.mpr z))) (if_nt (fun ⟨l8, h7, h8, h9⟩ => hJk l8 (by omega) h8 h9) (if_pos ⟨b01_1 hmk p247, fun ⟨l8, h7, h8⟩ => p252 ⟨l8, by omega, h8⟩⟩)))), ⟨_, by rw [eX_10] at kmo; exact kmo⟩, ⟨_, hfm, kmmA⟩, ⟨_, hfr, kmrA⟩⟩, by rw [ht]; exact hP, va_K.moved hW.alike hK, hD⟩, hS.F ht⟩) hS.2.2 d_Model_faultOf_256
        · have p75 : ¬ (KL ≤ z69) := (fun q9 => c75 ((nI_leI (a := KL) (b := z69) (by omega) (by omega)).mpr q9))
          refine lv_aload_n hx hb d_Model_faultOf_78 rfl (lv_at hl 4 rfl) ?_
          refine va_get (v := .ref mrV) hx hb htb i_Model hown hK hP i_11 hg_11 rfl 7 (by decide) (htb _ q7_221) (fun _ h9 => h9) rfl d_Model_faultOf_79 ?_
          refine lv_iload hx hb d_Model_faultOf_82 (lv_at hl 0 rfl) ?_
          obtain ⟨i_52, hg_52⟩ := List.getElem?_of_mem kmrV.2
          have h84 : vp_in (nI z69) 8 := vp_in_nI (by omega) (by omega)
          refine va_aldq hx hb hK hP i_52 4 hg_52 rfl h84 d_Model_faultOf_84 ?_
          obtain ⟨t_53, ft_53, kt_53, hc_53⟩ := hrv z69 (by omega)
          obtain rfl : t_53 = ((fV z69).getD 0) := by rw [ft_53]; rfl
          rw [show va_rf (fV (nI z69).toNatClampNeg) = .ref ((fV z69).getD 0) from by rw [nI_clamp (by omega), ft_53]; rfl]
          have b1_53 := hc_53.b1
          have b2_53 := hc_53.b2
          have b3_53 := hc_53.b3
          have b4_53 := hc_53.b4
          refine lv_astore (lv' := [(6, .ref ((fV z69).getD 0)), (5, .int (nI z69)), (4, .int (zP (∃ l8, l8 < z69 ∧ couQ (cXf τ fS) (lXf τ fV) (fun l9 b9 => sgT (τ ((fV l9).getD 0)) (τ ((fS b9).getD 0))) mnw (wl.getD i9 0) (wl.getD (i9 + 1) 0) l8))), (3, .ref ((fS (wl.getD (i9 + 1) 0)).getD 0)), (2, .ref ((fS (wl.getD i9 0)).getD 0)), (0, .ref mo), (1, .int (nI i9))]) hx hb d_Model_faultOf_85 hl (by decide) rfl (fun ls hl => ?_)
          refine lv_aload hx hb d_Model_faultOf_87 (lv_at hl 0 rfl) ?_
          refine lv_aload hx hb d_Model_faultOf_89 (lv_at hl 0 rfl) ?_
          obtain ⟨i_54, kA_54, hg_54⟩ := tr_20 hTy kt_53
          refine va_get (v := .int ((τ ((fV z69).getD 0)).I 12)) hx hb htb i_Text hown hK hP i_54 hg_54 rfl 12 (by decide) (htb _ q6_198) (fun _ h9 => h9) rfl d_Model_faultOf_91 ?_
          rw [hc_53.e12]
          refine lv_aload hx hb d_Model_faultOf_94 (lv_at hl 0 rfl) ?_
          refine va_get (v := .int ((τ ((fV z69).getD 0)).I 13)) hx hb htb i_Text hown hK hP i_54 hg_54 rfl 13 (by decide) (htb _ q6_200) (fun _ h9 => h9) rfl d_Model_faultOf_96 ?_
          rw [hc_53.e13]
          refine lv_aload_n hx hb d_Model_faultOf_99 rfl (lv_at hl 4 rfl) ?_
          refine lv_aload_n hx hb d_Model_faultOf_100 rfl (lv_at hl 4 rfl) ?_
          obtain ⟨i_55, kA_55, hg_55⟩ := tr_20 hTy kt_4
          refine va_get (v := .int ((τ ((fS (wl.getD i9 0)).getD 0)).I 12)) hx hb htb i_Text hown hK hP i_55 hg_55 rfl 12 (by decide) (htb _ q6_198) (fun _ h9 => h9) rfl d_Model_faultOf_101 ?_
          rw [hc_4.e12]
          refine lv_aload_n hx hb d_Model_faultOf_104 rfl (lv_at hl 4 rfl) ?_
          refine va_get (v := .int ((τ ((fS (wl.getD i9 0)).getD 0)).I 13)) hx hb htb i_Text hown hK hP i_55 hg_55 rfl 13 (by decide) (htb _ q6_200) (fun _ h9 => h9) rfl d_Model_faultOf_105 ?_
          rw [hc_4.e13]
          refine vp_callSi (pu_callV (As := [.int (nI ((τ ((fV z69).getD 0)).is)), .int (nI ((τ ((fV z69).getD 0)).ie)), .ref ((fS (wl.getD i9 0)).getD 0), .int (nI ((τ ((fS (wl.getD i9 0)).getD 0)).is)), .int (nI ((τ ((fS (wl.getD i9 0)).getD 0)).ie))]) (rest := []) ⟨hx, hb, hml, hown, hts⟩ tbin (p_Text_same l dC dI sb γ κ Ad τ gT G69 ((fV z69).getD 0) ((fS (wl.getD i9 0)).getD 0) ((τ ((fV z69).getD 0)).is) ((τ ((fV z69).getD 0)).ie) ((τ ((fS (wl.getD i9 0)).getD 0)).is) ((τ ((fS (wl.getD i9 0)).getD 0)).ie) hTy kt_53 kt_4 hc_53.toTB hc_4.toTB (by omega) (by omega) (by omega) (by omega)) q9_145 q9_32 q9_33 q1_10 q9_34 (n := 5) (by decide +kernel) rfl ⟨rfl, rfl⟩ ⟨Nat.le_of_ble_eq_true rfl, Nat.le_of_ble_eq_true rfl⟩ ⟨Nat.le_of_ble_eq_true rfl, Nat.le_of_ble_eq_true rfl⟩ hN (hT0.keep hS hAs) hK hP (List.range G69.length) (rg_all G69) [0, 1, 2, 3, 4] rfl i_54 13 hg_54 rfl rfl hl.1 rfl (Nat.le_of_ble_eq_true rfl) d_Model_faultOf_108) (fun r108 hr108 => ?_)
          obtain rfl : r108 = zP (rgM (τ ((fV z69).getD 0)).u ((τ ((fV z69).getD 0)).is) (((τ ((fV z69).getD 0)).ie) - ((τ ((fV z69).getD 0)).is)) = rgM (τ ((fS (wl.getD i9 0)).getD 0)).u ((τ ((fS (wl.getD i9 0)).getD 0)).is) (((τ ((fS (wl.getD i9 0)).getD 0)).ie) - ((τ ((fS (wl.getD i9 0)).getD 0)).is))) := hr108
          refine lv_if_eq (tgt := 237) hx hb d_Model_faultOf_111 (by decide) (fun c111 => ?_) (fun c111 => ?_)
          · have p111 : ¬ (rgM (τ ((fV z69).getD 0)).u ((τ ((fV z69).getD 0)).is) (((τ ((fV z69).getD 0)).ie) - ((τ ((fV z69).getD 0)).is)) = rgM (τ ((fS (wl.getD i9 0)).getD 0)).u ((τ ((fS (wl.getD i9 0)).getD 0)).is) (((τ ((fS (wl.getD i9 0)).getD 0)).ie) - ((τ ((fS (wl.getD i9 0)).getD 0)).is))) := (zP_0.mp c111)
            have hcn : ¬ couQ (cXf τ fS) (lXf τ fV) (fun l9 b9 => sgT (τ ((fV l9).getD 0)) (τ ((fS b9).getD 0))) mnw (wl.getD i9 0) (wl.getD (i9 + 1) 0) z69 := fun h9 => p111 h9.2.2.2.2.1
            have e4 : (zP (∃ l8, l8 < z69 ∧ couQ (cXf τ fS) (lXf τ fV) (fun l9 b9 => sgT (τ ((fV l9).getD 0)) (τ ((fS b9).getD 0))) mnw (wl.getD i9 0) (wl.getD (i9 + 1) 0) l8) : Int32) = zP (∃ l8, l8 < (z69 + 1) ∧ couQ (cXf τ fS) (lXf τ fV) (fun l9 b9 => sgT (τ ((fV l9).getD 0)) (τ ((fS b9).getD 0))) mnw (wl.getD i9 0) (wl.getD (i9 + 1) 0) l8) := zP_g (ex_s0 hcn)
            have hl : lv_has ls 9 [(6, .ref ((fV z69).getD 0)), (5, .int (nI z69)), (4, .int (zP (∃ l8, l8 < (z69 + 1) ∧ couQ (cXf τ fS) (lXf τ fV) (fun l9 b9 => sgT (τ ((fV l9).getD 0)) (τ ((fS b9).getD 0))) mnw (wl.getD i9 0) (wl.getD (i9 + 1) 0) l8))), (3, .ref ((fS (wl.getD (i9 + 1) 0)).getD 0)), (2, .ref ((fS (wl.getD i9 0)).getD 0)), (0, .ref mo), (1, .int (nI i9))] := by rw [← e4]; exact hl
            have hJn : ∀ l8, l8 < z69 + 1 → couQ (cXf τ fS) (lXf τ fV) (fun l9 b9 => sgT (τ ((fV l9).getD 0)) (τ ((fS b9).getD 0))) mnw (wl.getD i9 0) (wl.getD (i9 + 1) 0) l8 → ¬ ((cXf τ fS) (wl.getD i9 0)).se ∈ ((lXf τ fV) l8).en := fun l8 h9 => (Nat.lt_succ_iff_lt_or_eq.mp h9).elim (hJk l8) (fun e8 => by subst e8; exact fun q => absurd q hcn)
            refine lv_iinc (v := nI (z69 + 1)) (lv' := [(5, .int (nI (z69 + 1))), (6, .ref ((fV z69).getD 0)), (4, .int (zP (∃ l8, l8 < (z69 + 1) ∧ couQ (cXf τ fS) (lXf τ fV) (fun l9 b9 => sgT (τ ((fV l9).getD 0)) (τ ((fS b9).getD 0))) mnw (wl.getD i9 0) (wl.getD (i9 + 1) 0) l8))), (3, .ref ((fS (wl.getD (i9 + 1) 0)).getD 0)), (2, .ref ((fS (wl.getD i9 0)).getD 0)), (0, .ref mo), (1, .int (nI i9))]) hx hb d_Model_faultOf_237 hl (k := 1) rfl (nI_1 _) (by decide) rfl (fun ls hl => ?_)
            refine lv_goto (tgt := 69) hx hb d_Model_faultOf_240 (by decide) ?_
            exact ih69 (z69 + 1, f69_mmA, f69_mrA, v69_mqs, G69) _ _ ls (by dsimp only; omega) ⟨by dsimp only; omega, by dsimp only; omega, hTy, hFR, (by have h9 := kmo; rw [eX_10] at h9; exact h9), kmmA, kmrA, kmwy, kmsT, kmrV, kmfd, ⟨hfm, hfr, hJn⟩⟩ hP hD hS (lv_sub hl [0, 2, 3, 4, 5, 6] rfl)
          · have p111 : rgM (τ ((fV z69).getD 0)).u ((τ ((fV z69).getD 0)).is) (((τ ((fV z69).getD 0)).ie) - ((τ ((fV z69).getD 0)).is)) = rgM (τ ((fS (wl.getD i9 0)).getD 0)).u ((τ ((fS (wl.getD i9 0)).getD 0)).is) (((τ ((fS (wl.getD i9 0)).getD 0)).ie) - ((τ ((fS (wl.getD i9 0)).getD 0)).is)) := (zP_1 c111)
            refine lv_aload_n hx hb d_Model_faultOf_114 rfl (lv_at hl 3 rfl) ?_
            obtain ⟨i_56, kA_56, hg_56⟩ := tr_20 hTy kt_5
            refine va_get (v := .int ((τ ((fS (wl.getD (i9 + 1) 0)).getD 0)).I 26)) hx hb htb i_Text hown hK hP i_56 hg_56 rfl 26 (by decide) (htb _ q6_224) (fun _ h9 => h9) rfl d_Model_faultOf_115 ?_
            refine lv_if_lt (tgt := 133) hx hb d_Model_faultOf_118 (by decide) (fun c118 => ?_) (fun c118 => ?_)
            · have p118 : ((τ ((fS (wl.getD (i9 + 1) 0)).getD 0)).I 26) < (0 : Int32) := c118
              refine lv_aload_n hx hb d_Model_faultOf_133 rfl (lv_at hl 5 rfl) ?_
              refine va_get (v := .long mnw) hx hb htb i_Model hown hK hP i_11 hg_11 rfl 30 (by decide) (htb _ q8_4) (fun _ h9 => h9) rfl d_Model_faultOf_134 ?_
              refine lv_aload hx hb d_Model_faultOf_137 (lv_at hl 0 rfl) ?_
              refine va_get (v := .long ((τ ((fV z69).getD 0)).J 7)) hx hb htb i_Text hown hK hP i_54 hg_54 rfl 7 (by decide) (htb _ q6_188) (fun _ h9 => h9) rfl d_Model_faultOf_139 ?_
              refine W.lcmp hx hb d_Model_faultOf_142 ?_
              refine lv_if_lt (tgt := 237) hx hb d_Model_faultOf_143 (by decide) (fun c143 => ?_) (fun c143 => ?_)
              · have p143 : (lg_cmp mnw ((τ ((fV z69).getD 0)).J 7)) < (0 : Int32) := c143
                have hcn : ¬ couQ (cXf τ fS) (lXf τ fV) (fun l9 b9 => sgT (τ ((fV l9).getD 0)) (τ ((fS b9).getD 0))) mnw (wl.getD i9 0) (wl.getD (i9 + 1) 0) z69 := fun h9 => h9.1 (cmp_lt.mp p143)
                have e4 : (zP (∃ l8, l8 < z69 ∧ couQ (cXf τ fS) (lXf τ fV) (fun l9 b9 => sgT (τ ((fV l9).getD 0)) (τ ((fS b9).getD 0))) mnw (wl.getD i9 0) (wl.getD (i9 + 1) 0) l8) : Int32) = zP (∃ l8, l8 < (z69 + 1) ∧ couQ (cXf τ fS) (lXf τ fV) (fun l9 b9 => sgT (τ ((fV l9).getD 0)) (τ ((fS b9).getD 0))) mnw (wl.getD i9 0) (wl.getD (i9 + 1) 0) l8) := zP_g (ex_s0 hcn)
                have hl : lv_has ls 9 [(6, .ref ((fV z69).getD 0)), (5, .int (nI z69)), (4, .int (zP (∃ l8, l8 < (z69 + 1) ∧ couQ (cXf τ fS) (lXf τ fV) (fun l9 b9 => sgT (τ ((fV l9).getD 0)) (τ ((fS b9).getD 0))) mnw (wl.getD i9 0) (wl.getD (i9 + 1) 0) l8))), (3, .ref ((fS (wl.getD (i9 + 1) 0)).getD 0)), (2, .ref ((fS (wl.getD i9 0)).getD 0)), (0, .ref mo), (1, .int (nI i9))] := by rw [← e4]; exact hl
                have hJn : ∀ l8, l8 < z69 + 1 → couQ (cXf τ fS) (lXf τ fV) (fun l9 b9 => sgT (τ ((fV l9).getD 0)) (τ ((fS b9).getD 0))) mnw (wl.getD i9 0) (wl.getD (i9 + 1) 0) l8 → ¬ ((cXf τ fS) (wl.getD i9 0)).se ∈ ((lXf τ fV) l8).en := fun l8 h9 => (Nat.lt_succ_iff_lt_or_eq.mp h9).elim (hJk l8) (fun e8 => by subst e8; exact fun q => absurd q hcn)
                refine lv_iinc (v := nI (z69 + 1)) (lv' := [(5, .int (nI (z69 + 1))), (6, .ref ((fV z69).getD 0)), (4, .int (zP (∃ l8, l8 < (z69 + 1) ∧ couQ (cXf τ fS) (lXf τ fV) (fun l9 b9 => sgT (τ ((fV l9).getD 0)) (τ ((fS b9).getD 0))) mnw (wl.getD i9 0) (wl.getD (i9 + 1) 0) l8))), (3, .ref ((fS (wl.getD (i9 + 1) 0)).getD 0)), (2, .ref ((fS (wl.getD i9 0)).getD 0)), (0, .ref mo), (1, .int (nI i9))]) hx hb d_Model_faultOf_237 hl (k := 1) rfl (nI_1 _) (by decide) rfl (fun ls hl => ?_)
                refine lv_goto (tgt := 69) hx hb d_Model_faultOf_240 (by decide) ?_
                exact ih69 (z69 + 1, f69_mmA, f69_mrA, v69_mqs, G69) _ _ ls (by dsimp only; omega) ⟨by dsimp only; omega, by dsimp only; omega, hTy, hFR, (by have h9 := kmo; rw [eX_10] at h9; exact h9), kmmA, kmrA, kmwy, kmsT, kmrV, kmfd, ⟨hfm, hfr, hJn⟩⟩ hP hD hS (lv_sub hl [0, 2, 3, 4, 5, 6] rfl)
              · have p143 : ¬ ((lg_cmp mnw ((τ ((fV z69).getD 0)).J 7)) < (0 : Int32)) := c143
                refine lv_aload_n hx hb d_Model_faultOf_146 rfl (lv_at hl 5 rfl) ?_
                refine va_get (v := .long mnw) hx hb htb i_Model hown hK hP i_11 hg_11 rfl 30 (by decide) (htb _ q8_4) (fun _ h9 => h9) rfl d_Model_faultOf_147 ?_
                refine lv_aload hx hb d_Model_faultOf_150 (lv_at hl 0 rfl) ?_
                refine va_get (v := .long ((τ ((fV z69).getD 0)).J 8)) hx hb htb i_Text hown hK hP i_54 hg_54 rfl 8 (by decide) (htb _ q6_190) (fun _ h9 => h9) rfl d_Model_faultOf_152 ?_
                refine W.lcmp hx hb d_Model_faultOf_155 ?_
                refine lv_if_gt (tgt := 237) hx hb d_Model_faultOf_156 (by decide) (fun c156 => ?_) (fun c156 => ?_)
                · have p156 : (0 : Int32) < (lg_cmp mnw ((τ ((fV z69).getD 0)).J 8)) := c156
                  have hcn : ¬ couQ (cXf τ fS) (lXf τ fV) (fun l9 b9 => sgT (τ ((fV l9).getD 0)) (τ ((fS b9).getD 0))) mnw (wl.getD i9 0) (wl.getD (i9 + 1) 0) z69 := fun h9 => h9.2.1 (cmp_gt.mp p156)
                  have e4 : (zP (∃ l8, l8 < z69 ∧ couQ (cXf τ fS) (lXf τ fV) (fun l9 b9 => sgT (τ ((fV l9).getD 0)) (τ ((fS b9).getD 0))) mnw (wl.getD i9 0) (wl.getD (i9 + 1) 0) l8) : Int32) = zP (∃ l8, l8 < (z69 + 1) ∧ couQ (cXf τ fS) (lXf τ fV) (fun l9 b9 => sgT (τ ((fV l9).getD 0)) (τ ((fS b9).getD 0))) mnw (wl.getD i9 0) (wl.getD (i9 + 1) 0) l8) := zP_g (ex_s0 hcn)
                  have hl : lv_has ls 9 [(6, .ref ((fV z69).getD 0)), (5, .int (nI z69)), (4, .int (zP (∃ l8, l8 < (z69 + 1) ∧ couQ (cXf τ fS) (lXf τ fV) (fun l9 b9 => sgT (τ ((fV l9).getD 0)) (τ ((fS b9).getD 0))) mnw (wl.getD i9 0) (wl.getD (i9 + 1) 0) l8))), (3, .ref ((fS (wl.getD (i9 + 1) 0)).getD 0)), (2, .ref ((fS (wl.getD i9 0)).getD 0)), (0, .ref mo), (1, .int (nI i9))] := by rw [← e4]; exact hl
                  have hJn : ∀ l8, l8 < z69 + 1 → couQ (cXf τ fS) (lXf τ fV) (fun l9 b9 => sgT (τ ((fV l9).getD 0)) (τ ((fS b9).getD 0))) mnw (wl.getD i9 0) (wl.getD (i9 + 1) 0) l8 → ¬ ((cXf τ fS) (wl.getD i9 0)).se ∈ ((lXf τ fV) l8).en := fun l8 h9 => (Nat.lt_succ_iff_lt_or_eq.mp h9).elim (hJk l8) (fun e8 => by subst e8; exact fun q => absurd q hcn)
                  refine lv_iinc (v := nI (z69 + 1)) (lv' := [(5, .int (nI (z69 + 1))), (6, .ref ((fV z69).getD 0)), (4, .int (zP (∃ l8, l8 < (z69 + 1) ∧ couQ (cXf τ fS) (lXf τ fV) (fun l9 b9 => sgT (τ ((fV l9).getD 0)) (τ ((fS b9).getD 0))) mnw (wl.getD i9 0) (wl.getD (i9 + 1) 0) l8))), (3, .ref ((fS (wl.getD (i9 + 1) 0)).getD 0)), (2, .ref ((fS (wl.getD i9 0)).getD 0)), (0, .ref mo), (1, .int (nI i9))]) hx hb d_Model_faultOf_237 hl (k := 1) rfl (nI_1 _) (by decide) rfl (fun ls hl => ?_)
                  refine lv_goto (tgt := 69) hx hb d_Model_faultOf_240 (by decide) ?_
                  exact ih69 (z69 + 1, f69_mmA, f69_mrA, v69_mqs, G69) _ _ ls (by dsimp only; omega) ⟨by dsimp only; omega, by dsimp only; omega, hTy, hFR, (by have h9 := kmo; rw [eX_10] at h9; exact h9), kmmA, kmrA, kmwy, kmsT, kmrV, kmfd, ⟨hfm, hfr, hJn⟩⟩ hP hD hS (lv_sub hl [0, 2, 3, 4, 5, 6] rfl)
                · have p156 : ¬ ((0 : Int32) < (lg_cmp mnw ((τ ((fV z69).getD 0)).J 8))) := c156
                  refine lv_aload hx hb d_Model_faultOf_159 (lv_at hl 0 rfl) ?_
                  refine va_get (v := .int ((τ ((fV z69).getD 0)).I 30)) hx hb htb i_Text hown hK hP i_54 hg_54 rfl 30 (by decide) (htb _ q6_233) (fun _ h9 => h9) rfl d_Model_faultOf_161 ?_
                  refine lv_if_gt (tgt := 237) hx hb d_Model_faultOf_164 (by decide) (fun c164 => ?_) (fun c164 => ?_)
                  · have p164 : (0 : Int32) < ((τ ((fV z69).getD 0)).I 30) := c164
                    have hcn : ¬ couQ (cXf τ fS) (lXf τ fV) (fun l9 b9 => sgT (τ ((fV l9).getD 0)) (τ ((fS b9).getD 0))) mnw (wl.getD i9 0) (wl.getD (i9 + 1) 0) z69 := fun h9 => (ma_0 (hma z69 (by omega))).mp h9.2.2.1 p164
                    have e4 : (zP (∃ l8, l8 < z69 ∧ couQ (cXf τ fS) (lXf τ fV) (fun l9 b9 => sgT (τ ((fV l9).getD 0)) (τ ((fS b9).getD 0))) mnw (wl.getD i9 0) (wl.getD (i9 + 1) 0) l8) : Int32) = zP (∃ l8, l8 < (z69 + 1) ∧ couQ (cXf τ fS) (lXf τ fV) (fun l9 b9 => sgT (τ ((fV l9).getD 0)) (τ ((fS b9).getD 0))) mnw (wl.getD i9 0) (wl.getD (i9 + 1) 0) l8) := zP_g (ex_s0 hcn)
                    have hl : lv_has ls 9 [(6, .ref ((fV z69).getD 0)), (5, .int (nI z69)), (4, .int (zP (∃ l8, l8 < (z69 + 1) ∧ couQ (cXf τ fS) (lXf τ fV) (fun l9 b9 => sgT (τ ((fV l9).getD 0)) (τ ((fS b9).getD 0))) mnw (wl.getD i9 0) (wl.getD (i9 + 1) 0) l8))), (3, .ref ((fS (wl.getD (i9 + 1) 0)).getD 0)), (2, .ref ((fS (wl.getD i9 0)).getD 0)), (0, .ref mo), (1, .int (nI i9))] := by rw [← e4]; exact hl
                    have hJn : ∀ l8, l8 < z69 + 1 → couQ (cXf τ fS) (lXf τ fV) (fun l9 b9 => sgT (τ ((fV l9).getD 0)) (τ ((fS b9).getD 0))) mnw (wl.getD i9 0) (wl.getD (i9 + 1) 0) l8 → ¬ ((cXf τ fS) (wl.getD i9 0)).se ∈ ((lXf τ fV) l8).en := fun l8 h9 => (Nat.lt_succ_iff_lt_or_eq.mp h9).elim (hJk l8) (fun e8 => by subst e8; exact fun q => absurd q hcn)
                    refine lv_iinc (v := nI (z69 + 1)) (lv' := [(5, .int (nI (z69 + 1))), (6, .ref ((fV z69).getD 0)), (4, .int (zP (∃ l8, l8 < (z69 + 1) ∧ couQ (cXf τ fS) (lXf τ fV) (fun l9 b9 => sgT (τ ((fV l9).getD 0)) (τ ((fS b9).getD 0))) mnw (wl.getD i9 0) (wl.getD (i9 + 1) 0) l8))), (3, .ref ((fS (wl.getD (i9 + 1) 0)).getD 0)), (2, .ref ((fS (wl.getD i9 0)).getD 0)), (0, .ref mo), (1, .int (nI i9))]) hx hb d_Model_faultOf_237 hl (k := 1) rfl (nI_1 _) (by decide) rfl (fun ls hl => ?_)
                    refine lv_goto (tgt := 69) hx hb d_Model_faultOf_240 (by decide) ?_
                    exact ih69 (z69 + 1, f69_mmA, f69_mrA, v69_mqs, G69) _ _ ls (by dsimp only; omega) ⟨by dsimp only; omega, by dsimp only; omega, hTy, hFR, (by have h9 := kmo; rw [eX_10] at h9; exact h9), kmmA, kmrA, kmwy, kmsT, kmrV, kmfd, ⟨hfm, hfr, hJn⟩⟩ hP hD hS (lv_sub hl [0, 2, 3, 4, 5, 6] rfl)
                  · have p164 : ¬ ((0 : Int32) < ((τ ((fV z69).getD 0)).I 30)) := c164
                    refine lv_aload_n hx hb d_Model_faultOf_167 rfl (lv_at hl 5 rfl) ?_
                    refine lv_aload hx hb d_Model_faultOf_168 (lv_at hl 0 rfl) ?_
                    refine lv_aload_n hx hb d_Model_faultOf_170 rfl (lv_at hl 3 rfl) ?_
                    have hFc := va_free (wc := G69) hD hS hA (List.range G69.length) (rg_is _)
                    refine va_calli (mu_runV (As := [.ref ((fV z69).getD 0), .ref ((fS (wl.getD (i9 + 1) 0)).getD 0)]) (rest := []) ⟨hx, hb, hml, hown, hts⟩ tbin (m9_Model_isSigned l dC dI sb γ κ Ad τ gT G69 mo ((fV z69).getD 0) ((fS (wl.getD (i9 + 1) 0)).getD 0) _ _ _ _ _ _ _ _ _ _ _ _ _ _ _ _ _ _ _ _ _ _ _ _ _ _ _ _ _ _ _ _ _ _ HL69.size hTy (by have h9 := kmo; rw [eX_10] at h9; exact h9) kt_53 kt_5 kmmA kmrA kmzA kmqA kmyA kmxA kmbA kmwA kmhA kmpA kmfA hx_mo_mmA hx_mo_mrA hx_mmA_mrA hc_53.toTB hc_5 hfm hfr) q9_96 q9_98 qp_42 q1_9 q9_99 (n := 2) (by decide +kernel) rfl ⟨rfl, rfl⟩ ⟨Nat.le_of_ble_eq_true rfl, Nat.le_of_ble_eq_true rfl⟩ ⟨Nat.le_of_ble_eq_true rfl, Nat.le_of_ble_eq_true rfl⟩ hN (hT0.keep hS hAs) hAs (Nat.le_trans hB0 hS.1) hK hP hD (List.range G69.length) (rg_nd _) (rg_is _) [0, 1, 2, 3, 4] rfl i_11 12 hg_11 rfl rfl hl.1 rfl (Nat.le_of_ble_eq_true rfl) d_Model_faultOf_171) hS (fun q _ h => hFc q h) hFc (fun r171 G_57 tS H171 locs ht hvm hw171 hB hz1 hk1 hS => ?_)
                    obtain ⟨hTy, hF9, hr171⟩ := hw171
                    have kmwy := kmwy.fl hF9 (q_nmc (hx_mo_mwy.symm) (q_nmc (hx_mmA_mwy.symm) (q_nmc (hx_mrA_mwy.symm) (q_nmn))))
                    have kmsT := kmsT.fl hF9 (q_nmc (hx_mo_msT.symm) (q_nmc (hx_mmA_msT.symm) (q_nmc (hx_mrA_msT.symm) (q_nmn))))
                    have kmrV := kmrV.fl hF9 (q_nmc (hx_mo_mrV.symm) (q_nmc (hx_mmA_mrV.symm) (q_nmc (hx_mrA_mrV.symm) (q_nmn))))
                    have kmfd := kmfd.fl hF9 (q_nmc (hx_mo_mfd.symm) (q_nmc (hx_mmA_mfd.symm) (q_nmc (hx_mrA_mfd.symm) (q_nmn))))
                    have hFR := hFR.tr (hF9.up (q_gac (by simp) (q_gac (by simp) (q_gac (by simp) (q_gan)))))
                    obtain ⟨hP1, hK1, hD1⟩ := hB
                    rw [ht] at hP1
                    have hP : va_P (dC, dI) classes G_57 H171 := hP1
                    have hD : va_D A G_57 := hD1.weaken (fun _ _ _ h => hFc _ h)
                    obtain ⟨hz171, ⟨q171, kmo⟩, ⟨fa171, hfm, kmmA⟩, ⟨fb171, hfr, kmrA⟩⟩ := hr171
                    obtain ⟨cX_58, eX_58⟩ : ∃ z : va_E, z = .inr (12, (.int mer :: .int mfed :: .int mwr :: .int (nI K9) :: .int (nI KL) :: .ref moc :: .ref msT :: .ref mrV :: .ref msP :: .int q171 :: .ref mrA :: .ref mbA :: .ref mwA :: .ref mhA :: .ref mfA :: .ref mpA :: .ref mxA :: .ref myA :: .ref mmA :: .ref mqA :: .ref mzA :: .ref mwy :: .ref mfd :: .int (nI s9) :: .int (nI c9) :: .int mch :: .int mft :: .int mpt :: .int mdp :: .int mvd :: .long mnw :: .int mmk :: [])) := ⟨_, rfl⟩
                    rw [← eX_58] at kmo
                    obtain rfl := Eq.symm (bz_zP hz171)
                    refine lv_if_ne (tgt := 180) hx hb d_Model_faultOf_174 (by decide) (fun c174 => ?_) (fun c174 => ?_)
                    · have p174 : sgT (τ ((fV z69).getD 0)) (τ ((fS (wl.getD (i9 + 1) 0)).getD 0)) := (zP_1 c174)
                      refine lv_iconst (v := 1) hx hb d_Model_faultOf_180 (by decide) ?_
                      refine lv_istore (lv' := [(4, .int 1), (6, .ref ((fV z69).getD 0)), (5, .int (nI z69)), (3, .ref ((fS (wl.getD (i9 + 1) 0)).getD 0)), (2, .ref ((fS (wl.getD i9 0)).getD 0)), (0, .ref mo), (1, .int (nI i9))]) hx hb d_Model_faultOf_181 hl (by decide) rfl (fun ls hl => ?_)
                      refine lv_iconst (v := 0) hx hb d_Model_faultOf_183 (by decide) ?_
                      refine lv_istore (lv' := [(7, .int 0), (4, .int 1), (6, .ref ((fV z69).getD 0)), (5, .int (nI z69)), (3, .ref ((fS (wl.getD (i9 + 1) 0)).getD 0)), (2, .ref ((fS (wl.getD i9 0)).getD 0)), (0, .ref mo), (1, .int (nI i9))]) hx hb d_Model_faultOf_184 hl (by decide) rfl (fun ls hl => ?_)
                      refine w_loop (α := Nat) (fun a9 => 0 ≤ a9 ∧ a9 ≤ ((τ ((fV z69).getD 0)).ne) ∧ (∀ e8, e8 < a9 → ¬ rgM (τ ((fV z69).getD 0)).u ((τ ((fV z69).getD 0)).ea e8) ((τ ((fV z69).getD 0)).eb e8 - (τ ((fV z69).getD 0)).ea e8) = ((cXf τ fS) (wl.getD i9 0)).se)) (fun a9 => ((τ ((fV z69).getD 0)).ne) - a9) (fun a9 => [(7, .int (nI a9)), (4, .int 1), (6, .ref ((fV z69).getD 0)), (5, .int (nI z69)), (3, .ref ((fS (wl.getD (i9 + 1) 0)).getD 0)), (2, .ref ((fS (wl.getD i9 0)).getD 0)), (0, .ref mo), (1, .int (nI i9))]) (fun _ => []) 9 186 (fun z186 ls hJ hl ih186 => ?_) (0) ls ⟨by omega, by omega, fun e8 h9 => absurd h9 (Nat.not_lt_zero e8)⟩ (lv_sub hl [0, 1, 2, 3, 4, 5, 6, 7] rfl)
                      skip
                      obtain ⟨hy186, hz186, hJ186⟩ := hJ
                      refine lv_iload hx hb d_Model_faultOf_186 (lv_at hl 0 rfl) ?_
                      refine lv_aload hx hb d_Model_faultOf_188 (lv_at hl 2 rfl) ?_
                      obtain ⟨i_59, kA_59, hg_59⟩ := tr_20 hTy kt_53
                      refine va_get (v := .int ((τ ((fV z69).getD 0)).I 36)) hx hb htb i_Text hown hK hP i_59 hg_59 rfl 36 (by decide) (htb _ q7_4) (fun _ h9 => h9) rfl d_Model_faultOf_190 ?_
                      rw [hc_53.e36]
                      refine lv_icmp_ge (tgt := 237) hx hb d_Model_faultOf_193 (by decide) (fun c193 => ?_) (fun c193 => ?_)
                      · have p193 : ((τ ((fV z69).getD 0)).ne) ≤ z186 := ((nI_leI (a := ((τ ((fV z69).getD 0)).ne)) (b := z186) (by omega) (by omega)).mp c193)
                        have hcn : couQ (cXf τ fS) (lXf τ fV) (fun l9 b9 => sgT (τ ((fV l9).getD 0)) (τ ((fS b9).getD 0))) mnw (wl.getD i9 0) (wl.getD (i9 + 1) 0) z69 := ⟨fun q => p143 (cmp_lt.mpr q), fun q => p156 (cmp_gt.mpr q), (ma_0 (hma z69 (by omega))).mpr p164, use_6.mpr (Or.inl p118), p111, p174⟩
                        have hne9 : ¬ ((cXf τ fS) (wl.getD i9 0)).se ∈ ((lXf τ fV) z69).en := fun h9 => by
                          obtain ⟨e8, h8, q8⟩ := List.mem_map.mp h9
                          exact hJ186 e8 (by have := List.mem_range.mp h8; omega) q8
                        have e4 : (1 : Int32) = zP (∃ l8, l8 < (z69 + 1) ∧ couQ (cXf τ fS) (lXf τ fV) (fun l9 b9 => sgT (τ ((fV l9).getD 0)) (τ ((fS b9).getD 0))) mnw (wl.getD i9 0) (wl.getD (i9 + 1) 0) l8) := zP_t ⟨z69, Nat.lt_succ_self _, hcn⟩
                        have hl : lv_has ls 9 [(7, .int (nI z186)), (4, .int (zP (∃ l8, l8 < (z69 + 1) ∧ couQ (cXf τ fS) (lXf τ fV) (fun l9 b9 => sgT (τ ((fV l9).getD 0)) (τ ((fS b9).getD 0))) mnw (wl.getD i9 0) (wl.getD (i9 + 1) 0) l8))), (6, .ref ((fV z69).getD 0)), (5, .int (nI z69)), (3, .ref ((fS (wl.getD (i9 + 1) 0)).getD 0)), (2, .ref ((fS (wl.getD i9 0)).getD 0)), (0, .ref mo), (1, .int (nI i9))] := by rw [← e4]; exact hl
                        have hJn : ∀ l8, l8 < z69 + 1 → couQ (cXf τ fS) (lXf τ fV) (fun l9 b9 => sgT (τ ((fV l9).getD 0)) (τ ((fS b9).getD 0))) mnw (wl.getD i9 0) (wl.getD (i9 + 1) 0) l8 → ¬ ((cXf τ fS) (wl.getD i9 0)).se ∈ ((lXf τ fV) l8).en := fun l8 h9 => (Nat.lt_succ_iff_lt_or_eq.mp h9).elim (hJk l8) (fun e8 => by subst e8; exact fun _ => hne9)
                        refine lv_iinc (v := nI (z69 + 1)) (lv' := [(5, .int (nI (z69 + 1))), (7, .int (nI z186)), (4, .int (zP (∃ l8, l8 < (z69 + 1) ∧ couQ (cXf τ fS) (lXf τ fV) (fun l9 b9 => sgT (τ ((fV l9).getD 0)) (τ ((fS b9).getD 0))) mnw (wl.getD i9 0) (wl.getD (i9 + 1) 0) l8))), (6, .ref ((fV z69).getD 0)), (3, .ref ((fS (wl.getD (i9 + 1) 0)).getD 0)), (2, .ref ((fS (wl.getD i9 0)).getD 0)), (0, .ref mo), (1, .int (nI i9))]) hx hb d_Model_faultOf_237 hl (k := 3) rfl (nI_1 _) (by decide) rfl (fun ls hl => ?_)
                        refine lv_goto (tgt := 69) hx hb d_Model_faultOf_240 (by decide) ?_
                        exact ih69 (z69 + 1, fa171, fb171, q171, G_57) _ _ ls (by dsimp only; omega) ⟨by dsimp only; omega, by dsimp only; omega, hTy, hFR, (by have h9 := kmo; rw [eX_58] at h9; exact h9), kmmA, kmrA, kmwy, kmsT, kmrV, kmfd, ⟨hfm, hfr, hJn⟩⟩ hP hD hS (lv_sub hl [0, 2, 4, 5, 6, 7] rfl)
                      · have p193 : ¬ (((τ ((fV z69).getD 0)).ne) ≤ z186) := (fun q9 => c193 ((nI_leI (a := ((τ ((fV z69).getD 0)).ne)) (b := z186) (by omega) (by omega)).mpr q9))
                        refine lv_aload hx hb d_Model_faultOf_196 (lv_at hl 2 rfl) ?_
                        refine lv_aload hx hb d_Model_faultOf_198 (lv_at hl 2 rfl) ?_
                        refine va_get (v := .ref ((τ ((fV z69).getD 0)).A 8)) hx hb htb i_Text hown hK hP i_59 hg_59 rfl 50 (by decide) (htb _ q7_28) (fun _ h9 => h9) rfl d_Model_faultOf_200 ?_
                        refine lv_iload hx hb d_Model_faultOf_203 (lv_at hl 0 rfl) ?_
                        obtain ⟨i_60, hg_60⟩ := tr_18 hTy (kA_59 8 (by decide))
                        have hg_60 : G_57[i_60]? = some (((τ ((fV z69).getD 0)).A 8), .inl (γ.2.1, 200, .inl ((τ ((fV z69).getD 0)).D 8))) := hg_60
                        have h205 : vp_in (nI z186) 200 := vp_in_nI (by omega) (by omega)
                        refine va_iald hx hb hK hP i_60 1 hg_60 rfl h205 d_Model_faultOf_205 ?_
                        refine lv_topi (fun e205 he205 => ?_)
                        obtain ⟨q1_205, q2_205, q3_205, q4_205⟩ := hc_53.l1 z186 (by omega)
                        rw [nI_clamp (by omega), q1_205] at he205
                        subst he205
                        refine lv_aload hx hb d_Model_faultOf_206 (lv_at hl 2 rfl) ?_
                        refine va_get (v := .ref ((τ ((fV z69).getD 0)).A 9)) hx hb htb i_Text hown hK hP i_59 hg_59 rfl 51 (by decide) (htb _ q7_30) (fun _ h9 => h9) rfl d_Model_faultOf_208 ?_
                        refine lv_iload hx hb d_Model_faultOf_211 (lv_at hl 0 rfl) ?_
                        obtain ⟨i_61, hg_61⟩ := tr_18 hTy (kA_59 9 (by decide))
                        have hg_61 : G_57[i_61]? = some (((τ ((fV z69).getD 0)).A 9), .inl (γ.2.1, 200, .inl ((τ ((fV z69).getD 0)).D 9))) := hg_61
                        have h213 : vp_in (nI z186) 200 := vp_in_nI (by omega) (by omega)
                        refine va_iald hx hb hK hP i_61 1 hg_61 rfl h213 d_Model_faultOf_213 ?_
                        refine lv_topi (fun e213 he213 => ?_)
                        obtain ⟨q1_213, q2_213, q3_213, q4_213⟩ := hc_53.l1 z186 (by omega)
                        rw [nI_clamp (by omega), q2_213] at he213
                        subst he213
                        refine lv_aload_n hx hb d_Model_faultOf_214 rfl (lv_at hl 5 rfl) ?_
                        refine lv_aload_n hx hb d_Model_faultOf_215 rfl (lv_at hl 5 rfl) ?_
                        obtain ⟨i_62, kA_62, hg_62⟩ := tr_20 hTy kt_4
                        refine va_get (v := .int ((τ ((fS (wl.getD i9 0)).getD 0)).I 10)) hx hb htb i_Text hown hK hP i_62 hg_62 rfl 10 (by decide) (htb _ q6_193) (fun _ h9 => h9) rfl d_Model_faultOf_216 ?_
                        rw [hc_4.e10]
                        refine lv_aload_n hx hb d_Model_faultOf_219 rfl (lv_at hl 5 rfl) ?_
                        refine va_get (v := .int ((τ ((fS (wl.getD i9 0)).getD 0)).I 11)) hx hb htb i_Text hown hK hP i_62 hg_62 rfl 11 (by decide) (htb _ q6_195) (fun _ h9 => h9) rfl d_Model_faultOf_220 ?_
                        rw [hc_4.e11]
                        refine vp_callSi (pu_callV (As := [.int (nI ((τ ((fV z69).getD 0)).ea z186)), .int (nI ((τ ((fV z69).getD 0)).eb z186)), .ref ((fS (wl.getD i9 0)).getD 0), .int (nI ((τ ((fS (wl.getD i9 0)).getD 0)).sr)), .int (nI ((τ ((fS (wl.getD i9 0)).getD 0)).re))]) (rest := []) ⟨hx, hb, hml, hown, hts⟩ tbin (p_Text_same l dC dI sb γ κ Ad τ gT G_57 ((fV z69).getD 0) ((fS (wl.getD i9 0)).getD 0) ((τ ((fV z69).getD 0)).ea z186) ((τ ((fV z69).getD 0)).eb z186) ((τ ((fS (wl.getD i9 0)).getD 0)).sr) ((τ ((fS (wl.getD i9 0)).getD 0)).re) hTy kt_53 kt_4 hc_53.toTB hc_4.toTB (by omega) (by omega) (by omega) (by omega)) q9_145 q9_32 q9_33 q1_10 q9_34 (n := 5) (by decide +kernel) rfl ⟨rfl, rfl⟩ ⟨Nat.le_of_ble_eq_true rfl, Nat.le_of_ble_eq_true rfl⟩ ⟨Nat.le_of_ble_eq_true rfl, Nat.le_of_ble_eq_true rfl⟩ hN (hT0.keep hS hAs) hK hP (List.range G_57.length) (rg_all G_57) [0, 1, 2, 3, 4] rfl i_59 13 hg_59 rfl rfl hl.1 rfl (Nat.le_of_ble_eq_true rfl) d_Model_faultOf_223) (fun r223 hr223 => ?_)
                        obtain rfl : r223 = zP (rgM (τ ((fV z69).getD 0)).u ((τ ((fV z69).getD 0)).ea z186) (((τ ((fV z69).getD 0)).eb z186) - ((τ ((fV z69).getD 0)).ea z186)) = rgM (τ ((fS (wl.getD i9 0)).getD 0)).u ((τ ((fS (wl.getD i9 0)).getD 0)).sr) (((τ ((fS (wl.getD i9 0)).getD 0)).re) - ((τ ((fS (wl.getD i9 0)).getD 0)).sr))) := hr223
                        refine lv_if_eq (tgt := 231) hx hb d_Model_faultOf_226 (by decide) (fun c226 => ?_) (fun c226 => ?_)
                        · have p226 : ¬ (rgM (τ ((fV z69).getD 0)).u ((τ ((fV z69).getD 0)).ea z186) (((τ ((fV z69).getD 0)).eb z186) - ((τ ((fV z69).getD 0)).ea z186)) = rgM (τ ((fS (wl.getD i9 0)).getD 0)).u ((τ ((fS (wl.getD i9 0)).getD 0)).sr) (((τ ((fS (wl.getD i9 0)).getD 0)).re) - ((τ ((fS (wl.getD i9 0)).getD 0)).sr))) := (zP_0.mp c226)
                          refine lv_iinc (v := nI (z186 + 1)) (lv' := [(7, .int (nI (z186 + 1))), (4, .int 1), (6, .ref ((fV z69).getD 0)), (5, .int (nI z69)), (3, .ref ((fS (wl.getD (i9 + 1) 0)).getD 0)), (2, .ref ((fS (wl.getD i9 0)).getD 0)), (0, .ref mo), (1, .int (nI i9))]) hx hb d_Model_faultOf_231 hl (k := 0) rfl (nI_1 _) (by decide) rfl (fun ls hl => ?_)
                          refine lv_goto (tgt := 186) hx hb d_Model_faultOf_234 (by decide) ?_
                          exact ih186 ((z186 + 1)) ls (by omega) ⟨by omega, by omega, fun e8 h9 => (Nat.lt_succ_iff_lt_or_eq.mp h9).elim (hJ186 e8) (fun e9 => by subst e9; exact p226)⟩ (lv_sub hl [0, 1, 2, 3, 4, 5, 6, 7] rfl)
                        · have p226 : rgM (τ ((fV z69).getD 0)).u ((τ ((fV z69).getD 0)).ea z186) (((τ ((fV z69).getD 0)).eb z186) - ((τ ((fV z69).getD 0)).ea z186)) = rgM (τ ((fS (wl.getD i9 0)).getD 0)).u ((τ ((fS (wl.getD i9 0)).getD 0)).sr) (((τ ((fS (wl.getD i9 0)).getD 0)).re) - ((τ ((fS (wl.getD i9 0)).getD 0)).sr)) := (zP_1 c226)
                          have hcn9 : couQ (cXf τ fS) (lXf τ fV) (fun l9 b9 => sgT (τ ((fV l9).getD 0)) (τ ((fS b9).getD 0))) mnw (wl.getD i9 0) (wl.getD (i9 + 1) 0) z69 := ⟨fun q => p143 (cmp_lt.mpr q), fun q => p156 (cmp_gt.mpr q), (ma_0 (hma z69 (by omega))).mpr p164, use_6.mpr (Or.inl p118), p111, p174⟩
                          refine lv_iconst (v := 3) hx hb d_Model_faultOf_229 (by decide) ?_
                          exact W.iret (v := 3) hx hb hr (fun t ht hW => ⟨⟨_, G_57, rfl, ⟨hTy, hFR, Eq.symm (if_nt (fun q9 => q9 p32) (if_nt (fun q9 => q9.elim (fun z => p46 (cmp_lt.mpr z)) (fun z => q_ng p58 (cmp_gt.mpr z))) (if_pos ⟨z69, by omega, hcn9, List.mem_map.mpr ⟨z186, List.mem_range.mpr (by omega), p226⟩⟩))), ⟨_, by rw [eX_58] at kmo; exact kmo⟩, ⟨_, hfm, kmmA⟩, ⟨_, hfr, kmrA⟩⟩, by rw [ht]; exact hP, va_K.moved hW.alike hK, hD⟩, hS.F ht⟩) hS.2.2 d_Model_faultOf_230
                    · have p174 : ¬ (sgT (τ ((fV z69).getD 0)) (τ ((fS (wl.getD (i9 + 1) 0)).getD 0))) := (zP_0.mp c174)
                      refine lv_goto (tgt := 237) hx hb d_Model_faultOf_177 (by decide) ?_
                      have hcn : ¬ couQ (cXf τ fS) (lXf τ fV) (fun l9 b9 => sgT (τ ((fV l9).getD 0)) (τ ((fS b9).getD 0))) mnw (wl.getD i9 0) (wl.getD (i9 + 1) 0) z69 := fun h9 => p174 h9.2.2.2.2.2
                      have e4 : (zP (∃ l8, l8 < z69 ∧ couQ (cXf τ fS) (lXf τ fV) (fun l9 b9 => sgT (τ ((fV l9).getD 0)) (τ ((fS b9).getD 0))) mnw (wl.getD i9 0) (wl.getD (i9 + 1) 0) l8) : Int32) = zP (∃ l8, l8 < (z69 + 1) ∧ couQ (cXf τ fS) (lXf τ fV) (fun l9 b9 => sgT (τ ((fV l9).getD 0)) (τ ((fS b9).getD 0))) mnw (wl.getD i9 0) (wl.getD (i9 + 1) 0) l8) := zP_g (ex_s0 hcn)
                      have hl : lv_has ls 9 [(6, .ref ((fV z69).getD 0)), (5, .int (nI z69)), (4, .int (zP (∃ l8, l8 < (z69 + 1) ∧ couQ (cXf τ fS) (lXf τ fV) (fun l9 b9 => sgT (τ ((fV l9).getD 0)) (τ ((fS b9).getD 0))) mnw (wl.getD i9 0) (wl.getD (i9 + 1) 0) l8))), (3, .ref ((fS (wl.getD (i9 + 1) 0)).getD 0)), (2, .ref ((fS (wl.getD i9 0)).getD 0)), (0, .ref mo), (1, .int (nI i9))] := by rw [← e4]; exact hl
                      have hJn : ∀ l8, l8 < z69 + 1 → couQ (cXf τ fS) (lXf τ fV) (fun l9 b9 => sgT (τ ((fV l9).getD 0)) (τ ((fS b9).getD 0))) mnw (wl.getD i9 0) (wl.getD (i9 + 1) 0) l8 → ¬ ((cXf τ fS) (wl.getD i9 0)).se ∈ ((lXf τ fV) l8).en := fun l8 h9 => (Nat.lt_succ_iff_lt_or_eq.mp h9).elim (hJk l8) (fun e8 => by subst e8; exact fun q => absurd q hcn)
                      refine lv_iinc (v := nI (z69 + 1)) (lv' := [(5, .int (nI (z69 + 1))), (6, .ref ((fV z69).getD 0)), (4, .int (zP (∃ l8, l8 < (z69 + 1) ∧ couQ (cXf τ fS) (lXf τ fV) (fun l9 b9 => sgT (τ ((fV l9).getD 0)) (τ ((fS b9).getD 0))) mnw (wl.getD i9 0) (wl.getD (i9 + 1) 0) l8))), (3, .ref ((fS (wl.getD (i9 + 1) 0)).getD 0)), (2, .ref ((fS (wl.getD i9 0)).getD 0)), (0, .ref mo), (1, .int (nI i9))]) hx hb d_Model_faultOf_237 hl (k := 1) rfl (nI_1 _) (by decide) rfl (fun ls hl => ?_)
                      refine lv_goto (tgt := 69) hx hb d_Model_faultOf_240 (by decide) ?_
                      exact ih69 (z69 + 1, fa171, fb171, q171, G_57) _ _ ls (by dsimp only; omega) ⟨by dsimp only; omega, by dsimp only; omega, hTy, hFR, (by have h9 := kmo; rw [eX_58] at h9; exact h9), kmmA, kmrA, kmwy, kmsT, kmrV, kmfd, ⟨hfm, hfr, hJn⟩⟩ hP hD hS (lv_sub hl [0, 2, 3, 4, 5, 6] rfl)
            · have p118 : ¬ (((τ ((fS (wl.getD (i9 + 1) 0)).getD 0)).I 26) < (0 : Int32)) := c118
              refine lv_aload_n hx hb d_Model_faultOf_121 rfl (lv_at hl 3 rfl) ?_
              refine va_get (v := .int ((τ ((fS (wl.getD (i9 + 1) 0)).getD 0)).I 26)) hx hb htb i_Text hown hK hP i_56 hg_56 rfl 26 (by decide) (htb _ q6_224) (fun _ h9 => h9) rfl d_Model_faultOf_122 ?_
              refine lv_bipush (v := 6) hx hb d_Model_faultOf_125 (by decide) ?_
              refine lv_ishr hx hb d_Model_faultOf_127 ?_
              refine lv_iconst (v := 1) hx hb d_Model_faultOf_128 (by decide) ?_
              refine lv_iand hx hb d_Model_faultOf_129 ?_
              refine lv_if_eq (tgt := 237) hx hb d_Model_faultOf_130 (by decide) (fun c130 => ?_) (fun c130 => ?_)
              · have p130 : ((((τ ((fS (wl.getD (i9 + 1) 0)).getD 0)).I 26) >>> (6 &&& 31)) &&& 1) = (0 : Int32) := c130
                have hcn : ¬ couQ (cXf τ fS) (lXf τ fV) (fun l9 b9 => sgT (τ ((fV l9).getD 0)) (τ ((fS b9).getD 0))) mnw (wl.getD i9 0) (wl.getD (i9 + 1) 0) z69 := fun h9 => (use_6.mp h9.2.2.2.1).elim p118 (fun q => q p130)
                have e4 : (zP (∃ l8, l8 < z69 ∧ couQ (cXf τ fS) (lXf τ fV) (fun l9 b9 => sgT (τ ((fV l9).getD 0)) (τ ((fS b9).getD 0))) mnw (wl.getD i9 0) (wl.getD (i9 + 1) 0) l8) : Int32) = zP (∃ l8, l8 < (z69 + 1) ∧ couQ (cXf τ fS) (lXf τ fV) (fun l9 b9 => sgT (τ ((fV l9).getD 0)) (τ ((fS b9).getD 0))) mnw (wl.getD i9 0) (wl.getD (i9 + 1) 0) l8) := zP_g (ex_s0 hcn)
                have hl : lv_has ls 9 [(6, .ref ((fV z69).getD 0)), (5, .int (nI z69)), (4, .int (zP (∃ l8, l8 < (z69 + 1) ∧ couQ (cXf τ fS) (lXf τ fV) (fun l9 b9 => sgT (τ ((fV l9).getD 0)) (τ ((fS b9).getD 0))) mnw (wl.getD i9 0) (wl.getD (i9 + 1) 0) l8))), (3, .ref ((fS (wl.getD (i9 + 1) 0)).getD 0)), (2, .ref ((fS (wl.getD i9 0)).getD 0)), (0, .ref mo), (1, .int (nI i9))] := by rw [← e4]; exact hl
                have hJn : ∀ l8, l8 < z69 + 1 → couQ (cXf τ fS) (lXf τ fV) (fun l9 b9 => sgT (τ ((fV l9).getD 0)) (τ ((fS b9).getD 0))) mnw (wl.getD i9 0) (wl.getD (i9 + 1) 0) l8 → ¬ ((cXf τ fS) (wl.getD i9 0)).se ∈ ((lXf τ fV) l8).en := fun l8 h9 => (Nat.lt_succ_iff_lt_or_eq.mp h9).elim (hJk l8) (fun e8 => by subst e8; exact fun q => absurd q hcn)
                refine lv_iinc (v := nI (z69 + 1)) (lv' := [(5, .int (nI (z69 + 1))), (6, .ref ((fV z69).getD 0)), (4, .int (zP (∃ l8, l8 < (z69 + 1) ∧ couQ (cXf τ fS) (lXf τ fV) (fun l9 b9 => sgT (τ ((fV l9).getD 0)) (τ ((fS b9).getD 0))) mnw (wl.getD i9 0) (wl.getD (i9 + 1) 0) l8))), (3, .ref ((fS (wl.getD (i9 + 1) 0)).getD 0)), (2, .ref ((fS (wl.getD i9 0)).getD 0)), (0, .ref mo), (1, .int (nI i9))]) hx hb d_Model_faultOf_237 hl (k := 1) rfl (nI_1 _) (by decide) rfl (fun ls hl => ?_)
                refine lv_goto (tgt := 69) hx hb d_Model_faultOf_240 (by decide) ?_
                exact ih69 (z69 + 1, f69_mmA, f69_mrA, v69_mqs, G69) _ _ ls (by dsimp only; omega) ⟨by dsimp only; omega, by dsimp only; omega, hTy, hFR, (by have h9 := kmo; rw [eX_10] at h9; exact h9), kmmA, kmrA, kmwy, kmsT, kmrV, kmfd, ⟨hfm, hfr, hJn⟩⟩ hP hD hS (lv_sub hl [0, 2, 3, 4, 5, 6] rfl)
              · have p130 : ¬ (((((τ ((fS (wl.getD (i9 + 1) 0)).getD 0)).I 26) >>> (6 &&& 31)) &&& 1) = (0 : Int32)) := c130
                refine lv_aload_n hx hb d_Model_faultOf_133 rfl (lv_at hl 5 rfl) ?_
                refine va_get (v := .long mnw) hx hb htb i_Model hown hK hP i_11 hg_11 rfl 30 (by decide) (htb _ q8_4) (fun _ h9 => h9) rfl d_Model_faultOf_134 ?_
                refine lv_aload hx hb d_Model_faultOf_137 (lv_at hl 0 rfl) ?_
                refine va_get (v := .long ((τ ((fV z69).getD 0)).J 7)) hx hb htb i_Text hown hK hP i_54 hg_54 rfl 7 (by decide) (htb _ q6_188) (fun _ h9 => h9) rfl d_Model_faultOf_139 ?_
                refine W.lcmp hx hb d_Model_faultOf_142 ?_
                refine lv_if_lt (tgt := 237) hx hb d_Model_faultOf_143 (by decide) (fun c143 => ?_) (fun c143 => ?_)
                · have p143 : (lg_cmp mnw ((τ ((fV z69).getD 0)).J 7)) < (0 : Int32) := c143
                  have hcn : ¬ couQ (cXf τ fS) (lXf τ fV) (fun l9 b9 => sgT (τ ((fV l9).getD 0)) (τ ((fS b9).getD 0))) mnw (wl.getD i9 0) (wl.getD (i9 + 1) 0) z69 := fun h9 => h9.1 (cmp_lt.mp p143)
                  have e4 : (zP (∃ l8, l8 < z69 ∧ couQ (cXf τ fS) (lXf τ fV) (fun l9 b9 => sgT (τ ((fV l9).getD 0)) (τ ((fS b9).getD 0))) mnw (wl.getD i9 0) (wl.getD (i9 + 1) 0) l8) : Int32) = zP (∃ l8, l8 < (z69 + 1) ∧ couQ (cXf τ fS) (lXf τ fV) (fun l9 b9 => sgT (τ ((fV l9).getD 0)) (τ ((fS b9).getD 0))) mnw (wl.getD i9 0) (wl.getD (i9 + 1) 0) l8) := zP_g (ex_s0 hcn)
                  have hl : lv_has ls 9 [(6, .ref ((fV z69).getD 0)), (5, .int (nI z69)), (4, .int (zP (∃ l8, l8 < (z69 + 1) ∧ couQ (cXf τ fS) (lXf τ fV) (fun l9 b9 => sgT (τ ((fV l9).getD 0)) (τ ((fS b9).getD 0))) mnw (wl.getD i9 0) (wl.getD (i9 + 1) 0) l8))), (3, .ref ((fS (wl.getD (i9 + 1) 0)).getD 0)), (2, .ref ((fS (wl.getD i9 0)).getD 0)), (0, .ref mo), (1, .int (nI i9))] := by rw [← e4]; exact hl
                  have hJn : ∀ l8, l8 < z69 + 1 → couQ (cXf τ fS) (lXf τ fV) (fun l9 b9 => sgT (τ ((fV l9).getD 0)) (τ ((fS b9).getD 0))) mnw (wl.getD i9 0) (wl.getD (i9 + 1) 0) l8 → ¬ ((cXf τ fS) (wl.getD i9 0)).se ∈ ((lXf τ fV) l8).en := fun l8 h9 => (Nat.lt_succ_iff_lt_or_eq.mp h9).elim (hJk l8) (fun e8 => by subst e8; exact fun q => absurd q hcn)
                  refine lv_iinc (v := nI (z69 + 1)) (lv' := [(5, .int (nI (z69 + 1))), (6, .ref ((fV z69).getD 0)), (4, .int (zP (∃ l8, l8 < (z69 + 1) ∧ couQ (cXf τ fS) (lXf τ fV) (fun l9 b9 => sgT (τ ((fV l9).getD 0)) (τ ((fS b9).getD 0))) mnw (wl.getD i9 0) (wl.getD (i9 + 1) 0) l8))), (3, .ref ((fS (wl.getD (i9 + 1) 0)).getD 0)), (2, .ref ((fS (wl.getD i9 0)).getD 0)), (0, .ref mo), (1, .int (nI i9))]) hx hb d_Model_faultOf_237 hl (k := 1) rfl (nI_1 _) (by decide) rfl (fun ls hl => ?_)
                  refine lv_goto (tgt := 69) hx hb d_Model_faultOf_240 (by decide) ?_
                  exact ih69 (z69 + 1, f69_mmA, f69_mrA, v69_mqs, G69) _ _ ls (by dsimp only; omega) ⟨by dsimp only; omega, by dsimp only; omega, hTy, hFR, (by have h9 := kmo; rw [eX_10] at h9; exact h9), kmmA, kmrA, kmwy, kmsT, kmrV, kmfd, ⟨hfm, hfr, hJn⟩⟩ hP hD hS (lv_sub hl [0, 2, 3, 4, 5, 6] rfl)
                · have p143 : ¬ ((lg_cmp mnw ((τ ((fV z69).getD 0)).J 7)) < (0 : Int32)) := c143
                  refine lv_aload_n hx hb d_Model_faultOf_146 rfl (lv_at hl 5 rfl) ?_
                  refine va_get (v := .long mnw) hx hb htb i_Model hown hK hP i_11 hg_11 rfl 30 (by decide) (htb _ q8_4) (fun _ h9 => h9) rfl d_Model_faultOf_147 ?_
                  refine lv_aload hx hb d_Model_faultOf_150 (lv_at hl 0 rfl) ?_
                  refine va_get (v := .long ((τ ((fV z69).getD 0)).J 8)) hx hb htb i_Text hown hK hP i_54 hg_54 rfl 8 (by decide) (htb _ q6_190) (fun _ h9 => h9) rfl d_Model_faultOf_152 ?_
                  refine W.lcmp hx hb d_Model_faultOf_155 ?_
                  refine lv_if_gt (tgt := 237) hx hb d_Model_faultOf_156 (by decide) (fun c156 => ?_) (fun c156 => ?_)
                  · have p156 : (0 : Int32) < (lg_cmp mnw ((τ ((fV z69).getD 0)).J 8)) := c156
                    have hcn : ¬ couQ (cXf τ fS) (lXf τ fV) (fun l9 b9 => sgT (τ ((fV l9).getD 0)) (τ ((fS b9).getD 0))) mnw (wl.getD i9 0) (wl.getD (i9 + 1) 0) z69 := fun h9 => h9.2.1 (cmp_gt.mp p156)
                    have e4 : (zP (∃ l8, l8 < z69 ∧ couQ (cXf τ fS) (lXf τ fV) (fun l9 b9 => sgT (τ ((fV l9).getD 0)) (τ ((fS b9).getD 0))) mnw (wl.getD i9 0) (wl.getD (i9 + 1) 0) l8) : Int32) = zP (∃ l8, l8 < (z69 + 1) ∧ couQ (cXf τ fS) (lXf τ fV) (fun l9 b9 => sgT (τ ((fV l9).getD 0)) (τ ((fS b9).getD 0))) mnw (wl.getD i9 0) (wl.getD (i9 + 1) 0) l8) := zP_g (ex_s0 hcn)
                    have hl : lv_has ls 9 [(6, .ref ((fV z69).getD 0)), (5, .int (nI z69)), (4, .int (zP (∃ l8, l8 < (z69 + 1) ∧ couQ (cXf τ fS) (lXf τ fV) (fun l9 b9 => sgT (τ ((fV l9).getD 0)) (τ ((fS b9).getD 0))) mnw (wl.getD i9 0) (wl.getD (i9 + 1) 0) l8))), (3, .ref ((fS (wl.getD (i9 + 1) 0)).getD 0)), (2, .ref ((fS (wl.getD i9 0)).getD 0)), (0, .ref mo), (1, .int (nI i9))] := by rw [← e4]; exact hl
                    have hJn : ∀ l8, l8 < z69 + 1 → couQ (cXf τ fS) (lXf τ fV) (fun l9 b9 => sgT (τ ((fV l9).getD 0)) (τ ((fS b9).getD 0))) mnw (wl.getD i9 0) (wl.getD (i9 + 1) 0) l8 → ¬ ((cXf τ fS) (wl.getD i9 0)).se ∈ ((lXf τ fV) l8).en := fun l8 h9 => (Nat.lt_succ_iff_lt_or_eq.mp h9).elim (hJk l8) (fun e8 => by subst e8; exact fun q => absurd q hcn)
                    refine lv_iinc (v := nI (z69 + 1)) (lv' := [(5, .int (nI (z69 + 1))), (6, .ref ((fV z69).getD 0)), (4, .int (zP (∃ l8, l8 < (z69 + 1) ∧ couQ (cXf τ fS) (lXf τ fV) (fun l9 b9 => sgT (τ ((fV l9).getD 0)) (τ ((fS b9).getD 0))) mnw (wl.getD i9 0) (wl.getD (i9 + 1) 0) l8))), (3, .ref ((fS (wl.getD (i9 + 1) 0)).getD 0)), (2, .ref ((fS (wl.getD i9 0)).getD 0)), (0, .ref mo), (1, .int (nI i9))]) hx hb d_Model_faultOf_237 hl (k := 1) rfl (nI_1 _) (by decide) rfl (fun ls hl => ?_)
                    refine lv_goto (tgt := 69) hx hb d_Model_faultOf_240 (by decide) ?_
                    exact ih69 (z69 + 1, f69_mmA, f69_mrA, v69_mqs, G69) _ _ ls (by dsimp only; omega) ⟨by dsimp only; omega, by dsimp only; omega, hTy, hFR, (by have h9 := kmo; rw [eX_10] at h9; exact h9), kmmA, kmrA, kmwy, kmsT, kmrV, kmfd, ⟨hfm, hfr, hJn⟩⟩ hP hD hS (lv_sub hl [0, 2, 3, 4, 5, 6] rfl)
                  · have p156 : ¬ ((0 : Int32) < (lg_cmp mnw ((τ ((fV z69).getD 0)).J 8))) := c156
                    refine lv_aload hx hb d_Model_faultOf_159 (lv_at hl 0 rfl) ?_
                    refine va_get (v := .int ((τ ((fV z69).getD 0)).I 30)) hx hb htb i_Text hown hK hP i_54 hg_54 rfl 30 (by decide) (htb _ q6_233) (fun _ h9 => h9) rfl d_Model_faultOf_161 ?_
                    refine lv_if_gt (tgt := 237) hx hb d_Model_faultOf_164 (by decide) (fun c164 => ?_) (fun c164 => ?_)
                    · have p164 : (0 : Int32) < ((τ ((fV z69).getD 0)).I 30) := c164
                      have hcn : ¬ couQ (cXf τ fS) (lXf τ fV) (fun l9 b9 => sgT (τ ((fV l9).getD 0)) (τ ((fS b9).getD 0))) mnw (wl.getD i9 0) (wl.getD (i9 + 1) 0) z69 := fun h9 => (ma_0 (hma z69 (by omega))).mp h9.2.2.1 p164
                      have e4 : (zP (∃ l8, l8 < z69 ∧ couQ (cXf τ fS) (lXf τ fV) (fun l9 b9 => sgT (τ ((fV l9).getD 0)) (τ ((fS b9).getD 0))) mnw (wl.getD i9 0) (wl.getD (i9 + 1) 0) l8) : Int32) = zP (∃ l8, l8 < (z69 + 1) ∧ couQ (cXf τ fS) (lXf τ fV) (fun l9 b9 => sgT (τ ((fV l9).getD 0)) (τ ((fS b9).getD 0))) mnw (wl.getD i9 0) (wl.getD (i9 + 1) 0) l8) := zP_g (ex_s0 hcn)
                      have hl : lv_has ls 9 [(6, .ref ((fV z69).getD 0)), (5, .int (nI z69)), (4, .int (zP (∃ l8, l8 < (z69 + 1) ∧ couQ (cXf τ fS) (lXf τ fV) (fun l9 b9 => sgT (τ ((fV l9).getD 0)) (τ ((fS b9).getD 0))) mnw (wl.getD i9 0) (wl.getD (i9 + 1) 0) l8))), (3, .ref ((fS (wl.getD (i9 + 1) 0)).getD 0)), (2, .ref ((fS (wl.getD i9 0)).getD 0)), (0, .ref mo), (1, .int (nI i9))] := by rw [← e4]; exact hl
                      have hJn : ∀ l8, l8 < z69 + 1 → couQ (cXf τ fS) (lXf τ fV) (fun l9 b9 => sgT (τ ((fV l9).getD 0)) (τ ((fS b9).getD 0))) mnw (wl.getD i9 0) (wl.getD (i9 + 1) 0) l8 → ¬ ((cXf τ fS) (wl.getD i9 0)).se ∈ ((lXf τ fV) l8).en := fun l8 h9 => (Nat.lt_succ_iff_lt_or_eq.mp h9).elim (hJk l8) (fun e8 => by subst e8; exact fun q => absurd q hcn)
                      refine lv_iinc (v := nI (z69 + 1)) (lv' := [(5, .int (nI (z69 + 1))), (6, .ref ((fV z69).getD 0)), (4, .int (zP (∃ l8, l8 < (z69 + 1) ∧ couQ (cXf τ fS) (lXf τ fV) (fun l9 b9 => sgT (τ ((fV l9).getD 0)) (τ ((fS b9).getD 0))) mnw (wl.getD i9 0) (wl.getD (i9 + 1) 0) l8))), (3, .ref ((fS (wl.getD (i9 + 1) 0)).getD 0)), (2, .ref ((fS (wl.getD i9 0)).getD 0)), (0, .ref mo), (1, .int (nI i9))]) hx hb d_Model_faultOf_237 hl (k := 1) rfl (nI_1 _) (by decide) rfl (fun ls hl => ?_)
                      refine lv_goto (tgt := 69) hx hb d_Model_faultOf_240 (by decide) ?_
                      exact ih69 (z69 + 1, f69_mmA, f69_mrA, v69_mqs, G69) _ _ ls (by dsimp only; omega) ⟨by dsimp only; omega, by dsimp only; omega, hTy, hFR, (by have h9 := kmo; rw [eX_10] at h9; exact h9), kmmA, kmrA, kmwy, kmsT, kmrV, kmfd, ⟨hfm, hfr, hJn⟩⟩ hP hD hS (lv_sub hl [0, 2, 3, 4, 5, 6] rfl)
                    · have p164 : ¬ ((0 : Int32) < ((τ ((fV z69).getD 0)).I 30)) := c164
                      refine lv_aload_n hx hb d_Model_faultOf_167 rfl (lv_at hl 5 rfl) ?_
                      refine lv_aload hx hb d_Model_faultOf_168 (lv_at hl 0 rfl) ?_
                      refine lv_aload_n hx hb d_Model_faultOf_170 rfl (lv_at hl 3 rfl) ?_
                      have hFc := va_free (wc := G69) hD hS hA (List.range G69.length) (rg_is _)
                      refine va_calli (mu_runV (As := [.ref ((fV z69).getD 0), .ref ((fS (wl.getD (i9 + 1) 0)).getD 0)]) (rest := []) ⟨hx, hb, hml, hown, hts⟩ tbin (m9_Model_isSigned l dC dI sb γ κ Ad τ gT G69 mo ((fV z69).getD 0) ((fS (wl.getD (i9 + 1) 0)).getD 0) _ _ _ _ _ _ _ _ _ _ _ _ _ _ _ _ _ _ _ _ _ _ _ _ _ _ _ _ _ _ _ _ _ _ HL69.size hTy (by have h9 := kmo; rw [eX_10] at h9; exact h9) kt_53 kt_5 kmmA kmrA kmzA kmqA kmyA kmxA kmbA kmwA kmhA kmpA kmfA hx_mo_mmA hx_mo_mrA hx_mmA_mrA hc_53.toTB hc_5 hfm hfr) q9_96 q9_98 qp_42 q1_9 q9_99 (n := 2) (by decide +kernel) rfl ⟨rfl, rfl⟩ ⟨Nat.le_of_ble_eq_true rfl, Nat.le_of_ble_eq_true rfl⟩ ⟨Nat.le_of_ble_eq_true rfl, Nat.le_of_ble_eq_true rfl⟩ hN (hT0.keep hS hAs) hAs (Nat.le_trans hB0 hS.1) hK hP hD (List.range G69.length) (rg_nd _) (rg_is _) [0, 1, 2, 3, 4] rfl i_11 12 hg_11 rfl rfl hl.1 rfl (Nat.le_of_ble_eq_true rfl) d_Model_faultOf_171) hS (fun q _ h => hFc q h) hFc (fun r171 G_63 tS H171 locs ht hvm hw171 hB hz1 hk1 hS => ?_)
                      obtain ⟨hTy, hF9, hr171⟩ := hw171
                      have kmwy := kmwy.fl hF9 (q_nmc (hx_mo_mwy.symm) (q_nmc (hx_mmA_mwy.symm) (q_nmc (hx_mrA_mwy.symm) (q_nmn))))
                      have kmsT := kmsT.fl hF9 (q_nmc (hx_mo_msT.symm) (q_nmc (hx_mmA_msT.symm) (q_nmc (hx_mrA_msT.symm) (q_nmn))))
                      have kmrV := kmrV.fl hF9 (q_nmc (hx_mo_mrV.symm) (q_nmc (hx_mmA_mrV.symm) (q_nmc (hx_mrA_mrV.symm) (q_nmn))))
                      have kmfd := kmfd.fl hF9 (q_nmc (hx_mo_mfd.symm) (q_nmc (hx_mmA_mfd.symm) (q_nmc (hx_mrA_mfd.symm) (q_nmn))))
                      have hFR := hFR.tr (hF9.up (q_gac (by simp) (q_gac (by simp) (q_gac (by simp) (q_gan)))))
                      obtain ⟨hP1, hK1, hD1⟩ := hB
                      rw [ht] at hP1
                      have hP : va_P (dC, dI) classes G_63 H171 := hP1
                      have hD : va_D A G_63 := hD1.weaken (fun _ _ _ h => hFc _ h)
                      obtain ⟨hz171, ⟨q171, kmo⟩, ⟨fa171, hfm, kmmA⟩, ⟨fb171, hfr, kmrA⟩⟩ := hr171
                      obtain ⟨cX_64, eX_64⟩ : ∃ z : va_E, z = .inr (12, (.int mer :: .int mfed :: .int mwr :: .int (nI K9) :: .int (nI KL) :: .ref moc :: .ref msT :: .ref mrV :: .ref msP :: .int q171 :: .ref mrA :: .ref mbA :: .ref mwA :: .ref mhA :: .ref mfA :: .ref mpA :: .ref mxA :: .ref myA :: .ref mmA :: .ref mqA :: .ref mzA :: .ref mwy :: .ref mfd :: .int (nI s9) :: .int (nI c9) :: .int mch :: .int mft :: .int mpt :: .int mdp :: .int mvd :: .long mnw :: .int mmk :: [])) := ⟨_, rfl⟩
                      rw [← eX_64] at kmo
                      obtain rfl := Eq.symm (bz_zP hz171)
                      refine lv_if_ne (tgt := 180) hx hb d_Model_faultOf_174 (by decide) (fun c174 => ?_) (fun c174 => ?_)
                      · have p174 : sgT (τ ((fV z69).getD 0)) (τ ((fS (wl.getD (i9 + 1) 0)).getD 0)) := (zP_1 c174)
                        refine lv_iconst (v := 1) hx hb d_Model_faultOf_180 (by decide) ?_
                        refine lv_istore (lv' := [(4, .int 1), (6, .ref ((fV z69).getD 0)), (5, .int (nI z69)), (3, .ref ((fS (wl.getD (i9 + 1) 0)).getD 0)), (2, .ref ((fS (wl.getD i9 0)).getD 0)), (0, .ref mo), (1, .int (nI i9))]) hx hb d_Model_faultOf_181 hl (by decide) rfl (fun ls hl => ?_)
                        refine lv_iconst (v := 0) hx hb d_Model_faultOf_183 (by decide) ?_
                        refine lv_istore (lv' := [(7, .int 0), (4, .int 1), (6, .ref ((fV z69).getD 0)), (5, .int (nI z69)), (3, .ref ((fS (wl.getD (i9 + 1) 0)).getD 0)), (2, .ref ((fS (wl.getD i9 0)).getD 0)), (0, .ref mo), (1, .int (nI i9))]) hx hb d_Model_faultOf_184 hl (by decide) rfl (fun ls hl => ?_)
                        refine w_loop (α := Nat) (fun a9 => 0 ≤ a9 ∧ a9 ≤ ((τ ((fV z69).getD 0)).ne) ∧ (∀ e8, e8 < a9 → ¬ rgM (τ ((fV z69).getD 0)).u ((τ ((fV z69).getD 0)).ea e8) ((τ ((fV z69).getD 0)).eb e8 - (τ ((fV z69).getD 0)).ea e8) = ((cXf τ fS) (wl.getD i9 0)).se)) (fun a9 => ((τ ((fV z69).getD 0)).ne) - a9) (fun a9 => [(7, .int (nI a9)), (4, .int 1), (6, .ref ((fV z69).getD 0)), (5, .int (nI z69)), (3, .ref ((fS (wl.getD (i9 + 1) 0)).getD 0)), (2, .ref ((fS (wl.getD i9 0)).getD 0)), (0, .ref mo), (1, .int (nI i9))]) (fun _ => []) 9 186 (fun z186 ls hJ hl ih186 => ?_) (0) ls ⟨by omega, by omega, fun e8 h9 => absurd h9 (Nat.not_lt_zero e8)⟩ (lv_sub hl [0, 1, 2, 3, 4, 5, 6, 7] rfl)
                        skip
                        obtain ⟨hy186, hz186, hJ186⟩ := hJ
                        refine lv_iload hx hb d_Model_faultOf_186 (lv_at hl 0 rfl) ?_
                        refine lv_aload hx hb d_Model_faultOf_188 (lv_at hl 2 rfl) ?_
                        obtain ⟨i_65, kA_65, hg_65⟩ := tr_20 hTy kt_53
                        refine va_get (v := .int ((τ ((fV z69).getD 0)).I 36)) hx hb htb i_Text hown hK hP i_65 hg_65 rfl 36 (by decide) (htb _ q7_4) (fun _ h9 => h9) rfl d_Model_faultOf_190 ?_
                        rw [hc_53.e36]
                        refine lv_icmp_ge (tgt := 237) hx hb d_Model_faultOf_193 (by decide) (fun c193 => ?_) (fun c193 => ?_)
                        · have p193 : ((τ ((fV z69).getD 0)).ne) ≤ z186 := ((nI_leI (a := ((τ ((fV z69).getD 0)).ne)) (b := z186) (by omega) (by omega)).mp c193)
                          have hcn : couQ (cXf τ fS) (lXf τ fV) (fun l9 b9 => sgT (τ ((fV l9).getD 0)) (τ ((fS b9).getD 0))) mnw (wl.getD i9 0) (wl.getD (i9 + 1) 0) z69 := ⟨fun q => p143 (cmp_lt.mpr q), fun q => p156 (cmp_gt.mpr q), (ma_0 (hma z69 (by omega))).mpr p164, use_6.mpr (Or.inr p130), p111, p174⟩
                          have hne9 : ¬ ((cXf τ fS) (wl.getD i9 0)).se ∈ ((lXf τ fV) z69).en := fun h9 => by
                            obtain ⟨e8, h8, q8⟩ := List.mem_map.mp h9
                            exact hJ186 e8 (by have := List.mem_range.mp h8; omega) q8
                          have e4 : (1 : Int32) = zP (∃ l8, l8 < (z69 + 1) ∧ couQ (cXf τ fS) (lXf τ fV) (fun l9 b9 => sgT (τ ((fV l9).getD 0)) (τ ((fS b9).getD 0))) mnw (wl.getD i9 0) (wl.getD (i9 + 1) 0) l8) := zP_t ⟨z69, Nat.lt_succ_self _, hcn⟩
                          have hl : lv_has ls 9 [(7, .int (nI z186)), (4, .int (zP (∃ l8, l8 < (z69 + 1) ∧ couQ (cXf τ fS) (lXf τ fV) (fun l9 b9 => sgT (τ ((fV l9).getD 0)) (τ ((fS b9).getD 0))) mnw (wl.getD i9 0) (wl.getD (i9 + 1) 0) l8))), (6, .ref ((fV z69).getD 0)), (5, .int (nI z69)), (3, .ref ((fS (wl.getD (i9 + 1) 0)).getD 0)), (2, .ref ((fS (wl.getD i9 0)).getD 0)), (0, .ref mo), (1, .int (nI i9))] := by rw [← e4]; exact hl
                          have hJn : ∀ l8, l8 < z69 + 1 → couQ (cXf τ fS) (lXf τ fV) (fun l9 b9 => sgT (τ ((fV l9).getD 0)) (τ ((fS b9).getD 0))) mnw (wl.getD i9 0) (wl.getD (i9 + 1) 0) l8 → ¬ ((cXf τ fS) (wl.getD i9 0)).se ∈ ((lXf τ fV) l8).en := fun l8 h9 => (Nat.lt_succ_iff_lt_or_eq.mp h9).elim (hJk l8) (fun e8 => by subst e8; exact fun _ => hne9)
                          refine lv_iinc (v := nI (z69 + 1)) (lv' := [(5, .int (nI (z69 + 1))), (7, .int (nI z186)), (4, .int (zP (∃ l8, l8 < (z69 + 1) ∧ couQ (cXf τ fS) (lXf τ fV) (fun l9 b9 => sgT (τ ((fV l9).getD 0)) (τ ((fS b9).getD 0))) mnw (wl.getD i9 0) (wl.getD (i9 + 1) 0) l8))), (6, .ref ((fV z69).getD 0)), (3, .ref ((fS (wl.getD (i9 + 1) 0)).getD 0)), (2, .ref ((fS (wl.getD i9 0)).getD 0)), (0, .ref mo), (1, .int (nI i9))]) hx hb d_Model_faultOf_237 hl (k := 3) rfl (nI_1 _) (by decide) rfl (fun ls hl => ?_)
                          refine lv_goto (tgt := 69) hx hb d_Model_faultOf_240 (by decide) ?_
                          exact ih69 (z69 + 1, fa171, fb171, q171, G_63) _ _ ls (by dsimp only; omega) ⟨by dsimp only; omega, by dsimp only; omega, hTy, hFR, (by have h9 := kmo; rw [eX_64] at h9; exact h9), kmmA, kmrA, kmwy, kmsT, kmrV, kmfd, ⟨hfm, hfr, hJn⟩⟩ hP hD hS (lv_sub hl [0, 2, 4, 5, 6, 7] rfl)
                        · have p193 : ¬ (((τ ((fV z69).getD 0)).ne) ≤ z186) := (fun q9 => c193 ((nI_leI (a := ((τ ((fV z69).getD 0)).ne)) (b := z186) (by omega) (by omega)).mpr q9))
                          refine lv_aload hx hb d_Model_faultOf_196 (lv_at hl 2 rfl) ?_
                          refine lv_aload hx hb d_Model_faultOf_198 (lv_at hl 2 rfl) ?_
                          refine va_get (v := .ref ((τ ((fV z69).getD 0)).A 8)) hx hb htb i_Text hown hK hP i_65 hg_65 rfl 50 (by decide) (htb _ q7_28) (fun _ h9 => h9) rfl d_Model_faultOf_200 ?_
                          refine lv_iload hx hb d_Model_faultOf_203 (lv_at hl 0 rfl) ?_
                          obtain ⟨i_66, hg_66⟩ := tr_18 hTy (kA_65 8 (by decide))
                          have hg_66 : G_63[i_66]? = some (((τ ((fV z69).getD 0)).A 8), .inl (γ.2.1, 200, .inl ((τ ((fV z69).getD 0)).D 8))) := hg_66
                          have h205 : vp_in (nI z186) 200 := vp_in_nI (by omega) (by omega)
                          refine va_iald hx hb hK hP i_66 1 hg_66 rfl h205 d_Model_faultOf_205 ?_
                          refine lv_topi (fun e205 he205 => ?_)
                          obtain ⟨q1_205, q2_205, q3_205, q4_205⟩ := hc_53.l1 z186 (by omega)
                          rw [nI_clamp (by omega), q1_205] at he205
                          subst he205
                          refine lv_aload hx hb d_Model_faultOf_206 (lv_at hl 2 rfl) ?_
                          refine va_get (v := .ref ((τ ((fV z69).getD 0)).A 9)) hx hb htb i_Text hown hK hP i_65 hg_65 rfl 51 (by decide) (htb _ q7_30) (fun _ h9 => h9) rfl d_Model_faultOf_208 ?_
                          refine lv_iload hx hb d_Model_faultOf_211 (lv_at hl 0 rfl) ?_
                          obtain ⟨i_67, hg_67⟩ := tr_18 hTy (kA_65 9 (by decide))
                          have hg_67 : G_63[i_67]? = some (((τ ((fV z69).getD 0)).A 9), .inl (γ.2.1, 200, .inl ((τ ((fV z69).getD 0)).D 9))) := hg_67
                          have h213 : vp_in (nI z186) 200 := vp_in_nI (by omega) (by omega)
                          refine va_iald hx hb hK hP i_67 1 hg_67 rfl h213 d_Model_faultOf_213 ?_
                          refine lv_topi (fun e213 he213 => ?_)
                          obtain ⟨q1_213, q2_213, q3_213, q4_213⟩ := hc_53.l1 z186 (by omega)
                          rw [nI_clamp (by omega), q2_213] at he213
                          subst he213
                          refine lv_aload_n hx hb d_Model_faultOf_214 rfl (lv_at hl 5 rfl) ?_
                          refine lv_aload_n hx hb d_Model_faultOf_215 rfl (lv_at hl 5 rfl) ?_
                          obtain ⟨i_68, kA_68, hg_68⟩ := tr_20 hTy kt_4
                          refine va_get (v := .int ((τ ((fS (wl.getD i9 0)).getD 0)).I 10)) hx hb htb i_Text hown hK hP i_68 hg_68 rfl 10 (by decide) (htb _ q6_193) (fun _ h9 => h9) rfl d_Model_faultOf_216 ?_
                          rw [hc_4.e10]
                          refine lv_aload_n hx hb d_Model_faultOf_219 rfl (lv_at hl 5 rfl) ?_
                          refine va_get (v := .int ((τ ((fS (wl.getD i9 0)).getD 0)).I 11)) hx hb htb i_Text hown hK hP i_68 hg_68 rfl 11 (by decide) (htb _ q6_195) (fun _ h9 => h9) rfl d_Model_faultOf_220 ?_
                          rw [hc_4.e11]
                          refine vp_callSi (pu_callV (As := [.int (nI ((τ ((fV z69).getD 0)).ea z186)), .int (nI ((τ ((fV z69).getD 0)).eb z186)), .ref ((fS (wl.getD i9 0)).getD 0), .int (nI ((τ ((fS (wl.getD i9 0)).getD 0)).sr)), .int (nI ((τ ((fS (wl.getD i9 0)).getD 0)).re))]) (rest := []) ⟨hx, hb, hml, hown, hts⟩ tbin (p_Text_same l dC dI sb γ κ Ad τ gT G_63 ((fV z69).getD 0) ((fS (wl.getD i9 0)).getD 0) ((τ ((fV z69).getD 0)).ea z186) ((τ ((fV z69).getD 0)).eb z186) ((τ ((fS (wl.getD i9 0)).getD 0)).sr) ((τ ((fS (wl.getD i9 0)).getD 0)).re) hTy kt_53 kt_4 hc_53.toTB hc_4.toTB (by omega) (by omega) (by omega) (by omega)) q9_145 q9_32 q9_33 q1_10 q9_34 (n := 5) (by decide +kernel) rfl ⟨rfl, rfl⟩ ⟨Nat.le_of_ble_eq_true rfl, Nat.le_of_ble_eq_true rfl⟩ ⟨Nat.le_of_ble_eq_true rfl, Nat.le_of_ble_eq_true rfl⟩ hN (hT0.keep hS hAs) hK hP (List.range G_63.length) (rg_all G_63) [0, 1, 2, 3, 4] rfl i_65 13 hg_65 rfl rfl hl.1 rfl (Nat.le_of_ble_eq_true rfl) d_Model_faultOf_223) (fun r223 hr223 => ?_)
                          obtain rfl : r223 = zP (rgM (τ ((fV z69).getD 0)).u ((τ ((fV z69).getD 0)).ea z186) (((τ ((fV z69).getD 0)).eb z186) - ((τ ((fV z69).getD 0)).ea z186)) = rgM (τ ((fS (wl.getD i9 0)).getD 0)).u ((τ ((fS (wl.getD i9 0)).getD 0)).sr) (((τ ((fS (wl.getD i9 0)).getD 0)).re) - ((τ ((fS (wl.getD i9 0)).getD 0)).sr))) := hr223
                          refine lv_if_eq (tgt := 231) hx hb d_Model_faultOf_226 (by decide) (fun c226 => ?_) (fun c226 => ?_)
                          · have p226 : ¬ (rgM (τ ((fV z69).getD 0)).u ((τ ((fV z69).getD 0)).ea z186) (((τ ((fV z69).getD 0)).eb z186) - ((τ ((fV z69).getD 0)).ea z186)) = rgM (τ ((fS (wl.getD i9 0)).getD 0)).u ((τ ((fS (wl.getD i9 0)).getD 0)).sr) (((τ ((fS (wl.getD i9 0)).getD 0)).re) - ((τ ((fS (wl.getD i9 0)).getD 0)).sr))) := (zP_0.mp c226)
                            refine lv_iinc (v := nI (z186 + 1)) (lv' := [(7, .int (nI (z186 + 1))), (4, .int 1), (6, .ref ((fV z69).getD 0)), (5, .int (nI z69)), (3, .ref ((fS (wl.getD (i9 + 1) 0)).getD 0)), (2, .ref ((fS (wl.getD i9 0)).getD 0)), (0, .ref mo), (1, .int (nI i9))]) hx hb d_Model_faultOf_231 hl (k := 0) rfl (nI_1 _) (by decide) rfl (fun ls hl => ?_)
                            refine lv_goto (tgt := 186) hx hb d_Model_faultOf_234 (by decide) ?_
                            exact ih186 ((z186 + 1)) ls (by omega) ⟨by omega, by omega, fun e8 h9 => (Nat.lt_succ_iff_lt_or_eq.mp h9).elim (hJ186 e8) (fun e9 => by subst e9; exact p226)⟩ (lv_sub hl [0, 1, 2, 3, 4, 5, 6, 7] rfl)
                          · have p226 : rgM (τ ((fV z69).getD 0)).u ((τ ((fV z69).getD 0)).ea z186) (((τ ((fV z69).getD 0)).eb z186) - ((τ ((fV z69).getD 0)).ea z186)) = rgM (τ ((fS (wl.getD i9 0)).getD 0)).u ((τ ((fS (wl.getD i9 0)).getD 0)).sr) (((τ ((fS (wl.getD i9 0)).getD 0)).re) - ((τ ((fS (wl.getD i9 0)).getD 0)).sr)) := (zP_1 c226)
                            have hcn9 : couQ (cXf τ fS) (lXf τ fV) (fun l9 b9 => sgT (τ ((fV l9).getD 0)) (τ ((fS b9).getD 0))) mnw (wl.getD i9 0) (wl.getD (i9 + 1) 0) z69 := ⟨fun q => p143 (cmp_lt.mpr q), fun q => p156 (cmp_gt.mpr q), (ma_0 (hma z69 (by omega))).mpr p164, use_6.mpr (Or.inr p130), p111, p174⟩
                            refine lv_iconst (v := 3) hx hb d_Model_faultOf_229 (by decide) ?_
                            exact W.iret (v := 3) hx hb hr (fun t ht hW => ⟨⟨_, G_63, rfl, ⟨hTy, hFR, Eq.symm (if_nt (fun q9 => q9 p32) (if_nt (fun q9 => q9.elim (fun z => p46 (cmp_lt.mpr z)) (fun z => q_ng p58 (cmp_gt.mpr z))) (if_pos ⟨z69, by omega, hcn9, List.mem_map.mpr ⟨z186, List.mem_range.mpr (by omega), p226⟩⟩))), ⟨_, by rw [eX_64] at kmo; exact kmo⟩, ⟨_, hfm, kmmA⟩, ⟨_, hfr, kmrA⟩⟩, by rw [ht]; exact hP, va_K.moved hW.alike hK, hD⟩, hS.F ht⟩) hS.2.2 d_Model_faultOf_230
                      · have p174 : ¬ (sgT (τ ((fV z69).getD 0)) (τ ((fS (wl.getD (i9 + 1) 0)).getD 0))) := (zP_0.mp c174)
                        refine lv_goto (tgt := 237) hx hb d_Model_faultOf_177 (by decide) ?_
                        have hcn : ¬ couQ (cXf τ fS) (lXf τ fV) (fun l9 b9 => sgT (τ ((fV l9).getD 0)) (τ ((fS b9).getD 0))) mnw (wl.getD i9 0) (wl.getD (i9 + 1) 0) z69 := fun h9 => p174 h9.2.2.2.2.2
                        have e4 : (zP (∃ l8, l8 < z69 ∧ couQ (cXf τ fS) (lXf τ fV) (fun l9 b9 => sgT (τ ((fV l9).getD 0)) (τ ((fS b9).getD 0))) mnw (wl.getD i9 0) (wl.getD (i9 + 1) 0) l8) : Int32) = zP (∃ l8, l8 < (z69 + 1) ∧ couQ (cXf τ fS) (lXf τ fV) (fun l9 b9 => sgT (τ ((fV l9).getD 0)) (τ ((fS b9).getD 0))) mnw (wl.getD i9 0) (wl.getD (i9 + 1) 0) l8) := zP_g (ex_s0 hcn)
                        have hl : lv_has ls 9 [(6, .ref ((fV z69).getD 0)), (5, .int (nI z69)), (4, .int (zP (∃ l8, l8 < (z69 + 1) ∧ couQ (cXf τ fS) (lXf τ fV) (fun l9 b9 => sgT (τ ((fV l9).getD 0)) (τ ((fS b9).getD 0))) mnw (wl.getD i9 0) (wl.getD (i9 + 1) 0) l8))), (3, .ref ((fS (wl.getD (i9 + 1) 0)).getD 0)), (2, .ref ((fS (wl.getD i9 0)).getD 0)), (0, .ref mo), (1, .int (nI i9))] := by rw [← e4]; exact hl
                        have hJn : ∀ l8, l8 < z69 + 1 → couQ (cXf τ fS) (lXf τ fV) (fun l9 b9 => sgT (τ ((fV l9).getD 0)) (τ ((fS b9).getD 0))) mnw (wl.getD i9 0) (wl.getD (i9 + 1) 0) l8 → ¬ ((cXf τ fS) (wl.getD i9 0)).se ∈ ((lXf τ fV) l8).en := fun l8 h9 => (Nat.lt_succ_iff_lt_or_eq.mp h9).elim (hJk l8) (fun e8 => by subst e8; exact fun q => absurd q hcn)
                        refine lv_iinc (v := nI (z69 + 1)) (lv' := [(5, .int (nI (z69 + 1))), (6, .ref ((fV z69).getD 0)), (4, .int (zP (∃ l8, l8 < (z69 + 1) ∧ couQ (cXf τ fS) (lXf τ fV) (fun l9 b9 => sgT (τ ((fV l9).getD 0)) (τ ((fS b9).getD 0))) mnw (wl.getD i9 0) (wl.getD (i9 + 1) 0) l8))), (3, .ref ((fS (wl.getD (i9 + 1) 0)).getD 0)), (2, .ref ((fS (wl.getD i9 0)).getD 0)), (0, .ref mo), (1, .int (nI i9))]) hx hb d_Model_faultOf_237 hl (k := 1) rfl (nI_1 _) (by decide) rfl (fun ls hl => ?_)
                        refine lv_goto (tgt := 69) hx hb d_Model_faultOf_240 (by decide) ?_
                        exact ih69 (z69 + 1, fa171, fb171, q171, G_63) _ _ ls (by dsimp only; omega) ⟨by dsimp only; omega, by dsimp only; omega, hTy, hFR, (by have h9 := kmo; rw [eX_64] at h9; exact h9), kmmA, kmrA, kmwy, kmsT, kmrV, kmfd, ⟨hfm, hfr, hJn⟩⟩ hP hD hS (lv_sub hl [0, 2, 3, 4, 5, 6] rfl)
      · have p58 : ¬ ((lg_cmp mnw ((τ ((fS (wl.getD i9 0)).getD 0)).J 8)) ≤ (0 : Int32)) := c58
        refine lv_iconst (v := 2) hx hb d_Model_faultOf_61 (by decide) ?_
        exact W.iret (v := 2) hx hb hr (fun t ht hW => ⟨⟨_, G_6, rfl, ⟨hTy, hFR, Eq.symm (if_nt (fun q9 => q9 p32) (if_pos (Or.inr (cmp_gt.mp (q_gt p58))))), ⟨_, by rw [eX_7] at kmo; exact kmo⟩, ⟨_, hfm, kmmA⟩, ⟨_, hfr, kmrA⟩⟩, by rw [ht]; exact hP, va_K.moved hW.alike hK, hD⟩, hS.F ht⟩) hS.2.2 d_Model_faultOf_62
  · have p32 : ¬ (sgT (τ ((fS (wl.getD i9 0)).getD 0)) (τ ((fS (wl.getD (i9 + 1) 0)).getD 0))) := (zP_0.mp c32)
    refine lv_iconst (v := 1) hx hb d_Model_faultOf_35 (by decide) ?_
    exact W.iret (v := 1) hx hb hr (fun t ht hW => ⟨⟨_, G_6, rfl, ⟨hTy, hFR, Eq.symm (if_pos p32), ⟨_, by rw [eX_7] at kmo; exact kmo⟩, ⟨_, hfm, kmmA⟩, ⟨_, hfr, kmrA⟩⟩, by rw [ht]; exact hP, va_K.moved hW.alike hK, hD⟩, hS.F ht⟩) hS.2.2 d_Model_faultOf_36
def y_Model_judged : MethodName := ⟨"TrustChainModel", "judged", "()Z"⟩
abbrev b_Model_judged : ByteArray := prog_14_method_34_code
def w_Model_judged : List Cond := Cond.code y_Model_judged b_Model_judged 4 ((some FieldType.boolean)) :: tb
theorem d_Model_judged_0 : decode b_Model_judged 0 = .ok (.aload_n 0, 1) := by decide +kernel
theorem d_Model_judged_1 : decode b_Model_judged 1 = .ok (.dup, 1) := by decide +kernel
theorem d_Model_judged_2 : decode b_Model_judged 2 = .ok (.getfield 321, 3) := by decide +kernel
theorem d_Model_judged_5 : decode b_Model_judged 5 = .ok (.iconst 1, 1) := by decide +kernel
theorem d_Model_judged_6 : decode b_Model_judged 6 = .ok (.iadd, 1) := by decide +kernel
theorem d_Model_judged_7 : decode b_Model_judged 7 = .ok (.putfield 321, 3) := by decide +kernel
theorem d_Model_judged_10 : decode b_Model_judged 10 = .ok (.iconst 0, 1) := by decide +kernel
theorem d_Model_judged_11 : decode b_Model_judged 11 = .ok (.istore_n 1, 1) := by decide +kernel
theorem d_Model_judged_12 : decode b_Model_judged 12 = .ok (.iconst (-1), 1) := by decide +kernel
theorem d_Model_judged_13 : decode b_Model_judged 13 = .ok (.istore_n 2, 1) := by decide +kernel
theorem d_Model_judged_14 : decode b_Model_judged 14 = .ok (.aload_n 0, 1) := by decide +kernel
theorem d_Model_judged_15 : decode b_Model_judged 15 = .ok (.getfield 333, 3) := by decide +kernel
theorem d_Model_judged_18 : decode b_Model_judged 18 = .ok (.iconst 2, 1) := by decide +kernel
theorem d_Model_judged_19 : decode b_Model_judged 19 = .ok (.isub, 1) := by decide +kernel
theorem d_Model_judged_20 : decode b_Model_judged 20 = .ok (.istore_n 3, 1) := by decide +kernel
theorem d_Model_judged_21 : decode b_Model_judged 21 = .ok (.iload_n 3, 1) := by decide +kernel
theorem d_Model_judged_22 : decode b_Model_judged 22 = .ok (.ifCond .lt 21, 3) := by decide +kernel
theorem d_Model_judged_25 : decode b_Model_judged 25 = .ok (.iload_n 1, 1) := by decide +kernel
theorem d_Model_judged_26 : decode b_Model_judged 26 = .ok (.ifCond .ne 17, 3) := by decide +kernel
theorem d_Model_judged_29 : decode b_Model_judged 29 = .ok (.aload_n 0, 1) := by decide +kernel
theorem d_Model_judged_30 : decode b_Model_judged 30 = .ok (.iload_n 3, 1) := by decide +kernel
theorem d_Model_judged_31 : decode b_Model_judged 31 = .ok (.invokevirtual 375, 3) := by decide +kernel
theorem d_Model_judged_34 : decode b_Model_judged 34 = .ok (.istore_n 1, 1) := by decide +kernel
theorem d_Model_judged_35 : decode b_Model_judged 35 = .ok (.iload_n 3, 1) := by decide +kernel
theorem d_Model_judged_36 : decode b_Model_judged 36 = .ok (.istore_n 2, 1) := by decide +kernel
theorem d_Model_judged_37 : decode b_Model_judged 37 = .ok (.iinc 3 (-1), 3) := by decide +kernel
theorem d_Model_judged_40 : decode b_Model_judged 40 = .ok (.goto (-19), 3) := by decide +kernel
theorem d_Model_judged_43 : decode b_Model_judged 43 = .ok (.iload_n 1, 1) := by decide +kernel
theorem d_Model_judged_44 : decode b_Model_judged 44 = .ok (.ifCond .eq 13, 3) := by decide +kernel
theorem d_Model_judged_47 : decode b_Model_judged 47 = .ok (.aload_n 0, 1) := by decide +kernel
theorem d_Model_judged_48 : decode b_Model_judged 48 = .ok (.getfield 321, 3) := by decide +kernel
theorem d_Model_judged_51 : decode b_Model_judged 51 = .ok (.iconst 1, 1) := by decide +kernel
theorem d_Model_judged_52 : decode b_Model_judged 52 = .ok (.if_icmp .le 5, 3) := by decide +kernel
theorem d_Model_judged_55 : decode b_Model_judged 55 = .ok (.iconst 0, 1) := by decide +kernel
theorem d_Model_judged_56 : decode b_Model_judged 56 = .ok (.ireturn, 1) := by decide +kernel
theorem d_Model_judged_57 : decode b_Model_judged 57 = .ok (.iconst 0, 1) := by decide +kernel
theorem d_Model_judged_58 : decode b_Model_judged 58 = .ok (.istore_n 3, 1) := by decide +kernel
theorem d_Model_judged_59 : decode b_Model_judged 59 = .ok (.iload_n 3, 1) := by decide +kernel
theorem d_Model_judged_60 : decode b_Model_judged 60 = .ok (.aload_n 0, 1) := by decide +kernel
theorem d_Model_judged_61 : decode b_Model_judged 61 = .ok (.getfield 333, 3) := by decide +kernel
theorem d_Model_judged_64 : decode b_Model_judged 64 = .ok (.if_icmp .ge 21, 3) := by decide +kernel
theorem d_Model_judged_67 : decode b_Model_judged 67 = .ok (.aload_n 0, 1) := by decide +kernel
theorem d_Model_judged_68 : decode b_Model_judged 68 = .ok (.getfield 139, 3) := by decide +kernel
theorem d_Model_judged_71 : decode b_Model_judged 71 = .ok (.iload_n 3, 1) := by decide +kernel
theorem d_Model_judged_72 : decode b_Model_judged 72 = .ok (.aload_n 0, 1) := by decide +kernel
theorem d_Model_judged_73 : decode b_Model_judged 73 = .ok (.getfield 136, 3) := by decide +kernel
theorem d_Model_judged_76 : decode b_Model_judged 76 = .ok (.iload_n 3, 1) := by decide +kernel
theorem d_Model_judged_77 : decode b_Model_judged 77 = .ok (.iaload, 1) := by decide +kernel
theorem d_Model_judged_78 : decode b_Model_judged 78 = .ok (.iastore, 1) := by decide +kernel
theorem d_Model_judged_79 : decode b_Model_judged 79 = .ok (.iinc 3 1, 3) := by decide +kernel
theorem d_Model_judged_82 : decode b_Model_judged 82 = .ok (.goto (-23), 3) := by decide +kernel
theorem d_Model_judged_85 : decode b_Model_judged 85 = .ok (.aload_n 0, 1) := by decide +kernel
theorem d_Model_judged_86 : decode b_Model_judged 86 = .ok (.aload_n 0, 1) := by decide +kernel
theorem d_Model_judged_87 : decode b_Model_judged 87 = .ok (.getfield 333, 3) := by decide +kernel
theorem d_Model_judged_90 : decode b_Model_judged 90 = .ok (.putfield 324, 3) := by decide +kernel
theorem d_Model_judged_93 : decode b_Model_judged 93 = .ok (.aload_n 0, 1) := by decide +kernel
theorem d_Model_judged_94 : decode b_Model_judged 94 = .ok (.iload_n 1, 1) := by decide +kernel
theorem d_Model_judged_95 : decode b_Model_judged 95 = .ok (.putfield 327, 3) := by decide +kernel
theorem d_Model_judged_98 : decode b_Model_judged 98 = .ok (.aload_n 0, 1) := by decide +kernel
theorem d_Model_judged_99 : decode b_Model_judged 99 = .ok (.iload_n 1, 1) := by decide +kernel
theorem d_Model_judged_100 : decode b_Model_judged 100 = .ok (.ifCond .ne 7, 3) := by decide +kernel
theorem d_Model_judged_103 : decode b_Model_judged 103 = .ok (.iconst (-1), 1) := by decide +kernel
theorem d_Model_judged_104 : decode b_Model_judged 104 = .ok (.goto 4, 3) := by decide +kernel
theorem d_Model_judged_107 : decode b_Model_judged 107 = .ok (.iload_n 2, 1) := by decide +kernel
theorem d_Model_judged_108 : decode b_Model_judged 108 = .ok (.putfield 142, 3) := by decide +kernel
theorem d_Model_judged_111 : decode b_Model_judged 111 = .ok (.iload_n 1, 1) := by decide +kernel
theorem d_Model_judged_112 : decode b_Model_judged 112 = .ok (.ifCond .ne 7, 3) := by decide +kernel
theorem d_Model_judged_115 : decode b_Model_judged 115 = .ok (.iconst 1, 1) := by decide +kernel
theorem d_Model_judged_116 : decode b_Model_judged 116 = .ok (.goto 4, 3) := by decide +kernel
theorem d_Model_judged_119 : decode b_Model_judged 119 = .ok (.iconst 0, 1) := by decide +kernel
theorem d_Model_judged_120 : decode b_Model_judged 120 = .ok (.ireturn, 1) := by decide +kernel
set_option maxHeartbeats 4000000 in
set_option maxRecDepth 100000 in
theorem m_Model_judged (l : Launch) (dC : Nat → ClassId) (dI : Nat → Nat → Nat) (sb : sB) (γ : cG) (κ : kE) (Ad : List Nat) (τ : Nat → TD) (gT : ClassId) (G : va_W) (mo : Nat) (moc msT mrV msP mrA mbA mwA mhA mfA mpA mxA myA mmA mqA mzA mwy mfd : Nat) (mer mfed mwr mqs mdp mmk : Int32) (mnw : Int64) (s9 K9 KL : Nat) (fm fr fw ff : Nat → Int32) (fS fV : Nat → Option Nat) (wl : List Nat) (pq cq : Nat) (wq : List Nat) (vq fq : Int32) (sz : Nat) (hTy : TR γ κ Ad τ G) (kmo : Xc Ad mo (.inr (12, (.int mer :: .int mfed :: .int mwr :: .int (nI K9) :: .int (nI KL) :: .ref moc :: .ref msT :: .ref mrV :: .ref msP :: .int mqs :: .ref mrA :: .ref mbA :: .ref mwA :: .ref mhA :: .ref mfA :: .ref mpA :: .ref mxA :: .ref myA :: .ref mmA :: .ref mqA :: .ref mzA :: .ref mwy :: .ref mfd :: .int (nI s9) :: .int (nI wq.length) :: .int (nI cq) :: .int fq :: .int (nI pq) :: .int mdp :: .int vq :: .long mnw :: .int mmk :: []))) G) (kmmA : Xc Ad mmA (.inl (γ.2.1, 600, .inl fm)) G) (kmrA : Xc Ad mrA (.inl (γ.2.1, 600, .inl fr)) G) (kmwy : Xc Ad mwy (.inl (γ.2.1, 16, .inl fw)) G) (kmsT : Xc Ad msT (.inl (gT, 16, .inr (.inr (.inr (.inr fS))))) G) (kmrV : Xc Ad mrV (.inl (gT, 8, .inr (.inr (.inr (.inr fV))))) G) (kmfd : Xc Ad mfd (.inl (γ.2.1, 16, .inl ff)) G) (kmzA : tK κ Ad mzA (6, 600, 6)) (kmqA : tK κ Ad mqA (6, 600, 4)) (kmyA : tK κ Ad myA (6, 600, 5)) (kmxA : tK κ Ad mxA (6, 600, 3)) (kmbA : tK κ Ad mbA (6, 2176, 0)) (kmwA : tK κ Ad mwA (6, 64, 0)) (kmhA : tK κ Ad mhA (6, 8, 0)) (kmpA : tK κ Ad mpA (6, 64, 2)) (kmfA : tK κ Ad mfA (6, 8, 1)) (hx_mo_mmA : mo ≠ mmA) (hx_mo_mrA : mo ≠ mrA) (hx_mo_mwy : mo ≠ mwy) (hx_mo_msT : mo ≠ msT) (hx_mo_mrV : mo ≠ mrV) (hx_mo_mfd : mo ≠ mfd) (hx_mmA_mrA : mmA ≠ mrA) (hx_mmA_mwy : mmA ≠ mwy) (hx_mmA_msT : mmA ≠ msT) (hx_mmA_mrV : mmA ≠ mrV) (hx_mmA_mfd : mmA ≠ mfd) (hx_mrA_mwy : mrA ≠ mwy) (hx_mrA_msT : mrA ≠ msT) (hx_mrA_mrV : mrA ≠ mrV) (hx_mrA_mfd : mrA ≠ mfd) (hx_mwy_msT : mwy ≠ msT) (hx_mwy_mrV : mwy ≠ mrV) (hx_mwy_mfd : mwy ≠ mfd) (hx_msT_mrV : msT ≠ mrV) (hx_msT_mfd : msT ≠ mfd) (hx_mrV_mfd : mrV ≠ mfd) (hst : STc κ Ad τ K9 fS) (hrv : STl κ Ad τ KL fV) (hway : wyR wl K9 fw) (hwl : wl.length = s9) (hK9 : K9 ≤ 16) (hKL : KL ≤ 8) (hs9 : s9 ≤ 16) (hfm : bR fm) (hfr : bR fr) (hmk : b01 mmk) (hma : ∀ l9, l9 < KL → ¬ (τ ((fV l9).getD 0)).I 30 < 0) (hs1 : 1 ≤ s9) (hfd : fdR wq ff) (hch : cq ≤ 1000) : Met l y_Model_judged w_Model_judged ({ frames := 7, cells := 0, slots := 0, locals := 167 }) (mu_P [.ref mo] (dC, dI) sb G [(γ.1, .byte), (γ.2.1, .int), (γ.2.2.1, .long), (γ.2.2.2, .object "java/lang/Object"), (gT, .object "TrustChainModel$Text")] sz) (va_Qi (fun r (G' : va_W) => TR γ κ Ad τ G' ∧ FL Ad [mo, mmA, mrA, mfd] G G' ∧ (r = bB (sJ (rFL τ fS fV KL mnw mmk) wl.reverse (pq, cq, wq, vq, fq)).1 ∧ (∃ q9 : Int32, Xc Ad mo (.inr (12, (.int mer :: .int mfed :: .int mwr :: .int (nI K9) :: .int (nI KL) :: .ref moc :: .ref msT :: .ref mrV :: .ref msP :: .int q9 :: .ref mrA :: .ref mbA :: .ref mwA :: .ref mhA :: .ref mfA :: .ref mpA :: .ref mxA :: .ref myA :: .ref mmA :: .ref mqA :: .ref mzA :: .ref mwy :: .ref mfd :: .int (nI s9) :: .int (nI (sJ (rFL τ fS fV KL mnw mmk) wl.reverse (pq, cq, wq, vq, fq)).2.2.2.1.length) :: .int (nI (sJ (rFL τ fS fV KL mnw mmk) wl.reverse (pq, cq, wq, vq, fq)).2.2.1) :: .int ((sJ (rFL τ fS fV KL mnw mmk) wl.reverse (pq, cq, wq, vq, fq)).2.2.2.2.2) :: .int (nI (sJ (rFL τ fS fV KL mnw mmk) wl.reverse (pq, cq, wq, vq, fq)).2.1) :: .int mdp :: .int ((sJ (rFL τ fS fV KL mnw mmk) wl.reverse (pq, cq, wq, vq, fq)).2.2.2.2.1) :: .long mnw :: .int mmk :: []))) G') ∧ (∃ f9 : Nat → Int32, bR f9 ∧ Xc Ad mmA (.inl (γ.2.1, 600, .inl f9)) G') ∧ (∃ f9 : Nat → Int32, bR f9 ∧ Xc Ad mrA (.inl (γ.2.1, 600, .inl f9)) G') ∧ (∃ f9 : Nat → Int32, fdR (sJ (rFL τ fS fV KL mnw mmk) wl.reverse (pq, cq, wq, vq, fq)).2.2.2.1 f9 ∧ Xc Ad mfd (.inl (γ.2.1, 16, .inl f9)) G'))) (mu_B (dC, dI) [(γ.1, .byte), (γ.2.1, .int), (γ.2.2.1, .long), (γ.2.2.2, .object "java/lang/Object"), (gT, .object "TrustChainModel$Text")] (va_A G sz) (fun G' : va_W => G')) (va_A G sz)) 0 0 (va_A G sz) := by
  refine Met.ofW (cc := b_Model_judged) (maxL := 4) (ret := (some FieldType.boolean)) (by decide) rfl ?_
  intro p e s m args below meth c s₁ B hml hv
  obtain ⟨rfl, hsz, hB0, hP, hK, hD0, hN, hT0⟩ := hv
  have hx := B.exec
  have hb := B.bytes
  have hr := B.returns
  have hts := atoms_spec (ws := w_Model_judged) B.pre
  have tbin : ∀ w ∈ tb, w ∈ w_Model_judged := fun w h => List.mem_cons_of_mem _ h
  have htb : ∀ w ∈ tb, w.before _ s = true := fun w h => hts w (tbin w h)
  have hown : s.vm.findClass "TrustChainModel" = some m.cls := findClass_of_methodNamed B.named
  have hlocks := B.notSynchronized
  subst hsz
  have hD := hD0.self (sz := s.heap.size)
  generalize hAe : va_A G s.heap.size = A at hD ⊢
  have hA : ∀ q : Nat, s.heap.size ≤ q → A q := fun q h => by rw [← hAe]; exact Or.inr h
  have hAs : ∀ q : Nat, A q → sb.1 ≤ q := fun q h => by
    rw [← hAe] at h
    rcases h with ⟨k, e, h⟩ | h
    · exact hD0.2 k _ h
    · exact Nat.le_trans hB0 h
  have hS : va_S A s.heap s.heap [] := va_S.rf
  have hFR := FL.rf Ad [mo, mmA, mrA, mfd] G
  have hcs : 0 ≤ (headSpec w_Model_judged ({ frames := 7, cells := 0, slots := 0, locals := 167 })).room.cells ∧ 0 ≤ (headSpec w_Model_judged ({ frames := 7, cells := 0, slots := 0, locals := 167 })).room.slots := ⟨Nat.le_refl _, Nat.le_refl _⟩
  have hP : va_P (dC, dI) classes G s.heap := hP
  have hl := lv_entry ([.ref mo]) (n := 4) (Nat.le_of_ble_eq_true rfl)
  rw [lg_entry_eq]
  generalize (lg_sl ([.ref mo]) ++ List.replicate (4 - (lg_sl ([.ref mo])).length) Slot.unset).toArray = ls at hl ⊢
  have hl : lv_has ls 4 [(0, .ref mo)] := hl
  obtain ⟨cX_mo, eX_mo⟩ : ∃ z : va_E, z = .inr (12, (.int mer :: .int mfed :: .int mwr :: .int (nI K9) :: .int (nI KL) :: .ref moc :: .ref msT :: .ref mrV :: .ref msP :: .int mqs :: .ref mrA :: .ref mbA :: .ref mwA :: .ref mhA :: .ref mfA :: .ref mpA :: .ref mxA :: .ref myA :: .ref mmA :: .ref mqA :: .ref mzA :: .ref mwy :: .ref mfd :: .int (nI s9) :: .int (nI wq.length) :: .int (nI cq) :: .int fq :: .int (nI pq) :: .int mdp :: .int vq :: .long mnw :: .int mmk :: [])) := ⟨_, rfl⟩
  rw [← eX_mo] at kmo
  refine lv_aload_n hx hb d_Model_judged_0 rfl (lv_at hl 0 rfl) ?_
  refine lv_dup hx hb d_Model_judged_1 rfl ?_
  obtain ⟨i_1, hg_1⟩ := List.getElem?_of_mem kmo.2
  rw [eX_mo] at hg_1
  refine va_get (v := .int (nI cq)) hx hb htb i_Model hown hK hP i_1 hg_1 rfl 25 (by decide) (htb _ q7_239) (fun _ h9 => h9) rfl d_Model_judged_2 ?_
  refine lv_iconst (v := 1) hx hb d_Model_judged_5 (by decide) ?_
  refine lv_iadd hx hb d_Model_judged_6 ?_
  rw [show ((nI cq) + 1 : Int32) = nI (cq + 1) from nI_add cq 1]
  refine va_put (v := .int (nI (cq + 1))) (ty := .int) hx hb htb i_Model t_Model t_Model_ok n_Model hown hK hP hD hS i_1 hg_1 rfl 25 (by decide) (htb _ q7_239) (fun _ h9 => h9) rfl (by decide +kernel) rfl rfl (Nat.le_of_ble_eq_true rfl) d_Model_judged_7 (fun H7 locs hP hD2 hS => ?_)
  have hP : va_P (dC, dI) classes (G.set i_1 (mo, .inr (12, (.int mer :: .int mfed :: .int mwr :: .int (nI K9) :: .int (nI KL) :: .ref moc :: .ref msT :: .ref mrV :: .ref msP :: .int mqs :: .ref mrA :: .ref mbA :: .ref mwA :: .ref mhA :: .ref mfA :: .ref mpA :: .ref mxA :: .ref myA :: .ref mmA :: .ref mqA :: .ref mzA :: .ref mwy :: .ref mfd :: .int (nI s9) :: .int (nI wq.length) :: .int (nI (cq + 1)) :: .int fq :: .int (nI pq) :: .int mdp :: .int vq :: .long mnw :: .int mmk :: [])))) H7 := hP
  have hD3 : va_D A (G.set i_1 (mo, .inr (12, (.int mer :: .int mfed :: .int mwr :: .int (nI K9) :: .int (nI KL) :: .ref moc :: .ref msT :: .ref mrV :: .ref msP :: .int mqs :: .ref mrA :: .ref mbA :: .ref mwA :: .ref mhA :: .ref mfA :: .ref mpA :: .ref mxA :: .ref myA :: .ref mmA :: .ref mqA :: .ref mzA :: .ref mwy :: .ref mfd :: .int (nI s9) :: .int (nI wq.length) :: .int (nI (cq + 1)) :: .int fq :: .int (nI pq) :: .int mdp :: .int vq :: .long mnw :: .int mmk :: [])))) := hD2
  have hTy := TR.setX (c' := .inr (12, (.int mer :: .int mfed :: .int mwr :: .int (nI K9) :: .int (nI KL) :: .ref moc :: .ref msT :: .ref mrV :: .ref msP :: .int mqs :: .ref mrA :: .ref mbA :: .ref mwA :: .ref mhA :: .ref mfA :: .ref mpA :: .ref mxA :: .ref myA :: .ref mmA :: .ref mqA :: .ref mzA :: .ref mwy :: .ref mfd :: .int (nI s9) :: .int (nI wq.length) :: .int (nI (cq + 1)) :: .int fq :: .int (nI pq) :: .int mdp :: .int vq :: .long mnw :: .int mmk :: []))) hTy hg_1 kmo.1
  have kmmA := Xc.setX (c' := .inr (12, (.int mer :: .int mfed :: .int mwr :: .int (nI K9) :: .int (nI KL) :: .ref moc :: .ref msT :: .ref mrV :: .ref msP :: .int mqs :: .ref mrA :: .ref mbA :: .ref mwA :: .ref mhA :: .ref mfA :: .ref mpA :: .ref mxA :: .ref myA :: .ref mmA :: .ref mqA :: .ref mzA :: .ref mwy :: .ref mfd :: .int (nI s9) :: .int (nI wq.length) :: .int (nI (cq + 1)) :: .int fq :: .int (nI pq) :: .int mdp :: .int vq :: .long mnw :: .int mmk :: []))) kmmA hg_1 (fun e => hx_mo_mmA.symm (congrArg Prod.fst e))
  have kmrA := Xc.setX (c' := .inr (12, (.int mer :: .int mfed :: .int mwr :: .int (nI K9) :: .int (nI KL) :: .ref moc :: .ref msT :: .ref mrV :: .ref msP :: .int mqs :: .ref mrA :: .ref mbA :: .ref mwA :: .ref mhA :: .ref mfA :: .ref mpA :: .ref mxA :: .ref myA :: .ref mmA :: .ref mqA :: .ref mzA :: .ref mwy :: .ref mfd :: .int (nI s9) :: .int (nI wq.length) :: .int (nI (cq + 1)) :: .int fq :: .int (nI pq) :: .int mdp :: .int vq :: .long mnw :: .int mmk :: []))) kmrA hg_1 (fun e => hx_mo_mrA.symm (congrArg Prod.fst e))
  have kmwy := Xc.setX (c' := .inr (12, (.int mer :: .int mfed :: .int mwr :: .int (nI K9) :: .int (nI KL) :: .ref moc :: .ref msT :: .ref mrV :: .ref msP :: .int mqs :: .ref mrA :: .ref mbA :: .ref mwA :: .ref mhA :: .ref mfA :: .ref mpA :: .ref mxA :: .ref myA :: .ref mmA :: .ref mqA :: .ref mzA :: .ref mwy :: .ref mfd :: .int (nI s9) :: .int (nI wq.length) :: .int (nI (cq + 1)) :: .int fq :: .int (nI pq) :: .int mdp :: .int vq :: .long mnw :: .int mmk :: []))) kmwy hg_1 (fun e => hx_mo_mwy.symm (congrArg Prod.fst e))
  have kmsT := Xc.setX (c' := .inr (12, (.int mer :: .int mfed :: .int mwr :: .int (nI K9) :: .int (nI KL) :: .ref moc :: .ref msT :: .ref mrV :: .ref msP :: .int mqs :: .ref mrA :: .ref mbA :: .ref mwA :: .ref mhA :: .ref mfA :: .ref mpA :: .ref mxA :: .ref myA :: .ref mmA :: .ref mqA :: .ref mzA :: .ref mwy :: .ref mfd :: .int (nI s9) :: .int (nI wq.length) :: .int (nI (cq + 1)) :: .int fq :: .int (nI pq) :: .int mdp :: .int vq :: .long mnw :: .int mmk :: []))) kmsT hg_1 (fun e => hx_mo_msT.symm (congrArg Prod.fst e))
  have kmrV := Xc.setX (c' := .inr (12, (.int mer :: .int mfed :: .int mwr :: .int (nI K9) :: .int (nI KL) :: .ref moc :: .ref msT :: .ref mrV :: .ref msP :: .int mqs :: .ref mrA :: .ref mbA :: .ref mwA :: .ref mhA :: .ref mfA :: .ref mpA :: .ref mxA :: .ref myA :: .ref mmA :: .ref mqA :: .ref mzA :: .ref mwy :: .ref mfd :: .int (nI s9) :: .int (nI wq.length) :: .int (nI (cq + 1)) :: .int fq :: .int (nI pq) :: .int mdp :: .int vq :: .long mnw :: .int mmk :: []))) kmrV hg_1 (fun e => hx_mo_mrV.symm (congrArg Prod.fst e))
  have kmfd := Xc.setX (c' := .inr (12, (.int mer :: .int mfed :: .int mwr :: .int (nI K9) :: .int (nI KL) :: .ref moc :: .ref msT :: .ref mrV :: .ref msP :: .int mqs :: .ref mrA :: .ref mbA :: .ref mwA :: .ref mhA :: .ref mfA :: .ref mpA :: .ref mxA :: .ref myA :: .ref mmA :: .ref mqA :: .ref mzA :: .ref mwy :: .ref mfd :: .int (nI s9) :: .int (nI wq.length) :: .int (nI (cq + 1)) :: .int fq :: .int (nI pq) :: .int mdp :: .int vq :: .long mnw :: .int mmk :: []))) kmfd hg_1 (fun e => hx_mo_mfd.symm (congrArg Prod.fst e))
  have hFR := hFR.tr (FL.set (Ad := Ad) (X := [mo, mmA, mrA, mfd]) (c' := .inr (12, (.int mer :: .int mfed :: .int mwr :: .int (nI K9) :: .int (nI KL) :: .ref moc :: .ref msT :: .ref mrV :: .ref msP :: .int mqs :: .ref mrA :: .ref mbA :: .ref mwA :: .ref mhA :: .ref mfA :: .ref mpA :: .ref mxA :: .ref myA :: .ref mmA :: .ref mqA :: .ref mzA :: .ref mwy :: .ref mfd :: .int (nI s9) :: .int (nI wq.length) :: .int (nI (cq + 1)) :: .int fq :: .int (nI pq) :: .int mdp :: .int vq :: .long mnw :: .int mmk :: []))) hg_1 (by simp))
  have hg_1 := set_here (c' := .inr (12, (.int mer :: .int mfed :: .int mwr :: .int (nI K9) :: .int (nI KL) :: .ref moc :: .ref msT :: .ref mrV :: .ref msP :: .int mqs :: .ref mrA :: .ref mbA :: .ref mwA :: .ref mhA :: .ref mfA :: .ref mpA :: .ref mxA :: .ref myA :: .ref mmA :: .ref mqA :: .ref mzA :: .ref mwy :: .ref mfd :: .int (nI s9) :: .int (nI wq.length) :: .int (nI (cq + 1)) :: .int fq :: .int (nI pq) :: .int mdp :: .int vq :: .long mnw :: .int mmk :: []))) hg_1
  have kmo : Xc Ad mo (.inr (12, (.int mer :: .int mfed :: .int mwr :: .int (nI K9) :: .int (nI KL) :: .ref moc :: .ref msT :: .ref mrV :: .ref msP :: .int mqs :: .ref mrA :: .ref mbA :: .ref mwA :: .ref mhA :: .ref mfA :: .ref mpA :: .ref mxA :: .ref myA :: .ref mmA :: .ref mqA :: .ref mzA :: .ref mwy :: .ref mfd :: .int (nI s9) :: .int (nI wq.length) :: .int (nI (cq + 1)) :: .int fq :: .int (nI pq) :: .int mdp :: .int vq :: .long mnw :: .int mmk :: []))) (G.set i_1 (mo, .inr (12, (.int mer :: .int mfed :: .int mwr :: .int (nI K9) :: .int (nI KL) :: .ref moc :: .ref msT :: .ref mrV :: .ref msP :: .int mqs :: .ref mrA :: .ref mbA :: .ref mwA :: .ref mhA :: .ref mfA :: .ref mpA :: .ref mxA :: .ref myA :: .ref mmA :: .ref mqA :: .ref mzA :: .ref mwy :: .ref mfd :: .int (nI s9) :: .int (nI wq.length) :: .int (nI (cq + 1)) :: .int fq :: .int (nI pq) :: .int mdp :: .int vq :: .long mnw :: .int mmk :: [])))) := ⟨kmo.1, List.mem_of_getElem? hg_1⟩
  have hD := hD3
  clear hD3 hD2
  generalize G.set i_1 (mo, .inr (12, (.int mer :: .int mfed :: .int mwr :: .int (nI K9) :: .int (nI KL) :: .ref moc :: .ref msT :: .ref mrV :: .ref msP :: .int mqs :: .ref mrA :: .ref mbA :: .ref mwA :: .ref mhA :: .ref mfA :: .ref mpA :: .ref mxA :: .ref myA :: .ref mmA :: .ref mqA :: .ref mzA :: .ref mwy :: .ref mfd :: .int (nI s9) :: .int (nI wq.length) :: .int (nI (cq + 1)) :: .int fq :: .int (nI pq) :: .int mdp :: .int vq :: .long mnw :: .int mmk :: []))) = G_2 at hP hD hTy hFR kmo kmmA kmrA kmwy kmsT kmrV kmfd hg_1
  obtain ⟨cX_3, eX_3⟩ : ∃ z : va_E, z = .inr (12, (.int mer :: .int mfed :: .int mwr :: .int (nI K9) :: .int (nI KL) :: .ref moc :: .ref msT :: .ref mrV :: .ref msP :: .int mqs :: .ref mrA :: .ref mbA :: .ref mwA :: .ref mhA :: .ref mfA :: .ref mpA :: .ref mxA :: .ref myA :: .ref mmA :: .ref mqA :: .ref mzA :: .ref mwy :: .ref mfd :: .int (nI s9) :: .int (nI wq.length) :: .int (nI (cq + 1)) :: .int fq :: .int (nI pq) :: .int mdp :: .int vq :: .long mnw :: .int mmk :: [])) := ⟨_, rfl⟩
  rw [← eX_3] at kmo
  refine lv_iconst (v := 0) hx hb d_Model_judged_10 (by decide) ?_
  refine lv_istore_n (lv' := [(1, .int 0), (0, .ref mo)]) hx hb d_Model_judged_11 rfl hl (by decide) rfl (fun ls hl => ?_)
  refine lv_iconst (v := -1) hx hb d_Model_judged_12 (by decide) ?_
  refine lv_istore_n (lv' := [(2, .int (-1)), (1, .int 0), (0, .ref mo)]) hx hb d_Model_judged_13 rfl hl (by decide) rfl (fun ls hl => ?_)
  refine lv_aload_n hx hb d_Model_judged_14 rfl (lv_at hl 2 rfl) ?_
  refine va_get (v := .int (nI s9)) hx hb htb i_Model hown hK hP i_1 hg_1 rfl 23 (by decide) (htb _ q7_237) (fun _ h9 => h9) rfl d_Model_judged_15 ?_
  refine lv_iconst (v := 2) hx hb d_Model_judged_18 (by decide) ?_
  refine lv_isub hx hb d_Model_judged_19 ?_
  refine lv_istore_n (lv' := [(3, .int ((nI s9) - 2)), (2, .int (-1)), (1, .int 0), (0, .ref mo)]) hx hb d_Model_judged_20 rfl hl (by decide) rfl (fun ls hl => ?_)
  have hl : lv_has ls 4 [(3, .int (jD (s9 - 1))), (2, .int (-1)), (1, .int 0), (0, .ref mo)] := by rw [← jD_sub2 (by omega)]; exact hl
  refine w_loopW (α := Nat × Int32 × Int32 × (Nat → Int32) × (Nat → Int32) × Int32 × va_W) (fun a9 => 0 ≤ a9.1 ∧ a9.1 ≤ (s9 - 1) ∧ TR γ κ Ad τ a9.2.2.2.2.2.2 ∧ FL Ad [mo, mmA, mrA, mfd] G a9.2.2.2.2.2.2 ∧ Xc Ad mo (.inr (12, (.int mer :: .int mfed :: .int mwr :: .int (nI K9) :: .int (nI KL) :: .ref moc :: .ref msT :: .ref mrV :: .ref msP :: .int a9.2.2.2.2.2.1 :: .ref mrA :: .ref mbA :: .ref mwA :: .ref mhA :: .ref mfA :: .ref mpA :: .ref mxA :: .ref myA :: .ref mmA :: .ref mqA :: .ref mzA :: .ref mwy :: .ref mfd :: .int (nI s9) :: .int (nI wq.length) :: .int (nI (cq + 1)) :: .int fq :: .int (nI pq) :: .int mdp :: .int vq :: .long mnw :: .int mmk :: []))) a9.2.2.2.2.2.2 ∧ Xc Ad mmA (.inl (γ.2.1, 600, .inl a9.2.2.2.1)) a9.2.2.2.2.2.2 ∧ Xc Ad mrA (.inl (γ.2.1, 600, .inl a9.2.2.2.2.1)) a9.2.2.2.2.2.2 ∧ Xc Ad mwy (.inl (γ.2.1, 16, .inl fw)) a9.2.2.2.2.2.2 ∧ Xc Ad msT (.inl (gT, 16, .inr (.inr (.inr (.inr fS))))) a9.2.2.2.2.2.2 ∧ Xc Ad mrV (.inl (gT, 8, .inr (.inr (.inr (.inr fV))))) a9.2.2.2.2.2.2 ∧ Xc Ad mfd (.inl (γ.2.1, 16, .inl ff)) a9.2.2.2.2.2.2 ∧ (FJ (rFT τ fS fV KL mnw mmk wl) (s9 - 1) a9.1 a9.2.1 a9.2.2.1 ∧ bR a9.2.2.2.1 ∧ bR a9.2.2.2.2.1)) (fun a9 => a9.1) (fun a9 => [(3, .int (jD a9.1)), (2, .int a9.2.2.1), (1, .int a9.2.1), (0, .ref mo)]) (fun _ => []) (fun a9 => a9.2.2.2.2.2.2) 4 21 (fun a9 HL21 locs ls hJ hP hD hS hl ih21 => ?_) ((s9 - 1), (0 : Int32), (-1 : Int32), fm, fr, mqs, G_2) _ _ ls ⟨by omega, by omega, hTy, hFR, (by have h9 := kmo; rw [eX_3] at h9; exact h9), kmmA, kmrA, kmwy, kmsT, kmrV, kmfd, ⟨Or.inl ⟨rfl, rfl⟩, hfm, hfr⟩⟩ hP hD hS (lv_sub hl [0, 1, 2, 3, 4] rfl)
  obtain ⟨z21, x21_1, x21_2, f21_mmA, f21_mrA, v21_mqs, G21⟩ := a9
  obtain ⟨hy21, hz21, hTy, hFR, kmo, kmmA, kmrA, kmwy, kmsT, kmrV, kmfd, hJ21⟩ := hJ
  dsimp only at hy21 hz21 hTy hFR kmo kmmA kmrA kmwy kmsT kmrV kmfd hP hD hl ih21 hJ21
  obtain _ | z21 := z21
  · have hl : lv_has ls 4 [(3, .int (-1)), (2, .int x21_2), (1, .int x21_1), (0, .ref mo)] := hl
    obtain ⟨cX_4, eX_4⟩ : ∃ z : va_E, z = .inr (12, (.int mer :: .int mfed :: .int mwr :: .int (nI K9) :: .int (nI KL) :: .ref moc :: .ref msT :: .ref mrV :: .ref msP :: .int v21_mqs :: .ref mrA :: .ref mbA :: .ref mwA :: .ref mhA :: .ref mfA :: .ref mpA :: .ref mxA :: .ref myA :: .ref mmA :: .ref mqA :: .ref mzA :: .ref mwy :: .ref mfd :: .int (nI s9) :: .int (nI wq.length) :: .int (nI (cq + 1)) :: .int fq :: .int (nI pq) :: .int mdp :: .int vq :: .long mnw :: .int mmk :: [])) := ⟨_, rfl⟩
    rw [← eX_4] at kmo
    obtain ⟨hFJ, hfm, hfr⟩ := hJ21
    refine lv_iload_n hx hb d_Model_judged_21 rfl (lv_at hl 0 rfl) ?_
    refine lv_if_lt (tgt := 43) hx hb d_Model_judged_22 (by decide) (fun c22 => ?_) (fun c22 => ?_)
    rotate_left
    · exact absurd c22 (by decide)
    refine lv_iload_n hx hb d_Model_judged_43 rfl (lv_at hl 2 rfl) ?_
    refine lv_if_eq (tgt := 57) hx hb d_Model_judged_44 (by decide) (fun c44 => ?_) (fun c44 => ?_)
    · have p44 : x21_1 = (0 : Int32) := c44
      refine lv_iconst (v := 0) hx hb d_Model_judged_57 (by decide) ?_
      refine lv_istore_n (lv' := [(3, .int 0), (2, .int x21_2), (1, .int x21_1), (0, .ref mo)]) hx hb d_Model_judged_58 rfl hl (by decide) rfl (fun ls hl => ?_)
      refine w_loopW (α := Nat × (Nat → Int32) × va_W) (fun a9 => 0 ≤ a9.1 ∧ a9.1 ≤ s9 ∧ TR γ κ Ad τ a9.2.2 ∧ FL Ad [mo, mmA, mrA, mfd] G a9.2.2 ∧ Xc Ad mo cX_4 a9.2.2 ∧ Xc Ad mmA (.inl (γ.2.1, 600, .inl f21_mmA)) a9.2.2 ∧ Xc Ad mrA (.inl (γ.2.1, 600, .inl f21_mrA)) a9.2.2 ∧ Xc Ad mwy (.inl (γ.2.1, 16, .inl fw)) a9.2.2 ∧ Xc Ad msT (.inl (gT, 16, .inr (.inr (.inr (.inr fS))))) a9.2.2 ∧ Xc Ad mrV (.inl (gT, 8, .inr (.inr (.inr (.inr fV))))) a9.2.2 ∧ Xc Ad mfd (.inl (γ.2.1, 16, .inl a9.2.1)) a9.2.2 ∧ (∀ j9, j9 < a9.1 → a9.2.1 j9 = nI (wl.getD j9 0))) (fun a9 => s9 - a9.1) (fun a9 => [(3, .int (nI a9.1)), (2, .int x21_2), (1, .int x21_1), (0, .ref mo)]) (fun _ => []) (fun a9 => a9.2.2) 4 59 (fun a9 HL59 locs ls hJ hP hD hS hl ih59 => ?_) (0, ff, G21) _ _ ls ⟨by omega, by omega, hTy, hFR, kmo, kmmA, kmrA, kmwy, kmsT, kmrV, kmfd, fun j9 h9 => absurd h9 (Nat.not_lt_zero j9)⟩ hP hD hS (lv_sub hl [0, 1, 2, 3, 4] rfl)
      obtain ⟨z59, f59_mfd, G59⟩ := a9
      obtain ⟨hy59, hz59, hTy, hFR, kmo, kmmA, kmrA, kmwy, kmsT, kmrV, kmfd, hJ59⟩ := hJ
      dsimp only at hy59 hz59 hTy hFR kmo kmmA kmrA kmwy kmsT kmrV kmfd hP hD hl ih59 hJ59
      refine lv_iload_n hx hb d_Model_judged_59 rfl (lv_at hl 0 rfl) ?_
      refine lv_aload_n hx hb d_Model_judged_60 rfl (lv_at hl 3 rfl) ?_
      obtain ⟨i_5, hg_5⟩ := List.getElem?_of_mem kmo.2
      rw [eX_4] at hg_5
      refine va_get (v := .int (nI s9)) hx hb htb i_Model hown hK hP i_5 hg_5 rfl 23 (by decide) (htb _ q7_237) (fun _ h9 => h9) rfl d_Model_judged_61 ?_
      refine lv_icmp_ge (tgt := 85) hx hb d_Model_judged_64 (by decide) (fun c64 => ?_) (fun c64 => ?_)
      · have p64 : s9 ≤ z59 := ((nI_leI (a := s9) (b := z59) (by omega) (by omega)).mp c64)
        refine lv_aload_n hx hb d_Model_judged_85 rfl (lv_at hl 3 rfl) ?_
        refine lv_aload_n hx hb d_Model_judged_86 rfl (lv_at hl 3 rfl) ?_
        refine va_get (v := .int (nI s9)) hx hb htb i_Model hown hK hP i_5 hg_5 rfl 23 (by decide) (htb _ q7_237) (fun _ h9 => h9) rfl d_Model_judged_87 ?_
        refine va_put (v := .int (nI s9)) (ty := .int) hx hb htb i_Model t_Model t_Model_ok n_Model hown hK hP hD hS i_5 hg_5 rfl 24 (by decide) (htb _ q7_238) (fun _ h9 => h9) rfl (by decide +kernel) rfl rfl (Nat.le_of_ble_eq_true rfl) d_Model_judged_90 (fun H90 locs hP hD2 hS => ?_)
        have hP : va_P (dC, dI) classes (G59.set i_5 (mo, .inr (12, (.int mer :: .int mfed :: .int mwr :: .int (nI K9) :: .int (nI KL) :: .ref moc :: .ref msT :: .ref mrV :: .ref msP :: .int v21_mqs :: .ref mrA :: .ref mbA :: .ref mwA :: .ref mhA :: .ref mfA :: .ref mpA :: .ref mxA :: .ref myA :: .ref mmA :: .ref mqA :: .ref mzA :: .ref mwy :: .ref mfd :: .int (nI s9) :: .int (nI s9) :: .int (nI (cq + 1)) :: .int fq :: .int (nI pq) :: .int mdp :: .int vq :: .long mnw :: .int mmk :: [])))) H90 := hP
        have hD3 : va_D A (G59.set i_5 (mo, .inr (12, (.int mer :: .int mfed :: .int mwr :: .int (nI K9) :: .int (nI KL) :: .ref moc :: .ref msT :: .ref mrV :: .ref msP :: .int v21_mqs :: .ref mrA :: .ref mbA :: .ref mwA :: .ref mhA :: .ref mfA :: .ref mpA :: .ref mxA :: .ref myA :: .ref mmA :: .ref mqA :: .ref mzA :: .ref mwy :: .ref mfd :: .int (nI s9) :: .int (nI s9) :: .int (nI (cq + 1)) :: .int fq :: .int (nI pq) :: .int mdp :: .int vq :: .long mnw :: .int mmk :: [])))) := hD2
        have hTy := TR.setX (c' := .inr (12, (.int mer :: .int mfed :: .int mwr :: .int (nI K9) :: .int (nI KL) :: .ref moc :: .ref msT :: .ref mrV :: .ref msP :: .int v21_mqs :: .ref mrA :: .ref mbA :: .ref mwA :: .ref mhA :: .ref mfA :: .ref mpA :: .ref mxA :: .ref myA :: .ref mmA :: .ref mqA :: .ref mzA :: .ref mwy :: .ref mfd :: .int (nI s9) :: .int (nI s9) :: .int (nI (cq + 1)) :: .int fq :: .int (nI pq) :: .int mdp :: .int vq :: .long mnw :: .int mmk :: []))) hTy hg_5 kmo.1
        have kmmA := Xc.setX (c' := .inr (12, (.int mer :: .int mfed :: .int mwr :: .int (nI K9) :: .int (nI KL) :: .ref moc :: .ref msT :: .ref mrV :: .ref msP :: .int v21_mqs :: .ref mrA :: .ref mbA :: .ref mwA :: .ref mhA :: .ref mfA :: .ref mpA :: .ref mxA :: .ref myA :: .ref mmA :: .ref mqA :: .ref mzA :: .ref mwy :: .ref mfd :: .int (nI s9) :: .int (nI s9) :: .int (nI (cq + 1)) :: .int fq :: .int (nI pq) :: .int mdp :: .int vq :: .long mnw :: .int mmk :: []))) kmmA hg_5 (fun e => hx_mo_mmA.symm (congrArg Prod.fst e))
        have kmrA := Xc.setX (c' := .inr (12, (.int mer :: .int mfed :: .int mwr :: .int (nI K9) :: .int (nI KL) :: .ref moc :: .ref msT :: .ref mrV :: .ref msP :: .int v21_mqs :: .ref mrA :: .ref mbA :: .ref mwA :: .ref mhA :: .ref mfA :: .ref mpA :: .ref mxA :: .ref myA :: .ref mmA :: .ref mqA :: .ref mzA :: .ref mwy :: .ref mfd :: .int (nI s9) :: .int (nI s9) :: .int (nI (cq + 1)) :: .int fq :: .int (nI pq) :: .int mdp :: .int vq :: .long mnw :: .int mmk :: []))) kmrA hg_5 (fun e => hx_mo_mrA.symm (congrArg Prod.fst e))
        have kmwy := Xc.setX (c' := .inr (12, (.int mer :: .int mfed :: .int mwr :: .int (nI K9) :: .int (nI KL) :: .ref moc :: .ref msT :: .ref mrV :: .ref msP :: .int v21_mqs :: .ref mrA :: .ref mbA :: .ref mwA :: .ref mhA :: .ref mfA :: .ref mpA :: .ref mxA :: .ref myA :: .ref mmA :: .ref mqA :: .ref mzA :: .ref mwy :: .ref mfd :: .int (nI s9) :: .int (nI s9) :: .int (nI (cq + 1)) :: .int fq :: .int (nI pq) :: .int mdp :: .int vq :: .long mnw :: .int mmk :: []))) kmwy hg_5 (fun e => hx_mo_mwy.symm (congrArg Prod.fst e))
        have kmsT := Xc.setX (c' := .inr (12, (.int mer :: .int mfed :: .int mwr :: .int (nI K9) :: .int (nI KL) :: .ref moc :: .ref msT :: .ref mrV :: .ref msP :: .int v21_mqs :: .ref mrA :: .ref mbA :: .ref mwA :: .ref mhA :: .ref mfA :: .ref mpA :: .ref mxA :: .ref myA :: .ref mmA :: .ref mqA :: .ref mzA :: .ref mwy :: .ref mfd :: .int (nI s9) :: .int (nI s9) :: .int (nI (cq + 1)) :: .int fq :: .int (nI pq) :: .int mdp :: .int vq :: .long mnw :: .int mmk :: []))) kmsT hg_5 (fun e => hx_mo_msT.symm (congrArg Prod.fst e))
        have kmrV := Xc.setX (c' := .inr (12, (.int mer :: .int mfed :: .int mwr :: .int (nI K9) :: .int (nI KL) :: .ref moc :: .ref msT :: .ref mrV :: .ref msP :: .int v21_mqs :: .ref mrA :: .ref mbA :: .ref mwA :: .ref mhA :: .ref mfA :: .ref mpA :: .ref mxA :: .ref myA :: .ref mmA :: .ref mqA :: .ref mzA :: .ref mwy :: .ref mfd :: .int (nI s9) :: .int (nI s9) :: .int (nI (cq + 1)) :: .int fq :: .int (nI pq) :: .int mdp :: .int vq :: .long mnw :: .int mmk :: []))) kmrV hg_5 (fun e => hx_mo_mrV.symm (congrArg Prod.fst e))
        have kmfd := Xc.setX (c' := .inr (12, (.int mer :: .int mfed :: .int mwr :: .int (nI K9) :: .int (nI KL) :: .ref moc :: .ref msT :: .ref mrV :: .ref msP :: .int v21_mqs :: .ref mrA :: .ref mbA :: .ref mwA :: .ref mhA :: .ref mfA :: .ref mpA :: .ref mxA :: .ref myA :: .ref mmA :: .ref mqA :: .ref mzA :: .ref mwy :: .ref mfd :: .int (nI s9) :: .int (nI s9) :: .int (nI (cq + 1)) :: .int fq :: .int (nI pq) :: .int mdp :: .int vq :: .long mnw :: .int mmk :: []))) kmfd hg_5 (fun e => hx_mo_mfd.symm (congrArg Prod.fst e))
        have hFR := hFR.tr (FL.set (Ad := Ad) (X := [mo, mmA, mrA, mfd]) (c' := .inr (12, (.int mer :: .int mfed :: .int mwr :: .int (nI K9) :: .int (nI KL) :: .ref moc :: .ref msT :: .ref mrV :: .ref msP :: .int v21_mqs :: .ref mrA :: .ref mbA :: .ref mwA :: .ref mhA :: .ref mfA :: .ref mpA :: .ref mxA :: .ref myA :: .ref mmA :: .ref mqA :: .ref mzA :: .ref mwy :: .ref mfd :: .int (nI s9) :: .int (nI s9) :: .int (nI (cq + 1)) :: .int fq :: .int (nI pq) :: .int mdp :: .int vq :: .long mnw :: .int mmk :: []))) hg_5 (by simp))
        have hg_5 := set_here (c' := .inr (12, (.int mer :: .int mfed :: .int mwr :: .int (nI K9) :: .int (nI KL) :: .ref moc :: .ref msT :: .ref mrV :: .ref msP :: .int v21_mqs :: .ref mrA :: .ref mbA :: .ref mwA :: .ref mhA :: .ref mfA :: .ref mpA :: .ref mxA :: .ref myA :: .ref mmA :: .ref mqA :: .ref mzA :: .ref mwy :: .ref mfd :: .int (nI s9) :: .int (nI s9) :: .int (nI (cq + 1)) :: .int fq :: .int (nI pq) :: .int mdp :: .int vq :: .long mnw :: .int mmk :: []))) hg_5
        have kmo : Xc Ad mo (.inr (12, (.int mer :: .int mfed :: .int mwr :: .int (nI K9) :: .int (nI KL) :: .ref moc :: .ref msT :: .ref mrV :: .ref msP :: .int v21_mqs :: .ref mrA :: .ref mbA :: .ref mwA :: .ref mhA :: .ref mfA :: .ref mpA :: .ref mxA :: .ref myA :: .ref mmA :: .ref mqA :: .ref mzA :: .ref mwy :: .ref mfd :: .int (nI s9) :: .int (nI s9) :: .int (nI (cq + 1)) :: .int fq :: .int (nI pq) :: .int mdp :: .int vq :: .long mnw :: .int mmk :: []))) (G59.set i_5 (mo, .inr (12, (.int mer :: .int mfed :: .int mwr :: .int (nI K9) :: .int (nI KL) :: .ref moc :: .ref msT :: .ref mrV :: .ref msP :: .int v21_mqs :: .ref mrA :: .ref mbA :: .ref mwA :: .ref mhA :: .ref mfA :: .ref mpA :: .ref mxA :: .ref myA :: .ref mmA :: .ref mqA :: .ref mzA :: .ref mwy :: .ref mfd :: .int (nI s9) :: .int (nI s9) :: .int (nI (cq + 1)) :: .int fq :: .int (nI pq) :: .int mdp :: .int vq :: .long mnw :: .int mmk :: [])))) := ⟨kmo.1, List.mem_of_getElem? hg_5⟩
        have hD := hD3
        clear hD3 hD2
        generalize G59.set i_5 (mo, .inr (12, (.int mer :: .int mfed :: .int mwr :: .int (nI K9) :: .int (nI KL) :: .ref moc :: .ref msT :: .ref mrV :: .ref msP :: .int v21_mqs :: .ref mrA :: .ref mbA :: .ref mwA :: .ref mhA :: .ref mfA :: .ref mpA :: .ref mxA :: .ref myA :: .ref mmA :: .ref mqA :: .ref mzA :: .ref mwy :: .ref mfd :: .int (nI s9) :: .int (nI s9) :: .int (nI (cq + 1)) :: .int fq :: .int (nI pq) :: .int mdp :: .int vq :: .long mnw :: .int mmk :: []))) = G_6 at hP hD hTy hFR kmo kmmA kmrA kmwy kmsT kmrV kmfd hg_5
        obtain ⟨cX_7, eX_7⟩ : ∃ z : va_E, z = .inr (12, (.int mer :: .int mfed :: .int mwr :: .int (nI K9) :: .int (nI KL) :: .ref moc :: .ref msT :: .ref mrV :: .ref msP :: .int v21_mqs :: .ref mrA :: .ref mbA :: .ref mwA :: .ref mhA :: .ref mfA :: .ref mpA :: .ref mxA :: .ref myA :: .ref mmA :: .ref mqA :: .ref mzA :: .ref mwy :: .ref mfd :: .int (nI s9) :: .int (nI s9) :: .int (nI (cq + 1)) :: .int fq :: .int (nI pq) :: .int mdp :: .int vq :: .long mnw :: .int mmk :: [])) := ⟨_, rfl⟩
        rw [← eX_7] at kmo
        refine lv_aload_n hx hb d_Model_judged_93 rfl (lv_at hl 3 rfl) ?_
        refine lv_iload_n hx hb d_Model_judged_94 rfl (lv_at hl 2 rfl) ?_
        refine va_put (v := .int x21_1) (ty := .int) hx hb htb i_Model t_Model t_Model_ok n_Model hown hK hP hD hS i_5 hg_5 rfl 29 (by decide) (htb _ q8_3) (fun _ h9 => h9) rfl (by decide +kernel) rfl rfl (Nat.le_of_ble_eq_true rfl) d_Model_judged_95 (fun H95 locs hP hD2 hS => ?_)
        have hP : va_P (dC, dI) classes (G_6.set i_5 (mo, .inr (12, (.int mer :: .int mfed :: .int mwr :: .int (nI K9) :: .int (nI KL) :: .ref moc :: .ref msT :: .ref mrV :: .ref msP :: .int v21_mqs :: .ref mrA :: .ref mbA :: .ref mwA :: .ref mhA :: .ref mfA :: .ref mpA :: .ref mxA :: .ref myA :: .ref mmA :: .ref mqA :: .ref mzA :: .ref mwy :: .ref mfd :: .int (nI s9) :: .int (nI s9) :: .int (nI (cq + 1)) :: .int fq :: .int (nI pq) :: .int mdp :: .int x21_1 :: .long mnw :: .int mmk :: [])))) H95 := hP
        have hD3 : va_D A (G_6.set i_5 (mo, .inr (12, (.int mer :: .int mfed :: .int mwr :: .int (nI K9) :: .int (nI KL) :: .ref moc :: .ref msT :: .ref mrV :: .ref msP :: .int v21_mqs :: .ref mrA :: .ref mbA :: .ref mwA :: .ref mhA :: .ref mfA :: .ref mpA :: .ref mxA :: .ref myA :: .ref mmA :: .ref mqA :: .ref mzA :: .ref mwy :: .ref mfd :: .int (nI s9) :: .int (nI s9) :: .int (nI (cq + 1)) :: .int fq :: .int (nI pq) :: .int mdp :: .int x21_1 :: .long mnw :: .int mmk :: [])))) := hD2
        have hTy := TR.setX (c' := .inr (12, (.int mer :: .int mfed :: .int mwr :: .int (nI K9) :: .int (nI KL) :: .ref moc :: .ref msT :: .ref mrV :: .ref msP :: .int v21_mqs :: .ref mrA :: .ref mbA :: .ref mwA :: .ref mhA :: .ref mfA :: .ref mpA :: .ref mxA :: .ref myA :: .ref mmA :: .ref mqA :: .ref mzA :: .ref mwy :: .ref mfd :: .int (nI s9) :: .int (nI s9) :: .int (nI (cq + 1)) :: .int fq :: .int (nI pq) :: .int mdp :: .int x21_1 :: .long mnw :: .int mmk :: []))) hTy hg_5 kmo.1
        have kmmA := Xc.setX (c' := .inr (12, (.int mer :: .int mfed :: .int mwr :: .int (nI K9) :: .int (nI KL) :: .ref moc :: .ref msT :: .ref mrV :: .ref msP :: .int v21_mqs :: .ref mrA :: .ref mbA :: .ref mwA :: .ref mhA :: .ref mfA :: .ref mpA :: .ref mxA :: .ref myA :: .ref mmA :: .ref mqA :: .ref mzA :: .ref mwy :: .ref mfd :: .int (nI s9) :: .int (nI s9) :: .int (nI (cq + 1)) :: .int fq :: .int (nI pq) :: .int mdp :: .int x21_1 :: .long mnw :: .int mmk :: []))) kmmA hg_5 (fun e => hx_mo_mmA.symm (congrArg Prod.fst e))
        have kmrA := Xc.setX (c' := .inr (12, (.int mer :: .int mfed :: .int mwr :: .int (nI K9) :: .int (nI KL) :: .ref moc :: .ref msT :: .ref mrV :: .ref msP :: .int v21_mqs :: .ref mrA :: .ref mbA :: .ref mwA :: .ref mhA :: .ref mfA :: .ref mpA :: .ref mxA :: .ref myA :: .ref mmA :: .ref mqA :: .ref mzA :: .ref mwy :: .ref mfd :: .int (nI s9) :: .int (nI s9) :: .int (nI (cq + 1)) :: .int fq :: .int (nI pq) :: .int mdp :: .int x21_1 :: .long mnw :: .int mmk :: []))) kmrA hg_5 (fun e => hx_mo_mrA.symm (congrArg Prod.fst e))
        have kmwy := Xc.setX (c' := .inr (12, (.int mer :: .int mfed :: .int mwr :: .int (nI K9) :: .int (nI KL) :: .ref moc :: .ref msT :: .ref mrV :: .ref msP :: .int v21_mqs :: .ref mrA :: .ref mbA :: .ref mwA :: .ref mhA :: .ref mfA :: .ref mpA :: .ref mxA :: .ref myA :: .ref mmA :: .ref mqA :: .ref mzA :: .ref mwy :: .ref mfd :: .int (nI s9) :: .int (nI s9) :: .int (nI (cq + 1)) :: .int fq :: .int (nI pq) :: .int mdp :: .int x21_1 :: .long mnw :: .int mmk :: []))) kmwy hg_5 (fun e => hx_mo_mwy.symm (congrArg Prod.fst e))
        have kmsT := Xc.setX (c' := .inr (12, (.int mer :: .int mfed :: .int mwr :: .int (nI K9) :: .int (nI KL) :: .ref moc :: .ref msT :: .ref mrV :: .ref msP :: .int v21_mqs :: .ref mrA :: .ref mbA :: .ref mwA :: .ref mhA :: .ref mfA :: .ref mpA :: .ref mxA :: .ref myA :: .ref mmA :: .ref mqA :: .ref mzA :: .ref mwy :: .ref mfd :: .int (nI s9) :: .int (nI s9) :: .int (nI (cq + 1)) :: .int fq :: .int (nI pq) :: .int mdp :: .int x21_1 :: .long mnw :: .int mmk :: []))) kmsT hg_5 (fun e => hx_mo_msT.symm (congrArg Prod.fst e))
        have kmrV := Xc.setX (c' := .inr (12, (.int mer :: .int mfed :: .int mwr :: .int (nI K9) :: .int (nI KL) :: .ref moc :: .ref msT :: .ref mrV :: .ref msP :: .int v21_mqs :: .ref mrA :: .ref mbA :: .ref mwA :: .ref mhA :: .ref mfA :: .ref mpA :: .ref mxA :: .ref myA :: .ref mmA :: .ref mqA :: .ref mzA :: .ref mwy :: .ref mfd :: .int (nI s9) :: .int (nI s9) :: .int (nI (cq + 1)) :: .int fq :: .int (nI pq) :: .int mdp :: .int x21_1 :: .long mnw :: .int mmk :: []))) kmrV hg_5 (fun e => hx_mo_mrV.symm (congrArg Prod.fst e))
        have kmfd := Xc.setX (c' := .inr (12, (.int mer :: .int mfed :: .int mwr :: .int (nI K9) :: .int (nI KL) :: .ref moc :: .ref msT :: .ref mrV :: .ref msP :: .int v21_mqs :: .ref mrA :: .ref mbA :: .ref mwA :: .ref mhA :: .ref mfA :: .ref mpA :: .ref mxA :: .ref myA :: .ref mmA :: .ref mqA :: .ref mzA :: .ref mwy :: .ref mfd :: .int (nI s9) :: .int (nI s9) :: .int (nI (cq + 1)) :: .int fq :: .int (nI pq) :: .int mdp :: .int x21_1 :: .long mnw :: .int mmk :: []))) kmfd hg_5 (fun e => hx_mo_mfd.symm (congrArg Prod.fst e))
        have hFR := hFR.tr (FL.set (Ad := Ad) (X := [mo, mmA, mrA, mfd]) (c' := .inr (12, (.int mer :: .int mfed :: .int mwr :: .int (nI K9) :: .int (nI KL) :: .ref moc :: .ref msT :: .ref mrV :: .ref msP :: .int v21_mqs :: .ref mrA :: .ref mbA :: .ref mwA :: .ref mhA :: .ref mfA :: .ref mpA :: .ref mxA :: .ref myA :: .ref mmA :: .ref mqA :: .ref mzA :: .ref mwy :: .ref mfd :: .int (nI s9) :: .int (nI s9) :: .int (nI (cq + 1)) :: .int fq :: .int (nI pq) :: .int mdp :: .int x21_1 :: .long mnw :: .int mmk :: []))) hg_5 (by simp))
        have hg_5 := set_here (c' := .inr (12, (.int mer :: .int mfed :: .int mwr :: .int (nI K9) :: .int (nI KL) :: .ref moc :: .ref msT :: .ref mrV :: .ref msP :: .int v21_mqs :: .ref mrA :: .ref mbA :: .ref mwA :: .ref mhA :: .ref mfA :: .ref mpA :: .ref mxA :: .ref myA :: .ref mmA :: .ref mqA :: .ref mzA :: .ref mwy :: .ref mfd :: .int (nI s9) :: .int (nI s9) :: .int (nI (cq + 1)) :: .int fq :: .int (nI pq) :: .int mdp :: .int x21_1 :: .long mnw :: .int mmk :: []))) hg_5
        have kmo : Xc Ad mo (.inr (12, (.int mer :: .int mfed :: .int mwr :: .int (nI K9) :: .int (nI KL) :: .ref moc :: .ref msT :: .ref mrV :: .ref msP :: .int v21_mqs :: .ref mrA :: .ref mbA :: .ref mwA :: .ref mhA :: .ref mfA :: .ref mpA :: .ref mxA :: .ref myA :: .ref mmA :: .ref mqA :: .ref mzA :: .ref mwy :: .ref mfd :: .int (nI s9) :: .int (nI s9) :: .int (nI (cq + 1)) :: .int fq :: .int (nI pq) :: .int mdp :: .int x21_1 :: .long mnw :: .int mmk :: []))) (G_6.set i_5 (mo, .inr (12, (.int mer :: .int mfed :: .int mwr :: .int (nI K9) :: .int (nI KL) :: .ref moc :: .ref msT :: .ref mrV :: .ref msP :: .int v21_mqs :: .ref mrA :: .ref mbA :: .ref mwA :: .ref mhA :: .ref mfA :: .ref mpA :: .ref mxA :: .ref myA :: .ref mmA :: .ref mqA :: .ref mzA :: .ref mwy :: .ref mfd :: .int (nI s9) :: .int (nI s9) :: .int (nI (cq + 1)) :: .int fq :: .int (nI pq) :: .int mdp :: .int x21_1 :: .long mnw :: .int mmk :: [])))) := ⟨kmo.1, List.mem_of_getElem? hg_5⟩
        have hD := hD3
        clear hD3 hD2
        generalize G_6.set i_5 (mo, .inr (12, (.int mer :: .int mfed :: .int mwr :: .int (nI K9) :: .int (nI KL) :: .ref moc :: .ref msT :: .ref mrV :: .ref msP :: .int v21_mqs :: .ref mrA :: .ref mbA :: .ref mwA :: .ref mhA :: .ref mfA :: .ref mpA :: .ref mxA :: .ref myA :: .ref mmA :: .ref mqA :: .ref mzA :: .ref mwy :: .ref mfd :: .int (nI s9) :: .int (nI s9) :: .int (nI (cq + 1)) :: .int fq :: .int (nI pq) :: .int mdp :: .int x21_1 :: .long mnw :: .int mmk :: []))) = G_8 at hP hD hTy hFR kmo kmmA kmrA kmwy kmsT kmrV kmfd hg_5
        obtain ⟨cX_9, eX_9⟩ : ∃ z : va_E, z = .inr (12, (.int mer :: .int mfed :: .int mwr :: .int (nI K9) :: .int (nI KL) :: .ref moc :: .ref msT :: .ref mrV :: .ref msP :: .int v21_mqs :: .ref mrA :: .ref mbA :: .ref mwA :: .ref mhA :: .ref mfA :: .ref mpA :: .ref mxA :: .ref myA :: .ref mmA :: .ref mqA :: .ref mzA :: .ref mwy :: .ref mfd :: .int (nI s9) :: .int (nI s9) :: .int (nI (cq + 1)) :: .int fq :: .int (nI pq) :: .int mdp :: .int x21_1 :: .long mnw :: .int mmk :: [])) := ⟨_, rfl⟩
        rw [← eX_9] at kmo
        refine lv_aload_n hx hb d_Model_judged_98 rfl (lv_at hl 3 rfl) ?_
        refine lv_iload_n hx hb d_Model_judged_99 rfl (lv_at hl 2 rfl) ?_
        refine lv_if_ne (tgt := 107) hx hb d_Model_judged_100 (by decide) (fun c100 => ?_) (fun c100 => ?_)
        · exact absurd c100 (fun q9 => q9 p44)
        refine lv_iconst (v := -1) hx hb d_Model_judged_103 (by decide) ?_
        refine lv_goto (tgt := 108) hx hb d_Model_judged_104 (by decide) ?_
        refine va_put (v := .int (-1)) (ty := .int) hx hb htb i_Model t_Model t_Model_ok n_Model hown hK hP hD hS i_5 hg_5 rfl 26 (by decide) (htb _ q8_0) (fun _ h9 => h9) rfl (by decide +kernel) rfl rfl (Nat.le_of_ble_eq_true rfl) d_Model_judged_108 (fun H108 locs hP hD2 hS => ?_)
        have hP : va_P (dC, dI) classes (G_8.set i_5 (mo, .inr (12, (.int mer :: .int mfed :: .int mwr :: .int (nI K9) :: .int (nI KL) :: .ref moc :: .ref msT :: .ref mrV :: .ref msP :: .int v21_mqs :: .ref mrA :: .ref mbA :: .ref mwA :: .ref mhA :: .ref mfA :: .ref mpA :: .ref mxA :: .ref myA :: .ref mmA :: .ref mqA :: .ref mzA :: .ref mwy :: .ref mfd :: .int (nI s9) :: .int (nI s9) :: .int (nI (cq + 1)) :: .int (-1) :: .int (nI pq) :: .int mdp :: .int x21_1 :: .long mnw :: .int mmk :: [])))) H108 := hP
        have hD3 : va_D A (G_8.set i_5 (mo, .inr (12, (.int mer :: .int mfed :: .int mwr :: .int (nI K9) :: .int (nI KL) :: .ref moc :: .ref msT :: .ref mrV :: .ref msP :: .int v21_mqs :: .ref mrA :: .ref mbA :: .ref mwA :: .ref mhA :: .ref mfA :: .ref mpA :: .ref mxA :: .ref myA :: .ref mmA :: .ref mqA :: .ref mzA :: .ref mwy :: .ref mfd :: .int (nI s9) :: .int (nI s9) :: .int (nI (cq + 1)) :: .int (-1) :: .int (nI pq) :: .int mdp :: .int x21_1 :: .long mnw :: .int mmk :: [])))) := hD2
        have hTy := TR.setX (c' := .inr (12, (.int mer :: .int mfed :: .int mwr :: .int (nI K9) :: .int (nI KL) :: .ref moc :: .ref msT :: .ref mrV :: .ref msP :: .int v21_mqs :: .ref mrA :: .ref mbA :: .ref mwA :: .ref mhA :: .ref mfA :: .ref mpA :: .ref mxA :: .ref myA :: .ref mmA :: .ref mqA :: .ref mzA :: .ref mwy :: .ref mfd :: .int (nI s9) :: .int (nI s9) :: .int (nI (cq + 1)) :: .int (-1) :: .int (nI pq) :: .int mdp :: .int x21_1 :: .long mnw :: .int mmk :: []))) hTy hg_5 kmo.1
        have kmmA := Xc.setX (c' := .inr (12, (.int mer :: .int mfed :: .int mwr :: .int (nI K9) :: .int (nI KL) :: .ref moc :: .ref msT :: .ref mrV :: .ref msP :: .int v21_mqs :: .ref mrA :: .ref mbA :: .ref mwA :: .ref mhA :: .ref mfA :: .ref mpA :: .ref mxA :: .ref myA :: .ref mmA :: .ref mqA :: .ref mzA :: .ref mwy :: .ref mfd :: .int (nI s9) :: .int (nI s9) :: .int (nI (cq + 1)) :: .int (-1) :: .int (nI pq) :: .int mdp :: .int x21_1 :: .long mnw :: .int mmk :: []))) kmmA hg_5 (fun e => hx_mo_mmA.symm (congrArg Prod.fst e))
        have kmrA := Xc.setX (c' := .inr (12, (.int mer :: .int mfed :: .int mwr :: .int (nI K9) :: .int (nI KL) :: .ref moc :: .ref msT :: .ref mrV :: .ref msP :: .int v21_mqs :: .ref mrA :: .ref mbA :: .ref mwA :: .ref mhA :: .ref mfA :: .ref mpA :: .ref mxA :: .ref myA :: .ref mmA :: .ref mqA :: .ref mzA :: .ref mwy :: .ref mfd :: .int (nI s9) :: .int (nI s9) :: .int (nI (cq + 1)) :: .int (-1) :: .int (nI pq) :: .int mdp :: .int x21_1 :: .long mnw :: .int mmk :: []))) kmrA hg_5 (fun e => hx_mo_mrA.symm (congrArg Prod.fst e))
        have kmwy := Xc.setX (c' := .inr (12, (.int mer :: .int mfed :: .int mwr :: .int (nI K9) :: .int (nI KL) :: .ref moc :: .ref msT :: .ref mrV :: .ref msP :: .int v21_mqs :: .ref mrA :: .ref mbA :: .ref mwA :: .ref mhA :: .ref mfA :: .ref mpA :: .ref mxA :: .ref myA :: .ref mmA :: .ref mqA :: .ref mzA :: .ref mwy :: .ref mfd :: .int (nI s9) :: .int (nI s9) :: .int (nI (cq + 1)) :: .int (-1) :: .int (nI pq) :: .int mdp :: .int x21_1 :: .long mnw :: .int mmk :: []))) kmwy hg_5 (fun e => hx_mo_mwy.symm (congrArg Prod.fst e))
        have kmsT := Xc.setX (c' := .inr (12, (.int mer :: .int mfed :: .int mwr :: .int (nI K9) :: .int (nI KL) :: .ref moc :: .ref msT :: .ref mrV :: .ref msP :: .int v21_mqs :: .ref mrA :: .ref mbA :: .ref mwA :: .ref mhA :: .ref mfA :: .ref mpA :: .ref mxA :: .ref myA :: .ref mmA :: .ref mqA :: .ref mzA :: .ref mwy :: .ref mfd :: .int (nI s9) :: .int (nI s9) :: .int (nI (cq + 1)) :: .int (-1) :: .int (nI pq) :: .int mdp :: .int x21_1 :: .long mnw :: .int mmk :: []))) kmsT hg_5 (fun e => hx_mo_msT.symm (congrArg Prod.fst e))
        have kmrV := Xc.setX (c' := .inr (12, (.int mer :: .int mfed :: .int mwr :: .int (nI K9) :: .int (nI KL) :: .ref moc :: .ref msT :: .ref mrV :: .ref msP :: .int v21_mqs :: .ref mrA :: .ref mbA :: .ref mwA :: .ref mhA :: .ref mfA :: .ref mpA :: .ref mxA :: .ref myA :: .ref mmA :: .ref mqA :: .ref mzA :: .ref mwy :: .ref mfd :: .int (nI s9) :: .int (nI s9) :: .int (nI (cq + 1)) :: .int (-1) :: .int (nI pq) :: .int mdp :: .int x21_1 :: .long mnw :: .int mmk :: []))) kmrV hg_5 (fun e => hx_mo_mrV.symm (congrArg Prod.fst e))
        have kmfd := Xc.setX (c' := .inr (12, (.int mer :: .int mfed :: .int mwr :: .int (nI K9) :: .int (nI KL) :: .ref moc :: .ref msT :: .ref mrV :: .ref msP :: .int v21_mqs :: .ref mrA :: .ref mbA :: .ref mwA :: .ref mhA :: .ref mfA :: .ref mpA :: .ref mxA :: .ref myA :: .ref mmA :: .ref mqA :: .ref mzA :: .ref mwy :: .ref mfd :: .int (nI s9) :: .int (nI s9) :: .int (nI (cq + 1)) :: .int (-1) :: .int (nI pq) :: .int mdp :: .int x21_1 :: .long mnw :: .int mmk :: []))) kmfd hg_5 (fun e => hx_mo_mfd.symm (congrArg Prod.fst e))
        have hFR := hFR.tr (FL.set (Ad := Ad) (X := [mo, mmA, mrA, mfd]) (c' := .inr (12, (.int mer :: .int mfed :: .int mwr :: .int (nI K9) :: .int (nI KL) :: .ref moc :: .ref msT :: .ref mrV :: .ref msP :: .int v21_mqs :: .ref mrA :: .ref mbA :: .ref mwA :: .ref mhA :: .ref mfA :: .ref mpA :: .ref mxA :: .ref myA :: .ref mmA :: .ref mqA :: .ref mzA :: .ref mwy :: .ref mfd :: .int (nI s9) :: .int (nI s9) :: .int (nI (cq + 1)) :: .int (-1) :: .int (nI pq) :: .int mdp :: .int x21_1 :: .long mnw :: .int mmk :: []))) hg_5 (by simp))
        have hg_5 := set_here (c' := .inr (12, (.int mer :: .int mfed :: .int mwr :: .int (nI K9) :: .int (nI KL) :: .ref moc :: .ref msT :: .ref mrV :: .ref msP :: .int v21_mqs :: .ref mrA :: .ref mbA :: .ref mwA :: .ref mhA :: .ref mfA :: .ref mpA :: .ref mxA :: .ref myA :: .ref mmA :: .ref mqA :: .ref mzA :: .ref mwy :: .ref mfd :: .int (nI s9) :: .int (nI s9) :: .int (nI (cq + 1)) :: .int (-1) :: .int (nI pq) :: .int mdp :: .int x21_1 :: .long mnw :: .int mmk :: []))) hg_5
        have kmo : Xc Ad mo (.inr (12, (.int mer :: .int mfed :: .int mwr :: .int (nI K9) :: .int (nI KL) :: .ref moc :: .ref msT :: .ref mrV :: .ref msP :: .int v21_mqs :: .ref mrA :: .ref mbA :: .ref mwA :: .ref mhA :: .ref mfA :: .ref mpA :: .ref mxA :: .ref myA :: .ref mmA :: .ref mqA :: .ref mzA :: .ref mwy :: .ref mfd :: .int (nI s9) :: .int (nI s9) :: .int (nI (cq + 1)) :: .int (-1) :: .int (nI pq) :: .int mdp :: .int x21_1 :: .long mnw :: .int mmk :: []))) (G_8.set i_5 (mo, .inr (12, (.int mer :: .int mfed :: .int mwr :: .int (nI K9) :: .int (nI KL) :: .ref moc :: .ref msT :: .ref mrV :: .ref msP :: .int v21_mqs :: .ref mrA :: .ref mbA :: .ref mwA :: .ref mhA :: .ref mfA :: .ref mpA :: .ref mxA :: .ref myA :: .ref mmA :: .ref mqA :: .ref mzA :: .ref mwy :: .ref mfd :: .int (nI s9) :: .int (nI s9) :: .int (nI (cq + 1)) :: .int (-1) :: .int (nI pq) :: .int mdp :: .int x21_1 :: .long mnw :: .int mmk :: [])))) := ⟨kmo.1, List.mem_of_getElem? hg_5⟩
        have hD := hD3
        clear hD3 hD2
        generalize G_8.set i_5 (mo, .inr (12, (.int mer :: .int mfed :: .int mwr :: .int (nI K9) :: .int (nI KL) :: .ref moc :: .ref msT :: .ref mrV :: .ref msP :: .int v21_mqs :: .ref mrA :: .ref mbA :: .ref mwA :: .ref mhA :: .ref mfA :: .ref mpA :: .ref mxA :: .ref myA :: .ref mmA :: .ref mqA :: .ref mzA :: .ref mwy :: .ref mfd :: .int (nI s9) :: .int (nI s9) :: .int (nI (cq + 1)) :: .int (-1) :: .int (nI pq) :: .int mdp :: .int x21_1 :: .long mnw :: .int mmk :: []))) = G_10 at hP hD hTy hFR kmo kmmA kmrA kmwy kmsT kmrV kmfd hg_5
        obtain ⟨cX_11, eX_11⟩ : ∃ z : va_E, z = .inr (12, (.int mer :: .int mfed :: .int mwr :: .int (nI K9) :: .int (nI KL) :: .ref moc :: .ref msT :: .ref mrV :: .ref msP :: .int v21_mqs :: .ref mrA :: .ref mbA :: .ref mwA :: .ref mhA :: .ref mfA :: .ref mpA :: .ref mxA :: .ref myA :: .ref mmA :: .ref mqA :: .ref mzA :: .ref mwy :: .ref mfd :: .int (nI s9) :: .int (nI s9) :: .int (nI (cq + 1)) :: .int (-1) :: .int (nI pq) :: .int mdp :: .int x21_1 :: .long mnw :: .int mmk :: [])) := ⟨_, rfl⟩
        rw [← eX_11] at kmo
        refine lv_iload_n hx hb d_Model_judged_111 rfl (lv_at hl 2 rfl) ?_
        refine lv_if_ne (tgt := 119) hx hb d_Model_judged_112 (by decide) (fun c112 => ?_) (fun c112 => ?_)
        · exact absurd c112 (fun q9 => q9 p44)
        refine lv_iconst (v := 1) hx hb d_Model_judged_115 (by decide) ?_
        refine lv_goto (tgt := 120) hx hb d_Model_judged_116 (by decide) ?_
        have eF : (rFL τ fS fV KL mnw mmk) wl.reverse = (0, -1) := (rFL_s hwl).trans (fj_0 hFJ p44)
        have eQ : (sJ (rFL τ fS fV KL mnw mmk) wl.reverse (pq, cq, wq, vq, fq)) = (true, (pq, cq + 1, wl.reverse, 0, -1)) := sJ_ok eF
        have hfd : fdR wl.reverse f59_mfd := fdR_w (by omega) (fun j9 h9 => hJ59 j9 (by omega))
        have eL : wl.reverse.length = s9 := by rw [List.length_reverse]; exact hwl
        exact W.zret (v := 1) hx hb hr rfl (fun t ht hW => ⟨⟨_, G_10, rfl, ⟨hTy, hFR, by rw [eQ]; rfl, ⟨_, by rw [eQ]; show Xc Ad mo (.inr (12, (.int mer :: .int mfed :: .int mwr :: .int (nI K9) :: .int (nI KL) :: .ref moc :: .ref msT :: .ref mrV :: .ref msP :: .int _ :: .ref mrA :: .ref mbA :: .ref mwA :: .ref mhA :: .ref mfA :: .ref mpA :: .ref mxA :: .ref myA :: .ref mmA :: .ref mqA :: .ref mzA :: .ref mwy :: .ref mfd :: .int (nI s9) :: .int (nI wl.reverse.length) :: .int (nI (cq + 1)) :: .int (-1) :: .int (nI pq) :: .int mdp :: .int 0 :: .long mnw :: .int mmk :: []))) _; rw [eL]; rw [eX_11, p44] at kmo; exact kmo⟩, ⟨_, hfm, kmmA⟩, ⟨_, hfr, kmrA⟩, ⟨_, by rw [eQ]; exact hfd, kmfd⟩⟩, by rw [ht]; exact hP, va_K.moved hW.alike hK, hD⟩, hS.F ht⟩) hS.2.2 d_Model_judged_120
      · have p64 : ¬ (s9 ≤ z59) := (fun q9 => c64 ((nI_leI (a := s9) (b := z59) (by omega) (by omega)).mpr q9))
        refine lv_aload_n hx hb d_Model_judged_67 rfl (lv_at hl 3 rfl) ?_
        refine va_get (v := .ref mfd) hx hb htb i_Model hown hK hP i_5 hg_5 rfl 22 (by decide) (htb _ q7_236) (fun _ h9 => h9) rfl d_Model_judged_68 ?_
        refine lv_iload_n hx hb d_Model_judged_71 rfl (lv_at hl 0 rfl) ?_
        refine lv_aload_n hx hb d_Model_judged_72 rfl (lv_at hl 3 rfl) ?_
        refine va_get (v := .ref mwy) hx hb htb i_Model hown hK hP i_5 hg_5 rfl 21 (by decide) (htb _ q7_235) (fun _ h9 => h9) rfl d_Model_judged_73 ?_
        refine lv_iload_n hx hb d_Model_judged_76 rfl (lv_at hl 0 rfl) ?_
        obtain ⟨i_12, hg_12⟩ := List.getElem?_of_mem kmwy.2
        have h77 : vp_in (nI z59) 16 := vp_in_nI (by omega) (by omega)
        refine va_iald hx hb hK hP i_12 1 hg_12 rfl h77 d_Model_judged_77 ?_
        refine lv_topi (fun e77 he77 => ?_)
        have hw77 := hway z59 (by omega)
        rw [nI_clamp (by omega), hw77.2] at he77
        have hw77 := hw77.1
        subst he77
        obtain ⟨i_13, hg_13⟩ := List.getElem?_of_mem kmfd.2
        have h78 : vp_in (nI z59) 16 := vp_in_nI (by omega) (by omega)
        refine va_iast hx hb hK hP hD hS i_13 1 hg_13 rfl h78 d_Model_judged_78 (fun H78 locs hP hD2 hS => ?_)
        obtain ⟨f78, ef78⟩ : ∃ z : Nat → Int32, z = upd f59_mfd (nI z59).toNatClampNeg (nI (wl.getD z59 0)) := ⟨_, rfl⟩
        rw [← ef78] at hP hD2
        have hP : va_P (dC, dI) classes (G59.set i_13 (mfd, .inl (γ.2.1, 16, .inl f78))) H78 := hP
        have hD3 : va_D A (G59.set i_13 (mfd, .inl (γ.2.1, 16, .inl f78))) := hD2
        have hTy := TR.setX (c' := .inl (γ.2.1, 16, .inl f78)) hTy hg_13 kmfd.1
        have kmo := Xc.setX (c' := .inl (γ.2.1, 16, .inl f78)) kmo hg_13 (fun e => hx_mo_mfd (congrArg Prod.fst e))
        have kmmA := Xc.setX (c' := .inl (γ.2.1, 16, .inl f78)) kmmA hg_13 (fun e => hx_mmA_mfd (congrArg Prod.fst e))
        have kmrA := Xc.setX (c' := .inl (γ.2.1, 16, .inl f78)) kmrA hg_13 (fun e => hx_mrA_mfd (congrArg Prod.fst e))
        have kmwy := Xc.setX (c' := .inl (γ.2.1, 16, .inl f78)) kmwy hg_13 (fun e => hx_mwy_mfd (congrArg Prod.fst e))
        have kmsT := Xc.setX (c' := .inl (γ.2.1, 16, .inl f78)) kmsT hg_13 (fun e => hx_msT_mfd (congrArg Prod.fst e))
        have kmrV := Xc.setX (c' := .inl (γ.2.1, 16, .inl f78)) kmrV hg_13 (fun e => hx_mrV_mfd (congrArg Prod.fst e))
        have hFR := hFR.tr (FL.set (Ad := Ad) (X := [mo, mmA, mrA, mfd]) (c' := .inl (γ.2.1, 16, .inl f78)) hg_13 (by simp))
        have hg_13 := set_here (c' := .inl (γ.2.1, 16, .inl f78)) hg_13
        have kmfd : Xc Ad mfd (.inl (γ.2.1, 16, .inl f78)) (G59.set i_13 (mfd, .inl (γ.2.1, 16, .inl f78))) := ⟨kmfd.1, List.mem_of_getElem? hg_13⟩
        have hD := hD3
        clear hD3 hD2
        generalize G59.set i_13 (mfd, .inl (γ.2.1, 16, .inl f78)) = G_14 at hP hD hTy hFR kmo kmmA kmrA kmwy kmsT kmrV kmfd hg_13
        refine lv_iinc (v := nI (z59 + 1)) (lv' := [(3, .int (nI (z59 + 1))), (2, .int x21_2), (1, .int x21_1), (0, .ref mo)]) hx hb d_Model_judged_79 hl (k := 0) rfl (nI_1 _) (by decide) rfl (fun ls hl => ?_)
        refine lv_goto (tgt := 59) hx hb d_Model_judged_82 (by decide) ?_
        exact ih59 (z59 + 1, f78, G_14) _ _ ls (by dsimp only; omega) ⟨by dsimp only; omega, by dsimp only; omega, hTy, hFR, kmo, kmmA, kmrA, kmwy, kmsT, kmrV, kmfd, cp_sw hJ59 ef78 (by omega)⟩ hP hD hS (lv_sub hl [0, 1, 2, 3, 4] rfl)
    · have p44 : ¬ (x21_1 = (0 : Int32)) := c44
      refine lv_aload_n hx hb d_Model_judged_47 rfl (lv_at hl 3 rfl) ?_
      obtain ⟨i_15, hg_15⟩ := List.getElem?_of_mem kmo.2
      rw [eX_4] at hg_15
      refine va_get (v := .int (nI (cq + 1))) hx hb htb i_Model hown hK hP i_15 hg_15 rfl 25 (by decide) (htb _ q7_239) (fun _ h9 => h9) rfl d_Model_judged_48 ?_
      refine lv_iconst (v := 1) hx hb d_Model_judged_51 (by decide) ?_
      refine lv_icmp_le (tgt := 57) hx hb d_Model_judged_52 (by decide) (fun c52 => ?_) (fun c52 => ?_)
      · have p52 : (cq + 1) ≤ 1 := ((nI_leI (a := (cq + 1)) (b := 1) (by omega) (by omega)).mp c52)
        refine lv_iconst (v := 0) hx hb d_Model_judged_57 (by decide) ?_
        refine lv_istore_n (lv' := [(3, .int 0), (2, .int x21_2), (1, .int x21_1), (0, .ref mo)]) hx hb d_Model_judged_58 rfl hl (by decide) rfl (fun ls hl => ?_)
        refine w_loopW (α := Nat × (Nat → Int32) × va_W) (fun a9 => 0 ≤ a9.1 ∧ a9.1 ≤ s9 ∧ TR γ κ Ad τ a9.2.2 ∧ FL Ad [mo, mmA, mrA, mfd] G a9.2.2 ∧ Xc Ad mo cX_4 a9.2.2 ∧ Xc Ad mmA (.inl (γ.2.1, 600, .inl f21_mmA)) a9.2.2 ∧ Xc Ad mrA (.inl (γ.2.1, 600, .inl f21_mrA)) a9.2.2 ∧ Xc Ad mwy (.inl (γ.2.1, 16, .inl fw)) a9.2.2 ∧ Xc Ad msT (.inl (gT, 16, .inr (.inr (.inr (.inr fS))))) a9.2.2 ∧ Xc Ad mrV (.inl (gT, 8, .inr (.inr (.inr (.inr fV))))) a9.2.2 ∧ Xc Ad mfd (.inl (γ.2.1, 16, .inl a9.2.1)) a9.2.2 ∧ (∀ j9, j9 < a9.1 → a9.2.1 j9 = nI (wl.getD j9 0))) (fun a9 => s9 - a9.1) (fun a9 => [(3, .int (nI a9.1)), (2, .int x21_2), (1, .int x21_1), (0, .ref mo)]) (fun _ => []) (fun a9 => a9.2.2) 4 59 (fun a9 HL59 locs ls hJ hP hD hS hl ih59 => ?_) (0, ff, G21) _ _ ls ⟨by omega, by omega, hTy, hFR, kmo, kmmA, kmrA, kmwy, kmsT, kmrV, kmfd, fun j9 h9 => absurd h9 (Nat.not_lt_zero j9)⟩ hP hD hS (lv_sub hl [0, 1, 2, 3, 4] rfl)
        obtain ⟨z59, f59_mfd, G59⟩ := a9
        obtain ⟨hy59, hz59, hTy, hFR, kmo, kmmA, kmrA, kmwy, kmsT, kmrV, kmfd, hJ59⟩ := hJ
        dsimp only at hy59 hz59 hTy hFR kmo kmmA kmrA kmwy kmsT kmrV kmfd hP hD hl ih59 hJ59
        refine lv_iload_n hx hb d_Model_judged_59 rfl (lv_at hl 0 rfl) ?_
        refine lv_aload_n hx hb d_Model_judged_60 rfl (lv_at hl 3 rfl) ?_
        obtain ⟨i_16, hg_16⟩ := List.getElem?_of_mem kmo.2
        rw [eX_4] at hg_16
        refine va_get (v := .int (nI s9)) hx hb htb i_Model hown hK hP i_16 hg_16 rfl 23 (by decide) (htb _ q7_237) (fun _ h9 => h9) rfl d_Model_judged_61 ?_
        refine lv_icmp_ge (tgt := 85) hx hb d_Model_judged_64 (by decide) (fun c64 => ?_) (fun c64 => ?_)
        · have p64 : s9 ≤ z59 := ((nI_leI (a := s9) (b := z59) (by omega) (by omega)).mp c64)
          refine lv_aload_n hx hb d_Model_judged_85 rfl (lv_at hl 3 rfl) ?_
          refine lv_aload_n hx hb d_Model_judged_86 rfl (lv_at hl 3 rfl) ?_
          refine va_get (v := .int (nI s9)) hx hb htb i_Model hown hK hP i_16 hg_16 rfl 23 (by decide) (htb _ q7_237) (fun _ h9 => h9) rfl d_Model_judged_87 ?_
          refine va_put (v := .int (nI s9)) (ty := .int) hx hb htb i_Model t_Model t_Model_ok n_Model hown hK hP hD hS i_16 hg_16 rfl 24 (by decide) (htb _ q7_238) (fun _ h9 => h9) rfl (by decide +kernel) rfl rfl (Nat.le_of_ble_eq_true rfl) d_Model_judged_90 (fun H90 locs hP hD2 hS => ?_)
          have hP : va_P (dC, dI) classes (G59.set i_16 (mo, .inr (12, (.int mer :: .int mfed :: .int mwr :: .int (nI K9) :: .int (nI KL) :: .ref moc :: .ref msT :: .ref mrV :: .ref msP :: .int v21_mqs :: .ref mrA :: .ref mbA :: .ref mwA :: .ref mhA :: .ref mfA :: .ref mpA :: .ref mxA :: .ref myA :: .ref mmA :: .ref mqA :: .ref mzA :: .ref mwy :: .ref mfd :: .int (nI s9) :: .int (nI s9) :: .int (nI (cq + 1)) :: .int fq :: .int (nI pq) :: .int mdp :: .int vq :: .long mnw :: .int mmk :: [])))) H90 := hP
          have hD3 : va_D A (G59.set i_16 (mo, .inr (12, (.int mer :: .int mfed :: .int mwr :: .int (nI K9) :: .int (nI KL) :: .ref moc :: .ref msT :: .ref mrV :: .ref msP :: .int v21_mqs :: .ref mrA :: .ref mbA :: .ref mwA :: .ref mhA :: .ref mfA :: .ref mpA :: .ref mxA :: .ref myA :: .ref mmA :: .ref mqA :: .ref mzA :: .ref mwy :: .ref mfd :: .int (nI s9) :: .int (nI s9) :: .int (nI (cq + 1)) :: .int fq :: .int (nI pq) :: .int mdp :: .int vq :: .long mnw :: .int mmk :: [])))) := hD2
          have hTy := TR.setX (c' := .inr (12, (.int mer :: .int mfed :: .int mwr :: .int (nI K9) :: .int (nI KL) :: .ref moc :: .ref msT :: .ref mrV :: .ref msP :: .int v21_mqs :: .ref mrA :: .ref mbA :: .ref mwA :: .ref mhA :: .ref mfA :: .ref mpA :: .ref mxA :: .ref myA :: .ref mmA :: .ref mqA :: .ref mzA :: .ref mwy :: .ref mfd :: .int (nI s9) :: .int (nI s9) :: .int (nI (cq + 1)) :: .int fq :: .int (nI pq) :: .int mdp :: .int vq :: .long mnw :: .int mmk :: []))) hTy hg_16 kmo.1
          have kmmA := Xc.setX (c' := .inr (12, (.int mer :: .int mfed :: .int mwr :: .int (nI K9) :: .int (nI KL) :: .ref moc :: .ref msT :: .ref mrV :: .ref msP :: .int v21_mqs :: .ref mrA :: .ref mbA :: .ref mwA :: .ref mhA :: .ref mfA :: .ref mpA :: .ref mxA :: .ref myA :: .ref mmA :: .ref mqA :: .ref mzA :: .ref mwy :: .ref mfd :: .int (nI s9) :: .int (nI s9) :: .int (nI (cq + 1)) :: .int fq :: .int (nI pq) :: .int mdp :: .int vq :: .long mnw :: .int mmk :: []))) kmmA hg_16 (fun e => hx_mo_mmA.symm (congrArg Prod.fst e))
          have kmrA := Xc.setX (c' := .inr (12, (.int mer :: .int mfed :: .int mwr :: .int (nI K9) :: .int (nI KL) :: .ref moc :: .ref msT :: .ref mrV :: .ref msP :: .int v21_mqs :: .ref mrA :: .ref mbA :: .ref mwA :: .ref mhA :: .ref mfA :: .ref mpA :: .ref mxA :: .ref myA :: .ref mmA :: .ref mqA :: .ref mzA :: .ref mwy :: .ref mfd :: .int (nI s9) :: .int (nI s9) :: .int (nI (cq + 1)) :: .int fq :: .int (nI pq) :: .int mdp :: .int vq :: .long mnw :: .int mmk :: []))) kmrA hg_16 (fun e => hx_mo_mrA.symm (congrArg Prod.fst e))
          have kmwy := Xc.setX (c' := .inr (12, (.int mer :: .int mfed :: .int mwr :: .int (nI K9) :: .int (nI KL) :: .ref moc :: .ref msT :: .ref mrV :: .ref msP :: .int v21_mqs :: .ref mrA :: .ref mbA :: .ref mwA :: .ref mhA :: .ref mfA :: .ref mpA :: .ref mxA :: .ref myA :: .ref mmA :: .ref mqA :: .ref mzA :: .ref mwy :: .ref mfd :: .int (nI s9) :: .int (nI s9) :: .int (nI (cq + 1)) :: .int fq :: .int (nI pq) :: .int mdp :: .int vq :: .long mnw :: .int mmk :: []))) kmwy hg_16 (fun e => hx_mo_mwy.symm (congrArg Prod.fst e))
          have kmsT := Xc.setX (c' := .inr (12, (.int mer :: .int mfed :: .int mwr :: .int (nI K9) :: .int (nI KL) :: .ref moc :: .ref msT :: .ref mrV :: .ref msP :: .int v21_mqs :: .ref mrA :: .ref mbA :: .ref mwA :: .ref mhA :: .ref mfA :: .ref mpA :: .ref mxA :: .ref myA :: .ref mmA :: .ref mqA :: .ref mzA :: .ref mwy :: .ref mfd :: .int (nI s9) :: .int (nI s9) :: .int (nI (cq + 1)) :: .int fq :: .int (nI pq) :: .int mdp :: .int vq :: .long mnw :: .int mmk :: []))) kmsT hg_16 (fun e => hx_mo_msT.symm (congrArg Prod.fst e))
          have kmrV := Xc.setX (c' := .inr (12, (.int mer :: .int mfed :: .int mwr :: .int (nI K9) :: .int (nI KL) :: .ref moc :: .ref msT :: .ref mrV :: .ref msP :: .int v21_mqs :: .ref mrA :: .ref mbA :: .ref mwA :: .ref mhA :: .ref mfA :: .ref mpA :: .ref mxA :: .ref myA :: .ref mmA :: .ref mqA :: .ref mzA :: .ref mwy :: .ref mfd :: .int (nI s9) :: .int (nI s9) :: .int (nI (cq + 1)) :: .int fq :: .int (nI pq) :: .int mdp :: .int vq :: .long mnw :: .int mmk :: []))) kmrV hg_16 (fun e => hx_mo_mrV.symm (congrArg Prod.fst e))
          have kmfd := Xc.setX (c' := .inr (12, (.int mer :: .int mfed :: .int mwr :: .int (nI K9) :: .int (nI KL) :: .ref moc :: .ref msT :: .ref mrV :: .ref msP :: .int v21_mqs :: .ref mrA :: .ref mbA :: .ref mwA :: .ref mhA :: .ref mfA :: .ref mpA :: .ref mxA :: .ref myA :: .ref mmA :: .ref mqA :: .ref mzA :: .ref mwy :: .ref mfd :: .int (nI s9) :: .int (nI s9) :: .int (nI (cq + 1)) :: .int fq :: .int (nI pq) :: .int mdp :: .int vq :: .long mnw :: .int mmk :: []))) kmfd hg_16 (fun e => hx_mo_mfd.symm (congrArg Prod.fst e))
          have hFR := hFR.tr (FL.set (Ad := Ad) (X := [mo, mmA, mrA, mfd]) (c' := .inr (12, (.int mer :: .int mfed :: .int mwr :: .int (nI K9) :: .int (nI KL) :: .ref moc :: .ref msT :: .ref mrV :: .ref msP :: .int v21_mqs :: .ref mrA :: .ref mbA :: .ref mwA :: .ref mhA :: .ref mfA :: .ref mpA :: .ref mxA :: .ref myA :: .ref mmA :: .ref mqA :: .ref mzA :: .ref mwy :: .ref mfd :: .int (nI s9) :: .int (nI s9) :: .int (nI (cq + 1)) :: .int fq :: .int (nI pq) :: .int mdp :: .int vq :: .long mnw :: .int mmk :: []))) hg_16 (by simp))
          have hg_16 := set_here (c' := .inr (12, (.int mer :: .int mfed :: .int mwr :: .int (nI K9) :: .int (nI KL) :: .ref moc :: .ref msT :: .ref mrV :: .ref msP :: .int v21_mqs :: .ref mrA :: .ref mbA :: .ref mwA :: .ref mhA :: .ref mfA :: .ref mpA :: .ref mxA :: .ref myA :: .ref mmA :: .ref mqA :: .ref mzA :: .ref mwy :: .ref mfd :: .int (nI s9) :: .int (nI s9) :: .int (nI (cq + 1)) :: .int fq :: .int (nI pq) :: .int mdp :: .int vq :: .long mnw :: .int mmk :: []))) hg_16
          have kmo : Xc Ad mo (.inr (12, (.int mer :: .int mfed :: .int mwr :: .int (nI K9) :: .int (nI KL) :: .ref moc :: .ref msT :: .ref mrV :: .ref msP :: .int v21_mqs :: .ref mrA :: .ref mbA :: .ref mwA :: .ref mhA :: .ref mfA :: .ref mpA :: .ref mxA :: .ref myA :: .ref mmA :: .ref mqA :: .ref mzA :: .ref mwy :: .ref mfd :: .int (nI s9) :: .int (nI s9) :: .int (nI (cq + 1)) :: .int fq :: .int (nI pq) :: .int mdp :: .int vq :: .long mnw :: .int mmk :: []))) (G59.set i_16 (mo, .inr (12, (.int mer :: .int mfed :: .int mwr :: .int (nI K9) :: .int (nI KL) :: .ref moc :: .ref msT :: .ref mrV :: .ref msP :: .int v21_mqs :: .ref mrA :: .ref mbA :: .ref mwA :: .ref mhA :: .ref mfA :: .ref mpA :: .ref mxA :: .ref myA :: .ref mmA :: .ref mqA :: .ref mzA :: .ref mwy :: .ref mfd :: .int (nI s9) :: .int (nI s9) :: .int (nI (cq + 1)) :: .int fq :: .int (nI pq) :: .int mdp :: .int vq :: .long mnw :: .int mmk :: [])))) := ⟨kmo.1, List.mem_of_getElem? hg_16⟩
          have hD := hD3
          clear hD3 hD2
          generalize G59.set i_16 (mo, .inr (12, (.int mer :: .int mfed :: .int mwr :: .int (nI K9) :: .int (nI KL) :: .ref moc :: .ref msT :: .ref mrV :: .ref msP :: .int v21_mqs :: .ref mrA :: .ref mbA :: .ref mwA :: .ref mhA :: .ref mfA :: .ref mpA :: .ref mxA :: .ref myA :: .ref mmA :: .ref mqA :: .ref mzA :: .ref mwy :: .ref mfd :: .int (nI s9) :: .int (nI s9) :: .int (nI (cq + 1)) :: .int fq :: .int (nI pq) :: .int mdp :: .int vq :: .long mnw :: .int mmk :: []))) = G_17 at hP hD hTy hFR kmo kmmA kmrA kmwy kmsT kmrV kmfd hg_16
          obtain ⟨cX_18, eX_18⟩ : ∃ z : va_E, z = .inr (12, (.int mer :: .int mfed :: .int mwr :: .int (nI K9) :: .int (nI KL) :: .ref moc :: .ref msT :: .ref mrV :: .ref msP :: .int v21_mqs :: .ref mrA :: .ref mbA :: .ref mwA :: .ref mhA :: .ref mfA :: .ref mpA :: .ref mxA :: .ref myA :: .ref mmA :: .ref mqA :: .ref mzA :: .ref mwy :: .ref mfd :: .int (nI s9) :: .int (nI s9) :: .int (nI (cq + 1)) :: .int fq :: .int (nI pq) :: .int mdp :: .int vq :: .long mnw :: .int mmk :: [])) := ⟨_, rfl⟩
          rw [← eX_18] at kmo
          refine lv_aload_n hx hb d_Model_judged_93 rfl (lv_at hl 3 rfl) ?_
          refine lv_iload_n hx hb d_Model_judged_94 rfl (lv_at hl 2 rfl) ?_
          refine va_put (v := .int x21_1) (ty := .int) hx hb htb i_Model t_Model t_Model_ok n_Model hown hK hP hD hS i_16 hg_16 rfl 29 (by decide) (htb _ q8_3) (fun _ h9 => h9) rfl (by decide +kernel) rfl rfl (Nat.le_of_ble_eq_true rfl) d_Model_judged_95 (fun H95 locs hP hD2 hS => ?_)
          have hP : va_P (dC, dI) classes (G_17.set i_16 (mo, .inr (12, (.int mer :: .int mfed :: .int mwr :: .int (nI K9) :: .int (nI KL) :: .ref moc :: .ref msT :: .ref mrV :: .ref msP :: .int v21_mqs :: .ref mrA :: .ref mbA :: .ref mwA :: .ref mhA :: .ref mfA :: .ref mpA :: .ref mxA :: .ref myA :: .ref mmA :: .ref mqA :: .ref mzA :: .ref mwy :: .ref mfd :: .int (nI s9) :: .int (nI s9) :: .int (nI (cq + 1)) :: .int fq :: .int (nI pq) :: .int mdp :: .int x21_1 :: .long mnw :: .int mmk :: [])))) H95 := hP
          have hD3 : va_D A (G_17.set i_16 (mo, .inr (12, (.int mer :: .int mfed :: .int mwr :: .int (nI K9) :: .int (nI KL) :: .ref moc :: .ref msT :: .ref mrV :: .ref msP :: .int v21_mqs :: .ref mrA :: .ref mbA :: .ref mwA :: .ref mhA :: .ref mfA :: .ref mpA :: .ref mxA :: .ref myA :: .ref mmA :: .ref mqA :: .ref mzA :: .ref mwy :: .ref mfd :: .int (nI s9) :: .int (nI s9) :: .int (nI (cq + 1)) :: .int fq :: .int (nI pq) :: .int mdp :: .int x21_1 :: .long mnw :: .int mmk :: [])))) := hD2
          have hTy := TR.setX (c' := .inr (12, (.int mer :: .int mfed :: .int mwr :: .int (nI K9) :: .int (nI KL) :: .ref moc :: .ref msT :: .ref mrV :: .ref msP :: .int v21_mqs :: .ref mrA :: .ref mbA :: .ref mwA :: .ref mhA :: .ref mfA :: .ref mpA :: .ref mxA :: .ref myA :: .ref mmA :: .ref mqA :: .ref mzA :: .ref mwy :: .ref mfd :: .int (nI s9) :: .int (nI s9) :: .int (nI (cq + 1)) :: .int fq :: .int (nI pq) :: .int mdp :: .int x21_1 :: .long mnw :: .int mmk :: []))) hTy hg_16 kmo.1
          have kmmA := Xc.setX (c' := .inr (12, (.int mer :: .int mfed :: .int mwr :: .int (nI K9) :: .int (nI KL) :: .ref moc :: .ref msT :: .ref mrV :: .ref msP :: .int v21_mqs :: .ref mrA :: .ref mbA :: .ref mwA :: .ref mhA :: .ref mfA :: .ref mpA :: .ref mxA :: .ref myA :: .ref mmA :: .ref mqA :: .ref mzA :: .ref mwy :: .ref mfd :: .int (nI s9) :: .int (nI s9) :: .int (nI (cq + 1)) :: .int fq :: .int (nI pq) :: .int mdp :: .int x21_1 :: .long mnw :: .int mmk :: []))) kmmA hg_16 (fun e => hx_mo_mmA.symm (congrArg Prod.fst e))
          have kmrA := Xc.setX (c' := .inr (12, (.int mer :: .int mfed :: .int mwr :: .int (nI K9) :: .int (nI KL) :: .ref moc :: .ref msT :: .ref mrV :: .ref msP :: .int v21_mqs :: .ref mrA :: .ref mbA :: .ref mwA :: .ref mhA :: .ref mfA :: .ref mpA :: .ref mxA :: .ref myA :: .ref mmA :: .ref mqA :: .ref mzA :: .ref mwy :: .ref mfd :: .int (nI s9) :: .int (nI s9) :: .int (nI (cq + 1)) :: .int fq :: .int (nI pq) :: .int mdp :: .int x21_1 :: .long mnw :: .int mmk :: []))) kmrA hg_16 (fun e => hx_mo_mrA.symm (congrArg Prod.fst e))
          have kmwy := Xc.setX (c' := .inr (12, (.int mer :: .int mfed :: .int mwr :: .int (nI K9) :: .int (nI KL) :: .ref moc :: .ref msT :: .ref mrV :: .ref msP :: .int v21_mqs :: .ref mrA :: .ref mbA :: .ref mwA :: .ref mhA :: .ref mfA :: .ref mpA :: .ref mxA :: .ref myA :: .ref mmA :: .ref mqA :: .ref mzA :: .ref mwy :: .ref mfd :: .int (nI s9) :: .int (nI s9) :: .int (nI (cq + 1)) :: .int fq :: .int (nI pq) :: .int mdp :: .int x21_1 :: .long mnw :: .int mmk :: []))) kmwy hg_16 (fun e => hx_mo_mwy.symm (congrArg Prod.fst e))
          have kmsT := Xc.setX (c' := .inr (12, (.int mer :: .int mfed :: .int mwr :: .int (nI K9) :: .int (nI KL) :: .ref moc :: .ref msT :: .ref mrV :: .ref msP :: .int v21_mqs :: .ref mrA :: .ref mbA :: .ref mwA :: .ref mhA :: .ref mfA :: .ref mpA :: .ref mxA :: .ref myA :: .ref mmA :: .ref mqA :: .ref mzA :: .ref mwy :: .ref mfd :: .int (nI s9) :: .int (nI s9) :: .int (nI (cq + 1)) :: .int fq :: .int (nI pq) :: .int mdp :: .int x21_1 :: .long mnw :: .int mmk :: []))) kmsT hg_16 (fun e => hx_mo_msT.symm (congrArg Prod.fst e))
          have kmrV := Xc.setX (c' := .inr (12, (.int mer :: .int mfed :: .int mwr :: .int (nI K9) :: .int (nI KL) :: .ref moc :: .ref msT :: .ref mrV :: .ref msP :: .int v21_mqs :: .ref mrA :: .ref mbA :: .ref mwA :: .ref mhA :: .ref mfA :: .ref mpA :: .ref mxA :: .ref myA :: .ref mmA :: .ref mqA :: .ref mzA :: .ref mwy :: .ref mfd :: .int (nI s9) :: .int (nI s9) :: .int (nI (cq + 1)) :: .int fq :: .int (nI pq) :: .int mdp :: .int x21_1 :: .long mnw :: .int mmk :: []))) kmrV hg_16 (fun e => hx_mo_mrV.symm (congrArg Prod.fst e))
          have kmfd := Xc.setX (c' := .inr (12, (.int mer :: .int mfed :: .int mwr :: .int (nI K9) :: .int (nI KL) :: .ref moc :: .ref msT :: .ref mrV :: .ref msP :: .int v21_mqs :: .ref mrA :: .ref mbA :: .ref mwA :: .ref mhA :: .ref mfA :: .ref mpA :: .ref mxA :: .ref myA :: .ref mmA :: .ref mqA :: .ref mzA :: .ref mwy :: .ref mfd :: .int (nI s9) :: .int (nI s9) :: .int (nI (cq + 1)) :: .int fq :: .int (nI pq) :: .int mdp :: .int x21_1 :: .long mnw :: .int mmk :: []))) kmfd hg_16 (fun e => hx_mo_mfd.symm (congrArg Prod.fst e))
          have hFR := hFR.tr (FL.set (Ad := Ad) (X := [mo, mmA, mrA, mfd]) (c' := .inr (12, (.int mer :: .int mfed :: .int mwr :: .int (nI K9) :: .int (nI KL) :: .ref moc :: .ref msT :: .ref mrV :: .ref msP :: .int v21_mqs :: .ref mrA :: .ref mbA :: .ref mwA :: .ref mhA :: .ref mfA :: .ref mpA :: .ref mxA :: .ref myA :: .ref mmA :: .ref mqA :: .ref mzA :: .ref mwy :: .ref mfd :: .int (nI s9) :: .int (nI s9) :: .int (nI (cq + 1)) :: .int fq :: .int (nI pq) :: .int mdp :: .int x21_1 :: .long mnw :: .int mmk :: []))) hg_16 (by simp))
          have hg_16 := set_here (c' := .inr (12, (.int mer :: .int mfed :: .int mwr :: .int (nI K9) :: .int (nI KL) :: .ref moc :: .ref msT :: .ref mrV :: .ref msP :: .int v21_mqs :: .ref mrA :: .ref mbA :: .ref mwA :: .ref mhA :: .ref mfA :: .ref mpA :: .ref mxA :: .ref myA :: .ref mmA :: .ref mqA :: .ref mzA :: .ref mwy :: .ref mfd :: .int (nI s9) :: .int (nI s9) :: .int (nI (cq + 1)) :: .int fq :: .int (nI pq) :: .int mdp :: .int x21_1 :: .long mnw :: .int mmk :: []))) hg_16
          have kmo : Xc Ad mo (.inr (12, (.int mer :: .int mfed :: .int mwr :: .int (nI K9) :: .int (nI KL) :: .ref moc :: .ref msT :: .ref mrV :: .ref msP :: .int v21_mqs :: .ref mrA :: .ref mbA :: .ref mwA :: .ref mhA :: .ref mfA :: .ref mpA :: .ref mxA :: .ref myA :: .ref mmA :: .ref mqA :: .ref mzA :: .ref mwy :: .ref mfd :: .int (nI s9) :: .int (nI s9) :: .int (nI (cq + 1)) :: .int fq :: .int (nI pq) :: .int mdp :: .int x21_1 :: .long mnw :: .int mmk :: []))) (G_17.set i_16 (mo, .inr (12, (.int mer :: .int mfed :: .int mwr :: .int (nI K9) :: .int (nI KL) :: .ref moc :: .ref msT :: .ref mrV :: .ref msP :: .int v21_mqs :: .ref mrA :: .ref mbA :: .ref mwA :: .ref mhA :: .ref mfA :: .ref mpA :: .ref mxA :: .ref myA :: .ref mmA :: .ref mqA :: .ref mzA :: .ref mwy :: .ref mfd :: .int (nI s9) :: .int (nI s9) :: .int (nI (cq + 1)) :: .int fq :: .int (nI pq) :: .int mdp :: .int x21_1 :: .long mnw :: .int mmk :: [])))) := ⟨kmo.1, List.mem_of_getElem? hg_16⟩
          have hD := hD3
          clear hD3 hD2
          generalize G_17.set i_16 (mo, .inr (12, (.int mer :: .int mfed :: .int mwr :: .int (nI K9) :: .int (nI KL) :: .ref moc :: .ref msT :: .ref mrV :: .ref msP :: .int v21_mqs :: .ref mrA :: .ref mbA :: .ref mwA :: .ref mhA :: .ref mfA :: .ref mpA :: .ref mxA :: .ref myA :: .ref mmA :: .ref mqA :: .ref mzA :: .ref mwy :: .ref mfd :: .int (nI s9) :: .int (nI s9) :: .int (nI (cq + 1)) :: .int fq :: .int (nI pq) :: .int mdp :: .int x21_1 :: .long mnw :: .int mmk :: []))) = G_19 at hP hD hTy hFR kmo kmmA kmrA kmwy kmsT kmrV kmfd hg_16
          obtain ⟨cX_20, eX_20⟩ : ∃ z : va_E, z = .inr (12, (.int mer :: .int mfed :: .int mwr :: .int (nI K9) :: .int (nI KL) :: .ref moc :: .ref msT :: .ref mrV :: .ref msP :: .int v21_mqs :: .ref mrA :: .ref mbA :: .ref mwA :: .ref mhA :: .ref mfA :: .ref mpA :: .ref mxA :: .ref myA :: .ref mmA :: .ref mqA :: .ref mzA :: .ref mwy :: .ref mfd :: .int (nI s9) :: .int (nI s9) :: .int (nI (cq + 1)) :: .int fq :: .int (nI pq) :: .int mdp :: .int x21_1 :: .long mnw :: .int mmk :: [])) := ⟨_, rfl⟩
          rw [← eX_20] at kmo
          refine lv_aload_n hx hb d_Model_judged_98 rfl (lv_at hl 3 rfl) ?_
          refine lv_iload_n hx hb d_Model_judged_99 rfl (lv_at hl 2 rfl) ?_
          refine lv_if_ne (tgt := 107) hx hb d_Model_judged_100 (by decide) (fun c100 => ?_) (fun c100 => ?_)
          rotate_left
          · exact absurd c100 p44
          refine lv_iload_n hx hb d_Model_judged_107 rfl (lv_at hl 1 rfl) ?_
          refine va_put (v := .int x21_2) (ty := .int) hx hb htb i_Model t_Model t_Model_ok n_Model hown hK hP hD hS i_16 hg_16 rfl 26 (by decide) (htb _ q8_0) (fun _ h9 => h9) rfl (by decide +kernel) rfl rfl (Nat.le_of_ble_eq_true rfl) d_Model_judged_108 (fun H108 locs hP hD2 hS => ?_)
          have hP : va_P (dC, dI) classes (G_19.set i_16 (mo, .inr (12, (.int mer :: .int mfed :: .int mwr :: .int (nI K9) :: .int (nI KL) :: .ref moc :: .ref msT :: .ref mrV :: .ref msP :: .int v21_mqs :: .ref mrA :: .ref mbA :: .ref mwA :: .ref mhA :: .ref mfA :: .ref mpA :: .ref mxA :: .ref myA :: .ref mmA :: .ref mqA :: .ref mzA :: .ref mwy :: .ref mfd :: .int (nI s9) :: .int (nI s9) :: .int (nI (cq + 1)) :: .int x21_2 :: .int (nI pq) :: .int mdp :: .int x21_1 :: .long mnw :: .int mmk :: [])))) H108 := hP
          have hD3 : va_D A (G_19.set i_16 (mo, .inr (12, (.int mer :: .int mfed :: .int mwr :: .int (nI K9) :: .int (nI KL) :: .ref moc :: .ref msT :: .ref mrV :: .ref msP :: .int v21_mqs :: .ref mrA :: .ref mbA :: .ref mwA :: .ref mhA :: .ref mfA :: .ref mpA :: .ref mxA :: .ref myA :: .ref mmA :: .ref mqA :: .ref mzA :: .ref mwy :: .ref mfd :: .int (nI s9) :: .int (nI s9) :: .int (nI (cq + 1)) :: .int x21_2 :: .int (nI pq) :: .int mdp :: .int x21_1 :: .long mnw :: .int mmk :: [])))) := hD2
          have hTy := TR.setX (c' := .inr (12, (.int mer :: .int mfed :: .int mwr :: .int (nI K9) :: .int (nI KL) :: .ref moc :: .ref msT :: .ref mrV :: .ref msP :: .int v21_mqs :: .ref mrA :: .ref mbA :: .ref mwA :: .ref mhA :: .ref mfA :: .ref mpA :: .ref mxA :: .ref myA :: .ref mmA :: .ref mqA :: .ref mzA :: .ref mwy :: .ref mfd :: .int (nI s9) :: .int (nI s9) :: .int (nI (cq + 1)) :: .int x21_2 :: .int (nI pq) :: .int mdp :: .int x21_1 :: .long mnw :: .int mmk :: []))) hTy hg_16 kmo.1
          have kmmA := Xc.setX (c' := .inr (12, (.int mer :: .int mfed :: .int mwr :: .int (nI K9) :: .int (nI KL) :: .ref moc :: .ref msT :: .ref mrV :: .ref msP :: .int v21_mqs :: .ref mrA :: .ref mbA :: .ref mwA :: .ref mhA :: .ref mfA :: .ref mpA :: .ref mxA :: .ref myA :: .ref mmA :: .ref mqA :: .ref mzA :: .ref mwy :: .ref mfd :: .int (nI s9) :: .int (nI s9) :: .int (nI (cq + 1)) :: .int x21_2 :: .int (nI pq) :: .int mdp :: .int x21_1 :: .long mnw :: .int mmk :: []))) kmmA hg_16 (fun e => hx_mo_mmA.symm (congrArg Prod.fst e))
          have kmrA := Xc.setX (c' := .inr (12, (.int mer :: .int mfed :: .int mwr :: .int (nI K9) :: .int (nI KL) :: .ref moc :: .ref msT :: .ref mrV :: .ref msP :: .int v21_mqs :: .ref mrA :: .ref mbA :: .ref mwA :: .ref mhA :: .ref mfA :: .ref mpA :: .ref mxA :: .ref myA :: .ref mmA :: .ref mqA :: .ref mzA :: .ref mwy :: .ref mfd :: .int (nI s9) :: .int (nI s9) :: .int (nI (cq + 1)) :: .int x21_2 :: .int (nI pq) :: .int mdp :: .int x21_1 :: .long mnw :: .int mmk :: []))) kmrA hg_16 (fun e => hx_mo_mrA.symm (congrArg Prod.fst e))
          have kmwy := Xc.setX (c' := .inr (12, (.int mer :: .int mfed :: .int mwr :: .int (nI K9) :: .int (nI KL) :: .ref moc :: .ref msT :: .ref mrV :: .ref msP :: .int v21_mqs :: .ref mrA :: .ref mbA :: .ref mwA :: .ref mhA :: .ref mfA :: .ref mpA :: .ref mxA :: .ref myA :: .ref mmA :: .ref mqA :: .ref mzA :: .ref mwy :: .ref mfd :: .int (nI s9) :: .int (nI s9) :: .int (nI (cq + 1)) :: .int x21_2 :: .int (nI pq) :: .int mdp :: .int x21_1 :: .long mnw :: .int mmk :: []))) kmwy hg_16 (fun e => hx_mo_mwy.symm (congrArg Prod.fst e))
          have kmsT := Xc.setX (c' := .inr (12, (.int mer :: .int mfed :: .int mwr :: .int (nI K9) :: .int (nI KL) :: .ref moc :: .ref msT :: .ref mrV :: .ref msP :: .int v21_mqs :: .ref mrA :: .ref mbA :: .ref mwA :: .ref mhA :: .ref mfA :: .ref mpA :: .ref mxA :: .ref myA :: .ref mmA :: .ref mqA :: .ref mzA :: .ref mwy :: .ref mfd :: .int (nI s9) :: .int (nI s9) :: .int (nI (cq + 1)) :: .int x21_2 :: .int (nI pq) :: .int mdp :: .int x21_1 :: .long mnw :: .int mmk :: []))) kmsT hg_16 (fun e => hx_mo_msT.symm (congrArg Prod.fst e))
          have kmrV := Xc.setX (c' := .inr (12, (.int mer :: .int mfed :: .int mwr :: .int (nI K9) :: .int (nI KL) :: .ref moc :: .ref msT :: .ref mrV :: .ref msP :: .int v21_mqs :: .ref mrA :: .ref mbA :: .ref mwA :: .ref mhA :: .ref mfA :: .ref mpA :: .ref mxA :: .ref myA :: .ref mmA :: .ref mqA :: .ref mzA :: .ref mwy :: .ref mfd :: .int (nI s9) :: .int (nI s9) :: .int (nI (cq + 1)) :: .int x21_2 :: .int (nI pq) :: .int mdp :: .int x21_1 :: .long mnw :: .int mmk :: []))) kmrV hg_16 (fun e => hx_mo_mrV.symm (congrArg Prod.fst e))
          have kmfd := Xc.setX (c' := .inr (12, (.int mer :: .int mfed :: .int mwr :: .int (nI K9) :: .int (nI KL) :: .ref moc :: .ref msT :: .ref mrV :: .ref msP :: .int v21_mqs :: .ref mrA :: .ref mbA :: .ref mwA :: .ref mhA :: .ref mfA :: .ref mpA :: .ref mxA :: .ref myA :: .ref mmA :: .ref mqA :: .ref mzA :: .ref mwy :: .ref mfd :: .int (nI s9) :: .int (nI s9) :: .int (nI (cq + 1)) :: .int x21_2 :: .int (nI pq) :: .int mdp :: .int x21_1 :: .long mnw :: .int mmk :: []))) kmfd hg_16 (fun e => hx_mo_mfd.symm (congrArg Prod.fst e))
          have hFR := hFR.tr (FL.set (Ad := Ad) (X := [mo, mmA, mrA, mfd]) (c' := .inr (12, (.int mer :: .int mfed :: .int mwr :: .int (nI K9) :: .int (nI KL) :: .ref moc :: .ref msT :: .ref mrV :: .ref msP :: .int v21_mqs :: .ref mrA :: .ref mbA :: .ref mwA :: .ref mhA :: .ref mfA :: .ref mpA :: .ref mxA :: .ref myA :: .ref mmA :: .ref mqA :: .ref mzA :: .ref mwy :: .ref mfd :: .int (nI s9) :: .int (nI s9) :: .int (nI (cq + 1)) :: .int x21_2 :: .int (nI pq) :: .int mdp :: .int x21_1 :: .long mnw :: .int mmk :: []))) hg_16 (by simp))
          have hg_16 := set_here (c' := .inr (12, (.int mer :: .int mfed :: .int mwr :: .int (nI K9) :: .int (nI KL) :: .ref moc :: .ref msT :: .ref mrV :: .ref msP :: .int v21_mqs :: .ref mrA :: .ref mbA :: .ref mwA :: .ref mhA :: .ref mfA :: .ref mpA :: .ref mxA :: .ref myA :: .ref mmA :: .ref mqA :: .ref mzA :: .ref mwy :: .ref mfd :: .int (nI s9) :: .int (nI s9) :: .int (nI (cq + 1)) :: .int x21_2 :: .int (nI pq) :: .int mdp :: .int x21_1 :: .long mnw :: .int mmk :: []))) hg_16
          have kmo : Xc Ad mo (.inr (12, (.int mer :: .int mfed :: .int mwr :: .int (nI K9) :: .int (nI KL) :: .ref moc :: .ref msT :: .ref mrV :: .ref msP :: .int v21_mqs :: .ref mrA :: .ref mbA :: .ref mwA :: .ref mhA :: .ref mfA :: .ref mpA :: .ref mxA :: .ref myA :: .ref mmA :: .ref mqA :: .ref mzA :: .ref mwy :: .ref mfd :: .int (nI s9) :: .int (nI s9) :: .int (nI (cq + 1)) :: .int x21_2 :: .int (nI pq) :: .int mdp :: .int x21_1 :: .long mnw :: .int mmk :: []))) (G_19.set i_16 (mo, .inr (12, (.int mer :: .int mfed :: .int mwr :: .int (nI K9) :: .int (nI KL) :: .ref moc :: .ref msT :: .ref mrV :: .ref msP :: .int v21_mqs :: .ref mrA :: .ref mbA :: .ref mwA :: .ref mhA :: .ref mfA :: .ref mpA :: .ref mxA :: .ref myA :: .ref mmA :: .ref mqA :: .ref mzA :: .ref mwy :: .ref mfd :: .int (nI s9) :: .int (nI s9) :: .int (nI (cq + 1)) :: .int x21_2 :: .int (nI pq) :: .int mdp :: .int x21_1 :: .long mnw :: .int mmk :: [])))) := ⟨kmo.1, List.mem_of_getElem? hg_16⟩
          have hD := hD3
          clear hD3 hD2
          generalize G_19.set i_16 (mo, .inr (12, (.int mer :: .int mfed :: .int mwr :: .int (nI K9) :: .int (nI KL) :: .ref moc :: .ref msT :: .ref mrV :: .ref msP :: .int v21_mqs :: .ref mrA :: .ref mbA :: .ref mwA :: .ref mhA :: .ref mfA :: .ref mpA :: .ref mxA :: .ref myA :: .ref mmA :: .ref mqA :: .ref mzA :: .ref mwy :: .ref mfd :: .int (nI s9) :: .int (nI s9) :: .int (nI (cq + 1)) :: .int x21_2 :: .int (nI pq) :: .int mdp :: .int x21_1 :: .long mnw :: .int mmk :: []))) = G_21 at hP hD hTy hFR kmo kmmA kmrA kmwy kmsT kmrV kmfd hg_16
          obtain ⟨cX_22, eX_22⟩ : ∃ z : va_E, z = .inr (12, (.int mer :: .int mfed :: .int mwr :: .int (nI K9) :: .int (nI KL) :: .ref moc :: .ref msT :: .ref mrV :: .ref msP :: .int v21_mqs :: .ref mrA :: .ref mbA :: .ref mwA :: .ref mhA :: .ref mfA :: .ref mpA :: .ref mxA :: .ref myA :: .ref mmA :: .ref mqA :: .ref mzA :: .ref mwy :: .ref mfd :: .int (nI s9) :: .int (nI s9) :: .int (nI (cq + 1)) :: .int x21_2 :: .int (nI pq) :: .int mdp :: .int x21_1 :: .long mnw :: .int mmk :: [])) := ⟨_, rfl⟩
          rw [← eX_22] at kmo
          refine lv_iload_n hx hb d_Model_judged_111 rfl (lv_at hl 2 rfl) ?_
          refine lv_if_ne (tgt := 119) hx hb d_Model_judged_112 (by decide) (fun c112 => ?_) (fun c112 => ?_)
          rotate_left
          · exact absurd c112 p44
          refine lv_iconst (v := 0) hx hb d_Model_judged_119 (by decide) ?_
          have eF : (rFL τ fS fV KL mnw mmk) wl.reverse = (x21_1, x21_2) := (rFL_s hwl).trans (fj_n hFJ p44)
          have eQ : (sJ (rFL τ fS fV KL mnw mmk) wl.reverse (pq, cq, wq, vq, fq)) = (false, (pq, cq + 1, wl.reverse, x21_1, x21_2)) := sJ_1 eF p44 (show cq = 0 by omega)
          have hfd : fdR wl.reverse f59_mfd := fdR_w (by omega) (fun j9 h9 => hJ59 j9 (by omega))
          have eL : wl.reverse.length = s9 := by rw [List.length_reverse]; exact hwl
          exact W.zret (v := 0) hx hb hr rfl (fun t ht hW => ⟨⟨_, G_21, rfl, ⟨hTy, hFR, by rw [eQ]; rfl, ⟨_, by rw [eQ]; show Xc Ad mo (.inr (12, (.int mer :: .int mfed :: .int mwr :: .int (nI K9) :: .int (nI KL) :: .ref moc :: .ref msT :: .ref mrV :: .ref msP :: .int _ :: .ref mrA :: .ref mbA :: .ref mwA :: .ref mhA :: .ref mfA :: .ref mpA :: .ref mxA :: .ref myA :: .ref mmA :: .ref mqA :: .ref mzA :: .ref mwy :: .ref mfd :: .int (nI s9) :: .int (nI wl.reverse.length) :: .int (nI (cq + 1)) :: .int x21_2 :: .int (nI pq) :: .int mdp :: .int x21_1 :: .long mnw :: .int mmk :: []))) _; rw [eL]; rw [eX_22] at kmo; exact kmo⟩, ⟨_, hfm, kmmA⟩, ⟨_, hfr, kmrA⟩, ⟨_, by rw [eQ]; exact hfd, kmfd⟩⟩, by rw [ht]; exact hP, va_K.moved hW.alike hK, hD⟩, hS.F ht⟩) hS.2.2 d_Model_judged_120
        · have p64 : ¬ (s9 ≤ z59) := (fun q9 => c64 ((nI_leI (a := s9) (b := z59) (by omega) (by omega)).mpr q9))
          refine lv_aload_n hx hb d_Model_judged_67 rfl (lv_at hl 3 rfl) ?_
          refine va_get (v := .ref mfd) hx hb htb i_Model hown hK hP i_16 hg_16 rfl 22 (by decide) (htb _ q7_236) (fun _ h9 => h9) rfl d_Model_judged_68 ?_
          refine lv_iload_n hx hb d_Model_judged_71 rfl (lv_at hl 0 rfl) ?_
          refine lv_aload_n hx hb d_Model_judged_72 rfl (lv_at hl 3 rfl) ?_
          refine va_get (v := .ref mwy) hx hb htb i_Model hown hK hP i_16 hg_16 rfl 21 (by decide) (htb _ q7_235) (fun _ h9 => h9) rfl d_Model_judged_73 ?_
          refine lv_iload_n hx hb d_Model_judged_76 rfl (lv_at hl 0 rfl) ?_
          obtain ⟨i_23, hg_23⟩ := List.getElem?_of_mem kmwy.2
          have h77 : vp_in (nI z59) 16 := vp_in_nI (by omega) (by omega)
          refine va_iald hx hb hK hP i_23 1 hg_23 rfl h77 d_Model_judged_77 ?_
          refine lv_topi (fun e77 he77 => ?_)
          have hw77 := hway z59 (by omega)
          rw [nI_clamp (by omega), hw77.2] at he77
          have hw77 := hw77.1
          subst he77
          obtain ⟨i_24, hg_24⟩ := List.getElem?_of_mem kmfd.2
          have h78 : vp_in (nI z59) 16 := vp_in_nI (by omega) (by omega)
          refine va_iast hx hb hK hP hD hS i_24 1 hg_24 rfl h78 d_Model_judged_78 (fun H78 locs hP hD2 hS => ?_)
          obtain ⟨f78, ef78⟩ : ∃ z : Nat → Int32, z = upd f59_mfd (nI z59).toNatClampNeg (nI (wl.getD z59 0)) := ⟨_, rfl⟩
          rw [← ef78] at hP hD2
          have hP : va_P (dC, dI) classes (G59.set i_24 (mfd, .inl (γ.2.1, 16, .inl f78))) H78 := hP
          have hD3 : va_D A (G59.set i_24 (mfd, .inl (γ.2.1, 16, .inl f78))) := hD2
          have hTy := TR.setX (c' := .inl (γ.2.1, 16, .inl f78)) hTy hg_24 kmfd.1
          have kmo := Xc.setX (c' := .inl (γ.2.1, 16, .inl f78)) kmo hg_24 (fun e => hx_mo_mfd (congrArg Prod.fst e))
          have kmmA := Xc.setX (c' := .inl (γ.2.1, 16, .inl f78)) kmmA hg_24 (fun e => hx_mmA_mfd (congrArg Prod.fst e))
          have kmrA := Xc.setX (c' := .inl (γ.2.1, 16, .inl f78)) kmrA hg_24 (fun e => hx_mrA_mfd (congrArg Prod.fst e))
          have kmwy := Xc.setX (c' := .inl (γ.2.1, 16, .inl f78)) kmwy hg_24 (fun e => hx_mwy_mfd (congrArg Prod.fst e))
          have kmsT := Xc.setX (c' := .inl (γ.2.1, 16, .inl f78)) kmsT hg_24 (fun e => hx_msT_mfd (congrArg Prod.fst e))
          have kmrV := Xc.setX (c' := .inl (γ.2.1, 16, .inl f78)) kmrV hg_24 (fun e => hx_mrV_mfd (congrArg Prod.fst e))
          have hFR := hFR.tr (FL.set (Ad := Ad) (X := [mo, mmA, mrA, mfd]) (c' := .inl (γ.2.1, 16, .inl f78)) hg_24 (by simp))
          have hg_24 := set_here (c' := .inl (γ.2.1, 16, .inl f78)) hg_24
          have kmfd : Xc Ad mfd (.inl (γ.2.1, 16, .inl f78)) (G59.set i_24 (mfd, .inl (γ.2.1, 16, .inl f78))) := ⟨kmfd.1, List.mem_of_getElem? hg_24⟩
          have hD := hD3
          clear hD3 hD2
          generalize G59.set i_24 (mfd, .inl (γ.2.1, 16, .inl f78)) = G_25 at hP hD hTy hFR kmo kmmA kmrA kmwy kmsT kmrV kmfd hg_24
          refine lv_iinc (v := nI (z59 + 1)) (lv' := [(3, .int (nI (z59 + 1))), (2, .int x21_2), (1, .int x21_1), (0, .ref mo)]) hx hb d_Model_judged_79 hl (k := 0) rfl (nI_1 _) (by decide) rfl (fun ls hl => ?_)
          refine lv_goto (tgt := 59) hx hb d_Model_judged_82 (by decide) ?_
          exact ih59 (z59 + 1, f78, G_25) _ _ ls (by dsimp only; omega) ⟨by dsimp only; omega, by dsimp only; omega, hTy, hFR, kmo, kmmA, kmrA, kmwy, kmsT, kmrV, kmfd, cp_sw hJ59 ef78 (by omega)⟩ hP hD hS (lv_sub hl [0, 1, 2, 3, 4] rfl)
      · have p52 : ¬ ((cq + 1) ≤ 1) := (fun q9 => c52 ((nI_leI (a := (cq + 1)) (b := 1) (by omega) (by omega)).mpr q9))
        refine lv_iconst (v := 0) hx hb d_Model_judged_55 (by decide) ?_
        have eF : (rFL τ fS fV KL mnw mmk) wl.reverse = (x21_1, x21_2) := (rFL_s hwl).trans (fj_n hFJ p44)
        have eQ : (sJ (rFL τ fS fV KL mnw mmk) wl.reverse (pq, cq, wq, vq, fq)) = (false, (pq, cq + 1, wq, vq, fq)) := sJ_no eF p44 (show ¬ cq = 0 by omega)
        exact W.zret (v := 0) hx hb hr rfl (fun t ht hW => ⟨⟨_, G21, rfl, ⟨hTy, hFR, by rw [eQ]; rfl, ⟨_, by rw [eQ]; rw [eX_4] at kmo; exact kmo⟩, ⟨_, hfm, kmmA⟩, ⟨_, hfr, kmrA⟩, ⟨_, by rw [eQ]; exact hfd, kmfd⟩⟩, by rw [ht]; exact hP, va_K.moved hW.alike hK, hD⟩, hS.F ht⟩) hS.2.2 d_Model_judged_56
  · have hl : lv_has ls 4 [(3, .int (nI z21)), (2, .int x21_2), (1, .int x21_1), (0, .ref mo)] := hl
    obtain ⟨cX_26, eX_26⟩ : ∃ z : va_E, z = .inr (12, (.int mer :: .int mfed :: .int mwr :: .int (nI K9) :: .int (nI KL) :: .ref moc :: .ref msT :: .ref mrV :: .ref msP :: .int v21_mqs :: .ref mrA :: .ref mbA :: .ref mwA :: .ref mhA :: .ref mfA :: .ref mpA :: .ref mxA :: .ref myA :: .ref mmA :: .ref mqA :: .ref mzA :: .ref mwy :: .ref mfd :: .int (nI s9) :: .int (nI wq.length) :: .int (nI (cq + 1)) :: .int fq :: .int (nI pq) :: .int mdp :: .int vq :: .long mnw :: .int mmk :: [])) := ⟨_, rfl⟩
    rw [← eX_26] at kmo
    obtain ⟨hFJ, hfm, hfr⟩ := hJ21
    refine lv_iload_n hx hb d_Model_judged_21 rfl (lv_at hl 0 rfl) ?_
    refine lv_if_lt (tgt := 43) hx hb d_Model_judged_22 (by decide) (fun c22 => ?_) (fun c22 => ?_)
    · exact absurd c22 (nI_pos (by omega))
    refine lv_iload_n hx hb d_Model_judged_25 rfl (lv_at hl 2 rfl) ?_
    refine lv_if_ne (tgt := 43) hx hb d_Model_judged_26 (by decide) (fun c26 => ?_) (fun c26 => ?_)
    · have p26 : ¬ (x21_1 = (0 : Int32)) := c26
      refine lv_iload_n hx hb d_Model_judged_43 rfl (lv_at hl 2 rfl) ?_
      refine lv_if_eq (tgt := 57) hx hb d_Model_judged_44 (by decide) (fun c44 => ?_) (fun c44 => ?_)
      · exact absurd c44 p26
      refine lv_aload_n hx hb d_Model_judged_47 rfl (lv_at hl 3 rfl) ?_
      obtain ⟨i_27, hg_27⟩ := List.getElem?_of_mem kmo.2
      rw [eX_26] at hg_27
      refine va_get (v := .int (nI (cq + 1))) hx hb htb i_Model hown hK hP i_27 hg_27 rfl 25 (by decide) (htb _ q7_239) (fun _ h9 => h9) rfl d_Model_judged_48 ?_
      refine lv_iconst (v := 1) hx hb d_Model_judged_51 (by decide) ?_
      refine lv_icmp_le (tgt := 57) hx hb d_Model_judged_52 (by decide) (fun c52 => ?_) (fun c52 => ?_)
      · have p52 : (cq + 1) ≤ 1 := ((nI_leI (a := (cq + 1)) (b := 1) (by omega) (by omega)).mp c52)
        refine lv_iconst (v := 0) hx hb d_Model_judged_57 (by decide) ?_
        refine lv_istore_n (lv' := [(3, .int 0), (2, .int x21_2), (1, .int x21_1), (0, .ref mo)]) hx hb d_Model_judged_58 rfl hl (by decide) rfl (fun ls hl => ?_)
        refine w_loopW (α := Nat × (Nat → Int32) × va_W) (fun a9 => 0 ≤ a9.1 ∧ a9.1 ≤ s9 ∧ TR γ κ Ad τ a9.2.2 ∧ FL Ad [mo, mmA, mrA, mfd] G a9.2.2 ∧ Xc Ad mo cX_26 a9.2.2 ∧ Xc Ad mmA (.inl (γ.2.1, 600, .inl f21_mmA)) a9.2.2 ∧ Xc Ad mrA (.inl (γ.2.1, 600, .inl f21_mrA)) a9.2.2 ∧ Xc Ad mwy (.inl (γ.2.1, 16, .inl fw)) a9.2.2 ∧ Xc Ad msT (.inl (gT, 16, .inr (.inr (.inr (.inr fS))))) a9.2.2 ∧ Xc Ad mrV (.inl (gT, 8, .inr (.inr (.inr (.inr fV))))) a9.2.2 ∧ Xc Ad mfd (.inl (γ.2.1, 16, .inl a9.2.1)) a9.2.2 ∧ (∀ j9, j9 < a9.1 → a9.2.1 j9 = nI (wl.getD j9 0))) (fun a9 => s9 - a9.1) (fun a9 => [(3, .int (nI a9.1)), (2, .int x21_2), (1, .int x21_1), (0, .ref mo)]) (fun _ => []) (fun a9 => a9.2.2) 4 59 (fun a9 HL59 locs ls hJ hP hD hS hl ih59 => ?_) (0, ff, G21) _ _ ls ⟨by omega, by omega, hTy, hFR, kmo, kmmA, kmrA, kmwy, kmsT, kmrV, kmfd, fun j9 h9 => absurd h9 (Nat.not_lt_zero j9)⟩ hP hD hS (lv_sub hl [0, 1, 2, 3, 4] rfl)
        obtain ⟨z59, f59_mfd, G59⟩ := a9
        obtain ⟨hy59, hz59, hTy, hFR, kmo, kmmA, kmrA, kmwy, kmsT, kmrV, kmfd, hJ59⟩ := hJ
        dsimp only at hy59 hz59 hTy hFR kmo kmmA kmrA kmwy kmsT kmrV kmfd hP hD hl ih59 hJ59
        refine lv_iload_n hx hb d_Model_judged_59 rfl (lv_at hl 0 rfl) ?_
        refine lv_aload_n hx hb d_Model_judged_60 rfl (lv_at hl 3 rfl) ?_
        obtain ⟨i_28, hg_28⟩ := List.getElem?_of_mem kmo.2
        rw [eX_26] at hg_28
        refine va_get (v := .int (nI s9)) hx hb htb i_Model hown hK hP i_28 hg_28 rfl 23 (by decide) (htb _ q7_237) (fun _ h9 => h9) rfl d_Model_judged_61 ?_
        refine lv_icmp_ge (tgt := 85) hx hb d_Model_judged_64 (by decide) (fun c64 => ?_) (fun c64 => ?_)
        · have p64 : s9 ≤ z59 := ((nI_leI (a := s9) (b := z59) (by omega) (by omega)).mp c64)
          refine lv_aload_n hx hb d_Model_judged_85 rfl (lv_at hl 3 rfl) ?_
          refine lv_aload_n hx hb d_Model_judged_86 rfl (lv_at hl 3 rfl) ?_
          refine va_get (v := .int (nI s9)) hx hb htb i_Model hown hK hP i_28 hg_28 rfl 23 (by decide) (htb _ q7_237) (fun _ h9 => h9) rfl d_Model_judged_87 ?_
          refine va_put (v := .int (nI s9)) (ty := .int) hx hb htb i_Model t_Model t_Model_ok n_Model hown hK hP hD hS i_28 hg_28 rfl 24 (by decide) (htb _ q7_238) (fun _ h9 => h9) rfl (by decide +kernel) rfl rfl (Nat.le_of_ble_eq_true rfl) d_Model_judged_90 (fun H90 locs hP hD2 hS => ?_)
          have hP : va_P (dC, dI) classes (G59.set i_28 (mo, .inr (12, (.int mer :: .int mfed :: .int mwr :: .int (nI K9) :: .int (nI KL) :: .ref moc :: .ref msT :: .ref mrV :: .ref msP :: .int v21_mqs :: .ref mrA :: .ref mbA :: .ref mwA :: .ref mhA :: .ref mfA :: .ref mpA :: .ref mxA :: .ref myA :: .ref mmA :: .ref mqA :: .ref mzA :: .ref mwy :: .ref mfd :: .int (nI s9) :: .int (nI s9) :: .int (nI (cq + 1)) :: .int fq :: .int (nI pq) :: .int mdp :: .int vq :: .long mnw :: .int mmk :: [])))) H90 := hP
          have hD3 : va_D A (G59.set i_28 (mo, .inr (12, (.int mer :: .int mfed :: .int mwr :: .int (nI K9) :: .int (nI KL) :: .ref moc :: .ref msT :: .ref mrV :: .ref msP :: .int v21_mqs :: .ref mrA :: .ref mbA :: .ref mwA :: .ref mhA :: .ref mfA :: .ref mpA :: .ref mxA :: .ref myA :: .ref mmA :: .ref mqA :: .ref mzA :: .ref mwy :: .ref mfd :: .int (nI s9) :: .int (nI s9) :: .int (nI (cq + 1)) :: .int fq :: .int (nI pq) :: .int mdp :: .int vq :: .long mnw :: .int mmk :: [])))) := hD2
          have hTy := TR.setX (c' := .inr (12, (.int mer :: .int mfed :: .int mwr :: .int (nI K9) :: .int (nI KL) :: .ref moc :: .ref msT :: .ref mrV :: .ref msP :: .int v21_mqs :: .ref mrA :: .ref mbA :: .ref mwA :: .ref mhA :: .ref mfA :: .ref mpA :: .ref mxA :: .ref myA :: .ref mmA :: .ref mqA :: .ref mzA :: .ref mwy :: .ref mfd :: .int (nI s9) :: .int (nI s9) :: .int (nI (cq + 1)) :: .int fq :: .int (nI pq) :: .int mdp :: .int vq :: .long mnw :: .int mmk :: []))) hTy hg_28 kmo.1
          have kmmA := Xc.setX (c' := .inr (12, (.int mer :: .int mfed :: .int mwr :: .int (nI K9) :: .int (nI KL) :: .ref moc :: .ref msT :: .ref mrV :: .ref msP :: .int v21_mqs :: .ref mrA :: .ref mbA :: .ref mwA :: .ref mhA :: .ref mfA :: .ref mpA :: .ref mxA :: .ref myA :: .ref mmA :: .ref mqA :: .ref mzA :: .ref mwy :: .ref mfd :: .int (nI s9) :: .int (nI s9) :: .int (nI (cq + 1)) :: .int fq :: .int (nI pq) :: .int mdp :: .int vq :: .long mnw :: .int mmk :: []))) kmmA hg_28 (fun e => hx_mo_mmA.symm (congrArg Prod.fst e))
          have kmrA := Xc.setX (c' := .inr (12, (.int mer :: .int mfed :: .int mwr :: .int (nI K9) :: .int (nI KL) :: .ref moc :: .ref msT :: .ref mrV :: .ref msP :: .int v21_mqs :: .ref mrA :: .ref mbA :: .ref mwA :: .ref mhA :: .ref mfA :: .ref mpA :: .ref mxA :: .ref myA :: .ref mmA :: .ref mqA :: .ref mzA :: .ref mwy :: .ref mfd :: .int (nI s9) :: .int (nI s9) :: .int (nI (cq + 1)) :: .int fq :: .int (nI pq) :: .int mdp :: .int vq :: .long mnw :: .int mmk :: []))) kmrA hg_28 (fun e => hx_mo_mrA.symm (congrArg Prod.fst e))
          have kmwy := Xc.setX (c' := .inr (12, (.int mer :: .int mfed :: .int mwr :: .int (nI K9) :: .int (nI KL) :: .ref moc :: .ref msT :: .ref mrV :: .ref msP :: .int v21_mqs :: .ref mrA :: .ref mbA :: .ref mwA :: .ref mhA :: .ref mfA :: .ref mpA :: .ref mxA :: .ref myA :: .ref mmA :: .ref mqA :: .ref mzA :: .ref mwy :: .ref mfd :: .int (nI s9) :: .int (nI s9) :: .int (nI (cq + 1)) :: .int fq :: .int (nI pq) :: .int mdp :: .int vq :: .long mnw :: .int mmk :: []))) kmwy hg_28 (fun e => hx_mo_mwy.symm (congrArg Prod.fst e))
          have kmsT := Xc.setX (c' := .inr (12, (.int mer :: .int mfed :: .int mwr :: .int (nI K9) :: .int (nI KL) :: .ref moc :: .ref msT :: .ref mrV :: .ref msP :: .int v21_mqs :: .ref mrA :: .ref mbA :: .ref mwA :: .ref mhA :: .ref mfA :: .ref mpA :: .ref mxA :: .ref myA :: .ref mmA :: .ref mqA :: .ref mzA :: .ref mwy :: .ref mfd :: .int (nI s9) :: .int (nI s9) :: .int (nI (cq + 1)) :: .int fq :: .int (nI pq) :: .int mdp :: .int vq :: .long mnw :: .int mmk :: []))) kmsT hg_28 (fun e => hx_mo_msT.symm (congrArg Prod.fst e))
          have kmrV := Xc.setX (c' := .inr (12, (.int mer :: .int mfed :: .int mwr :: .int (nI K9) :: .int (nI KL) :: .ref moc :: .ref msT :: .ref mrV :: .ref msP :: .int v21_mqs :: .ref mrA :: .ref mbA :: .ref mwA :: .ref mhA :: .ref mfA :: .ref mpA :: .ref mxA :: .ref myA :: .ref mmA :: .ref mqA :: .ref mzA :: .ref mwy :: .ref mfd :: .int (nI s9) :: .int (nI s9) :: .int (nI (cq + 1)) :: .int fq :: .int (nI pq) :: .int mdp :: .int vq :: .long mnw :: .int mmk :: []))) kmrV hg_28 (fun e => hx_mo_mrV.symm (congrArg Prod.fst e))
          have kmfd := Xc.setX (c' := .inr (12, (.int mer :: .int mfed :: .int mwr :: .int (nI K9) :: .int (nI KL) :: .ref moc :: .ref msT :: .ref mrV :: .ref msP :: .int v21_mqs :: .ref mrA :: .ref mbA :: .ref mwA :: .ref mhA :: .ref mfA :: .ref mpA :: .ref mxA :: .ref myA :: .ref mmA :: .ref mqA :: .ref mzA :: .ref mwy :: .ref mfd :: .int (nI s9) :: .int (nI s9) :: .int (nI (cq + 1)) :: .int fq :: .int (nI pq) :: .int mdp :: .int vq :: .long mnw :: .int mmk :: []))) kmfd hg_28 (fun e => hx_mo_mfd.symm (congrArg Prod.fst e))
          have hFR := hFR.tr (FL.set (Ad := Ad) (X := [mo, mmA, mrA, mfd]) (c' := .inr (12, (.int mer :: .int mfed :: .int mwr :: .int (nI K9) :: .int (nI KL) :: .ref moc :: .ref msT :: .ref mrV :: .ref msP :: .int v21_mqs :: .ref mrA :: .ref mbA :: .ref mwA :: .ref mhA :: .ref mfA :: .ref mpA :: .ref mxA :: .ref myA :: .ref mmA :: .ref mqA :: .ref mzA :: .ref mwy :: .ref mfd :: .int (nI s9) :: .int (nI s9) :: .int (nI (cq + 1)) :: .int fq :: .int (nI pq) :: .int mdp :: .int vq :: .long mnw :: .int mmk :: []))) hg_28 (by simp))
          have hg_28 := set_here (c' := .inr (12, (.int mer :: .int mfed :: .int mwr :: .int (nI K9) :: .int (nI KL) :: .ref moc :: .ref msT :: .ref mrV :: .ref msP :: .int v21_mqs :: .ref mrA :: .ref mbA :: .ref mwA :: .ref mhA :: .ref mfA :: .ref mpA :: .ref mxA :: .ref myA :: .ref mmA :: .ref mqA :: .ref mzA :: .ref mwy :: .ref mfd :: .int (nI s9) :: .int (nI s9) :: .int (nI (cq + 1)) :: .int fq :: .int (nI pq) :: .int mdp :: .int vq :: .long mnw :: .int mmk :: []))) hg_28
          have kmo : Xc Ad mo (.inr (12, (.int mer :: .int mfed :: .int mwr :: .int (nI K9) :: .int (nI KL) :: .ref moc :: .ref msT :: .ref mrV :: .ref msP :: .int v21_mqs :: .ref mrA :: .ref mbA :: .ref mwA :: .ref mhA :: .ref mfA :: .ref mpA :: .ref mxA :: .ref myA :: .ref mmA :: .ref mqA :: .ref mzA :: .ref mwy :: .ref mfd :: .int (nI s9) :: .int (nI s9) :: .int (nI (cq + 1)) :: .int fq :: .int (nI pq) :: .int mdp :: .int vq :: .long mnw :: .int mmk :: []))) (G59.set i_28 (mo, .inr (12, (.int mer :: .int mfed :: .int mwr :: .int (nI K9) :: .int (nI KL) :: .ref moc :: .ref msT :: .ref mrV :: .ref msP :: .int v21_mqs :: .ref mrA :: .ref mbA :: .ref mwA :: .ref mhA :: .ref mfA :: .ref mpA :: .ref mxA :: .ref myA :: .ref mmA :: .ref mqA :: .ref mzA :: .ref mwy :: .ref mfd :: .int (nI s9) :: .int (nI s9) :: .int (nI (cq + 1)) :: .int fq :: .int (nI pq) :: .int mdp :: .int vq :: .long mnw :: .int mmk :: [])))) := ⟨kmo.1, List.mem_of_getElem? hg_28⟩
          have hD := hD3
          clear hD3 hD2
          generalize G59.set i_28 (mo, .inr (12, (.int mer :: .int mfed :: .int mwr :: .int (nI K9) :: .int (nI KL) :: .ref moc :: .ref msT :: .ref mrV :: .ref msP :: .int v21_mqs :: .ref mrA :: .ref mbA :: .ref mwA :: .ref mhA :: .ref mfA :: .ref mpA :: .ref mxA :: .ref myA :: .ref mmA :: .ref mqA :: .ref mzA :: .ref mwy :: .ref mfd :: .int (nI s9) :: .int (nI s9) :: .int (nI (cq + 1)) :: .int fq :: .int (nI pq) :: .int mdp :: .int vq :: .long mnw :: .int mmk :: []))) = G_29 at hP hD hTy hFR kmo kmmA kmrA kmwy kmsT kmrV kmfd hg_28
          obtain ⟨cX_30, eX_30⟩ : ∃ z : va_E, z = .inr (12, (.int mer :: .int mfed :: .int mwr :: .int (nI K9) :: .int (nI KL) :: .ref moc :: .ref msT :: .ref mrV :: .ref msP :: .int v21_mqs :: .ref mrA :: .ref mbA :: .ref mwA :: .ref mhA :: .ref mfA :: .ref mpA :: .ref mxA :: .ref myA :: .ref mmA :: .ref mqA :: .ref mzA :: .ref mwy :: .ref mfd :: .int (nI s9) :: .int (nI s9) :: .int (nI (cq + 1)) :: .int fq :: .int (nI pq) :: .int mdp :: .int vq :: .long mnw :: .int mmk :: [])) := ⟨_, rfl⟩
          rw [← eX_30] at kmo
          refine lv_aload_n hx hb d_Model_judged_93 rfl (lv_at hl 3 rfl) ?_
          refine lv_iload_n hx hb d_Model_judged_94 rfl (lv_at hl 2 rfl) ?_
          refine va_put (v := .int x21_1) (ty := .int) hx hb htb i_Model t_Model t_Model_ok n_Model hown hK hP hD hS i_28 hg_28 rfl 29 (by decide) (htb _ q8_3) (fun _ h9 => h9) rfl (by decide +kernel) rfl rfl (Nat.le_of_ble_eq_true rfl) d_Model_judged_95 (fun H95 locs hP hD2 hS => ?_)
          have hP : va_P (dC, dI) classes (G_29.set i_28 (mo, .inr (12, (.int mer :: .int mfed :: .int mwr :: .int (nI K9) :: .int (nI KL) :: .ref moc :: .ref msT :: .ref mrV :: .ref msP :: .int v21_mqs :: .ref mrA :: .ref mbA :: .ref mwA :: .ref mhA :: .ref mfA :: .ref mpA :: .ref mxA :: .ref myA :: .ref mmA :: .ref mqA :: .ref mzA :: .ref mwy :: .ref mfd :: .int (nI s9) :: .int (nI s9) :: .int (nI (cq + 1)) :: .int fq :: .int (nI pq) :: .int mdp :: .int x21_1 :: .long mnw :: .int mmk :: [])))) H95 := hP
          have hD3 : va_D A (G_29.set i_28 (mo, .inr (12, (.int mer :: .int mfed :: .int mwr :: .int (nI K9) :: .int (nI KL) :: .ref moc :: .ref msT :: .ref mrV :: .ref msP :: .int v21_mqs :: .ref mrA :: .ref mbA :: .ref mwA :: .ref mhA :: .ref mfA :: .ref mpA :: .ref mxA :: .ref myA :: .ref mmA :: .ref mqA :: .ref mzA :: .ref mwy :: .ref mfd :: .int (nI s9) :: .int (nI s9) :: .int (nI (cq + 1)) :: .int fq :: .int (nI pq) :: .int mdp :: .int x21_1 :: .long mnw :: .int mmk :: [])))) := hD2
          have hTy := TR.setX (c' := .inr (12, (.int mer :: .int mfed :: .int mwr :: .int (nI K9) :: .int (nI KL) :: .ref moc :: .ref msT :: .ref mrV :: .ref msP :: .int v21_mqs :: .ref mrA :: .ref mbA :: .ref mwA :: .ref mhA :: .ref mfA :: .ref mpA :: .ref mxA :: .ref myA :: .ref mmA :: .ref mqA :: .ref mzA :: .ref mwy :: .ref mfd :: .int (nI s9) :: .int (nI s9) :: .int (nI (cq + 1)) :: .int fq :: .int (nI pq) :: .int mdp :: .int x21_1 :: .long mnw :: .int mmk :: []))) hTy hg_28 kmo.1
          have kmmA := Xc.setX (c' := .inr (12, (.int mer :: .int mfed :: .int mwr :: .int (nI K9) :: .int (nI KL) :: .ref moc :: .ref msT :: .ref mrV :: .ref msP :: .int v21_mqs :: .ref mrA :: .ref mbA :: .ref mwA :: .ref mhA :: .ref mfA :: .ref mpA :: .ref mxA :: .ref myA :: .ref mmA :: .ref mqA :: .ref mzA :: .ref mwy :: .ref mfd :: .int (nI s9) :: .int (nI s9) :: .int (nI (cq + 1)) :: .int fq :: .int (nI pq) :: .int mdp :: .int x21_1 :: .long mnw :: .int mmk :: []))) kmmA hg_28 (fun e => hx_mo_mmA.symm (congrArg Prod.fst e))
          have kmrA := Xc.setX (c' := .inr (12, (.int mer :: .int mfed :: .int mwr :: .int (nI K9) :: .int (nI KL) :: .ref moc :: .ref msT :: .ref mrV :: .ref msP :: .int v21_mqs :: .ref mrA :: .ref mbA :: .ref mwA :: .ref mhA :: .ref mfA :: .ref mpA :: .ref mxA :: .ref myA :: .ref mmA :: .ref mqA :: .ref mzA :: .ref mwy :: .ref mfd :: .int (nI s9) :: .int (nI s9) :: .int (nI (cq + 1)) :: .int fq :: .int (nI pq) :: .int mdp :: .int x21_1 :: .long mnw :: .int mmk :: []))) kmrA hg_28 (fun e => hx_mo_mrA.symm (congrArg Prod.fst e))
          have kmwy := Xc.setX (c' := .inr (12, (.int mer :: .int mfed :: .int mwr :: .int (nI K9) :: .int (nI KL) :: .ref moc :: .ref msT :: .ref mrV :: .ref msP :: .int v21_mqs :: .ref mrA :: .ref mbA :: .ref mwA :: .ref mhA :: .ref mfA :: .ref mpA :: .ref mxA :: .ref myA :: .ref mmA :: .ref mqA :: .ref mzA :: .ref mwy :: .ref mfd :: .int (nI s9) :: .int (nI s9) :: .int (nI (cq + 1)) :: .int fq :: .int (nI pq) :: .int mdp :: .int x21_1 :: .long mnw :: .int mmk :: []))) kmwy hg_28 (fun e => hx_mo_mwy.symm (congrArg Prod.fst e))
          have kmsT := Xc.setX (c' := .inr (12, (.int mer :: .int mfed :: .int mwr :: .int (nI K9) :: .int (nI KL) :: .ref moc :: .ref msT :: .ref mrV :: .ref msP :: .int v21_mqs :: .ref mrA :: .ref mbA :: .ref mwA :: .ref mhA :: .ref mfA :: .ref mpA :: .ref mxA :: .ref myA :: .ref mmA :: .ref mqA :: .ref mzA :: .ref mwy :: .ref mfd :: .int (nI s9) :: .int (nI s9) :: .int (nI (cq + 1)) :: .int fq :: .int (nI pq) :: .int mdp :: .int x21_1 :: .long mnw :: .int mmk :: []))) kmsT hg_28 (fun e => hx_mo_msT.symm (congrArg Prod.fst e))
          have kmrV := Xc.setX (c' := .inr (12, (.int mer :: .int mfed :: .int mwr :: .int (nI K9) :: .int (nI KL) :: .ref moc :: .ref msT :: .ref mrV :: .ref msP :: .int v21_mqs :: .ref mrA :: .ref mbA :: .ref mwA :: .ref mhA :: .ref mfA :: .ref mpA :: .ref mxA :: .ref myA :: .ref mmA :: .ref mqA :: .ref mzA :: .ref mwy :: .ref mfd :: .int (nI s9) :: .int (nI s9) :: .int (nI (cq + 1)) :: .int fq :: .int (nI pq) :: .int mdp :: .int x21_1 :: .long mnw :: .int mmk :: []))) kmrV hg_28 (fun e => hx_mo_mrV.symm (congrArg Prod.fst e))
          have kmfd := Xc.setX (c' := .inr (12, (.int mer :: .int mfed :: .int mwr :: .int (nI K9) :: .int (nI KL) :: .ref moc :: .ref msT :: .ref mrV :: .ref msP :: .int v21_mqs :: .ref mrA :: .ref mbA :: .ref mwA :: .ref mhA :: .ref mfA :: .ref mpA :: .ref mxA :: .ref myA :: .ref mmA :: .ref mqA :: .ref mzA :: .ref mwy :: .ref mfd :: .int (nI s9) :: .int (nI s9) :: .int (nI (cq + 1)) :: .int fq :: .int (nI pq) :: .int mdp :: .int x21_1 :: .long mnw :: .int mmk :: []))) kmfd hg_28 (fun e => hx_mo_mfd.symm (congrArg Prod.fst e))
          have hFR := hFR.tr (FL.set (Ad := Ad) (X := [mo, mmA, mrA, mfd]) (c' := .inr (12, (.int mer :: .int mfed :: .int mwr :: .int (nI K9) :: .int (nI KL) :: .ref moc :: .ref msT :: .ref mrV :: .ref msP :: .int v21_mqs :: .ref mrA :: .ref mbA :: .ref mwA :: .ref mhA :: .ref mfA :: .ref mpA :: .ref mxA :: .ref myA :: .ref mmA :: .ref mqA :: .ref mzA :: .ref mwy :: .ref mfd :: .int (nI s9) :: .int (nI s9) :: .int (nI (cq + 1)) :: .int fq :: .int (nI pq) :: .int mdp :: .int x21_1 :: .long mnw :: .int mmk :: []))) hg_28 (by simp))
          have hg_28 := set_here (c' := .inr (12, (.int mer :: .int mfed :: .int mwr :: .int (nI K9) :: .int (nI KL) :: .ref moc :: .ref msT :: .ref mrV :: .ref msP :: .int v21_mqs :: .ref mrA :: .ref mbA :: .ref mwA :: .ref mhA :: .ref mfA :: .ref mpA :: .ref mxA :: .ref myA :: .ref mmA :: .ref mqA :: .ref mzA :: .ref mwy :: .ref mfd :: .int (nI s9) :: .int (nI s9) :: .int (nI (cq + 1)) :: .int fq :: .int (nI pq) :: .int mdp :: .int x21_1 :: .long mnw :: .int mmk :: []))) hg_28
          have kmo : Xc Ad mo (.inr (12, (.int mer :: .int mfed :: .int mwr :: .int (nI K9) :: .int (nI KL) :: .ref moc :: .ref msT :: .ref mrV :: .ref msP :: .int v21_mqs :: .ref mrA :: .ref mbA :: .ref mwA :: .ref mhA :: .ref mfA :: .ref mpA :: .ref mxA :: .ref myA :: .ref mmA :: .ref mqA :: .ref mzA :: .ref mwy :: .ref mfd :: .int (nI s9) :: .int (nI s9) :: .int (nI (cq + 1)) :: .int fq :: .int (nI pq) :: .int mdp :: .int x21_1 :: .long mnw :: .int mmk :: []))) (G_29.set i_28 (mo, .inr (12, (.int mer :: .int mfed :: .int mwr :: .int (nI K9) :: .int (nI KL) :: .ref moc :: .ref msT :: .ref mrV :: .ref msP :: .int v21_mqs :: .ref mrA :: .ref mbA :: .ref mwA :: .ref mhA :: .ref mfA :: .ref mpA :: .ref mxA :: .ref myA :: .ref mmA :: .ref mqA :: .ref mzA :: .ref mwy :: .ref mfd :: .int (nI s9) :: .int (nI s9) :: .int (nI (cq + 1)) :: .int fq :: .int (nI pq) :: .int mdp :: .int x21_1 :: .long mnw :: .int mmk :: [])))) := ⟨kmo.1, List.mem_of_getElem? hg_28⟩
          have hD := hD3
          clear hD3 hD2
          generalize G_29.set i_28 (mo, .inr (12, (.int mer :: .int mfed :: .int mwr :: .int (nI K9) :: .int (nI KL) :: .ref moc :: .ref msT :: .ref mrV :: .ref msP :: .int v21_mqs :: .ref mrA :: .ref mbA :: .ref mwA :: .ref mhA :: .ref mfA :: .ref mpA :: .ref mxA :: .ref myA :: .ref mmA :: .ref mqA :: .ref mzA :: .ref mwy :: .ref mfd :: .int (nI s9) :: .int (nI s9) :: .int (nI (cq + 1)) :: .int fq :: .int (nI pq) :: .int mdp :: .int x21_1 :: .long mnw :: .int mmk :: []))) = G_31 at hP hD hTy hFR kmo kmmA kmrA kmwy kmsT kmrV kmfd hg_28
          obtain ⟨cX_32, eX_32⟩ : ∃ z : va_E, z = .inr (12, (.int mer :: .int mfed :: .int mwr :: .int (nI K9) :: .int (nI KL) :: .ref moc :: .ref msT :: .ref mrV :: .ref msP :: .int v21_mqs :: .ref mrA :: .ref mbA :: .ref mwA :: .ref mhA :: .ref mfA :: .ref mpA :: .ref mxA :: .ref myA :: .ref mmA :: .ref mqA :: .ref mzA :: .ref mwy :: .ref mfd :: .int (nI s9) :: .int (nI s9) :: .int (nI (cq + 1)) :: .int fq :: .int (nI pq) :: .int mdp :: .int x21_1 :: .long mnw :: .int mmk :: [])) := ⟨_, rfl⟩
          rw [← eX_32] at kmo
          refine lv_aload_n hx hb d_Model_judged_98 rfl (lv_at hl 3 rfl) ?_
          refine lv_iload_n hx hb d_Model_judged_99 rfl (lv_at hl 2 rfl) ?_
          refine lv_if_ne (tgt := 107) hx hb d_Model_judged_100 (by decide) (fun c100 => ?_) (fun c100 => ?_)
          rotate_left
          · exact absurd c100 p26
          refine lv_iload_n hx hb d_Model_judged_107 rfl (lv_at hl 1 rfl) ?_
          refine va_put (v := .int x21_2) (ty := .int) hx hb htb i_Model t_Model t_Model_ok n_Model hown hK hP hD hS i_28 hg_28 rfl 26 (by decide) (htb _ q8_0) (fun _ h9 => h9) rfl (by decide +kernel) rfl rfl (Nat.le_of_ble_eq_true rfl) d_Model_judged_108 (fun H108 locs hP hD2 hS => ?_)
          have hP : va_P (dC, dI) classes (G_31.set i_28 (mo, .inr (12, (.int mer :: .int mfed :: .int mwr :: .int (nI K9) :: .int (nI KL) :: .ref moc :: .ref msT :: .ref mrV :: .ref msP :: .int v21_mqs :: .ref mrA :: .ref mbA :: .ref mwA :: .ref mhA :: .ref mfA :: .ref mpA :: .ref mxA :: .ref myA :: .ref mmA :: .ref mqA :: .ref mzA :: .ref mwy :: .ref mfd :: .int (nI s9) :: .int (nI s9) :: .int (nI (cq + 1)) :: .int x21_2 :: .int (nI pq) :: .int mdp :: .int x21_1 :: .long mnw :: .int mmk :: [])))) H108 := hP
          have hD3 : va_D A (G_31.set i_28 (mo, .inr (12, (.int mer :: .int mfed :: .int mwr :: .int (nI K9) :: .int (nI KL) :: .ref moc :: .ref msT :: .ref mrV :: .ref msP :: .int v21_mqs :: .ref mrA :: .ref mbA :: .ref mwA :: .ref mhA :: .ref mfA :: .ref mpA :: .ref mxA :: .ref myA :: .ref mmA :: .ref mqA :: .ref mzA :: .ref mwy :: .ref mfd :: .int (nI s9) :: .int (nI s9) :: .int (nI (cq + 1)) :: .int x21_2 :: .int (nI pq) :: .int mdp :: .int x21_1 :: .long mnw :: .int mmk :: [])))) := hD2
          have hTy := TR.setX (c' := .inr (12, (.int mer :: .int mfed :: .int mwr :: .int (nI K9) :: .int (nI KL) :: .ref moc :: .ref msT :: .ref mrV :: .ref msP :: .int v21_mqs :: .ref mrA :: .ref mbA :: .ref mwA :: .ref mhA :: .ref mfA :: .ref mpA :: .ref mxA :: .ref myA :: .ref mmA :: .ref mqA :: .ref mzA :: .ref mwy :: .ref mfd :: .int (nI s9) :: .int (nI s9) :: .int (nI (cq + 1)) :: .int x21_2 :: .int (nI pq) :: .int mdp :: .int x21_1 :: .long mnw :: .int mmk :: []))) hTy hg_28 kmo.1
          have kmmA := Xc.setX (c' := .inr (12, (.int mer :: .int mfed :: .int mwr :: .int (nI K9) :: .int (nI KL) :: .ref moc :: .ref msT :: .ref mrV :: .ref msP :: .int v21_mqs :: .ref mrA :: .ref mbA :: .ref mwA :: .ref mhA :: .ref mfA :: .ref mpA :: .ref mxA :: .ref myA :: .ref mmA :: .ref mqA :: .ref mzA :: .ref mwy :: .ref mfd :: .int (nI s9) :: .int (nI s9) :: .int (nI (cq + 1)) :: .int x21_2 :: .int (nI pq) :: .int mdp :: .int x21_1 :: .long mnw :: .int mmk :: []))) kmmA hg_28 (fun e => hx_mo_mmA.symm (congrArg Prod.fst e))
          have kmrA := Xc.setX (c' := .inr (12, (.int mer :: .int mfed :: .int mwr :: .int (nI K9) :: .int (nI KL) :: .ref moc :: .ref msT :: .ref mrV :: .ref msP :: .int v21_mqs :: .ref mrA :: .ref mbA :: .ref mwA :: .ref mhA :: .ref mfA :: .ref mpA :: .ref mxA :: .ref myA :: .ref mmA :: .ref mqA :: .ref mzA :: .ref mwy :: .ref mfd :: .int (nI s9) :: .int (nI s9) :: .int (nI (cq + 1)) :: .int x21_2 :: .int (nI pq) :: .int mdp :: .int x21_1 :: .long mnw :: .int mmk :: []))) kmrA hg_28 (fun e => hx_mo_mrA.symm (congrArg Prod.fst e))
          have kmwy := Xc.setX (c' := .inr (12, (.int mer :: .int mfed :: .int mwr :: .int (nI K9) :: .int (nI KL) :: .ref moc :: .ref msT :: .ref mrV :: .ref msP :: .int v21_mqs :: .ref mrA :: .ref mbA :: .ref mwA :: .ref mhA :: .ref mfA :: .ref mpA :: .ref mxA :: .ref myA :: .ref mmA :: .ref mqA :: .ref mzA :: .ref mwy :: .ref mfd :: .int (nI s9) :: .int (nI s9) :: .int (nI (cq + 1)) :: .int x21_2 :: .int (nI pq) :: .int mdp :: .int x21_1 :: .long mnw :: .int mmk :: []))) kmwy hg_28 (fun e => hx_mo_mwy.symm (congrArg Prod.fst e))
          have kmsT := Xc.setX (c' := .inr (12, (.int mer :: .int mfed :: .int mwr :: .int (nI K9) :: .int (nI KL) :: .ref moc :: .ref msT :: .ref mrV :: .ref msP :: .int v21_mqs :: .ref mrA :: .ref mbA :: .ref mwA :: .ref mhA :: .ref mfA :: .ref mpA :: .ref mxA :: .ref myA :: .ref mmA :: .ref mqA :: .ref mzA :: .ref mwy :: .ref mfd :: .int (nI s9) :: .int (nI s9) :: .int (nI (cq + 1)) :: .int x21_2 :: .int (nI pq) :: .int mdp :: .int x21_1 :: .long mnw :: .int mmk :: []))) kmsT hg_28 (fun e => hx_mo_msT.symm (congrArg Prod.fst e))
          have kmrV := Xc.setX (c' := .inr (12, (.int mer :: .int mfed :: .int mwr :: .int (nI K9) :: .int (nI KL) :: .ref moc :: .ref msT :: .ref mrV :: .ref msP :: .int v21_mqs :: .ref mrA :: .ref mbA :: .ref mwA :: .ref mhA :: .ref mfA :: .ref mpA :: .ref mxA :: .ref myA :: .ref mmA :: .ref mqA :: .ref mzA :: .ref mwy :: .ref mfd :: .int (nI s9) :: .int (nI s9) :: .int (nI (cq + 1)) :: .int x21_2 :: .int (nI pq) :: .int mdp :: .int x21_1 :: .long mnw :: .int mmk :: []))) kmrV hg_28 (fun e => hx_mo_mrV.symm (congrArg Prod.fst e))
          have kmfd := Xc.setX (c' := .inr (12, (.int mer :: .int mfed :: .int mwr :: .int (nI K9) :: .int (nI KL) :: .ref moc :: .ref msT :: .ref mrV :: .ref msP :: .int v21_mqs :: .ref mrA :: .ref mbA :: .ref mwA :: .ref mhA :: .ref mfA :: .ref mpA :: .ref mxA :: .ref myA :: .ref mmA :: .ref mqA :: .ref mzA :: .ref mwy :: .ref mfd :: .int (nI s9) :: .int (nI s9) :: .int (nI (cq + 1)) :: .int x21_2 :: .int (nI pq) :: .int mdp :: .int x21_1 :: .long mnw :: .int mmk :: []))) kmfd hg_28 (fun e => hx_mo_mfd.symm (congrArg Prod.fst e))
          have hFR := hFR.tr (FL.set (Ad := Ad) (X := [mo, mmA, mrA, mfd]) (c' := .inr (12, (.int mer :: .int mfed :: .int mwr :: .int (nI K9) :: .int (nI KL) :: .ref moc :: .ref msT :: .ref mrV :: .ref msP :: .int v21_mqs :: .ref mrA :: .ref mbA :: .ref mwA :: .ref mhA :: .ref mfA :: .ref mpA :: .ref mxA :: .ref myA :: .ref mmA :: .ref mqA :: .ref mzA :: .ref mwy :: .ref mfd :: .int (nI s9) :: .int (nI s9) :: .int (nI (cq + 1)) :: .int x21_2 :: .int (nI pq) :: .int mdp :: .int x21_1 :: .long mnw :: .int mmk :: []))) hg_28 (by simp))
          have hg_28 := set_here (c' := .inr (12, (.int mer :: .int mfed :: .int mwr :: .int (nI K9) :: .int (nI KL) :: .ref moc :: .ref msT :: .ref mrV :: .ref msP :: .int v21_mqs :: .ref mrA :: .ref mbA :: .ref mwA :: .ref mhA :: .ref mfA :: .ref mpA :: .ref mxA :: .ref myA :: .ref mmA :: .ref mqA :: .ref mzA :: .ref mwy :: .ref mfd :: .int (nI s9) :: .int (nI s9) :: .int (nI (cq + 1)) :: .int x21_2 :: .int (nI pq) :: .int mdp :: .int x21_1 :: .long mnw :: .int mmk :: []))) hg_28
          have kmo : Xc Ad mo (.inr (12, (.int mer :: .int mfed :: .int mwr :: .int (nI K9) :: .int (nI KL) :: .ref moc :: .ref msT :: .ref mrV :: .ref msP :: .int v21_mqs :: .ref mrA :: .ref mbA :: .ref mwA :: .ref mhA :: .ref mfA :: .ref mpA :: .ref mxA :: .ref myA :: .ref mmA :: .ref mqA :: .ref mzA :: .ref mwy :: .ref mfd :: .int (nI s9) :: .int (nI s9) :: .int (nI (cq + 1)) :: .int x21_2 :: .int (nI pq) :: .int mdp :: .int x21_1 :: .long mnw :: .int mmk :: []))) (G_31.set i_28 (mo, .inr (12, (.int mer :: .int mfed :: .int mwr :: .int (nI K9) :: .int (nI KL) :: .ref moc :: .ref msT :: .ref mrV :: .ref msP :: .int v21_mqs :: .ref mrA :: .ref mbA :: .ref mwA :: .ref mhA :: .ref mfA :: .ref mpA :: .ref mxA :: .ref myA :: .ref mmA :: .ref mqA :: .ref mzA :: .ref mwy :: .ref mfd :: .int (nI s9) :: .int (nI s9) :: .int (nI (cq + 1)) :: .int x21_2 :: .int (nI pq) :: .int mdp :: .int x21_1 :: .long mnw :: .int mmk :: [])))) := ⟨kmo.1, List.mem_of_getElem? hg_28⟩
          have hD := hD3
          clear hD3 hD2
          generalize G_31.set i_28 (mo, .inr (12, (.int mer :: .int mfed :: .int mwr :: .int (nI K9) :: .int (nI KL) :: .ref moc :: .ref msT :: .ref mrV :: .ref msP :: .int v21_mqs :: .ref mrA :: .ref mbA :: .ref mwA :: .ref mhA :: .ref mfA :: .ref mpA :: .ref mxA :: .ref myA :: .ref mmA :: .ref mqA :: .ref mzA :: .ref mwy :: .ref mfd :: .int (nI s9) :: .int (nI s9) :: .int (nI (cq + 1)) :: .int x21_2 :: .int (nI pq) :: .int mdp :: .int x21_1 :: .long mnw :: .int mmk :: []))) = G_33 at hP hD hTy hFR kmo kmmA kmrA kmwy kmsT kmrV kmfd hg_28
          obtain ⟨cX_34, eX_34⟩ : ∃ z : va_E, z = .inr (12, (.int mer :: .int mfed :: .int mwr :: .int (nI K9) :: .int (nI KL) :: .ref moc :: .ref msT :: .ref mrV :: .ref msP :: .int v21_mqs :: .ref mrA :: .ref mbA :: .ref mwA :: .ref mhA :: .ref mfA :: .ref mpA :: .ref mxA :: .ref myA :: .ref mmA :: .ref mqA :: .ref mzA :: .ref mwy :: .ref mfd :: .int (nI s9) :: .int (nI s9) :: .int (nI (cq + 1)) :: .int x21_2 :: .int (nI pq) :: .int mdp :: .int x21_1 :: .long mnw :: .int mmk :: [])) := ⟨_, rfl⟩
          rw [← eX_34] at kmo
          refine lv_iload_n hx hb d_Model_judged_111 rfl (lv_at hl 2 rfl) ?_
          refine lv_if_ne (tgt := 119) hx hb d_Model_judged_112 (by decide) (fun c112 => ?_) (fun c112 => ?_)
          rotate_left
          · exact absurd c112 p26
          refine lv_iconst (v := 0) hx hb d_Model_judged_119 (by decide) ?_
          have eF : (rFL τ fS fV KL mnw mmk) wl.reverse = (x21_1, x21_2) := (rFL_s hwl).trans (fj_n hFJ p26)
          have eQ : (sJ (rFL τ fS fV KL mnw mmk) wl.reverse (pq, cq, wq, vq, fq)) = (false, (pq, cq + 1, wl.reverse, x21_1, x21_2)) := sJ_1 eF p26 (show cq = 0 by omega)
          have hfd : fdR wl.reverse f59_mfd := fdR_w (by omega) (fun j9 h9 => hJ59 j9 (by omega))
          have eL : wl.reverse.length = s9 := by rw [List.length_reverse]; exact hwl
          exact W.zret (v := 0) hx hb hr rfl (fun t ht hW => ⟨⟨_, G_33, rfl, ⟨hTy, hFR, by rw [eQ]; rfl, ⟨_, by rw [eQ]; show Xc Ad mo (.inr (12, (.int mer :: .int mfed :: .int mwr :: .int (nI K9) :: .int (nI KL) :: .ref moc :: .ref msT :: .ref mrV :: .ref msP :: .int _ :: .ref mrA :: .ref mbA :: .ref mwA :: .ref mhA :: .ref mfA :: .ref mpA :: .ref mxA :: .ref myA :: .ref mmA :: .ref mqA :: .ref mzA :: .ref mwy :: .ref mfd :: .int (nI s9) :: .int (nI wl.reverse.length) :: .int (nI (cq + 1)) :: .int x21_2 :: .int (nI pq) :: .int mdp :: .int x21_1 :: .long mnw :: .int mmk :: []))) _; rw [eL]; rw [eX_34] at kmo; exact kmo⟩, ⟨_, hfm, kmmA⟩, ⟨_, hfr, kmrA⟩, ⟨_, by rw [eQ]; exact hfd, kmfd⟩⟩, by rw [ht]; exact hP, va_K.moved hW.alike hK, hD⟩, hS.F ht⟩) hS.2.2 d_Model_judged_120
        · have p64 : ¬ (s9 ≤ z59) := (fun q9 => c64 ((nI_leI (a := s9) (b := z59) (by omega) (by omega)).mpr q9))
          refine lv_aload_n hx hb d_Model_judged_67 rfl (lv_at hl 3 rfl) ?_
          refine va_get (v := .ref mfd) hx hb htb i_Model hown hK hP i_28 hg_28 rfl 22 (by decide) (htb _ q7_236) (fun _ h9 => h9) rfl d_Model_judged_68 ?_
          refine lv_iload_n hx hb d_Model_judged_71 rfl (lv_at hl 0 rfl) ?_
          refine lv_aload_n hx hb d_Model_judged_72 rfl (lv_at hl 3 rfl) ?_
          refine va_get (v := .ref mwy) hx hb htb i_Model hown hK hP i_28 hg_28 rfl 21 (by decide) (htb _ q7_235) (fun _ h9 => h9) rfl d_Model_judged_73 ?_
          refine lv_iload_n hx hb d_Model_judged_76 rfl (lv_at hl 0 rfl) ?_
          obtain ⟨i_35, hg_35⟩ := List.getElem?_of_mem kmwy.2
          have h77 : vp_in (nI z59) 16 := vp_in_nI (by omega) (by omega)
          refine va_iald hx hb hK hP i_35 1 hg_35 rfl h77 d_Model_judged_77 ?_
          refine lv_topi (fun e77 he77 => ?_)
          have hw77 := hway z59 (by omega)
          rw [nI_clamp (by omega), hw77.2] at he77
          have hw77 := hw77.1
          subst he77
          obtain ⟨i_36, hg_36⟩ := List.getElem?_of_mem kmfd.2
          have h78 : vp_in (nI z59) 16 := vp_in_nI (by omega) (by omega)
          refine va_iast hx hb hK hP hD hS i_36 1 hg_36 rfl h78 d_Model_judged_78 (fun H78 locs hP hD2 hS => ?_)
          obtain ⟨f78, ef78⟩ : ∃ z : Nat → Int32, z = upd f59_mfd (nI z59).toNatClampNeg (nI (wl.getD z59 0)) := ⟨_, rfl⟩
          rw [← ef78] at hP hD2
          have hP : va_P (dC, dI) classes (G59.set i_36 (mfd, .inl (γ.2.1, 16, .inl f78))) H78 := hP
          have hD3 : va_D A (G59.set i_36 (mfd, .inl (γ.2.1, 16, .inl f78))) := hD2
          have hTy := TR.setX (c' := .inl (γ.2.1, 16, .inl f78)) hTy hg_36 kmfd.1
          have kmo := Xc.setX (c' := .inl (γ.2.1, 16, .inl f78)) kmo hg_36 (fun e => hx_mo_mfd (congrArg Prod.fst e))
          have kmmA := Xc.setX (c' := .inl (γ.2.1, 16, .inl f78)) kmmA hg_36 (fun e => hx_mmA_mfd (congrArg Prod.fst e))
          have kmrA := Xc.setX (c' := .inl (γ.2.1, 16, .inl f78)) kmrA hg_36 (fun e => hx_mrA_mfd (congrArg Prod.fst e))
          have kmwy := Xc.setX (c' := .inl (γ.2.1, 16, .inl f78)) kmwy hg_36 (fun e => hx_mwy_mfd (congrArg Prod.fst e))
          have kmsT := Xc.setX (c' := .inl (γ.2.1, 16, .inl f78)) kmsT hg_36 (fun e => hx_msT_mfd (congrArg Prod.fst e))
          have kmrV := Xc.setX (c' := .inl (γ.2.1, 16, .inl f78)) kmrV hg_36 (fun e => hx_mrV_mfd (congrArg Prod.fst e))
          have hFR := hFR.tr (FL.set (Ad := Ad) (X := [mo, mmA, mrA, mfd]) (c' := .inl (γ.2.1, 16, .inl f78)) hg_36 (by simp))
          have hg_36 := set_here (c' := .inl (γ.2.1, 16, .inl f78)) hg_36
          have kmfd : Xc Ad mfd (.inl (γ.2.1, 16, .inl f78)) (G59.set i_36 (mfd, .inl (γ.2.1, 16, .inl f78))) := ⟨kmfd.1, List.mem_of_getElem? hg_36⟩
          have hD := hD3
          clear hD3 hD2
          generalize G59.set i_36 (mfd, .inl (γ.2.1, 16, .inl f78)) = G_37 at hP hD hTy hFR kmo kmmA kmrA kmwy kmsT kmrV kmfd hg_36
          refine lv_iinc (v := nI (z59 + 1)) (lv' := [(3, .int (nI (z59 + 1))), (2, .int x21_2), (1, .int x21_1), (0, .ref mo)]) hx hb d_Model_judged_79 hl (k := 0) rfl (nI_1 _) (by decide) rfl (fun ls hl => ?_)
          refine lv_goto (tgt := 59) hx hb d_Model_judged_82 (by decide) ?_
          exact ih59 (z59 + 1, f78, G_37) _ _ ls (by dsimp only; omega) ⟨by dsimp only; omega, by dsimp only; omega, hTy, hFR, kmo, kmmA, kmrA, kmwy, kmsT, kmrV, kmfd, cp_sw hJ59 ef78 (by omega)⟩ hP hD hS (lv_sub hl [0, 1, 2, 3, 4] rfl)
      · have p52 : ¬ ((cq + 1) ≤ 1) := (fun q9 => c52 ((nI_leI (a := (cq + 1)) (b := 1) (by omega) (by omega)).mpr q9))
        refine lv_iconst (v := 0) hx hb d_Model_judged_55 (by decide) ?_
        have eF : (rFL τ fS fV KL mnw mmk) wl.reverse = (x21_1, x21_2) := (rFL_s hwl).trans (fj_n hFJ p26)
        have eQ : (sJ (rFL τ fS fV KL mnw mmk) wl.reverse (pq, cq, wq, vq, fq)) = (false, (pq, cq + 1, wq, vq, fq)) := sJ_no eF p26 (show ¬ cq = 0 by omega)
        exact W.zret (v := 0) hx hb hr rfl (fun t ht hW => ⟨⟨_, G21, rfl, ⟨hTy, hFR, by rw [eQ]; rfl, ⟨_, by rw [eQ]; rw [eX_26] at kmo; exact kmo⟩, ⟨_, hfm, kmmA⟩, ⟨_, hfr, kmrA⟩, ⟨_, by rw [eQ]; exact hfd, kmfd⟩⟩, by rw [ht]; exact hP, va_K.moved hW.alike hK, hD⟩, hS.F ht⟩) hS.2.2 d_Model_judged_56
    · have p26 : x21_1 = (0 : Int32) := c26
      refine lv_aload_n hx hb d_Model_judged_29 rfl (lv_at hl 3 rfl) ?_
      refine lv_iload_n hx hb d_Model_judged_30 rfl (lv_at hl 0 rfl) ?_
      have hFc := va_free (wc := G21) hD hS hA (List.range G21.length) (rg_is _)
      obtain ⟨i_39, hg_39⟩ := List.getElem?_of_mem kmo.2
      rw [eX_26] at hg_39
      refine va_calli (mu_runV (As := [.int (nI z21)]) (rest := []) ⟨hx, hb, hml, hown, hts⟩ tbin (m_Model_faultOf l dC dI sb γ κ Ad τ gT G21 mo _ _ _ _ _ _ _ _ _ _ _ _ _ _ _ _ _ _ _ _ _ _ _ _ _ _ _ _ _ _ _ _ _ _ _ _ _ _ _ _ HL21.size hTy (by have h9 := kmo; rw [eX_26] at h9; exact h9) kmmA kmrA kmwy kmsT kmrV kmfd kmzA kmqA kmyA kmxA kmbA kmwA kmhA kmpA kmfA hx_mo_mmA hx_mo_mrA hx_mo_mwy hx_mo_msT hx_mo_mrV hx_mo_mfd hx_mmA_mrA hx_mmA_mwy hx_mmA_msT hx_mmA_mrV hx_mmA_mfd hx_mrA_mwy hx_mrA_msT hx_mrA_mrV hx_mrA_mfd hx_mwy_msT hx_mwy_mrV hx_mwy_mfd hx_msT_mrV hx_msT_mfd hx_mrV_mfd hst hrv hway hwl (by omega) (by omega) (by omega) hfm hfr hmk hma (by omega)) q9_141 q9_143 qp_47 q1_9 q9_144 (n := 1) (by decide +kernel) rfl ⟨rfl, rfl⟩ ⟨Nat.le_of_ble_eq_true rfl, Nat.le_of_ble_eq_true rfl⟩ ⟨Nat.le_of_ble_eq_true rfl, Nat.le_of_ble_eq_true rfl⟩ hN (hT0.keep hS hAs) hAs (Nat.le_trans hB0 hS.1) hK hP hD (List.range G21.length) (rg_nd _) (rg_is _) [0, 1, 2, 3, 4] rfl i_39 12 hg_39 rfl rfl hl.1 rfl (Nat.le_of_ble_eq_true rfl) d_Model_judged_31) hS (fun q _ h => hFc q h) hFc (fun r31 G_38 tS H31 locs ht hvm hw31 hB hz1 hk1 hS => ?_)
      obtain ⟨hTy, hF9, hr31⟩ := hw31
      have kmwy := kmwy.fl hF9 (q_nmc (hx_mo_mwy.symm) (q_nmc (hx_mmA_mwy.symm) (q_nmc (hx_mrA_mwy.symm) (q_nmn))))
      have kmsT := kmsT.fl hF9 (q_nmc (hx_mo_msT.symm) (q_nmc (hx_mmA_msT.symm) (q_nmc (hx_mrA_msT.symm) (q_nmn))))
      have kmrV := kmrV.fl hF9 (q_nmc (hx_mo_mrV.symm) (q_nmc (hx_mmA_mrV.symm) (q_nmc (hx_mrA_mrV.symm) (q_nmn))))
      have kmfd := kmfd.fl hF9 (q_nmc (hx_mo_mfd.symm) (q_nmc (hx_mmA_mfd.symm) (q_nmc (hx_mrA_mfd.symm) (q_nmn))))
      have hFR := hFR.tr (hF9.up (q_gac (by simp) (q_gac (by simp) (q_gac (by simp) (q_gan)))))
      obtain ⟨hP1, hK1, hD1⟩ := hB
      rw [ht] at hP1
      have hP : va_P (dC, dI) classes G_38 H31 := hP1
      have hD : va_D A G_38 := hD1.weaken (fun _ _ _ h => hFc _ h)
      obtain ⟨hr31, ⟨q31, kmo⟩, ⟨fa31, hfm, kmmA⟩, ⟨fb31, hfr, kmrA⟩⟩ := hr31
      obtain ⟨cX_40, eX_40⟩ : ∃ z : va_E, z = .inr (12, (.int mer :: .int mfed :: .int mwr :: .int (nI K9) :: .int (nI KL) :: .ref moc :: .ref msT :: .ref mrV :: .ref msP :: .int q31 :: .ref mrA :: .ref mbA :: .ref mwA :: .ref mhA :: .ref mfA :: .ref mpA :: .ref mxA :: .ref myA :: .ref mmA :: .ref mqA :: .ref mzA :: .ref mwy :: .ref mfd :: .int (nI s9) :: .int (nI wq.length) :: .int (nI (cq + 1)) :: .int fq :: .int (nI pq) :: .int mdp :: .int vq :: .long mnw :: .int mmk :: [])) := ⟨_, rfl⟩
      rw [← eX_40] at kmo
      subst hr31
      refine lv_istore_n (lv' := [(1, .int ((rFT τ fS fV KL mnw mmk wl) z21)), (3, .int (nI z21)), (2, .int x21_2), (0, .ref mo)]) hx hb d_Model_judged_34 rfl hl (by decide) rfl (fun ls hl => ?_)
      refine lv_iload_n hx hb d_Model_judged_35 rfl (lv_at hl 1 rfl) ?_
      refine lv_istore_n (lv' := [(2, .int (nI z21)), (1, .int ((rFT τ fS fV KL mnw mmk wl) z21)), (3, .int (nI z21)), (0, .ref mo)]) hx hb d_Model_judged_36 rfl hl (by decide) rfl (fun ls hl => ?_)
      refine lv_iinc (v := jD z21) (lv' := [(3, .int (jD z21)), (2, .int (nI z21)), (1, .int ((rFT τ fS fV KL mnw mmk wl) z21)), (0, .ref mo)]) hx hb d_Model_judged_37 hl (k := 2) rfl (jD_dec _) (by decide) rfl (fun ls hl => ?_)
      refine lv_goto (tgt := 21) hx hb d_Model_judged_40 (by decide) ?_
      exact ih21 (z21, (rFT τ fS fV KL mnw mmk wl) z21, nI z21, fa31, fb31, q31, G_38) _ _ ls (by dsimp only; omega) ⟨by dsimp only; omega, by dsimp only; omega, hTy, hFR, (by have h9 := kmo; rw [eX_40] at h9; exact h9), kmmA, kmrA, kmwy, kmsT, kmrV, kmfd, ⟨fj_step (fj_0 hFJ p26), hfm, hfr⟩⟩ hP hD hS (lv_sub hl [0, 1, 2, 3, 4] rfl)
