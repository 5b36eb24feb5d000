/-! The reference's hash returns. -/
def y_Model_compress : MethodName := ⟨"TrustChainModel", "compress", "(I)V"⟩
abbrev b_Model_compress : ByteArray := prog_14_method_25_code
def w_Model_compress : List Cond := Cond.code y_Model_compress b_Model_compress 13 (none) :: tb
theorem d_Model_compress_0 : decode b_Model_compress 0 = .ok (.iconst 0, 1) := by decide +kernel
theorem d_Model_compress_1 : decode b_Model_compress 1 = .ok (.istore_n 2, 1) := by decide +kernel
theorem d_Model_compress_2 : decode b_Model_compress 2 = .ok (.iload_n 2, 1) := by decide +kernel
theorem d_Model_compress_3 : decode b_Model_compress 3 = .ok (.bipush 16, 2) := by decide +kernel
theorem d_Model_compress_5 : decode b_Model_compress 5 = .ok (.if_icmp .ge 73, 3) := by decide +kernel
theorem d_Model_compress_8 : decode b_Model_compress 8 = .ok (.aload_n 0, 1) := by decide +kernel
theorem d_Model_compress_9 : decode b_Model_compress 9 = .ok (.getfield 37, 3) := by decide +kernel
theorem d_Model_compress_12 : decode b_Model_compress 12 = .ok (.iload_n 2, 1) := by decide +kernel
theorem d_Model_compress_13 : decode b_Model_compress 13 = .ok (.aload_n 0, 1) := by decide +kernel
theorem d_Model_compress_14 : decode b_Model_compress 14 = .ok (.getfield 34, 3) := by decide +kernel
theorem d_Model_compress_17 : decode b_Model_compress 17 = .ok (.iload_n 1, 1) := by decide +kernel
theorem d_Model_compress_18 : decode b_Model_compress 18 = .ok (.iconst 4, 1) := by decide +kernel
theorem d_Model_compress_19 : decode b_Model_compress 19 = .ok (.iload_n 2, 1) := by decide +kernel
theorem d_Model_compress_20 : decode b_Model_compress 20 = .ok (.imul, 1) := by decide +kernel
theorem d_Model_compress_21 : decode b_Model_compress 21 = .ok (.iadd, 1) := by decide +kernel
theorem d_Model_compress_22 : decode b_Model_compress 22 = .ok (.iaload, 1) := by decide +kernel
theorem d_Model_compress_23 : decode b_Model_compress 23 = .ok (.bipush 24, 2) := by decide +kernel
theorem d_Model_compress_25 : decode b_Model_compress 25 = .ok (.ishl, 1) := by decide +kernel
theorem d_Model_compress_26 : decode b_Model_compress 26 = .ok (.aload_n 0, 1) := by decide +kernel
theorem d_Model_compress_27 : decode b_Model_compress 27 = .ok (.getfield 34, 3) := by decide +kernel
theorem d_Model_compress_30 : decode b_Model_compress 30 = .ok (.iload_n 1, 1) := by decide +kernel
theorem d_Model_compress_31 : decode b_Model_compress 31 = .ok (.iconst 4, 1) := by decide +kernel
theorem d_Model_compress_32 : decode b_Model_compress 32 = .ok (.iload_n 2, 1) := by decide +kernel
theorem d_Model_compress_33 : decode b_Model_compress 33 = .ok (.imul, 1) := by decide +kernel
theorem d_Model_compress_34 : decode b_Model_compress 34 = .ok (.iadd, 1) := by decide +kernel
theorem d_Model_compress_35 : decode b_Model_compress 35 = .ok (.iconst 1, 1) := by decide +kernel
theorem d_Model_compress_36 : decode b_Model_compress 36 = .ok (.iadd, 1) := by decide +kernel
theorem d_Model_compress_37 : decode b_Model_compress 37 = .ok (.iaload, 1) := by decide +kernel
theorem d_Model_compress_38 : decode b_Model_compress 38 = .ok (.bipush 16, 2) := by decide +kernel
theorem d_Model_compress_40 : decode b_Model_compress 40 = .ok (.ishl, 1) := by decide +kernel
theorem d_Model_compress_41 : decode b_Model_compress 41 = .ok (.ior, 1) := by decide +kernel
theorem d_Model_compress_42 : decode b_Model_compress 42 = .ok (.aload_n 0, 1) := by decide +kernel
theorem d_Model_compress_43 : decode b_Model_compress 43 = .ok (.getfield 34, 3) := by decide +kernel
theorem d_Model_compress_46 : decode b_Model_compress 46 = .ok (.iload_n 1, 1) := by decide +kernel
theorem d_Model_compress_47 : decode b_Model_compress 47 = .ok (.iconst 4, 1) := by decide +kernel
theorem d_Model_compress_48 : decode b_Model_compress 48 = .ok (.iload_n 2, 1) := by decide +kernel
theorem d_Model_compress_49 : decode b_Model_compress 49 = .ok (.imul, 1) := by decide +kernel
theorem d_Model_compress_50 : decode b_Model_compress 50 = .ok (.iadd, 1) := by decide +kernel
theorem d_Model_compress_51 : decode b_Model_compress 51 = .ok (.iconst 2, 1) := by decide +kernel
theorem d_Model_compress_52 : decode b_Model_compress 52 = .ok (.iadd, 1) := by decide +kernel
theorem d_Model_compress_53 : decode b_Model_compress 53 = .ok (.iaload, 1) := by decide +kernel
theorem d_Model_compress_54 : decode b_Model_compress 54 = .ok (.bipush 8, 2) := by decide +kernel
theorem d_Model_compress_56 : decode b_Model_compress 56 = .ok (.ishl, 1) := by decide +kernel
theorem d_Model_compress_57 : decode b_Model_compress 57 = .ok (.ior, 1) := by decide +kernel
theorem d_Model_compress_58 : decode b_Model_compress 58 = .ok (.aload_n 0, 1) := by decide +kernel
theorem d_Model_compress_59 : decode b_Model_compress 59 = .ok (.getfield 34, 3) := by decide +kernel
theorem d_Model_compress_62 : decode b_Model_compress 62 = .ok (.iload_n 1, 1) := by decide +kernel
theorem d_Model_compress_63 : decode b_Model_compress 63 = .ok (.iconst 4, 1) := by decide +kernel
theorem d_Model_compress_64 : decode b_Model_compress 64 = .ok (.iload_n 2, 1) := by decide +kernel
theorem d_Model_compress_65 : decode b_Model_compress 65 = .ok (.imul, 1) := by decide +kernel
theorem d_Model_compress_66 : decode b_Model_compress 66 = .ok (.iadd, 1) := by decide +kernel
theorem d_Model_compress_67 : decode b_Model_compress 67 = .ok (.iconst 3, 1) := by decide +kernel
theorem d_Model_compress_68 : decode b_Model_compress 68 = .ok (.iadd, 1) := by decide +kernel
theorem d_Model_compress_69 : decode b_Model_compress 69 = .ok (.iaload, 1) := by decide +kernel
theorem d_Model_compress_70 : decode b_Model_compress 70 = .ok (.ior, 1) := by decide +kernel
theorem d_Model_compress_71 : decode b_Model_compress 71 = .ok (.iastore, 1) := by decide +kernel
theorem d_Model_compress_72 : decode b_Model_compress 72 = .ok (.iinc 2 1, 3) := by decide +kernel
theorem d_Model_compress_75 : decode b_Model_compress 75 = .ok (.goto (-73), 3) := by decide +kernel
theorem d_Model_compress_78 : decode b_Model_compress 78 = .ok (.bipush 16, 2) := by decide +kernel
theorem d_Model_compress_80 : decode b_Model_compress 80 = .ok (.istore_n 2, 1) := by decide +kernel
theorem d_Model_compress_81 : decode b_Model_compress 81 = .ok (.iload_n 2, 1) := by decide +kernel
theorem d_Model_compress_82 : decode b_Model_compress 82 = .ok (.bipush 64, 2) := by decide +kernel
theorem d_Model_compress_84 : decode b_Model_compress 84 = .ok (.if_icmp .ge 94, 3) := by decide +kernel
theorem d_Model_compress_87 : decode b_Model_compress 87 = .ok (.aload_n 0, 1) := by decide +kernel
theorem d_Model_compress_88 : decode b_Model_compress 88 = .ok (.getfield 37, 3) := by decide +kernel
theorem d_Model_compress_91 : decode b_Model_compress 91 = .ok (.iload_n 2, 1) := by decide +kernel
theorem d_Model_compress_92 : decode b_Model_compress 92 = .ok (.bipush 15, 2) := by decide +kernel
theorem d_Model_compress_94 : decode b_Model_compress 94 = .ok (.isub, 1) := by decide +kernel
theorem d_Model_compress_95 : decode b_Model_compress 95 = .ok (.iaload, 1) := by decide +kernel
theorem d_Model_compress_96 : decode b_Model_compress 96 = .ok (.istore_n 3, 1) := by decide +kernel
theorem d_Model_compress_97 : decode b_Model_compress 97 = .ok (.aload_n 0, 1) := by decide +kernel
theorem d_Model_compress_98 : decode b_Model_compress 98 = .ok (.getfield 37, 3) := by decide +kernel
theorem d_Model_compress_101 : decode b_Model_compress 101 = .ok (.iload_n 2, 1) := by decide +kernel
theorem d_Model_compress_102 : decode b_Model_compress 102 = .ok (.iconst 2, 1) := by decide +kernel
theorem d_Model_compress_103 : decode b_Model_compress 103 = .ok (.isub, 1) := by decide +kernel
theorem d_Model_compress_104 : decode b_Model_compress 104 = .ok (.iaload, 1) := by decide +kernel
theorem d_Model_compress_105 : decode b_Model_compress 105 = .ok (.istore 4, 2) := by decide +kernel
theorem d_Model_compress_107 : decode b_Model_compress 107 = .ok (.aload_n 0, 1) := by decide +kernel
theorem d_Model_compress_108 : decode b_Model_compress 108 = .ok (.getfield 37, 3) := by decide +kernel
theorem d_Model_compress_111 : decode b_Model_compress 111 = .ok (.iload_n 2, 1) := by decide +kernel
theorem d_Model_compress_112 : decode b_Model_compress 112 = .ok (.aload_n 0, 1) := by decide +kernel
theorem d_Model_compress_113 : decode b_Model_compress 113 = .ok (.getfield 37, 3) := by decide +kernel
theorem d_Model_compress_116 : decode b_Model_compress 116 = .ok (.iload_n 2, 1) := by decide +kernel
theorem d_Model_compress_117 : decode b_Model_compress 117 = .ok (.bipush 16, 2) := by decide +kernel
theorem d_Model_compress_119 : decode b_Model_compress 119 = .ok (.isub, 1) := by decide +kernel
theorem d_Model_compress_120 : decode b_Model_compress 120 = .ok (.iaload, 1) := by decide +kernel
theorem d_Model_compress_121 : decode b_Model_compress 121 = .ok (.iload_n 3, 1) := by decide +kernel
theorem d_Model_compress_122 : decode b_Model_compress 122 = .ok (.bipush 7, 2) := by decide +kernel
theorem d_Model_compress_124 : decode b_Model_compress 124 = .ok (.invokestatic 268, 3) := by decide +kernel
theorem d_Model_compress_127 : decode b_Model_compress 127 = .ok (.iload_n 3, 1) := by decide +kernel
theorem d_Model_compress_128 : decode b_Model_compress 128 = .ok (.bipush 18, 2) := by decide +kernel
theorem d_Model_compress_130 : decode b_Model_compress 130 = .ok (.invokestatic 268, 3) := by decide +kernel
theorem d_Model_compress_133 : decode b_Model_compress 133 = .ok (.ixor, 1) := by decide +kernel
theorem d_Model_compress_134 : decode b_Model_compress 134 = .ok (.iload_n 3, 1) := by decide +kernel
theorem d_Model_compress_135 : decode b_Model_compress 135 = .ok (.iconst 3, 1) := by decide +kernel
theorem d_Model_compress_136 : decode b_Model_compress 136 = .ok (.iushr, 1) := by decide +kernel
theorem d_Model_compress_137 : decode b_Model_compress 137 = .ok (.ixor, 1) := by decide +kernel
theorem d_Model_compress_138 : decode b_Model_compress 138 = .ok (.iadd, 1) := by decide +kernel
theorem d_Model_compress_139 : decode b_Model_compress 139 = .ok (.aload_n 0, 1) := by decide +kernel
theorem d_Model_compress_140 : decode b_Model_compress 140 = .ok (.getfield 37, 3) := by decide +kernel
theorem d_Model_compress_143 : decode b_Model_compress 143 = .ok (.iload_n 2, 1) := by decide +kernel
theorem d_Model_compress_144 : decode b_Model_compress 144 = .ok (.bipush 7, 2) := by decide +kernel
theorem d_Model_compress_146 : decode b_Model_compress 146 = .ok (.isub, 1) := by decide +kernel
theorem d_Model_compress_147 : decode b_Model_compress 147 = .ok (.iaload, 1) := by decide +kernel
theorem d_Model_compress_148 : decode b_Model_compress 148 = .ok (.iadd, 1) := by decide +kernel
theorem d_Model_compress_149 : decode b_Model_compress 149 = .ok (.iload 4, 2) := by decide +kernel
theorem d_Model_compress_151 : decode b_Model_compress 151 = .ok (.bipush 17, 2) := by decide +kernel
theorem d_Model_compress_153 : decode b_Model_compress 153 = .ok (.invokestatic 268, 3) := by decide +kernel
theorem d_Model_compress_156 : decode b_Model_compress 156 = .ok (.iload 4, 2) := by decide +kernel
theorem d_Model_compress_158 : decode b_Model_compress 158 = .ok (.bipush 19, 2) := by decide +kernel
theorem d_Model_compress_160 : decode b_Model_compress 160 = .ok (.invokestatic 268, 3) := by decide +kernel
theorem d_Model_compress_163 : decode b_Model_compress 163 = .ok (.ixor, 1) := by decide +kernel
theorem d_Model_compress_164 : decode b_Model_compress 164 = .ok (.iload 4, 2) := by decide +kernel
theorem d_Model_compress_166 : decode b_Model_compress 166 = .ok (.bipush 10, 2) := by decide +kernel
theorem d_Model_compress_168 : decode b_Model_compress 168 = .ok (.iushr, 1) := by decide +kernel
theorem d_Model_compress_169 : decode b_Model_compress 169 = .ok (.ixor, 1) := by decide +kernel
theorem d_Model_compress_170 : decode b_Model_compress 170 = .ok (.iadd, 1) := by decide +kernel
theorem d_Model_compress_171 : decode b_Model_compress 171 = .ok (.iastore, 1) := by decide +kernel
theorem d_Model_compress_172 : decode b_Model_compress 172 = .ok (.iinc 2 1, 3) := by decide +kernel
theorem d_Model_compress_175 : decode b_Model_compress 175 = .ok (.goto (-94), 3) := by decide +kernel
theorem d_Model_compress_178 : decode b_Model_compress 178 = .ok (.aload_n 0, 1) := by decide +kernel
theorem d_Model_compress_179 : decode b_Model_compress 179 = .ok (.getfield 40, 3) := by decide +kernel
theorem d_Model_compress_182 : decode b_Model_compress 182 = .ok (.iconst 0, 1) := by decide +kernel
theorem d_Model_compress_183 : decode b_Model_compress 183 = .ok (.iaload, 1) := by decide +kernel
theorem d_Model_compress_184 : decode b_Model_compress 184 = .ok (.istore_n 2, 1) := by decide +kernel
theorem d_Model_compress_185 : decode b_Model_compress 185 = .ok (.aload_n 0, 1) := by decide +kernel
theorem d_Model_compress_186 : decode b_Model_compress 186 = .ok (.getfield 40, 3) := by decide +kernel
theorem d_Model_compress_189 : decode b_Model_compress 189 = .ok (.iconst 1, 1) := by decide +kernel
theorem d_Model_compress_190 : decode b_Model_compress 190 = .ok (.iaload, 1) := by decide +kernel
theorem d_Model_compress_191 : decode b_Model_compress 191 = .ok (.istore_n 3, 1) := by decide +kernel
theorem d_Model_compress_192 : decode b_Model_compress 192 = .ok (.aload_n 0, 1) := by decide +kernel
theorem d_Model_compress_193 : decode b_Model_compress 193 = .ok (.getfield 40, 3) := by decide +kernel
theorem d_Model_compress_196 : decode b_Model_compress 196 = .ok (.iconst 2, 1) := by decide +kernel
theorem d_Model_compress_197 : decode b_Model_compress 197 = .ok (.iaload, 1) := by decide +kernel
theorem d_Model_compress_198 : decode b_Model_compress 198 = .ok (.istore 4, 2) := by decide +kernel
theorem d_Model_compress_200 : decode b_Model_compress 200 = .ok (.aload_n 0, 1) := by decide +kernel
theorem d_Model_compress_201 : decode b_Model_compress 201 = .ok (.getfield 40, 3) := by decide +kernel
theorem d_Model_compress_204 : decode b_Model_compress 204 = .ok (.iconst 3, 1) := by decide +kernel
theorem d_Model_compress_205 : decode b_Model_compress 205 = .ok (.iaload, 1) := by decide +kernel
theorem d_Model_compress_206 : decode b_Model_compress 206 = .ok (.istore 5, 2) := by decide +kernel
theorem d_Model_compress_208 : decode b_Model_compress 208 = .ok (.aload_n 0, 1) := by decide +kernel
theorem d_Model_compress_209 : decode b_Model_compress 209 = .ok (.getfield 40, 3) := by decide +kernel
theorem d_Model_compress_212 : decode b_Model_compress 212 = .ok (.iconst 4, 1) := by decide +kernel
theorem d_Model_compress_213 : decode b_Model_compress 213 = .ok (.iaload, 1) := by decide +kernel
theorem d_Model_compress_214 : decode b_Model_compress 214 = .ok (.istore 6, 2) := by decide +kernel
theorem d_Model_compress_216 : decode b_Model_compress 216 = .ok (.aload_n 0, 1) := by decide +kernel
theorem d_Model_compress_217 : decode b_Model_compress 217 = .ok (.getfield 40, 3) := by decide +kernel
theorem d_Model_compress_220 : decode b_Model_compress 220 = .ok (.iconst 5, 1) := by decide +kernel
theorem d_Model_compress_221 : decode b_Model_compress 221 = .ok (.iaload, 1) := by decide +kernel
theorem d_Model_compress_222 : decode b_Model_compress 222 = .ok (.istore 7, 2) := by decide +kernel
theorem d_Model_compress_224 : decode b_Model_compress 224 = .ok (.aload_n 0, 1) := by decide +kernel
theorem d_Model_compress_225 : decode b_Model_compress 225 = .ok (.getfield 40, 3) := by decide +kernel
theorem d_Model_compress_228 : decode b_Model_compress 228 = .ok (.bipush 6, 2) := by decide +kernel
theorem d_Model_compress_230 : decode b_Model_compress 230 = .ok (.iaload, 1) := by decide +kernel
theorem d_Model_compress_231 : decode b_Model_compress 231 = .ok (.istore 8, 2) := by decide +kernel
theorem d_Model_compress_233 : decode b_Model_compress 233 = .ok (.aload_n 0, 1) := by decide +kernel
theorem d_Model_compress_234 : decode b_Model_compress 234 = .ok (.getfield 40, 3) := by decide +kernel
theorem d_Model_compress_237 : decode b_Model_compress 237 = .ok (.bipush 7, 2) := by decide +kernel
theorem d_Model_compress_239 : decode b_Model_compress 239 = .ok (.iaload, 1) := by decide +kernel
theorem d_Model_compress_240 : decode b_Model_compress 240 = .ok (.istore 9, 2) := by decide +kernel
theorem d_Model_compress_242 : decode b_Model_compress 242 = .ok (.iconst 0, 1) := by decide +kernel
theorem d_Model_compress_243 : decode b_Model_compress 243 = .ok (.istore 10, 2) := by decide +kernel
theorem d_Model_compress_245 : decode b_Model_compress 245 = .ok (.iload 10, 2) := by decide +kernel
theorem d_Model_compress_247 : decode b_Model_compress 247 = .ok (.bipush 64, 2) := by decide +kernel
theorem d_Model_compress_249 : decode b_Model_compress 249 = .ok (.if_icmp .ge 136, 3) := by decide +kernel
theorem d_Model_compress_252 : decode b_Model_compress 252 = .ok (.iload 9, 2) := by decide +kernel
theorem d_Model_compress_254 : decode b_Model_compress 254 = .ok (.iload 6, 2) := by decide +kernel
theorem d_Model_compress_256 : decode b_Model_compress 256 = .ok (.bipush 6, 2) := by decide +kernel
theorem d_Model_compress_258 : decode b_Model_compress 258 = .ok (.invokestatic 268, 3) := by decide +kernel
theorem d_Model_compress_261 : decode b_Model_compress 261 = .ok (.iload 6, 2) := by decide +kernel
theorem d_Model_compress_263 : decode b_Model_compress 263 = .ok (.bipush 11, 2) := by decide +kernel
theorem d_Model_compress_265 : decode b_Model_compress 265 = .ok (.invokestatic 268, 3) := by decide +kernel
theorem d_Model_compress_268 : decode b_Model_compress 268 = .ok (.ixor, 1) := by decide +kernel
theorem d_Model_compress_269 : decode b_Model_compress 269 = .ok (.iload 6, 2) := by decide +kernel
theorem d_Model_compress_271 : decode b_Model_compress 271 = .ok (.bipush 25, 2) := by decide +kernel
theorem d_Model_compress_273 : decode b_Model_compress 273 = .ok (.invokestatic 268, 3) := by decide +kernel
theorem d_Model_compress_276 : decode b_Model_compress 276 = .ok (.ixor, 1) := by decide +kernel
theorem d_Model_compress_277 : decode b_Model_compress 277 = .ok (.iadd, 1) := by decide +kernel
theorem d_Model_compress_278 : decode b_Model_compress 278 = .ok (.iload 6, 2) := by decide +kernel
theorem d_Model_compress_280 : decode b_Model_compress 280 = .ok (.iload 7, 2) := by decide +kernel
theorem d_Model_compress_282 : decode b_Model_compress 282 = .ok (.iand, 1) := by decide +kernel
theorem d_Model_compress_283 : decode b_Model_compress 283 = .ok (.iload 6, 2) := by decide +kernel
theorem d_Model_compress_285 : decode b_Model_compress 285 = .ok (.iconst (-1), 1) := by decide +kernel
theorem d_Model_compress_286 : decode b_Model_compress 286 = .ok (.ixor, 1) := by decide +kernel
theorem d_Model_compress_287 : decode b_Model_compress 287 = .ok (.iload 8, 2) := by decide +kernel
theorem d_Model_compress_289 : decode b_Model_compress 289 = .ok (.iand, 1) := by decide +kernel
theorem d_Model_compress_290 : decode b_Model_compress 290 = .ok (.ixor, 1) := by decide +kernel
theorem d_Model_compress_291 : decode b_Model_compress 291 = .ok (.iadd, 1) := by decide +kernel
theorem d_Model_compress_292 : decode b_Model_compress 292 = .ok (.aload_n 0, 1) := by decide +kernel
theorem d_Model_compress_293 : decode b_Model_compress 293 = .ok (.getfield 118, 3) := by decide +kernel
theorem d_Model_compress_296 : decode b_Model_compress 296 = .ok (.iload 10, 2) := by decide +kernel
theorem d_Model_compress_298 : decode b_Model_compress 298 = .ok (.iaload, 1) := by decide +kernel
theorem d_Model_compress_299 : decode b_Model_compress 299 = .ok (.iadd, 1) := by decide +kernel
theorem d_Model_compress_300 : decode b_Model_compress 300 = .ok (.aload_n 0, 1) := by decide +kernel
theorem d_Model_compress_301 : decode b_Model_compress 301 = .ok (.getfield 37, 3) := by decide +kernel
theorem d_Model_compress_304 : decode b_Model_compress 304 = .ok (.iload 10, 2) := by decide +kernel
theorem d_Model_compress_306 : decode b_Model_compress 306 = .ok (.iaload, 1) := by decide +kernel
theorem d_Model_compress_307 : decode b_Model_compress 307 = .ok (.iadd, 1) := by decide +kernel
theorem d_Model_compress_308 : decode b_Model_compress 308 = .ok (.istore 11, 2) := by decide +kernel
theorem d_Model_compress_310 : decode b_Model_compress 310 = .ok (.iload_n 2, 1) := by decide +kernel
theorem d_Model_compress_311 : decode b_Model_compress 311 = .ok (.iconst 2, 1) := by decide +kernel
theorem d_Model_compress_312 : decode b_Model_compress 312 = .ok (.invokestatic 268, 3) := by decide +kernel
theorem d_Model_compress_315 : decode b_Model_compress 315 = .ok (.iload_n 2, 1) := by decide +kernel
theorem d_Model_compress_316 : decode b_Model_compress 316 = .ok (.bipush 13, 2) := by decide +kernel
theorem d_Model_compress_318 : decode b_Model_compress 318 = .ok (.invokestatic 268, 3) := by decide +kernel
theorem d_Model_compress_321 : decode b_Model_compress 321 = .ok (.ixor, 1) := by decide +kernel
theorem d_Model_compress_322 : decode b_Model_compress 322 = .ok (.iload_n 2, 1) := by decide +kernel
theorem d_Model_compress_323 : decode b_Model_compress 323 = .ok (.bipush 22, 2) := by decide +kernel
theorem d_Model_compress_325 : decode b_Model_compress 325 = .ok (.invokestatic 268, 3) := by decide +kernel
theorem d_Model_compress_328 : decode b_Model_compress 328 = .ok (.ixor, 1) := by decide +kernel
theorem d_Model_compress_329 : decode b_Model_compress 329 = .ok (.iload_n 2, 1) := by decide +kernel
theorem d_Model_compress_330 : decode b_Model_compress 330 = .ok (.iload_n 3, 1) := by decide +kernel
theorem d_Model_compress_331 : decode b_Model_compress 331 = .ok (.iand, 1) := by decide +kernel
theorem d_Model_compress_332 : decode b_Model_compress 332 = .ok (.iload_n 2, 1) := by decide +kernel
theorem d_Model_compress_333 : decode b_Model_compress 333 = .ok (.iload 4, 2) := by decide +kernel
theorem d_Model_compress_335 : decode b_Model_compress 335 = .ok (.iand, 1) := by decide +kernel
theorem d_Model_compress_336 : decode b_Model_compress 336 = .ok (.ixor, 1) := by decide +kernel
theorem d_Model_compress_337 : decode b_Model_compress 337 = .ok (.iload_n 3, 1) := by decide +kernel
theorem d_Model_compress_338 : decode b_Model_compress 338 = .ok (.iload 4, 2) := by decide +kernel
theorem d_Model_compress_340 : decode b_Model_compress 340 = .ok (.iand, 1) := by decide +kernel
theorem d_Model_compress_341 : decode b_Model_compress 341 = .ok (.ixor, 1) := by decide +kernel
theorem d_Model_compress_342 : decode b_Model_compress 342 = .ok (.iadd, 1) := by decide +kernel
theorem d_Model_compress_343 : decode b_Model_compress 343 = .ok (.istore 12, 2) := by decide +kernel
theorem d_Model_compress_345 : decode b_Model_compress 345 = .ok (.iload 8, 2) := by decide +kernel
theorem d_Model_compress_347 : decode b_Model_compress 347 = .ok (.istore 9, 2) := by decide +kernel
theorem d_Model_compress_349 : decode b_Model_compress 349 = .ok (.iload 7, 2) := by decide +kernel
theorem d_Model_compress_351 : decode b_Model_compress 351 = .ok (.istore 8, 2) := by decide +kernel
theorem d_Model_compress_353 : decode b_Model_compress 353 = .ok (.iload 6, 2) := by decide +kernel
theorem d_Model_compress_355 : decode b_Model_compress 355 = .ok (.istore 7, 2) := by decide +kernel
theorem d_Model_compress_357 : decode b_Model_compress 357 = .ok (.iload 5, 2) := by decide +kernel
theorem d_Model_compress_359 : decode b_Model_compress 359 = .ok (.iload 11, 2) := by decide +kernel
theorem d_Model_compress_361 : decode b_Model_compress 361 = .ok (.iadd, 1) := by decide +kernel
theorem d_Model_compress_362 : decode b_Model_compress 362 = .ok (.istore 6, 2) := by decide +kernel
theorem d_Model_compress_364 : decode b_Model_compress 364 = .ok (.iload 4, 2) := by decide +kernel
theorem d_Model_compress_366 : decode b_Model_compress 366 = .ok (.istore 5, 2) := by decide +kernel
theorem d_Model_compress_368 : decode b_Model_compress 368 = .ok (.iload_n 3, 1) := by decide +kernel
theorem d_Model_compress_369 : decode b_Model_compress 369 = .ok (.istore 4, 2) := by decide +kernel
theorem d_Model_compress_371 : decode b_Model_compress 371 = .ok (.iload_n 2, 1) := by decide +kernel
theorem d_Model_compress_372 : decode b_Model_compress 372 = .ok (.istore_n 3, 1) := by decide +kernel
theorem d_Model_compress_373 : decode b_Model_compress 373 = .ok (.iload 11, 2) := by decide +kernel
theorem d_Model_compress_375 : decode b_Model_compress 375 = .ok (.iload 12, 2) := by decide +kernel
theorem d_Model_compress_377 : decode b_Model_compress 377 = .ok (.iadd, 1) := by decide +kernel
theorem d_Model_compress_378 : decode b_Model_compress 378 = .ok (.istore_n 2, 1) := by decide +kernel
theorem d_Model_compress_379 : decode b_Model_compress 379 = .ok (.iinc 10 1, 3) := by decide +kernel
theorem d_Model_compress_382 : decode b_Model_compress 382 = .ok (.goto (-137), 3) := by decide +kernel
theorem d_Model_compress_385 : decode b_Model_compress 385 = .ok (.aload_n 0, 1) := by decide +kernel
theorem d_Model_compress_386 : decode b_Model_compress 386 = .ok (.getfield 40, 3) := by decide +kernel
theorem d_Model_compress_389 : decode b_Model_compress 389 = .ok (.iconst 0, 1) := by decide +kernel
theorem d_Model_compress_390 : decode b_Model_compress 390 = .ok (.dup2, 1) := by decide +kernel
theorem d_Model_compress_391 : decode b_Model_compress 391 = .ok (.iaload, 1) := by decide +kernel
theorem d_Model_compress_392 : decode b_Model_compress 392 = .ok (.iload_n 2, 1) := by decide +kernel
theorem d_Model_compress_393 : decode b_Model_compress 393 = .ok (.iadd, 1) := by decide +kernel
theorem d_Model_compress_394 : decode b_Model_compress 394 = .ok (.iastore, 1) := by decide +kernel
theorem d_Model_compress_395 : decode b_Model_compress 395 = .ok (.aload_n 0, 1) := by decide +kernel
theorem d_Model_compress_396 : decode b_Model_compress 396 = .ok (.getfield 40, 3) := by decide +kernel
theorem d_Model_compress_399 : decode b_Model_compress 399 = .ok (.iconst 1, 1) := by decide +kernel
theorem d_Model_compress_400 : decode b_Model_compress 400 = .ok (.dup2, 1) := by decide +kernel
theorem d_Model_compress_401 : decode b_Model_compress 401 = .ok (.iaload, 1) := by decide +kernel
theorem d_Model_compress_402 : decode b_Model_compress 402 = .ok (.iload_n 3, 1) := by decide +kernel
theorem d_Model_compress_403 : decode b_Model_compress 403 = .ok (.iadd, 1) := by decide +kernel
theorem d_Model_compress_404 : decode b_Model_compress 404 = .ok (.iastore, 1) := by decide +kernel
theorem d_Model_compress_405 : decode b_Model_compress 405 = .ok (.aload_n 0, 1) := by decide +kernel
theorem d_Model_compress_406 : decode b_Model_compress 406 = .ok (.getfield 40, 3) := by decide +kernel
theorem d_Model_compress_409 : decode b_Model_compress 409 = .ok (.iconst 2, 1) := by decide +kernel
theorem d_Model_compress_410 : decode b_Model_compress 410 = .ok (.dup2, 1) := by decide +kernel
theorem d_Model_compress_411 : decode b_Model_compress 411 = .ok (.iaload, 1) := by decide +kernel
theorem d_Model_compress_412 : decode b_Model_compress 412 = .ok (.iload 4, 2) := by decide +kernel
theorem d_Model_compress_414 : decode b_Model_compress 414 = .ok (.iadd, 1) := by decide +kernel
theorem d_Model_compress_415 : decode b_Model_compress 415 = .ok (.iastore, 1) := by decide +kernel
theorem d_Model_compress_416 : decode b_Model_compress 416 = .ok (.aload_n 0, 1) := by decide +kernel
theorem d_Model_compress_417 : decode b_Model_compress 417 = .ok (.getfield 40, 3) := by decide +kernel
theorem d_Model_compress_420 : decode b_Model_compress 420 = .ok (.iconst 3, 1) := by decide +kernel
theorem d_Model_compress_421 : decode b_Model_compress 421 = .ok (.dup2, 1) := by decide +kernel
theorem d_Model_compress_422 : decode b_Model_compress 422 = .ok (.iaload, 1) := by decide +kernel
theorem d_Model_compress_423 : decode b_Model_compress 423 = .ok (.iload 5, 2) := by decide +kernel
theorem d_Model_compress_425 : decode b_Model_compress 425 = .ok (.iadd, 1) := by decide +kernel
theorem d_Model_compress_426 : decode b_Model_compress 426 = .ok (.iastore, 1) := by decide +kernel
theorem d_Model_compress_427 : decode b_Model_compress 427 = .ok (.aload_n 0, 1) := by decide +kernel
theorem d_Model_compress_428 : decode b_Model_compress 428 = .ok (.getfield 40, 3) := by decide +kernel
theorem d_Model_compress_431 : decode b_Model_compress 431 = .ok (.iconst 4, 1) := by decide +kernel
theorem d_Model_compress_432 : decode b_Model_compress 432 = .ok (.dup2, 1) := by decide +kernel
theorem d_Model_compress_433 : decode b_Model_compress 433 = .ok (.iaload, 1) := by decide +kernel
theorem d_Model_compress_434 : decode b_Model_compress 434 = .ok (.iload 6, 2) := by decide +kernel
theorem d_Model_compress_436 : decode b_Model_compress 436 = .ok (.iadd, 1) := by decide +kernel
theorem d_Model_compress_437 : decode b_Model_compress 437 = .ok (.iastore, 1) := by decide +kernel
theorem d_Model_compress_438 : decode b_Model_compress 438 = .ok (.aload_n 0, 1) := by decide +kernel
theorem d_Model_compress_439 : decode b_Model_compress 439 = .ok (.getfield 40, 3) := by decide +kernel
theorem d_Model_compress_442 : decode b_Model_compress 442 = .ok (.iconst 5, 1) := by decide +kernel
theorem d_Model_compress_443 : decode b_Model_compress 443 = .ok (.dup2, 1) := by decide +kernel
theorem d_Model_compress_444 : decode b_Model_compress 444 = .ok (.iaload, 1) := by decide +kernel
theorem d_Model_compress_445 : decode b_Model_compress 445 = .ok (.iload 7, 2) := by decide +kernel
theorem d_Model_compress_447 : decode b_Model_compress 447 = .ok (.iadd, 1) := by decide +kernel
theorem d_Model_compress_448 : decode b_Model_compress 448 = .ok (.iastore, 1) := by decide +kernel
theorem d_Model_compress_449 : decode b_Model_compress 449 = .ok (.aload_n 0, 1) := by decide +kernel
theorem d_Model_compress_450 : decode b_Model_compress 450 = .ok (.getfield 40, 3) := by decide +kernel
theorem d_Model_compress_453 : decode b_Model_compress 453 = .ok (.bipush 6, 2) := by decide +kernel
theorem d_Model_compress_455 : decode b_Model_compress 455 = .ok (.dup2, 1) := by decide +kernel
theorem d_Model_compress_456 : decode b_Model_compress 456 = .ok (.iaload, 1) := by decide +kernel
theorem d_Model_compress_457 : decode b_Model_compress 457 = .ok (.iload 8, 2) := by decide +kernel
theorem d_Model_compress_459 : decode b_Model_compress 459 = .ok (.iadd, 1) := by decide +kernel
theorem d_Model_compress_460 : decode b_Model_compress 460 = .ok (.iastore, 1) := by decide +kernel
theorem d_Model_compress_461 : decode b_Model_compress 461 = .ok (.aload_n 0, 1) := by decide +kernel
theorem d_Model_compress_462 : decode b_Model_compress 462 = .ok (.getfield 40, 3) := by decide +kernel
theorem d_Model_compress_465 : decode b_Model_compress 465 = .ok (.bipush 7, 2) := by decide +kernel
theorem d_Model_compress_467 : decode b_Model_compress 467 = .ok (.dup2, 1) := by decide +kernel
theorem d_Model_compress_468 : decode b_Model_compress 468 = .ok (.iaload, 1) := by decide +kernel
theorem d_Model_compress_469 : decode b_Model_compress 469 = .ok (.iload 9, 2) := by decide +kernel
theorem d_Model_compress_471 : decode b_Model_compress 471 = .ok (.iadd, 1) := by decide +kernel
theorem d_Model_compress_472 : decode b_Model_compress 472 = .ok (.iastore, 1) := by decide +kernel
theorem d_Model_compress_473 : decode b_Model_compress 473 = .ok (.return_, 1) := by decide +kernel
def y_Model_digest1 : MethodName := ⟨"TrustChainModel", "digest", "(LTrustChainModel$Text;)V"⟩
abbrev b_Model_digest1 : ByteArray := prog_14_method_23_code
def w_Model_digest1 : List Cond := Cond.code y_Model_digest1 b_Model_digest1 5 (none) :: tb
theorem d_Model_digest1_0 : decode b_Model_digest1 0 = .ok (.iconst 0, 1) := by decide +kernel
theorem d_Model_digest1_1 : decode b_Model_digest1 1 = .ok (.istore_n 2, 1) := by decide +kernel
theorem d_Model_digest1_2 : decode b_Model_digest1 2 = .ok (.aload_n 1, 1) := by decide +kernel
theorem d_Model_digest1_3 : decode b_Model_digest1 3 = .ok (.getfield 258, 3) := by decide +kernel
theorem d_Model_digest1_6 : decode b_Model_digest1 6 = .ok (.istore_n 3, 1) := by decide +kernel
theorem d_Model_digest1_7 : decode b_Model_digest1 7 = .ok (.iload_n 3, 1) := by decide +kernel
theorem d_Model_digest1_8 : decode b_Model_digest1 8 = .ok (.aload_n 1, 1) := by decide +kernel
theorem d_Model_digest1_9 : decode b_Model_digest1 9 = .ok (.getfield 261, 3) := by decide +kernel
theorem d_Model_digest1_12 : decode b_Model_digest1 12 = .ok (.if_icmp .ge 24, 3) := by decide +kernel
theorem d_Model_digest1_15 : decode b_Model_digest1 15 = .ok (.aload_n 0, 1) := by decide +kernel
theorem d_Model_digest1_16 : decode b_Model_digest1 16 = .ok (.getfield 34, 3) := by decide +kernel
theorem d_Model_digest1_19 : decode b_Model_digest1 19 = .ok (.iload_n 2, 1) := by decide +kernel
theorem d_Model_digest1_20 : decode b_Model_digest1 20 = .ok (.iinc 2 1, 3) := by decide +kernel
theorem d_Model_digest1_23 : decode b_Model_digest1 23 = .ok (.aload_n 1, 1) := by decide +kernel
theorem d_Model_digest1_24 : decode b_Model_digest1 24 = .ok (.getfield 189, 3) := by decide +kernel
theorem d_Model_digest1_27 : decode b_Model_digest1 27 = .ok (.iload_n 3, 1) := by decide +kernel
theorem d_Model_digest1_28 : decode b_Model_digest1 28 = .ok (.iaload, 1) := by decide +kernel
theorem d_Model_digest1_29 : decode b_Model_digest1 29 = .ok (.iastore, 1) := by decide +kernel
theorem d_Model_digest1_30 : decode b_Model_digest1 30 = .ok (.iinc 3 1, 3) := by decide +kernel
theorem d_Model_digest1_33 : decode b_Model_digest1 33 = .ok (.goto (-26), 3) := by decide +kernel
theorem d_Model_digest1_36 : decode b_Model_digest1 36 = .ok (.bipush 8, 2) := by decide +kernel
theorem d_Model_digest1_38 : decode b_Model_digest1 38 = .ok (.iload_n 2, 1) := by decide +kernel
theorem d_Model_digest1_39 : decode b_Model_digest1 39 = .ok (.imul, 1) := by decide +kernel
theorem d_Model_digest1_40 : decode b_Model_digest1 40 = .ok (.istore_n 3, 1) := by decide +kernel
theorem d_Model_digest1_41 : decode b_Model_digest1 41 = .ok (.aload_n 0, 1) := by decide +kernel
theorem d_Model_digest1_42 : decode b_Model_digest1 42 = .ok (.getfield 34, 3) := by decide +kernel
theorem d_Model_digest1_45 : decode b_Model_digest1 45 = .ok (.iload_n 2, 1) := by decide +kernel
theorem d_Model_digest1_46 : decode b_Model_digest1 46 = .ok (.iinc 2 1, 3) := by decide +kernel
theorem d_Model_digest1_49 : decode b_Model_digest1 49 = .ok (.sipush 128, 3) := by decide +kernel
theorem d_Model_digest1_52 : decode b_Model_digest1 52 = .ok (.iastore, 1) := by decide +kernel
theorem d_Model_digest1_53 : decode b_Model_digest1 53 = .ok (.iload_n 2, 1) := by decide +kernel
theorem d_Model_digest1_54 : decode b_Model_digest1 54 = .ok (.bipush 64, 2) := by decide +kernel
theorem d_Model_digest1_56 : decode b_Model_digest1 56 = .ok (.irem, 1) := by decide +kernel
theorem d_Model_digest1_57 : decode b_Model_digest1 57 = .ok (.bipush 56, 2) := by decide +kernel
theorem d_Model_digest1_59 : decode b_Model_digest1 59 = .ok (.if_icmp .eq 16, 3) := by decide +kernel
theorem d_Model_digest1_62 : decode b_Model_digest1 62 = .ok (.aload_n 0, 1) := by decide +kernel
theorem d_Model_digest1_63 : decode b_Model_digest1 63 = .ok (.getfield 34, 3) := by decide +kernel
theorem d_Model_digest1_66 : decode b_Model_digest1 66 = .ok (.iload_n 2, 1) := by decide +kernel
theorem d_Model_digest1_67 : decode b_Model_digest1 67 = .ok (.iinc 2 1, 3) := by decide +kernel
theorem d_Model_digest1_70 : decode b_Model_digest1 70 = .ok (.iconst 0, 1) := by decide +kernel
theorem d_Model_digest1_71 : decode b_Model_digest1 71 = .ok (.iastore, 1) := by decide +kernel
theorem d_Model_digest1_72 : decode b_Model_digest1 72 = .ok (.goto (-19), 3) := by decide +kernel
theorem d_Model_digest1_75 : decode b_Model_digest1 75 = .ok (.iconst 0, 1) := by decide +kernel
theorem d_Model_digest1_76 : decode b_Model_digest1 76 = .ok (.istore 4, 2) := by decide +kernel
theorem d_Model_digest1_78 : decode b_Model_digest1 78 = .ok (.iload 4, 2) := by decide +kernel
theorem d_Model_digest1_80 : decode b_Model_digest1 80 = .ok (.iconst 4, 1) := by decide +kernel
theorem d_Model_digest1_81 : decode b_Model_digest1 81 = .ok (.if_icmp .ge 19, 3) := by decide +kernel
theorem d_Model_digest1_84 : decode b_Model_digest1 84 = .ok (.aload_n 0, 1) := by decide +kernel
theorem d_Model_digest1_85 : decode b_Model_digest1 85 = .ok (.getfield 34, 3) := by decide +kernel
theorem d_Model_digest1_88 : decode b_Model_digest1 88 = .ok (.iload_n 2, 1) := by decide +kernel
theorem d_Model_digest1_89 : decode b_Model_digest1 89 = .ok (.iinc 2 1, 3) := by decide +kernel
theorem d_Model_digest1_92 : decode b_Model_digest1 92 = .ok (.iconst 0, 1) := by decide +kernel
theorem d_Model_digest1_93 : decode b_Model_digest1 93 = .ok (.iastore, 1) := by decide +kernel
theorem d_Model_digest1_94 : decode b_Model_digest1 94 = .ok (.iinc 4 1, 3) := by decide +kernel
theorem d_Model_digest1_97 : decode b_Model_digest1 97 = .ok (.goto (-19), 3) := by decide +kernel
theorem d_Model_digest1_100 : decode b_Model_digest1 100 = .ok (.bipush 24, 2) := by decide +kernel
theorem d_Model_digest1_102 : decode b_Model_digest1 102 = .ok (.istore 4, 2) := by decide +kernel
theorem d_Model_digest1_104 : decode b_Model_digest1 104 = .ok (.iload 4, 2) := by decide +kernel
theorem d_Model_digest1_106 : decode b_Model_digest1 106 = .ok (.ifCond .lt 26, 3) := by decide +kernel
theorem d_Model_digest1_109 : decode b_Model_digest1 109 = .ok (.aload_n 0, 1) := by decide +kernel
theorem d_Model_digest1_110 : decode b_Model_digest1 110 = .ok (.getfield 34, 3) := by decide +kernel
theorem d_Model_digest1_113 : decode b_Model_digest1 113 = .ok (.iload_n 2, 1) := by decide +kernel
theorem d_Model_digest1_114 : decode b_Model_digest1 114 = .ok (.iinc 2 1, 3) := by decide +kernel
theorem d_Model_digest1_117 : decode b_Model_digest1 117 = .ok (.iload_n 3, 1) := by decide +kernel
theorem d_Model_digest1_118 : decode b_Model_digest1 118 = .ok (.iload 4, 2) := by decide +kernel
theorem d_Model_digest1_120 : decode b_Model_digest1 120 = .ok (.ishr, 1) := by decide +kernel
theorem d_Model_digest1_121 : decode b_Model_digest1 121 = .ok (.sipush 255, 3) := by decide +kernel
theorem d_Model_digest1_124 : decode b_Model_digest1 124 = .ok (.iand, 1) := by decide +kernel
theorem d_Model_digest1_125 : decode b_Model_digest1 125 = .ok (.iastore, 1) := by decide +kernel
theorem d_Model_digest1_126 : decode b_Model_digest1 126 = .ok (.iinc 4 (-8), 3) := by decide +kernel
theorem d_Model_digest1_129 : decode b_Model_digest1 129 = .ok (.goto (-25), 3) := by decide +kernel
theorem d_Model_digest1_132 : decode b_Model_digest1 132 = .ok (.iconst 0, 1) := by decide +kernel
theorem d_Model_digest1_133 : decode b_Model_digest1 133 = .ok (.istore 4, 2) := by decide +kernel
theorem d_Model_digest1_135 : decode b_Model_digest1 135 = .ok (.iload 4, 2) := by decide +kernel
theorem d_Model_digest1_137 : decode b_Model_digest1 137 = .ok (.bipush 8, 2) := by decide +kernel
theorem d_Model_digest1_139 : decode b_Model_digest1 139 = .ok (.if_icmp .ge 23, 3) := by decide +kernel
theorem d_Model_digest1_142 : decode b_Model_digest1 142 = .ok (.aload_n 0, 1) := by decide +kernel
theorem d_Model_digest1_143 : decode b_Model_digest1 143 = .ok (.getfield 40, 3) := by decide +kernel
theorem d_Model_digest1_146 : decode b_Model_digest1 146 = .ok (.iload 4, 2) := by decide +kernel
theorem d_Model_digest1_148 : decode b_Model_digest1 148 = .ok (.aload_n 0, 1) := by decide +kernel
theorem d_Model_digest1_149 : decode b_Model_digest1 149 = .ok (.getfield 51, 3) := by decide +kernel
theorem d_Model_digest1_152 : decode b_Model_digest1 152 = .ok (.iload 4, 2) := by decide +kernel
theorem d_Model_digest1_154 : decode b_Model_digest1 154 = .ok (.iaload, 1) := by decide +kernel
theorem d_Model_digest1_155 : decode b_Model_digest1 155 = .ok (.iastore, 1) := by decide +kernel
theorem d_Model_digest1_156 : decode b_Model_digest1 156 = .ok (.iinc 4 1, 3) := by decide +kernel
theorem d_Model_digest1_159 : decode b_Model_digest1 159 = .ok (.goto (-24), 3) := by decide +kernel
theorem d_Model_digest1_162 : decode b_Model_digest1 162 = .ok (.iconst 0, 1) := by decide +kernel
theorem d_Model_digest1_163 : decode b_Model_digest1 163 = .ok (.istore 4, 2) := by decide +kernel
theorem d_Model_digest1_165 : decode b_Model_digest1 165 = .ok (.iload 4, 2) := by decide +kernel
theorem d_Model_digest1_167 : decode b_Model_digest1 167 = .ok (.iload_n 2, 1) := by decide +kernel
theorem d_Model_digest1_168 : decode b_Model_digest1 168 = .ok (.if_icmp .ge 15, 3) := by decide +kernel
theorem d_Model_digest1_171 : decode b_Model_digest1 171 = .ok (.aload_n 0, 1) := by decide +kernel
theorem d_Model_digest1_172 : decode b_Model_digest1 172 = .ok (.iload 4, 2) := by decide +kernel
theorem d_Model_digest1_174 : decode b_Model_digest1 174 = .ok (.invokevirtual 264, 3) := by decide +kernel
theorem d_Model_digest1_177 : decode b_Model_digest1 177 = .ok (.iinc 4 64, 3) := by decide +kernel
theorem d_Model_digest1_180 : decode b_Model_digest1 180 = .ok (.goto (-15), 3) := by decide +kernel
theorem d_Model_digest1_183 : decode b_Model_digest1 183 = .ok (.return_, 1) := by decide +kernel
