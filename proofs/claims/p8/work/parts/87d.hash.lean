/-! The reference's hash returns. -/
def y_Model_compress : MethodName := ⟨"TrustChainModel", "compress", "(I)V"⟩
abbrev b_Model_compress : ByteArray := prog_14_method_25_code
def w_Model_compress : List Cond := Cond.code y_Model_compress b_Model_compress 13 (none) :: tb
theorem d_Model_compress_0 : decode b_Model_compress 0 = .ok (.iconst 0, 1) := by decide +kernel
theorem d_Model_compress_1 : decode b_Model_compress 1 = .ok (.istore_n 2, 1) := by decide +kernel
theorem d_Model_compress_2 : decode b_Model_compress 2 = .ok (.iload_n 2, 1) := by decide +kernel
theorem d_Model_compress_3 : decode b_Model_compress 3 = .ok (.bipush 16, 2) := by decide +kernel
theorem d_Model_compress_5 : decode b_Model_compress 5 = .ok (.if_icmp .ge 73, 3) := by decide +kernel
theorem d_Model_compress_8 : decode b_Model_compress 8 = .ok (.aload_n 0, 1) := by decide +kernel
theorem d_Model_compress_9 : decode b_Model_compress 9 = .ok (.getfield 37, 3) := by decide +kernel
theorem d_Model_compress_12 : decode b_Model_compress 12 = .ok (.iload_n 2, 1) := by decide +kernel
theorem d_Model_compress_13 : decode b_Model_compress 13 = .ok (.aload_n 0, 1) := by decide +kernel
theorem d_Model_compress_14 : decode b_Model_compress 14 = .ok (.getfield 34, 3) := by decide +kernel
theorem d_Model_compress_17 : decode b_Model_compress 17 = .ok (.iload_n 1, 1) := by decide +kernel
theorem d_Model_compress_18 : decode b_Model_compress 18 = .ok (.iconst 4, 1) := by decide +kernel
theorem d_Model_compress_19 : decode b_Model_compress 19 = .ok (.iload_n 2, 1) := by decide +kernel
theorem d_Model_compress_20 : decode b_Model_compress 20 = .ok (.imul, 1) := by decide +kernel
theorem d_Model_compress_21 : decode b_Model_compress 21 = .ok (.iadd, 1) := by decide +kernel
theorem d_Model_compress_22 : decode b_Model_compress 22 = .ok (.iaload, 1) := by decide +kernel
theorem d_Model_compress_23 : decode b_Model_compress 23 = .ok (.bipush 24, 2) := by decide +kernel
theorem d_Model_compress_25 : decode b_Model_compress 25 = .ok (.ishl, 1) := by decide +kernel
theorem d_Model_compress_26 : decode b_Model_compress 26 = .ok (.aload_n 0, 1) := by decide +kernel
theorem d_Model_compress_27 : decode b_Model_compress 27 = .ok (.getfield 34, 3) := by decide +kernel
theorem d_Model_compress_30 : decode b_Model_compress 30 = .ok (.iload_n 1, 1) := by decide +kernel
theorem d_Model_compress_31 : decode b_Model_compress 31 = .ok (.iconst 4, 1) := by decide +kernel
theorem d_Model_compress_32 : decode b_Model_compress 32 = .ok (.iload_n 2, 1) := by decide +kernel
theorem d_Model_compress_33 : decode b_Model_compress 33 = .ok (.imul, 1) := by decide +kernel
theorem d_Model_compress_34 : decode b_Model_compress 34 = .ok (.iadd, 1) := by decide +kernel
theorem d_Model_compress_35 : decode b_Model_compress 35 = .ok (.iconst 1, 1) := by decide +kernel
theorem d_Model_compress_36 : decode b_Model_compress 36 = .ok (.iadd, 1) := by decide +kernel
theorem d_Model_compress_37 : decode b_Model_compress 37 = .ok (.iaload, 1) := by decide +kernel
theorem d_Model_compress_38 : decode b_Model_compress 38 = .ok (.bipush 16, 2) := by decide +kernel
theorem d_Model_compress_40 : decode b_Model_compress 40 = .ok (.ishl, 1) := by decide +kernel
theorem d_Model_compress_41 : decode b_Model_compress 41 = .ok (.ior, 1) := by decide +kernel
theorem d_Model_compress_42 : decode b_Model_compress 42 = .ok (.aload_n 0, 1) := by decide +kernel
theorem d_Model_compress_43 : decode b_Model_compress 43 = .ok (.getfield 34, 3) := by decide +kernel
theorem d_Model_compress_46 : decode b_Model_compress 46 = .ok (.iload_n 1, 1) := by decide +kernel
theorem d_Model_compress_47 : decode b_Model_compress 47 = .ok (.iconst 4, 1) := by decide +kernel
theorem d_Model_compress_48 : decode b_Model_compress 48 = .ok (.iload_n 2, 1) := by decide +kernel
theorem d_Model_compress_49 : decode b_Model_compress 49 = .ok (.imul, 1) := by decide +kernel
theorem d_Model_compress_50 : decode b_Model_compress 50 = .ok (.iadd, 1) := by decide +kernel
theorem d_Model_compress_51 : decode b_Model_compress 51 = .ok (.iconst 2, 1) := by decide +kernel
theorem d_Model_compress_52 : decode b_Model_compress 52 = .ok (.iadd, 1) := by decide +kernel
theorem d_Model_compress_53 : decode b_Model_compress 53 = .ok (.iaload, 1) := by decide +kernel
theorem d_Model_compress_54 : decode b_Model_compress 54 = .ok (.bipush 8, 2) := by decide +kernel
theorem d_Model_compress_56 : decode b_Model_compress 56 = .ok (.ishl, 1) := by decide +kernel
theorem d_Model_compress_57 : decode b_Model_compress 57 = .ok (.ior, 1) := by decide +kernel
theorem d_Model_compress_58 : decode b_Model_compress 58 = .ok (.aload_n 0, 1) := by decide +kernel
theorem d_Model_compress_59 : decode b_Model_compress 59 = .ok (.getfield 34, 3) := by decide +kernel
theorem d_Model_compress_62 : decode b_Model_compress 62 = .ok (.iload_n 1, 1) := by decide +kernel
theorem d_Model_compress_63 : decode b_Model_compress 63 = .ok (.iconst 4, 1) := by decide +kernel
theorem d_Model_compress_64 : decode b_Model_compress 64 = .ok (.iload_n 2, 1) := by decide +kernel
theorem d_Model_compress_65 : decode b_Model_compress 65 = .ok (.imul, 1) := by decide +kernel
theorem d_Model_compress_66 : decode b_Model_compress 66 = .ok (.iadd, 1) := by decide +kernel
theorem d_Model_compress_67 : decode b_Model_compress 67 = .ok (.iconst 3, 1) := by decide +kernel
theorem d_Model_compress_68 : decode b_Model_compress 68 = .ok (.iadd, 1) := by decide +kernel
theorem d_Model_compress_69 : decode b_Model_compress 69 = .ok (.iaload, 1) := by decide +kernel
theorem d_Model_compress_70 : decode b_Model_compress 70 = .ok (.ior, 1) := by decide +kernel
theorem d_Model_compress_71 : decode b_Model_compress 71 = .ok (.iastore, 1) := by decide +kernel
theorem d_Model_compress_72 : decode b_Model_compress 72 = .ok (.iinc 2 1, 3) := by decide +kernel
theorem d_Model_compress_75 : decode b_Model_compress 75 = .ok (.goto (-73), 3) := by decide +kernel
theorem d_Model_compress_78 : decode b_Model_compress 78 = .ok (.bipush 16, 2) := by decide +kernel
theorem d_Model_compress_80 : decode b_Model_compress 80 = .ok (.istore_n 2, 1) := by decide +kernel
theorem d_Model_compress_81 : decode b_Model_compress 81 = .ok (.iload_n 2, 1) := by decide +kernel
theorem d_Model_compress_82 : decode b_Model_compress 82 = .ok (.bipush 64, 2) := by decide +kernel
theorem d_Model_compress_84 : decode b_Model_compress 84 = .ok (.if_icmp .ge 94, 3) := by decide +kernel
theorem d_Model_compress_87 : decode b_Model_compress 87 = .ok (.aload_n 0, 1) := by decide +kernel
theorem d_Model_compress_88 : decode b_Model_compress 88 = .ok (.getfield 37, 3) := by decide +kernel
theorem d_Model_compress_91 : decode b_Model_compress 91 = .ok (.iload_n 2, 1) := by decide +kernel
theorem d_Model_compress_92 : decode b_Model_compress 92 = .ok (.bipush 15, 2) := by decide +kernel
theorem d_Model_compress_94 : decode b_Model_compress 94 = .ok (.isub, 1) := by decide +kernel
theorem d_Model_compress_95 : decode b_Model_compress 95 = .ok (.iaload, 1) := by decide +kernel
theorem d_Model_compress_96 : decode b_Model_compress 96 = .ok (.istore_n 3, 1) := by decide +kernel
theorem d_Model_compress_97 : decode b_Model_compress 97 = .ok (.aload_n 0, 1) := by decide +kernel
theorem d_Model_compress_98 : decode b_Model_compress 98 = .ok (.getfield 37, 3) := by decide +kernel
theorem d_Model_compress_101 : decode b_Model_compress 101 = .ok (.iload_n 2, 1) := by decide +kernel
theorem d_Model_compress_102 : decode b_Model_compress 102 = .ok (.iconst 2, 1) := by decide +kernel
theorem d_Model_compress_103 : decode b_Model_compress 103 = .ok (.isub, 1) := by decide +kernel
theorem d_Model_compress_104 : decode b_Model_compress 104 = .ok (.iaload, 1) := by decide +kernel
theorem d_Model_compress_105 : decode b_Model_compress 105 = .ok (.istore 4, 2) := by decide +kernel
theorem d_Model_compress_107 : decode b_Model_compress 107 = .ok (.aload_n 0, 1) := by decide +kernel
theorem d_Model_compress_108 : decode b_Model_compress 108 = .ok (.getfield 37, 3) := by decide +kernel
theorem d_Model_compress_111 : decode b_Model_compress 111 = .ok (.iload_n 2, 1) := by decide +kernel
theorem d_Model_compress_112 : decode b_Model_compress 112 = .ok (.aload_n 0, 1) := by decide +kernel
theorem d_Model_compress_113 : decode b_Model_compress 113 = .ok (.getfield 37, 3) := by decide +kernel
theorem d_Model_compress_116 : decode b_Model_compress 116 = .ok (.iload_n 2, 1) := by decide +kernel
theorem d_Model_compress_117 : decode b_Model_compress 117 = .ok (.bipush 16, 2) := by decide +kernel
theorem d_Model_compress_119 : decode b_Model_compress 119 = .ok (.isub, 1) := by decide +kernel
theorem d_Model_compress_120 : decode b_Model_compress 120 = .ok (.iaload, 1) := by decide +kernel
theorem d_Model_compress_121 : decode b_Model_compress 121 = .ok (.iload_n 3, 1) := by decide +kernel
theorem d_Model_compress_122 : decode b_Model_compress 122 = .ok (.bipush 7, 2) := by decide +kernel
theorem d_Model_compress_124 : decode b_Model_compress 124 = .ok (.invokestatic 268, 3) := by decide +kernel
theorem d_Model_compress_127 : decode b_Model_compress 127 = .ok (.iload_n 3, 1) := by decide +kernel
theorem d_Model_compress_128 : decode b_Model_compress 128 = .ok (.bipush 18, 2) := by decide +kernel
theorem d_Model_compress_130 : decode b_Model_compress 130 = .ok (.invokestatic 268, 3) := by decide +kernel
theorem d_Model_compress_133 : decode b_Model_compress 133 = .ok (.ixor, 1) := by decide +kernel
theorem d_Model_compress_134 : decode b_Model_compress 134 = .ok (.iload_n 3, 1) := by decide +kernel
theorem d_Model_compress_135 : decode b_Model_compress 135 = .ok (.iconst 3, 1) := by decide +kernel
theorem d_Model_compress_136 : decode b_Model_compress 136 = .ok (.iushr, 1) := by decide +kernel
theorem d_Model_compress_137 : decode b_Model_compress 137 = .ok (.ixor, 1) := by decide +kernel
theorem d_Model_compress_138 : decode b_Model_compress 138 = .ok (.iadd, 1) := by decide +kernel
theorem d_Model_compress_139 : decode b_Model_compress 139 = .ok (.aload_n 0, 1) := by decide +kernel
theorem d_Model_compress_140 : decode b_Model_compress 140 = .ok (.getfield 37, 3) := by decide +kernel
theorem d_Model_compress_143 : decode b_Model_compress 143 = .ok (.iload_n 2, 1) := by decide +kernel
theorem d_Model_compress_144 : decode b_Model_compress 144 = .ok (.bipush 7, 2) := by decide +kernel
theorem d_Model_compress_146 : decode b_Model_compress 146 = .ok (.isub, 1) := by decide +kernel
theorem d_Model_compress_147 : decode b_Model_compress 147 = .ok (.iaload, 1) := by decide +kernel
theorem d_Model_compress_148 : decode b_Model_compress 148 = .ok (.iadd, 1) := by decide +kernel
theorem d_Model_compress_149 : decode b_Model_compress 149 = .ok (.iload 4, 2) := by decide +kernel
theorem d_Model_compress_151 : decode b_Model_compress 151 = .ok (.bipush 17, 2) := by decide +kernel
theorem d_Model_compress_153 : decode b_Model_compress 153 = .ok (.invokestatic 268, 3) := by decide +kernel
theorem d_Model_compress_156 : decode b_Model_compress 156 = .ok (.iload 4, 2) := by decide +kernel
theorem d_Model_compress_158 : decode b_Model_compress 158 = .ok (.bipush 19, 2) := by decide +kernel
theorem d_Model_compress_160 : decode b_Model_compress 160 = .ok (.invokestatic 268, 3) := by decide +kernel
theorem d_Model_compress_163 : decode b_Model_compress 163 = .ok (.ixor, 1) := by decide +kernel
theorem d_Model_compress_164 : decode b_Model_compress 164 = .ok (.iload 4, 2) := by decide +kernel
theorem d_Model_compress_166 : decode b_Model_compress 166 = .ok (.bipush 10, 2) := by decide +kernel
theorem d_Model_compress_168 : decode b_Model_compress 168 = .ok (.iushr, 1) := by decide +kernel
theorem d_Model_compress_169 : decode b_Model_compress 169 = .ok (.ixor, 1) := by decide +kernel
theorem d_Model_compress_170 : decode b_Model_compress 170 = .ok (.iadd, 1) := by decide +kernel
theorem d_Model_compress_171 : decode b_Model_compress 171 = .ok (.iastore, 1) := by decide +kernel
theorem d_Model_compress_172 : decode b_Model_compress 172 = .ok (.iinc 2 1, 3) := by decide +kernel
theorem d_Model_compress_175 : decode b_Model_compress 175 = .ok (.goto (-94), 3) := by decide +kernel
theorem d_Model_compress_178 : decode b_Model_compress 178 = .ok (.aload_n 0, 1) := by decide +kernel
theorem d_Model_compress_179 : decode b_Model_compress 179 = .ok (.getfield 40, 3) := by decide +kernel
theorem d_Model_compress_182 : decode b_Model_compress 182 = .ok (.iconst 0, 1) := by decide +kernel
theorem d_Model_compress_183 : decode b_Model_compress 183 = .ok (.iaload, 1) := by decide +kernel
theorem d_Model_compress_184 : decode b_Model_compress 184 = .ok (.istore_n 2, 1) := by decide +kernel
theorem d_Model_compress_185 : decode b_Model_compress 185 = .ok (.aload_n 0, 1) := by decide +kernel
theorem d_Model_compress_186 : decode b_Model_compress 186 = .ok (.getfield 40, 3) := by decide +kernel
theorem d_Model_compress_189 : decode b_Model_compress 189 = .ok (.iconst 1, 1) := by decide +kernel
theorem d_Model_compress_190 : decode b_Model_compress 190 = .ok (.iaload, 1) := by decide +kernel
theorem d_Model_compress_191 : decode b_Model_compress 191 = .ok (.istore_n 3, 1) := by decide +kernel
theorem d_Model_compress_192 : decode b_Model_compress 192 = .ok (.aload_n 0, 1) := by decide +kernel
theorem d_Model_compress_193 : decode b_Model_compress 193 = .ok (.getfield 40, 3) := by decide +kernel
theorem d_Model_compress_196 : decode b_Model_compress 196 = .ok (.iconst 2, 1) := by decide +kernel
theorem d_Model_compress_197 : decode b_Model_compress 197 = .ok (.iaload, 1) := by decide +kernel
theorem d_Model_compress_198 : decode b_Model_compress 198 = .ok (.istore 4, 2) := by decide +kernel
theorem d_Model_compress_200 : decode b_Model_compress 200 = .ok (.aload_n 0, 1) := by decide +kernel
theorem d_Model_compress_201 : decode b_Model_compress 201 = .ok (.getfield 40, 3) := by decide +kernel
theorem d_Model_compress_204 : decode b_Model_compress 204 = .ok (.iconst 3, 1) := by decide +kernel
theorem d_Model_compress_205 : decode b_Model_compress 205 = .ok (.iaload, 1) := by decide +kernel
theorem d_Model_compress_206 : decode b_Model_compress 206 = .ok (.istore 5, 2) := by decide +kernel
theorem d_Model_compress_208 : decode b_Model_compress 208 = .ok (.aload_n 0, 1) := by decide +kernel
theorem d_Model_compress_209 : decode b_Model_compress 209 = .ok (.getfield 40, 3) := by decide +kernel
theorem d_Model_compress_212 : decode b_Model_compress 212 = .ok (.iconst 4, 1) := by decide +kernel
theorem d_Model_compress_213 : decode b_Model_compress 213 = .ok (.iaload, 1) := by decide +kernel
theorem d_Model_compress_214 : decode b_Model_compress 214 = .ok (.istore 6, 2) := by decide +kernel
theorem d_Model_compress_216 : decode b_Model_compress 216 = .ok (.aload_n 0, 1) := by decide +kernel
theorem d_Model_compress_217 : decode b_Model_compress 217 = .ok (.getfield 40, 3) := by decide +kernel
theorem d_Model_compress_220 : decode b_Model_compress 220 = .ok (.iconst 5, 1) := by decide +kernel
theorem d_Model_compress_221 : decode b_Model_compress 221 = .ok (.iaload, 1) := by decide +kernel
theorem d_Model_compress_222 : decode b_Model_compress 222 = .ok (.istore 7, 2) := by decide +kernel
theorem d_Model_compress_224 : decode b_Model_compress 224 = .ok (.aload_n 0, 1) := by decide +kernel
theorem d_Model_compress_225 : decode b_Model_compress 225 = .ok (.getfield 40, 3) := by decide +kernel
theorem d_Model_compress_228 : decode b_Model_compress 228 = .ok (.bipush 6, 2) := by decide +kernel
theorem d_Model_compress_230 : decode b_Model_compress 230 = .ok (.iaload, 1) := by decide +kernel
theorem d_Model_compress_231 : decode b_Model_compress 231 = .ok (.istore 8, 2) := by decide +kernel
theorem d_Model_compress_233 : decode b_Model_compress 233 = .ok (.aload_n 0, 1) := by decide +kernel
theorem d_Model_compress_234 : decode b_Model_compress 234 = .ok (.getfield 40, 3) := by decide +kernel
theorem d_Model_compress_237 : decode b_Model_compress 237 = .ok (.bipush 7, 2) := by decide +kernel
theorem d_Model_compress_239 : decode b_Model_compress 239 = .ok (.iaload, 1) := by decide +kernel
theorem d_Model_compress_240 : decode b_Model_compress 240 = .ok (.istore 9, 2) := by decide +kernel
theorem d_Model_compress_242 : decode b_Model_compress 242 = .ok (.iconst 0, 1) := by decide +kernel
theorem d_Model_compress_243 : decode b_Model_compress 243 = .ok (.istore 10, 2) := by decide +kernel
theorem d_Model_compress_245 : decode b_Model_compress 245 = .ok (.iload 10, 2) := by decide +kernel
theorem d_Model_compress_247 : decode b_Model_compress 247 = .ok (.bipush 64, 2) := by decide +kernel
theorem d_Model_compress_249 : decode b_Model_compress 249 = .ok (.if_icmp .ge 136, 3) := by decide +kernel
theorem d_Model_compress_252 : decode b_Model_compress 252 = .ok (.iload 9, 2) := by decide +kernel
theorem d_Model_compress_254 : decode b_Model_compress 254 = .ok (.iload 6, 2) := by decide +kernel
theorem d_Model_compress_256 : decode b_Model_compress 256 = .ok (.bipush 6, 2) := by decide +kernel
theorem d_Model_compress_258 : decode b_Model_compress 258 = .ok (.invokestatic 268, 3) := by decide +kernel
theorem d_Model_compress_261 : decode b_Model_compress 261 = .ok (.iload 6, 2) := by decide +kernel
theorem d_Model_compress_263 : decode b_Model_compress 263 = .ok (.bipush 11, 2) := by decide +kernel
theorem d_Model_compress_265 : decode b_Model_compress 265 = .ok (.invokestatic 268, 3) := by decide +kernel
theorem d_Model_compress_268 : decode b_Model_compress 268 = .ok (.ixor, 1) := by decide +kernel
theorem d_Model_compress_269 : decode b_Model_compress 269 = .ok (.iload 6, 2) := by decide +kernel
theorem d_Model_compress_271 : decode b_Model_compress 271 = .ok (.bipush 25, 2) := by decide +kernel
theorem d_Model_compress_273 : decode b_Model_compress 273 = .ok (.invokestatic 268, 3) := by decide +kernel
theorem d_Model_compress_276 : decode b_Model_compress 276 = .ok (.ixor, 1) := by decide +kernel
theorem d_Model_compress_277 : decode b_Model_compress 277 = .ok (.iadd, 1) := by decide +kernel
theorem d_Model_compress_278 : decode b_Model_compress 278 = .ok (.iload 6, 2) := by decide +kernel
theorem d_Model_compress_280 : decode b_Model_compress 280 = .ok (.iload 7, 2) := by decide +kernel
theorem d_Model_compress_282 : decode b_Model_compress 282 = .ok (.iand, 1) := by decide +kernel
theorem d_Model_compress_283 : decode b_Model_compress 283 = .ok (.iload 6, 2) := by decide +kernel
theorem d_Model_compress_285 : decode b_Model_compress 285 = .ok (.iconst (-1), 1) := by decide +kernel
theorem d_Model_compress_286 : decode b_Model_compress 286 = .ok (.ixor, 1) := by decide +kernel
theorem d_Model_compress_287 : decode b_Model_compress 287 = .ok (.iload 8, 2) := by decide +kernel
theorem d_Model_compress_289 : decode b_Model_compress 289 = .ok (.iand, 1) := by decide +kernel
theorem d_Model_compress_290 : decode b_Model_compress 290 = .ok (.ixor, 1) := by decide +kernel
theorem d_Model_compress_291 : decode b_Model_compress 291 = .ok (.iadd, 1) := by decide +kernel
theorem d_Model_compress_292 : decode b_Model_compress 292 = .ok (.aload_n 0, 1) := by decide +kernel
theorem d_Model_compress_293 : decode b_Model_compress 293 = .ok (.getfield 118, 3) := by decide +kernel
theorem d_Model_compress_296 : decode b_Model_compress 296 = .ok (.iload 10, 2) := by decide +kernel
theorem d_Model_compress_298 : decode b_Model_compress 298 = .ok (.iaload, 1) := by decide +kernel
theorem d_Model_compress_299 : decode b_Model_compress 299 = .ok (.iadd, 1) := by decide +kernel
theorem d_Model_compress_300 : decode b_Model_compress 300 = .ok (.aload_n 0, 1) := by decide +kernel
theorem d_Model_compress_301 : decode b_Model_compress 301 = .ok (.getfield 37, 3) := by decide +kernel
theorem d_Model_compress_304 : decode b_Model_compress 304 = .ok (.iload 10, 2) := by decide +kernel
theorem d_Model_compress_306 : decode b_Model_compress 306 = .ok (.iaload, 1) := by decide +kernel
theorem d_Model_compress_307 : decode b_Model_compress 307 = .ok (.iadd, 1) := by decide +kernel
theorem d_Model_compress_308 : decode b_Model_compress 308 = .ok (.istore 11, 2) := by decide +kernel
theorem d_Model_compress_310 : decode b_Model_compress 310 = .ok (.iload_n 2, 1) := by decide +kernel
theorem d_Model_compress_311 : decode b_Model_compress 311 = .ok (.iconst 2, 1) := by decide +kernel
theorem d_Model_compress_312 : decode b_Model_compress 312 = .ok (.invokestatic 268, 3) := by decide +kernel
theorem d_Model_compress_315 : decode b_Model_compress 315 = .ok (.iload_n 2, 1) := by decide +kernel
theorem d_Model_compress_316 : decode b_Model_compress 316 = .ok (.bipush 13, 2) := by decide +kernel
theorem d_Model_compress_318 : decode b_Model_compress 318 = .ok (.invokestatic 268, 3) := by decide +kernel
theorem d_Model_compress_321 : decode b_Model_compress 321 = .ok (.ixor, 1) := by decide +kernel
theorem d_Model_compress_322 : decode b_Model_compress 322 = .ok (.iload_n 2, 1) := by decide +kernel
theorem d_Model_compress_323 : decode b_Model_compress 323 = .ok (.bipush 22, 2) := by decide +kernel
theorem d_Model_compress_325 : decode b_Model_compress 325 = .ok (.invokestatic 268, 3) := by decide +kernel
theorem d_Model_compress_328 : decode b_Model_compress 328 = .ok (.ixor, 1) := by decide +kernel
theorem d_Model_compress_329 : decode b_Model_compress 329 = .ok (.iload_n 2, 1) := by decide +kernel
theorem d_Model_compress_330 : decode b_Model_compress 330 = .ok (.iload_n 3, 1) := by decide +kernel
theorem d_Model_compress_331 : decode b_Model_compress 331 = .ok (.iand, 1) := by decide +kernel
theorem d_Model_compress_332 : decode b_Model_compress 332 = .ok (.iload_n 2, 1) := by decide +kernel
theorem d_Model_compress_333 : decode b_Model_compress 333 = .ok (.iload 4, 2) := by decide +kernel
theorem d_Model_compress_335 : decode b_Model_compress 335 = .ok (.iand, 1) := by decide +kernel
theorem d_Model_compress_336 : decode b_Model_compress 336 = .ok (.ixor, 1) := by decide +kernel
theorem d_Model_compress_337 : decode b_Model_compress 337 = .ok (.iload_n 3, 1) := by decide +kernel
theorem d_Model_compress_338 : decode b_Model_compress 338 = .ok (.iload 4, 2) := by decide +kernel
theorem d_Model_compress_340 : decode b_Model_compress 340 = .ok (.iand, 1) := by decide +kernel
theorem d_Model_compress_341 : decode b_Model_compress 341 = .ok (.ixor, 1) := by decide +kernel
theorem d_Model_compress_342 : decode b_Model_compress 342 = .ok (.iadd, 1) := by decide +kernel
theorem d_Model_compress_343 : decode b_Model_compress 343 = .ok (.istore 12, 2) := by decide +kernel
theorem d_Model_compress_345 : decode b_Model_compress 345 = .ok (.iload 8, 2) := by decide +kernel
theorem d_Model_compress_347 : decode b_Model_compress 347 = .ok (.istore 9, 2) := by decide +kernel
theorem d_Model_compress_349 : decode b_Model_compress 349 = .ok (.iload 7, 2) := by decide +kernel
theorem d_Model_compress_351 : decode b_Model_compress 351 = .ok (.istore 8, 2) := by decide +kernel
theorem d_Model_compress_353 : decode b_Model_compress 353 = .ok (.iload 6, 2) := by decide +kernel
theorem d_Model_compress_355 : decode b_Model_compress 355 = .ok (.istore 7, 2) := by decide +kernel
theorem d_Model_compress_357 : decode b_Model_compress 357 = .ok (.iload 5, 2) := by decide +kernel
theorem d_Model_compress_359 : decode b_Model_compress 359 = .ok (.iload 11, 2) := by decide +kernel
theorem d_Model_compress_361 : decode b_Model_compress 361 = .ok (.iadd, 1) := by decide +kernel
theorem d_Model_compress_362 : decode b_Model_compress 362 = .ok (.istore 6, 2) := by decide +kernel
theorem d_Model_compress_364 : decode b_Model_compress 364 = .ok (.iload 4, 2) := by decide +kernel
theorem d_Model_compress_366 : decode b_Model_compress 366 = .ok (.istore 5, 2) := by decide +kernel
theorem d_Model_compress_368 : decode b_Model_compress 368 = .ok (.iload_n 3, 1) := by decide +kernel
theorem d_Model_compress_369 : decode b_Model_compress 369 = .ok (.istore 4, 2) := by decide +kernel
theorem d_Model_compress_371 : decode b_Model_compress 371 = .ok (.iload_n 2, 1) := by decide +kernel
theorem d_Model_compress_372 : decode b_Model_compress 372 = .ok (.istore_n 3, 1) := by decide +kernel
theorem d_Model_compress_373 : decode b_Model_compress 373 = .ok (.iload 11, 2) := by decide +kernel
theorem d_Model_compress_375 : decode b_Model_compress 375 = .ok (.iload 12, 2) := by decide +kernel
theorem d_Model_compress_377 : decode b_Model_compress 377 = .ok (.iadd, 1) := by decide +kernel
theorem d_Model_compress_378 : decode b_Model_compress 378 = .ok (.istore_n 2, 1) := by decide +kernel
theorem d_Model_compress_379 : decode b_Model_compress 379 = .ok (.iinc 10 1, 3) := by decide +kernel
theorem d_Model_compress_382 : decode b_Model_compress 382 = .ok (.goto (-137), 3) := by decide +kernel
theorem d_Model_compress_385 : decode b_Model_compress 385 = .ok (.aload_n 0, 1) := by decide +kernel
theorem d_Model_compress_386 : decode b_Model_compress 386 = .ok (.getfield 40, 3) := by decide +kernel
theorem d_Model_compress_389 : decode b_Model_compress 389 = .ok (.iconst 0, 1) := by decide +kernel
theorem d_Model_compress_390 : decode b_Model_compress 390 = .ok (.dup2, 1) := by decide +kernel
theorem d_Model_compress_391 : decode b_Model_compress 391 = .ok (.iaload, 1) := by decide +kernel
theorem d_Model_compress_392 : decode b_Model_compress 392 = .ok (.iload_n 2, 1) := by decide +kernel
theorem d_Model_compress_393 : decode b_Model_compress 393 = .ok (.iadd, 1) := by decide +kernel
theorem d_Model_compress_394 : decode b_Model_compress 394 = .ok (.iastore, 1) := by decide +kernel
theorem d_Model_compress_395 : decode b_Model_compress 395 = .ok (.aload_n 0, 1) := by decide +kernel
theorem d_Model_compress_396 : decode b_Model_compress 396 = .ok (.getfield 40, 3) := by decide +kernel
theorem d_Model_compress_399 : decode b_Model_compress 399 = .ok (.iconst 1, 1) := by decide +kernel
theorem d_Model_compress_400 : decode b_Model_compress 400 = .ok (.dup2, 1) := by decide +kernel
theorem d_Model_compress_401 : decode b_Model_compress 401 = .ok (.iaload, 1) := by decide +kernel
theorem d_Model_compress_402 : decode b_Model_compress 402 = .ok (.iload_n 3, 1) := by decide +kernel
theorem d_Model_compress_403 : decode b_Model_compress 403 = .ok (.iadd, 1) := by decide +kernel
theorem d_Model_compress_404 : decode b_Model_compress 404 = .ok (.iastore, 1) := by decide +kernel
theorem d_Model_compress_405 : decode b_Model_compress 405 = .ok (.aload_n 0, 1) := by decide +kernel
theorem d_Model_compress_406 : decode b_Model_compress 406 = .ok (.getfield 40, 3) := by decide +kernel
theorem d_Model_compress_409 : decode b_Model_compress 409 = .ok (.iconst 2, 1) := by decide +kernel
theorem d_Model_compress_410 : decode b_Model_compress 410 = .ok (.dup2, 1) := by decide +kernel
theorem d_Model_compress_411 : decode b_Model_compress 411 = .ok (.iaload, 1) := by decide +kernel
theorem d_Model_compress_412 : decode b_Model_compress 412 = .ok (.iload 4, 2) := by decide +kernel
theorem d_Model_compress_414 : decode b_Model_compress 414 = .ok (.iadd, 1) := by decide +kernel
theorem d_Model_compress_415 : decode b_Model_compress 415 = .ok (.iastore, 1) := by decide +kernel
theorem d_Model_compress_416 : decode b_Model_compress 416 = .ok (.aload_n 0, 1) := by decide +kernel
theorem d_Model_compress_417 : decode b_Model_compress 417 = .ok (.getfield 40, 3) := by decide +kernel
theorem d_Model_compress_420 : decode b_Model_compress 420 = .ok (.iconst 3, 1) := by decide +kernel
theorem d_Model_compress_421 : decode b_Model_compress 421 = .ok (.dup2, 1) := by decide +kernel
theorem d_Model_compress_422 : decode b_Model_compress 422 = .ok (.iaload, 1) := by decide +kernel
theorem d_Model_compress_423 : decode b_Model_compress 423 = .ok (.iload 5, 2) := by decide +kernel
theorem d_Model_compress_425 : decode b_Model_compress 425 = .ok (.iadd, 1) := by decide +kernel
theorem d_Model_compress_426 : decode b_Model_compress 426 = .ok (.iastore, 1) := by decide +kernel
theorem d_Model_compress_427 : decode b_Model_compress 427 = .ok (.aload_n 0, 1) := by decide +kernel
theorem d_Model_compress_428 : decode b_Model_compress 428 = .ok (.getfield 40, 3) := by decide +kernel
theorem d_Model_compress_431 : decode b_Model_compress 431 = .ok (.iconst 4, 1) := by decide +kernel
theorem d_Model_compress_432 : decode b_Model_compress 432 = .ok (.dup2, 1) := by decide +kernel
theorem d_Model_compress_433 : decode b_Model_compress 433 = .ok (.iaload, 1) := by decide +kernel
theorem d_Model_compress_434 : decode b_Model_compress 434 = .ok (.iload 6, 2) := by decide +kernel
theorem d_Model_compress_436 : decode b_Model_compress 436 = .ok (.iadd, 1) := by decide +kernel
theorem d_Model_compress_437 : decode b_Model_compress 437 = .ok (.iastore, 1) := by decide +kernel
theorem d_Model_compress_438 : decode b_Model_compress 438 = .ok (.aload_n 0, 1) := by decide +kernel
theorem d_Model_compress_439 : decode b_Model_compress 439 = .ok (.getfield 40, 3) := by decide +kernel
theorem d_Model_compress_442 : decode b_Model_compress 442 = .ok (.iconst 5, 1) := by decide +kernel
theorem d_Model_compress_443 : decode b_Model_compress 443 = .ok (.dup2, 1) := by decide +kernel
theorem d_Model_compress_444 : decode b_Model_compress 444 = .ok (.iaload, 1) := by decide +kernel
theorem d_Model_compress_445 : decode b_Model_compress 445 = .ok (.iload 7, 2) := by decide +kernel
theorem d_Model_compress_447 : decode b_Model_compress 447 = .ok (.iadd, 1) := by decide +kernel
theorem d_Model_compress_448 : decode b_Model_compress 448 = .ok (.iastore, 1) := by decide +kernel
theorem d_Model_compress_449 : decode b_Model_compress 449 = .ok (.aload_n 0, 1) := by decide +kernel
theorem d_Model_compress_450 : decode b_Model_compress 450 = .ok (.getfield 40, 3) := by decide +kernel
theorem d_Model_compress_453 : decode b_Model_compress 453 = .ok (.bipush 6, 2) := by decide +kernel
theorem d_Model_compress_455 : decode b_Model_compress 455 = .ok (.dup2, 1) := by decide +kernel
theorem d_Model_compress_456 : decode b_Model_compress 456 = .ok (.iaload, 1) := by decide +kernel
theorem d_Model_compress_457 : decode b_Model_compress 457 = .ok (.iload 8, 2) := by decide +kernel
theorem d_Model_compress_459 : decode b_Model_compress 459 = .ok (.iadd, 1) := by decide +kernel
theorem d_Model_compress_460 : decode b_Model_compress 460 = .ok (.iastore, 1) := by decide +kernel
theorem d_Model_compress_461 : decode b_Model_compress 461 = .ok (.aload_n 0, 1) := by decide +kernel
theorem d_Model_compress_462 : decode b_Model_compress 462 = .ok (.getfield 40, 3) := by decide +kernel
theorem d_Model_compress_465 : decode b_Model_compress 465 = .ok (.bipush 7, 2) := by decide +kernel
theorem d_Model_compress_467 : decode b_Model_compress 467 = .ok (.dup2, 1) := by decide +kernel
theorem d_Model_compress_468 : decode b_Model_compress 468 = .ok (.iaload, 1) := by decide +kernel
theorem d_Model_compress_469 : decode b_Model_compress 469 = .ok (.iload 9, 2) := by decide +kernel
theorem d_Model_compress_471 : decode b_Model_compress 471 = .ok (.iadd, 1) := by decide +kernel
theorem d_Model_compress_472 : decode b_Model_compress 472 = .ok (.iastore, 1) := by decide +kernel
theorem d_Model_compress_473 : decode b_Model_compress 473 = .ok (.return_, 1) := by decide +kernel
set_option maxHeartbeats 4000000 in
set_option maxRecDepth 100000 in
theorem m_Model_compress (l : Launch) (dC : Nat → ClassId) (dI : Nat → Nat → Nat) (sb : sB) (γ : cG) (κ : kE) (Ad : List Nat) (τ : Nat → TD) (gT : ClassId) (G : va_W) (mo : Nat) (moc msT mrV msP mrA mbA mwA mhA mfA mpA mxA myA mmA mqA mzA mwy mfd : Nat) (mer mfed mwr mct mls mqs msz mcz mch mft mpt mdp mvd mmk : Int32) (mnw : Int64) (a1 : Nat) (sz : Nat) (hTy : TR γ κ Ad τ G) (kmo : Xc Ad mo (.inr (12, (.int mer :: .int mfed :: .int mwr :: .int mct :: .int mls :: .ref moc :: .ref msT :: .ref mrV :: .ref msP :: .int mqs :: .ref mrA :: .ref mbA :: .ref mwA :: .ref mhA :: .ref mfA :: .ref mpA :: .ref mxA :: .ref myA :: .ref mmA :: .ref mqA :: .ref mzA :: .ref mwy :: .ref mfd :: .int msz :: .int mcz :: .int mch :: .int mft :: .int mpt :: .int mdp :: .int mvd :: .long mnw :: .int mmk :: []))) G) (kmbA : tK κ Ad mbA (6, 2176, 0)) (kmwA : tK κ Ad mwA (6, 64, 0)) (kmhA : tK κ Ad mhA (6, 8, 0)) (kmpA : tK κ Ad mpA (6, 64, 0)) (h1 : a1 + 64 ≤ 2176) : Met l y_Model_compress w_Model_compress ({ frames := 1, cells := 0, slots := 0, locals := 21 }) (mu_P [.ref mo, .int (nI a1)] (dC, dI) sb G [(γ.1, .byte), (γ.2.1, .int), (γ.2.2.1, .long), (γ.2.2.2, .object "java/lang/Object"), (gT, .object "TrustChainModel$Text")] sz) (va_Qv (fun (G' : va_W) => TR γ κ Ad τ G' ∧ FL Ad [] G G' ∧ (True)) (mu_B (dC, dI) [(γ.1, .byte), (γ.2.1, .int), (γ.2.2.1, .long), (γ.2.2.2, .object "java/lang/Object"), (gT, .object "TrustChainModel$Text")] (va_A G sz) (fun G' : va_W => G')) (va_A G sz)) 0 0 (va_A G sz) := by
  refine Met.ofW (cc := b_Model_compress) (maxL := 13) (ret := none) (by decide) rfl ?_
  intro p e s m args below meth c s₁ B hml hv
  obtain ⟨rfl, hsz, hB0, hP, hK, hD0, hN, hT0⟩ := hv
  have hx := B.exec
  have hb := B.bytes
  have hr := B.returns
  have hts := atoms_spec (ws := w_Model_compress) B.pre
  have tbin : ∀ w ∈ tb, w ∈ w_Model_compress := fun w h => List.mem_cons_of_mem _ h
  have htb : ∀ w ∈ tb, w.before _ s = true := fun w h => hts w (tbin w h)
  have hown : s.vm.findClass "TrustChainModel" = some m.cls := findClass_of_methodNamed B.named
  have hlocks := B.notSynchronized
  subst hsz
  have hD := hD0.self (sz := s.heap.size)
  generalize hAe : va_A G s.heap.size = A at hD ⊢
  have hA : ∀ q : Nat, s.heap.size ≤ q → A q := fun q h => by rw [← hAe]; exact Or.inr h
  have hAs : ∀ q : Nat, A q → sb.1 ≤ q := fun q h => by
    rw [← hAe] at h
    rcases h with ⟨k, e, h⟩ | h
    · exact hD0.2 k _ h
    · exact Nat.le_trans hB0 h
  have hS : va_S A s.heap s.heap [] := va_S.rf
  have hFR := FL.rf Ad [] G
  have hcs : 0 ≤ (headSpec w_Model_compress ({ frames := 1, cells := 0, slots := 0, locals := 21 })).room.cells ∧ 0 ≤ (headSpec w_Model_compress ({ frames := 1, cells := 0, slots := 0, locals := 21 })).room.slots := ⟨Nat.le_refl _, Nat.le_refl _⟩
  have hP : va_P (dC, dI) classes G s.heap := hP
  have hl := lv_entry ([.ref mo, .int (nI a1)]) (n := 13) (Nat.le_of_ble_eq_true rfl)
  rw [lg_entry_eq]
  generalize (lg_sl ([.ref mo, .int (nI a1)]) ++ List.replicate (13 - (lg_sl ([.ref mo, .int (nI a1)])).length) Slot.unset).toArray = ls at hl ⊢
  have hl : lv_has ls 13 [(0, .ref mo), (1, .int (nI a1))] := hl
  obtain ⟨cX_mo, eX_mo⟩ : ∃ z : va_E, z = .inr (12, (.int mer :: .int mfed :: .int mwr :: .int mct :: .int mls :: .ref moc :: .ref msT :: .ref mrV :: .ref msP :: .int mqs :: .ref mrA :: .ref mbA :: .ref mwA :: .ref mhA :: .ref mfA :: .ref mpA :: .ref mxA :: .ref myA :: .ref mmA :: .ref mqA :: .ref mzA :: .ref mwy :: .ref mfd :: .int msz :: .int mcz :: .int mch :: .int mft :: .int mpt :: .int mdp :: .int mvd :: .long mnw :: .int mmk :: [])) := ⟨_, rfl⟩
  rw [← eX_mo] at kmo
  refine lv_iconst (v := 0) hx hb d_Model_compress_0 (by decide) ?_
  refine lv_istore_n (lv' := [(2, .int 0), (0, .ref mo), (1, .int (nI a1))]) hx hb d_Model_compress_1 rfl hl (by decide) rfl (fun ls hl => ?_)
  refine w_loopW (α := Nat × va_W) (fun a9 => 0 ≤ a9.1 ∧ a9.1 ≤ 16 ∧ TR γ κ Ad τ a9.2 ∧ FL Ad [] G a9.2 ∧ Xc Ad mo cX_mo a9.2) (fun a9 => 16 - a9.1) (fun a9 => [(2, .int (nI a9.1)), (0, .ref mo), (1, .int (nI a1))]) (fun _ => []) (fun a9 => a9.2) 13 2 (fun a9 HL2 locs ls hJ hP hD hS hl ih2 => ?_) (0, G) _ _ ls ⟨by omega, by omega, hTy, hFR, kmo⟩ hP hD hS (lv_sub hl [0, 1, 2] rfl)
  obtain ⟨z2, G2⟩ := a9
  obtain ⟨hy2, hz2, hTy, hFR, kmo⟩ := hJ
  dsimp only at hy2 hz2 hTy hFR kmo hP hD hl ih2
  refine lv_iload_n hx hb d_Model_compress_2 rfl (lv_at hl 0 rfl) ?_
  refine lv_bipush (v := 16) hx hb d_Model_compress_3 (by decide) ?_
  refine lv_icmp_ge (tgt := 78) hx hb d_Model_compress_5 (by decide) (fun c5 => ?_) (fun c5 => ?_)
  · have p5 : 16 ≤ z2 := ((nI_leI (a := 16) (b := z2) (by omega) (by omega)).mp c5)
    refine lv_bipush (v := 16) hx hb d_Model_compress_78 (by decide) ?_
    refine lv_istore_n (lv' := [(2, .int 16), (0, .ref mo), (1, .int (nI a1))]) hx hb d_Model_compress_80 rfl hl (by decide) rfl (fun ls hl => ?_)
    refine w_loopW (α := Nat × va_W) (fun a9 => 16 ≤ a9.1 ∧ a9.1 ≤ 64 ∧ TR γ κ Ad τ a9.2 ∧ FL Ad [] G a9.2 ∧ Xc Ad mo cX_mo a9.2) (fun a9 => 64 - a9.1) (fun a9 => [(2, .int (nI a9.1)), (0, .ref mo), (1, .int (nI a1))]) (fun _ => []) (fun a9 => a9.2) 13 81 (fun a9 HL81 locs ls hJ hP hD hS hl ih81 => ?_) (16, G2) _ _ ls ⟨by omega, by omega, hTy, hFR, kmo⟩ hP hD hS (lv_sub hl [0, 1, 2] rfl)
    obtain ⟨z81, G81⟩ := a9
    obtain ⟨hy81, hz81, hTy, hFR, kmo⟩ := hJ
    dsimp only at hy81 hz81 hTy hFR kmo hP hD hl ih81
    refine lv_iload_n hx hb d_Model_compress_81 rfl (lv_at hl 0 rfl) ?_
    refine lv_bipush (v := 64) hx hb d_Model_compress_82 (by decide) ?_
    refine lv_icmp_ge (tgt := 178) hx hb d_Model_compress_84 (by decide) (fun c84 => ?_) (fun c84 => ?_)
    · have p84 : 64 ≤ z81 := ((nI_leI (a := 64) (b := z81) (by omega) (by omega)).mp c84)
      refine lv_aload_n hx hb d_Model_compress_178 rfl (lv_at hl 1 rfl) ?_
      obtain ⟨i_1, hg_1⟩ := List.getElem?_of_mem kmo.2
      rw [eX_mo] at hg_1
      refine va_get (v := .ref mhA) hx hb htb i_Model hown hK hP i_1 hg_1 rfl 13 (by decide) (htb _ q7_227) (fun _ h9 => h9) rfl d_Model_compress_179 ?_
      refine lv_iconst (v := 0) hx hb d_Model_compress_182 (by decide) ?_
      obtain ⟨i_2, f_2, hn_2, hg_2⟩ := tr_6 hTy kmhA
      have h183 : vp_in (0 : Int32) 8 := (by unfold vp_in; decide)
      refine va_iald hx hb hK hP i_2 1 hg_2 rfl h183 d_Model_compress_183 ?_
      refine lv_topi (fun e183 he183 => ?_)
      refine lv_istore_n (lv' := [(2, .int e183), (0, .ref mo), (1, .int (nI a1))]) hx hb d_Model_compress_184 rfl hl (by decide) rfl (fun ls hl => ?_)
      refine lv_aload_n hx hb d_Model_compress_185 rfl (lv_at hl 1 rfl) ?_
      refine va_get (v := .ref mhA) hx hb htb i_Model hown hK hP i_1 hg_1 rfl 13 (by decide) (htb _ q7_227) (fun _ h9 => h9) rfl d_Model_compress_186 ?_
      refine lv_iconst (v := 1) hx hb d_Model_compress_189 (by decide) ?_
      have h190 : vp_in (1 : Int32) 8 := (by unfold vp_in; decide)
      refine va_iald hx hb hK hP i_2 1 hg_2 rfl h190 d_Model_compress_190 ?_
      refine lv_topi (fun e190 he190 => ?_)
      refine lv_istore_n (lv' := [(3, .int e190), (2, .int e183), (0, .ref mo), (1, .int (nI a1))]) hx hb d_Model_compress_191 rfl hl (by decide) rfl (fun ls hl => ?_)
      refine lv_aload_n hx hb d_Model_compress_192 rfl (lv_at hl 2 rfl) ?_
      refine va_get (v := .ref mhA) hx hb htb i_Model hown hK hP i_1 hg_1 rfl 13 (by decide) (htb _ q7_227) (fun _ h9 => h9) rfl d_Model_compress_193 ?_
      refine lv_iconst (v := 2) hx hb d_Model_compress_196 (by decide) ?_
      have h197 : vp_in (2 : Int32) 8 := (by unfold vp_in; decide)
      refine va_iald hx hb hK hP i_2 1 hg_2 rfl h197 d_Model_compress_197 ?_
      refine lv_topi (fun e197 he197 => ?_)
      refine lv_istore (lv' := [(4, .int e197), (3, .int e190), (2, .int e183), (0, .ref mo), (1, .int (nI a1))]) hx hb d_Model_compress_198 hl (by decide) rfl (fun ls hl => ?_)
      refine lv_aload_n hx hb d_Model_compress_200 rfl (lv_at hl 3 rfl) ?_
      refine va_get (v := .ref mhA) hx hb htb i_Model hown hK hP i_1 hg_1 rfl 13 (by decide) (htb _ q7_227) (fun _ h9 => h9) rfl d_Model_compress_201 ?_
      refine lv_iconst (v := 3) hx hb d_Model_compress_204 (by decide) ?_
      have h205 : vp_in (3 : Int32) 8 := (by unfold vp_in; decide)
      refine va_iald hx hb hK hP i_2 1 hg_2 rfl h205 d_Model_compress_205 ?_
      refine lv_topi (fun e205 he205 => ?_)
      refine lv_istore (lv' := [(5, .int e205), (4, .int e197), (3, .int e190), (2, .int e183), (0, .ref mo), (1, .int (nI a1))]) hx hb d_Model_compress_206 hl (by decide) rfl (fun ls hl => ?_)
      refine lv_aload_n hx hb d_Model_compress_208 rfl (lv_at hl 4 rfl) ?_
      refine va_get (v := .ref mhA) hx hb htb i_Model hown hK hP i_1 hg_1 rfl 13 (by decide) (htb _ q7_227) (fun _ h9 => h9) rfl d_Model_compress_209 ?_
      refine lv_iconst (v := 4) hx hb d_Model_compress_212 (by decide) ?_
      have h213 : vp_in (4 : Int32) 8 := (by unfold vp_in; decide)
      refine va_iald hx hb hK hP i_2 1 hg_2 rfl h213 d_Model_compress_213 ?_
      refine lv_topi (fun e213 he213 => ?_)
      refine lv_istore (lv' := [(6, .int e213), (5, .int e205), (4, .int e197), (3, .int e190), (2, .int e183), (0, .ref mo), (1, .int (nI a1))]) hx hb d_Model_compress_214 hl (by decide) rfl (fun ls hl => ?_)
      refine lv_aload_n hx hb d_Model_compress_216 rfl (lv_at hl 5 rfl) ?_
      refine va_get (v := .ref mhA) hx hb htb i_Model hown hK hP i_1 hg_1 rfl 13 (by decide) (htb _ q7_227) (fun _ h9 => h9) rfl d_Model_compress_217 ?_
      refine lv_iconst (v := 5) hx hb d_Model_compress_220 (by decide) ?_
      have h221 : vp_in (5 : Int32) 8 := (by unfold vp_in; decide)
      refine va_iald hx hb hK hP i_2 1 hg_2 rfl h221 d_Model_compress_221 ?_
      refine lv_topi (fun e221 he221 => ?_)
      refine lv_istore (lv' := [(7, .int e221), (6, .int e213), (5, .int e205), (4, .int e197), (3, .int e190), (2, .int e183), (0, .ref mo), (1, .int (nI a1))]) hx hb d_Model_compress_222 hl (by decide) rfl (fun ls hl => ?_)
      refine lv_aload_n hx hb d_Model_compress_224 rfl (lv_at hl 6 rfl) ?_
      refine va_get (v := .ref mhA) hx hb htb i_Model hown hK hP i_1 hg_1 rfl 13 (by decide) (htb _ q7_227) (fun _ h9 => h9) rfl d_Model_compress_225 ?_
      refine lv_bipush (v := 6) hx hb d_Model_compress_228 (by decide) ?_
      have h230 : vp_in (6 : Int32) 8 := (by unfold vp_in; decide)
      refine va_iald hx hb hK hP i_2 1 hg_2 rfl h230 d_Model_compress_230 ?_
      refine lv_topi (fun e230 he230 => ?_)
      refine lv_istore (lv' := [(8, .int e230), (7, .int e221), (6, .int e213), (5, .int e205), (4, .int e197), (3, .int e190), (2, .int e183), (0, .ref mo), (1, .int (nI a1))]) hx hb d_Model_compress_231 hl (by decide) rfl (fun ls hl => ?_)
      refine lv_aload_n hx hb d_Model_compress_233 rfl (lv_at hl 7 rfl) ?_
      refine va_get (v := .ref mhA) hx hb htb i_Model hown hK hP i_1 hg_1 rfl 13 (by decide) (htb _ q7_227) (fun _ h9 => h9) rfl d_Model_compress_234 ?_
      refine lv_bipush (v := 7) hx hb d_Model_compress_237 (by decide) ?_
      have h239 : vp_in (7 : Int32) 8 := (by unfold vp_in; decide)
      refine va_iald hx hb hK hP i_2 1 hg_2 rfl h239 d_Model_compress_239 ?_
      refine lv_topi (fun e239 he239 => ?_)
      refine lv_istore (lv' := [(9, .int e239), (8, .int e230), (7, .int e221), (6, .int e213), (5, .int e205), (4, .int e197), (3, .int e190), (2, .int e183), (0, .ref mo), (1, .int (nI a1))]) hx hb d_Model_compress_240 hl (by decide) rfl (fun ls hl => ?_)
      refine lv_iconst (v := 0) hx hb d_Model_compress_242 (by decide) ?_
      refine lv_istore (lv' := [(10, .int 0), (9, .int e239), (8, .int e230), (7, .int e221), (6, .int e213), (5, .int e205), (4, .int e197), (3, .int e190), (2, .int e183), (0, .ref mo), (1, .int (nI a1))]) hx hb d_Model_compress_243 hl (by decide) rfl (fun ls hl => ?_)
      refine w_loopW (α := Nat × Int32 × Int32 × Int32 × Int32 × Int32 × Int32 × Int32 × Int32 × va_W) (fun a9 => 0 ≤ a9.1 ∧ a9.1 ≤ 64 ∧ TR γ κ Ad τ a9.2.2.2.2.2.2.2.2.2 ∧ FL Ad [] G a9.2.2.2.2.2.2.2.2.2 ∧ Xc Ad mo cX_mo a9.2.2.2.2.2.2.2.2.2) (fun a9 => 64 - a9.1) (fun a9 => [(10, .int (nI a9.1)), (9, .int a9.2.2.2.2.2.2.2.2.1), (8, .int a9.2.2.2.2.2.2.2.1), (7, .int a9.2.2.2.2.2.2.1), (6, .int a9.2.2.2.2.2.1), (5, .int a9.2.2.2.2.1), (4, .int a9.2.2.2.1), (3, .int a9.2.2.1), (2, .int a9.2.1), (0, .ref mo), (1, .int (nI a1))]) (fun _ => []) (fun a9 => a9.2.2.2.2.2.2.2.2.2) 13 245 (fun a9 HL245 locs ls hJ hP hD hS hl ih245 => ?_) (0, e183, e190, e197, e205, e213, e221, e230, e239, G81) _ _ ls ⟨by omega, by omega, hTy, hFR, kmo⟩ hP hD hS (lv_sub hl [0, 1, 2, 3, 4, 5, 6, 7, 8, 9, 10] rfl)
      obtain ⟨z245, x245_2, x245_3, x245_4, x245_5, x245_6, x245_7, x245_8, x245_9, G245⟩ := a9
      obtain ⟨hy245, hz245, hTy, hFR, kmo⟩ := hJ
      dsimp only at hy245 hz245 hTy hFR kmo hP hD hl ih245
      refine lv_iload hx hb d_Model_compress_245 (lv_at hl 0 rfl) ?_
      refine lv_bipush (v := 64) hx hb d_Model_compress_247 (by decide) ?_
      refine lv_icmp_ge (tgt := 385) hx hb d_Model_compress_249 (by decide) (fun c249 => ?_) (fun c249 => ?_)
      · have p249 : 64 ≤ z245 := ((nI_leI (a := 64) (b := z245) (by omega) (by omega)).mp c249)
        refine lv_aload_n hx hb d_Model_compress_385 rfl (lv_at hl 9 rfl) ?_
        obtain ⟨i_3, hg_3⟩ := List.getElem?_of_mem kmo.2
        rw [eX_mo] at hg_3
        refine va_get (v := .ref mhA) hx hb htb i_Model hown hK hP i_3 hg_3 rfl 13 (by decide) (htb _ q7_227) (fun _ h9 => h9) rfl d_Model_compress_386 ?_
        refine lv_iconst (v := 0) hx hb d_Model_compress_389 (by decide) ?_
        refine lv_dup2_11 hx hb d_Model_compress_390 rfl rfl ?_
        obtain ⟨i_4, f_4, hn_4, hg_4⟩ := tr_6 hTy kmhA
        have h391 : vp_in (0 : Int32) 8 := (by unfold vp_in; decide)
        refine va_iald hx hb hK hP i_4 1 hg_4 rfl h391 d_Model_compress_391 ?_
        refine lv_topi (fun e391 he391 => ?_)
        refine lv_iload_n hx hb d_Model_compress_392 rfl (lv_at hl 8 rfl) ?_
        refine lv_iadd hx hb d_Model_compress_393 ?_
        have h394 : vp_in (0 : Int32) 8 := (by unfold vp_in; decide)
        refine va_iast hx hb hK hP hD hS i_4 1 hg_4 rfl h394 d_Model_compress_394 (fun H394 locs hP hD2 hS => ?_)
        have hP : va_P (dC, dI) classes (G245.set i_4 (mhA, .inl (γ.2.1, 8, .inl (upd f_4 (0 : Int32).toNatClampNeg (e391 + x245_2))))) H394 := hP
        have hD3 : va_D A (G245.set i_4 (mhA, .inl (γ.2.1, 8, .inl (upd f_4 (0 : Int32).toNatClampNeg (e391 + x245_2))))) := hD2
        have hF1 := FR.set (c' := .inl (γ.2.1, 8, .inl (upd f_4 (0 : Int32).toNatClampNeg (e391 + x245_2)))) hg_4 kmhA.1
        have kmo := kmo.fr hF1
        have hFR := hFR.tr hF1.l
        clear hF1
        have hTy := TR.set (c' := .inl (γ.2.1, 8, .inl (upd f_4 (0 : Int32).toNatClampNeg (e391 + x245_2)))) hTy hg_4 (okr_6 kmhA hn_4 _)
        have hD := hD3
        clear hD3 hD2
        generalize G245.set i_4 (mhA, .inl (γ.2.1, 8, .inl (upd f_4 (0 : Int32).toNatClampNeg (e391 + x245_2)))) = G_5 at hP hD hTy hFR kmo 
        refine lv_aload_n hx hb d_Model_compress_395 rfl (lv_at hl 9 rfl) ?_
        obtain ⟨i_6, hg_6⟩ := List.getElem?_of_mem kmo.2
        rw [eX_mo] at hg_6
        refine va_get (v := .ref mhA) hx hb htb i_Model hown hK hP i_6 hg_6 rfl 13 (by decide) (htb _ q7_227) (fun _ h9 => h9) rfl d_Model_compress_396 ?_
        refine lv_iconst (v := 1) hx hb d_Model_compress_399 (by decide) ?_
        refine lv_dup2_11 hx hb d_Model_compress_400 rfl rfl ?_
        obtain ⟨i_7, f_7, hn_7, hg_7⟩ := tr_6 hTy kmhA
        have h401 : vp_in (1 : Int32) 8 := (by unfold vp_in; decide)
        refine va_iald hx hb hK hP i_7 1 hg_7 rfl h401 d_Model_compress_401 ?_
        refine lv_topi (fun e401 he401 => ?_)
        refine lv_iload_n hx hb d_Model_compress_402 rfl (lv_at hl 7 rfl) ?_
        refine lv_iadd hx hb d_Model_compress_403 ?_
        have h404 : vp_in (1 : Int32) 8 := (by unfold vp_in; decide)
        refine va_iast hx hb hK hP hD hS i_7 1 hg_7 rfl h404 d_Model_compress_404 (fun H404 locs hP hD2 hS => ?_)
        have hP : va_P (dC, dI) classes (G_5.set i_7 (mhA, .inl (γ.2.1, 8, .inl (upd f_7 (1 : Int32).toNatClampNeg (e401 + x245_3))))) H404 := hP
        have hD3 : va_D A (G_5.set i_7 (mhA, .inl (γ.2.1, 8, .inl (upd f_7 (1 : Int32).toNatClampNeg (e401 + x245_3))))) := hD2
        have hF1 := FR.set (c' := .inl (γ.2.1, 8, .inl (upd f_7 (1 : Int32).toNatClampNeg (e401 + x245_3)))) hg_7 kmhA.1
        have kmo := kmo.fr hF1
        have hFR := hFR.tr hF1.l
        clear hF1
        have hTy := TR.set (c' := .inl (γ.2.1, 8, .inl (upd f_7 (1 : Int32).toNatClampNeg (e401 + x245_3)))) hTy hg_7 (okr_6 kmhA hn_7 _)
        have hD := hD3
        clear hD3 hD2
        generalize G_5.set i_7 (mhA, .inl (γ.2.1, 8, .inl (upd f_7 (1 : Int32).toNatClampNeg (e401 + x245_3)))) = G_8 at hP hD hTy hFR kmo 
        refine lv_aload_n hx hb d_Model_compress_405 rfl (lv_at hl 9 rfl) ?_
        obtain ⟨i_9, hg_9⟩ := List.getElem?_of_mem kmo.2
        rw [eX_mo] at hg_9
        refine va_get (v := .ref mhA) hx hb htb i_Model hown hK hP i_9 hg_9 rfl 13 (by decide) (htb _ q7_227) (fun _ h9 => h9) rfl d_Model_compress_406 ?_
        refine lv_iconst (v := 2) hx hb d_Model_compress_409 (by decide) ?_
        refine lv_dup2_11 hx hb d_Model_compress_410 rfl rfl ?_
        obtain ⟨i_10, f_10, hn_10, hg_10⟩ := tr_6 hTy kmhA
        have h411 : vp_in (2 : Int32) 8 := (by unfold vp_in; decide)
        refine va_iald hx hb hK hP i_10 1 hg_10 rfl h411 d_Model_compress_411 ?_
        refine lv_topi (fun e411 he411 => ?_)
        refine lv_iload hx hb d_Model_compress_412 (lv_at hl 6 rfl) ?_
        refine lv_iadd hx hb d_Model_compress_414 ?_
        have h415 : vp_in (2 : Int32) 8 := (by unfold vp_in; decide)
        refine va_iast hx hb hK hP hD hS i_10 1 hg_10 rfl h415 d_Model_compress_415 (fun H415 locs hP hD2 hS => ?_)
        have hP : va_P (dC, dI) classes (G_8.set i_10 (mhA, .inl (γ.2.1, 8, .inl (upd f_10 (2 : Int32).toNatClampNeg (e411 + x245_4))))) H415 := hP
        have hD3 : va_D A (G_8.set i_10 (mhA, .inl (γ.2.1, 8, .inl (upd f_10 (2 : Int32).toNatClampNeg (e411 + x245_4))))) := hD2
        have hF1 := FR.set (c' := .inl (γ.2.1, 8, .inl (upd f_10 (2 : Int32).toNatClampNeg (e411 + x245_4)))) hg_10 kmhA.1
        have kmo := kmo.fr hF1
        have hFR := hFR.tr hF1.l
        clear hF1
        have hTy := TR.set (c' := .inl (γ.2.1, 8, .inl (upd f_10 (2 : Int32).toNatClampNeg (e411 + x245_4)))) hTy hg_10 (okr_6 kmhA hn_10 _)
        have hD := hD3
        clear hD3 hD2
        generalize G_8.set i_10 (mhA, .inl (γ.2.1, 8, .inl (upd f_10 (2 : Int32).toNatClampNeg (e411 + x245_4)))) = G_11 at hP hD hTy hFR kmo 
        refine lv_aload_n hx hb d_Model_compress_416 rfl (lv_at hl 9 rfl) ?_
        obtain ⟨i_12, hg_12⟩ := List.getElem?_of_mem kmo.2
        rw [eX_mo] at hg_12
        refine va_get (v := .ref mhA) hx hb htb i_Model hown hK hP i_12 hg_12 rfl 13 (by decide) (htb _ q7_227) (fun _ h9 => h9) rfl d_Model_compress_417 ?_
        refine lv_iconst (v := 3) hx hb d_Model_compress_420 (by decide) ?_
        refine lv_dup2_11 hx hb d_Model_compress_421 rfl rfl ?_
        obtain ⟨i_13, f_13, hn_13, hg_13⟩ := tr_6 hTy kmhA
        have h422 : vp_in (3 : Int32) 8 := (by unfold vp_in; decide)
        refine va_iald hx hb hK hP i_13 1 hg_13 rfl h422 d_Model_compress_422 ?_
        refine lv_topi (fun e422 he422 => ?_)
        refine lv_iload hx hb d_Model_compress_423 (lv_at hl 5 rfl) ?_
        refine lv_iadd hx hb d_Model_compress_425 ?_
        have h426 : vp_in (3 : Int32) 8 := (by unfold vp_in; decide)
        refine va_iast hx hb hK hP hD hS i_13 1 hg_13 rfl h426 d_Model_compress_426 (fun H426 locs hP hD2 hS => ?_)
        have hP : va_P (dC, dI) classes (G_11.set i_13 (mhA, .inl (γ.2.1, 8, .inl (upd f_13 (3 : Int32).toNatClampNeg (e422 + x245_5))))) H426 := hP
        have hD3 : va_D A (G_11.set i_13 (mhA, .inl (γ.2.1, 8, .inl (upd f_13 (3 : Int32).toNatClampNeg (e422 + x245_5))))) := hD2
        have hF1 := FR.set (c' := .inl (γ.2.1, 8, .inl (upd f_13 (3 : Int32).toNatClampNeg (e422 + x245_5)))) hg_13 kmhA.1
        have kmo := kmo.fr hF1
        have hFR := hFR.tr hF1.l
        clear hF1
        have hTy := TR.set (c' := .inl (γ.2.1, 8, .inl (upd f_13 (3 : Int32).toNatClampNeg (e422 + x245_5)))) hTy hg_13 (okr_6 kmhA hn_13 _)
        have hD := hD3
        clear hD3 hD2
        generalize G_11.set i_13 (mhA, .inl (γ.2.1, 8, .inl (upd f_13 (3 : Int32).toNatClampNeg (e422 + x245_5)))) = G_14 at hP hD hTy hFR kmo 
        refine lv_aload_n hx hb d_Model_compress_427 rfl (lv_at hl 9 rfl) ?_
        obtain ⟨i_15, hg_15⟩ := List.getElem?_of_mem kmo.2
        rw [eX_mo] at hg_15
        refine va_get (v := .ref mhA) hx hb htb i_Model hown hK hP i_15 hg_15 rfl 13 (by decide) (htb _ q7_227) (fun _ h9 => h9) rfl d_Model_compress_428 ?_
        refine lv_iconst (v := 4) hx hb d_Model_compress_431 (by decide) ?_
        refine lv_dup2_11 hx hb d_Model_compress_432 rfl rfl ?_
        obtain ⟨i_16, f_16, hn_16, hg_16⟩ := tr_6 hTy kmhA
        have h433 : vp_in (4 : Int32) 8 := (by unfold vp_in; decide)
        refine va_iald hx hb hK hP i_16 1 hg_16 rfl h433 d_Model_compress_433 ?_
        refine lv_topi (fun e433 he433 => ?_)
        refine lv_iload hx hb d_Model_compress_434 (lv_at hl 4 rfl) ?_
        refine lv_iadd hx hb d_Model_compress_436 ?_
        have h437 : vp_in (4 : Int32) 8 := (by unfold vp_in; decide)
        refine va_iast hx hb hK hP hD hS i_16 1 hg_16 rfl h437 d_Model_compress_437 (fun H437 locs hP hD2 hS => ?_)
        have hP : va_P (dC, dI) classes (G_14.set i_16 (mhA, .inl (γ.2.1, 8, .inl (upd f_16 (4 : Int32).toNatClampNeg (e433 + x245_6))))) H437 := hP
        have hD3 : va_D A (G_14.set i_16 (mhA, .inl (γ.2.1, 8, .inl (upd f_16 (4 : Int32).toNatClampNeg (e433 + x245_6))))) := hD2
        have hF1 := FR.set (c' := .inl (γ.2.1, 8, .inl (upd f_16 (4 : Int32).toNatClampNeg (e433 + x245_6)))) hg_16 kmhA.1
        have kmo := kmo.fr hF1
        have hFR := hFR.tr hF1.l
        clear hF1
        have hTy := TR.set (c' := .inl (γ.2.1, 8, .inl (upd f_16 (4 : Int32).toNatClampNeg (e433 + x245_6)))) hTy hg_16 (okr_6 kmhA hn_16 _)
        have hD := hD3
        clear hD3 hD2
        generalize G_14.set i_16 (mhA, .inl (γ.2.1, 8, .inl (upd f_16 (4 : Int32).toNatClampNeg (e433 + x245_6)))) = G_17 at hP hD hTy hFR kmo 
        refine lv_aload_n hx hb d_Model_compress_438 rfl (lv_at hl 9 rfl) ?_
        obtain ⟨i_18, hg_18⟩ := List.getElem?_of_mem kmo.2
        rw [eX_mo] at hg_18
        refine va_get (v := .ref mhA) hx hb htb i_Model hown hK hP i_18 hg_18 rfl 13 (by decide) (htb _ q7_227) (fun _ h9 => h9) rfl d_Model_compress_439 ?_
        refine lv_iconst (v := 5) hx hb d_Model_compress_442 (by decide) ?_
        refine lv_dup2_11 hx hb d_Model_compress_443 rfl rfl ?_
        obtain ⟨i_19, f_19, hn_19, hg_19⟩ := tr_6 hTy kmhA
        have h444 : vp_in (5 : Int32) 8 := (by unfold vp_in; decide)
        refine va_iald hx hb hK hP i_19 1 hg_19 rfl h444 d_Model_compress_444 ?_
        refine lv_topi (fun e444 he444 => ?_)
        refine lv_iload hx hb d_Model_compress_445 (lv_at hl 3 rfl) ?_
        refine lv_iadd hx hb d_Model_compress_447 ?_
        have h448 : vp_in (5 : Int32) 8 := (by unfold vp_in; decide)
        refine va_iast hx hb hK hP hD hS i_19 1 hg_19 rfl h448 d_Model_compress_448 (fun H448 locs hP hD2 hS => ?_)
        have hP : va_P (dC, dI) classes (G_17.set i_19 (mhA, .inl (γ.2.1, 8, .inl (upd f_19 (5 : Int32).toNatClampNeg (e444 + x245_7))))) H448 := hP
        have hD3 : va_D A (G_17.set i_19 (mhA, .inl (γ.2.1, 8, .inl (upd f_19 (5 : Int32).toNatClampNeg (e444 + x245_7))))) := hD2
        have hF1 := FR.set (c' := .inl (γ.2.1, 8, .inl (upd f_19 (5 : Int32).toNatClampNeg (e444 + x245_7)))) hg_19 kmhA.1
        have kmo := kmo.fr hF1
        have hFR := hFR.tr hF1.l
        clear hF1
        have hTy := TR.set (c' := .inl (γ.2.1, 8, .inl (upd f_19 (5 : Int32).toNatClampNeg (e444 + x245_7)))) hTy hg_19 (okr_6 kmhA hn_19 _)
        have hD := hD3
        clear hD3 hD2
        generalize G_17.set i_19 (mhA, .inl (γ.2.1, 8, .inl (upd f_19 (5 : Int32).toNatClampNeg (e444 + x245_7)))) = G_20 at hP hD hTy hFR kmo 
        refine lv_aload_n hx hb d_Model_compress_449 rfl (lv_at hl 9 rfl) ?_
        obtain ⟨i_21, hg_21⟩ := List.getElem?_of_mem kmo.2
        rw [eX_mo] at hg_21
        refine va_get (v := .ref mhA) hx hb htb i_Model hown hK hP i_21 hg_21 rfl 13 (by decide) (htb _ q7_227) (fun _ h9 => h9) rfl d_Model_compress_450 ?_
        refine lv_bipush (v := 6) hx hb d_Model_compress_453 (by decide) ?_
        refine lv_dup2_11 hx hb d_Model_compress_455 rfl rfl ?_
        obtain ⟨i_22, f_22, hn_22, hg_22⟩ := tr_6 hTy kmhA
        have h456 : vp_in (6 : Int32) 8 := (by unfold vp_in; decide)
        refine va_iald hx hb hK hP i_22 1 hg_22 rfl h456 d_Model_compress_456 ?_
        refine lv_topi (fun e456 he456 => ?_)
        refine lv_iload hx hb d_Model_compress_457 (lv_at hl 2 rfl) ?_
        refine lv_iadd hx hb d_Model_compress_459 ?_
        have h460 : vp_in (6 : Int32) 8 := (by unfold vp_in; decide)
        refine va_iast hx hb hK hP hD hS i_22 1 hg_22 rfl h460 d_Model_compress_460 (fun H460 locs hP hD2 hS => ?_)
        have hP : va_P (dC, dI) classes (G_20.set i_22 (mhA, .inl (γ.2.1, 8, .inl (upd f_22 (6 : Int32).toNatClampNeg (e456 + x245_8))))) H460 := hP
        have hD3 : va_D A (G_20.set i_22 (mhA, .inl (γ.2.1, 8, .inl (upd f_22 (6 : Int32).toNatClampNeg (e456 + x245_8))))) := hD2
        have hF1 := FR.set (c' := .inl (γ.2.1, 8, .inl (upd f_22 (6 : Int32).toNatClampNeg (e456 + x245_8)))) hg_22 kmhA.1
        have kmo := kmo.fr hF1
        have hFR := hFR.tr hF1.l
        clear hF1
        have hTy := TR.set (c' := .inl (γ.2.1, 8, .inl (upd f_22 (6 : Int32).toNatClampNeg (e456 + x245_8)))) hTy hg_22 (okr_6 kmhA hn_22 _)
        have hD := hD3
        clear hD3 hD2
        generalize G_20.set i_22 (mhA, .inl (γ.2.1, 8, .inl (upd f_22 (6 : Int32).toNatClampNeg (e456 + x245_8)))) = G_23 at hP hD hTy hFR kmo 
        refine lv_aload_n hx hb d_Model_compress_461 rfl (lv_at hl 9 rfl) ?_
        obtain ⟨i_24, hg_24⟩ := List.getElem?_of_mem kmo.2
        rw [eX_mo] at hg_24
        refine va_get (v := .ref mhA) hx hb htb i_Model hown hK hP i_24 hg_24 rfl 13 (by decide) (htb _ q7_227) (fun _ h9 => h9) rfl d_Model_compress_462 ?_
        refine lv_bipush (v := 7) hx hb d_Model_compress_465 (by decide) ?_
        refine lv_dup2_11 hx hb d_Model_compress_467 rfl rfl ?_
        obtain ⟨i_25, f_25, hn_25, hg_25⟩ := tr_6 hTy kmhA
        have h468 : vp_in (7 : Int32) 8 := (by unfold vp_in; decide)
        refine va_iald hx hb hK hP i_25 1 hg_25 rfl h468 d_Model_compress_468 ?_
        refine lv_topi (fun e468 he468 => ?_)
        refine lv_iload hx hb d_Model_compress_469 (lv_at hl 1 rfl) ?_
        refine lv_iadd hx hb d_Model_compress_471 ?_
        have h472 : vp_in (7 : Int32) 8 := (by unfold vp_in; decide)
        refine va_iast hx hb hK hP hD hS i_25 1 hg_25 rfl h472 d_Model_compress_472 (fun H472 locs hP hD2 hS => ?_)
        have hP : va_P (dC, dI) classes (G_23.set i_25 (mhA, .inl (γ.2.1, 8, .inl (upd f_25 (7 : Int32).toNatClampNeg (e468 + x245_9))))) H472 := hP
        have hD3 : va_D A (G_23.set i_25 (mhA, .inl (γ.2.1, 8, .inl (upd f_25 (7 : Int32).toNatClampNeg (e468 + x245_9))))) := hD2
        have hF1 := FR.set (c' := .inl (γ.2.1, 8, .inl (upd f_25 (7 : Int32).toNatClampNeg (e468 + x245_9)))) hg_25 kmhA.1
        have kmo := kmo.fr hF1
        have hFR := hFR.tr hF1.l
        clear hF1
        have hTy := TR.set (c' := .inl (γ.2.1, 8, .inl (upd f_25 (7 : Int32).toNatClampNeg (e468 + x245_9)))) hTy hg_25 (okr_6 kmhA hn_25 _)
        have hD := hD3
        clear hD3 hD2
        generalize G_23.set i_25 (mhA, .inl (γ.2.1, 8, .inl (upd f_25 (7 : Int32).toNatClampNeg (e468 + x245_9)))) = G_26 at hP hD hTy hFR kmo 
        exact W.vret hx hb hr (fun t ht hW => ⟨⟨G_26, rfl, ⟨hTy, hFR, trivial⟩, by rw [ht]; exact hP, va_K.moved hW.alike hK, hD⟩, hS.F ht⟩) hS.2.2 d_Model_compress_473
      · have p249 : ¬ (64 ≤ z245) := (fun q9 => c249 ((nI_leI (a := 64) (b := z245) (by omega) (by omega)).mpr q9))
        refine lv_iload hx hb d_Model_compress_252 (lv_at hl 1 rfl) ?_
        refine lv_iload hx hb d_Model_compress_254 (lv_at hl 4 rfl) ?_
        refine lv_bipush (v := 6) hx hb d_Model_compress_256 (by decide) ?_
        refine vp_callSi (pu_callS (As := [.int x245_6, .int 6]) (rest := [.int x245_9]) ⟨hx, hb, hml, hown, hts⟩ tbin (c_Model_turn l dC dI sb x245_6 (6 : Int32)) q9_89 q9_90 q1_9 q9_91 (n := 2) (by decide +kernel) rfl ⟨rfl, rfl⟩ ⟨Nat.le_of_ble_eq_true rfl, Nat.le_of_ble_eq_true rfl⟩ ⟨Nat.le_of_ble_eq_true rfl, Nat.le_of_ble_eq_true rfl⟩ hN (hT0.keep hS hAs) hK hP [] (by simp only [List.filterMap_cons, List.filterMap_nil]) [] rfl hl.1 rfl (Nat.le_of_ble_eq_true rfl) d_Model_compress_258) (fun r258 hr258 => ?_)
        refine lv_iload hx hb d_Model_compress_261 (lv_at hl 4 rfl) ?_
        refine lv_bipush (v := 11) hx hb d_Model_compress_263 (by decide) ?_
        refine vp_callSi (pu_callS (As := [.int x245_6, .int 11]) (rest := [.int r258, .int x245_9]) ⟨hx, hb, hml, hown, hts⟩ tbin (c_Model_turn l dC dI sb x245_6 (11 : Int32)) q9_89 q9_90 q1_9 q9_91 (n := 2) (by decide +kernel) rfl ⟨rfl, rfl⟩ ⟨Nat.le_of_ble_eq_true rfl, Nat.le_of_ble_eq_true rfl⟩ ⟨Nat.le_of_ble_eq_true rfl, Nat.le_of_ble_eq_true rfl⟩ hN (hT0.keep hS hAs) hK hP [] (by simp only [List.filterMap_cons, List.filterMap_nil]) [] rfl hl.1 rfl (Nat.le_of_ble_eq_true rfl) d_Model_compress_265) (fun r265 hr265 => ?_)
        refine lv_ixor hx hb d_Model_compress_268 ?_
        refine lv_iload hx hb d_Model_compress_269 (lv_at hl 4 rfl) ?_
        refine lv_bipush (v := 25) hx hb d_Model_compress_271 (by decide) ?_
        refine vp_callSi (pu_callS (As := [.int x245_6, .int 25]) (rest := [.int (r258 ^^^ r265), .int x245_9]) ⟨hx, hb, hml, hown, hts⟩ tbin (c_Model_turn l dC dI sb x245_6 (25 : Int32)) q9_89 q9_90 q1_9 q9_91 (n := 2) (by decide +kernel) rfl ⟨rfl, rfl⟩ ⟨Nat.le_of_ble_eq_true rfl, Nat.le_of_ble_eq_true rfl⟩ ⟨Nat.le_of_ble_eq_true rfl, Nat.le_of_ble_eq_true rfl⟩ hN (hT0.keep hS hAs) hK hP [] (by simp only [List.filterMap_cons, List.filterMap_nil]) [] rfl hl.1 rfl (Nat.le_of_ble_eq_true rfl) d_Model_compress_273) (fun r273 hr273 => ?_)
        refine lv_ixor hx hb d_Model_compress_276 ?_
        refine lv_iadd hx hb d_Model_compress_277 ?_
        refine lv_iload hx hb d_Model_compress_278 (lv_at hl 4 rfl) ?_
        refine lv_iload hx hb d_Model_compress_280 (lv_at hl 3 rfl) ?_
        refine lv_iand hx hb d_Model_compress_282 ?_
        refine lv_iload hx hb d_Model_compress_283 (lv_at hl 4 rfl) ?_
        refine lv_iconst (v := -1) hx hb d_Model_compress_285 (by decide) ?_
        refine lv_ixor hx hb d_Model_compress_286 ?_
        refine lv_iload hx hb d_Model_compress_287 (lv_at hl 2 rfl) ?_
        refine lv_iand hx hb d_Model_compress_289 ?_
        refine lv_ixor hx hb d_Model_compress_290 ?_
        refine lv_iadd hx hb d_Model_compress_291 ?_
        refine lv_aload_n hx hb d_Model_compress_292 rfl (lv_at hl 9 rfl) ?_
        obtain ⟨i_27, hg_27⟩ := List.getElem?_of_mem kmo.2
        rw [eX_mo] at hg_27
        refine va_get (v := .ref mpA) hx hb htb i_Model hown hK hP i_27 hg_27 rfl 15 (by decide) (htb _ q7_229) (fun _ h9 => h9) rfl d_Model_compress_293 ?_
        refine lv_iload hx hb d_Model_compress_296 (lv_at hl 0 rfl) ?_
        obtain ⟨i_28, f_28, hn_28, hg_28⟩ := tr_6 hTy kmpA
        have h298 : vp_in (nI z245) 64 := vp_in_nI (by omega) (by omega)
        refine va_iald hx hb hK hP i_28 1 hg_28 rfl h298 d_Model_compress_298 ?_
        refine lv_topi (fun e298 he298 => ?_)
        refine lv_iadd hx hb d_Model_compress_299 ?_
        refine lv_aload_n hx hb d_Model_compress_300 rfl (lv_at hl 9 rfl) ?_
        refine va_get (v := .ref mwA) hx hb htb i_Model hown hK hP i_27 hg_27 rfl 12 (by decide) (htb _ q7_226) (fun _ h9 => h9) rfl d_Model_compress_301 ?_
        refine lv_iload hx hb d_Model_compress_304 (lv_at hl 0 rfl) ?_
        obtain ⟨i_29, f_29, hn_29, hg_29⟩ := tr_6 hTy kmwA
        have h306 : vp_in (nI z245) 64 := vp_in_nI (by omega) (by omega)
        refine va_iald hx hb hK hP i_29 1 hg_29 rfl h306 d_Model_compress_306 ?_
        refine lv_topi (fun e306 he306 => ?_)
        refine lv_iadd hx hb d_Model_compress_307 ?_
        refine lv_topi (fun v308 ev308 => ?_)
        refine lv_istore (lv' := [(11, .int v308), (10, .int (nI z245)), (9, .int x245_9), (8, .int x245_8), (7, .int x245_7), (6, .int x245_6), (5, .int x245_5), (4, .int x245_4), (3, .int x245_3), (2, .int x245_2), (0, .ref mo), (1, .int (nI a1))]) hx hb d_Model_compress_308 hl (by decide) rfl (fun ls hl => ?_)
        refine lv_iload_n hx hb d_Model_compress_310 rfl (lv_at hl 9 rfl) ?_
        refine lv_iconst (v := 2) hx hb d_Model_compress_311 (by decide) ?_
        refine vp_callSi (pu_callS (As := [.int x245_2, .int 2]) (rest := []) ⟨hx, hb, hml, hown, hts⟩ tbin (c_Model_turn l dC dI sb x245_2 (2 : Int32)) q9_89 q9_90 q1_9 q9_91 (n := 2) (by decide +kernel) rfl ⟨rfl, rfl⟩ ⟨Nat.le_of_ble_eq_true rfl, Nat.le_of_ble_eq_true rfl⟩ ⟨Nat.le_of_ble_eq_true rfl, Nat.le_of_ble_eq_true rfl⟩ hN (hT0.keep hS hAs) hK hP [] (by simp only [List.filterMap_cons, List.filterMap_nil]) [] rfl hl.1 rfl (Nat.le_of_ble_eq_true rfl) d_Model_compress_312) (fun r312 hr312 => ?_)
        refine lv_iload_n hx hb d_Model_compress_315 rfl (lv_at hl 9 rfl) ?_
        refine lv_bipush (v := 13) hx hb d_Model_compress_316 (by decide) ?_
        refine vp_callSi (pu_callS (As := [.int x245_2, .int 13]) (rest := [.int r312]) ⟨hx, hb, hml, hown, hts⟩ tbin (c_Model_turn l dC dI sb x245_2 (13 : Int32)) q9_89 q9_90 q1_9 q9_91 (n := 2) (by decide +kernel) rfl ⟨rfl, rfl⟩ ⟨Nat.le_of_ble_eq_true rfl, Nat.le_of_ble_eq_true rfl⟩ ⟨Nat.le_of_ble_eq_true rfl, Nat.le_of_ble_eq_true rfl⟩ hN (hT0.keep hS hAs) hK hP [] (by simp only [List.filterMap_cons, List.filterMap_nil]) [] rfl hl.1 rfl (Nat.le_of_ble_eq_true rfl) d_Model_compress_318) (fun r318 hr318 => ?_)
        refine lv_ixor hx hb d_Model_compress_321 ?_
        refine lv_iload_n hx hb d_Model_compress_322 rfl (lv_at hl 9 rfl) ?_
        refine lv_bipush (v := 22) hx hb d_Model_compress_323 (by decide) ?_
        refine vp_callSi (pu_callS (As := [.int x245_2, .int 22]) (rest := [.int (r312 ^^^ r318)]) ⟨hx, hb, hml, hown, hts⟩ tbin (c_Model_turn l dC dI sb x245_2 (22 : Int32)) q9_89 q9_90 q1_9 q9_91 (n := 2) (by decide +kernel) rfl ⟨rfl, rfl⟩ ⟨Nat.le_of_ble_eq_true rfl, Nat.le_of_ble_eq_true rfl⟩ ⟨Nat.le_of_ble_eq_true rfl, Nat.le_of_ble_eq_true rfl⟩ hN (hT0.keep hS hAs) hK hP [] (by simp only [List.filterMap_cons, List.filterMap_nil]) [] rfl hl.1 rfl (Nat.le_of_ble_eq_true rfl) d_Model_compress_325) (fun r325 hr325 => ?_)
        refine lv_ixor hx hb d_Model_compress_328 ?_
        refine lv_iload_n hx hb d_Model_compress_329 rfl (lv_at hl 9 rfl) ?_
        refine lv_iload_n hx hb d_Model_compress_330 rfl (lv_at hl 8 rfl) ?_
        refine lv_iand hx hb d_Model_compress_331 ?_
        refine lv_iload_n hx hb d_Model_compress_332 rfl (lv_at hl 9 rfl) ?_
        refine lv_iload hx hb d_Model_compress_333 (lv_at hl 7 rfl) ?_
        refine lv_iand hx hb d_Model_compress_335 ?_
        refine lv_ixor hx hb d_Model_compress_336 ?_
        refine lv_iload_n hx hb d_Model_compress_337 rfl (lv_at hl 8 rfl) ?_
        refine lv_iload hx hb d_Model_compress_338 (lv_at hl 7 rfl) ?_
        refine lv_iand hx hb d_Model_compress_340 ?_
        refine lv_ixor hx hb d_Model_compress_341 ?_
        refine lv_iadd hx hb d_Model_compress_342 ?_
        refine lv_topi (fun v343 ev343 => ?_)
        refine lv_istore (lv' := [(12, .int v343), (11, .int v308), (10, .int (nI z245)), (9, .int x245_9), (8, .int x245_8), (7, .int x245_7), (6, .int x245_6), (5, .int x245_5), (4, .int x245_4), (3, .int x245_3), (2, .int x245_2), (0, .ref mo), (1, .int (nI a1))]) hx hb d_Model_compress_343 hl (by decide) rfl (fun ls hl => ?_)
        refine lv_iload hx hb d_Model_compress_345 (lv_at hl 4 rfl) ?_
        refine lv_istore (lv' := [(9, .int x245_8), (12, .int v343), (11, .int v308), (10, .int (nI z245)), (8, .int x245_8), (7, .int x245_7), (6, .int x245_6), (5, .int x245_5), (4, .int x245_4), (3, .int x245_3), (2, .int x245_2), (0, .ref mo), (1, .int (nI a1))]) hx hb d_Model_compress_347 hl (by decide) rfl (fun ls hl => ?_)
        refine lv_iload hx hb d_Model_compress_349 (lv_at hl 5 rfl) ?_
        refine lv_istore (lv' := [(8, .int x245_7), (9, .int x245_8), (12, .int v343), (11, .int v308), (10, .int (nI z245)), (7, .int x245_7), (6, .int x245_6), (5, .int x245_5), (4, .int x245_4), (3, .int x245_3), (2, .int x245_2), (0, .ref mo), (1, .int (nI a1))]) hx hb d_Model_compress_351 hl (by decide) rfl (fun ls hl => ?_)
        refine lv_iload hx hb d_Model_compress_353 (lv_at hl 6 rfl) ?_
        refine lv_istore (lv' := [(7, .int x245_6), (8, .int x245_7), (9, .int x245_8), (12, .int v343), (11, .int v308), (10, .int (nI z245)), (6, .int x245_6), (5, .int x245_5), (4, .int x245_4), (3, .int x245_3), (2, .int x245_2), (0, .ref mo), (1, .int (nI a1))]) hx hb d_Model_compress_355 hl (by decide) rfl (fun ls hl => ?_)
        refine lv_iload hx hb d_Model_compress_357 (lv_at hl 7 rfl) ?_
        refine lv_iload hx hb d_Model_compress_359 (lv_at hl 4 rfl) ?_
        refine lv_iadd hx hb d_Model_compress_361 ?_
        refine lv_topi (fun v362 ev362 => ?_)
        refine lv_istore (lv' := [(6, .int v362), (7, .int x245_6), (8, .int x245_7), (9, .int x245_8), (12, .int v343), (11, .int v308), (10, .int (nI z245)), (5, .int x245_5), (4, .int x245_4), (3, .int x245_3), (2, .int x245_2), (0, .ref mo), (1, .int (nI a1))]) hx hb d_Model_compress_362 hl (by decide) rfl (fun ls hl => ?_)
        refine lv_iload hx hb d_Model_compress_364 (lv_at hl 8 rfl) ?_
        refine lv_istore (lv' := [(5, .int x245_4), (6, .int v362), (7, .int x245_6), (8, .int x245_7), (9, .int x245_8), (12, .int v343), (11, .int v308), (10, .int (nI z245)), (4, .int x245_4), (3, .int x245_3), (2, .int x245_2), (0, .ref mo), (1, .int (nI a1))]) hx hb d_Model_compress_366 hl (by decide) rfl (fun ls hl => ?_)
        refine lv_iload_n hx hb d_Model_compress_368 rfl (lv_at hl 9 rfl) ?_
        refine lv_istore (lv' := [(4, .int x245_3), (5, .int x245_4), (6, .int v362), (7, .int x245_6), (8, .int x245_7), (9, .int x245_8), (12, .int v343), (11, .int v308), (10, .int (nI z245)), (3, .int x245_3), (2, .int x245_2), (0, .ref mo), (1, .int (nI a1))]) hx hb d_Model_compress_369 hl (by decide) rfl (fun ls hl => ?_)
        refine lv_iload_n hx hb d_Model_compress_371 rfl (lv_at hl 10 rfl) ?_
        refine lv_istore_n (lv' := [(3, .int x245_2), (4, .int x245_3), (5, .int x245_4), (6, .int v362), (7, .int x245_6), (8, .int x245_7), (9, .int x245_8), (12, .int v343), (11, .int v308), (10, .int (nI z245)), (2, .int x245_2), (0, .ref mo), (1, .int (nI a1))]) hx hb d_Model_compress_372 rfl hl (by decide) rfl (fun ls hl => ?_)
        refine lv_iload hx hb d_Model_compress_373 (lv_at hl 8 rfl) ?_
        refine lv_iload hx hb d_Model_compress_375 (lv_at hl 7 rfl) ?_
        refine lv_iadd hx hb d_Model_compress_377 ?_
        refine lv_topi (fun v378 ev378 => ?_)
        refine lv_istore_n (lv' := [(2, .int v378), (3, .int x245_2), (4, .int x245_3), (5, .int x245_4), (6, .int v362), (7, .int x245_6), (8, .int x245_7), (9, .int x245_8), (12, .int v343), (11, .int v308), (10, .int (nI z245)), (0, .ref mo), (1, .int (nI a1))]) hx hb d_Model_compress_378 rfl hl (by decide) rfl (fun ls hl => ?_)
        refine lv_iinc (v := nI (z245 + 1)) (lv' := [(10, .int (nI (z245 + 1))), (2, .int v378), (3, .int x245_2), (4, .int x245_3), (5, .int x245_4), (6, .int v362), (7, .int x245_6), (8, .int x245_7), (9, .int x245_8), (12, .int v343), (11, .int v308), (0, .ref mo), (1, .int (nI a1))]) hx hb d_Model_compress_379 hl (k := 10) rfl (nI_1 _) (by decide) rfl (fun ls hl => ?_)
        refine lv_goto (tgt := 245) hx hb d_Model_compress_382 (by decide) ?_
        exact ih245 (z245 + 1, v378, x245_2, x245_3, x245_4, v362, x245_6, x245_7, x245_8, G245) _ _ ls (by dsimp only; omega) ⟨by dsimp only; omega, by dsimp only; omega, hTy, hFR, kmo⟩ hP hD hS (lv_sub hl [0, 8, 7, 6, 5, 4, 3, 2, 1, 11, 12] rfl)
    · have p84 : ¬ (64 ≤ z81) := (fun q9 => c84 ((nI_leI (a := 64) (b := z81) (by omega) (by omega)).mpr q9))
      refine lv_aload_n hx hb d_Model_compress_87 rfl (lv_at hl 1 rfl) ?_
      obtain ⟨i_30, hg_30⟩ := List.getElem?_of_mem kmo.2
      rw [eX_mo] at hg_30
      refine va_get (v := .ref mwA) hx hb htb i_Model hown hK hP i_30 hg_30 rfl 12 (by decide) (htb _ q7_226) (fun _ h9 => h9) rfl d_Model_compress_88 ?_
      refine lv_iload_n hx hb d_Model_compress_91 rfl (lv_at hl 0 rfl) ?_
      refine lv_bipush (v := 15) hx hb d_Model_compress_92 (by decide) ?_
      refine lv_isub hx hb d_Model_compress_94 ?_
      rw [show ((nI z81) - 15 : Int32) = nI (z81 - 15) from pk_sub (a := z81) (b := 15) (by omega)]
      obtain ⟨i_31, f_31, hn_31, hg_31⟩ := tr_6 hTy kmwA
      have h95 : vp_in (nI (z81 - 15)) 64 := vp_in_nI (by omega) (by omega)
      refine va_iald hx hb hK hP i_31 1 hg_31 rfl h95 d_Model_compress_95 ?_
      refine lv_topi (fun e95 he95 => ?_)
      refine lv_istore_n (lv' := [(3, .int e95), (2, .int (nI z81)), (0, .ref mo), (1, .int (nI a1))]) hx hb d_Model_compress_96 rfl hl (by decide) rfl (fun ls hl => ?_)
      refine lv_aload_n hx hb d_Model_compress_97 rfl (lv_at hl 2 rfl) ?_
      refine va_get (v := .ref mwA) hx hb htb i_Model hown hK hP i_30 hg_30 rfl 12 (by decide) (htb _ q7_226) (fun _ h9 => h9) rfl d_Model_compress_98 ?_
      refine lv_iload_n hx hb d_Model_compress_101 rfl (lv_at hl 1 rfl) ?_
      refine lv_iconst (v := 2) hx hb d_Model_compress_102 (by decide) ?_
      refine lv_isub hx hb d_Model_compress_103 ?_
      rw [show ((nI z81) - 2 : Int32) = nI (z81 - 2) from pk_sub (a := z81) (b := 2) (by omega)]
      have h104 : vp_in (nI (z81 - 2)) 64 := vp_in_nI (by omega) (by omega)
      refine va_iald hx hb hK hP i_31 1 hg_31 rfl h104 d_Model_compress_104 ?_
      refine lv_topi (fun e104 he104 => ?_)
      refine lv_istore (lv' := [(4, .int e104), (3, .int e95), (2, .int (nI z81)), (0, .ref mo), (1, .int (nI a1))]) hx hb d_Model_compress_105 hl (by decide) rfl (fun ls hl => ?_)
      refine lv_aload_n hx hb d_Model_compress_107 rfl (lv_at hl 3 rfl) ?_
      refine va_get (v := .ref mwA) hx hb htb i_Model hown hK hP i_30 hg_30 rfl 12 (by decide) (htb _ q7_226) (fun _ h9 => h9) rfl d_Model_compress_108 ?_
      refine lv_iload_n hx hb d_Model_compress_111 rfl (lv_at hl 2 rfl) ?_
      refine lv_aload_n hx hb d_Model_compress_112 rfl (lv_at hl 3 rfl) ?_
      refine va_get (v := .ref mwA) hx hb htb i_Model hown hK hP i_30 hg_30 rfl 12 (by decide) (htb _ q7_226) (fun _ h9 => h9) rfl d_Model_compress_113 ?_
      refine lv_iload_n hx hb d_Model_compress_116 rfl (lv_at hl 2 rfl) ?_
      refine lv_bipush (v := 16) hx hb d_Model_compress_117 (by decide) ?_
      refine lv_isub hx hb d_Model_compress_119 ?_
      rw [show ((nI z81) - 16 : Int32) = nI (z81 - 16) from pk_sub (a := z81) (b := 16) (by omega)]
      have h120 : vp_in (nI (z81 - 16)) 64 := vp_in_nI (by omega) (by omega)
      refine va_iald hx hb hK hP i_31 1 hg_31 rfl h120 d_Model_compress_120 ?_
      refine lv_topi (fun e120 he120 => ?_)
      refine lv_iload_n hx hb d_Model_compress_121 rfl (lv_at hl 1 rfl) ?_
      refine lv_bipush (v := 7) hx hb d_Model_compress_122 (by decide) ?_
      refine vp_callSi (pu_callS (As := [.int e95, .int 7]) (rest := [.int e120, .int (nI z81), .ref mwA]) ⟨hx, hb, hml, hown, hts⟩ tbin (c_Model_turn l dC dI sb e95 (7 : Int32)) q9_89 q9_90 q1_9 q9_91 (n := 2) (by decide +kernel) rfl ⟨rfl, rfl⟩ ⟨Nat.le_of_ble_eq_true rfl, Nat.le_of_ble_eq_true rfl⟩ ⟨Nat.le_of_ble_eq_true rfl, Nat.le_of_ble_eq_true rfl⟩ hN (hT0.keep hS hAs) hK hP [] (by simp only [List.filterMap_cons, List.filterMap_nil]) [] rfl hl.1 rfl (Nat.le_of_ble_eq_true rfl) d_Model_compress_124) (fun r124 hr124 => ?_)
      refine lv_iload_n hx hb d_Model_compress_127 rfl (lv_at hl 1 rfl) ?_
      refine lv_bipush (v := 18) hx hb d_Model_compress_128 (by decide) ?_
      refine vp_callSi (pu_callS (As := [.int e95, .int 18]) (rest := [.int r124, .int e120, .int (nI z81), .ref mwA]) ⟨hx, hb, hml, hown, hts⟩ tbin (c_Model_turn l dC dI sb e95 (18 : Int32)) q9_89 q9_90 q1_9 q9_91 (n := 2) (by decide +kernel) rfl ⟨rfl, rfl⟩ ⟨Nat.le_of_ble_eq_true rfl, Nat.le_of_ble_eq_true rfl⟩ ⟨Nat.le_of_ble_eq_true rfl, Nat.le_of_ble_eq_true rfl⟩ hN (hT0.keep hS hAs) hK hP [] (by simp only [List.filterMap_cons, List.filterMap_nil]) [] rfl hl.1 rfl (Nat.le_of_ble_eq_true rfl) d_Model_compress_130) (fun r130 hr130 => ?_)
      refine lv_ixor hx hb d_Model_compress_133 ?_
      refine lv_iload_n hx hb d_Model_compress_134 rfl (lv_at hl 1 rfl) ?_
      refine lv_iconst (v := 3) hx hb d_Model_compress_135 (by decide) ?_
      refine lv_iushr (v := (e95.toUInt32 >>> ((3 : Int32).toUInt32 &&& Int32.toUInt32 31)).toInt32) hx hb d_Model_compress_136 rfl ?_
      refine lv_ixor hx hb d_Model_compress_137 ?_
      refine lv_iadd hx hb d_Model_compress_138 ?_
      refine lv_aload_n hx hb d_Model_compress_139 rfl (lv_at hl 3 rfl) ?_
      refine va_get (v := .ref mwA) hx hb htb i_Model hown hK hP i_30 hg_30 rfl 12 (by decide) (htb _ q7_226) (fun _ h9 => h9) rfl d_Model_compress_140 ?_
      refine lv_iload_n hx hb d_Model_compress_143 rfl (lv_at hl 2 rfl) ?_
      refine lv_bipush (v := 7) hx hb d_Model_compress_144 (by decide) ?_
      refine lv_isub hx hb d_Model_compress_146 ?_
      rw [show ((nI z81) - 7 : Int32) = nI (z81 - 7) from pk_sub (a := z81) (b := 7) (by omega)]
      have h147 : vp_in (nI (z81 - 7)) 64 := vp_in_nI (by omega) (by omega)
      refine va_iald hx hb hK hP i_31 1 hg_31 rfl h147 d_Model_compress_147 ?_
      refine lv_topi (fun e147 he147 => ?_)
      refine lv_iadd hx hb d_Model_compress_148 ?_
      refine lv_iload hx hb d_Model_compress_149 (lv_at hl 0 rfl) ?_
      refine lv_bipush (v := 17) hx hb d_Model_compress_151 (by decide) ?_
      refine vp_callSi (pu_callS (As := [.int e104, .int 17]) (rest := [.int ((e120 + ((r124 ^^^ r130) ^^^ ((e95.toUInt32 >>> ((3 : Int32).toUInt32 &&& Int32.toUInt32 31)).toInt32))) + e147), .int (nI z81), .ref mwA]) ⟨hx, hb, hml, hown, hts⟩ tbin (c_Model_turn l dC dI sb e104 (17 : Int32)) q9_89 q9_90 q1_9 q9_91 (n := 2) (by decide +kernel) rfl ⟨rfl, rfl⟩ ⟨Nat.le_of_ble_eq_true rfl, Nat.le_of_ble_eq_true rfl⟩ ⟨Nat.le_of_ble_eq_true rfl, Nat.le_of_ble_eq_true rfl⟩ hN (hT0.keep hS hAs) hK hP [] (by simp only [List.filterMap_cons, List.filterMap_nil]) [] rfl hl.1 rfl (Nat.le_of_ble_eq_true rfl) d_Model_compress_153) (fun r153 hr153 => ?_)
      refine lv_iload hx hb d_Model_compress_156 (lv_at hl 0 rfl) ?_
      refine lv_bipush (v := 19) hx hb d_Model_compress_158 (by decide) ?_
      refine vp_callSi (pu_callS (As := [.int e104, .int 19]) (rest := [.int r153, .int ((e120 + ((r124 ^^^ r130) ^^^ ((e95.toUInt32 >>> ((3 : Int32).toUInt32 &&& Int32.toUInt32 31)).toInt32))) + e147), .int (nI z81), .ref mwA]) ⟨hx, hb, hml, hown, hts⟩ tbin (c_Model_turn l dC dI sb e104 (19 : Int32)) q9_89 q9_90 q1_9 q9_91 (n := 2) (by decide +kernel) rfl ⟨rfl, rfl⟩ ⟨Nat.le_of_ble_eq_true rfl, Nat.le_of_ble_eq_true rfl⟩ ⟨Nat.le_of_ble_eq_true rfl, Nat.le_of_ble_eq_true rfl⟩ hN (hT0.keep hS hAs) hK hP [] (by simp only [List.filterMap_cons, List.filterMap_nil]) [] rfl hl.1 rfl (Nat.le_of_ble_eq_true rfl) d_Model_compress_160) (fun r160 hr160 => ?_)
      refine lv_ixor hx hb d_Model_compress_163 ?_
      refine lv_iload hx hb d_Model_compress_164 (lv_at hl 0 rfl) ?_
      refine lv_bipush (v := 10) hx hb d_Model_compress_166 (by decide) ?_
      refine lv_iushr (v := (e104.toUInt32 >>> ((10 : Int32).toUInt32 &&& Int32.toUInt32 31)).toInt32) hx hb d_Model_compress_168 rfl ?_
      refine lv_ixor hx hb d_Model_compress_169 ?_
      refine lv_iadd hx hb d_Model_compress_170 ?_
      have h171 : vp_in (nI z81) 64 := vp_in_nI (by omega) (by omega)
      refine va_iast hx hb hK hP hD hS i_31 1 hg_31 rfl h171 d_Model_compress_171 (fun H171 locs hP hD2 hS => ?_)
      have hP : va_P (dC, dI) classes (G81.set i_31 (mwA, .inl (γ.2.1, 64, .inl (upd f_31 (nI z81).toNatClampNeg (((e120 + ((r124 ^^^ r130) ^^^ ((e95.toUInt32 >>> ((3 : Int32).toUInt32 &&& Int32.toUInt32 31)).toInt32))) + e147) + ((r153 ^^^ r160) ^^^ ((e104.toUInt32 >>> ((10 : Int32).toUInt32 &&& Int32.toUInt32 31)).toInt32))))))) H171 := hP
      have hD3 : va_D A (G81.set i_31 (mwA, .inl (γ.2.1, 64, .inl (upd f_31 (nI z81).toNatClampNeg (((e120 + ((r124 ^^^ r130) ^^^ ((e95.toUInt32 >>> ((3 : Int32).toUInt32 &&& Int32.toUInt32 31)).toInt32))) + e147) + ((r153 ^^^ r160) ^^^ ((e104.toUInt32 >>> ((10 : Int32).toUInt32 &&& Int32.toUInt32 31)).toInt32))))))) := hD2
      have hF1 := FR.set (c' := .inl (γ.2.1, 64, .inl (upd f_31 (nI z81).toNatClampNeg (((e120 + ((r124 ^^^ r130) ^^^ ((e95.toUInt32 >>> ((3 : Int32).toUInt32 &&& Int32.toUInt32 31)).toInt32))) + e147) + ((r153 ^^^ r160) ^^^ ((e104.toUInt32 >>> ((10 : Int32).toUInt32 &&& Int32.toUInt32 31)).toInt32)))))) hg_31 kmwA.1
      have kmo := kmo.fr hF1
      have hFR := hFR.tr hF1.l
      clear hF1
      have hTy := TR.set (c' := .inl (γ.2.1, 64, .inl (upd f_31 (nI z81).toNatClampNeg (((e120 + ((r124 ^^^ r130) ^^^ ((e95.toUInt32 >>> ((3 : Int32).toUInt32 &&& Int32.toUInt32 31)).toInt32))) + e147) + ((r153 ^^^ r160) ^^^ ((e104.toUInt32 >>> ((10 : Int32).toUInt32 &&& Int32.toUInt32 31)).toInt32)))))) hTy hg_31 (okr_6 kmwA hn_31 _)
      have hD := hD3
      clear hD3 hD2
      generalize G81.set i_31 (mwA, .inl (γ.2.1, 64, .inl (upd f_31 (nI z81).toNatClampNeg (((e120 + ((r124 ^^^ r130) ^^^ ((e95.toUInt32 >>> ((3 : Int32).toUInt32 &&& Int32.toUInt32 31)).toInt32))) + e147) + ((r153 ^^^ r160) ^^^ ((e104.toUInt32 >>> ((10 : Int32).toUInt32 &&& Int32.toUInt32 31)).toInt32)))))) = G_32 at hP hD hTy hFR kmo 
      refine lv_iinc (v := nI (z81 + 1)) (lv' := [(2, .int (nI (z81 + 1))), (4, .int e104), (3, .int e95), (0, .ref mo), (1, .int (nI a1))]) hx hb d_Model_compress_172 hl (k := 2) rfl (nI_1 _) (by decide) rfl (fun ls hl => ?_)
      refine lv_goto (tgt := 81) hx hb d_Model_compress_175 (by decide) ?_
      exact ih81 (z81 + 1, G_32) _ _ ls (by dsimp only; omega) ⟨by dsimp only; omega, by dsimp only; omega, hTy, hFR, kmo⟩ hP hD hS (lv_sub hl [0, 3, 4] rfl)
  · have p5 : ¬ (16 ≤ z2) := (fun q9 => c5 ((nI_leI (a := 16) (b := z2) (by omega) (by omega)).mpr q9))
    refine lv_aload_n hx hb d_Model_compress_8 rfl (lv_at hl 1 rfl) ?_
    obtain ⟨i_33, hg_33⟩ := List.getElem?_of_mem kmo.2
    rw [eX_mo] at hg_33
    refine va_get (v := .ref mwA) hx hb htb i_Model hown hK hP i_33 hg_33 rfl 12 (by decide) (htb _ q7_226) (fun _ h9 => h9) rfl d_Model_compress_9 ?_
    refine lv_iload_n hx hb d_Model_compress_12 rfl (lv_at hl 0 rfl) ?_
    refine lv_aload_n hx hb d_Model_compress_13 rfl (lv_at hl 1 rfl) ?_
    refine va_get (v := .ref mbA) hx hb htb i_Model hown hK hP i_33 hg_33 rfl 11 (by decide) (htb _ q7_225) (fun _ h9 => h9) rfl d_Model_compress_14 ?_
    refine lv_iload_n hx hb d_Model_compress_17 rfl (lv_at hl 2 rfl) ?_
    refine lv_iconst (v := 4) hx hb d_Model_compress_18 (by decide) ?_
    refine lv_iload_n hx hb d_Model_compress_19 rfl (lv_at hl 0 rfl) ?_
    refine lv_imul hx hb d_Model_compress_20 ?_
    rw [show (4 * (nI z2) : Int32) = nI (4 * z2) from nI_mul 4 z2]
    refine lv_iadd hx hb d_Model_compress_21 ?_
    rw [show ((nI a1) + (nI (4 * z2)) : Int32) = nI (a1 + (4 * z2)) from nI_add a1 (4 * z2)]
    obtain ⟨i_34, f_34, hn_34, hg_34⟩ := tr_6 hTy kmbA
    have h22 : vp_in (nI (a1 + (4 * z2))) 2176 := vp_in_nI (by omega) (by omega)
    refine va_iald hx hb hK hP i_34 1 hg_34 rfl h22 d_Model_compress_22 ?_
    refine lv_topi (fun e22 he22 => ?_)
    refine lv_bipush (v := 24) hx hb d_Model_compress_23 (by decide) ?_
    refine lv_ishl hx hb d_Model_compress_25 ?_
    refine lv_aload_n hx hb d_Model_compress_26 rfl (lv_at hl 1 rfl) ?_
    refine va_get (v := .ref mbA) hx hb htb i_Model hown hK hP i_33 hg_33 rfl 11 (by decide) (htb _ q7_225) (fun _ h9 => h9) rfl d_Model_compress_27 ?_
    refine lv_iload_n hx hb d_Model_compress_30 rfl (lv_at hl 2 rfl) ?_
    refine lv_iconst (v := 4) hx hb d_Model_compress_31 (by decide) ?_
    refine lv_iload_n hx hb d_Model_compress_32 rfl (lv_at hl 0 rfl) ?_
    refine lv_imul hx hb d_Model_compress_33 ?_
    rw [show (4 * (nI z2) : Int32) = nI (4 * z2) from nI_mul 4 z2]
    refine lv_iadd hx hb d_Model_compress_34 ?_
    rw [show ((nI a1) + (nI (4 * z2)) : Int32) = nI (a1 + (4 * z2)) from nI_add a1 (4 * z2)]
    refine lv_iconst (v := 1) hx hb d_Model_compress_35 (by decide) ?_
    refine lv_iadd hx hb d_Model_compress_36 ?_
    rw [show ((nI (a1 + (4 * z2))) + 1 : Int32) = nI ((a1 + (4 * z2)) + 1) from nI_add (a1 + (4 * z2)) 1]
    have h37 : vp_in (nI ((a1 + (4 * z2)) + 1)) 2176 := vp_in_nI (by omega) (by omega)
    refine va_iald hx hb hK hP i_34 1 hg_34 rfl h37 d_Model_compress_37 ?_
    refine lv_topi (fun e37 he37 => ?_)
    refine lv_bipush (v := 16) hx hb d_Model_compress_38 (by decide) ?_
    refine lv_ishl hx hb d_Model_compress_40 ?_
    refine lv_ior hx hb d_Model_compress_41 ?_
    refine lv_aload_n hx hb d_Model_compress_42 rfl (lv_at hl 1 rfl) ?_
    refine va_get (v := .ref mbA) hx hb htb i_Model hown hK hP i_33 hg_33 rfl 11 (by decide) (htb _ q7_225) (fun _ h9 => h9) rfl d_Model_compress_43 ?_
    refine lv_iload_n hx hb d_Model_compress_46 rfl (lv_at hl 2 rfl) ?_
    refine lv_iconst (v := 4) hx hb d_Model_compress_47 (by decide) ?_
    refine lv_iload_n hx hb d_Model_compress_48 rfl (lv_at hl 0 rfl) ?_
    refine lv_imul hx hb d_Model_compress_49 ?_
    rw [show (4 * (nI z2) : Int32) = nI (4 * z2) from nI_mul 4 z2]
    refine lv_iadd hx hb d_Model_compress_50 ?_
    rw [show ((nI a1) + (nI (4 * z2)) : Int32) = nI (a1 + (4 * z2)) from nI_add a1 (4 * z2)]
    refine lv_iconst (v := 2) hx hb d_Model_compress_51 (by decide) ?_
    refine lv_iadd hx hb d_Model_compress_52 ?_
    rw [show ((nI (a1 + (4 * z2))) + 2 : Int32) = nI ((a1 + (4 * z2)) + 2) from nI_add (a1 + (4 * z2)) 2]
    have h53 : vp_in (nI ((a1 + (4 * z2)) + 2)) 2176 := vp_in_nI (by omega) (by omega)
    refine va_iald hx hb hK hP i_34 1 hg_34 rfl h53 d_Model_compress_53 ?_
    refine lv_topi (fun e53 he53 => ?_)
    refine lv_bipush (v := 8) hx hb d_Model_compress_54 (by decide) ?_
    refine lv_ishl hx hb d_Model_compress_56 ?_
    refine lv_ior hx hb d_Model_compress_57 ?_
    refine lv_aload_n hx hb d_Model_compress_58 rfl (lv_at hl 1 rfl) ?_
    refine va_get (v := .ref mbA) hx hb htb i_Model hown hK hP i_33 hg_33 rfl 11 (by decide) (htb _ q7_225) (fun _ h9 => h9) rfl d_Model_compress_59 ?_
    refine lv_iload_n hx hb d_Model_compress_62 rfl (lv_at hl 2 rfl) ?_
    refine lv_iconst (v := 4) hx hb d_Model_compress_63 (by decide) ?_
    refine lv_iload_n hx hb d_Model_compress_64 rfl (lv_at hl 0 rfl) ?_
    refine lv_imul hx hb d_Model_compress_65 ?_
    rw [show (4 * (nI z2) : Int32) = nI (4 * z2) from nI_mul 4 z2]
    refine lv_iadd hx hb d_Model_compress_66 ?_
    rw [show ((nI a1) + (nI (4 * z2)) : Int32) = nI (a1 + (4 * z2)) from nI_add a1 (4 * z2)]
    refine lv_iconst (v := 3) hx hb d_Model_compress_67 (by decide) ?_
    refine lv_iadd hx hb d_Model_compress_68 ?_
    rw [show ((nI (a1 + (4 * z2))) + 3 : Int32) = nI ((a1 + (4 * z2)) + 3) from nI_add (a1 + (4 * z2)) 3]
    have h69 : vp_in (nI ((a1 + (4 * z2)) + 3)) 2176 := vp_in_nI (by omega) (by omega)
    refine va_iald hx hb hK hP i_34 1 hg_34 rfl h69 d_Model_compress_69 ?_
    refine lv_topi (fun e69 he69 => ?_)
    refine lv_ior hx hb d_Model_compress_70 ?_
    obtain ⟨i_35, f_35, hn_35, hg_35⟩ := tr_6 hTy kmwA
    have h71 : vp_in (nI z2) 64 := vp_in_nI (by omega) (by omega)
    refine va_iast hx hb hK hP hD hS i_35 1 hg_35 rfl h71 d_Model_compress_71 (fun H71 locs hP hD2 hS => ?_)
    have hP : va_P (dC, dI) classes (G2.set i_35 (mwA, .inl (γ.2.1, 64, .inl (upd f_35 (nI z2).toNatClampNeg ((((e22 <<< (24 &&& 31)) ||| (e37 <<< (16 &&& 31))) ||| (e53 <<< (8 &&& 31))) ||| e69))))) H71 := hP
    have hD3 : va_D A (G2.set i_35 (mwA, .inl (γ.2.1, 64, .inl (upd f_35 (nI z2).toNatClampNeg ((((e22 <<< (24 &&& 31)) ||| (e37 <<< (16 &&& 31))) ||| (e53 <<< (8 &&& 31))) ||| e69))))) := hD2
    have hF1 := FR.set (c' := .inl (γ.2.1, 64, .inl (upd f_35 (nI z2).toNatClampNeg ((((e22 <<< (24 &&& 31)) ||| (e37 <<< (16 &&& 31))) ||| (e53 <<< (8 &&& 31))) ||| e69)))) hg_35 kmwA.1
    have kmo := kmo.fr hF1
    have hFR := hFR.tr hF1.l
    clear hF1
    have hTy := TR.set (c' := .inl (γ.2.1, 64, .inl (upd f_35 (nI z2).toNatClampNeg ((((e22 <<< (24 &&& 31)) ||| (e37 <<< (16 &&& 31))) ||| (e53 <<< (8 &&& 31))) ||| e69)))) hTy hg_35 (okr_6 kmwA hn_35 _)
    have hD := hD3
    clear hD3 hD2
    generalize G2.set i_35 (mwA, .inl (γ.2.1, 64, .inl (upd f_35 (nI z2).toNatClampNeg ((((e22 <<< (24 &&& 31)) ||| (e37 <<< (16 &&& 31))) ||| (e53 <<< (8 &&& 31))) ||| e69)))) = G_36 at hP hD hTy hFR kmo 
    refine lv_iinc (v := nI (z2 + 1)) (lv' := [(2, .int (nI (z2 + 1))), (0, .ref mo), (1, .int (nI a1))]) hx hb d_Model_compress_72 hl (k := 0) rfl (nI_1 _) (by decide) rfl (fun ls hl => ?_)
    refine lv_goto (tgt := 2) hx hb d_Model_compress_75 (by decide) ?_
    exact ih2 (z2 + 1, G_36) _ _ ls (by dsimp only; omega) ⟨by dsimp only; omega, by dsimp only; omega, hTy, hFR, kmo⟩ hP hD hS (lv_sub hl [0, 1, 2] rfl)
def y_Model_digest1 : MethodName := ⟨"TrustChainModel", "digest", "(LTrustChainModel$Text;)V"⟩
abbrev b_Model_digest1 : ByteArray := prog_14_method_23_code
def w_Model_digest1 : List Cond := Cond.code y_Model_digest1 b_Model_digest1 5 (none) :: tb
theorem d_Model_digest1_0 : decode b_Model_digest1 0 = .ok (.iconst 0, 1) := by decide +kernel
theorem d_Model_digest1_1 : decode b_Model_digest1 1 = .ok (.istore_n 2, 1) := by decide +kernel
theorem d_Model_digest1_2 : decode b_Model_digest1 2 = .ok (.aload_n 1, 1) := by decide +kernel
theorem d_Model_digest1_3 : decode b_Model_digest1 3 = .ok (.getfield 258, 3) := by decide +kernel
theorem d_Model_digest1_6 : decode b_Model_digest1 6 = .ok (.istore_n 3, 1) := by decide +kernel
theorem d_Model_digest1_7 : decode b_Model_digest1 7 = .ok (.iload_n 3, 1) := by decide +kernel
theorem d_Model_digest1_8 : decode b_Model_digest1 8 = .ok (.aload_n 1, 1) := by decide +kernel
theorem d_Model_digest1_9 : decode b_Model_digest1 9 = .ok (.getfield 261, 3) := by decide +kernel
theorem d_Model_digest1_12 : decode b_Model_digest1 12 = .ok (.if_icmp .ge 24, 3) := by decide +kernel
theorem d_Model_digest1_15 : decode b_Model_digest1 15 = .ok (.aload_n 0, 1) := by decide +kernel
theorem d_Model_digest1_16 : decode b_Model_digest1 16 = .ok (.getfield 34, 3) := by decide +kernel
theorem d_Model_digest1_19 : decode b_Model_digest1 19 = .ok (.iload_n 2, 1) := by decide +kernel
theorem d_Model_digest1_20 : decode b_Model_digest1 20 = .ok (.iinc 2 1, 3) := by decide +kernel
theorem d_Model_digest1_23 : decode b_Model_digest1 23 = .ok (.aload_n 1, 1) := by decide +kernel
theorem d_Model_digest1_24 : decode b_Model_digest1 24 = .ok (.getfield 189, 3) := by decide +kernel
theorem d_Model_digest1_27 : decode b_Model_digest1 27 = .ok (.iload_n 3, 1) := by decide +kernel
theorem d_Model_digest1_28 : decode b_Model_digest1 28 = .ok (.iaload, 1) := by decide +kernel
theorem d_Model_digest1_29 : decode b_Model_digest1 29 = .ok (.iastore, 1) := by decide +kernel
theorem d_Model_digest1_30 : decode b_Model_digest1 30 = .ok (.iinc 3 1, 3) := by decide +kernel
theorem d_Model_digest1_33 : decode b_Model_digest1 33 = .ok (.goto (-26), 3) := by decide +kernel
theorem d_Model_digest1_36 : decode b_Model_digest1 36 = .ok (.bipush 8, 2) := by decide +kernel
theorem d_Model_digest1_38 : decode b_Model_digest1 38 = .ok (.iload_n 2, 1) := by decide +kernel
theorem d_Model_digest1_39 : decode b_Model_digest1 39 = .ok (.imul, 1) := by decide +kernel
theorem d_Model_digest1_40 : decode b_Model_digest1 40 = .ok (.istore_n 3, 1) := by decide +kernel
theorem d_Model_digest1_41 : decode b_Model_digest1 41 = .ok (.aload_n 0, 1) := by decide +kernel
theorem d_Model_digest1_42 : decode b_Model_digest1 42 = .ok (.getfield 34, 3) := by decide +kernel
theorem d_Model_digest1_45 : decode b_Model_digest1 45 = .ok (.iload_n 2, 1) := by decide +kernel
theorem d_Model_digest1_46 : decode b_Model_digest1 46 = .ok (.iinc 2 1, 3) := by decide +kernel
theorem d_Model_digest1_49 : decode b_Model_digest1 49 = .ok (.sipush 128, 3) := by decide +kernel
theorem d_Model_digest1_52 : decode b_Model_digest1 52 = .ok (.iastore, 1) := by decide +kernel
theorem d_Model_digest1_53 : decode b_Model_digest1 53 = .ok (.iload_n 2, 1) := by decide +kernel
theorem d_Model_digest1_54 : decode b_Model_digest1 54 = .ok (.bipush 64, 2) := by decide +kernel
theorem d_Model_digest1_56 : decode b_Model_digest1 56 = .ok (.irem, 1) := by decide +kernel
theorem d_Model_digest1_57 : decode b_Model_digest1 57 = .ok (.bipush 56, 2) := by decide +kernel
theorem d_Model_digest1_59 : decode b_Model_digest1 59 = .ok (.if_icmp .eq 16, 3) := by decide +kernel
theorem d_Model_digest1_62 : decode b_Model_digest1 62 = .ok (.aload_n 0, 1) := by decide +kernel
theorem d_Model_digest1_63 : decode b_Model_digest1 63 = .ok (.getfield 34, 3) := by decide +kernel
theorem d_Model_digest1_66 : decode b_Model_digest1 66 = .ok (.iload_n 2, 1) := by decide +kernel
theorem d_Model_digest1_67 : decode b_Model_digest1 67 = .ok (.iinc 2 1, 3) := by decide +kernel
theorem d_Model_digest1_70 : decode b_Model_digest1 70 = .ok (.iconst 0, 1) := by decide +kernel
theorem d_Model_digest1_71 : decode b_Model_digest1 71 = .ok (.iastore, 1) := by decide +kernel
theorem d_Model_digest1_72 : decode b_Model_digest1 72 = .ok (.goto (-19), 3) := by decide +kernel
theorem d_Model_digest1_75 : decode b_Model_digest1 75 = .ok (.iconst 0, 1) := by decide +kernel
theorem d_Model_digest1_76 : decode b_Model_digest1 76 = .ok (.istore 4, 2) := by decide +kernel
theorem d_Model_digest1_78 : decode b_Model_digest1 78 = .ok (.iload 4, 2) := by decide +kernel
theorem d_Model_digest1_80 : decode b_Model_digest1 80 = .ok (.iconst 4, 1) := by decide +kernel
theorem d_Model_digest1_81 : decode b_Model_digest1 81 = .ok (.if_icmp .ge 19, 3) := by decide +kernel
theorem d_Model_digest1_84 : decode b_Model_digest1 84 = .ok (.aload_n 0, 1) := by decide +kernel
theorem d_Model_digest1_85 : decode b_Model_digest1 85 = .ok (.getfield 34, 3) := by decide +kernel
theorem d_Model_digest1_88 : decode b_Model_digest1 88 = .ok (.iload_n 2, 1) := by decide +kernel
theorem d_Model_digest1_89 : decode b_Model_digest1 89 = .ok (.iinc 2 1, 3) := by decide +kernel
theorem d_Model_digest1_92 : decode b_Model_digest1 92 = .ok (.iconst 0, 1) := by decide +kernel
theorem d_Model_digest1_93 : decode b_Model_digest1 93 = .ok (.iastore, 1) := by decide +kernel
theorem d_Model_digest1_94 : decode b_Model_digest1 94 = .ok (.iinc 4 1, 3) := by decide +kernel
theorem d_Model_digest1_97 : decode b_Model_digest1 97 = .ok (.goto (-19), 3) := by decide +kernel
theorem d_Model_digest1_100 : decode b_Model_digest1 100 = .ok (.bipush 24, 2) := by decide +kernel
theorem d_Model_digest1_102 : decode b_Model_digest1 102 = .ok (.istore 4, 2) := by decide +kernel
theorem d_Model_digest1_104 : decode b_Model_digest1 104 = .ok (.iload 4, 2) := by decide +kernel
theorem d_Model_digest1_106 : decode b_Model_digest1 106 = .ok (.ifCond .lt 26, 3) := by decide +kernel
theorem d_Model_digest1_109 : decode b_Model_digest1 109 = .ok (.aload_n 0, 1) := by decide +kernel
theorem d_Model_digest1_110 : decode b_Model_digest1 110 = .ok (.getfield 34, 3) := by decide +kernel
theorem d_Model_digest1_113 : decode b_Model_digest1 113 = .ok (.iload_n 2, 1) := by decide +kernel
theorem d_Model_digest1_114 : decode b_Model_digest1 114 = .ok (.iinc 2 1, 3) := by decide +kernel
theorem d_Model_digest1_117 : decode b_Model_digest1 117 = .ok (.iload_n 3, 1) := by decide +kernel
theorem d_Model_digest1_118 : decode b_Model_digest1 118 = .ok (.iload 4, 2) := by decide +kernel
theorem d_Model_digest1_120 : decode b_Model_digest1 120 = .ok (.ishr, 1) := by decide +kernel
theorem d_Model_digest1_121 : decode b_Model_digest1 121 = .ok (.sipush 255, 3) := by decide +kernel
theorem d_Model_digest1_124 : decode b_Model_digest1 124 = .ok (.iand, 1) := by decide +kernel
theorem d_Model_digest1_125 : decode b_Model_digest1 125 = .ok (.iastore, 1) := by decide +kernel
theorem d_Model_digest1_126 : decode b_Model_digest1 126 = .ok (.iinc 4 (-8), 3) := by decide +kernel
theorem d_Model_digest1_129 : decode b_Model_digest1 129 = .ok (.goto (-25), 3) := by decide +kernel
theorem d_Model_digest1_132 : decode b_Model_digest1 132 = .ok (.iconst 0, 1) := by decide +kernel
theorem d_Model_digest1_133 : decode b_Model_digest1 133 = .ok (.istore 4, 2) := by decide +kernel
theorem d_Model_digest1_135 : decode b_Model_digest1 135 = .ok (.iload 4, 2) := by decide +kernel
theorem d_Model_digest1_137 : decode b_Model_digest1 137 = .ok (.bipush 8, 2) := by decide +kernel
theorem d_Model_digest1_139 : decode b_Model_digest1 139 = .ok (.if_icmp .ge 23, 3) := by decide +kernel
theorem d_Model_digest1_142 : decode b_Model_digest1 142 = .ok (.aload_n 0, 1) := by decide +kernel
theorem d_Model_digest1_143 : decode b_Model_digest1 143 = .ok (.getfield 40, 3) := by decide +kernel
theorem d_Model_digest1_146 : decode b_Model_digest1 146 = .ok (.iload 4, 2) := by decide +kernel
theorem d_Model_digest1_148 : decode b_Model_digest1 148 = .ok (.aload_n 0, 1) := by decide +kernel
theorem d_Model_digest1_149 : decode b_Model_digest1 149 = .ok (.getfield 51, 3) := by decide +kernel
theorem d_Model_digest1_152 : decode b_Model_digest1 152 = .ok (.iload 4, 2) := by decide +kernel
theorem d_Model_digest1_154 : decode b_Model_digest1 154 = .ok (.iaload, 1) := by decide +kernel
theorem d_Model_digest1_155 : decode b_Model_digest1 155 = .ok (.iastore, 1) := by decide +kernel
theorem d_Model_digest1_156 : decode b_Model_digest1 156 = .ok (.iinc 4 1, 3) := by decide +kernel
theorem d_Model_digest1_159 : decode b_Model_digest1 159 = .ok (.goto (-24), 3) := by decide +kernel
theorem d_Model_digest1_162 : decode b_Model_digest1 162 = .ok (.iconst 0, 1) := by decide +kernel
theorem d_Model_digest1_163 : decode b_Model_digest1 163 = .ok (.istore 4, 2) := by decide +kernel
theorem d_Model_digest1_165 : decode b_Model_digest1 165 = .ok (.iload 4, 2) := by decide +kernel
theorem d_Model_digest1_167 : decode b_Model_digest1 167 = .ok (.iload_n 2, 1) := by decide +kernel
theorem d_Model_digest1_168 : decode b_Model_digest1 168 = .ok (.if_icmp .ge 15, 3) := by decide +kernel
theorem d_Model_digest1_171 : decode b_Model_digest1 171 = .ok (.aload_n 0, 1) := by decide +kernel
theorem d_Model_digest1_172 : decode b_Model_digest1 172 = .ok (.iload 4, 2) := by decide +kernel
theorem d_Model_digest1_174 : decode b_Model_digest1 174 = .ok (.invokevirtual 264, 3) := by decide +kernel
theorem d_Model_digest1_177 : decode b_Model_digest1 177 = .ok (.iinc 4 64, 3) := by decide +kernel
theorem d_Model_digest1_180 : decode b_Model_digest1 180 = .ok (.goto (-15), 3) := by decide +kernel
theorem d_Model_digest1_183 : decode b_Model_digest1 183 = .ok (.return_, 1) := by decide +kernel
set_option maxHeartbeats 4000000 in
set_option maxRecDepth 100000 in
theorem m_Model_digest1 (l : Launch) (dC : Nat → ClassId) (dI : Nat → Nat → Nat) (sb : sB) (γ : cG) (κ : kE) (Ad : List Nat) (τ : Nat → TD) (gT : ClassId) (G : va_W) (mo t : Nat) (moc msT mrV msP mrA mbA mwA mhA mfA mpA mxA myA mmA mqA mzA mwy mfd : Nat) (mer mfed mwr mct mls mqs msz mcz mch mft mpt mdp mvd mmk : Int32) (mnw : Int64) (sz : Nat) (hTy : TR γ κ Ad τ G) (kmo : Xc Ad mo (.inr (12, (.int mer :: .int mfed :: .int mwr :: .int mct :: .int mls :: .ref moc :: .ref msT :: .ref mrV :: .ref msP :: .int mqs :: .ref mrA :: .ref mbA :: .ref mwA :: .ref mhA :: .ref mfA :: .ref mpA :: .ref mxA :: .ref myA :: .ref mmA :: .ref mqA :: .ref mzA :: .ref mwy :: .ref mfd :: .int msz :: .int mcz :: .int mch :: .int mft :: .int mpt :: .int mdp :: .int mvd :: .long mnw :: .int mmk :: []))) G) (kt : tK κ Ad t (20, 0, 0)) (kmbA : tK κ Ad mbA (6, 2176, 0)) (kmwA : tK κ Ad mwA (6, 64, 0)) (kmhA : tK κ Ad mhA (6, 8, 0)) (kmpA : tK κ Ad mpA (6, 64, 0)) (kmfA : tK κ Ad mfA (6, 8, 0)) (hc_t : TB (τ t)) : Met l y_Model_digest1 w_Model_digest1 ({ frames := 2, cells := 0, slots := 0, locals := 53 }) (mu_P [.ref mo, .ref t] (dC, dI) sb G [(γ.1, .byte), (γ.2.1, .int), (γ.2.2.1, .long), (γ.2.2.2, .object "java/lang/Object"), (gT, .object "TrustChainModel$Text")] sz) (va_Qv (fun (G' : va_W) => TR γ κ Ad τ G' ∧ FL Ad [] G G' ∧ (True)) (mu_B (dC, dI) [(γ.1, .byte), (γ.2.1, .int), (γ.2.2.1, .long), (γ.2.2.2, .object "java/lang/Object"), (gT, .object "TrustChainModel$Text")] (va_A G sz) (fun G' : va_W => G')) (va_A G sz)) 0 0 (va_A G sz) := by
  refine Met.ofW (cc := b_Model_digest1) (maxL := 5) (ret := none) (by decide) rfl ?_
  intro p e s m args below meth c s₁ B hml hv
  obtain ⟨rfl, hsz, hB0, hP, hK, hD0, hN, hT0⟩ := hv
  have hx := B.exec
  have hb := B.bytes
  have hr := B.returns
  have hts := atoms_spec (ws := w_Model_digest1) B.pre
  have tbin : ∀ w ∈ tb, w ∈ w_Model_digest1 := fun w h => List.mem_cons_of_mem _ h
  have htb : ∀ w ∈ tb, w.before _ s = true := fun w h => hts w (tbin w h)
  have hown : s.vm.findClass "TrustChainModel" = some m.cls := findClass_of_methodNamed B.named
  have hlocks := B.notSynchronized
  subst hsz
  have hD := hD0.self (sz := s.heap.size)
  generalize hAe : va_A G s.heap.size = A at hD ⊢
  have hA : ∀ q : Nat, s.heap.size ≤ q → A q := fun q h => by rw [← hAe]; exact Or.inr h
  have hAs : ∀ q : Nat, A q → sb.1 ≤ q := fun q h => by
    rw [← hAe] at h
    rcases h with ⟨k, e, h⟩ | h
    · exact hD0.2 k _ h
    · exact Nat.le_trans hB0 h
  have hS : va_S A s.heap s.heap [] := va_S.rf
  have hFR := FL.rf Ad [] G
  have hcs : 0 ≤ (headSpec w_Model_digest1 ({ frames := 2, cells := 0, slots := 0, locals := 53 })).room.cells ∧ 0 ≤ (headSpec w_Model_digest1 ({ frames := 2, cells := 0, slots := 0, locals := 53 })).room.slots := ⟨Nat.le_refl _, Nat.le_refl _⟩
  have hP : va_P (dC, dI) classes G s.heap := hP
  have hl := lv_entry ([.ref mo, .ref t]) (n := 5) (Nat.le_of_ble_eq_true rfl)
  rw [lg_entry_eq]
  generalize (lg_sl ([.ref mo, .ref t]) ++ List.replicate (5 - (lg_sl ([.ref mo, .ref t])).length) Slot.unset).toArray = ls at hl ⊢
  have hl : lv_has ls 5 [(0, .ref mo), (1, .ref t)] := hl
  obtain ⟨cX_mo, eX_mo⟩ : ∃ z : va_E, z = .inr (12, (.int mer :: .int mfed :: .int mwr :: .int mct :: .int mls :: .ref moc :: .ref msT :: .ref mrV :: .ref msP :: .int mqs :: .ref mrA :: .ref mbA :: .ref mwA :: .ref mhA :: .ref mfA :: .ref mpA :: .ref mxA :: .ref myA :: .ref mmA :: .ref mqA :: .ref mzA :: .ref mwy :: .ref mfd :: .int msz :: .int mcz :: .int mch :: .int mft :: .int mpt :: .int mdp :: .int mvd :: .long mnw :: .int mmk :: [])) := ⟨_, rfl⟩
  rw [← eX_mo] at kmo
  have b1_t := hc_t.b1
  have b2_t := hc_t.b2
  have b3_t := hc_t.b3
  refine lv_iconst (v := 0) hx hb d_Model_digest1_0 (by decide) ?_
  refine lv_istore_n (lv' := [(2, .int 0), (0, .ref mo), (1, .ref t)]) hx hb d_Model_digest1_1 rfl hl (by decide) rfl (fun ls hl => ?_)
  refine lv_aload_n hx hb d_Model_digest1_2 rfl (lv_at hl 2 rfl) ?_
  obtain ⟨i_1, kA_1, hg_1⟩ := tr_20 hTy kt
  refine va_get (v := .int ((τ t).I 21)) hx hb htb i_Text hown hK hP i_1 hg_1 rfl 21 (by decide) (htb _ q6_214) (fun _ h9 => h9) rfl d_Model_digest1_3 ?_
  rw [hc_t.e21]
  refine lv_istore_n (lv' := [(3, .int (nI ((τ t).tb))), (2, .int 0), (0, .ref mo), (1, .ref t)]) hx hb d_Model_digest1_6 rfl hl (by decide) rfl (fun ls hl => ?_)
  refine w_loopW (α := Nat × va_W) (fun a9 => 0 ≤ a9.1 ∧ a9.1 ≤ ((τ t).te - (τ t).tb) ∧ TR γ κ Ad τ a9.2 ∧ FL Ad [] G a9.2 ∧ Xc Ad mo cX_mo a9.2) (fun a9 => ((τ t).te - (τ t).tb) - a9.1) (fun a9 => [(3, .int (nI ((τ t).tb + a9.1))), (2, .int (nI a9.1)), (0, .ref mo), (1, .ref t)]) (fun _ => []) (fun a9 => a9.2) 5 7 (fun a9 HL7 locs ls hJ hP hD hS hl ih7 => ?_) (0, G) _ _ ls ⟨by omega, by omega, hTy, hFR, kmo⟩ hP hD hS (lv_sub hl [0, 1, 2, 3, 4] rfl)
  obtain ⟨z7, G7⟩ := a9
  obtain ⟨hy7, hz7, hTy, hFR, kmo⟩ := hJ
  dsimp only at hy7 hz7 hTy hFR kmo hP hD hl ih7
  refine lv_iload_n hx hb d_Model_digest1_7 rfl (lv_at hl 0 rfl) ?_
  refine lv_aload_n hx hb d_Model_digest1_8 rfl (lv_at hl 3 rfl) ?_
  obtain ⟨i_2, kA_2, hg_2⟩ := tr_20 hTy kt
  refine va_get (v := .int ((τ t).I 22)) hx hb htb i_Text hown hK hP i_2 hg_2 rfl 22 (by decide) (htb _ q6_216) (fun _ h9 => h9) rfl d_Model_digest1_9 ?_
  rw [hc_t.e22]
  refine lv_icmp_ge (tgt := 36) hx hb d_Model_digest1_12 (by decide) (fun c12 => ?_) (fun c12 => ?_)
  · have p12 : ((τ t).te) ≤ ((τ t).tb + z7) := ((nI_leI (a := ((τ t).te)) (b := ((τ t).tb + z7)) (by omega) (by omega)).mp c12)
    refine lv_bipush (v := 8) hx hb d_Model_digest1_36 (by decide) ?_
    refine lv_iload_n hx hb d_Model_digest1_38 rfl (lv_at hl 1 rfl) ?_
    refine lv_imul hx hb d_Model_digest1_39 ?_
    rw [show (8 * (nI z7) : Int32) = nI (8 * z7) from nI_mul 8 z7]
    refine lv_istore_n (lv' := [(3, .int (nI (8 * z7))), (2, .int (nI z7)), (0, .ref mo), (1, .ref t)]) hx hb d_Model_digest1_40 rfl hl (by decide) rfl (fun ls hl => ?_)
    refine lv_aload_n hx hb d_Model_digest1_41 rfl (lv_at hl 2 rfl) ?_
    obtain ⟨i_3, hg_3⟩ := List.getElem?_of_mem kmo.2
    rw [eX_mo] at hg_3
    refine va_get (v := .ref mbA) hx hb htb i_Model hown hK hP i_3 hg_3 rfl 11 (by decide) (htb _ q7_225) (fun _ h9 => h9) rfl d_Model_digest1_42 ?_
    refine lv_iload_n hx hb d_Model_digest1_45 rfl (lv_at hl 1 rfl) ?_
    refine lv_iinc (v := nI (z7 + 1)) (lv' := [(2, .int (nI (z7 + 1))), (3, .int (nI (8 * z7))), (0, .ref mo), (1, .ref t)]) hx hb d_Model_digest1_46 hl (k := 1) rfl (nI_1 _) (by decide) rfl (fun ls hl => ?_)
    refine lv_sipush (v := 128) hx hb d_Model_digest1_49 (by decide) ?_
    obtain ⟨i_4, f_4, hn_4, hg_4⟩ := tr_6 hTy kmbA
    have h52 : vp_in (nI z7) 2176 := vp_in_nI (by omega) (by omega)
    refine va_iast hx hb hK hP hD hS i_4 1 hg_4 rfl h52 d_Model_digest1_52 (fun H52 locs hP hD2 hS => ?_)
    have hP : va_P (dC, dI) classes (G7.set i_4 (mbA, .inl (γ.2.1, 2176, .inl (upd f_4 (nI z7).toNatClampNeg 128)))) H52 := hP
    have hD3 : va_D A (G7.set i_4 (mbA, .inl (γ.2.1, 2176, .inl (upd f_4 (nI z7).toNatClampNeg 128)))) := hD2
    have hF1 := FR.set (c' := .inl (γ.2.1, 2176, .inl (upd f_4 (nI z7).toNatClampNeg 128))) hg_4 kmbA.1
    have kmo := kmo.fr hF1
    have hFR := hFR.tr hF1.l
    clear hF1
    have hTy := TR.set (c' := .inl (γ.2.1, 2176, .inl (upd f_4 (nI z7).toNatClampNeg 128))) hTy hg_4 (okr_6 kmbA hn_4 _)
    have hD := hD3
    have hg_2 := set_keep (c' := .inl (γ.2.1, 2176, .inl (upd f_4 (nI z7).toNatClampNeg 128))) hg_4 hg_2 (tK.ne kmbA kt (show (6 : Nat) ≠ 20 by decide))
    clear hD3 hD2
    generalize G7.set i_4 (mbA, .inl (γ.2.1, 2176, .inl (upd f_4 (nI z7).toNatClampNeg 128))) = G_5 at hP hD hTy hFR kmo hg_2
    obtain ⟨T9, hT1, hT2, hT3⟩ : ∃ T9, (z7 + 1) ≤ T9 ∧ T9 ≤ (z7 + 1) + 63 ∧ T9 % 64 = 56 := ⟨(z7 + 1) + (120 - (z7 + 1) % 64) % 64, by omega, by omega, by omega⟩
    refine w_loopW (α := Nat × va_W) (fun a9 => 0 ≤ a9.1 ∧ a9.1 ≤ T9 ∧ TR γ κ Ad τ a9.2 ∧ FL Ad [] G a9.2 ∧ Xc Ad mo cX_mo a9.2) (fun a9 => T9 - a9.1) (fun a9 => [(2, .int (nI a9.1)), (3, .int (nI (8 * z7))), (0, .ref mo), (1, .ref t)]) (fun _ => []) (fun a9 => a9.2) 5 53 (fun a9 HL53 locs ls hJ hP hD hS hl ih53 => ?_) ((z7 + 1), G_5) _ _ ls ⟨by omega, by omega, hTy, hFR, kmo⟩ hP hD hS (lv_sub hl [0, 1, 2, 3, 4] rfl)
    obtain ⟨z53, G53⟩ := a9
    obtain ⟨hy53, hz53, hTy, hFR, kmo⟩ := hJ
    dsimp only at hy53 hz53 hTy hFR kmo hP hD hl ih53
    refine lv_iload_n hx hb d_Model_digest1_53 rfl (lv_at hl 0 rfl) ?_
    refine lv_bipush (v := 64) hx hb d_Model_digest1_54 (by decide) ?_
    refine lv_irem hx hb d_Model_digest1_56 (by decide) ?_
    rw [show ((nI z53) - (nI z53) / 64 * 64 : Int32) = nI (z53 % 64) from nI_irem (a := z53) (b := 64) (by omega) (by omega) (by omega)]
    refine lv_bipush (v := 56) hx hb d_Model_digest1_57 (by decide) ?_
    refine lv_icmp_eq (tgt := 75) hx hb d_Model_digest1_59 (by decide) (fun c59 => ?_) (fun c59 => ?_)
    · have p59 : (z53 % 64) = 56 := ((nI_eq (a := (z53 % 64)) (b := 56) (by omega) (by omega)).mp c59)
      refine lv_iconst (v := 0) hx hb d_Model_digest1_75 (by decide) ?_
      refine lv_istore (lv' := [(4, .int 0), (2, .int (nI z53)), (3, .int (nI (8 * z7))), (0, .ref mo), (1, .ref t)]) hx hb d_Model_digest1_76 hl (by decide) rfl (fun ls hl => ?_)
      skip
      refine w_loopW (α := Nat × va_W) (fun a9 => 0 ≤ a9.1 ∧ a9.1 ≤ 4 ∧ TR γ κ Ad τ a9.2 ∧ FL Ad [] G a9.2 ∧ Xc Ad mo cX_mo a9.2) (fun a9 => 4 - a9.1) (fun a9 => [(4, .int (nI a9.1)), (2, .int (nI (z53 + a9.1))), (3, .int (nI (8 * z7))), (0, .ref mo), (1, .ref t)]) (fun _ => []) (fun a9 => a9.2) 5 78 (fun a9 HL78 locs ls hJ hP hD hS hl ih78 => ?_) (0, G53) _ _ ls ⟨by omega, by omega, hTy, hFR, kmo⟩ hP hD hS (lv_sub hl [0, 1, 2, 3, 4] rfl)
      obtain ⟨z78, G78⟩ := a9
      obtain ⟨hy78, hz78, hTy, hFR, kmo⟩ := hJ
      dsimp only at hy78 hz78 hTy hFR kmo hP hD hl ih78
      refine lv_iload hx hb d_Model_digest1_78 (lv_at hl 0 rfl) ?_
      refine lv_iconst (v := 4) hx hb d_Model_digest1_80 (by decide) ?_
      refine lv_icmp_ge (tgt := 100) hx hb d_Model_digest1_81 (by decide) (fun c81 => ?_) (fun c81 => ?_)
      · have p81 : 4 ≤ z78 := ((nI_leI (a := 4) (b := z78) (by omega) (by omega)).mp c81)
        refine lv_bipush (v := 24) hx hb d_Model_digest1_100 (by decide) ?_
        refine lv_istore (lv' := [(4, .int 24), (2, .int (nI (z53 + z78))), (3, .int (nI (8 * z7))), (0, .ref mo), (1, .ref t)]) hx hb d_Model_digest1_102 hl (by decide) rfl (fun ls hl => ?_)
        refine lv_iload hx hb d_Model_digest1_104 (lv_at hl 0 rfl) ?_
        refine lv_if_lt (tgt := 132) hx hb d_Model_digest1_106 (by decide) (fun c106 => ?_) (fun c106 => ?_)
        · exact absurd c106 (by decide)
        refine lv_aload_n hx hb d_Model_digest1_109 rfl (lv_at hl 3 rfl) ?_
        obtain ⟨i_6, hg_6⟩ := List.getElem?_of_mem kmo.2
        rw [eX_mo] at hg_6
        refine va_get (v := .ref mbA) hx hb htb i_Model hown hK hP i_6 hg_6 rfl 11 (by decide) (htb _ q7_225) (fun _ h9 => h9) rfl d_Model_digest1_110 ?_
        refine lv_iload_n hx hb d_Model_digest1_113 rfl (lv_at hl 1 rfl) ?_
        refine lv_iinc (v := nI (z53 + z78 + 1)) (lv' := [(2, .int (nI (z53 + z78 + 1))), (4, .int 24), (3, .int (nI (8 * z7))), (0, .ref mo), (1, .ref t)]) hx hb d_Model_digest1_114 hl (k := 1) rfl (nI_1 _) (by decide) rfl (fun ls hl => ?_)
        refine lv_iload_n hx hb d_Model_digest1_117 rfl (lv_at hl 2 rfl) ?_
        refine lv_iload hx hb d_Model_digest1_118 (lv_at hl 1 rfl) ?_
        refine lv_ishr hx hb d_Model_digest1_120 ?_
        refine lv_sipush (v := 255) hx hb d_Model_digest1_121 (by decide) ?_
        refine lv_iand hx hb d_Model_digest1_124 ?_
        obtain ⟨i_7, f_7, hn_7, hg_7⟩ := tr_6 hTy kmbA
        have h125 : vp_in (nI (z53 + z78)) 2176 := vp_in_nI (by omega) (by omega)
        refine va_iast hx hb hK hP hD hS i_7 1 hg_7 rfl h125 d_Model_digest1_125 (fun H125 locs hP hD2 hS => ?_)
        have hP : va_P (dC, dI) classes (G78.set i_7 (mbA, .inl (γ.2.1, 2176, .inl (upd f_7 (nI (z53 + z78)).toNatClampNeg (((nI (8 * z7)) >>> (24 &&& 31)) &&& 255))))) H125 := hP
        have hD3 : va_D A (G78.set i_7 (mbA, .inl (γ.2.1, 2176, .inl (upd f_7 (nI (z53 + z78)).toNatClampNeg (((nI (8 * z7)) >>> (24 &&& 31)) &&& 255))))) := hD2
        have hF1 := FR.set (c' := .inl (γ.2.1, 2176, .inl (upd f_7 (nI (z53 + z78)).toNatClampNeg (((nI (8 * z7)) >>> (24 &&& 31)) &&& 255)))) hg_7 kmbA.1
        have kmo := kmo.fr hF1
        have hFR := hFR.tr hF1.l
        clear hF1
        have hTy := TR.set (c' := .inl (γ.2.1, 2176, .inl (upd f_7 (nI (z53 + z78)).toNatClampNeg (((nI (8 * z7)) >>> (24 &&& 31)) &&& 255)))) hTy hg_7 (okr_6 kmbA hn_7 _)
        have hD := hD3
        clear hD3 hD2
        generalize G78.set i_7 (mbA, .inl (γ.2.1, 2176, .inl (upd f_7 (nI (z53 + z78)).toNatClampNeg (((nI (8 * z7)) >>> (24 &&& 31)) &&& 255)))) = G_8 at hP hD hTy hFR kmo 
        refine lv_iinc (v := 16) (lv' := [(4, .int 16), (2, .int (nI (z53 + z78 + 1))), (3, .int (nI (8 * z7))), (0, .ref mo), (1, .ref t)]) hx hb d_Model_digest1_126 hl (k := 1) rfl (by decide) (by decide) rfl (fun ls hl => ?_)
        refine lv_goto (tgt := 104) hx hb d_Model_digest1_129 (by decide) ?_
        refine lv_iload hx hb d_Model_digest1_104 (lv_at hl 0 rfl) ?_
        refine lv_if_lt (tgt := 132) hx hb d_Model_digest1_106 (by decide) (fun c106 => ?_) (fun c106 => ?_)
        · exact absurd c106 (by decide)
        refine lv_aload_n hx hb d_Model_digest1_109 rfl (lv_at hl 3 rfl) ?_
        obtain ⟨i_9, hg_9⟩ := List.getElem?_of_mem kmo.2
        rw [eX_mo] at hg_9
        refine va_get (v := .ref mbA) hx hb htb i_Model hown hK hP i_9 hg_9 rfl 11 (by decide) (htb _ q7_225) (fun _ h9 => h9) rfl d_Model_digest1_110 ?_
        refine lv_iload_n hx hb d_Model_digest1_113 rfl (lv_at hl 1 rfl) ?_
        refine lv_iinc (v := nI (z53 + z78 + 1 + 1)) (lv' := [(2, .int (nI (z53 + z78 + 1 + 1))), (4, .int 16), (3, .int (nI (8 * z7))), (0, .ref mo), (1, .ref t)]) hx hb d_Model_digest1_114 hl (k := 1) rfl (nI_1 _) (by decide) rfl (fun ls hl => ?_)
        refine lv_iload_n hx hb d_Model_digest1_117 rfl (lv_at hl 2 rfl) ?_
        refine lv_iload hx hb d_Model_digest1_118 (lv_at hl 1 rfl) ?_
        refine lv_ishr hx hb d_Model_digest1_120 ?_
        refine lv_sipush (v := 255) hx hb d_Model_digest1_121 (by decide) ?_
        refine lv_iand hx hb d_Model_digest1_124 ?_
        obtain ⟨i_10, f_10, hn_10, hg_10⟩ := tr_6 hTy kmbA
        have h125 : vp_in (nI (z53 + z78 + 1)) 2176 := vp_in_nI (by omega) (by omega)
        refine va_iast hx hb hK hP hD hS i_10 1 hg_10 rfl h125 d_Model_digest1_125 (fun H125 locs hP hD2 hS => ?_)
        have hP : va_P (dC, dI) classes (G_8.set i_10 (mbA, .inl (γ.2.1, 2176, .inl (upd f_10 (nI (z53 + z78 + 1)).toNatClampNeg (((nI (8 * z7)) >>> (16 &&& 31)) &&& 255))))) H125 := hP
        have hD3 : va_D A (G_8.set i_10 (mbA, .inl (γ.2.1, 2176, .inl (upd f_10 (nI (z53 + z78 + 1)).toNatClampNeg (((nI (8 * z7)) >>> (16 &&& 31)) &&& 255))))) := hD2
        have hF1 := FR.set (c' := .inl (γ.2.1, 2176, .inl (upd f_10 (nI (z53 + z78 + 1)).toNatClampNeg (((nI (8 * z7)) >>> (16 &&& 31)) &&& 255)))) hg_10 kmbA.1
        have kmo := kmo.fr hF1
        have hFR := hFR.tr hF1.l
        clear hF1
        have hTy := TR.set (c' := .inl (γ.2.1, 2176, .inl (upd f_10 (nI (z53 + z78 + 1)).toNatClampNeg (((nI (8 * z7)) >>> (16 &&& 31)) &&& 255)))) hTy hg_10 (okr_6 kmbA hn_10 _)
        have hD := hD3
        clear hD3 hD2
        generalize G_8.set i_10 (mbA, .inl (γ.2.1, 2176, .inl (upd f_10 (nI (z53 + z78 + 1)).toNatClampNeg (((nI (8 * z7)) >>> (16 &&& 31)) &&& 255)))) = G_11 at hP hD hTy hFR kmo 
        refine lv_iinc (v := 8) (lv' := [(4, .int 8), (2, .int (nI (z53 + z78 + 1 + 1))), (3, .int (nI (8 * z7))), (0, .ref mo), (1, .ref t)]) hx hb d_Model_digest1_126 hl (k := 1) rfl (by decide) (by decide) rfl (fun ls hl => ?_)
        refine lv_goto (tgt := 104) hx hb d_Model_digest1_129 (by decide) ?_
        refine lv_iload hx hb d_Model_digest1_104 (lv_at hl 0 rfl) ?_
        refine lv_if_lt (tgt := 132) hx hb d_Model_digest1_106 (by decide) (fun c106 => ?_) (fun c106 => ?_)
        · exact absurd c106 (by decide)
        refine lv_aload_n hx hb d_Model_digest1_109 rfl (lv_at hl 3 rfl) ?_
        obtain ⟨i_12, hg_12⟩ := List.getElem?_of_mem kmo.2
        rw [eX_mo] at hg_12
        refine va_get (v := .ref mbA) hx hb htb i_Model hown hK hP i_12 hg_12 rfl 11 (by decide) (htb _ q7_225) (fun _ h9 => h9) rfl d_Model_digest1_110 ?_
        refine lv_iload_n hx hb d_Model_digest1_113 rfl (lv_at hl 1 rfl) ?_
        refine lv_iinc (v := nI (z53 + z78 + 1 + 1 + 1)) (lv' := [(2, .int (nI (z53 + z78 + 1 + 1 + 1))), (4, .int 8), (3, .int (nI (8 * z7))), (0, .ref mo), (1, .ref t)]) hx hb d_Model_digest1_114 hl (k := 1) rfl (nI_1 _) (by decide) rfl (fun ls hl => ?_)
        refine lv_iload_n hx hb d_Model_digest1_117 rfl (lv_at hl 2 rfl) ?_
        refine lv_iload hx hb d_Model_digest1_118 (lv_at hl 1 rfl) ?_
        refine lv_ishr hx hb d_Model_digest1_120 ?_
        refine lv_sipush (v := 255) hx hb d_Model_digest1_121 (by decide) ?_
        refine lv_iand hx hb d_Model_digest1_124 ?_
        obtain ⟨i_13, f_13, hn_13, hg_13⟩ := tr_6 hTy kmbA
        have h125 : vp_in (nI (z53 + z78 + 1 + 1)) 2176 := vp_in_nI (by omega) (by omega)
        refine va_iast hx hb hK hP hD hS i_13 1 hg_13 rfl h125 d_Model_digest1_125 (fun H125 locs hP hD2 hS => ?_)
        have hP : va_P (dC, dI) classes (G_11.set i_13 (mbA, .inl (γ.2.1, 2176, .inl (upd f_13 (nI (z53 + z78 + 1 + 1)).toNatClampNeg (((nI (8 * z7)) >>> (8 &&& 31)) &&& 255))))) H125 := hP
        have hD3 : va_D A (G_11.set i_13 (mbA, .inl (γ.2.1, 2176, .inl (upd f_13 (nI (z53 + z78 + 1 + 1)).toNatClampNeg (((nI (8 * z7)) >>> (8 &&& 31)) &&& 255))))) := hD2
        have hF1 := FR.set (c' := .inl (γ.2.1, 2176, .inl (upd f_13 (nI (z53 + z78 + 1 + 1)).toNatClampNeg (((nI (8 * z7)) >>> (8 &&& 31)) &&& 255)))) hg_13 kmbA.1
        have kmo := kmo.fr hF1
        have hFR := hFR.tr hF1.l
        clear hF1
        have hTy := TR.set (c' := .inl (γ.2.1, 2176, .inl (upd f_13 (nI (z53 + z78 + 1 + 1)).toNatClampNeg (((nI (8 * z7)) >>> (8 &&& 31)) &&& 255)))) hTy hg_13 (okr_6 kmbA hn_13 _)
        have hD := hD3
        clear hD3 hD2
        generalize G_11.set i_13 (mbA, .inl (γ.2.1, 2176, .inl (upd f_13 (nI (z53 + z78 + 1 + 1)).toNatClampNeg (((nI (8 * z7)) >>> (8 &&& 31)) &&& 255)))) = G_14 at hP hD hTy hFR kmo 
        refine lv_iinc (v := 0) (lv' := [(4, .int 0), (2, .int (nI (z53 + z78 + 1 + 1 + 1))), (3, .int (nI (8 * z7))), (0, .ref mo), (1, .ref t)]) hx hb d_Model_digest1_126 hl (k := 1) rfl (by decide) (by decide) rfl (fun ls hl => ?_)
        refine lv_goto (tgt := 104) hx hb d_Model_digest1_129 (by decide) ?_
        refine lv_iload hx hb d_Model_digest1_104 (lv_at hl 0 rfl) ?_
        refine lv_if_lt (tgt := 132) hx hb d_Model_digest1_106 (by decide) (fun c106 => ?_) (fun c106 => ?_)
        · exact absurd c106 (by decide)
        refine lv_aload_n hx hb d_Model_digest1_109 rfl (lv_at hl 3 rfl) ?_
        obtain ⟨i_15, hg_15⟩ := List.getElem?_of_mem kmo.2
        rw [eX_mo] at hg_15
        refine va_get (v := .ref mbA) hx hb htb i_Model hown hK hP i_15 hg_15 rfl 11 (by decide) (htb _ q7_225) (fun _ h9 => h9) rfl d_Model_digest1_110 ?_
        refine lv_iload_n hx hb d_Model_digest1_113 rfl (lv_at hl 1 rfl) ?_
        refine lv_iinc (v := nI (z53 + z78 + 1 + 1 + 1 + 1)) (lv' := [(2, .int (nI (z53 + z78 + 1 + 1 + 1 + 1))), (4, .int 0), (3, .int (nI (8 * z7))), (0, .ref mo), (1, .ref t)]) hx hb d_Model_digest1_114 hl (k := 1) rfl (nI_1 _) (by decide) rfl (fun ls hl => ?_)
        refine lv_iload_n hx hb d_Model_digest1_117 rfl (lv_at hl 2 rfl) ?_
        refine lv_iload hx hb d_Model_digest1_118 (lv_at hl 1 rfl) ?_
        refine lv_ishr hx hb d_Model_digest1_120 ?_
        refine lv_sipush (v := 255) hx hb d_Model_digest1_121 (by decide) ?_
        refine lv_iand hx hb d_Model_digest1_124 ?_
        obtain ⟨i_16, f_16, hn_16, hg_16⟩ := tr_6 hTy kmbA
        have h125 : vp_in (nI (z53 + z78 + 1 + 1 + 1)) 2176 := vp_in_nI (by omega) (by omega)
        refine va_iast hx hb hK hP hD hS i_16 1 hg_16 rfl h125 d_Model_digest1_125 (fun H125 locs hP hD2 hS => ?_)
        have hP : va_P (dC, dI) classes (G_14.set i_16 (mbA, .inl (γ.2.1, 2176, .inl (upd f_16 (nI (z53 + z78 + 1 + 1 + 1)).toNatClampNeg (((nI (8 * z7)) >>> (0 &&& 31)) &&& 255))))) H125 := hP
        have hD3 : va_D A (G_14.set i_16 (mbA, .inl (γ.2.1, 2176, .inl (upd f_16 (nI (z53 + z78 + 1 + 1 + 1)).toNatClampNeg (((nI (8 * z7)) >>> (0 &&& 31)) &&& 255))))) := hD2
        have hF1 := FR.set (c' := .inl (γ.2.1, 2176, .inl (upd f_16 (nI (z53 + z78 + 1 + 1 + 1)).toNatClampNeg (((nI (8 * z7)) >>> (0 &&& 31)) &&& 255)))) hg_16 kmbA.1
        have kmo := kmo.fr hF1
        have hFR := hFR.tr hF1.l
        clear hF1
        have hTy := TR.set (c' := .inl (γ.2.1, 2176, .inl (upd f_16 (nI (z53 + z78 + 1 + 1 + 1)).toNatClampNeg (((nI (8 * z7)) >>> (0 &&& 31)) &&& 255)))) hTy hg_16 (okr_6 kmbA hn_16 _)
        have hD := hD3
        clear hD3 hD2
        generalize G_14.set i_16 (mbA, .inl (γ.2.1, 2176, .inl (upd f_16 (nI (z53 + z78 + 1 + 1 + 1)).toNatClampNeg (((nI (8 * z7)) >>> (0 &&& 31)) &&& 255)))) = G_17 at hP hD hTy hFR kmo 
        refine lv_iinc (v := -8) (lv' := [(4, .int (-8)), (2, .int (nI (z53 + z78 + 1 + 1 + 1 + 1))), (3, .int (nI (8 * z7))), (0, .ref mo), (1, .ref t)]) hx hb d_Model_digest1_126 hl (k := 1) rfl (by decide) (by decide) rfl (fun ls hl => ?_)
        refine lv_goto (tgt := 104) hx hb d_Model_digest1_129 (by decide) ?_
        refine lv_iload hx hb d_Model_digest1_104 (lv_at hl 0 rfl) ?_
        refine lv_if_lt (tgt := 132) hx hb d_Model_digest1_106 (by decide) (fun c106 => ?_) (fun c106 => ?_)
        rotate_left
        · exact absurd c106 (by decide)
        refine lv_iconst (v := 0) hx hb d_Model_digest1_132 (by decide) ?_
        refine lv_istore (lv' := [(4, .int 0), (2, .int (nI (z53 + z78 + 1 + 1 + 1 + 1))), (3, .int (nI (8 * z7))), (0, .ref mo), (1, .ref t)]) hx hb d_Model_digest1_133 hl (by decide) rfl (fun ls hl => ?_)
        refine w_loopW (α := Nat × va_W) (fun a9 => 0 ≤ a9.1 ∧ a9.1 ≤ 8 ∧ TR γ κ Ad τ a9.2 ∧ FL Ad [] G a9.2 ∧ Xc Ad mo cX_mo a9.2) (fun a9 => 8 - a9.1) (fun a9 => [(4, .int (nI a9.1)), (2, .int (nI (z53 + z78 + 1 + 1 + 1 + 1))), (3, .int (nI (8 * z7))), (0, .ref mo), (1, .ref t)]) (fun _ => []) (fun a9 => a9.2) 5 135 (fun a9 HL135 locs ls hJ hP hD hS hl ih135 => ?_) (0, G_17) _ _ ls ⟨by omega, by omega, hTy, hFR, kmo⟩ hP hD hS (lv_sub hl [0, 1, 2, 3, 4] rfl)
        obtain ⟨z135, G135⟩ := a9
        obtain ⟨hy135, hz135, hTy, hFR, kmo⟩ := hJ
        dsimp only at hy135 hz135 hTy hFR kmo hP hD hl ih135
        refine lv_iload hx hb d_Model_digest1_135 (lv_at hl 0 rfl) ?_
        refine lv_bipush (v := 8) hx hb d_Model_digest1_137 (by decide) ?_
        refine lv_icmp_ge (tgt := 162) hx hb d_Model_digest1_139 (by decide) (fun c139 => ?_) (fun c139 => ?_)
        · have p139 : 8 ≤ z135 := ((nI_leI (a := 8) (b := z135) (by omega) (by omega)).mp c139)
          refine lv_iconst (v := 0) hx hb d_Model_digest1_162 (by decide) ?_
          refine lv_istore (lv' := [(4, .int 0), (2, .int (nI (z53 + z78 + 1 + 1 + 1 + 1))), (3, .int (nI (8 * z7))), (0, .ref mo), (1, .ref t)]) hx hb d_Model_digest1_163 hl (by decide) rfl (fun ls hl => ?_)
          refine w_loopW (α := Nat × va_W) (fun a9 => 0 ≤ a9.1 ∧ a9.1 ≤ (((z53 + z78 + 1 + 1 + 1 + 1)) / 64) ∧ TR γ κ Ad τ a9.2 ∧ FL Ad [] G a9.2 ∧ Xc Ad mo cX_mo a9.2) (fun a9 => (((z53 + z78 + 1 + 1 + 1 + 1)) / 64) - a9.1) (fun a9 => [(4, .int (nI (64 * a9.1))), (2, .int (nI (z53 + z78 + 1 + 1 + 1 + 1))), (3, .int (nI (8 * z7))), (0, .ref mo), (1, .ref t)]) (fun _ => []) (fun a9 => a9.2) 5 165 (fun a9 HL165 locs ls hJ hP hD hS hl ih165 => ?_) (0, G135) _ _ ls ⟨by omega, by omega, hTy, hFR, kmo⟩ hP hD hS (lv_sub hl [0, 1, 2, 3, 4] rfl)
          obtain ⟨z165, G165⟩ := a9
          obtain ⟨hy165, hz165, hTy, hFR, kmo⟩ := hJ
          dsimp only at hy165 hz165 hTy hFR kmo hP hD hl ih165
          refine lv_iload hx hb d_Model_digest1_165 (lv_at hl 0 rfl) ?_
          refine lv_iload_n hx hb d_Model_digest1_167 rfl (lv_at hl 1 rfl) ?_
          refine lv_icmp_ge (tgt := 183) hx hb d_Model_digest1_168 (by decide) (fun c168 => ?_) (fun c168 => ?_)
          · have p168 : (z53 + z78 + 1 + 1 + 1 + 1) ≤ (64 * z165) := ((nI_leI (a := (z53 + z78 + 1 + 1 + 1 + 1)) (b := (64 * z165)) (by omega) (by omega)).mp c168)
            exact W.vret hx hb hr (fun t ht hW => ⟨⟨G165, rfl, ⟨hTy, hFR, trivial⟩, by rw [ht]; exact hP, va_K.moved hW.alike hK, hD⟩, hS.F ht⟩) hS.2.2 d_Model_digest1_183
          · have p168 : ¬ ((z53 + z78 + 1 + 1 + 1 + 1) ≤ (64 * z165)) := (fun q9 => c168 ((nI_leI (a := (z53 + z78 + 1 + 1 + 1 + 1)) (b := (64 * z165)) (by omega) (by omega)).mpr q9))
            refine lv_aload_n hx hb d_Model_digest1_171 rfl (lv_at hl 3 rfl) ?_
            refine lv_iload hx hb d_Model_digest1_172 (lv_at hl 0 rfl) ?_
            have hFc := va_free (wc := G165) hD hS hA (List.range G165.length) (rg_is _)
            obtain ⟨i_19, hg_19⟩ := List.getElem?_of_mem kmo.2
            rw [eX_mo] at hg_19
            refine va_callv (mu_runV (As := [.int (nI (64 * z165))]) (rest := []) ⟨hx, hb, hml, hown, hts⟩ tbin (m_Model_compress l dC dI sb γ κ Ad τ gT G165 mo _ _ _ _ _ _ _ _ _ _ _ _ _ _ _ _ _ _ _ _ _ _ _ _ _ _ _ _ _ _ _ _ _ HL165.size hTy (by have h9 := kmo; rw [eX_mo] at h9; exact h9) kmbA kmwA kmhA kmpA (by omega)) q9_85 q9_87 qp_41 q1_9 q9_88 (n := 1) (by decide +kernel) rfl ⟨rfl, rfl⟩ ⟨Nat.le_of_ble_eq_true rfl, Nat.le_of_ble_eq_true rfl⟩ ⟨Nat.le_of_ble_eq_true rfl, Nat.le_of_ble_eq_true rfl⟩ hN (hT0.keep hS hAs) hAs (Nat.le_trans hB0 hS.1) hK hP hD (List.range G165.length) (rg_nd _) (rg_is _) [0, 1, 2, 3, 4] rfl i_19 12 hg_19 rfl rfl hl.1 rfl (Nat.le_of_ble_eq_true rfl) d_Model_digest1_174) hS (fun q _ h => hFc q h) hFc (fun G_18 tS H174 locs ht hvm hw174 hB hz1 hk1 hS => ?_)
            obtain ⟨hTy, hF9, hr174⟩ := hw174
            have kmo := kmo.fl hF9 List.not_mem_nil
            have hFR := hFR.tr (hF9.up (fun x h => absurd h List.not_mem_nil))
            obtain ⟨hP1, hK1, hD1⟩ := hB
            rw [ht] at hP1
            have hP : va_P (dC, dI) classes G_18 H174 := hP1
            have hD : va_D A G_18 := hD1.weaken (fun _ _ _ h => hFc _ h)
            refine lv_iinc (v := nI (64 * z165 + 64)) (lv' := [(4, .int (nI (64 * z165 + 64))), (2, .int (nI (z53 + z78 + 1 + 1 + 1 + 1))), (3, .int (nI (8 * z7))), (0, .ref mo), (1, .ref t)]) hx hb d_Model_digest1_177 hl (k := 0) rfl (nI_add _ 64) (by decide) rfl (fun ls hl => ?_)
            refine lv_goto (tgt := 165) hx hb d_Model_digest1_180 (by decide) ?_
            exact ih165 (z165 + 1, G_18) _ _ ls (by dsimp only; omega) ⟨by dsimp only; omega, by dsimp only; omega, hTy, hFR, kmo⟩ hP hD hS (lv_sub hl [0, 1, 2, 3, 4] rfl)
        · have p139 : ¬ (8 ≤ z135) := (fun q9 => c139 ((nI_leI (a := 8) (b := z135) (by omega) (by omega)).mpr q9))
          refine lv_aload_n hx hb d_Model_digest1_142 rfl (lv_at hl 3 rfl) ?_
          obtain ⟨i_20, hg_20⟩ := List.getElem?_of_mem kmo.2
          rw [eX_mo] at hg_20
          refine va_get (v := .ref mhA) hx hb htb i_Model hown hK hP i_20 hg_20 rfl 13 (by decide) (htb _ q7_227) (fun _ h9 => h9) rfl d_Model_digest1_143 ?_
          refine lv_iload hx hb d_Model_digest1_146 (lv_at hl 0 rfl) ?_
          refine lv_aload_n hx hb d_Model_digest1_148 rfl (lv_at hl 3 rfl) ?_
          refine va_get (v := .ref mfA) hx hb htb i_Model hown hK hP i_20 hg_20 rfl 14 (by decide) (htb _ q7_228) (fun _ h9 => h9) rfl d_Model_digest1_149 ?_
          refine lv_iload hx hb d_Model_digest1_152 (lv_at hl 0 rfl) ?_
          obtain ⟨i_21, f_21, hn_21, hg_21⟩ := tr_6 hTy kmfA
          have h154 : vp_in (nI z135) 8 := vp_in_nI (by omega) (by omega)
          refine va_iald hx hb hK hP i_21 1 hg_21 rfl h154 d_Model_digest1_154 ?_
          refine lv_topi (fun e154 he154 => ?_)
          obtain ⟨i_22, f_22, hn_22, hg_22⟩ := tr_6 hTy kmhA
          have h155 : vp_in (nI z135) 8 := vp_in_nI (by omega) (by omega)
          refine va_iast hx hb hK hP hD hS i_22 1 hg_22 rfl h155 d_Model_digest1_155 (fun H155 locs hP hD2 hS => ?_)
          have hP : va_P (dC, dI) classes (G135.set i_22 (mhA, .inl (γ.2.1, 8, .inl (upd f_22 (nI z135).toNatClampNeg e154)))) H155 := hP
          have hD3 : va_D A (G135.set i_22 (mhA, .inl (γ.2.1, 8, .inl (upd f_22 (nI z135).toNatClampNeg e154)))) := hD2
          have hF1 := FR.set (c' := .inl (γ.2.1, 8, .inl (upd f_22 (nI z135).toNatClampNeg e154))) hg_22 kmhA.1
          have kmo := kmo.fr hF1
          have hFR := hFR.tr hF1.l
          clear hF1
          have hTy := TR.set (c' := .inl (γ.2.1, 8, .inl (upd f_22 (nI z135).toNatClampNeg e154))) hTy hg_22 (okr_6 kmhA hn_22 _)
          have hD := hD3
          clear hD3 hD2
          generalize G135.set i_22 (mhA, .inl (γ.2.1, 8, .inl (upd f_22 (nI z135).toNatClampNeg e154))) = G_23 at hP hD hTy hFR kmo 
          refine lv_iinc (v := nI (z135 + 1)) (lv' := [(4, .int (nI (z135 + 1))), (2, .int (nI (z53 + z78 + 1 + 1 + 1 + 1))), (3, .int (nI (8 * z7))), (0, .ref mo), (1, .ref t)]) hx hb d_Model_digest1_156 hl (k := 0) rfl (nI_1 _) (by decide) rfl (fun ls hl => ?_)
          refine lv_goto (tgt := 135) hx hb d_Model_digest1_159 (by decide) ?_
          exact ih135 (z135 + 1, G_23) _ _ ls (by dsimp only; omega) ⟨by dsimp only; omega, by dsimp only; omega, hTy, hFR, kmo⟩ hP hD hS (lv_sub hl [0, 1, 2, 3, 4] rfl)
      · have p81 : ¬ (4 ≤ z78) := (fun q9 => c81 ((nI_leI (a := 4) (b := z78) (by omega) (by omega)).mpr q9))
        refine lv_aload_n hx hb d_Model_digest1_84 rfl (lv_at hl 3 rfl) ?_
        obtain ⟨i_24, hg_24⟩ := List.getElem?_of_mem kmo.2
        rw [eX_mo] at hg_24
        refine va_get (v := .ref mbA) hx hb htb i_Model hown hK hP i_24 hg_24 rfl 11 (by decide) (htb _ q7_225) (fun _ h9 => h9) rfl d_Model_digest1_85 ?_
        refine lv_iload_n hx hb d_Model_digest1_88 rfl (lv_at hl 1 rfl) ?_
        refine lv_iinc (v := nI (z53 + z78 + 1)) (lv' := [(2, .int (nI (z53 + z78 + 1))), (4, .int (nI z78)), (3, .int (nI (8 * z7))), (0, .ref mo), (1, .ref t)]) hx hb d_Model_digest1_89 hl (k := 1) rfl (nI_1 _) (by decide) rfl (fun ls hl => ?_)
        refine lv_iconst (v := 0) hx hb d_Model_digest1_92 (by decide) ?_
        obtain ⟨i_25, f_25, hn_25, hg_25⟩ := tr_6 hTy kmbA
        have h93 : vp_in (nI (z53 + z78)) 2176 := vp_in_nI (by omega) (by omega)
        refine va_iast hx hb hK hP hD hS i_25 1 hg_25 rfl h93 d_Model_digest1_93 (fun H93 locs hP hD2 hS => ?_)
        have hP : va_P (dC, dI) classes (G78.set i_25 (mbA, .inl (γ.2.1, 2176, .inl (upd f_25 (nI (z53 + z78)).toNatClampNeg 0)))) H93 := hP
        have hD3 : va_D A (G78.set i_25 (mbA, .inl (γ.2.1, 2176, .inl (upd f_25 (nI (z53 + z78)).toNatClampNeg 0)))) := hD2
        have hF1 := FR.set (c' := .inl (γ.2.1, 2176, .inl (upd f_25 (nI (z53 + z78)).toNatClampNeg 0))) hg_25 kmbA.1
        have kmo := kmo.fr hF1
        have hFR := hFR.tr hF1.l
        clear hF1
        have hTy := TR.set (c' := .inl (γ.2.1, 2176, .inl (upd f_25 (nI (z53 + z78)).toNatClampNeg 0))) hTy hg_25 (okr_6 kmbA hn_25 _)
        have hD := hD3
        clear hD3 hD2
        generalize G78.set i_25 (mbA, .inl (γ.2.1, 2176, .inl (upd f_25 (nI (z53 + z78)).toNatClampNeg 0))) = G_26 at hP hD hTy hFR kmo 
        refine lv_iinc (v := nI (z78 + 1)) (lv' := [(4, .int (nI (z78 + 1))), (2, .int (nI (z53 + z78 + 1))), (3, .int (nI (8 * z7))), (0, .ref mo), (1, .ref t)]) hx hb d_Model_digest1_94 hl (k := 1) rfl (nI_1 _) (by decide) rfl (fun ls hl => ?_)
        refine lv_goto (tgt := 78) hx hb d_Model_digest1_97 (by decide) ?_
        exact ih78 (z78 + 1, G_26) _ _ ls (by dsimp only; omega) ⟨by dsimp only; omega, by dsimp only; omega, hTy, hFR, kmo⟩ hP hD hS (lv_sub hl [0, 1, 2, 3, 4] rfl)
    · have p59 : ¬ ((z53 % 64) = 56) := (fun q9 => c59 ((nI_eq (a := (z53 % 64)) (b := 56) (by omega) (by omega)).mpr q9))
      refine lv_aload_n hx hb d_Model_digest1_62 rfl (lv_at hl 2 rfl) ?_
      obtain ⟨i_27, hg_27⟩ := List.getElem?_of_mem kmo.2
      rw [eX_mo] at hg_27
      refine va_get (v := .ref mbA) hx hb htb i_Model hown hK hP i_27 hg_27 rfl 11 (by decide) (htb _ q7_225) (fun _ h9 => h9) rfl d_Model_digest1_63 ?_
      refine lv_iload_n hx hb d_Model_digest1_66 rfl (lv_at hl 0 rfl) ?_
      refine lv_iinc (v := nI (z53 + 1)) (lv' := [(2, .int (nI (z53 + 1))), (3, .int (nI (8 * z7))), (0, .ref mo), (1, .ref t)]) hx hb d_Model_digest1_67 hl (k := 0) rfl (nI_1 _) (by decide) rfl (fun ls hl => ?_)
      refine lv_iconst (v := 0) hx hb d_Model_digest1_70 (by decide) ?_
      obtain ⟨i_28, f_28, hn_28, hg_28⟩ := tr_6 hTy kmbA
      have h71 : vp_in (nI z53) 2176 := vp_in_nI (by omega) (by omega)
      refine va_iast hx hb hK hP hD hS i_28 1 hg_28 rfl h71 d_Model_digest1_71 (fun H71 locs hP hD2 hS => ?_)
      have hP : va_P (dC, dI) classes (G53.set i_28 (mbA, .inl (γ.2.1, 2176, .inl (upd f_28 (nI z53).toNatClampNeg 0)))) H71 := hP
      have hD3 : va_D A (G53.set i_28 (mbA, .inl (γ.2.1, 2176, .inl (upd f_28 (nI z53).toNatClampNeg 0)))) := hD2
      have hF1 := FR.set (c' := .inl (γ.2.1, 2176, .inl (upd f_28 (nI z53).toNatClampNeg 0))) hg_28 kmbA.1
      have kmo := kmo.fr hF1
      have hFR := hFR.tr hF1.l
      clear hF1
      have hTy := TR.set (c' := .inl (γ.2.1, 2176, .inl (upd f_28 (nI z53).toNatClampNeg 0))) hTy hg_28 (okr_6 kmbA hn_28 _)
      have hD := hD3
      clear hD3 hD2
      generalize G53.set i_28 (mbA, .inl (γ.2.1, 2176, .inl (upd f_28 (nI z53).toNatClampNeg 0))) = G_29 at hP hD hTy hFR kmo 
      refine lv_goto (tgt := 53) hx hb d_Model_digest1_72 (by decide) ?_
      exact ih53 (z53 + 1, G_29) _ _ ls (by dsimp only; omega) ⟨by dsimp only; omega, by dsimp only; omega, hTy, hFR, kmo⟩ hP hD hS (lv_sub hl [0, 1, 2, 3, 4] rfl)
  · have p12 : ¬ (((τ t).te) ≤ ((τ t).tb + z7)) := (fun q9 => c12 ((nI_leI (a := ((τ t).te)) (b := ((τ t).tb + z7)) (by omega) (by omega)).mpr q9))
    refine lv_aload_n hx hb d_Model_digest1_15 rfl (lv_at hl 2 rfl) ?_
    obtain ⟨i_30, hg_30⟩ := List.getElem?_of_mem kmo.2
    rw [eX_mo] at hg_30
    refine va_get (v := .ref mbA) hx hb htb i_Model hown hK hP i_30 hg_30 rfl 11 (by decide) (htb _ q7_225) (fun _ h9 => h9) rfl d_Model_digest1_16 ?_
    refine lv_iload_n hx hb d_Model_digest1_19 rfl (lv_at hl 1 rfl) ?_
    refine lv_iinc (v := nI (z7 + 1)) (lv' := [(2, .int (nI (z7 + 1))), (3, .int (nI ((τ t).tb + z7))), (0, .ref mo), (1, .ref t)]) hx hb d_Model_digest1_20 hl (k := 1) rfl (nI_1 _) (by decide) rfl (fun ls hl => ?_)
    refine lv_aload_n hx hb d_Model_digest1_23 rfl (lv_at hl 3 rfl) ?_
    refine va_get (v := .ref ((τ t).A 0)) hx hb htb i_Text hown hK hP i_2 hg_2 rfl 0 (by decide) (htb _ q6_179) (fun _ h9 => h9) rfl d_Model_digest1_24 ?_
    refine lv_iload_n hx hb d_Model_digest1_27 rfl (lv_at hl 1 rfl) ?_
    obtain ⟨i_31, hg_31⟩ := tr_18 hTy (kA_2 0 (by decide))
    have hg_31 : G7[i_31]? = some (((τ t).A 0), .inl (γ.2.1, 2048, .inl ((τ t).D 0))) := hg_31
    have h28 : vp_in (nI ((τ t).tb + z7)) 2048 := vp_in_nI (by omega) (by omega)
    refine va_iald hx hb hK hP i_31 1 hg_31 rfl h28 d_Model_digest1_28 ?_
    refine lv_topi (fun e28 he28 => ?_)
    obtain ⟨i_32, f_32, hn_32, hg_32⟩ := tr_6 hTy kmbA
    have h29 : vp_in (nI z7) 2176 := vp_in_nI (by omega) (by omega)
    refine va_iast hx hb hK hP hD hS i_32 1 hg_32 rfl h29 d_Model_digest1_29 (fun H29 locs hP hD2 hS => ?_)
    have hP : va_P (dC, dI) classes (G7.set i_32 (mbA, .inl (γ.2.1, 2176, .inl (upd f_32 (nI z7).toNatClampNeg e28)))) H29 := hP
    have hD3 : va_D A (G7.set i_32 (mbA, .inl (γ.2.1, 2176, .inl (upd f_32 (nI z7).toNatClampNeg e28)))) := hD2
    have hF1 := FR.set (c' := .inl (γ.2.1, 2176, .inl (upd f_32 (nI z7).toNatClampNeg e28))) hg_32 kmbA.1
    have kmo := kmo.fr hF1
    have hFR := hFR.tr hF1.l
    clear hF1
    have hTy := TR.set (c' := .inl (γ.2.1, 2176, .inl (upd f_32 (nI z7).toNatClampNeg e28))) hTy hg_32 (okr_6 kmbA hn_32 _)
    have hD := hD3
    have hg_2 := set_keep (c' := .inl (γ.2.1, 2176, .inl (upd f_32 (nI z7).toNatClampNeg e28))) hg_32 hg_2 (tK.ne kmbA kt (show (6 : Nat) ≠ 20 by decide))
    have hg_31 := set_keep (c' := .inl (γ.2.1, 2176, .inl (upd f_32 (nI z7).toNatClampNeg e28))) hg_32 hg_31 (tK.ne kmbA (kA_2 0 (by decide)) (show (6 : Nat) ≠ 18 by decide))
    clear hD3 hD2
    generalize G7.set i_32 (mbA, .inl (γ.2.1, 2176, .inl (upd f_32 (nI z7).toNatClampNeg e28))) = G_33 at hP hD hTy hFR kmo hg_2 hg_31
    refine lv_iinc (v := nI ((τ t).tb + z7 + 1)) (lv' := [(3, .int (nI ((τ t).tb + z7 + 1))), (2, .int (nI (z7 + 1))), (0, .ref mo), (1, .ref t)]) hx hb d_Model_digest1_30 hl (k := 1) rfl (nI_1 _) (by decide) rfl (fun ls hl => ?_)
    refine lv_goto (tgt := 7) hx hb d_Model_digest1_33 (by decide) ?_
    exact ih7 (z7 + 1, G_33) _ _ ls (by dsimp only; omega) ⟨by dsimp only; omega, by dsimp only; omega, hTy, hFR, kmo⟩ hP hD hS (lv_sub hl [0, 1, 2, 3, 4] rfl)
