/-! Sha256.mix: the 64 rounds. -/
abbrev shaT : Type := Int32 × Int32 × Int32 × Int32 × Int32 × Int32 × Int32 × Int32
def shS (rk wk : Int32) (z : shaT) : Int32 := z.2.2.2.2.2.2.2 + ((rotI z.2.2.2.2.1 6 ^^^ rotI z.2.2.2.2.1 11) ^^^ rotI z.2.2.2.2.1 25) + ((z.2.2.2.2.1 &&& z.2.2.2.2.2.1) ^^^ ((z.2.2.2.2.1 ^^^ (-1)) &&& z.2.2.2.2.2.2.1)) + rk + wk
def shU (z : shaT) : Int32 := ((rotI z.1 2 ^^^ rotI z.1 13) ^^^ rotI z.1 22) + (((z.1 &&& z.2.1) ^^^ (z.1 &&& z.2.2.1)) ^^^ (z.2.1 &&& z.2.2.1))
def shStep (rk wk : Int32) (z : shaT) : shaT := (shS rk wk z + shU z, z.1, z.2.1, z.2.2.1, z.2.2.2.1 + shS rk wk z, z.2.2.2.2.1, z.2.2.2.2.2.1, z.2.2.2.2.2.2.1)
def shG (w : Nat → Int32) (z : shaT) : Nat → shaT
  | 0 => z
  | k + 1 => shStep (sv_ROUND.getD k 0) (w k) (shG w z k)
def sh0 (f : Nat → Int32) : shaT := (f 0, f 1, f 2, f 3, f 4, f 5, f 6, f 7)
def shAdd (f : Nat → Int32) (z : shaT) : Nat → Int32 := upd (upd (upd (upd (upd (upd (upd (upd f 0 (f 0 + z.1)) 1 (f 1 + z.2.1)) 2 (f 2 + z.2.2.1)) 3 (f 3 + z.2.2.2.1)) 4 (f 4 + z.2.2.2.2.1)) 5 (f 5 + z.2.2.2.2.2.1)) 6 (f 6 + z.2.2.2.2.2.2.1)) 7 (f 7 + z.2.2.2.2.2.2.2)
theorem shG_s {w : Nat → Int32} {z0 z : shaT} {k : Nat} {a b : Int32} (h : z = shG w z0 k) (ha : a = shS (sv_ROUND.getD k 0) (w k) z + shU z) (hb : b = z.2.2.2.1 + shS (sv_ROUND.getD k 0) (w k) z) : (a, z.1, z.2.1, z.2.2.1, b, z.2.2.2.2.1, z.2.2.2.2.2.1, z.2.2.2.2.2.2.1) = shG w z0 (k + 1) := by
  rw [ha, hb]
  show shStep _ _ z = shStep _ _ (shG w z0 k)
  rw [← h]
def y_Sha256_mix : MethodName := ⟨"TrustChain$Sha256", "mix", "([I)V"⟩
abbrev b_Sha256_mix : ByteArray := prog_11_method_5_code
def w_Sha256_mix : List Cond := Cond.code y_Sha256_mix b_Sha256_mix 15 (none) :: tb
theorem d_Sha256_mix_0 : decode b_Sha256_mix 0 = .ok (.aload_n 1, 1) := by decide +kernel
theorem d_Sha256_mix_1 : decode b_Sha256_mix 1 = .ok (.iconst 0, 1) := by decide +kernel
theorem d_Sha256_mix_2 : decode b_Sha256_mix 2 = .ok (.iaload, 1) := by decide +kernel
theorem d_Sha256_mix_3 : decode b_Sha256_mix 3 = .ok (.istore_n 2, 1) := by decide +kernel
theorem d_Sha256_mix_4 : decode b_Sha256_mix 4 = .ok (.aload_n 1, 1) := by decide +kernel
theorem d_Sha256_mix_5 : decode b_Sha256_mix 5 = .ok (.iconst 1, 1) := by decide +kernel
theorem d_Sha256_mix_6 : decode b_Sha256_mix 6 = .ok (.iaload, 1) := by decide +kernel
theorem d_Sha256_mix_7 : decode b_Sha256_mix 7 = .ok (.istore_n 3, 1) := by decide +kernel
theorem d_Sha256_mix_8 : decode b_Sha256_mix 8 = .ok (.aload_n 1, 1) := by decide +kernel
theorem d_Sha256_mix_9 : decode b_Sha256_mix 9 = .ok (.iconst 2, 1) := by decide +kernel
theorem d_Sha256_mix_10 : decode b_Sha256_mix 10 = .ok (.iaload, 1) := by decide +kernel
theorem d_Sha256_mix_11 : decode b_Sha256_mix 11 = .ok (.istore 4, 2) := by decide +kernel
theorem d_Sha256_mix_13 : decode b_Sha256_mix 13 = .ok (.aload_n 1, 1) := by decide +kernel
theorem d_Sha256_mix_14 : decode b_Sha256_mix 14 = .ok (.iconst 3, 1) := by decide +kernel
theorem d_Sha256_mix_15 : decode b_Sha256_mix 15 = .ok (.iaload, 1) := by decide +kernel
theorem d_Sha256_mix_16 : decode b_Sha256_mix 16 = .ok (.istore 5, 2) := by decide +kernel
theorem d_Sha256_mix_18 : decode b_Sha256_mix 18 = .ok (.aload_n 1, 1) := by decide +kernel
theorem d_Sha256_mix_19 : decode b_Sha256_mix 19 = .ok (.iconst 4, 1) := by decide +kernel
theorem d_Sha256_mix_20 : decode b_Sha256_mix 20 = .ok (.iaload, 1) := by decide +kernel
theorem d_Sha256_mix_21 : decode b_Sha256_mix 21 = .ok (.istore 6, 2) := by decide +kernel
theorem d_Sha256_mix_23 : decode b_Sha256_mix 23 = .ok (.aload_n 1, 1) := by decide +kernel
theorem d_Sha256_mix_24 : decode b_Sha256_mix 24 = .ok (.iconst 5, 1) := by decide +kernel
theorem d_Sha256_mix_25 : decode b_Sha256_mix 25 = .ok (.iaload, 1) := by decide +kernel
theorem d_Sha256_mix_26 : decode b_Sha256_mix 26 = .ok (.istore 7, 2) := by decide +kernel
theorem d_Sha256_mix_28 : decode b_Sha256_mix 28 = .ok (.aload_n 1, 1) := by decide +kernel
theorem d_Sha256_mix_29 : decode b_Sha256_mix 29 = .ok (.bipush 6, 2) := by decide +kernel
theorem d_Sha256_mix_31 : decode b_Sha256_mix 31 = .ok (.iaload, 1) := by decide +kernel
theorem d_Sha256_mix_32 : decode b_Sha256_mix 32 = .ok (.istore 8, 2) := by decide +kernel
theorem d_Sha256_mix_34 : decode b_Sha256_mix 34 = .ok (.aload_n 1, 1) := by decide +kernel
theorem d_Sha256_mix_35 : decode b_Sha256_mix 35 = .ok (.bipush 7, 2) := by decide +kernel
theorem d_Sha256_mix_37 : decode b_Sha256_mix 37 = .ok (.iaload, 1) := by decide +kernel
theorem d_Sha256_mix_38 : decode b_Sha256_mix 38 = .ok (.istore 9, 2) := by decide +kernel
theorem d_Sha256_mix_40 : decode b_Sha256_mix 40 = .ok (.iconst 0, 1) := by decide +kernel
theorem d_Sha256_mix_41 : decode b_Sha256_mix 41 = .ok (.istore 10, 2) := by decide +kernel
theorem d_Sha256_mix_43 : decode b_Sha256_mix 43 = .ok (.iload 10, 2) := by decide +kernel
theorem d_Sha256_mix_45 : decode b_Sha256_mix 45 = .ok (.bipush 64, 2) := by decide +kernel
theorem d_Sha256_mix_47 : decode b_Sha256_mix 47 = .ok (.if_icmp .ge 143, 3) := by decide +kernel
theorem d_Sha256_mix_50 : decode b_Sha256_mix 50 = .ok (.iload 6, 2) := by decide +kernel
theorem d_Sha256_mix_52 : decode b_Sha256_mix 52 = .ok (.bipush 6, 2) := by decide +kernel
theorem d_Sha256_mix_54 : decode b_Sha256_mix 54 = .ok (.invokestatic 42, 3) := by decide +kernel
theorem d_Sha256_mix_57 : decode b_Sha256_mix 57 = .ok (.iload 6, 2) := by decide +kernel
theorem d_Sha256_mix_59 : decode b_Sha256_mix 59 = .ok (.bipush 11, 2) := by decide +kernel
theorem d_Sha256_mix_61 : decode b_Sha256_mix 61 = .ok (.invokestatic 42, 3) := by decide +kernel
theorem d_Sha256_mix_64 : decode b_Sha256_mix 64 = .ok (.ixor, 1) := by decide +kernel
theorem d_Sha256_mix_65 : decode b_Sha256_mix 65 = .ok (.iload 6, 2) := by decide +kernel
theorem d_Sha256_mix_67 : decode b_Sha256_mix 67 = .ok (.bipush 25, 2) := by decide +kernel
theorem d_Sha256_mix_69 : decode b_Sha256_mix 69 = .ok (.invokestatic 42, 3) := by decide +kernel
theorem d_Sha256_mix_72 : decode b_Sha256_mix 72 = .ok (.ixor, 1) := by decide +kernel
theorem d_Sha256_mix_73 : decode b_Sha256_mix 73 = .ok (.istore 11, 2) := by decide +kernel
theorem d_Sha256_mix_75 : decode b_Sha256_mix 75 = .ok (.iload 9, 2) := by decide +kernel
theorem d_Sha256_mix_77 : decode b_Sha256_mix 77 = .ok (.iload 11, 2) := by decide +kernel
theorem d_Sha256_mix_79 : decode b_Sha256_mix 79 = .ok (.iadd, 1) := by decide +kernel
theorem d_Sha256_mix_80 : decode b_Sha256_mix 80 = .ok (.iload 6, 2) := by decide +kernel
theorem d_Sha256_mix_82 : decode b_Sha256_mix 82 = .ok (.iload 7, 2) := by decide +kernel
theorem d_Sha256_mix_84 : decode b_Sha256_mix 84 = .ok (.iand, 1) := by decide +kernel
theorem d_Sha256_mix_85 : decode b_Sha256_mix 85 = .ok (.iload 6, 2) := by decide +kernel
theorem d_Sha256_mix_87 : decode b_Sha256_mix 87 = .ok (.iconst (-1), 1) := by decide +kernel
theorem d_Sha256_mix_88 : decode b_Sha256_mix 88 = .ok (.ixor, 1) := by decide +kernel
theorem d_Sha256_mix_89 : decode b_Sha256_mix 89 = .ok (.iload 8, 2) := by decide +kernel
theorem d_Sha256_mix_91 : decode b_Sha256_mix 91 = .ok (.iand, 1) := by decide +kernel
theorem d_Sha256_mix_92 : decode b_Sha256_mix 92 = .ok (.ixor, 1) := by decide +kernel
theorem d_Sha256_mix_93 : decode b_Sha256_mix 93 = .ok (.iadd, 1) := by decide +kernel
theorem d_Sha256_mix_94 : decode b_Sha256_mix 94 = .ok (.getstatic 50, 3) := by decide +kernel
theorem d_Sha256_mix_97 : decode b_Sha256_mix 97 = .ok (.iload 10, 2) := by decide +kernel
theorem d_Sha256_mix_99 : decode b_Sha256_mix 99 = .ok (.iaload, 1) := by decide +kernel
theorem d_Sha256_mix_100 : decode b_Sha256_mix 100 = .ok (.iadd, 1) := by decide +kernel
theorem d_Sha256_mix_101 : decode b_Sha256_mix 101 = .ok (.aload_n 0, 1) := by decide +kernel
theorem d_Sha256_mix_102 : decode b_Sha256_mix 102 = .ok (.getfield 11, 3) := by decide +kernel
theorem d_Sha256_mix_105 : decode b_Sha256_mix 105 = .ok (.iload 10, 2) := by decide +kernel
theorem d_Sha256_mix_107 : decode b_Sha256_mix 107 = .ok (.iaload, 1) := by decide +kernel
theorem d_Sha256_mix_108 : decode b_Sha256_mix 108 = .ok (.iadd, 1) := by decide +kernel
theorem d_Sha256_mix_109 : decode b_Sha256_mix 109 = .ok (.istore 12, 2) := by decide +kernel
theorem d_Sha256_mix_111 : decode b_Sha256_mix 111 = .ok (.iload_n 2, 1) := by decide +kernel
theorem d_Sha256_mix_112 : decode b_Sha256_mix 112 = .ok (.iconst 2, 1) := by decide +kernel
theorem d_Sha256_mix_113 : decode b_Sha256_mix 113 = .ok (.invokestatic 42, 3) := by decide +kernel
theorem d_Sha256_mix_116 : decode b_Sha256_mix 116 = .ok (.iload_n 2, 1) := by decide +kernel
theorem d_Sha256_mix_117 : decode b_Sha256_mix 117 = .ok (.bipush 13, 2) := by decide +kernel
theorem d_Sha256_mix_119 : decode b_Sha256_mix 119 = .ok (.invokestatic 42, 3) := by decide +kernel
theorem d_Sha256_mix_122 : decode b_Sha256_mix 122 = .ok (.ixor, 1) := by decide +kernel
theorem d_Sha256_mix_123 : decode b_Sha256_mix 123 = .ok (.iload_n 2, 1) := by decide +kernel
theorem d_Sha256_mix_124 : decode b_Sha256_mix 124 = .ok (.bipush 22, 2) := by decide +kernel
theorem d_Sha256_mix_126 : decode b_Sha256_mix 126 = .ok (.invokestatic 42, 3) := by decide +kernel
theorem d_Sha256_mix_129 : decode b_Sha256_mix 129 = .ok (.ixor, 1) := by decide +kernel
theorem d_Sha256_mix_130 : decode b_Sha256_mix 130 = .ok (.istore 13, 2) := by decide +kernel
theorem d_Sha256_mix_132 : decode b_Sha256_mix 132 = .ok (.iload 13, 2) := by decide +kernel
theorem d_Sha256_mix_134 : decode b_Sha256_mix 134 = .ok (.iload_n 2, 1) := by decide +kernel
theorem d_Sha256_mix_135 : decode b_Sha256_mix 135 = .ok (.iload_n 3, 1) := by decide +kernel
theorem d_Sha256_mix_136 : decode b_Sha256_mix 136 = .ok (.iand, 1) := by decide +kernel
theorem d_Sha256_mix_137 : decode b_Sha256_mix 137 = .ok (.iload_n 2, 1) := by decide +kernel
theorem d_Sha256_mix_138 : decode b_Sha256_mix 138 = .ok (.iload 4, 2) := by decide +kernel
theorem d_Sha256_mix_140 : decode b_Sha256_mix 140 = .ok (.iand, 1) := by decide +kernel
theorem d_Sha256_mix_141 : decode b_Sha256_mix 141 = .ok (.ixor, 1) := by decide +kernel
theorem d_Sha256_mix_142 : decode b_Sha256_mix 142 = .ok (.iload_n 3, 1) := by decide +kernel
theorem d_Sha256_mix_143 : decode b_Sha256_mix 143 = .ok (.iload 4, 2) := by decide +kernel
theorem d_Sha256_mix_145 : decode b_Sha256_mix 145 = .ok (.iand, 1) := by decide +kernel
theorem d_Sha256_mix_146 : decode b_Sha256_mix 146 = .ok (.ixor, 1) := by decide +kernel
theorem d_Sha256_mix_147 : decode b_Sha256_mix 147 = .ok (.iadd, 1) := by decide +kernel
theorem d_Sha256_mix_148 : decode b_Sha256_mix 148 = .ok (.istore 14, 2) := by decide +kernel
theorem d_Sha256_mix_150 : decode b_Sha256_mix 150 = .ok (.iload 8, 2) := by decide +kernel
theorem d_Sha256_mix_152 : decode b_Sha256_mix 152 = .ok (.istore 9, 2) := by decide +kernel
theorem d_Sha256_mix_154 : decode b_Sha256_mix 154 = .ok (.iload 7, 2) := by decide +kernel
theorem d_Sha256_mix_156 : decode b_Sha256_mix 156 = .ok (.istore 8, 2) := by decide +kernel
theorem d_Sha256_mix_158 : decode b_Sha256_mix 158 = .ok (.iload 6, 2) := by decide +kernel
theorem d_Sha256_mix_160 : decode b_Sha256_mix 160 = .ok (.istore 7, 2) := by decide +kernel
theorem d_Sha256_mix_162 : decode b_Sha256_mix 162 = .ok (.iload 5, 2) := by decide +kernel
theorem d_Sha256_mix_164 : decode b_Sha256_mix 164 = .ok (.iload 12, 2) := by decide +kernel
theorem d_Sha256_mix_166 : decode b_Sha256_mix 166 = .ok (.iadd, 1) := by decide +kernel
theorem d_Sha256_mix_167 : decode b_Sha256_mix 167 = .ok (.istore 6, 2) := by decide +kernel
theorem d_Sha256_mix_169 : decode b_Sha256_mix 169 = .ok (.iload 4, 2) := by decide +kernel
theorem d_Sha256_mix_171 : decode b_Sha256_mix 171 = .ok (.istore 5, 2) := by decide +kernel
theorem d_Sha256_mix_173 : decode b_Sha256_mix 173 = .ok (.iload_n 3, 1) := by decide +kernel
theorem d_Sha256_mix_174 : decode b_Sha256_mix 174 = .ok (.istore 4, 2) := by decide +kernel
theorem d_Sha256_mix_176 : decode b_Sha256_mix 176 = .ok (.iload_n 2, 1) := by decide +kernel
theorem d_Sha256_mix_177 : decode b_Sha256_mix 177 = .ok (.istore_n 3, 1) := by decide +kernel
theorem d_Sha256_mix_178 : decode b_Sha256_mix 178 = .ok (.iload 12, 2) := by decide +kernel
theorem d_Sha256_mix_180 : decode b_Sha256_mix 180 = .ok (.iload 14, 2) := by decide +kernel
theorem d_Sha256_mix_182 : decode b_Sha256_mix 182 = .ok (.iadd, 1) := by decide +kernel
theorem d_Sha256_mix_183 : decode b_Sha256_mix 183 = .ok (.istore_n 2, 1) := by decide +kernel
theorem d_Sha256_mix_184 : decode b_Sha256_mix 184 = .ok (.iinc 10 1, 3) := by decide +kernel
theorem d_Sha256_mix_187 : decode b_Sha256_mix 187 = .ok (.goto (-144), 3) := by decide +kernel
theorem d_Sha256_mix_190 : decode b_Sha256_mix 190 = .ok (.aload_n 1, 1) := by decide +kernel
theorem d_Sha256_mix_191 : decode b_Sha256_mix 191 = .ok (.iconst 0, 1) := by decide +kernel
theorem d_Sha256_mix_192 : decode b_Sha256_mix 192 = .ok (.dup2, 1) := by decide +kernel
theorem d_Sha256_mix_193 : decode b_Sha256_mix 193 = .ok (.iaload, 1) := by decide +kernel
theorem d_Sha256_mix_194 : decode b_Sha256_mix 194 = .ok (.iload_n 2, 1) := by decide +kernel
theorem d_Sha256_mix_195 : decode b_Sha256_mix 195 = .ok (.iadd, 1) := by decide +kernel
theorem d_Sha256_mix_196 : decode b_Sha256_mix 196 = .ok (.iastore, 1) := by decide +kernel
theorem d_Sha256_mix_197 : decode b_Sha256_mix 197 = .ok (.aload_n 1, 1) := by decide +kernel
theorem d_Sha256_mix_198 : decode b_Sha256_mix 198 = .ok (.iconst 1, 1) := by decide +kernel
theorem d_Sha256_mix_199 : decode b_Sha256_mix 199 = .ok (.dup2, 1) := by decide +kernel
theorem d_Sha256_mix_200 : decode b_Sha256_mix 200 = .ok (.iaload, 1) := by decide +kernel
theorem d_Sha256_mix_201 : decode b_Sha256_mix 201 = .ok (.iload_n 3, 1) := by decide +kernel
theorem d_Sha256_mix_202 : decode b_Sha256_mix 202 = .ok (.iadd, 1) := by decide +kernel
theorem d_Sha256_mix_203 : decode b_Sha256_mix 203 = .ok (.iastore, 1) := by decide +kernel
theorem d_Sha256_mix_204 : decode b_Sha256_mix 204 = .ok (.aload_n 1, 1) := by decide +kernel
theorem d_Sha256_mix_205 : decode b_Sha256_mix 205 = .ok (.iconst 2, 1) := by decide +kernel
theorem d_Sha256_mix_206 : decode b_Sha256_mix 206 = .ok (.dup2, 1) := by decide +kernel
theorem d_Sha256_mix_207 : decode b_Sha256_mix 207 = .ok (.iaload, 1) := by decide +kernel
theorem d_Sha256_mix_208 : decode b_Sha256_mix 208 = .ok (.iload 4, 2) := by decide +kernel
theorem d_Sha256_mix_210 : decode b_Sha256_mix 210 = .ok (.iadd, 1) := by decide +kernel
theorem d_Sha256_mix_211 : decode b_Sha256_mix 211 = .ok (.iastore, 1) := by decide +kernel
theorem d_Sha256_mix_212 : decode b_Sha256_mix 212 = .ok (.aload_n 1, 1) := by decide +kernel
theorem d_Sha256_mix_213 : decode b_Sha256_mix 213 = .ok (.iconst 3, 1) := by decide +kernel
theorem d_Sha256_mix_214 : decode b_Sha256_mix 214 = .ok (.dup2, 1) := by decide +kernel
theorem d_Sha256_mix_215 : decode b_Sha256_mix 215 = .ok (.iaload, 1) := by decide +kernel
theorem d_Sha256_mix_216 : decode b_Sha256_mix 216 = .ok (.iload 5, 2) := by decide +kernel
theorem d_Sha256_mix_218 : decode b_Sha256_mix 218 = .ok (.iadd, 1) := by decide +kernel
theorem d_Sha256_mix_219 : decode b_Sha256_mix 219 = .ok (.iastore, 1) := by decide +kernel
theorem d_Sha256_mix_220 : decode b_Sha256_mix 220 = .ok (.aload_n 1, 1) := by decide +kernel
theorem d_Sha256_mix_221 : decode b_Sha256_mix 221 = .ok (.iconst 4, 1) := by decide +kernel
theorem d_Sha256_mix_222 : decode b_Sha256_mix 222 = .ok (.dup2, 1) := by decide +kernel
theorem d_Sha256_mix_223 : decode b_Sha256_mix 223 = .ok (.iaload, 1) := by decide +kernel
theorem d_Sha256_mix_224 : decode b_Sha256_mix 224 = .ok (.iload 6, 2) := by decide +kernel
theorem d_Sha256_mix_226 : decode b_Sha256_mix 226 = .ok (.iadd, 1) := by decide +kernel
theorem d_Sha256_mix_227 : decode b_Sha256_mix 227 = .ok (.iastore, 1) := by decide +kernel
theorem d_Sha256_mix_228 : decode b_Sha256_mix 228 = .ok (.aload_n 1, 1) := by decide +kernel
theorem d_Sha256_mix_229 : decode b_Sha256_mix 229 = .ok (.iconst 5, 1) := by decide +kernel
theorem d_Sha256_mix_230 : decode b_Sha256_mix 230 = .ok (.dup2, 1) := by decide +kernel
theorem d_Sha256_mix_231 : decode b_Sha256_mix 231 = .ok (.iaload, 1) := by decide +kernel
theorem d_Sha256_mix_232 : decode b_Sha256_mix 232 = .ok (.iload 7, 2) := by decide +kernel
theorem d_Sha256_mix_234 : decode b_Sha256_mix 234 = .ok (.iadd, 1) := by decide +kernel
theorem d_Sha256_mix_235 : decode b_Sha256_mix 235 = .ok (.iastore, 1) := by decide +kernel
theorem d_Sha256_mix_236 : decode b_Sha256_mix 236 = .ok (.aload_n 1, 1) := by decide +kernel
theorem d_Sha256_mix_237 : decode b_Sha256_mix 237 = .ok (.bipush 6, 2) := by decide +kernel
theorem d_Sha256_mix_239 : decode b_Sha256_mix 239 = .ok (.dup2, 1) := by decide +kernel
theorem d_Sha256_mix_240 : decode b_Sha256_mix 240 = .ok (.iaload, 1) := by decide +kernel
theorem d_Sha256_mix_241 : decode b_Sha256_mix 241 = .ok (.iload 8, 2) := by decide +kernel
theorem d_Sha256_mix_243 : decode b_Sha256_mix 243 = .ok (.iadd, 1) := by decide +kernel
theorem d_Sha256_mix_244 : decode b_Sha256_mix 244 = .ok (.iastore, 1) := by decide +kernel
theorem d_Sha256_mix_245 : decode b_Sha256_mix 245 = .ok (.aload_n 1, 1) := by decide +kernel
theorem d_Sha256_mix_246 : decode b_Sha256_mix 246 = .ok (.bipush 7, 2) := by decide +kernel
theorem d_Sha256_mix_248 : decode b_Sha256_mix 248 = .ok (.dup2, 1) := by decide +kernel
theorem d_Sha256_mix_249 : decode b_Sha256_mix 249 = .ok (.iaload, 1) := by decide +kernel
theorem d_Sha256_mix_250 : decode b_Sha256_mix 250 = .ok (.iload 9, 2) := by decide +kernel
theorem d_Sha256_mix_252 : decode b_Sha256_mix 252 = .ok (.iadd, 1) := by decide +kernel
theorem d_Sha256_mix_253 : decode b_Sha256_mix 253 = .ok (.iastore, 1) := by decide +kernel
theorem d_Sha256_mix_254 : decode b_Sha256_mix 254 = .ok (.return_, 1) := by decide +kernel
set_option maxHeartbeats 4000000 in
set_option maxRecDepth 100000 in
theorem c_Sha256_mix (l : Launch) (dC : Nat → ClassId) (dI : Nat → Nat → Nat) (sb : sB) (q0 sc su : Nat) (cI : ClassId) (f g : Nat → Int32) (sz : Nat) : Met l y_Sha256_mix w_Sha256_mix ({ frames := 1, cells := 0, slots := 0, locals := 21 }) (mu_P [.ref q0, .ref su] (dC, dI) sb [(q0, .inr (6, [.ref sc])), (sc, .inl (cI, 64, .inl g)), (su, .inl (cI, 8, .inl f))] [(cI, .int)] sz) (va_Qv (fun (u' : shaT) => u' = shG g (sh0 f) 64) (mu_B (dC, dI) [(cI, .int)] (va_A [(q0, .inr (6, [.ref sc])), (sc, .inl (cI, 64, .inl g)), (su, .inl (cI, 8, .inl f))] sz) (fun u' : shaT => [(q0, .inr (6, [.ref sc])), (sc, .inl (cI, 64, .inl g)), (su, .inl (cI, 8, .inl (shAdd f u')))])) (va_A [(q0, .inr (6, [.ref sc])), (sc, .inl (cI, 64, .inl g)), (su, .inl (cI, 8, .inl f))] sz)) 0 0 (va_A [(q0, .inr (6, [.ref sc])), (sc, .inl (cI, 64, .inl g)), (su, .inl (cI, 8, .inl f))] sz) := by
  refine Met.ofW (cc := b_Sha256_mix) (maxL := 15) (ret := none) (by decide) rfl ?_
  intro p e s m args below meth c s₁ B hml hv
  obtain ⟨rfl, hsz, hB0, hP, hK, hD0, hN, hT0⟩ := hv
  have hx := B.exec
  have hb := B.bytes
  have hr := B.returns
  have hts := atoms_spec (ws := w_Sha256_mix) B.pre
  have tbin : ∀ w ∈ tb, w ∈ w_Sha256_mix := fun w h => List.mem_cons_of_mem _ h
  have htb : ∀ w ∈ tb, w.before _ s = true := fun w h => hts w (tbin w h)
  have hown : s.vm.findClass "TrustChain$Sha256" = some m.cls := findClass_of_methodNamed B.named
  have hlocks := B.notSynchronized
  subst hsz
  have hD := hD0.self (sz := s.heap.size)
  generalize hAe : va_A [(q0, .inr (6, [.ref sc])), (sc, .inl (cI, 64, .inl g)), (su, .inl (cI, 8, .inl f))] s.heap.size = A at hD ⊢
  have hA : ∀ q : Nat, s.heap.size ≤ q → A q := fun q h => by rw [← hAe]; exact Or.inr h
  have hAs : ∀ q : Nat, A q → sb.1 ≤ q := fun q h => by
    rw [← hAe] at h
    rcases h with ⟨k, e, h⟩ | h
    · exact hD0.2 k _ h
    · exact Nat.le_trans hB0 h
  have hS : va_S A s.heap s.heap [] := va_S.rf
  have hcs : 0 ≤ (headSpec w_Sha256_mix ({ frames := 1, cells := 0, slots := 0, locals := 21 })).room.cells ∧ 0 ≤ (headSpec w_Sha256_mix ({ frames := 1, cells := 0, slots := 0, locals := 21 })).room.slots := ⟨Nat.le_refl _, Nat.le_refl _⟩
  have hP : va_P (dC, dI) classes [(q0, .inr (6, [.ref sc])), (sc, .inl (cI, 64, .inl g)), (su, .inl (cI, 8, .inl f))] s.heap := hP
  have hl := lv_entry ([.ref q0, .ref su]) (n := 15) (Nat.le_of_ble_eq_true rfl)
  rw [lg_entry_eq]
  generalize (lg_sl ([.ref q0, .ref su]) ++ List.replicate (15 - (lg_sl ([.ref q0, .ref su])).length) Slot.unset).toArray = ls at hl ⊢
  have hl : lv_has ls 15 [(0, .ref q0), (1, .ref su)] := hl
  refine lv_aload_n hx hb d_Sha256_mix_0 rfl (lv_at hl 1 rfl) ?_
  refine lv_iconst (v := 0) hx hb d_Sha256_mix_1 (by decide) ?_
  have h2 : vp_in 0 8 := by unfold vp_in; decide
  refine va_iald hx hb hK hP 2 0 rfl rfl h2 d_Sha256_mix_2 ?_
  rw [show (f (0 : Int32).toNatClampNeg : Int32) = f 0 from rfl]
  refine lv_istore_n (lv' := [(2, .int (f 0)), (0, .ref q0), (1, .ref su)]) hx hb d_Sha256_mix_3 rfl hl (by decide) rfl (fun ls hl => ?_)
  refine lv_aload_n hx hb d_Sha256_mix_4 rfl (lv_at hl 2 rfl) ?_
  refine lv_iconst (v := 1) hx hb d_Sha256_mix_5 (by decide) ?_
  have h6 : vp_in 1 8 := by unfold vp_in; decide
  refine va_iald hx hb hK hP 2 0 rfl rfl h6 d_Sha256_mix_6 ?_
  rw [show (f (1 : Int32).toNatClampNeg : Int32) = f 1 from rfl]
  refine lv_istore_n (lv' := [(3, .int (f 1)), (2, .int (f 0)), (0, .ref q0), (1, .ref su)]) hx hb d_Sha256_mix_7 rfl hl (by decide) rfl (fun ls hl => ?_)
  refine lv_aload_n hx hb d_Sha256_mix_8 rfl (lv_at hl 3 rfl) ?_
  refine lv_iconst (v := 2) hx hb d_Sha256_mix_9 (by decide) ?_
  have h10 : vp_in 2 8 := by unfold vp_in; decide
  refine va_iald hx hb hK hP 2 0 rfl rfl h10 d_Sha256_mix_10 ?_
  rw [show (f (2 : Int32).toNatClampNeg : Int32) = f 2 from rfl]
  refine lv_istore (lv' := [(4, .int (f 2)), (3, .int (f 1)), (2, .int (f 0)), (0, .ref q0), (1, .ref su)]) hx hb d_Sha256_mix_11 hl (by decide) rfl (fun ls hl => ?_)
  refine lv_aload_n hx hb d_Sha256_mix_13 rfl (lv_at hl 4 rfl) ?_
  refine lv_iconst (v := 3) hx hb d_Sha256_mix_14 (by decide) ?_
  have h15 : vp_in 3 8 := by unfold vp_in; decide
  refine va_iald hx hb hK hP 2 0 rfl rfl h15 d_Sha256_mix_15 ?_
  rw [show (f (3 : Int32).toNatClampNeg : Int32) = f 3 from rfl]
  refine lv_istore (lv' := [(5, .int (f 3)), (4, .int (f 2)), (3, .int (f 1)), (2, .int (f 0)), (0, .ref q0), (1, .ref su)]) hx hb d_Sha256_mix_16 hl (by decide) rfl (fun ls hl => ?_)
  refine lv_aload_n hx hb d_Sha256_mix_18 rfl (lv_at hl 5 rfl) ?_
  refine lv_iconst (v := 4) hx hb d_Sha256_mix_19 (by decide) ?_
  have h20 : vp_in 4 8 := by unfold vp_in; decide
  refine va_iald hx hb hK hP 2 0 rfl rfl h20 d_Sha256_mix_20 ?_
  rw [show (f (4 : Int32).toNatClampNeg : Int32) = f 4 from rfl]
  refine lv_istore (lv' := [(6, .int (f 4)), (5, .int (f 3)), (4, .int (f 2)), (3, .int (f 1)), (2, .int (f 0)), (0, .ref q0), (1, .ref su)]) hx hb d_Sha256_mix_21 hl (by decide) rfl (fun ls hl => ?_)
  refine lv_aload_n hx hb d_Sha256_mix_23 rfl (lv_at hl 6 rfl) ?_
  refine lv_iconst (v := 5) hx hb d_Sha256_mix_24 (by decide) ?_
  have h25 : vp_in 5 8 := by unfold vp_in; decide
  refine va_iald hx hb hK hP 2 0 rfl rfl h25 d_Sha256_mix_25 ?_
  rw [show (f (5 : Int32).toNatClampNeg : Int32) = f 5 from rfl]
  refine lv_istore (lv' := [(7, .int (f 5)), (6, .int (f 4)), (5, .int (f 3)), (4, .int (f 2)), (3, .int (f 1)), (2, .int (f 0)), (0, .ref q0), (1, .ref su)]) hx hb d_Sha256_mix_26 hl (by decide) rfl (fun ls hl => ?_)
  refine lv_aload_n hx hb d_Sha256_mix_28 rfl (lv_at hl 7 rfl) ?_
  refine lv_bipush (v := 6) hx hb d_Sha256_mix_29 (by decide) ?_
  have h31 : vp_in 6 8 := by unfold vp_in; decide
  refine va_iald hx hb hK hP 2 0 rfl rfl h31 d_Sha256_mix_31 ?_
  rw [show (f (6 : Int32).toNatClampNeg : Int32) = f 6 from rfl]
  refine lv_istore (lv' := [(8, .int (f 6)), (7, .int (f 5)), (6, .int (f 4)), (5, .int (f 3)), (4, .int (f 2)), (3, .int (f 1)), (2, .int (f 0)), (0, .ref q0), (1, .ref su)]) hx hb d_Sha256_mix_32 hl (by decide) rfl (fun ls hl => ?_)
  refine lv_aload_n hx hb d_Sha256_mix_34 rfl (lv_at hl 8 rfl) ?_
  refine lv_bipush (v := 7) hx hb d_Sha256_mix_35 (by decide) ?_
  have h37 : vp_in 7 8 := by unfold vp_in; decide
  refine va_iald hx hb hK hP 2 0 rfl rfl h37 d_Sha256_mix_37 ?_
  rw [show (f (7 : Int32).toNatClampNeg : Int32) = f 7 from rfl]
  refine lv_istore (lv' := [(9, .int (f 7)), (8, .int (f 6)), (7, .int (f 5)), (6, .int (f 4)), (5, .int (f 3)), (4, .int (f 2)), (3, .int (f 1)), (2, .int (f 0)), (0, .ref q0), (1, .ref su)]) hx hb d_Sha256_mix_38 hl (by decide) rfl (fun ls hl => ?_)
  refine lv_iconst (v := 0) hx hb d_Sha256_mix_40 (by decide) ?_
  refine lv_istore (lv' := [(10, .int 0), (9, .int (f 7)), (8, .int (f 6)), (7, .int (f 5)), (6, .int (f 4)), (5, .int (f 3)), (4, .int (f 2)), (3, .int (f 1)), (2, .int (f 0)), (0, .ref q0), (1, .ref su)]) hx hb d_Sha256_mix_41 hl (by decide) rfl (fun ls hl => ?_)
  refine w_loop (α := Nat × shaT) (fun z => z.1 ≤ 64 ∧ z.2 = shG g (sh0 f) z.1) (fun z => 64 - z.1) (fun z => [(0, .ref q0), (1, .ref su), (2, .int z.2.1), (3, .int z.2.2.1), (4, .int z.2.2.2.1), (5, .int z.2.2.2.2.1), (6, .int z.2.2.2.2.2.1), (7, .int z.2.2.2.2.2.2.1), (8, .int z.2.2.2.2.2.2.2.1), (9, .int z.2.2.2.2.2.2.2.2), (10, .int (nI (z.1)))]) (fun _ => []) 15 43 (fun z ls hJ hl ih => ?_) (0, sh0 f) ls (⟨Nat.zero_le _, rfl⟩) (lv_sub hl [9, 10, 8, 7, 6, 5, 4, 3, 2, 1, 0] rfl)
  refine lv_iload hx hb d_Sha256_mix_43 (lv_at hl 10 rfl) ?_
  refine lv_bipush (v := 64) hx hb d_Sha256_mix_45 (by decide) ?_
  refine lv_icmp_ge (tgt := 190) hx hb d_Sha256_mix_47 (by decide) (fun c47 => ?_) (fun c47 => ?_)
  · have hke : z.1 = 64 := by rw [show (64 : Int32) = nI 64 from rfl, nI_leI (by omega) (by omega)] at c47; omega
    refine lv_aload_n hx hb d_Sha256_mix_190 rfl (lv_at hl 1 rfl) ?_
    refine lv_iconst (v := 0) hx hb d_Sha256_mix_191 (by decide) ?_
    refine lv_dup2_11 hx hb d_Sha256_mix_192 rfl rfl ?_
    have h193 : vp_in 0 8 := by unfold vp_in; decide
    refine va_iald hx hb hK hP 2 0 rfl rfl h193 d_Sha256_mix_193 ?_
    rw [show (f (0 : Int32).toNatClampNeg : Int32) = f 0 from rfl]
    refine lv_iload_n hx hb d_Sha256_mix_194 rfl (lv_at hl 2 rfl) ?_
    refine lv_iadd hx hb d_Sha256_mix_195 ?_
    have h196 : vp_in 0 8 := by unfold vp_in; decide
    refine va_iast hx hb hK hP hD hS 2 0 rfl rfl h196 d_Sha256_mix_196 (fun H196 locs hP hD hS => ?_)
    have hP : va_P (dC, dI) classes [(q0, .inr (6, [.ref sc])), (sc, .inl (cI, 64, .inl g)), (su, .inl (cI, 8, .inl (upd f 0 (f 0 + z.2.1))))] H196 := hP
    have hD : va_D A [(q0, .inr (6, [.ref sc])), (sc, .inl (cI, 64, .inl g)), (su, .inl (cI, 8, .inl (upd f 0 (f 0 + z.2.1))))] := hD
    refine lv_aload_n hx hb d_Sha256_mix_197 rfl (lv_at hl 1 rfl) ?_
    refine lv_iconst (v := 1) hx hb d_Sha256_mix_198 (by decide) ?_
    refine lv_dup2_11 hx hb d_Sha256_mix_199 rfl rfl ?_
    have h200 : vp_in 1 8 := by unfold vp_in; decide
    refine va_iald hx hb hK hP 2 0 rfl rfl h200 d_Sha256_mix_200 ?_
    rw [show ((upd f 0 (f 0 + z.2.1)) (1 : Int32).toNatClampNeg : Int32) = f 1 from by rw [show (1 : Int32).toNatClampNeg = 1 from by decide]; simp [upd]]
    refine lv_iload_n hx hb d_Sha256_mix_201 rfl (lv_at hl 3 rfl) ?_
    refine lv_iadd hx hb d_Sha256_mix_202 ?_
    have h203 : vp_in 1 8 := by unfold vp_in; decide
    refine va_iast hx hb hK hP hD hS 2 0 rfl rfl h203 d_Sha256_mix_203 (fun H203 locs hP hD hS => ?_)
    have hP : va_P (dC, dI) classes [(q0, .inr (6, [.ref sc])), (sc, .inl (cI, 64, .inl g)), (su, .inl (cI, 8, .inl (upd (upd f 0 (f 0 + z.2.1)) 1 (f 1 + z.2.2.1))))] H203 := hP
    have hD : va_D A [(q0, .inr (6, [.ref sc])), (sc, .inl (cI, 64, .inl g)), (su, .inl (cI, 8, .inl (upd (upd f 0 (f 0 + z.2.1)) 1 (f 1 + z.2.2.1))))] := hD
    refine lv_aload_n hx hb d_Sha256_mix_204 rfl (lv_at hl 1 rfl) ?_
    refine lv_iconst (v := 2) hx hb d_Sha256_mix_205 (by decide) ?_
    refine lv_dup2_11 hx hb d_Sha256_mix_206 rfl rfl ?_
    have h207 : vp_in 2 8 := by unfold vp_in; decide
    refine va_iald hx hb hK hP 2 0 rfl rfl h207 d_Sha256_mix_207 ?_
    rw [show ((upd (upd f 0 (f 0 + z.2.1)) 1 (f 1 + z.2.2.1)) (2 : Int32).toNatClampNeg : Int32) = f 2 from by rw [show (2 : Int32).toNatClampNeg = 2 from by decide]; simp [upd]]
    refine lv_iload hx hb d_Sha256_mix_208 (lv_at hl 4 rfl) ?_
    refine lv_iadd hx hb d_Sha256_mix_210 ?_
    have h211 : vp_in 2 8 := by unfold vp_in; decide
    refine va_iast hx hb hK hP hD hS 2 0 rfl rfl h211 d_Sha256_mix_211 (fun H211 locs hP hD hS => ?_)
    have hP : va_P (dC, dI) classes [(q0, .inr (6, [.ref sc])), (sc, .inl (cI, 64, .inl g)), (su, .inl (cI, 8, .inl (upd (upd (upd f 0 (f 0 + z.2.1)) 1 (f 1 + z.2.2.1)) 2 (f 2 + z.2.2.2.1))))] H211 := hP
    have hD : va_D A [(q0, .inr (6, [.ref sc])), (sc, .inl (cI, 64, .inl g)), (su, .inl (cI, 8, .inl (upd (upd (upd f 0 (f 0 + z.2.1)) 1 (f 1 + z.2.2.1)) 2 (f 2 + z.2.2.2.1))))] := hD
    refine lv_aload_n hx hb d_Sha256_mix_212 rfl (lv_at hl 1 rfl) ?_
    refine lv_iconst (v := 3) hx hb d_Sha256_mix_213 (by decide) ?_
    refine lv_dup2_11 hx hb d_Sha256_mix_214 rfl rfl ?_
    have h215 : vp_in 3 8 := by unfold vp_in; decide
    refine va_iald hx hb hK hP 2 0 rfl rfl h215 d_Sha256_mix_215 ?_
    rw [show ((upd (upd (upd f 0 (f 0 + z.2.1)) 1 (f 1 + z.2.2.1)) 2 (f 2 + z.2.2.2.1)) (3 : Int32).toNatClampNeg : Int32) = f 3 from by rw [show (3 : Int32).toNatClampNeg = 3 from by decide]; simp [upd]]
    refine lv_iload hx hb d_Sha256_mix_216 (lv_at hl 5 rfl) ?_
    refine lv_iadd hx hb d_Sha256_mix_218 ?_
    have h219 : vp_in 3 8 := by unfold vp_in; decide
    refine va_iast hx hb hK hP hD hS 2 0 rfl rfl h219 d_Sha256_mix_219 (fun H219 locs hP hD hS => ?_)
    have hP : va_P (dC, dI) classes [(q0, .inr (6, [.ref sc])), (sc, .inl (cI, 64, .inl g)), (su, .inl (cI, 8, .inl (upd (upd (upd (upd f 0 (f 0 + z.2.1)) 1 (f 1 + z.2.2.1)) 2 (f 2 + z.2.2.2.1)) 3 (f 3 + z.2.2.2.2.1))))] H219 := hP
    have hD : va_D A [(q0, .inr (6, [.ref sc])), (sc, .inl (cI, 64, .inl g)), (su, .inl (cI, 8, .inl (upd (upd (upd (upd f 0 (f 0 + z.2.1)) 1 (f 1 + z.2.2.1)) 2 (f 2 + z.2.2.2.1)) 3 (f 3 + z.2.2.2.2.1))))] := hD
    refine lv_aload_n hx hb d_Sha256_mix_220 rfl (lv_at hl 1 rfl) ?_
    refine lv_iconst (v := 4) hx hb d_Sha256_mix_221 (by decide) ?_
    refine lv_dup2_11 hx hb d_Sha256_mix_222 rfl rfl ?_
    have h223 : vp_in 4 8 := by unfold vp_in; decide
    refine va_iald hx hb hK hP 2 0 rfl rfl h223 d_Sha256_mix_223 ?_
    rw [show ((upd (upd (upd (upd f 0 (f 0 + z.2.1)) 1 (f 1 + z.2.2.1)) 2 (f 2 + z.2.2.2.1)) 3 (f 3 + z.2.2.2.2.1)) (4 : Int32).toNatClampNeg : Int32) = f 4 from by rw [show (4 : Int32).toNatClampNeg = 4 from by decide]; simp [upd]]
    refine lv_iload hx hb d_Sha256_mix_224 (lv_at hl 6 rfl) ?_
    refine lv_iadd hx hb d_Sha256_mix_226 ?_
    have h227 : vp_in 4 8 := by unfold vp_in; decide
    refine va_iast hx hb hK hP hD hS 2 0 rfl rfl h227 d_Sha256_mix_227 (fun H227 locs hP hD hS => ?_)
    have hP : va_P (dC, dI) classes [(q0, .inr (6, [.ref sc])), (sc, .inl (cI, 64, .inl g)), (su, .inl (cI, 8, .inl (upd (upd (upd (upd (upd f 0 (f 0 + z.2.1)) 1 (f 1 + z.2.2.1)) 2 (f 2 + z.2.2.2.1)) 3 (f 3 + z.2.2.2.2.1)) 4 (f 4 + z.2.2.2.2.2.1))))] H227 := hP
    have hD : va_D A [(q0, .inr (6, [.ref sc])), (sc, .inl (cI, 64, .inl g)), (su, .inl (cI, 8, .inl (upd (upd (upd (upd (upd f 0 (f 0 + z.2.1)) 1 (f 1 + z.2.2.1)) 2 (f 2 + z.2.2.2.1)) 3 (f 3 + z.2.2.2.2.1)) 4 (f 4 + z.2.2.2.2.2.1))))] := hD
    refine lv_aload_n hx hb d_Sha256_mix_228 rfl (lv_at hl 1 rfl) ?_
    refine lv_iconst (v := 5) hx hb d_Sha256_mix_229 (by decide) ?_
    refine lv_dup2_11 hx hb d_Sha256_mix_230 rfl rfl ?_
    have h231 : vp_in 5 8 := by unfold vp_in; decide
    refine va_iald hx hb hK hP 2 0 rfl rfl h231 d_Sha256_mix_231 ?_
    rw [show ((upd (upd (upd (upd (upd f 0 (f 0 + z.2.1)) 1 (f 1 + z.2.2.1)) 2 (f 2 + z.2.2.2.1)) 3 (f 3 + z.2.2.2.2.1)) 4 (f 4 + z.2.2.2.2.2.1)) (5 : Int32).toNatClampNeg : Int32) = f 5 from by rw [show (5 : Int32).toNatClampNeg = 5 from by decide]; simp [upd]]
    refine lv_iload hx hb d_Sha256_mix_232 (lv_at hl 7 rfl) ?_
    refine lv_iadd hx hb d_Sha256_mix_234 ?_
    have h235 : vp_in 5 8 := by unfold vp_in; decide
    refine va_iast hx hb hK hP hD hS 2 0 rfl rfl h235 d_Sha256_mix_235 (fun H235 locs hP hD hS => ?_)
    have hP : va_P (dC, dI) classes [(q0, .inr (6, [.ref sc])), (sc, .inl (cI, 64, .inl g)), (su, .inl (cI, 8, .inl (upd (upd (upd (upd (upd (upd f 0 (f 0 + z.2.1)) 1 (f 1 + z.2.2.1)) 2 (f 2 + z.2.2.2.1)) 3 (f 3 + z.2.2.2.2.1)) 4 (f 4 + z.2.2.2.2.2.1)) 5 (f 5 + z.2.2.2.2.2.2.1))))] H235 := hP
    have hD : va_D A [(q0, .inr (6, [.ref sc])), (sc, .inl (cI, 64, .inl g)), (su, .inl (cI, 8, .inl (upd (upd (upd (upd (upd (upd f 0 (f 0 + z.2.1)) 1 (f 1 + z.2.2.1)) 2 (f 2 + z.2.2.2.1)) 3 (f 3 + z.2.2.2.2.1)) 4 (f 4 + z.2.2.2.2.2.1)) 5 (f 5 + z.2.2.2.2.2.2.1))))] := hD
    refine lv_aload_n hx hb d_Sha256_mix_236 rfl (lv_at hl 1 rfl) ?_
    refine lv_bipush (v := 6) hx hb d_Sha256_mix_237 (by decide) ?_
    refine lv_dup2_11 hx hb d_Sha256_mix_239 rfl rfl ?_
    have h240 : vp_in 6 8 := by unfold vp_in; decide
    refine va_iald hx hb hK hP 2 0 rfl rfl h240 d_Sha256_mix_240 ?_
    rw [show ((upd (upd (upd (upd (upd (upd f 0 (f 0 + z.2.1)) 1 (f 1 + z.2.2.1)) 2 (f 2 + z.2.2.2.1)) 3 (f 3 + z.2.2.2.2.1)) 4 (f 4 + z.2.2.2.2.2.1)) 5 (f 5 + z.2.2.2.2.2.2.1)) (6 : Int32).toNatClampNeg : Int32) = f 6 from by rw [show (6 : Int32).toNatClampNeg = 6 from by decide]; simp [upd]]
    refine lv_iload hx hb d_Sha256_mix_241 (lv_at hl 8 rfl) ?_
    refine lv_iadd hx hb d_Sha256_mix_243 ?_
    have h244 : vp_in 6 8 := by unfold vp_in; decide
    refine va_iast hx hb hK hP hD hS 2 0 rfl rfl h244 d_Sha256_mix_244 (fun H244 locs hP hD hS => ?_)
    have hP : va_P (dC, dI) classes [(q0, .inr (6, [.ref sc])), (sc, .inl (cI, 64, .inl g)), (su, .inl (cI, 8, .inl (upd (upd (upd (upd (upd (upd (upd f 0 (f 0 + z.2.1)) 1 (f 1 + z.2.2.1)) 2 (f 2 + z.2.2.2.1)) 3 (f 3 + z.2.2.2.2.1)) 4 (f 4 + z.2.2.2.2.2.1)) 5 (f 5 + z.2.2.2.2.2.2.1)) 6 (f 6 + z.2.2.2.2.2.2.2.1))))] H244 := hP
    have hD : va_D A [(q0, .inr (6, [.ref sc])), (sc, .inl (cI, 64, .inl g)), (su, .inl (cI, 8, .inl (upd (upd (upd (upd (upd (upd (upd f 0 (f 0 + z.2.1)) 1 (f 1 + z.2.2.1)) 2 (f 2 + z.2.2.2.1)) 3 (f 3 + z.2.2.2.2.1)) 4 (f 4 + z.2.2.2.2.2.1)) 5 (f 5 + z.2.2.2.2.2.2.1)) 6 (f 6 + z.2.2.2.2.2.2.2.1))))] := hD
    refine lv_aload_n hx hb d_Sha256_mix_245 rfl (lv_at hl 1 rfl) ?_
    refine lv_bipush (v := 7) hx hb d_Sha256_mix_246 (by decide) ?_
    refine lv_dup2_11 hx hb d_Sha256_mix_248 rfl rfl ?_
    have h249 : vp_in 7 8 := by unfold vp_in; decide
    refine va_iald hx hb hK hP 2 0 rfl rfl h249 d_Sha256_mix_249 ?_
    rw [show ((upd (upd (upd (upd (upd (upd (upd f 0 (f 0 + z.2.1)) 1 (f 1 + z.2.2.1)) 2 (f 2 + z.2.2.2.1)) 3 (f 3 + z.2.2.2.2.1)) 4 (f 4 + z.2.2.2.2.2.1)) 5 (f 5 + z.2.2.2.2.2.2.1)) 6 (f 6 + z.2.2.2.2.2.2.2.1)) (7 : Int32).toNatClampNeg : Int32) = f 7 from by rw [show (7 : Int32).toNatClampNeg = 7 from by decide]; simp [upd]]
    refine lv_iload hx hb d_Sha256_mix_250 (lv_at hl 9 rfl) ?_
    refine lv_iadd hx hb d_Sha256_mix_252 ?_
    have h253 : vp_in 7 8 := by unfold vp_in; decide
    refine va_iast hx hb hK hP hD hS 2 0 rfl rfl h253 d_Sha256_mix_253 (fun H253 locs hP hD hS => ?_)
    have hP : va_P (dC, dI) classes [(q0, .inr (6, [.ref sc])), (sc, .inl (cI, 64, .inl g)), (su, .inl (cI, 8, .inl (upd (upd (upd (upd (upd (upd (upd (upd f 0 (f 0 + z.2.1)) 1 (f 1 + z.2.2.1)) 2 (f 2 + z.2.2.2.1)) 3 (f 3 + z.2.2.2.2.1)) 4 (f 4 + z.2.2.2.2.2.1)) 5 (f 5 + z.2.2.2.2.2.2.1)) 6 (f 6 + z.2.2.2.2.2.2.2.1)) 7 (f 7 + z.2.2.2.2.2.2.2.2))))] H253 := hP
    have hD : va_D A [(q0, .inr (6, [.ref sc])), (sc, .inl (cI, 64, .inl g)), (su, .inl (cI, 8, .inl (upd (upd (upd (upd (upd (upd (upd (upd f 0 (f 0 + z.2.1)) 1 (f 1 + z.2.2.1)) 2 (f 2 + z.2.2.2.1)) 3 (f 3 + z.2.2.2.2.1)) 4 (f 4 + z.2.2.2.2.2.1)) 5 (f 5 + z.2.2.2.2.2.2.1)) 6 (f 6 + z.2.2.2.2.2.2.2.1)) 7 (f 7 + z.2.2.2.2.2.2.2.2))))] := hD
    exact W.vret hx hb hr (fun t ht hW => ⟨⟨z.2, rfl, by rw [← hke]; exact hJ.2, by rw [ht]; exact hP, va_K.moved hW.alike hK, hD⟩, hS.F ht⟩) hS.2.2 d_Sha256_mix_254
  · have hlt : z.1 < 64 := by rw [show (64 : Int32) = nI 64 from rfl, nI_leI (by omega) (by omega)] at c47; omega
    refine lv_iload hx hb d_Sha256_mix_50 (lv_at hl 6 rfl) ?_
    refine lv_bipush (v := 6) hx hb d_Sha256_mix_52 (by decide) ?_
    refine vp_callSi (pu_callS (As := [.int z.2.2.2.2.2.1, .int 6]) (rest := []) ⟨hx, hb, hml, hown, hts⟩ tbin (c_Sha256_turn l dC dI sb z.2.2.2.2.2.1 6) q5_25 q5_26 q1_5 q5_27 (n := 2) (by decide +kernel) rfl ⟨rfl, rfl⟩ ⟨Nat.le_of_ble_eq_true rfl, Nat.le_of_ble_eq_true rfl⟩ ⟨Nat.le_of_ble_eq_true rfl, Nat.le_of_ble_eq_true rfl⟩ hN (hT0.keep hS hAs) hK hP [] rfl [] rfl hl.1 rfl (Nat.le_of_ble_eq_true rfl) d_Sha256_mix_54) (fun r54 hr54 => ?_)
    refine lv_iload hx hb d_Sha256_mix_57 (lv_at hl 6 rfl) ?_
    refine lv_bipush (v := 11) hx hb d_Sha256_mix_59 (by decide) ?_
    refine vp_callSi (pu_callS (As := [.int z.2.2.2.2.2.1, .int 11]) (rest := [.int r54]) ⟨hx, hb, hml, hown, hts⟩ tbin (c_Sha256_turn l dC dI sb z.2.2.2.2.2.1 11) q5_25 q5_26 q1_5 q5_27 (n := 2) (by decide +kernel) rfl ⟨rfl, rfl⟩ ⟨Nat.le_of_ble_eq_true rfl, Nat.le_of_ble_eq_true rfl⟩ ⟨Nat.le_of_ble_eq_true rfl, Nat.le_of_ble_eq_true rfl⟩ hN (hT0.keep hS hAs) hK hP [] rfl [] rfl hl.1 rfl (Nat.le_of_ble_eq_true rfl) d_Sha256_mix_61) (fun r61 hr61 => ?_)
    refine lv_ixor hx hb d_Sha256_mix_64 ?_
    refine lv_iload hx hb d_Sha256_mix_65 (lv_at hl 6 rfl) ?_
    refine lv_bipush (v := 25) hx hb d_Sha256_mix_67 (by decide) ?_
    refine vp_callSi (pu_callS (As := [.int z.2.2.2.2.2.1, .int 25]) (rest := [.int (r54 ^^^ r61)]) ⟨hx, hb, hml, hown, hts⟩ tbin (c_Sha256_turn l dC dI sb z.2.2.2.2.2.1 25) q5_25 q5_26 q1_5 q5_27 (n := 2) (by decide +kernel) rfl ⟨rfl, rfl⟩ ⟨Nat.le_of_ble_eq_true rfl, Nat.le_of_ble_eq_true rfl⟩ ⟨Nat.le_of_ble_eq_true rfl, Nat.le_of_ble_eq_true rfl⟩ hN (hT0.keep hS hAs) hK hP [] rfl [] rfl hl.1 rfl (Nat.le_of_ble_eq_true rfl) d_Sha256_mix_69) (fun r69 hr69 => ?_)
    refine lv_ixor hx hb d_Sha256_mix_72 ?_
    refine lv_topi (fun v73 ev73 => ?_)
    refine lv_istore (lv' := [(11, .int v73), (0, .ref q0), (1, .ref su), (2, .int z.2.1), (3, .int z.2.2.1), (4, .int z.2.2.2.1), (5, .int z.2.2.2.2.1), (6, .int z.2.2.2.2.2.1), (7, .int z.2.2.2.2.2.2.1), (8, .int z.2.2.2.2.2.2.2.1), (9, .int z.2.2.2.2.2.2.2.2), (10, .int (nI (z.1)))]) hx hb d_Sha256_mix_73 hl (by decide) rfl (fun ls hl => ?_)
    refine lv_iload hx hb d_Sha256_mix_75 (lv_at hl 10 rfl) ?_
    refine lv_iload hx hb d_Sha256_mix_77 (lv_at hl 0 rfl) ?_
    refine lv_iadd hx hb d_Sha256_mix_79 ?_
    refine lv_iload hx hb d_Sha256_mix_80 (lv_at hl 7 rfl) ?_
    refine lv_iload hx hb d_Sha256_mix_82 (lv_at hl 8 rfl) ?_
    refine lv_iand hx hb d_Sha256_mix_84 ?_
    refine lv_iload hx hb d_Sha256_mix_85 (lv_at hl 7 rfl) ?_
    refine lv_iconst (v := -1) hx hb d_Sha256_mix_87 (by decide) ?_
    refine lv_ixor hx hb d_Sha256_mix_88 ?_
    refine lv_iload hx hb d_Sha256_mix_89 (lv_at hl 9 rfl) ?_
    refine lv_iand hx hb d_Sha256_mix_91 ?_
    refine lv_ixor hx hb d_Sha256_mix_92 ?_
    refine lv_iadd hx hb d_Sha256_mix_93 ?_
    refine va_gets hx hb (hT0.2.2.2.1.1.narrow hAs) hS hown (htb _ q5_32) (fun _ h9 => h9) d_Sha256_mix_94 ?_
    refine lv_iload hx hb d_Sha256_mix_97 (lv_at hl 11 rfl) ?_
    have h99 : vp_in (nI (z.1)) 64 := vp_in_nI hlt (by omega)
    refine va_ti (v := .int (sv_ROUND.getD (nI (z.1)).toNatClampNeg 0)) hx hb (hT0.2.2.2.1.2.narrow hAs) hS h99 rfl d_Sha256_mix_99 ?_
    rw [show (sv_ROUND.getD (nI (z.1)).toNatClampNeg 0 : Int32) = sv_ROUND.getD z.1 0 from by rw [nI_clamp (by omega)]]
    refine lv_iadd hx hb d_Sha256_mix_100 ?_
    refine lv_aload_n hx hb d_Sha256_mix_101 rfl (lv_at hl 1 rfl) ?_
    refine va_get (v := .ref sc) hx hb htb i_Sha256 hown hK hP 0 rfl rfl 0 (by decide) (htb _ q1_74) (fun _ h9 => h9) rfl d_Sha256_mix_102 ?_
    refine lv_iload hx hb d_Sha256_mix_105 (lv_at hl 11 rfl) ?_
    have h107 : vp_in (nI (z.1)) 64 := vp_in_nI hlt (by omega)
    refine va_iald hx hb hK hP 1 0 rfl rfl h107 d_Sha256_mix_107 ?_
    rw [show (g (nI (z.1)).toNatClampNeg : Int32) = g z.1 from by rw [nI_clamp (by omega)]]
    refine lv_iadd hx hb d_Sha256_mix_108 ?_
    refine lv_topi (fun v109 ev109 => ?_)
    refine lv_istore (lv' := [(12, .int v109), (11, .int v73), (0, .ref q0), (1, .ref su), (2, .int z.2.1), (3, .int z.2.2.1), (4, .int z.2.2.2.1), (5, .int z.2.2.2.2.1), (6, .int z.2.2.2.2.2.1), (7, .int z.2.2.2.2.2.2.1), (8, .int z.2.2.2.2.2.2.2.1), (9, .int z.2.2.2.2.2.2.2.2), (10, .int (nI (z.1)))]) hx hb d_Sha256_mix_109 hl (by decide) rfl (fun ls hl => ?_)
    refine lv_iload_n hx hb d_Sha256_mix_111 rfl (lv_at hl 4 rfl) ?_
    refine lv_iconst (v := 2) hx hb d_Sha256_mix_112 (by decide) ?_
    refine vp_callSi (pu_callS (As := [.int z.2.1, .int 2]) (rest := []) ⟨hx, hb, hml, hown, hts⟩ tbin (c_Sha256_turn l dC dI sb z.2.1 2) q5_25 q5_26 q1_5 q5_27 (n := 2) (by decide +kernel) rfl ⟨rfl, rfl⟩ ⟨Nat.le_of_ble_eq_true rfl, Nat.le_of_ble_eq_true rfl⟩ ⟨Nat.le_of_ble_eq_true rfl, Nat.le_of_ble_eq_true rfl⟩ hN (hT0.keep hS hAs) hK hP [] rfl [] rfl hl.1 rfl (Nat.le_of_ble_eq_true rfl) d_Sha256_mix_113) (fun r113 hr113 => ?_)
    refine lv_iload_n hx hb d_Sha256_mix_116 rfl (lv_at hl 4 rfl) ?_
    refine lv_bipush (v := 13) hx hb d_Sha256_mix_117 (by decide) ?_
    refine vp_callSi (pu_callS (As := [.int z.2.1, .int 13]) (rest := [.int r113]) ⟨hx, hb, hml, hown, hts⟩ tbin (c_Sha256_turn l dC dI sb z.2.1 13) q5_25 q5_26 q1_5 q5_27 (n := 2) (by decide +kernel) rfl ⟨rfl, rfl⟩ ⟨Nat.le_of_ble_eq_true rfl, Nat.le_of_ble_eq_true rfl⟩ ⟨Nat.le_of_ble_eq_true rfl, Nat.le_of_ble_eq_true rfl⟩ hN (hT0.keep hS hAs) hK hP [] rfl [] rfl hl.1 rfl (Nat.le_of_ble_eq_true rfl) d_Sha256_mix_119) (fun r119 hr119 => ?_)
    refine lv_ixor hx hb d_Sha256_mix_122 ?_
    refine lv_iload_n hx hb d_Sha256_mix_123 rfl (lv_at hl 4 rfl) ?_
    refine lv_bipush (v := 22) hx hb d_Sha256_mix_124 (by decide) ?_
    refine vp_callSi (pu_callS (As := [.int z.2.1, .int 22]) (rest := [.int (r113 ^^^ r119)]) ⟨hx, hb, hml, hown, hts⟩ tbin (c_Sha256_turn l dC dI sb z.2.1 22) q5_25 q5_26 q1_5 q5_27 (n := 2) (by decide +kernel) rfl ⟨rfl, rfl⟩ ⟨Nat.le_of_ble_eq_true rfl, Nat.le_of_ble_eq_true rfl⟩ ⟨Nat.le_of_ble_eq_true rfl, Nat.le_of_ble_eq_true rfl⟩ hN (hT0.keep hS hAs) hK hP [] rfl [] rfl hl.1 rfl (Nat.le_of_ble_eq_true rfl) d_Sha256_mix_126) (fun r126 hr126 => ?_)
    refine lv_ixor hx hb d_Sha256_mix_129 ?_
    refine lv_topi (fun v130 ev130 => ?_)
    refine lv_istore (lv' := [(13, .int v130), (12, .int v109), (11, .int v73), (0, .ref q0), (1, .ref su), (2, .int z.2.1), (3, .int z.2.2.1), (4, .int z.2.2.2.1), (5, .int z.2.2.2.2.1), (6, .int z.2.2.2.2.2.1), (7, .int z.2.2.2.2.2.2.1), (8, .int z.2.2.2.2.2.2.2.1), (9, .int z.2.2.2.2.2.2.2.2), (10, .int (nI (z.1)))]) hx hb d_Sha256_mix_130 hl (by decide) rfl (fun ls hl => ?_)
    refine lv_iload hx hb d_Sha256_mix_132 (lv_at hl 0 rfl) ?_
    refine lv_iload_n hx hb d_Sha256_mix_134 rfl (lv_at hl 5 rfl) ?_
    refine lv_iload_n hx hb d_Sha256_mix_135 rfl (lv_at hl 6 rfl) ?_
    refine lv_iand hx hb d_Sha256_mix_136 ?_
    refine lv_iload_n hx hb d_Sha256_mix_137 rfl (lv_at hl 5 rfl) ?_
    refine lv_iload hx hb d_Sha256_mix_138 (lv_at hl 7 rfl) ?_
    refine lv_iand hx hb d_Sha256_mix_140 ?_
    refine lv_ixor hx hb d_Sha256_mix_141 ?_
    refine lv_iload_n hx hb d_Sha256_mix_142 rfl (lv_at hl 6 rfl) ?_
    refine lv_iload hx hb d_Sha256_mix_143 (lv_at hl 7 rfl) ?_
    refine lv_iand hx hb d_Sha256_mix_145 ?_
    refine lv_ixor hx hb d_Sha256_mix_146 ?_
    refine lv_iadd hx hb d_Sha256_mix_147 ?_
    refine lv_topi (fun v148 ev148 => ?_)
    refine lv_istore (lv' := [(14, .int v148), (13, .int v130), (12, .int v109), (11, .int v73), (0, .ref q0), (1, .ref su), (2, .int z.2.1), (3, .int z.2.2.1), (4, .int z.2.2.2.1), (5, .int z.2.2.2.2.1), (6, .int z.2.2.2.2.2.1), (7, .int z.2.2.2.2.2.2.1), (8, .int z.2.2.2.2.2.2.2.1), (9, .int z.2.2.2.2.2.2.2.2), (10, .int (nI (z.1)))]) hx hb d_Sha256_mix_148 hl (by decide) rfl (fun ls hl => ?_)
    refine lv_iload hx hb d_Sha256_mix_150 (lv_at hl 12 rfl) ?_
    refine lv_istore (lv' := [(9, .int z.2.2.2.2.2.2.2.1), (14, .int v148), (13, .int v130), (12, .int v109), (11, .int v73), (0, .ref q0), (1, .ref su), (2, .int z.2.1), (3, .int z.2.2.1), (4, .int z.2.2.2.1), (5, .int z.2.2.2.2.1), (6, .int z.2.2.2.2.2.1), (7, .int z.2.2.2.2.2.2.1), (8, .int z.2.2.2.2.2.2.2.1), (10, .int (nI (z.1)))]) hx hb d_Sha256_mix_152 hl (by decide) rfl (fun ls hl => ?_)
    refine lv_iload hx hb d_Sha256_mix_154 (lv_at hl 12 rfl) ?_
    refine lv_istore (lv' := [(8, .int z.2.2.2.2.2.2.1), (9, .int z.2.2.2.2.2.2.2.1), (14, .int v148), (13, .int v130), (12, .int v109), (11, .int v73), (0, .ref q0), (1, .ref su), (2, .int z.2.1), (3, .int z.2.2.1), (4, .int z.2.2.2.1), (5, .int z.2.2.2.2.1), (6, .int z.2.2.2.2.2.1), (7, .int z.2.2.2.2.2.2.1), (10, .int (nI (z.1)))]) hx hb d_Sha256_mix_156 hl (by decide) rfl (fun ls hl => ?_)
    refine lv_iload hx hb d_Sha256_mix_158 (lv_at hl 12 rfl) ?_
    refine lv_istore (lv' := [(7, .int z.2.2.2.2.2.1), (8, .int z.2.2.2.2.2.2.1), (9, .int z.2.2.2.2.2.2.2.1), (14, .int v148), (13, .int v130), (12, .int v109), (11, .int v73), (0, .ref q0), (1, .ref su), (2, .int z.2.1), (3, .int z.2.2.1), (4, .int z.2.2.2.1), (5, .int z.2.2.2.2.1), (6, .int z.2.2.2.2.2.1), (10, .int (nI (z.1)))]) hx hb d_Sha256_mix_160 hl (by decide) rfl (fun ls hl => ?_)
    refine lv_iload hx hb d_Sha256_mix_162 (lv_at hl 12 rfl) ?_
    refine lv_iload hx hb d_Sha256_mix_164 (lv_at hl 5 rfl) ?_
    refine lv_iadd hx hb d_Sha256_mix_166 ?_
    refine lv_topi (fun v167 ev167 => ?_)
    refine lv_istore (lv' := [(6, .int v167), (7, .int z.2.2.2.2.2.1), (8, .int z.2.2.2.2.2.2.1), (9, .int z.2.2.2.2.2.2.2.1), (14, .int v148), (13, .int v130), (12, .int v109), (11, .int v73), (0, .ref q0), (1, .ref su), (2, .int z.2.1), (3, .int z.2.2.1), (4, .int z.2.2.2.1), (5, .int z.2.2.2.2.1), (10, .int (nI (z.1)))]) hx hb d_Sha256_mix_167 hl (by decide) rfl (fun ls hl => ?_)
    refine lv_iload hx hb d_Sha256_mix_169 (lv_at hl 12 rfl) ?_
    refine lv_istore (lv' := [(5, .int z.2.2.2.1), (6, .int v167), (7, .int z.2.2.2.2.2.1), (8, .int z.2.2.2.2.2.2.1), (9, .int z.2.2.2.2.2.2.2.1), (14, .int v148), (13, .int v130), (12, .int v109), (11, .int v73), (0, .ref q0), (1, .ref su), (2, .int z.2.1), (3, .int z.2.2.1), (4, .int z.2.2.2.1), (10, .int (nI (z.1)))]) hx hb d_Sha256_mix_171 hl (by decide) rfl (fun ls hl => ?_)
    refine lv_iload_n hx hb d_Sha256_mix_173 rfl (lv_at hl 12 rfl) ?_
    refine lv_istore (lv' := [(4, .int z.2.2.1), (5, .int z.2.2.2.1), (6, .int v167), (7, .int z.2.2.2.2.2.1), (8, .int z.2.2.2.2.2.2.1), (9, .int z.2.2.2.2.2.2.2.1), (14, .int v148), (13, .int v130), (12, .int v109), (11, .int v73), (0, .ref q0), (1, .ref su), (2, .int z.2.1), (3, .int z.2.2.1), (10, .int (nI (z.1)))]) hx hb d_Sha256_mix_174 hl (by decide) rfl (fun ls hl => ?_)
    refine lv_iload_n hx hb d_Sha256_mix_176 rfl (lv_at hl 12 rfl) ?_
    refine lv_istore_n (lv' := [(3, .int z.2.1), (4, .int z.2.2.1), (5, .int z.2.2.2.1), (6, .int v167), (7, .int z.2.2.2.2.2.1), (8, .int z.2.2.2.2.2.2.1), (9, .int z.2.2.2.2.2.2.2.1), (14, .int v148), (13, .int v130), (12, .int v109), (11, .int v73), (0, .ref q0), (1, .ref su), (2, .int z.2.1), (10, .int (nI (z.1)))]) hx hb d_Sha256_mix_177 rfl hl (by decide) rfl (fun ls hl => ?_)
    refine lv_iload hx hb d_Sha256_mix_178 (lv_at hl 9 rfl) ?_
    refine lv_iload hx hb d_Sha256_mix_180 (lv_at hl 7 rfl) ?_
    refine lv_iadd hx hb d_Sha256_mix_182 ?_
    refine lv_topi (fun v183 ev183 => ?_)
    refine lv_istore_n (lv' := [(2, .int v183), (3, .int z.2.1), (4, .int z.2.2.1), (5, .int z.2.2.2.1), (6, .int v167), (7, .int z.2.2.2.2.2.1), (8, .int z.2.2.2.2.2.2.1), (9, .int z.2.2.2.2.2.2.2.1), (14, .int v148), (13, .int v130), (12, .int v109), (11, .int v73), (0, .ref q0), (1, .ref su), (10, .int (nI (z.1)))]) hx hb d_Sha256_mix_183 rfl hl (by decide) rfl (fun ls hl => ?_)
    refine lv_iinc (v := nI (z.1 + 1)) (lv' := [(10, .int (nI (z.1 + 1))), (2, .int v183), (3, .int z.2.1), (4, .int z.2.2.1), (5, .int z.2.2.2.1), (6, .int v167), (7, .int z.2.2.2.2.2.1), (8, .int z.2.2.2.2.2.2.1), (9, .int z.2.2.2.2.2.2.2.1), (14, .int v148), (13, .int v130), (12, .int v109), (11, .int v73), (0, .ref q0), (1, .ref su)]) hx hb d_Sha256_mix_184 hl (k := 14) rfl (nI_1 _) (by decide) rfl (fun ls hl => ?_)
    refine lv_goto (tgt := 43) hx hb d_Sha256_mix_187 (by decide) ?_
    exact ih (z.1 + 1, v183, z.2.1, z.2.2.1, z.2.2.2.1, v167, z.2.2.2.2.2.1, z.2.2.2.2.2.2.1, z.2.2.2.2.2.2.2.1) ls (by show 64 - (z.1 + 1) < 64 - z.1; omega) (⟨by show z.1 + 1 ≤ 64; omega, shG_s hJ.2 (by rw [ev183, show v109 = shS (sv_ROUND.getD z.1 0) (g z.1) z.2 from by rw [ev109, ev73, hr54, hr61, hr69]; rfl, show v148 = shU z.2 from by rw [ev148, ev130, hr113, hr119, hr126]; rfl]) (by rw [ev167, show v109 = shS (sv_ROUND.getD z.1 0) (g z.1) z.2 from by rw [ev109, ev73, hr54, hr61, hr69]; rfl])⟩) (lv_sub hl [13, 14, 1, 2, 3, 4, 5, 6, 7, 8, 0] rfl)
