/-! The reference's constructors. -/
def y_Text_init : MethodName := ⟨"TrustChainModel$Text", "<init>", "()V"⟩
abbrev b_Text_init : ByteArray := prog_15_method_1_code
def w_Text_init : List Cond := Cond.code y_Text_init b_Text_init 1 (none) :: tb
theorem d_Text_init_0 : decode b_Text_init 0 = .ok (.aload_n 0, 1) := by decide +kernel
theorem d_Text_init_1 : decode b_Text_init 1 = .ok (.invokespecial 3, 3) := by decide +kernel
theorem d_Text_init_4 : decode b_Text_init 4 = .ok (.aload_n 0, 1) := by decide +kernel
theorem d_Text_init_5 : decode b_Text_init 5 = .ok (.sipush 2048, 3) := by decide +kernel
theorem d_Text_init_8 : decode b_Text_init 8 = .ok (.newarray .int, 2) := by decide +kernel
theorem d_Text_init_10 : decode b_Text_init 10 = .ok (.putfield 9, 3) := by decide +kernel
theorem d_Text_init_13 : decode b_Text_init 13 = .ok (.aload_n 0, 1) := by decide +kernel
theorem d_Text_init_14 : decode b_Text_init 14 = .ok (.sipush 700, 3) := by decide +kernel
theorem d_Text_init_17 : decode b_Text_init 17 = .ok (.newarray .int, 2) := by decide +kernel
theorem d_Text_init_19 : decode b_Text_init 19 = .ok (.putfield 15, 3) := by decide +kernel
theorem d_Text_init_22 : decode b_Text_init 22 = .ok (.aload_n 0, 1) := by decide +kernel
theorem d_Text_init_23 : decode b_Text_init 23 = .ok (.sipush 700, 3) := by decide +kernel
theorem d_Text_init_26 : decode b_Text_init 26 = .ok (.newarray .int, 2) := by decide +kernel
theorem d_Text_init_28 : decode b_Text_init 28 = .ok (.putfield 18, 3) := by decide +kernel
theorem d_Text_init_31 : decode b_Text_init 31 = .ok (.aload_n 0, 1) := by decide +kernel
theorem d_Text_init_32 : decode b_Text_init 32 = .ok (.sipush 700, 3) := by decide +kernel
theorem d_Text_init_35 : decode b_Text_init 35 = .ok (.newarray .int, 2) := by decide +kernel
theorem d_Text_init_37 : decode b_Text_init 37 = .ok (.putfield 21, 3) := by decide +kernel
theorem d_Text_init_40 : decode b_Text_init 40 = .ok (.aload_n 0, 1) := by decide +kernel
theorem d_Text_init_41 : decode b_Text_init 41 = .ok (.sipush 700, 3) := by decide +kernel
theorem d_Text_init_44 : decode b_Text_init 44 = .ok (.newarray .int, 2) := by decide +kernel
theorem d_Text_init_46 : decode b_Text_init 46 = .ok (.putfield 24, 3) := by decide +kernel
theorem d_Text_init_49 : decode b_Text_init 49 = .ok (.aload_n 0, 1) := by decide +kernel
theorem d_Text_init_50 : decode b_Text_init 50 = .ok (.sipush 700, 3) := by decide +kernel
theorem d_Text_init_53 : decode b_Text_init 53 = .ok (.newarray .int, 2) := by decide +kernel
theorem d_Text_init_55 : decode b_Text_init 55 = .ok (.putfield 27, 3) := by decide +kernel
theorem d_Text_init_58 : decode b_Text_init 58 = .ok (.aload_n 0, 1) := by decide +kernel
theorem d_Text_init_59 : decode b_Text_init 59 = .ok (.sipush 700, 3) := by decide +kernel
theorem d_Text_init_62 : decode b_Text_init 62 = .ok (.newarray .int, 2) := by decide +kernel
theorem d_Text_init_64 : decode b_Text_init 64 = .ok (.putfield 30, 3) := by decide +kernel
theorem d_Text_init_67 : decode b_Text_init 67 = .ok (.aload_n 0, 1) := by decide +kernel
theorem d_Text_init_68 : decode b_Text_init 68 = .ok (.sipush 700, 3) := by decide +kernel
theorem d_Text_init_71 : decode b_Text_init 71 = .ok (.newarray .int, 2) := by decide +kernel
theorem d_Text_init_73 : decode b_Text_init 73 = .ok (.putfield 33, 3) := by decide +kernel
theorem d_Text_init_76 : decode b_Text_init 76 = .ok (.aload_n 0, 1) := by decide +kernel
theorem d_Text_init_77 : decode b_Text_init 77 = .ok (.sipush 200, 3) := by decide +kernel
theorem d_Text_init_80 : decode b_Text_init 80 = .ok (.newarray .int, 2) := by decide +kernel
theorem d_Text_init_82 : decode b_Text_init 82 = .ok (.putfield 36, 3) := by decide +kernel
theorem d_Text_init_85 : decode b_Text_init 85 = .ok (.aload_n 0, 1) := by decide +kernel
theorem d_Text_init_86 : decode b_Text_init 86 = .ok (.sipush 200, 3) := by decide +kernel
theorem d_Text_init_89 : decode b_Text_init 89 = .ok (.newarray .int, 2) := by decide +kernel
theorem d_Text_init_91 : decode b_Text_init 91 = .ok (.putfield 39, 3) := by decide +kernel
theorem d_Text_init_94 : decode b_Text_init 94 = .ok (.aload_n 0, 1) := by decide +kernel
theorem d_Text_init_95 : decode b_Text_init 95 = .ok (.sipush 400, 3) := by decide +kernel
theorem d_Text_init_98 : decode b_Text_init 98 = .ok (.newarray .int, 2) := by decide +kernel
theorem d_Text_init_100 : decode b_Text_init 100 = .ok (.putfield 42, 3) := by decide +kernel
theorem d_Text_init_103 : decode b_Text_init 103 = .ok (.aload_n 0, 1) := by decide +kernel
theorem d_Text_init_104 : decode b_Text_init 104 = .ok (.sipush 400, 3) := by decide +kernel
theorem d_Text_init_107 : decode b_Text_init 107 = .ok (.newarray .int, 2) := by decide +kernel
theorem d_Text_init_109 : decode b_Text_init 109 = .ok (.putfield 45, 3) := by decide +kernel
theorem d_Text_init_112 : decode b_Text_init 112 = .ok (.return_, 1) := by decide +kernel
def y_Model_init : MethodName := ⟨"TrustChainModel", "<init>", "()V"⟩
abbrev b_Model_init : ByteArray := prog_14_method_1_code
def w_Model_init : List Cond := Cond.code y_Model_init b_Model_init 1 (none) :: tb
theorem d_Model_init_0 : decode b_Model_init 0 = .ok (.aload_n 0, 1) := by decide +kernel
theorem d_Model_init_1 : decode b_Model_init 1 = .ok (.invokespecial 1, 3) := by decide +kernel
theorem d_Model_init_4 : decode b_Model_init 4 = .ok (.aload_n 0, 1) := by decide +kernel
theorem d_Model_init_5 : decode b_Model_init 5 = .ok (.iconst (-1), 1) := by decide +kernel
theorem d_Model_init_6 : decode b_Model_init 6 = .ok (.putfield 7, 3) := by decide +kernel
theorem d_Model_init_9 : decode b_Model_init 9 = .ok (.aload_n 0, 1) := by decide +kernel
theorem d_Model_init_10 : decode b_Model_init 10 = .ok (.sipush 2060, 3) := by decide +kernel
theorem d_Model_init_13 : decode b_Model_init 13 = .ok (.newarray .int, 2) := by decide +kernel
theorem d_Model_init_15 : decode b_Model_init 15 = .ok (.putfield 13, 3) := by decide +kernel
theorem d_Model_init_18 : decode b_Model_init 18 = .ok (.aload_n 0, 1) := by decide +kernel
theorem d_Model_init_19 : decode b_Model_init 19 = .ok (.bipush 16, 2) := by decide +kernel
theorem d_Model_init_21 : decode b_Model_init 21 = .ok (.anewarray 17, 3) := by decide +kernel
theorem d_Model_init_24 : decode b_Model_init 24 = .ok (.putfield 19, 3) := by decide +kernel
theorem d_Model_init_27 : decode b_Model_init 27 = .ok (.aload_n 0, 1) := by decide +kernel
theorem d_Model_init_28 : decode b_Model_init 28 = .ok (.bipush 8, 2) := by decide +kernel
theorem d_Model_init_30 : decode b_Model_init 30 = .ok (.anewarray 17, 3) := by decide +kernel
theorem d_Model_init_33 : decode b_Model_init 33 = .ok (.putfield 23, 3) := by decide +kernel
theorem d_Model_init_36 : decode b_Model_init 36 = .ok (.aload_n 0, 1) := by decide +kernel
theorem d_Model_init_37 : decode b_Model_init 37 = .ok (.new 17, 3) := by decide +kernel
theorem d_Model_init_40 : decode b_Model_init 40 = .ok (.dup, 1) := by decide +kernel
theorem d_Model_init_41 : decode b_Model_init 41 = .ok (.invokespecial 26, 3) := by decide +kernel
theorem d_Model_init_44 : decode b_Model_init 44 = .ok (.putfield 27, 3) := by decide +kernel
theorem d_Model_init_47 : decode b_Model_init 47 = .ok (.aload_n 0, 1) := by decide +kernel
theorem d_Model_init_48 : decode b_Model_init 48 = .ok (.sipush 600, 3) := by decide +kernel
theorem d_Model_init_51 : decode b_Model_init 51 = .ok (.newarray .int, 2) := by decide +kernel
theorem d_Model_init_53 : decode b_Model_init 53 = .ok (.putfield 31, 3) := by decide +kernel
theorem d_Model_init_56 : decode b_Model_init 56 = .ok (.aload_n 0, 1) := by decide +kernel
theorem d_Model_init_57 : decode b_Model_init 57 = .ok (.sipush 2176, 3) := by decide +kernel
theorem d_Model_init_60 : decode b_Model_init 60 = .ok (.newarray .int, 2) := by decide +kernel
theorem d_Model_init_62 : decode b_Model_init 62 = .ok (.putfield 34, 3) := by decide +kernel
theorem d_Model_init_65 : decode b_Model_init 65 = .ok (.aload_n 0, 1) := by decide +kernel
theorem d_Model_init_66 : decode b_Model_init 66 = .ok (.bipush 64, 2) := by decide +kernel
theorem d_Model_init_68 : decode b_Model_init 68 = .ok (.newarray .int, 2) := by decide +kernel
theorem d_Model_init_70 : decode b_Model_init 70 = .ok (.putfield 37, 3) := by decide +kernel
theorem d_Model_init_73 : decode b_Model_init 73 = .ok (.aload_n 0, 1) := by decide +kernel
theorem d_Model_init_74 : decode b_Model_init 74 = .ok (.bipush 8, 2) := by decide +kernel
theorem d_Model_init_76 : decode b_Model_init 76 = .ok (.newarray .int, 2) := by decide +kernel
theorem d_Model_init_78 : decode b_Model_init 78 = .ok (.putfield 40, 3) := by decide +kernel
theorem d_Model_init_81 : decode b_Model_init 81 = .ok (.aload_n 0, 1) := by decide +kernel
theorem d_Model_init_82 : decode b_Model_init 82 = .ok (.bipush 8, 2) := by decide +kernel
theorem d_Model_init_84 : decode b_Model_init 84 = .ok (.newarray .int, 2) := by decide +kernel
theorem d_Model_init_86 : decode b_Model_init 86 = .ok (.dup, 1) := by decide +kernel
theorem d_Model_init_87 : decode b_Model_init 87 = .ok (.iconst 0, 1) := by decide +kernel
theorem d_Model_init_88 : decode b_Model_init 88 = .ok (.ldc 43, 2) := by decide +kernel
theorem d_Model_init_90 : decode b_Model_init 90 = .ok (.iastore, 1) := by decide +kernel
theorem d_Model_init_91 : decode b_Model_init 91 = .ok (.dup, 1) := by decide +kernel
theorem d_Model_init_92 : decode b_Model_init 92 = .ok (.iconst 1, 1) := by decide +kernel
theorem d_Model_init_93 : decode b_Model_init 93 = .ok (.ldc 44, 2) := by decide +kernel
theorem d_Model_init_95 : decode b_Model_init 95 = .ok (.iastore, 1) := by decide +kernel
theorem d_Model_init_96 : decode b_Model_init 96 = .ok (.dup, 1) := by decide +kernel
theorem d_Model_init_97 : decode b_Model_init 97 = .ok (.iconst 2, 1) := by decide +kernel
theorem d_Model_init_98 : decode b_Model_init 98 = .ok (.ldc 45, 2) := by decide +kernel
theorem d_Model_init_100 : decode b_Model_init 100 = .ok (.iastore, 1) := by decide +kernel
theorem d_Model_init_101 : decode b_Model_init 101 = .ok (.dup, 1) := by decide +kernel
theorem d_Model_init_102 : decode b_Model_init 102 = .ok (.iconst 3, 1) := by decide +kernel
theorem d_Model_init_103 : decode b_Model_init 103 = .ok (.ldc 46, 2) := by decide +kernel
theorem d_Model_init_105 : decode b_Model_init 105 = .ok (.iastore, 1) := by decide +kernel
theorem d_Model_init_106 : decode b_Model_init 106 = .ok (.dup, 1) := by decide +kernel
theorem d_Model_init_107 : decode b_Model_init 107 = .ok (.iconst 4, 1) := by decide +kernel
theorem d_Model_init_108 : decode b_Model_init 108 = .ok (.ldc 47, 2) := by decide +kernel
theorem d_Model_init_110 : decode b_Model_init 110 = .ok (.iastore, 1) := by decide +kernel
theorem d_Model_init_111 : decode b_Model_init 111 = .ok (.dup, 1) := by decide +kernel
theorem d_Model_init_112 : decode b_Model_init 112 = .ok (.iconst 5, 1) := by decide +kernel
theorem d_Model_init_113 : decode b_Model_init 113 = .ok (.ldc 48, 2) := by decide +kernel
theorem d_Model_init_115 : decode b_Model_init 115 = .ok (.iastore, 1) := by decide +kernel
theorem d_Model_init_116 : decode b_Model_init 116 = .ok (.dup, 1) := by decide +kernel
theorem d_Model_init_117 : decode b_Model_init 117 = .ok (.bipush 6, 2) := by decide +kernel
theorem d_Model_init_119 : decode b_Model_init 119 = .ok (.ldc 49, 2) := by decide +kernel
theorem d_Model_init_121 : decode b_Model_init 121 = .ok (.iastore, 1) := by decide +kernel
theorem d_Model_init_122 : decode b_Model_init 122 = .ok (.dup, 1) := by decide +kernel
theorem d_Model_init_123 : decode b_Model_init 123 = .ok (.bipush 7, 2) := by decide +kernel
theorem d_Model_init_125 : decode b_Model_init 125 = .ok (.ldc 50, 2) := by decide +kernel
theorem d_Model_init_127 : decode b_Model_init 127 = .ok (.iastore, 1) := by decide +kernel
theorem d_Model_init_128 : decode b_Model_init 128 = .ok (.putfield 51, 3) := by decide +kernel
theorem d_Model_init_131 : decode b_Model_init 131 = .ok (.aload_n 0, 1) := by decide +kernel
theorem d_Model_init_132 : decode b_Model_init 132 = .ok (.bipush 64, 2) := by decide +kernel
theorem d_Model_init_134 : decode b_Model_init 134 = .ok (.newarray .int, 2) := by decide +kernel
theorem d_Model_init_136 : decode b_Model_init 136 = .ok (.dup, 1) := by decide +kernel
theorem d_Model_init_137 : decode b_Model_init 137 = .ok (.iconst 0, 1) := by decide +kernel
theorem d_Model_init_138 : decode b_Model_init 138 = .ok (.ldc 54, 2) := by decide +kernel
theorem d_Model_init_140 : decode b_Model_init 140 = .ok (.iastore, 1) := by decide +kernel
theorem d_Model_init_141 : decode b_Model_init 141 = .ok (.dup, 1) := by decide +kernel
theorem d_Model_init_142 : decode b_Model_init 142 = .ok (.iconst 1, 1) := by decide +kernel
theorem d_Model_init_143 : decode b_Model_init 143 = .ok (.ldc 55, 2) := by decide +kernel
theorem d_Model_init_145 : decode b_Model_init 145 = .ok (.iastore, 1) := by decide +kernel
theorem d_Model_init_146 : decode b_Model_init 146 = .ok (.dup, 1) := by decide +kernel
theorem d_Model_init_147 : decode b_Model_init 147 = .ok (.iconst 2, 1) := by decide +kernel
theorem d_Model_init_148 : decode b_Model_init 148 = .ok (.ldc 56, 2) := by decide +kernel
theorem d_Model_init_150 : decode b_Model_init 150 = .ok (.iastore, 1) := by decide +kernel
theorem d_Model_init_151 : decode b_Model_init 151 = .ok (.dup, 1) := by decide +kernel
theorem d_Model_init_152 : decode b_Model_init 152 = .ok (.iconst 3, 1) := by decide +kernel
theorem d_Model_init_153 : decode b_Model_init 153 = .ok (.ldc 57, 2) := by decide +kernel
theorem d_Model_init_155 : decode b_Model_init 155 = .ok (.iastore, 1) := by decide +kernel
theorem d_Model_init_156 : decode b_Model_init 156 = .ok (.dup, 1) := by decide +kernel
theorem d_Model_init_157 : decode b_Model_init 157 = .ok (.iconst 4, 1) := by decide +kernel
theorem d_Model_init_158 : decode b_Model_init 158 = .ok (.ldc 58, 2) := by decide +kernel
theorem d_Model_init_160 : decode b_Model_init 160 = .ok (.iastore, 1) := by decide +kernel
theorem d_Model_init_161 : decode b_Model_init 161 = .ok (.dup, 1) := by decide +kernel
theorem d_Model_init_162 : decode b_Model_init 162 = .ok (.iconst 5, 1) := by decide +kernel
theorem d_Model_init_163 : decode b_Model_init 163 = .ok (.ldc 59, 2) := by decide +kernel
theorem d_Model_init_165 : decode b_Model_init 165 = .ok (.iastore, 1) := by decide +kernel
theorem d_Model_init_166 : decode b_Model_init 166 = .ok (.dup, 1) := by decide +kernel
theorem d_Model_init_167 : decode b_Model_init 167 = .ok (.bipush 6, 2) := by decide +kernel
theorem d_Model_init_169 : decode b_Model_init 169 = .ok (.ldc 60, 2) := by decide +kernel
theorem d_Model_init_171 : decode b_Model_init 171 = .ok (.iastore, 1) := by decide +kernel
theorem d_Model_init_172 : decode b_Model_init 172 = .ok (.dup, 1) := by decide +kernel
theorem d_Model_init_173 : decode b_Model_init 173 = .ok (.bipush 7, 2) := by decide +kernel
theorem d_Model_init_175 : decode b_Model_init 175 = .ok (.ldc 61, 2) := by decide +kernel
theorem d_Model_init_177 : decode b_Model_init 177 = .ok (.iastore, 1) := by decide +kernel
theorem d_Model_init_178 : decode b_Model_init 178 = .ok (.dup, 1) := by decide +kernel
theorem d_Model_init_179 : decode b_Model_init 179 = .ok (.bipush 8, 2) := by decide +kernel
theorem d_Model_init_181 : decode b_Model_init 181 = .ok (.ldc 62, 2) := by decide +kernel
theorem d_Model_init_183 : decode b_Model_init 183 = .ok (.iastore, 1) := by decide +kernel
theorem d_Model_init_184 : decode b_Model_init 184 = .ok (.dup, 1) := by decide +kernel
theorem d_Model_init_185 : decode b_Model_init 185 = .ok (.bipush 9, 2) := by decide +kernel
theorem d_Model_init_187 : decode b_Model_init 187 = .ok (.ldc 63, 2) := by decide +kernel
theorem d_Model_init_189 : decode b_Model_init 189 = .ok (.iastore, 1) := by decide +kernel
theorem d_Model_init_190 : decode b_Model_init 190 = .ok (.dup, 1) := by decide +kernel
theorem d_Model_init_191 : decode b_Model_init 191 = .ok (.bipush 10, 2) := by decide +kernel
theorem d_Model_init_193 : decode b_Model_init 193 = .ok (.ldc 64, 2) := by decide +kernel
theorem d_Model_init_195 : decode b_Model_init 195 = .ok (.iastore, 1) := by decide +kernel
theorem d_Model_init_196 : decode b_Model_init 196 = .ok (.dup, 1) := by decide +kernel
theorem d_Model_init_197 : decode b_Model_init 197 = .ok (.bipush 11, 2) := by decide +kernel
theorem d_Model_init_199 : decode b_Model_init 199 = .ok (.ldc 65, 2) := by decide +kernel
theorem d_Model_init_201 : decode b_Model_init 201 = .ok (.iastore, 1) := by decide +kernel
theorem d_Model_init_202 : decode b_Model_init 202 = .ok (.dup, 1) := by decide +kernel
theorem d_Model_init_203 : decode b_Model_init 203 = .ok (.bipush 12, 2) := by decide +kernel
theorem d_Model_init_205 : decode b_Model_init 205 = .ok (.ldc 66, 2) := by decide +kernel
theorem d_Model_init_207 : decode b_Model_init 207 = .ok (.iastore, 1) := by decide +kernel
theorem d_Model_init_208 : decode b_Model_init 208 = .ok (.dup, 1) := by decide +kernel
theorem d_Model_init_209 : decode b_Model_init 209 = .ok (.bipush 13, 2) := by decide +kernel
theorem d_Model_init_211 : decode b_Model_init 211 = .ok (.ldc 67, 2) := by decide +kernel
theorem d_Model_init_213 : decode b_Model_init 213 = .ok (.iastore, 1) := by decide +kernel
theorem d_Model_init_214 : decode b_Model_init 214 = .ok (.dup, 1) := by decide +kernel
theorem d_Model_init_215 : decode b_Model_init 215 = .ok (.bipush 14, 2) := by decide +kernel
theorem d_Model_init_217 : decode b_Model_init 217 = .ok (.ldc 68, 2) := by decide +kernel
theorem d_Model_init_219 : decode b_Model_init 219 = .ok (.iastore, 1) := by decide +kernel
theorem d_Model_init_220 : decode b_Model_init 220 = .ok (.dup, 1) := by decide +kernel
theorem d_Model_init_221 : decode b_Model_init 221 = .ok (.bipush 15, 2) := by decide +kernel
theorem d_Model_init_223 : decode b_Model_init 223 = .ok (.ldc 69, 2) := by decide +kernel
theorem d_Model_init_225 : decode b_Model_init 225 = .ok (.iastore, 1) := by decide +kernel
theorem d_Model_init_226 : decode b_Model_init 226 = .ok (.dup, 1) := by decide +kernel
theorem d_Model_init_227 : decode b_Model_init 227 = .ok (.bipush 16, 2) := by decide +kernel
theorem d_Model_init_229 : decode b_Model_init 229 = .ok (.ldc 70, 2) := by decide +kernel
theorem d_Model_init_231 : decode b_Model_init 231 = .ok (.iastore, 1) := by decide +kernel
theorem d_Model_init_232 : decode b_Model_init 232 = .ok (.dup, 1) := by decide +kernel
theorem d_Model_init_233 : decode b_Model_init 233 = .ok (.bipush 17, 2) := by decide +kernel
theorem d_Model_init_235 : decode b_Model_init 235 = .ok (.ldc 71, 2) := by decide +kernel
theorem d_Model_init_237 : decode b_Model_init 237 = .ok (.iastore, 1) := by decide +kernel
theorem d_Model_init_238 : decode b_Model_init 238 = .ok (.dup, 1) := by decide +kernel
theorem d_Model_init_239 : decode b_Model_init 239 = .ok (.bipush 18, 2) := by decide +kernel
theorem d_Model_init_241 : decode b_Model_init 241 = .ok (.ldc 72, 2) := by decide +kernel
theorem d_Model_init_243 : decode b_Model_init 243 = .ok (.iastore, 1) := by decide +kernel
theorem d_Model_init_244 : decode b_Model_init 244 = .ok (.dup, 1) := by decide +kernel
theorem d_Model_init_245 : decode b_Model_init 245 = .ok (.bipush 19, 2) := by decide +kernel
theorem d_Model_init_247 : decode b_Model_init 247 = .ok (.ldc 73, 2) := by decide +kernel
theorem d_Model_init_249 : decode b_Model_init 249 = .ok (.iastore, 1) := by decide +kernel
theorem d_Model_init_250 : decode b_Model_init 250 = .ok (.dup, 1) := by decide +kernel
theorem d_Model_init_251 : decode b_Model_init 251 = .ok (.bipush 20, 2) := by decide +kernel
theorem d_Model_init_253 : decode b_Model_init 253 = .ok (.ldc 74, 2) := by decide +kernel
theorem d_Model_init_255 : decode b_Model_init 255 = .ok (.iastore, 1) := by decide +kernel
theorem d_Model_init_256 : decode b_Model_init 256 = .ok (.dup, 1) := by decide +kernel
theorem d_Model_init_257 : decode b_Model_init 257 = .ok (.bipush 21, 2) := by decide +kernel
theorem d_Model_init_259 : decode b_Model_init 259 = .ok (.ldc 75, 2) := by decide +kernel
theorem d_Model_init_261 : decode b_Model_init 261 = .ok (.iastore, 1) := by decide +kernel
theorem d_Model_init_262 : decode b_Model_init 262 = .ok (.dup, 1) := by decide +kernel
theorem d_Model_init_263 : decode b_Model_init 263 = .ok (.bipush 22, 2) := by decide +kernel
theorem d_Model_init_265 : decode b_Model_init 265 = .ok (.ldc 76, 2) := by decide +kernel
theorem d_Model_init_267 : decode b_Model_init 267 = .ok (.iastore, 1) := by decide +kernel
theorem d_Model_init_268 : decode b_Model_init 268 = .ok (.dup, 1) := by decide +kernel
theorem d_Model_init_269 : decode b_Model_init 269 = .ok (.bipush 23, 2) := by decide +kernel
theorem d_Model_init_271 : decode b_Model_init 271 = .ok (.ldc 77, 2) := by decide +kernel
theorem d_Model_init_273 : decode b_Model_init 273 = .ok (.iastore, 1) := by decide +kernel
theorem d_Model_init_274 : decode b_Model_init 274 = .ok (.dup, 1) := by decide +kernel
theorem d_Model_init_275 : decode b_Model_init 275 = .ok (.bipush 24, 2) := by decide +kernel
theorem d_Model_init_277 : decode b_Model_init 277 = .ok (.ldc 78, 2) := by decide +kernel
theorem d_Model_init_279 : decode b_Model_init 279 = .ok (.iastore, 1) := by decide +kernel
theorem d_Model_init_280 : decode b_Model_init 280 = .ok (.dup, 1) := by decide +kernel
theorem d_Model_init_281 : decode b_Model_init 281 = .ok (.bipush 25, 2) := by decide +kernel
theorem d_Model_init_283 : decode b_Model_init 283 = .ok (.ldc 79, 2) := by decide +kernel
theorem d_Model_init_285 : decode b_Model_init 285 = .ok (.iastore, 1) := by decide +kernel
theorem d_Model_init_286 : decode b_Model_init 286 = .ok (.dup, 1) := by decide +kernel
theorem d_Model_init_287 : decode b_Model_init 287 = .ok (.bipush 26, 2) := by decide +kernel
theorem d_Model_init_289 : decode b_Model_init 289 = .ok (.ldc 80, 2) := by decide +kernel
theorem d_Model_init_291 : decode b_Model_init 291 = .ok (.iastore, 1) := by decide +kernel
theorem d_Model_init_292 : decode b_Model_init 292 = .ok (.dup, 1) := by decide +kernel
theorem d_Model_init_293 : decode b_Model_init 293 = .ok (.bipush 27, 2) := by decide +kernel
theorem d_Model_init_295 : decode b_Model_init 295 = .ok (.ldc 81, 2) := by decide +kernel
theorem d_Model_init_297 : decode b_Model_init 297 = .ok (.iastore, 1) := by decide +kernel
theorem d_Model_init_298 : decode b_Model_init 298 = .ok (.dup, 1) := by decide +kernel
theorem d_Model_init_299 : decode b_Model_init 299 = .ok (.bipush 28, 2) := by decide +kernel
theorem d_Model_init_301 : decode b_Model_init 301 = .ok (.ldc 82, 2) := by decide +kernel
theorem d_Model_init_303 : decode b_Model_init 303 = .ok (.iastore, 1) := by decide +kernel
theorem d_Model_init_304 : decode b_Model_init 304 = .ok (.dup, 1) := by decide +kernel
theorem d_Model_init_305 : decode b_Model_init 305 = .ok (.bipush 29, 2) := by decide +kernel
theorem d_Model_init_307 : decode b_Model_init 307 = .ok (.ldc 83, 2) := by decide +kernel
theorem d_Model_init_309 : decode b_Model_init 309 = .ok (.iastore, 1) := by decide +kernel
theorem d_Model_init_310 : decode b_Model_init 310 = .ok (.dup, 1) := by decide +kernel
theorem d_Model_init_311 : decode b_Model_init 311 = .ok (.bipush 30, 2) := by decide +kernel
theorem d_Model_init_313 : decode b_Model_init 313 = .ok (.ldc 84, 2) := by decide +kernel
theorem d_Model_init_315 : decode b_Model_init 315 = .ok (.iastore, 1) := by decide +kernel
theorem d_Model_init_316 : decode b_Model_init 316 = .ok (.dup, 1) := by decide +kernel
theorem d_Model_init_317 : decode b_Model_init 317 = .ok (.bipush 31, 2) := by decide +kernel
theorem d_Model_init_319 : decode b_Model_init 319 = .ok (.ldc 85, 2) := by decide +kernel
theorem d_Model_init_321 : decode b_Model_init 321 = .ok (.iastore, 1) := by decide +kernel
theorem d_Model_init_322 : decode b_Model_init 322 = .ok (.dup, 1) := by decide +kernel
theorem d_Model_init_323 : decode b_Model_init 323 = .ok (.bipush 32, 2) := by decide +kernel
theorem d_Model_init_325 : decode b_Model_init 325 = .ok (.ldc 86, 2) := by decide +kernel
theorem d_Model_init_327 : decode b_Model_init 327 = .ok (.iastore, 1) := by decide +kernel
theorem d_Model_init_328 : decode b_Model_init 328 = .ok (.dup, 1) := by decide +kernel
theorem d_Model_init_329 : decode b_Model_init 329 = .ok (.bipush 33, 2) := by decide +kernel
theorem d_Model_init_331 : decode b_Model_init 331 = .ok (.ldc 87, 2) := by decide +kernel
theorem d_Model_init_333 : decode b_Model_init 333 = .ok (.iastore, 1) := by decide +kernel
theorem d_Model_init_334 : decode b_Model_init 334 = .ok (.dup, 1) := by decide +kernel
theorem d_Model_init_335 : decode b_Model_init 335 = .ok (.bipush 34, 2) := by decide +kernel
theorem d_Model_init_337 : decode b_Model_init 337 = .ok (.ldc 88, 2) := by decide +kernel
theorem d_Model_init_339 : decode b_Model_init 339 = .ok (.iastore, 1) := by decide +kernel
theorem d_Model_init_340 : decode b_Model_init 340 = .ok (.dup, 1) := by decide +kernel
theorem d_Model_init_341 : decode b_Model_init 341 = .ok (.bipush 35, 2) := by decide +kernel
theorem d_Model_init_343 : decode b_Model_init 343 = .ok (.ldc 89, 2) := by decide +kernel
theorem d_Model_init_345 : decode b_Model_init 345 = .ok (.iastore, 1) := by decide +kernel
theorem d_Model_init_346 : decode b_Model_init 346 = .ok (.dup, 1) := by decide +kernel
theorem d_Model_init_347 : decode b_Model_init 347 = .ok (.bipush 36, 2) := by decide +kernel
theorem d_Model_init_349 : decode b_Model_init 349 = .ok (.ldc 90, 2) := by decide +kernel
theorem d_Model_init_351 : decode b_Model_init 351 = .ok (.iastore, 1) := by decide +kernel
theorem d_Model_init_352 : decode b_Model_init 352 = .ok (.dup, 1) := by decide +kernel
theorem d_Model_init_353 : decode b_Model_init 353 = .ok (.bipush 37, 2) := by decide +kernel
theorem d_Model_init_355 : decode b_Model_init 355 = .ok (.ldc 91, 2) := by decide +kernel
theorem d_Model_init_357 : decode b_Model_init 357 = .ok (.iastore, 1) := by decide +kernel
theorem d_Model_init_358 : decode b_Model_init 358 = .ok (.dup, 1) := by decide +kernel
theorem d_Model_init_359 : decode b_Model_init 359 = .ok (.bipush 38, 2) := by decide +kernel
theorem d_Model_init_361 : decode b_Model_init 361 = .ok (.ldc 92, 2) := by decide +kernel
theorem d_Model_init_363 : decode b_Model_init 363 = .ok (.iastore, 1) := by decide +kernel
theorem d_Model_init_364 : decode b_Model_init 364 = .ok (.dup, 1) := by decide +kernel
theorem d_Model_init_365 : decode b_Model_init 365 = .ok (.bipush 39, 2) := by decide +kernel
theorem d_Model_init_367 : decode b_Model_init 367 = .ok (.ldc 93, 2) := by decide +kernel
theorem d_Model_init_369 : decode b_Model_init 369 = .ok (.iastore, 1) := by decide +kernel
theorem d_Model_init_370 : decode b_Model_init 370 = .ok (.dup, 1) := by decide +kernel
theorem d_Model_init_371 : decode b_Model_init 371 = .ok (.bipush 40, 2) := by decide +kernel
theorem d_Model_init_373 : decode b_Model_init 373 = .ok (.ldc 94, 2) := by decide +kernel
theorem d_Model_init_375 : decode b_Model_init 375 = .ok (.iastore, 1) := by decide +kernel
theorem d_Model_init_376 : decode b_Model_init 376 = .ok (.dup, 1) := by decide +kernel
theorem d_Model_init_377 : decode b_Model_init 377 = .ok (.bipush 41, 2) := by decide +kernel
theorem d_Model_init_379 : decode b_Model_init 379 = .ok (.ldc 95, 2) := by decide +kernel
theorem d_Model_init_381 : decode b_Model_init 381 = .ok (.iastore, 1) := by decide +kernel
theorem d_Model_init_382 : decode b_Model_init 382 = .ok (.dup, 1) := by decide +kernel
theorem d_Model_init_383 : decode b_Model_init 383 = .ok (.bipush 42, 2) := by decide +kernel
theorem d_Model_init_385 : decode b_Model_init 385 = .ok (.ldc 96, 2) := by decide +kernel
theorem d_Model_init_387 : decode b_Model_init 387 = .ok (.iastore, 1) := by decide +kernel
theorem d_Model_init_388 : decode b_Model_init 388 = .ok (.dup, 1) := by decide +kernel
theorem d_Model_init_389 : decode b_Model_init 389 = .ok (.bipush 43, 2) := by decide +kernel
theorem d_Model_init_391 : decode b_Model_init 391 = .ok (.ldc 97, 2) := by decide +kernel
theorem d_Model_init_393 : decode b_Model_init 393 = .ok (.iastore, 1) := by decide +kernel
theorem d_Model_init_394 : decode b_Model_init 394 = .ok (.dup, 1) := by decide +kernel
theorem d_Model_init_395 : decode b_Model_init 395 = .ok (.bipush 44, 2) := by decide +kernel
theorem d_Model_init_397 : decode b_Model_init 397 = .ok (.ldc 98, 2) := by decide +kernel
theorem d_Model_init_399 : decode b_Model_init 399 = .ok (.iastore, 1) := by decide +kernel
theorem d_Model_init_400 : decode b_Model_init 400 = .ok (.dup, 1) := by decide +kernel
theorem d_Model_init_401 : decode b_Model_init 401 = .ok (.bipush 45, 2) := by decide +kernel
theorem d_Model_init_403 : decode b_Model_init 403 = .ok (.ldc 99, 2) := by decide +kernel
theorem d_Model_init_405 : decode b_Model_init 405 = .ok (.iastore, 1) := by decide +kernel
theorem d_Model_init_406 : decode b_Model_init 406 = .ok (.dup, 1) := by decide +kernel
theorem d_Model_init_407 : decode b_Model_init 407 = .ok (.bipush 46, 2) := by decide +kernel
theorem d_Model_init_409 : decode b_Model_init 409 = .ok (.ldc 100, 2) := by decide +kernel
theorem d_Model_init_411 : decode b_Model_init 411 = .ok (.iastore, 1) := by decide +kernel
theorem d_Model_init_412 : decode b_Model_init 412 = .ok (.dup, 1) := by decide +kernel
theorem d_Model_init_413 : decode b_Model_init 413 = .ok (.bipush 47, 2) := by decide +kernel
theorem d_Model_init_415 : decode b_Model_init 415 = .ok (.ldc 101, 2) := by decide +kernel
theorem d_Model_init_417 : decode b_Model_init 417 = .ok (.iastore, 1) := by decide +kernel
theorem d_Model_init_418 : decode b_Model_init 418 = .ok (.dup, 1) := by decide +kernel
theorem d_Model_init_419 : decode b_Model_init 419 = .ok (.bipush 48, 2) := by decide +kernel
theorem d_Model_init_421 : decode b_Model_init 421 = .ok (.ldc 102, 2) := by decide +kernel
theorem d_Model_init_423 : decode b_Model_init 423 = .ok (.iastore, 1) := by decide +kernel
theorem d_Model_init_424 : decode b_Model_init 424 = .ok (.dup, 1) := by decide +kernel
theorem d_Model_init_425 : decode b_Model_init 425 = .ok (.bipush 49, 2) := by decide +kernel
theorem d_Model_init_427 : decode b_Model_init 427 = .ok (.ldc 103, 2) := by decide +kernel
theorem d_Model_init_429 : decode b_Model_init 429 = .ok (.iastore, 1) := by decide +kernel
theorem d_Model_init_430 : decode b_Model_init 430 = .ok (.dup, 1) := by decide +kernel
theorem d_Model_init_431 : decode b_Model_init 431 = .ok (.bipush 50, 2) := by decide +kernel
theorem d_Model_init_433 : decode b_Model_init 433 = .ok (.ldc 104, 2) := by decide +kernel
theorem d_Model_init_435 : decode b_Model_init 435 = .ok (.iastore, 1) := by decide +kernel
theorem d_Model_init_436 : decode b_Model_init 436 = .ok (.dup, 1) := by decide +kernel
theorem d_Model_init_437 : decode b_Model_init 437 = .ok (.bipush 51, 2) := by decide +kernel
theorem d_Model_init_439 : decode b_Model_init 439 = .ok (.ldc 105, 2) := by decide +kernel
theorem d_Model_init_441 : decode b_Model_init 441 = .ok (.iastore, 1) := by decide +kernel
theorem d_Model_init_442 : decode b_Model_init 442 = .ok (.dup, 1) := by decide +kernel
theorem d_Model_init_443 : decode b_Model_init 443 = .ok (.bipush 52, 2) := by decide +kernel
theorem d_Model_init_445 : decode b_Model_init 445 = .ok (.ldc 106, 2) := by decide +kernel
theorem d_Model_init_447 : decode b_Model_init 447 = .ok (.iastore, 1) := by decide +kernel
theorem d_Model_init_448 : decode b_Model_init 448 = .ok (.dup, 1) := by decide +kernel
theorem d_Model_init_449 : decode b_Model_init 449 = .ok (.bipush 53, 2) := by decide +kernel
theorem d_Model_init_451 : decode b_Model_init 451 = .ok (.ldc 107, 2) := by decide +kernel
theorem d_Model_init_453 : decode b_Model_init 453 = .ok (.iastore, 1) := by decide +kernel
theorem d_Model_init_454 : decode b_Model_init 454 = .ok (.dup, 1) := by decide +kernel
theorem d_Model_init_455 : decode b_Model_init 455 = .ok (.bipush 54, 2) := by decide +kernel
theorem d_Model_init_457 : decode b_Model_init 457 = .ok (.ldc 108, 2) := by decide +kernel
theorem d_Model_init_459 : decode b_Model_init 459 = .ok (.iastore, 1) := by decide +kernel
theorem d_Model_init_460 : decode b_Model_init 460 = .ok (.dup, 1) := by decide +kernel
theorem d_Model_init_461 : decode b_Model_init 461 = .ok (.bipush 55, 2) := by decide +kernel
theorem d_Model_init_463 : decode b_Model_init 463 = .ok (.ldc 109, 2) := by decide +kernel
theorem d_Model_init_465 : decode b_Model_init 465 = .ok (.iastore, 1) := by decide +kernel
theorem d_Model_init_466 : decode b_Model_init 466 = .ok (.dup, 1) := by decide +kernel
theorem d_Model_init_467 : decode b_Model_init 467 = .ok (.bipush 56, 2) := by decide +kernel
theorem d_Model_init_469 : decode b_Model_init 469 = .ok (.ldc 110, 2) := by decide +kernel
theorem d_Model_init_471 : decode b_Model_init 471 = .ok (.iastore, 1) := by decide +kernel
theorem d_Model_init_472 : decode b_Model_init 472 = .ok (.dup, 1) := by decide +kernel
theorem d_Model_init_473 : decode b_Model_init 473 = .ok (.bipush 57, 2) := by decide +kernel
theorem d_Model_init_475 : decode b_Model_init 475 = .ok (.ldc 111, 2) := by decide +kernel
theorem d_Model_init_477 : decode b_Model_init 477 = .ok (.iastore, 1) := by decide +kernel
theorem d_Model_init_478 : decode b_Model_init 478 = .ok (.dup, 1) := by decide +kernel
theorem d_Model_init_479 : decode b_Model_init 479 = .ok (.bipush 58, 2) := by decide +kernel
theorem d_Model_init_481 : decode b_Model_init 481 = .ok (.ldc 112, 2) := by decide +kernel
theorem d_Model_init_483 : decode b_Model_init 483 = .ok (.iastore, 1) := by decide +kernel
theorem d_Model_init_484 : decode b_Model_init 484 = .ok (.dup, 1) := by decide +kernel
theorem d_Model_init_485 : decode b_Model_init 485 = .ok (.bipush 59, 2) := by decide +kernel
theorem d_Model_init_487 : decode b_Model_init 487 = .ok (.ldc 113, 2) := by decide +kernel
theorem d_Model_init_489 : decode b_Model_init 489 = .ok (.iastore, 1) := by decide +kernel
theorem d_Model_init_490 : decode b_Model_init 490 = .ok (.dup, 1) := by decide +kernel
theorem d_Model_init_491 : decode b_Model_init 491 = .ok (.bipush 60, 2) := by decide +kernel
theorem d_Model_init_493 : decode b_Model_init 493 = .ok (.ldc 114, 2) := by decide +kernel
theorem d_Model_init_495 : decode b_Model_init 495 = .ok (.iastore, 1) := by decide +kernel
theorem d_Model_init_496 : decode b_Model_init 496 = .ok (.dup, 1) := by decide +kernel
theorem d_Model_init_497 : decode b_Model_init 497 = .ok (.bipush 61, 2) := by decide +kernel
theorem d_Model_init_499 : decode b_Model_init 499 = .ok (.ldc 115, 2) := by decide +kernel
theorem d_Model_init_501 : decode b_Model_init 501 = .ok (.iastore, 1) := by decide +kernel
theorem d_Model_init_502 : decode b_Model_init 502 = .ok (.dup, 1) := by decide +kernel
theorem d_Model_init_503 : decode b_Model_init 503 = .ok (.bipush 62, 2) := by decide +kernel
theorem d_Model_init_505 : decode b_Model_init 505 = .ok (.ldc 116, 2) := by decide +kernel
theorem d_Model_init_507 : decode b_Model_init 507 = .ok (.iastore, 1) := by decide +kernel
theorem d_Model_init_508 : decode b_Model_init 508 = .ok (.dup, 1) := by decide +kernel
theorem d_Model_init_509 : decode b_Model_init 509 = .ok (.bipush 63, 2) := by decide +kernel
theorem d_Model_init_511 : decode b_Model_init 511 = .ok (.ldc 117, 2) := by decide +kernel
theorem d_Model_init_513 : decode b_Model_init 513 = .ok (.iastore, 1) := by decide +kernel
theorem d_Model_init_514 : decode b_Model_init 514 = .ok (.putfield 118, 3) := by decide +kernel
theorem d_Model_init_517 : decode b_Model_init 517 = .ok (.aload_n 0, 1) := by decide +kernel
theorem d_Model_init_518 : decode b_Model_init 518 = .ok (.sipush 600, 3) := by decide +kernel
theorem d_Model_init_521 : decode b_Model_init 521 = .ok (.newarray .int, 2) := by decide +kernel
theorem d_Model_init_523 : decode b_Model_init 523 = .ok (.putfield 121, 3) := by decide +kernel
theorem d_Model_init_526 : decode b_Model_init 526 = .ok (.aload_n 0, 1) := by decide +kernel
theorem d_Model_init_527 : decode b_Model_init 527 = .ok (.sipush 600, 3) := by decide +kernel
theorem d_Model_init_530 : decode b_Model_init 530 = .ok (.newarray .int, 2) := by decide +kernel
theorem d_Model_init_532 : decode b_Model_init 532 = .ok (.putfield 124, 3) := by decide +kernel
theorem d_Model_init_535 : decode b_Model_init 535 = .ok (.aload_n 0, 1) := by decide +kernel
theorem d_Model_init_536 : decode b_Model_init 536 = .ok (.sipush 600, 3) := by decide +kernel
theorem d_Model_init_539 : decode b_Model_init 539 = .ok (.newarray .int, 2) := by decide +kernel
theorem d_Model_init_541 : decode b_Model_init 541 = .ok (.putfield 127, 3) := by decide +kernel
theorem d_Model_init_544 : decode b_Model_init 544 = .ok (.aload_n 0, 1) := by decide +kernel
theorem d_Model_init_545 : decode b_Model_init 545 = .ok (.sipush 600, 3) := by decide +kernel
theorem d_Model_init_548 : decode b_Model_init 548 = .ok (.newarray .int, 2) := by decide +kernel
theorem d_Model_init_550 : decode b_Model_init 550 = .ok (.putfield 130, 3) := by decide +kernel
theorem d_Model_init_553 : decode b_Model_init 553 = .ok (.aload_n 0, 1) := by decide +kernel
theorem d_Model_init_554 : decode b_Model_init 554 = .ok (.sipush 600, 3) := by decide +kernel
theorem d_Model_init_557 : decode b_Model_init 557 = .ok (.newarray .int, 2) := by decide +kernel
theorem d_Model_init_559 : decode b_Model_init 559 = .ok (.putfield 133, 3) := by decide +kernel
theorem d_Model_init_562 : decode b_Model_init 562 = .ok (.aload_n 0, 1) := by decide +kernel
theorem d_Model_init_563 : decode b_Model_init 563 = .ok (.bipush 16, 2) := by decide +kernel
theorem d_Model_init_565 : decode b_Model_init 565 = .ok (.newarray .int, 2) := by decide +kernel
theorem d_Model_init_567 : decode b_Model_init 567 = .ok (.putfield 136, 3) := by decide +kernel
theorem d_Model_init_570 : decode b_Model_init 570 = .ok (.aload_n 0, 1) := by decide +kernel
theorem d_Model_init_571 : decode b_Model_init 571 = .ok (.bipush 16, 2) := by decide +kernel
theorem d_Model_init_573 : decode b_Model_init 573 = .ok (.newarray .int, 2) := by decide +kernel
theorem d_Model_init_575 : decode b_Model_init 575 = .ok (.putfield 139, 3) := by decide +kernel
theorem d_Model_init_578 : decode b_Model_init 578 = .ok (.aload_n 0, 1) := by decide +kernel
theorem d_Model_init_579 : decode b_Model_init 579 = .ok (.iconst (-1), 1) := by decide +kernel
theorem d_Model_init_580 : decode b_Model_init 580 = .ok (.putfield 142, 3) := by decide +kernel
theorem d_Model_init_583 : decode b_Model_init 583 = .ok (.return_, 1) := by decide +kernel
