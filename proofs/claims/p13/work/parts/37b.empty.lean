/-! The readers on an empty text. -/
theorem bz_fit {r : Int32} {P : Prop} (h : bz r P) : fits .boolean (.int r) = true := by
  rcases h with ⟨h1, _⟩ | ⟨h1, _⟩ <;> rw [h1] <;> rfl
def y_Reader_name : MethodName := ⟨"TrustChain$Reader", "name", "(I)LTrustChain$Slice;"⟩
abbrev b_Reader_name : ByteArray := prog_8_method_17_code
def w_Reader_name : List Cond := Cond.code y_Reader_name b_Reader_name 11 ((some (FieldType.object "TrustChain$Slice"))) :: tb
theorem d_Reader_name_0 : decode b_Reader_name 0 = .ok (.aload_n 0, 1) := by decide +kernel
theorem d_Reader_name_1 : decode b_Reader_name 1 = .ok (.bipush 48, 2) := by decide +kernel
theorem d_Reader_name_3 : decode b_Reader_name 3 = .ok (.iload_n 1, 1) := by decide +kernel
theorem d_Reader_name_4 : decode b_Reader_name 4 = .ok (.invokevirtual 49, 3) := by decide +kernel
theorem d_Reader_name_7 : decode b_Reader_name 7 = .ok (.istore_n 2, 1) := by decide +kernel
theorem d_Reader_name_8 : decode b_Reader_name 8 = .ok (.aload_n 0, 1) := by decide +kernel
theorem d_Reader_name_9 : decode b_Reader_name 9 = .ok (.getfield 9, 3) := by decide +kernel
theorem d_Reader_name_12 : decode b_Reader_name 12 = .ok (.istore_n 3, 1) := by decide +kernel
theorem d_Reader_name_13 : decode b_Reader_name 13 = .ok (.aload_n 0, 1) := by decide +kernel
theorem d_Reader_name_14 : decode b_Reader_name 14 = .ok (.iconst 0, 1) := by decide +kernel
theorem d_Reader_name_15 : decode b_Reader_name 15 = .ok (.putfield 21, 3) := by decide +kernel
theorem d_Reader_name_18 : decode b_Reader_name 18 = .ok (.iconst 0, 1) := by decide +kernel
theorem d_Reader_name_19 : decode b_Reader_name 19 = .ok (.istore 4, 2) := by decide +kernel
theorem d_Reader_name_21 : decode b_Reader_name 21 = .ok (.iload 4, 2) := by decide +kernel
theorem d_Reader_name_23 : decode b_Reader_name 23 = .ok (.sipush 2048, 3) := by decide +kernel
theorem d_Reader_name_26 : decode b_Reader_name 26 = .ok (.if_icmp .ge 189, 3) := by decide +kernel
theorem d_Reader_name_29 : decode b_Reader_name 29 = .ok (.aload_n 0, 1) := by decide +kernel
theorem d_Reader_name_30 : decode b_Reader_name 30 = .ok (.iload_n 2, 1) := by decide +kernel
theorem d_Reader_name_31 : decode b_Reader_name 31 = .ok (.invokevirtual 41, 3) := by decide +kernel
theorem d_Reader_name_34 : decode b_Reader_name 34 = .ok (.ifCond .eq 181, 3) := by decide +kernel
theorem d_Reader_name_37 : decode b_Reader_name 37 = .ok (.aload_n 0, 1) := by decide +kernel
theorem d_Reader_name_38 : decode b_Reader_name 38 = .ok (.bipush 49, 2) := by decide +kernel
theorem d_Reader_name_40 : decode b_Reader_name 40 = .ok (.iload_n 2, 1) := by decide +kernel
theorem d_Reader_name_41 : decode b_Reader_name 41 = .ok (.invokevirtual 49, 3) := by decide +kernel
theorem d_Reader_name_44 : decode b_Reader_name 44 = .ok (.istore 5, 2) := by decide +kernel
theorem d_Reader_name_46 : decode b_Reader_name 46 = .ok (.aload_n 0, 1) := by decide +kernel
theorem d_Reader_name_47 : decode b_Reader_name 47 = .ok (.bipush 48, 2) := by decide +kernel
theorem d_Reader_name_49 : decode b_Reader_name 49 = .ok (.iload 5, 2) := by decide +kernel
theorem d_Reader_name_51 : decode b_Reader_name 51 = .ok (.invokevirtual 49, 3) := by decide +kernel
theorem d_Reader_name_54 : decode b_Reader_name 54 = .ok (.istore 6, 2) := by decide +kernel
theorem d_Reader_name_56 : decode b_Reader_name 56 = .ok (.aload_n 0, 1) := by decide +kernel
theorem d_Reader_name_57 : decode b_Reader_name 57 = .ok (.bipush 6, 2) := by decide +kernel
theorem d_Reader_name_59 : decode b_Reader_name 59 = .ok (.iload 6, 2) := by decide +kernel
theorem d_Reader_name_61 : decode b_Reader_name 61 = .ok (.invokevirtual 49, 3) := by decide +kernel
theorem d_Reader_name_64 : decode b_Reader_name 64 = .ok (.istore 7, 2) := by decide +kernel
theorem d_Reader_name_66 : decode b_Reader_name 66 = .ok (.aload_n 0, 1) := by decide +kernel
theorem d_Reader_name_67 : decode b_Reader_name 67 = .ok (.iload 7, 2) := by decide +kernel
theorem d_Reader_name_69 : decode b_Reader_name 69 = .ok (.aload_n 0, 1) := by decide +kernel
theorem d_Reader_name_70 : decode b_Reader_name 70 = .ok (.aload_n 0, 1) := by decide +kernel
theorem d_Reader_name_71 : decode b_Reader_name 71 = .ok (.getfield 9, 3) := by decide +kernel
theorem d_Reader_name_74 : decode b_Reader_name 74 = .ok (.iload 7, 2) := by decide +kernel
theorem d_Reader_name_76 : decode b_Reader_name 76 = .ok (.invokevirtual 85, 3) := by decide +kernel
theorem d_Reader_name_79 : decode b_Reader_name 79 = .ok (.invokevirtual 53, 3) := by decide +kernel
theorem d_Reader_name_82 : decode b_Reader_name 82 = .ok (.aload_n 0, 1) := by decide +kernel
theorem d_Reader_name_83 : decode b_Reader_name 83 = .ok (.bipush 12, 2) := by decide +kernel
theorem d_Reader_name_85 : decode b_Reader_name 85 = .ok (.iload 6, 2) := by decide +kernel
theorem d_Reader_name_87 : decode b_Reader_name 87 = .ok (.invokevirtual 89, 3) := by decide +kernel
theorem d_Reader_name_90 : decode b_Reader_name 90 = .ok (.ifCond .eq 8, 3) := by decide +kernel
theorem d_Reader_name_93 : decode b_Reader_name 93 = .ok (.bipush 12, 2) := by decide +kernel
theorem d_Reader_name_95 : decode b_Reader_name 95 = .ok (.goto 21, 3) := by decide +kernel
theorem d_Reader_name_98 : decode b_Reader_name 98 = .ok (.aload_n 0, 1) := by decide +kernel
theorem d_Reader_name_99 : decode b_Reader_name 99 = .ok (.bipush 22, 2) := by decide +kernel
theorem d_Reader_name_101 : decode b_Reader_name 101 = .ok (.iload 6, 2) := by decide +kernel
theorem d_Reader_name_103 : decode b_Reader_name 103 = .ok (.invokevirtual 89, 3) := by decide +kernel
theorem d_Reader_name_106 : decode b_Reader_name 106 = .ok (.ifCond .eq 8, 3) := by decide +kernel
theorem d_Reader_name_109 : decode b_Reader_name 109 = .ok (.bipush 22, 2) := by decide +kernel
theorem d_Reader_name_111 : decode b_Reader_name 111 = .ok (.goto 5, 3) := by decide +kernel
theorem d_Reader_name_114 : decode b_Reader_name 114 = .ok (.bipush 19, 2) := by decide +kernel
theorem d_Reader_name_116 : decode b_Reader_name 116 = .ok (.istore 8, 2) := by decide +kernel
theorem d_Reader_name_118 : decode b_Reader_name 118 = .ok (.aload_n 0, 1) := by decide +kernel
theorem d_Reader_name_119 : decode b_Reader_name 119 = .ok (.iload 8, 2) := by decide +kernel
theorem d_Reader_name_121 : decode b_Reader_name 121 = .ok (.iload 6, 2) := by decide +kernel
theorem d_Reader_name_123 : decode b_Reader_name 123 = .ok (.invokevirtual 49, 3) := by decide +kernel
theorem d_Reader_name_126 : decode b_Reader_name 126 = .ok (.istore 9, 2) := by decide +kernel
theorem d_Reader_name_128 : decode b_Reader_name 128 = .ok (.iload 8, 2) := by decide +kernel
theorem d_Reader_name_130 : decode b_Reader_name 130 = .ok (.bipush 12, 2) := by decide +kernel
theorem d_Reader_name_132 : decode b_Reader_name 132 = .ok (.if_icmp .ne 16, 3) := by decide +kernel
theorem d_Reader_name_135 : decode b_Reader_name 135 = .ok (.aload_n 0, 1) := by decide +kernel
theorem d_Reader_name_136 : decode b_Reader_name 136 = .ok (.aload_n 0, 1) := by decide +kernel
theorem d_Reader_name_137 : decode b_Reader_name 137 = .ok (.getfield 9, 3) := by decide +kernel
theorem d_Reader_name_140 : decode b_Reader_name 140 = .ok (.iload 9, 2) := by decide +kernel
theorem d_Reader_name_142 : decode b_Reader_name 142 = .ok (.invokevirtual 92, 3) := by decide +kernel
theorem d_Reader_name_145 : decode b_Reader_name 145 = .ok (.goto 15, 3) := by decide +kernel
theorem d_Reader_name_148 : decode b_Reader_name 148 = .ok (.aload_n 0, 1) := by decide +kernel
theorem d_Reader_name_149 : decode b_Reader_name 149 = .ok (.iload 8, 2) := by decide +kernel
theorem d_Reader_name_151 : decode b_Reader_name 151 = .ok (.aload_n 0, 1) := by decide +kernel
theorem d_Reader_name_152 : decode b_Reader_name 152 = .ok (.getfield 9, 3) := by decide +kernel
theorem d_Reader_name_155 : decode b_Reader_name 155 = .ok (.iload 9, 2) := by decide +kernel
theorem d_Reader_name_157 : decode b_Reader_name 157 = .ok (.invokevirtual 95, 3) := by decide +kernel
theorem d_Reader_name_160 : decode b_Reader_name 160 = .ok (.istore 10, 2) := by decide +kernel
theorem d_Reader_name_162 : decode b_Reader_name 162 = .ok (.aload_n 0, 1) := by decide +kernel
theorem d_Reader_name_163 : decode b_Reader_name 163 = .ok (.iload 9, 2) := by decide +kernel
theorem d_Reader_name_165 : decode b_Reader_name 165 = .ok (.iload 9, 2) := by decide +kernel
theorem d_Reader_name_167 : decode b_Reader_name 167 = .ok (.aload_n 0, 1) := by decide +kernel
theorem d_Reader_name_168 : decode b_Reader_name 168 = .ok (.getfield 9, 3) := by decide +kernel
theorem d_Reader_name_171 : decode b_Reader_name 171 = .ok (.if_icmp .le 12, 3) := by decide +kernel
theorem d_Reader_name_174 : decode b_Reader_name 174 = .ok (.iload 10, 2) := by decide +kernel
theorem d_Reader_name_176 : decode b_Reader_name 176 = .ok (.ifCond .eq 7, 3) := by decide +kernel
theorem d_Reader_name_179 : decode b_Reader_name 179 = .ok (.iconst 1, 1) := by decide +kernel
theorem d_Reader_name_180 : decode b_Reader_name 180 = .ok (.goto 4, 3) := by decide +kernel
theorem d_Reader_name_183 : decode b_Reader_name 183 = .ok (.iconst 0, 1) := by decide +kernel
theorem d_Reader_name_184 : decode b_Reader_name 184 = .ok (.invokevirtual 53, 3) := by decide +kernel
theorem d_Reader_name_187 : decode b_Reader_name 187 = .ok (.aload_n 0, 1) := by decide +kernel
theorem d_Reader_name_188 : decode b_Reader_name 188 = .ok (.iload 6, 2) := by decide +kernel
theorem d_Reader_name_190 : decode b_Reader_name 190 = .ok (.invokevirtual 81, 3) := by decide +kernel
theorem d_Reader_name_193 : decode b_Reader_name 193 = .ok (.aload_n 0, 1) := by decide +kernel
theorem d_Reader_name_194 : decode b_Reader_name 194 = .ok (.iload 5, 2) := by decide +kernel
theorem d_Reader_name_196 : decode b_Reader_name 196 = .ok (.invokevirtual 81, 3) := by decide +kernel
theorem d_Reader_name_199 : decode b_Reader_name 199 = .ok (.aload_n 0, 1) := by decide +kernel
theorem d_Reader_name_200 : decode b_Reader_name 200 = .ok (.dup, 1) := by decide +kernel
theorem d_Reader_name_201 : decode b_Reader_name 201 = .ok (.getfield 21, 3) := by decide +kernel
theorem d_Reader_name_204 : decode b_Reader_name 204 = .ok (.iconst 1, 1) := by decide +kernel
theorem d_Reader_name_205 : decode b_Reader_name 205 = .ok (.iadd, 1) := by decide +kernel
theorem d_Reader_name_206 : decode b_Reader_name 206 = .ok (.putfield 21, 3) := by decide +kernel
theorem d_Reader_name_209 : decode b_Reader_name 209 = .ok (.iinc 4 1, 3) := by decide +kernel
theorem d_Reader_name_212 : decode b_Reader_name 212 = .ok (.goto (-191), 3) := by decide +kernel
theorem d_Reader_name_215 : decode b_Reader_name 215 = .ok (.new 57, 3) := by decide +kernel
theorem d_Reader_name_218 : decode b_Reader_name 218 = .ok (.dup, 1) := by decide +kernel
theorem d_Reader_name_219 : decode b_Reader_name 219 = .ok (.aload_n 0, 1) := by decide +kernel
theorem d_Reader_name_220 : decode b_Reader_name 220 = .ok (.getfield 37, 3) := by decide +kernel
theorem d_Reader_name_223 : decode b_Reader_name 223 = .ok (.iload_n 3, 1) := by decide +kernel
theorem d_Reader_name_224 : decode b_Reader_name 224 = .ok (.iload_n 2, 1) := by decide +kernel
theorem d_Reader_name_225 : decode b_Reader_name 225 = .ok (.invokespecial 59, 3) := by decide +kernel
theorem d_Reader_name_228 : decode b_Reader_name 228 = .ok (.areturn, 1) := by decide +kernel
def y_Reader_fullName : MethodName := ⟨"TrustChain$Reader", "fullName", "(I)LTrustChain$Slice;"⟩
abbrev b_Reader_fullName : ByteArray := prog_8_method_18_code
def w_Reader_fullName : List Cond := Cond.code y_Reader_fullName b_Reader_fullName 4 ((some (FieldType.object "TrustChain$Slice"))) :: tb
theorem d_Reader_fullName_0 : decode b_Reader_fullName 0 = .ok (.aload_n 0, 1) := by decide +kernel
theorem d_Reader_fullName_1 : decode b_Reader_fullName 1 = .ok (.getfield 9, 3) := by decide +kernel
theorem d_Reader_fullName_4 : decode b_Reader_fullName 4 = .ok (.istore_n 2, 1) := by decide +kernel
theorem d_Reader_fullName_5 : decode b_Reader_fullName 5 = .ok (.aload_n 0, 1) := by decide +kernel
theorem d_Reader_fullName_6 : decode b_Reader_fullName 6 = .ok (.iload_n 1, 1) := by decide +kernel
theorem d_Reader_fullName_7 : decode b_Reader_fullName 7 = .ok (.invokevirtual 99, 3) := by decide +kernel
theorem d_Reader_fullName_10 : decode b_Reader_fullName 10 = .ok (.astore_n 3, 1) := by decide +kernel
theorem d_Reader_fullName_11 : decode b_Reader_fullName 11 = .ok (.aload_n 3, 1) := by decide +kernel
theorem d_Reader_fullName_12 : decode b_Reader_fullName 12 = .ok (.invokevirtual 69, 3) := by decide +kernel
theorem d_Reader_fullName_15 : decode b_Reader_fullName 15 = .ok (.ifCond .ne 8, 3) := by decide +kernel
theorem d_Reader_fullName_18 : decode b_Reader_fullName 18 = .ok (.aload_n 0, 1) := by decide +kernel
theorem d_Reader_fullName_19 : decode b_Reader_fullName 19 = .ok (.iload_n 2, 1) := by decide +kernel
theorem d_Reader_fullName_20 : decode b_Reader_fullName 20 = .ok (.invokevirtual 103, 3) := by decide +kernel
theorem d_Reader_fullName_23 : decode b_Reader_fullName 23 = .ok (.aload_n 3, 1) := by decide +kernel
theorem d_Reader_fullName_24 : decode b_Reader_fullName 24 = .ok (.areturn, 1) := by decide +kernel
def y_Reader_readSignature : MethodName := ⟨"TrustChain$Reader", "readSignature", "(LTrustChain$Paper;I)V"⟩
abbrev b_Reader_readSignature : ByteArray := prog_8_method_20_code
def w_Reader_readSignature : List Cond := Cond.code y_Reader_readSignature b_Reader_readSignature 4 (none) :: tb
theorem d_Reader_readSignature_0 : decode b_Reader_readSignature 0 = .ok (.aload_n 0, 1) := by decide +kernel
theorem d_Reader_readSignature_1 : decode b_Reader_readSignature 1 = .ok (.bipush 11, 2) := by decide +kernel
theorem d_Reader_readSignature_3 : decode b_Reader_readSignature 3 = .ok (.iload_n 2, 1) := by decide +kernel
theorem d_Reader_readSignature_4 : decode b_Reader_readSignature 4 = .ok (.invokevirtual 127, 3) := by decide +kernel
theorem d_Reader_readSignature_7 : decode b_Reader_readSignature 7 = .ok (.aload_n 0, 1) := by decide +kernel
theorem d_Reader_readSignature_8 : decode b_Reader_readSignature 8 = .ok (.iload_n 2, 1) := by decide +kernel
theorem d_Reader_readSignature_9 : decode b_Reader_readSignature 9 = .ok (.invokevirtual 131, 3) := by decide +kernel
theorem d_Reader_readSignature_12 : decode b_Reader_readSignature 12 = .ok (.istore_n 3, 1) := by decide +kernel
theorem d_Reader_readSignature_13 : decode b_Reader_readSignature 13 = .ok (.aload_n 1, 1) := by decide +kernel
theorem d_Reader_readSignature_14 : decode b_Reader_readSignature 14 = .ok (.new 57, 3) := by decide +kernel
theorem d_Reader_readSignature_17 : decode b_Reader_readSignature 17 = .ok (.dup, 1) := by decide +kernel
theorem d_Reader_readSignature_18 : decode b_Reader_readSignature 18 = .ok (.aload_n 0, 1) := by decide +kernel
theorem d_Reader_readSignature_19 : decode b_Reader_readSignature 19 = .ok (.getfield 37, 3) := by decide +kernel
theorem d_Reader_readSignature_22 : decode b_Reader_readSignature 22 = .ok (.aload_n 0, 1) := by decide +kernel
theorem d_Reader_readSignature_23 : decode b_Reader_readSignature 23 = .ok (.getfield 9, 3) := by decide +kernel
theorem d_Reader_readSignature_26 : decode b_Reader_readSignature 26 = .ok (.iload_n 3, 1) := by decide +kernel
theorem d_Reader_readSignature_27 : decode b_Reader_readSignature 27 = .ok (.invokespecial 59, 3) := by decide +kernel
theorem d_Reader_readSignature_30 : decode b_Reader_readSignature 30 = .ok (.putfield 134, 3) := by decide +kernel
theorem d_Reader_readSignature_33 : decode b_Reader_readSignature 33 = .ok (.aload_n 0, 1) := by decide +kernel
theorem d_Reader_readSignature_34 : decode b_Reader_readSignature 34 = .ok (.iload_n 3, 1) := by decide +kernel
theorem d_Reader_readSignature_35 : decode b_Reader_readSignature 35 = .ok (.iconst 1, 1) := by decide +kernel
theorem d_Reader_readSignature_36 : decode b_Reader_readSignature 36 = .ok (.invokevirtual 53, 3) := by decide +kernel
theorem d_Reader_readSignature_39 : decode b_Reader_readSignature 39 = .ok (.aload_n 0, 1) := by decide +kernel
theorem d_Reader_readSignature_40 : decode b_Reader_readSignature 40 = .ok (.iload_n 2, 1) := by decide +kernel
theorem d_Reader_readSignature_41 : decode b_Reader_readSignature 41 = .ok (.invokevirtual 81, 3) := by decide +kernel
theorem d_Reader_readSignature_44 : decode b_Reader_readSignature 44 = .ok (.aload_n 0, 1) := by decide +kernel
theorem d_Reader_readSignature_45 : decode b_Reader_readSignature 45 = .ok (.aload_n 0, 1) := by decide +kernel
theorem d_Reader_readSignature_46 : decode b_Reader_readSignature 46 = .ok (.getfield 37, 3) := by decide +kernel
theorem d_Reader_readSignature_49 : decode b_Reader_readSignature 49 = .ok (.arraylength, 1) := by decide +kernel
theorem d_Reader_readSignature_50 : decode b_Reader_readSignature 50 = .ok (.invokevirtual 81, 3) := by decide +kernel
theorem d_Reader_readSignature_53 : decode b_Reader_readSignature 53 = .ok (.return_, 1) := by decide +kernel
def y_CertificateReader_readModulus : MethodName := ⟨"TrustChain$CertificateReader", "readModulus", "(I)V"⟩
abbrev b_CertificateReader_readModulus : ByteArray := prog_3_method_5_code
def w_CertificateReader_readModulus : List Cond := Cond.code y_CertificateReader_readModulus b_CertificateReader_readModulus 6 (none) :: tb
theorem d_CertificateReader_readModulus_0 : decode b_CertificateReader_readModulus 0 = .ok (.aload_n 0, 1) := by decide +kernel
theorem d_CertificateReader_readModulus_1 : decode b_CertificateReader_readModulus 1 = .ok (.iconst 2, 1) := by decide +kernel
theorem d_CertificateReader_readModulus_2 : decode b_CertificateReader_readModulus 2 = .ok (.iload_n 1, 1) := by decide +kernel
theorem d_CertificateReader_readModulus_3 : decode b_CertificateReader_readModulus 3 = .ok (.invokevirtual 70, 3) := by decide +kernel
theorem d_CertificateReader_readModulus_6 : decode b_CertificateReader_readModulus 6 = .ok (.astore_n 2, 1) := by decide +kernel
theorem d_CertificateReader_readModulus_7 : decode b_CertificateReader_readModulus 7 = .ok (.aload_n 2, 1) := by decide +kernel
theorem d_CertificateReader_readModulus_8 : decode b_CertificateReader_readModulus 8 = .ok (.iconst 0, 1) := by decide +kernel
theorem d_CertificateReader_readModulus_9 : decode b_CertificateReader_readModulus 9 = .ok (.invokevirtual 144, 3) := by decide +kernel
theorem d_CertificateReader_readModulus_12 : decode b_CertificateReader_readModulus 12 = .ok (.sipush 128, 3) := by decide +kernel
theorem d_CertificateReader_readModulus_15 : decode b_CertificateReader_readModulus 15 = .ok (.if_icmp .ge 7, 3) := by decide +kernel
theorem d_CertificateReader_readModulus_18 : decode b_CertificateReader_readModulus 18 = .ok (.iconst 1, 1) := by decide +kernel
theorem d_CertificateReader_readModulus_19 : decode b_CertificateReader_readModulus 19 = .ok (.goto 4, 3) := by decide +kernel
theorem d_CertificateReader_readModulus_22 : decode b_CertificateReader_readModulus 22 = .ok (.iconst 0, 1) := by decide +kernel
theorem d_CertificateReader_readModulus_23 : decode b_CertificateReader_readModulus 23 = .ok (.istore_n 3, 1) := by decide +kernel
theorem d_CertificateReader_readModulus_24 : decode b_CertificateReader_readModulus 24 = .ok (.aload_n 2, 1) := by decide +kernel
theorem d_CertificateReader_readModulus_25 : decode b_CertificateReader_readModulus 25 = .ok (.iconst 0, 1) := by decide +kernel
theorem d_CertificateReader_readModulus_26 : decode b_CertificateReader_readModulus 26 = .ok (.invokevirtual 144, 3) := by decide +kernel
theorem d_CertificateReader_readModulus_29 : decode b_CertificateReader_readModulus 29 = .ok (.ifCond .ne 25, 3) := by decide +kernel
theorem d_CertificateReader_readModulus_32 : decode b_CertificateReader_readModulus 32 = .ok (.new 11, 3) := by decide +kernel
theorem d_CertificateReader_readModulus_35 : decode b_CertificateReader_readModulus 35 = .ok (.dup, 1) := by decide +kernel
theorem d_CertificateReader_readModulus_36 : decode b_CertificateReader_readModulus 36 = .ok (.aload_n 0, 1) := by decide +kernel
theorem d_CertificateReader_readModulus_37 : decode b_CertificateReader_readModulus 37 = .ok (.getfield 25, 3) := by decide +kernel
theorem d_CertificateReader_readModulus_40 : decode b_CertificateReader_readModulus 40 = .ok (.aload_n 2, 1) := by decide +kernel
theorem d_CertificateReader_readModulus_41 : decode b_CertificateReader_readModulus 41 = .ok (.getfield 147, 3) := by decide +kernel
theorem d_CertificateReader_readModulus_44 : decode b_CertificateReader_readModulus 44 = .ok (.iconst 1, 1) := by decide +kernel
theorem d_CertificateReader_readModulus_45 : decode b_CertificateReader_readModulus 45 = .ok (.iadd, 1) := by decide +kernel
theorem d_CertificateReader_readModulus_46 : decode b_CertificateReader_readModulus 46 = .ok (.aload_n 2, 1) := by decide +kernel
theorem d_CertificateReader_readModulus_47 : decode b_CertificateReader_readModulus 47 = .ok (.getfield 150, 3) := by decide +kernel
theorem d_CertificateReader_readModulus_50 : decode b_CertificateReader_readModulus 50 = .ok (.invokespecial 13, 3) := by decide +kernel
theorem d_CertificateReader_readModulus_53 : decode b_CertificateReader_readModulus 53 = .ok (.astore_n 2, 1) := by decide +kernel
theorem d_CertificateReader_readModulus_54 : decode b_CertificateReader_readModulus 54 = .ok (.aload_n 2, 1) := by decide +kernel
theorem d_CertificateReader_readModulus_55 : decode b_CertificateReader_readModulus 55 = .ok (.invokevirtual 153, 3) := by decide +kernel
theorem d_CertificateReader_readModulus_58 : decode b_CertificateReader_readModulus 58 = .ok (.bipush 8, 2) := by decide +kernel
theorem d_CertificateReader_readModulus_60 : decode b_CertificateReader_readModulus 60 = .ok (.imul, 1) := by decide +kernel
theorem d_CertificateReader_readModulus_61 : decode b_CertificateReader_readModulus 61 = .ok (.istore 4, 2) := by decide +kernel
theorem d_CertificateReader_readModulus_63 : decode b_CertificateReader_readModulus 63 = .ok (.sipush 128, 3) := by decide +kernel
theorem d_CertificateReader_readModulus_66 : decode b_CertificateReader_readModulus 66 = .ok (.istore 5, 2) := by decide +kernel
theorem d_CertificateReader_readModulus_68 : decode b_CertificateReader_readModulus 68 = .ok (.iload 5, 2) := by decide +kernel
theorem d_CertificateReader_readModulus_70 : decode b_CertificateReader_readModulus 70 = .ok (.ifCond .le 26, 3) := by decide +kernel
theorem d_CertificateReader_readModulus_73 : decode b_CertificateReader_readModulus 73 = .ok (.aload_n 2, 1) := by decide +kernel
theorem d_CertificateReader_readModulus_74 : decode b_CertificateReader_readModulus 74 = .ok (.iconst 0, 1) := by decide +kernel
theorem d_CertificateReader_readModulus_75 : decode b_CertificateReader_readModulus 75 = .ok (.invokevirtual 144, 3) := by decide +kernel
theorem d_CertificateReader_readModulus_78 : decode b_CertificateReader_readModulus 78 = .ok (.iload 5, 2) := by decide +kernel
theorem d_CertificateReader_readModulus_80 : decode b_CertificateReader_readModulus 80 = .ok (.iand, 1) := by decide +kernel
theorem d_CertificateReader_readModulus_81 : decode b_CertificateReader_readModulus 81 = .ok (.ifCond .ne 15, 3) := by decide +kernel
theorem d_CertificateReader_readModulus_84 : decode b_CertificateReader_readModulus 84 = .ok (.iinc 4 (-1), 3) := by decide +kernel
theorem d_CertificateReader_readModulus_87 : decode b_CertificateReader_readModulus 87 = .ok (.iload 5, 2) := by decide +kernel
theorem d_CertificateReader_readModulus_89 : decode b_CertificateReader_readModulus 89 = .ok (.iconst 1, 1) := by decide +kernel
theorem d_CertificateReader_readModulus_90 : decode b_CertificateReader_readModulus 90 = .ok (.ishr, 1) := by decide +kernel
theorem d_CertificateReader_readModulus_91 : decode b_CertificateReader_readModulus 91 = .ok (.istore 5, 2) := by decide +kernel
theorem d_CertificateReader_readModulus_93 : decode b_CertificateReader_readModulus 93 = .ok (.goto (-25), 3) := by decide +kernel
theorem d_CertificateReader_readModulus_96 : decode b_CertificateReader_readModulus 96 = .ok (.aload_n 2, 1) := by decide +kernel
theorem d_CertificateReader_readModulus_97 : decode b_CertificateReader_readModulus 97 = .ok (.aload_n 2, 1) := by decide +kernel
theorem d_CertificateReader_readModulus_98 : decode b_CertificateReader_readModulus 98 = .ok (.invokevirtual 153, 3) := by decide +kernel
theorem d_CertificateReader_readModulus_101 : decode b_CertificateReader_readModulus 101 = .ok (.iconst 1, 1) := by decide +kernel
theorem d_CertificateReader_readModulus_102 : decode b_CertificateReader_readModulus 102 = .ok (.isub, 1) := by decide +kernel
theorem d_CertificateReader_readModulus_103 : decode b_CertificateReader_readModulus 103 = .ok (.invokevirtual 144, 3) := by decide +kernel
theorem d_CertificateReader_readModulus_106 : decode b_CertificateReader_readModulus 106 = .ok (.iconst 1, 1) := by decide +kernel
theorem d_CertificateReader_readModulus_107 : decode b_CertificateReader_readModulus 107 = .ok (.iand, 1) := by decide +kernel
theorem d_CertificateReader_readModulus_108 : decode b_CertificateReader_readModulus 108 = .ok (.iconst 1, 1) := by decide +kernel
theorem d_CertificateReader_readModulus_109 : decode b_CertificateReader_readModulus 109 = .ok (.if_icmp .ne 7, 3) := by decide +kernel
theorem d_CertificateReader_readModulus_112 : decode b_CertificateReader_readModulus 112 = .ok (.iconst 1, 1) := by decide +kernel
theorem d_CertificateReader_readModulus_113 : decode b_CertificateReader_readModulus 113 = .ok (.goto 4, 3) := by decide +kernel
theorem d_CertificateReader_readModulus_116 : decode b_CertificateReader_readModulus 116 = .ok (.iconst 0, 1) := by decide +kernel
theorem d_CertificateReader_readModulus_117 : decode b_CertificateReader_readModulus 117 = .ok (.istore 5, 2) := by decide +kernel
theorem d_CertificateReader_readModulus_119 : decode b_CertificateReader_readModulus 119 = .ok (.aload_n 0, 1) := by decide +kernel
theorem d_CertificateReader_readModulus_120 : decode b_CertificateReader_readModulus 120 = .ok (.iload_n 3, 1) := by decide +kernel
theorem d_CertificateReader_readModulus_121 : decode b_CertificateReader_readModulus 121 = .ok (.ifCond .eq 28, 3) := by decide +kernel
theorem d_CertificateReader_readModulus_124 : decode b_CertificateReader_readModulus 124 = .ok (.iload 5, 2) := by decide +kernel
theorem d_CertificateReader_readModulus_126 : decode b_CertificateReader_readModulus 126 = .ok (.ifCond .eq 23, 3) := by decide +kernel
theorem d_CertificateReader_readModulus_129 : decode b_CertificateReader_readModulus 129 = .ok (.iload 4, 2) := by decide +kernel
theorem d_CertificateReader_readModulus_131 : decode b_CertificateReader_readModulus 131 = .ok (.sipush 496, 3) := by decide +kernel
theorem d_CertificateReader_readModulus_134 : decode b_CertificateReader_readModulus 134 = .ok (.if_icmp .lt 15, 3) := by decide +kernel
theorem d_CertificateReader_readModulus_137 : decode b_CertificateReader_readModulus 137 = .ok (.iload 4, 2) := by decide +kernel
theorem d_CertificateReader_readModulus_139 : decode b_CertificateReader_readModulus 139 = .ok (.sipush 2048, 3) := by decide +kernel
theorem d_CertificateReader_readModulus_142 : decode b_CertificateReader_readModulus 142 = .ok (.if_icmp .gt 7, 3) := by decide +kernel
theorem d_CertificateReader_readModulus_145 : decode b_CertificateReader_readModulus 145 = .ok (.iconst 1, 1) := by decide +kernel
theorem d_CertificateReader_readModulus_146 : decode b_CertificateReader_readModulus 146 = .ok (.goto 4, 3) := by decide +kernel
theorem d_CertificateReader_readModulus_149 : decode b_CertificateReader_readModulus 149 = .ok (.iconst 0, 1) := by decide +kernel
theorem d_CertificateReader_readModulus_150 : decode b_CertificateReader_readModulus 150 = .ok (.invokevirtual 79, 3) := by decide +kernel
theorem d_CertificateReader_readModulus_153 : decode b_CertificateReader_readModulus 153 = .ok (.aload_n 0, 1) := by decide +kernel
theorem d_CertificateReader_readModulus_154 : decode b_CertificateReader_readModulus 154 = .ok (.getfield 19, 3) := by decide +kernel
theorem d_CertificateReader_readModulus_157 : decode b_CertificateReader_readModulus 157 = .ok (.aload_n 2, 1) := by decide +kernel
theorem d_CertificateReader_readModulus_158 : decode b_CertificateReader_readModulus 158 = .ok (.putfield 157, 3) := by decide +kernel
theorem d_CertificateReader_readModulus_161 : decode b_CertificateReader_readModulus 161 = .ok (.aload_n 0, 1) := by decide +kernel
theorem d_CertificateReader_readModulus_162 : decode b_CertificateReader_readModulus 162 = .ok (.getfield 19, 3) := by decide +kernel
theorem d_CertificateReader_readModulus_165 : decode b_CertificateReader_readModulus 165 = .ok (.iload 4, 2) := by decide +kernel
theorem d_CertificateReader_readModulus_167 : decode b_CertificateReader_readModulus 167 = .ok (.putfield 160, 3) := by decide +kernel
theorem d_CertificateReader_readModulus_170 : decode b_CertificateReader_readModulus 170 = .ok (.return_, 1) := by decide +kernel
def y_CertificateReader_readKey : MethodName := ⟨"TrustChain$CertificateReader", "readKey", "(I)V"⟩
abbrev b_CertificateReader_readKey : ByteArray := prog_3_method_4_code
def w_CertificateReader_readKey : List Cond := Cond.code y_CertificateReader_readKey b_CertificateReader_readKey 7 (none) :: tb
theorem d_CertificateReader_readKey_0 : decode b_CertificateReader_readKey 0 = .ok (.aload_n 0, 1) := by decide +kernel
theorem d_CertificateReader_readKey_1 : decode b_CertificateReader_readKey 1 = .ok (.bipush 48, 2) := by decide +kernel
theorem d_CertificateReader_readKey_3 : decode b_CertificateReader_readKey 3 = .ok (.iload_n 1, 1) := by decide +kernel
theorem d_CertificateReader_readKey_4 : decode b_CertificateReader_readKey 4 = .ok (.invokevirtual 29, 3) := by decide +kernel
theorem d_CertificateReader_readKey_7 : decode b_CertificateReader_readKey 7 = .ok (.istore_n 2, 1) := by decide +kernel
theorem d_CertificateReader_readKey_8 : decode b_CertificateReader_readKey 8 = .ok (.aload_n 0, 1) := by decide +kernel
theorem d_CertificateReader_readKey_9 : decode b_CertificateReader_readKey 9 = .ok (.iconst 1, 1) := by decide +kernel
theorem d_CertificateReader_readKey_10 : decode b_CertificateReader_readKey 10 = .ok (.iload_n 2, 1) := by decide +kernel
theorem d_CertificateReader_readKey_11 : decode b_CertificateReader_readKey 11 = .ok (.invokevirtual 89, 3) := by decide +kernel
theorem d_CertificateReader_readKey_14 : decode b_CertificateReader_readKey 14 = .ok (.aload_n 0, 1) := by decide +kernel
theorem d_CertificateReader_readKey_15 : decode b_CertificateReader_readKey 15 = .ok (.iload_n 2, 1) := by decide +kernel
theorem d_CertificateReader_readKey_16 : decode b_CertificateReader_readKey 16 = .ok (.invokevirtual 130, 3) := by decide +kernel
theorem d_CertificateReader_readKey_19 : decode b_CertificateReader_readKey 19 = .ok (.istore_n 3, 1) := by decide +kernel
theorem d_CertificateReader_readKey_20 : decode b_CertificateReader_readKey 20 = .ok (.aload_n 0, 1) := by decide +kernel
theorem d_CertificateReader_readKey_21 : decode b_CertificateReader_readKey 21 = .ok (.bipush 48, 2) := by decide +kernel
theorem d_CertificateReader_readKey_23 : decode b_CertificateReader_readKey 23 = .ok (.iload_n 3, 1) := by decide +kernel
theorem d_CertificateReader_readKey_24 : decode b_CertificateReader_readKey 24 = .ok (.invokevirtual 29, 3) := by decide +kernel
theorem d_CertificateReader_readKey_27 : decode b_CertificateReader_readKey 27 = .ok (.istore 4, 2) := by decide +kernel
theorem d_CertificateReader_readKey_29 : decode b_CertificateReader_readKey 29 = .ok (.aload_n 0, 1) := by decide +kernel
theorem d_CertificateReader_readKey_30 : decode b_CertificateReader_readKey 30 = .ok (.iload 4, 2) := by decide +kernel
theorem d_CertificateReader_readKey_32 : decode b_CertificateReader_readKey 32 = .ok (.invokevirtual 134, 3) := by decide +kernel
theorem d_CertificateReader_readKey_35 : decode b_CertificateReader_readKey 35 = .ok (.aload_n 0, 1) := by decide +kernel
theorem d_CertificateReader_readKey_36 : decode b_CertificateReader_readKey 36 = .ok (.iconst 2, 1) := by decide +kernel
theorem d_CertificateReader_readKey_37 : decode b_CertificateReader_readKey 37 = .ok (.iload 4, 2) := by decide +kernel
theorem d_CertificateReader_readKey_39 : decode b_CertificateReader_readKey 39 = .ok (.invokevirtual 70, 3) := by decide +kernel
theorem d_CertificateReader_readKey_42 : decode b_CertificateReader_readKey 42 = .ok (.invokevirtual 74, 3) := by decide +kernel
theorem d_CertificateReader_readKey_45 : decode b_CertificateReader_readKey 45 = .ok (.lstore 5, 2) := by decide +kernel
theorem d_CertificateReader_readKey_47 : decode b_CertificateReader_readKey 47 = .ok (.aload_n 0, 1) := by decide +kernel
theorem d_CertificateReader_readKey_48 : decode b_CertificateReader_readKey 48 = .ok (.lload 5, 2) := by decide +kernel
theorem d_CertificateReader_readKey_50 : decode b_CertificateReader_readKey 50 = .ok (.ldc2_w 137, 3) := by decide +kernel
theorem d_CertificateReader_readKey_53 : decode b_CertificateReader_readKey 53 = .ok (.lcmp, 1) := by decide +kernel
theorem d_CertificateReader_readKey_54 : decode b_CertificateReader_readKey 54 = .ok (.ifCond .lt 25, 3) := by decide +kernel
theorem d_CertificateReader_readKey_57 : decode b_CertificateReader_readKey 57 = .ok (.lload 5, 2) := by decide +kernel
theorem d_CertificateReader_readKey_59 : decode b_CertificateReader_readKey 59 = .ok (.ldc2_w 139, 3) := by decide +kernel
theorem d_CertificateReader_readKey_62 : decode b_CertificateReader_readKey 62 = .ok (.lcmp, 1) := by decide +kernel
theorem d_CertificateReader_readKey_63 : decode b_CertificateReader_readKey 63 = .ok (.ifCond .gt 16, 3) := by decide +kernel
theorem d_CertificateReader_readKey_66 : decode b_CertificateReader_readKey 66 = .ok (.lload 5, 2) := by decide +kernel
theorem d_CertificateReader_readKey_68 : decode b_CertificateReader_readKey 68 = .ok (.lconst 1, 1) := by decide +kernel
theorem d_CertificateReader_readKey_69 : decode b_CertificateReader_readKey 69 = .ok (.land, 1) := by decide +kernel
theorem d_CertificateReader_readKey_70 : decode b_CertificateReader_readKey 70 = .ok (.lconst 1, 1) := by decide +kernel
theorem d_CertificateReader_readKey_71 : decode b_CertificateReader_readKey 71 = .ok (.lcmp, 1) := by decide +kernel
theorem d_CertificateReader_readKey_72 : decode b_CertificateReader_readKey 72 = .ok (.ifCond .ne 7, 3) := by decide +kernel
theorem d_CertificateReader_readKey_75 : decode b_CertificateReader_readKey 75 = .ok (.iconst 1, 1) := by decide +kernel
theorem d_CertificateReader_readKey_76 : decode b_CertificateReader_readKey 76 = .ok (.goto 4, 3) := by decide +kernel
theorem d_CertificateReader_readKey_79 : decode b_CertificateReader_readKey 79 = .ok (.iconst 0, 1) := by decide +kernel
theorem d_CertificateReader_readKey_80 : decode b_CertificateReader_readKey 80 = .ok (.invokevirtual 79, 3) := by decide +kernel
theorem d_CertificateReader_readKey_83 : decode b_CertificateReader_readKey 83 = .ok (.aload_n 0, 1) := by decide +kernel
theorem d_CertificateReader_readKey_84 : decode b_CertificateReader_readKey 84 = .ok (.getfield 19, 3) := by decide +kernel
theorem d_CertificateReader_readKey_87 : decode b_CertificateReader_readKey 87 = .ok (.lload 5, 2) := by decide +kernel
theorem d_CertificateReader_readKey_89 : decode b_CertificateReader_readKey 89 = .ok (.l2i, 1) := by decide +kernel
theorem d_CertificateReader_readKey_90 : decode b_CertificateReader_readKey 90 = .ok (.putfield 141, 3) := by decide +kernel
theorem d_CertificateReader_readKey_93 : decode b_CertificateReader_readKey 93 = .ok (.aload_n 0, 1) := by decide +kernel
theorem d_CertificateReader_readKey_94 : decode b_CertificateReader_readKey 94 = .ok (.iload 4, 2) := by decide +kernel
theorem d_CertificateReader_readKey_96 : decode b_CertificateReader_readKey 96 = .ok (.invokevirtual 51, 3) := by decide +kernel
theorem d_CertificateReader_readKey_99 : decode b_CertificateReader_readKey 99 = .ok (.aload_n 0, 1) := by decide +kernel
theorem d_CertificateReader_readKey_100 : decode b_CertificateReader_readKey 100 = .ok (.iload_n 3, 1) := by decide +kernel
theorem d_CertificateReader_readKey_101 : decode b_CertificateReader_readKey 101 = .ok (.invokevirtual 51, 3) := by decide +kernel
theorem d_CertificateReader_readKey_104 : decode b_CertificateReader_readKey 104 = .ok (.aload_n 0, 1) := by decide +kernel
theorem d_CertificateReader_readKey_105 : decode b_CertificateReader_readKey 105 = .ok (.iload_n 2, 1) := by decide +kernel
theorem d_CertificateReader_readKey_106 : decode b_CertificateReader_readKey 106 = .ok (.invokevirtual 51, 3) := by decide +kernel
theorem d_CertificateReader_readKey_109 : decode b_CertificateReader_readKey 109 = .ok (.return_, 1) := by decide +kernel
def y_CertificateReader_readHead : MethodName := ⟨"TrustChain$CertificateReader", "readHead", "(I)V"⟩
abbrev b_CertificateReader_readHead : ByteArray := prog_3_method_3_code
def w_CertificateReader_readHead : List Cond := Cond.code y_CertificateReader_readHead b_CertificateReader_readHead 4 (none) :: tb
theorem d_CertificateReader_readHead_0 : decode b_CertificateReader_readHead 0 = .ok (.aload_n 0, 1) := by decide +kernel
theorem d_CertificateReader_readHead_1 : decode b_CertificateReader_readHead 1 = .ok (.sipush 160, 3) := by decide +kernel
theorem d_CertificateReader_readHead_4 : decode b_CertificateReader_readHead 4 = .ok (.iload_n 1, 1) := by decide +kernel
theorem d_CertificateReader_readHead_5 : decode b_CertificateReader_readHead 5 = .ok (.invokevirtual 29, 3) := by decide +kernel
theorem d_CertificateReader_readHead_8 : decode b_CertificateReader_readHead 8 = .ok (.istore_n 2, 1) := by decide +kernel
theorem d_CertificateReader_readHead_9 : decode b_CertificateReader_readHead 9 = .ok (.aload_n 0, 1) := by decide +kernel
theorem d_CertificateReader_readHead_10 : decode b_CertificateReader_readHead 10 = .ok (.aload_n 0, 1) := by decide +kernel
theorem d_CertificateReader_readHead_11 : decode b_CertificateReader_readHead 11 = .ok (.iconst 2, 1) := by decide +kernel
theorem d_CertificateReader_readHead_12 : decode b_CertificateReader_readHead 12 = .ok (.iload_n 2, 1) := by decide +kernel
theorem d_CertificateReader_readHead_13 : decode b_CertificateReader_readHead 13 = .ok (.invokevirtual 70, 3) := by decide +kernel
theorem d_CertificateReader_readHead_16 : decode b_CertificateReader_readHead 16 = .ok (.invokevirtual 74, 3) := by decide +kernel
theorem d_CertificateReader_readHead_19 : decode b_CertificateReader_readHead 19 = .ok (.ldc2_w 77, 3) := by decide +kernel
theorem d_CertificateReader_readHead_22 : decode b_CertificateReader_readHead 22 = .ok (.lcmp, 1) := by decide +kernel
theorem d_CertificateReader_readHead_23 : decode b_CertificateReader_readHead 23 = .ok (.ifCond .ne 7, 3) := by decide +kernel
theorem d_CertificateReader_readHead_26 : decode b_CertificateReader_readHead 26 = .ok (.iconst 1, 1) := by decide +kernel
theorem d_CertificateReader_readHead_27 : decode b_CertificateReader_readHead 27 = .ok (.goto 4, 3) := by decide +kernel
theorem d_CertificateReader_readHead_30 : decode b_CertificateReader_readHead 30 = .ok (.iconst 0, 1) := by decide +kernel
theorem d_CertificateReader_readHead_31 : decode b_CertificateReader_readHead 31 = .ok (.invokevirtual 79, 3) := by decide +kernel
theorem d_CertificateReader_readHead_34 : decode b_CertificateReader_readHead 34 = .ok (.aload_n 0, 1) := by decide +kernel
theorem d_CertificateReader_readHead_35 : decode b_CertificateReader_readHead 35 = .ok (.iload_n 2, 1) := by decide +kernel
theorem d_CertificateReader_readHead_36 : decode b_CertificateReader_readHead 36 = .ok (.invokevirtual 51, 3) := by decide +kernel
theorem d_CertificateReader_readHead_39 : decode b_CertificateReader_readHead 39 = .ok (.aload_n 0, 1) := by decide +kernel
theorem d_CertificateReader_readHead_40 : decode b_CertificateReader_readHead 40 = .ok (.getfield 19, 3) := by decide +kernel
theorem d_CertificateReader_readHead_43 : decode b_CertificateReader_readHead 43 = .ok (.aload_n 0, 1) := by decide +kernel
theorem d_CertificateReader_readHead_44 : decode b_CertificateReader_readHead 44 = .ok (.iload_n 1, 1) := by decide +kernel
theorem d_CertificateReader_readHead_45 : decode b_CertificateReader_readHead 45 = .ok (.invokevirtual 83, 3) := by decide +kernel
theorem d_CertificateReader_readHead_48 : decode b_CertificateReader_readHead 48 = .ok (.putfield 87, 3) := by decide +kernel
theorem d_CertificateReader_readHead_51 : decode b_CertificateReader_readHead 51 = .ok (.aload_n 0, 1) := by decide +kernel
theorem d_CertificateReader_readHead_52 : decode b_CertificateReader_readHead 52 = .ok (.bipush 11, 2) := by decide +kernel
theorem d_CertificateReader_readHead_54 : decode b_CertificateReader_readHead 54 = .ok (.iload_n 1, 1) := by decide +kernel
theorem d_CertificateReader_readHead_55 : decode b_CertificateReader_readHead 55 = .ok (.invokevirtual 89, 3) := by decide +kernel
theorem d_CertificateReader_readHead_58 : decode b_CertificateReader_readHead 58 = .ok (.aload_n 0, 1) := by decide +kernel
theorem d_CertificateReader_readHead_59 : decode b_CertificateReader_readHead 59 = .ok (.getfield 19, 3) := by decide +kernel
theorem d_CertificateReader_readHead_62 : decode b_CertificateReader_readHead 62 = .ok (.aload_n 0, 1) := by decide +kernel
theorem d_CertificateReader_readHead_63 : decode b_CertificateReader_readHead 63 = .ok (.iload_n 1, 1) := by decide +kernel
theorem d_CertificateReader_readHead_64 : decode b_CertificateReader_readHead 64 = .ok (.invokevirtual 93, 3) := by decide +kernel
theorem d_CertificateReader_readHead_67 : decode b_CertificateReader_readHead 67 = .ok (.putfield 96, 3) := by decide +kernel
theorem d_CertificateReader_readHead_70 : decode b_CertificateReader_readHead 70 = .ok (.aload_n 0, 1) := by decide +kernel
theorem d_CertificateReader_readHead_71 : decode b_CertificateReader_readHead 71 = .ok (.bipush 48, 2) := by decide +kernel
theorem d_CertificateReader_readHead_73 : decode b_CertificateReader_readHead 73 = .ok (.iload_n 1, 1) := by decide +kernel
theorem d_CertificateReader_readHead_74 : decode b_CertificateReader_readHead 74 = .ok (.invokevirtual 29, 3) := by decide +kernel
theorem d_CertificateReader_readHead_77 : decode b_CertificateReader_readHead 77 = .ok (.istore_n 3, 1) := by decide +kernel
theorem d_CertificateReader_readHead_78 : decode b_CertificateReader_readHead 78 = .ok (.aload_n 0, 1) := by decide +kernel
theorem d_CertificateReader_readHead_79 : decode b_CertificateReader_readHead 79 = .ok (.getfield 19, 3) := by decide +kernel
theorem d_CertificateReader_readHead_82 : decode b_CertificateReader_readHead 82 = .ok (.aload_n 0, 1) := by decide +kernel
theorem d_CertificateReader_readHead_83 : decode b_CertificateReader_readHead 83 = .ok (.iload_n 3, 1) := by decide +kernel
theorem d_CertificateReader_readHead_84 : decode b_CertificateReader_readHead 84 = .ok (.invokevirtual 99, 3) := by decide +kernel
theorem d_CertificateReader_readHead_87 : decode b_CertificateReader_readHead 87 = .ok (.putfield 103, 3) := by decide +kernel
theorem d_CertificateReader_readHead_90 : decode b_CertificateReader_readHead 90 = .ok (.aload_n 0, 1) := by decide +kernel
theorem d_CertificateReader_readHead_91 : decode b_CertificateReader_readHead 91 = .ok (.getfield 19, 3) := by decide +kernel
theorem d_CertificateReader_readHead_94 : decode b_CertificateReader_readHead 94 = .ok (.aload_n 0, 1) := by decide +kernel
theorem d_CertificateReader_readHead_95 : decode b_CertificateReader_readHead 95 = .ok (.iload_n 3, 1) := by decide +kernel
theorem d_CertificateReader_readHead_96 : decode b_CertificateReader_readHead 96 = .ok (.invokevirtual 99, 3) := by decide +kernel
theorem d_CertificateReader_readHead_99 : decode b_CertificateReader_readHead 99 = .ok (.putfield 107, 3) := by decide +kernel
theorem d_CertificateReader_readHead_102 : decode b_CertificateReader_readHead 102 = .ok (.aload_n 0, 1) := by decide +kernel
theorem d_CertificateReader_readHead_103 : decode b_CertificateReader_readHead 103 = .ok (.iload_n 3, 1) := by decide +kernel
theorem d_CertificateReader_readHead_104 : decode b_CertificateReader_readHead 104 = .ok (.invokevirtual 51, 3) := by decide +kernel
theorem d_CertificateReader_readHead_107 : decode b_CertificateReader_readHead 107 = .ok (.aload_n 0, 1) := by decide +kernel
theorem d_CertificateReader_readHead_108 : decode b_CertificateReader_readHead 108 = .ok (.getfield 19, 3) := by decide +kernel
theorem d_CertificateReader_readHead_111 : decode b_CertificateReader_readHead 111 = .ok (.aload_n 0, 1) := by decide +kernel
theorem d_CertificateReader_readHead_112 : decode b_CertificateReader_readHead 112 = .ok (.iload_n 1, 1) := by decide +kernel
theorem d_CertificateReader_readHead_113 : decode b_CertificateReader_readHead 113 = .ok (.invokevirtual 110, 3) := by decide +kernel
theorem d_CertificateReader_readHead_116 : decode b_CertificateReader_readHead 116 = .ok (.putfield 113, 3) := by decide +kernel
theorem d_CertificateReader_readHead_119 : decode b_CertificateReader_readHead 119 = .ok (.aload_n 0, 1) := by decide +kernel
theorem d_CertificateReader_readHead_120 : decode b_CertificateReader_readHead 120 = .ok (.getfield 19, 3) := by decide +kernel
theorem d_CertificateReader_readHead_123 : decode b_CertificateReader_readHead 123 = .ok (.aload_n 0, 1) := by decide +kernel
theorem d_CertificateReader_readHead_124 : decode b_CertificateReader_readHead 124 = .ok (.getfield 116, 3) := by decide +kernel
theorem d_CertificateReader_readHead_127 : decode b_CertificateReader_readHead 127 = .ok (.putfield 119, 3) := by decide +kernel
theorem d_CertificateReader_readHead_130 : decode b_CertificateReader_readHead 130 = .ok (.aload_n 0, 1) := by decide +kernel
theorem d_CertificateReader_readHead_131 : decode b_CertificateReader_readHead 131 = .ok (.getfield 19, 3) := by decide +kernel
theorem d_CertificateReader_readHead_134 : decode b_CertificateReader_readHead 134 = .ok (.aload_n 0, 1) := by decide +kernel
theorem d_CertificateReader_readHead_135 : decode b_CertificateReader_readHead 135 = .ok (.getfield 19, 3) := by decide +kernel
theorem d_CertificateReader_readHead_138 : decode b_CertificateReader_readHead 138 = .ok (.getfield 113, 3) := by decide +kernel
theorem d_CertificateReader_readHead_141 : decode b_CertificateReader_readHead 141 = .ok (.aload_n 0, 1) := by decide +kernel
theorem d_CertificateReader_readHead_142 : decode b_CertificateReader_readHead 142 = .ok (.getfield 19, 3) := by decide +kernel
theorem d_CertificateReader_readHead_145 : decode b_CertificateReader_readHead 145 = .ok (.getfield 96, 3) := by decide +kernel
theorem d_CertificateReader_readHead_148 : decode b_CertificateReader_readHead 148 = .ok (.invokevirtual 122, 3) := by decide +kernel
theorem d_CertificateReader_readHead_151 : decode b_CertificateReader_readHead 151 = .ok (.putfield 126, 3) := by decide +kernel
theorem d_CertificateReader_readHead_154 : decode b_CertificateReader_readHead 154 = .ok (.return_, 1) := by decide +kernel
def y_CertificateReader_readCertificate : MethodName := ⟨"TrustChain$CertificateReader", "readCertificate", "()V"⟩
abbrev b_CertificateReader_readCertificate : ByteArray := prog_3_method_2_code
def w_CertificateReader_readCertificate : List Cond := Cond.code y_CertificateReader_readCertificate b_CertificateReader_readCertificate 5 (none) :: tb
theorem d_CertificateReader_readCertificate_0 : decode b_CertificateReader_readCertificate 0 = .ok (.aload_n 0, 1) := by decide +kernel
theorem d_CertificateReader_readCertificate_1 : decode b_CertificateReader_readCertificate 1 = .ok (.bipush 48, 2) := by decide +kernel
theorem d_CertificateReader_readCertificate_3 : decode b_CertificateReader_readCertificate 3 = .ok (.aload_n 0, 1) := by decide +kernel
theorem d_CertificateReader_readCertificate_4 : decode b_CertificateReader_readCertificate 4 = .ok (.getfield 25, 3) := by decide +kernel
theorem d_CertificateReader_readCertificate_7 : decode b_CertificateReader_readCertificate 7 = .ok (.arraylength, 1) := by decide +kernel
theorem d_CertificateReader_readCertificate_8 : decode b_CertificateReader_readCertificate 8 = .ok (.invokevirtual 29, 3) := by decide +kernel
theorem d_CertificateReader_readCertificate_11 : decode b_CertificateReader_readCertificate 11 = .ok (.istore_n 1, 1) := by decide +kernel
theorem d_CertificateReader_readCertificate_12 : decode b_CertificateReader_readCertificate 12 = .ok (.aload_n 0, 1) := by decide +kernel
theorem d_CertificateReader_readCertificate_13 : decode b_CertificateReader_readCertificate 13 = .ok (.getfield 33, 3) := by decide +kernel
theorem d_CertificateReader_readCertificate_16 : decode b_CertificateReader_readCertificate 16 = .ok (.istore_n 2, 1) := by decide +kernel
theorem d_CertificateReader_readCertificate_17 : decode b_CertificateReader_readCertificate 17 = .ok (.aload_n 0, 1) := by decide +kernel
theorem d_CertificateReader_readCertificate_18 : decode b_CertificateReader_readCertificate 18 = .ok (.bipush 48, 2) := by decide +kernel
theorem d_CertificateReader_readCertificate_20 : decode b_CertificateReader_readCertificate 20 = .ok (.iload_n 1, 1) := by decide +kernel
theorem d_CertificateReader_readCertificate_21 : decode b_CertificateReader_readCertificate 21 = .ok (.invokevirtual 29, 3) := by decide +kernel
theorem d_CertificateReader_readCertificate_24 : decode b_CertificateReader_readCertificate 24 = .ok (.istore_n 3, 1) := by decide +kernel
theorem d_CertificateReader_readCertificate_25 : decode b_CertificateReader_readCertificate 25 = .ok (.aload_n 0, 1) := by decide +kernel
theorem d_CertificateReader_readCertificate_26 : decode b_CertificateReader_readCertificate 26 = .ok (.iload_n 3, 1) := by decide +kernel
theorem d_CertificateReader_readCertificate_27 : decode b_CertificateReader_readCertificate 27 = .ok (.invokevirtual 37, 3) := by decide +kernel
theorem d_CertificateReader_readCertificate_30 : decode b_CertificateReader_readCertificate 30 = .ok (.aload_n 0, 1) := by decide +kernel
theorem d_CertificateReader_readCertificate_31 : decode b_CertificateReader_readCertificate 31 = .ok (.iload_n 3, 1) := by decide +kernel
theorem d_CertificateReader_readCertificate_32 : decode b_CertificateReader_readCertificate 32 = .ok (.invokevirtual 41, 3) := by decide +kernel
theorem d_CertificateReader_readCertificate_35 : decode b_CertificateReader_readCertificate 35 = .ok (.aload_n 0, 1) := by decide +kernel
theorem d_CertificateReader_readCertificate_36 : decode b_CertificateReader_readCertificate 36 = .ok (.sipush 163, 3) := by decide +kernel
theorem d_CertificateReader_readCertificate_39 : decode b_CertificateReader_readCertificate 39 = .ok (.iload_n 3, 1) := by decide +kernel
theorem d_CertificateReader_readCertificate_40 : decode b_CertificateReader_readCertificate 40 = .ok (.invokevirtual 44, 3) := by decide +kernel
theorem d_CertificateReader_readCertificate_43 : decode b_CertificateReader_readCertificate 43 = .ok (.ifCond .eq 25, 3) := by decide +kernel
theorem d_CertificateReader_readCertificate_46 : decode b_CertificateReader_readCertificate 46 = .ok (.aload_n 0, 1) := by decide +kernel
theorem d_CertificateReader_readCertificate_47 : decode b_CertificateReader_readCertificate 47 = .ok (.sipush 163, 3) := by decide +kernel
theorem d_CertificateReader_readCertificate_50 : decode b_CertificateReader_readCertificate 50 = .ok (.iload_n 3, 1) := by decide +kernel
theorem d_CertificateReader_readCertificate_51 : decode b_CertificateReader_readCertificate 51 = .ok (.invokevirtual 29, 3) := by decide +kernel
theorem d_CertificateReader_readCertificate_54 : decode b_CertificateReader_readCertificate 54 = .ok (.istore 4, 2) := by decide +kernel
theorem d_CertificateReader_readCertificate_56 : decode b_CertificateReader_readCertificate 56 = .ok (.aload_n 0, 1) := by decide +kernel
theorem d_CertificateReader_readCertificate_57 : decode b_CertificateReader_readCertificate 57 = .ok (.iload 4, 2) := by decide +kernel
theorem d_CertificateReader_readCertificate_59 : decode b_CertificateReader_readCertificate 59 = .ok (.invokevirtual 48, 3) := by decide +kernel
theorem d_CertificateReader_readCertificate_62 : decode b_CertificateReader_readCertificate 62 = .ok (.aload_n 0, 1) := by decide +kernel
theorem d_CertificateReader_readCertificate_63 : decode b_CertificateReader_readCertificate 63 = .ok (.iload 4, 2) := by decide +kernel
theorem d_CertificateReader_readCertificate_65 : decode b_CertificateReader_readCertificate 65 = .ok (.invokevirtual 51, 3) := by decide +kernel
theorem d_CertificateReader_readCertificate_68 : decode b_CertificateReader_readCertificate 68 = .ok (.aload_n 0, 1) := by decide +kernel
theorem d_CertificateReader_readCertificate_69 : decode b_CertificateReader_readCertificate 69 = .ok (.iload_n 3, 1) := by decide +kernel
theorem d_CertificateReader_readCertificate_70 : decode b_CertificateReader_readCertificate 70 = .ok (.invokevirtual 51, 3) := by decide +kernel
theorem d_CertificateReader_readCertificate_73 : decode b_CertificateReader_readCertificate 73 = .ok (.aload_n 0, 1) := by decide +kernel
theorem d_CertificateReader_readCertificate_74 : decode b_CertificateReader_readCertificate 74 = .ok (.getfield 19, 3) := by decide +kernel
theorem d_CertificateReader_readCertificate_77 : decode b_CertificateReader_readCertificate 77 = .ok (.new 11, 3) := by decide +kernel
theorem d_CertificateReader_readCertificate_80 : decode b_CertificateReader_readCertificate 80 = .ok (.dup, 1) := by decide +kernel
theorem d_CertificateReader_readCertificate_81 : decode b_CertificateReader_readCertificate 81 = .ok (.aload_n 0, 1) := by decide +kernel
theorem d_CertificateReader_readCertificate_82 : decode b_CertificateReader_readCertificate 82 = .ok (.getfield 25, 3) := by decide +kernel
theorem d_CertificateReader_readCertificate_85 : decode b_CertificateReader_readCertificate 85 = .ok (.iload_n 2, 1) := by decide +kernel
theorem d_CertificateReader_readCertificate_86 : decode b_CertificateReader_readCertificate 86 = .ok (.iload_n 3, 1) := by decide +kernel
theorem d_CertificateReader_readCertificate_87 : decode b_CertificateReader_readCertificate 87 = .ok (.invokespecial 13, 3) := by decide +kernel
theorem d_CertificateReader_readCertificate_90 : decode b_CertificateReader_readCertificate 90 = .ok (.putfield 54, 3) := by decide +kernel
theorem d_CertificateReader_readCertificate_93 : decode b_CertificateReader_readCertificate 93 = .ok (.aload_n 0, 1) := by decide +kernel
theorem d_CertificateReader_readCertificate_94 : decode b_CertificateReader_readCertificate 94 = .ok (.getfield 19, 3) := by decide +kernel
theorem d_CertificateReader_readCertificate_97 : decode b_CertificateReader_readCertificate 97 = .ok (.aload_n 0, 1) := by decide +kernel
theorem d_CertificateReader_readCertificate_98 : decode b_CertificateReader_readCertificate 98 = .ok (.getfield 58, 3) := by decide +kernel
theorem d_CertificateReader_readCertificate_101 : decode b_CertificateReader_readCertificate 101 = .ok (.putfield 61, 3) := by decide +kernel
theorem d_CertificateReader_readCertificate_104 : decode b_CertificateReader_readCertificate 104 = .ok (.aload_n 0, 1) := by decide +kernel
theorem d_CertificateReader_readCertificate_105 : decode b_CertificateReader_readCertificate 105 = .ok (.getfield 19, 3) := by decide +kernel
theorem d_CertificateReader_readCertificate_108 : decode b_CertificateReader_readCertificate 108 = .ok (.aload_n 0, 1) := by decide +kernel
theorem d_CertificateReader_readCertificate_109 : decode b_CertificateReader_readCertificate 109 = .ok (.getfield 62, 3) := by decide +kernel
theorem d_CertificateReader_readCertificate_112 : decode b_CertificateReader_readCertificate 112 = .ok (.putfield 65, 3) := by decide +kernel
theorem d_CertificateReader_readCertificate_115 : decode b_CertificateReader_readCertificate 115 = .ok (.aload_n 0, 1) := by decide +kernel
theorem d_CertificateReader_readCertificate_116 : decode b_CertificateReader_readCertificate 116 = .ok (.aload_n 0, 1) := by decide +kernel
theorem d_CertificateReader_readCertificate_117 : decode b_CertificateReader_readCertificate 117 = .ok (.getfield 19, 3) := by decide +kernel
theorem d_CertificateReader_readCertificate_120 : decode b_CertificateReader_readCertificate 120 = .ok (.iload_n 1, 1) := by decide +kernel
theorem d_CertificateReader_readCertificate_121 : decode b_CertificateReader_readCertificate 121 = .ok (.invokevirtual 66, 3) := by decide +kernel
theorem d_CertificateReader_readCertificate_124 : decode b_CertificateReader_readCertificate 124 = .ok (.return_, 1) := by decide +kernel
def y_ListReader_readHead : MethodName := ⟨"TrustChain$ListReader", "readHead", "(I)V"⟩
abbrev b_ListReader_readHead : ByteArray := prog_4_method_3_code
def w_ListReader_readHead : List Cond := Cond.code y_ListReader_readHead b_ListReader_readHead 2 (none) :: tb
theorem d_ListReader_readHead_0 : decode b_ListReader_readHead 0 = .ok (.aload_n 0, 1) := by decide +kernel
theorem d_ListReader_readHead_1 : decode b_ListReader_readHead 1 = .ok (.aload_n 0, 1) := by decide +kernel
theorem d_ListReader_readHead_2 : decode b_ListReader_readHead 2 = .ok (.iconst 2, 1) := by decide +kernel
theorem d_ListReader_readHead_3 : decode b_ListReader_readHead 3 = .ok (.iload_n 1, 1) := by decide +kernel
theorem d_ListReader_readHead_4 : decode b_ListReader_readHead 4 = .ok (.invokevirtual 89, 3) := by decide +kernel
theorem d_ListReader_readHead_7 : decode b_ListReader_readHead 7 = .ok (.invokevirtual 93, 3) := by decide +kernel
theorem d_ListReader_readHead_10 : decode b_ListReader_readHead 10 = .ok (.lconst 1, 1) := by decide +kernel
theorem d_ListReader_readHead_11 : decode b_ListReader_readHead 11 = .ok (.lcmp, 1) := by decide +kernel
theorem d_ListReader_readHead_12 : decode b_ListReader_readHead 12 = .ok (.ifCond .ne 7, 3) := by decide +kernel
theorem d_ListReader_readHead_15 : decode b_ListReader_readHead 15 = .ok (.iconst 1, 1) := by decide +kernel
theorem d_ListReader_readHead_16 : decode b_ListReader_readHead 16 = .ok (.goto 4, 3) := by decide +kernel
theorem d_ListReader_readHead_19 : decode b_ListReader_readHead 19 = .ok (.iconst 0, 1) := by decide +kernel
theorem d_ListReader_readHead_20 : decode b_ListReader_readHead 20 = .ok (.invokevirtual 96, 3) := by decide +kernel
theorem d_ListReader_readHead_23 : decode b_ListReader_readHead 23 = .ok (.aload_n 0, 1) := by decide +kernel
theorem d_ListReader_readHead_24 : decode b_ListReader_readHead 24 = .ok (.bipush 11, 2) := by decide +kernel
theorem d_ListReader_readHead_26 : decode b_ListReader_readHead 26 = .ok (.iload_n 1, 1) := by decide +kernel
theorem d_ListReader_readHead_27 : decode b_ListReader_readHead 27 = .ok (.invokevirtual 100, 3) := by decide +kernel
theorem d_ListReader_readHead_30 : decode b_ListReader_readHead 30 = .ok (.aload_n 0, 1) := by decide +kernel
theorem d_ListReader_readHead_31 : decode b_ListReader_readHead 31 = .ok (.getfield 25, 3) := by decide +kernel
theorem d_ListReader_readHead_34 : decode b_ListReader_readHead 34 = .ok (.aload_n 0, 1) := by decide +kernel
theorem d_ListReader_readHead_35 : decode b_ListReader_readHead 35 = .ok (.iload_n 1, 1) := by decide +kernel
theorem d_ListReader_readHead_36 : decode b_ListReader_readHead 36 = .ok (.invokevirtual 104, 3) := by decide +kernel
theorem d_ListReader_readHead_39 : decode b_ListReader_readHead 39 = .ok (.putfield 107, 3) := by decide +kernel
theorem d_ListReader_readHead_42 : decode b_ListReader_readHead 42 = .ok (.aload_n 0, 1) := by decide +kernel
theorem d_ListReader_readHead_43 : decode b_ListReader_readHead 43 = .ok (.getfield 25, 3) := by decide +kernel
theorem d_ListReader_readHead_46 : decode b_ListReader_readHead 46 = .ok (.aload_n 0, 1) := by decide +kernel
theorem d_ListReader_readHead_47 : decode b_ListReader_readHead 47 = .ok (.iload_n 1, 1) := by decide +kernel
theorem d_ListReader_readHead_48 : decode b_ListReader_readHead 48 = .ok (.invokevirtual 63, 3) := by decide +kernel
theorem d_ListReader_readHead_51 : decode b_ListReader_readHead 51 = .ok (.putfield 110, 3) := by decide +kernel
theorem d_ListReader_readHead_54 : decode b_ListReader_readHead 54 = .ok (.aload_n 0, 1) := by decide +kernel
theorem d_ListReader_readHead_55 : decode b_ListReader_readHead 55 = .ok (.getfield 25, 3) := by decide +kernel
theorem d_ListReader_readHead_58 : decode b_ListReader_readHead 58 = .ok (.aload_n 0, 1) := by decide +kernel
theorem d_ListReader_readHead_59 : decode b_ListReader_readHead 59 = .ok (.iload_n 1, 1) := by decide +kernel
theorem d_ListReader_readHead_60 : decode b_ListReader_readHead 60 = .ok (.invokevirtual 63, 3) := by decide +kernel
theorem d_ListReader_readHead_63 : decode b_ListReader_readHead 63 = .ok (.putfield 114, 3) := by decide +kernel
theorem d_ListReader_readHead_66 : decode b_ListReader_readHead 66 = .ok (.return_, 1) := by decide +kernel
def y_ListReader_readList : MethodName := ⟨"TrustChain$ListReader", "readList", "()V"⟩
abbrev b_ListReader_readList : ByteArray := prog_4_method_2_code
def w_ListReader_readList : List Cond := Cond.code y_ListReader_readList b_ListReader_readList 7 (none) :: tb
theorem d_ListReader_readList_0 : decode b_ListReader_readList 0 = .ok (.aload_n 0, 1) := by decide +kernel
theorem d_ListReader_readList_1 : decode b_ListReader_readList 1 = .ok (.bipush 48, 2) := by decide +kernel
theorem d_ListReader_readList_3 : decode b_ListReader_readList 3 = .ok (.aload_n 0, 1) := by decide +kernel
theorem d_ListReader_readList_4 : decode b_ListReader_readList 4 = .ok (.getfield 29, 3) := by decide +kernel
theorem d_ListReader_readList_7 : decode b_ListReader_readList 7 = .ok (.arraylength, 1) := by decide +kernel
theorem d_ListReader_readList_8 : decode b_ListReader_readList 8 = .ok (.invokevirtual 33, 3) := by decide +kernel
theorem d_ListReader_readList_11 : decode b_ListReader_readList 11 = .ok (.istore_n 1, 1) := by decide +kernel
theorem d_ListReader_readList_12 : decode b_ListReader_readList 12 = .ok (.aload_n 0, 1) := by decide +kernel
theorem d_ListReader_readList_13 : decode b_ListReader_readList 13 = .ok (.getfield 37, 3) := by decide +kernel
theorem d_ListReader_readList_16 : decode b_ListReader_readList 16 = .ok (.istore_n 2, 1) := by decide +kernel
theorem d_ListReader_readList_17 : decode b_ListReader_readList 17 = .ok (.aload_n 0, 1) := by decide +kernel
theorem d_ListReader_readList_18 : decode b_ListReader_readList 18 = .ok (.bipush 48, 2) := by decide +kernel
theorem d_ListReader_readList_20 : decode b_ListReader_readList 20 = .ok (.iload_n 1, 1) := by decide +kernel
theorem d_ListReader_readList_21 : decode b_ListReader_readList 21 = .ok (.invokevirtual 33, 3) := by decide +kernel
theorem d_ListReader_readList_24 : decode b_ListReader_readList 24 = .ok (.istore_n 3, 1) := by decide +kernel
theorem d_ListReader_readList_25 : decode b_ListReader_readList 25 = .ok (.aload_n 0, 1) := by decide +kernel
theorem d_ListReader_readList_26 : decode b_ListReader_readList 26 = .ok (.iload_n 3, 1) := by decide +kernel
theorem d_ListReader_readList_27 : decode b_ListReader_readList 27 = .ok (.invokevirtual 41, 3) := by decide +kernel
theorem d_ListReader_readList_30 : decode b_ListReader_readList 30 = .ok (.aload_n 0, 1) := by decide +kernel
theorem d_ListReader_readList_31 : decode b_ListReader_readList 31 = .ok (.aload_n 0, 1) := by decide +kernel
theorem d_ListReader_readList_32 : decode b_ListReader_readList 32 = .ok (.bipush 48, 2) := by decide +kernel
theorem d_ListReader_readList_34 : decode b_ListReader_readList 34 = .ok (.iload_n 3, 1) := by decide +kernel
theorem d_ListReader_readList_35 : decode b_ListReader_readList 35 = .ok (.invokevirtual 45, 3) := by decide +kernel
theorem d_ListReader_readList_38 : decode b_ListReader_readList 38 = .ok (.putfield 9, 3) := by decide +kernel
theorem d_ListReader_readList_41 : decode b_ListReader_readList 41 = .ok (.aload_n 0, 1) := by decide +kernel
theorem d_ListReader_readList_42 : decode b_ListReader_readList 42 = .ok (.getfield 9, 3) := by decide +kernel
theorem d_ListReader_readList_45 : decode b_ListReader_readList 45 = .ok (.ifCond .eq 13, 3) := by decide +kernel
theorem d_ListReader_readList_48 : decode b_ListReader_readList 48 = .ok (.aload_n 0, 1) := by decide +kernel
theorem d_ListReader_readList_49 : decode b_ListReader_readList 49 = .ok (.bipush 48, 2) := by decide +kernel
theorem d_ListReader_readList_51 : decode b_ListReader_readList 51 = .ok (.iload_n 3, 1) := by decide +kernel
theorem d_ListReader_readList_52 : decode b_ListReader_readList 52 = .ok (.invokevirtual 33, 3) := by decide +kernel
theorem d_ListReader_readList_55 : decode b_ListReader_readList 55 = .ok (.goto 7, 3) := by decide +kernel
theorem d_ListReader_readList_58 : decode b_ListReader_readList 58 = .ok (.aload_n 0, 1) := by decide +kernel
theorem d_ListReader_readList_59 : decode b_ListReader_readList 59 = .ok (.getfield 37, 3) := by decide +kernel
theorem d_ListReader_readList_62 : decode b_ListReader_readList 62 = .ok (.istore 4, 2) := by decide +kernel
theorem d_ListReader_readList_64 : decode b_ListReader_readList 64 = .ok (.iconst 0, 1) := by decide +kernel
theorem d_ListReader_readList_65 : decode b_ListReader_readList 65 = .ok (.istore 5, 2) := by decide +kernel
theorem d_ListReader_readList_67 : decode b_ListReader_readList 67 = .ok (.iload 5, 2) := by decide +kernel
theorem d_ListReader_readList_69 : decode b_ListReader_readList 69 = .ok (.sipush 2048, 3) := by decide +kernel
theorem d_ListReader_readList_72 : decode b_ListReader_readList 72 = .ok (.if_icmp .ge 83, 3) := by decide +kernel
theorem d_ListReader_readList_75 : decode b_ListReader_readList 75 = .ok (.aload_n 0, 1) := by decide +kernel
theorem d_ListReader_readList_76 : decode b_ListReader_readList 76 = .ok (.getfield 9, 3) := by decide +kernel
theorem d_ListReader_readList_79 : decode b_ListReader_readList 79 = .ok (.ifCond .eq 76, 3) := by decide +kernel
theorem d_ListReader_readList_82 : decode b_ListReader_readList 82 = .ok (.aload_n 0, 1) := by decide +kernel
theorem d_ListReader_readList_83 : decode b_ListReader_readList 83 = .ok (.bipush 48, 2) := by decide +kernel
theorem d_ListReader_readList_85 : decode b_ListReader_readList 85 = .ok (.iload 4, 2) := by decide +kernel
theorem d_ListReader_readList_87 : decode b_ListReader_readList 87 = .ok (.invokevirtual 33, 3) := by decide +kernel
theorem d_ListReader_readList_90 : decode b_ListReader_readList 90 = .ok (.istore 6, 2) := by decide +kernel
theorem d_ListReader_readList_92 : decode b_ListReader_readList 92 = .ok (.aload_n 0, 1) := by decide +kernel
theorem d_ListReader_readList_93 : decode b_ListReader_readList 93 = .ok (.getfield 25, 3) := by decide +kernel
theorem d_ListReader_readList_96 : decode b_ListReader_readList 96 = .ok (.getfield 49, 3) := by decide +kernel
theorem d_ListReader_readList_99 : decode b_ListReader_readList 99 = .ok (.aload_n 0, 1) := by decide +kernel
theorem d_ListReader_readList_100 : decode b_ListReader_readList 100 = .ok (.iload 6, 2) := by decide +kernel
theorem d_ListReader_readList_102 : decode b_ListReader_readList 102 = .ok (.invokevirtual 53, 3) := by decide +kernel
theorem d_ListReader_readList_105 : decode b_ListReader_readList 105 = .ok (.invokevirtual 57, 3) := by decide +kernel
theorem d_ListReader_readList_108 : decode b_ListReader_readList 108 = .ok (.pop, 1) := by decide +kernel
theorem d_ListReader_readList_109 : decode b_ListReader_readList 109 = .ok (.aload_n 0, 1) := by decide +kernel
theorem d_ListReader_readList_110 : decode b_ListReader_readList 110 = .ok (.iload 6, 2) := by decide +kernel
theorem d_ListReader_readList_112 : decode b_ListReader_readList 112 = .ok (.invokevirtual 63, 3) := by decide +kernel
theorem d_ListReader_readList_115 : decode b_ListReader_readList 115 = .ok (.pop2, 1) := by decide +kernel
theorem d_ListReader_readList_116 : decode b_ListReader_readList 116 = .ok (.aload_n 0, 1) := by decide +kernel
theorem d_ListReader_readList_117 : decode b_ListReader_readList 117 = .ok (.bipush 48, 2) := by decide +kernel
theorem d_ListReader_readList_119 : decode b_ListReader_readList 119 = .ok (.iload 6, 2) := by decide +kernel
theorem d_ListReader_readList_121 : decode b_ListReader_readList 121 = .ok (.invokevirtual 45, 3) := by decide +kernel
theorem d_ListReader_readList_124 : decode b_ListReader_readList 124 = .ok (.ifCond .eq 9, 3) := by decide +kernel
theorem d_ListReader_readList_127 : decode b_ListReader_readList 127 = .ok (.aload_n 0, 1) := by decide +kernel
theorem d_ListReader_readList_128 : decode b_ListReader_readList 128 = .ok (.iload 6, 2) := by decide +kernel
theorem d_ListReader_readList_130 : decode b_ListReader_readList 130 = .ok (.invokevirtual 67, 3) := by decide +kernel
theorem d_ListReader_readList_133 : decode b_ListReader_readList 133 = .ok (.aload_n 0, 1) := by decide +kernel
theorem d_ListReader_readList_134 : decode b_ListReader_readList 134 = .ok (.iload 6, 2) := by decide +kernel
theorem d_ListReader_readList_136 : decode b_ListReader_readList 136 = .ok (.invokevirtual 70, 3) := by decide +kernel
theorem d_ListReader_readList_139 : decode b_ListReader_readList 139 = .ok (.aload_n 0, 1) := by decide +kernel
theorem d_ListReader_readList_140 : decode b_ListReader_readList 140 = .ok (.aload_n 0, 1) := by decide +kernel
theorem d_ListReader_readList_141 : decode b_ListReader_readList 141 = .ok (.iload 4, 2) := by decide +kernel
theorem d_ListReader_readList_143 : decode b_ListReader_readList 143 = .ok (.invokevirtual 73, 3) := by decide +kernel
theorem d_ListReader_readList_146 : decode b_ListReader_readList 146 = .ok (.putfield 9, 3) := by decide +kernel
theorem d_ListReader_readList_149 : decode b_ListReader_readList 149 = .ok (.iinc 5 1, 3) := by decide +kernel
theorem d_ListReader_readList_152 : decode b_ListReader_readList 152 = .ok (.goto (-85), 3) := by decide +kernel
theorem d_ListReader_readList_155 : decode b_ListReader_readList 155 = .ok (.aload_n 0, 1) := by decide +kernel
theorem d_ListReader_readList_156 : decode b_ListReader_readList 156 = .ok (.sipush 160, 3) := by decide +kernel
theorem d_ListReader_readList_159 : decode b_ListReader_readList 159 = .ok (.iload_n 3, 1) := by decide +kernel
theorem d_ListReader_readList_160 : decode b_ListReader_readList 160 = .ok (.invokevirtual 45, 3) := by decide +kernel
theorem d_ListReader_readList_163 : decode b_ListReader_readList 163 = .ok (.ifCond .eq 25, 3) := by decide +kernel
theorem d_ListReader_readList_166 : decode b_ListReader_readList 166 = .ok (.aload_n 0, 1) := by decide +kernel
theorem d_ListReader_readList_167 : decode b_ListReader_readList 167 = .ok (.sipush 160, 3) := by decide +kernel
theorem d_ListReader_readList_170 : decode b_ListReader_readList 170 = .ok (.iload_n 3, 1) := by decide +kernel
theorem d_ListReader_readList_171 : decode b_ListReader_readList 171 = .ok (.invokevirtual 33, 3) := by decide +kernel
theorem d_ListReader_readList_174 : decode b_ListReader_readList 174 = .ok (.istore 5, 2) := by decide +kernel
theorem d_ListReader_readList_176 : decode b_ListReader_readList 176 = .ok (.aload_n 0, 1) := by decide +kernel
theorem d_ListReader_readList_177 : decode b_ListReader_readList 177 = .ok (.iload 5, 2) := by decide +kernel
theorem d_ListReader_readList_179 : decode b_ListReader_readList 179 = .ok (.invokevirtual 67, 3) := by decide +kernel
theorem d_ListReader_readList_182 : decode b_ListReader_readList 182 = .ok (.aload_n 0, 1) := by decide +kernel
theorem d_ListReader_readList_183 : decode b_ListReader_readList 183 = .ok (.iload 5, 2) := by decide +kernel
theorem d_ListReader_readList_185 : decode b_ListReader_readList 185 = .ok (.invokevirtual 70, 3) := by decide +kernel
theorem d_ListReader_readList_188 : decode b_ListReader_readList 188 = .ok (.aload_n 0, 1) := by decide +kernel
theorem d_ListReader_readList_189 : decode b_ListReader_readList 189 = .ok (.iload_n 3, 1) := by decide +kernel
theorem d_ListReader_readList_190 : decode b_ListReader_readList 190 = .ok (.invokevirtual 70, 3) := by decide +kernel
theorem d_ListReader_readList_193 : decode b_ListReader_readList 193 = .ok (.aload_n 0, 1) := by decide +kernel
theorem d_ListReader_readList_194 : decode b_ListReader_readList 194 = .ok (.getfield 25, 3) := by decide +kernel
theorem d_ListReader_readList_197 : decode b_ListReader_readList 197 = .ok (.new 17, 3) := by decide +kernel
theorem d_ListReader_readList_200 : decode b_ListReader_readList 200 = .ok (.dup, 1) := by decide +kernel
theorem d_ListReader_readList_201 : decode b_ListReader_readList 201 = .ok (.aload_n 0, 1) := by decide +kernel
theorem d_ListReader_readList_202 : decode b_ListReader_readList 202 = .ok (.getfield 29, 3) := by decide +kernel
theorem d_ListReader_readList_205 : decode b_ListReader_readList 205 = .ok (.iload_n 2, 1) := by decide +kernel
theorem d_ListReader_readList_206 : decode b_ListReader_readList 206 = .ok (.iload_n 3, 1) := by decide +kernel
theorem d_ListReader_readList_207 : decode b_ListReader_readList 207 = .ok (.invokespecial 19, 3) := by decide +kernel
theorem d_ListReader_readList_210 : decode b_ListReader_readList 210 = .ok (.putfield 77, 3) := by decide +kernel
theorem d_ListReader_readList_213 : decode b_ListReader_readList 213 = .ok (.aload_n 0, 1) := by decide +kernel
theorem d_ListReader_readList_214 : decode b_ListReader_readList 214 = .ok (.getfield 25, 3) := by decide +kernel
theorem d_ListReader_readList_217 : decode b_ListReader_readList 217 = .ok (.aload_n 0, 1) := by decide +kernel
theorem d_ListReader_readList_218 : decode b_ListReader_readList 218 = .ok (.getfield 81, 3) := by decide +kernel
theorem d_ListReader_readList_221 : decode b_ListReader_readList 221 = .ok (.putfield 84, 3) := by decide +kernel
theorem d_ListReader_readList_224 : decode b_ListReader_readList 224 = .ok (.aload_n 0, 1) := by decide +kernel
theorem d_ListReader_readList_225 : decode b_ListReader_readList 225 = .ok (.aload_n 0, 1) := by decide +kernel
theorem d_ListReader_readList_226 : decode b_ListReader_readList 226 = .ok (.getfield 25, 3) := by decide +kernel
theorem d_ListReader_readList_229 : decode b_ListReader_readList 229 = .ok (.iload_n 1, 1) := by decide +kernel
theorem d_ListReader_readList_230 : decode b_ListReader_readList 230 = .ok (.invokevirtual 85, 3) := by decide +kernel
theorem d_ListReader_readList_233 : decode b_ListReader_readList 233 = .ok (.return_, 1) := by decide +kernel
