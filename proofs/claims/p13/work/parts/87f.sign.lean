/-! The reference's reduced and isSigned return. -/
def kz3 : String × Nat × String × List Int32 := ("TrustChainModel", 296, "3031300D060960864801650304020105000420", (kstr.getD 3 ("", 0, "", [])).2.2.2)
theorem kz3_at : kstr[3]? = some kz3 := rfl
theorem kz3_len : kz3.2.2.2.length = 38 := rfl
/-- a count that runs down below 0 -/
def cI (N : Nat) (x : Int32) (z : Nat) : Prop := x < 0 ∨ ∃ j, j + z + 1 ≤ N ∧ x = nI j
def y_Model_reduced : MethodName := ⟨"TrustChainModel", "reduced", "([II[III)I"⟩
abbrev b_Model_reduced : ByteArray := prog_14_method_29_code
def w_Model_reduced : List Cond := Cond.code y_Model_reduced b_Model_reduced 8 ((some FieldType.int)) :: tb
theorem d_Model_reduced_0 : decode b_Model_reduced 0 = .ok (.aload_n 1, 1) := by decide +kernel
theorem d_Model_reduced_1 : decode b_Model_reduced 1 = .ok (.iload_n 2, 1) := by decide +kernel
theorem d_Model_reduced_2 : decode b_Model_reduced 2 = .ok (.aload_n 3, 1) := by decide +kernel
theorem d_Model_reduced_3 : decode b_Model_reduced 3 = .ok (.iload 4, 2) := by decide +kernel
theorem d_Model_reduced_5 : decode b_Model_reduced 5 = .ok (.aload_n 0, 1) := by decide +kernel
theorem d_Model_reduced_6 : decode b_Model_reduced 6 = .ok (.getfield 133, 3) := by decide +kernel
theorem d_Model_reduced_9 : decode b_Model_reduced 9 = .ok (.invokestatic 301, 3) := by decide +kernel
theorem d_Model_reduced_12 : decode b_Model_reduced 12 = .ok (.istore 6, 2) := by decide +kernel
theorem d_Model_reduced_14 : decode b_Model_reduced 14 = .ok (.aload_n 0, 1) := by decide +kernel
theorem d_Model_reduced_15 : decode b_Model_reduced 15 = .ok (.aload_n 0, 1) := by decide +kernel
theorem d_Model_reduced_16 : decode b_Model_reduced 16 = .ok (.getfield 133, 3) := by decide +kernel
theorem d_Model_reduced_19 : decode b_Model_reduced 19 = .ok (.iload 6, 2) := by decide +kernel
theorem d_Model_reduced_21 : decode b_Model_reduced 21 = .ok (.aload_n 0, 1) := by decide +kernel
theorem d_Model_reduced_22 : decode b_Model_reduced 22 = .ok (.getfield 127, 3) := by decide +kernel
theorem d_Model_reduced_25 : decode b_Model_reduced 25 = .ok (.iload 5, 2) := by decide +kernel
theorem d_Model_reduced_27 : decode b_Model_reduced 27 = .ok (.aload_n 0, 1) := by decide +kernel
theorem d_Model_reduced_28 : decode b_Model_reduced 28 = .ok (.getfield 130, 3) := by decide +kernel
theorem d_Model_reduced_31 : decode b_Model_reduced 31 = .ok (.invokevirtual 305, 3) := by decide +kernel
theorem d_Model_reduced_34 : decode b_Model_reduced 34 = .ok (.istore 6, 2) := by decide +kernel
theorem d_Model_reduced_36 : decode b_Model_reduced 36 = .ok (.iconst 0, 1) := by decide +kernel
theorem d_Model_reduced_37 : decode b_Model_reduced 37 = .ok (.istore 7, 2) := by decide +kernel
theorem d_Model_reduced_39 : decode b_Model_reduced 39 = .ok (.iload 7, 2) := by decide +kernel
theorem d_Model_reduced_41 : decode b_Model_reduced 41 = .ok (.iload 6, 2) := by decide +kernel
theorem d_Model_reduced_43 : decode b_Model_reduced 43 = .ok (.if_icmp .ge 23, 3) := by decide +kernel
theorem d_Model_reduced_46 : decode b_Model_reduced 46 = .ok (.aload_n 0, 1) := by decide +kernel
theorem d_Model_reduced_47 : decode b_Model_reduced 47 = .ok (.getfield 124, 3) := by decide +kernel
theorem d_Model_reduced_50 : decode b_Model_reduced 50 = .ok (.iload 7, 2) := by decide +kernel
theorem d_Model_reduced_52 : decode b_Model_reduced 52 = .ok (.aload_n 0, 1) := by decide +kernel
theorem d_Model_reduced_53 : decode b_Model_reduced 53 = .ok (.getfield 133, 3) := by decide +kernel
theorem d_Model_reduced_56 : decode b_Model_reduced 56 = .ok (.iload 7, 2) := by decide +kernel
theorem d_Model_reduced_58 : decode b_Model_reduced 58 = .ok (.iaload, 1) := by decide +kernel
theorem d_Model_reduced_59 : decode b_Model_reduced 59 = .ok (.iastore, 1) := by decide +kernel
theorem d_Model_reduced_60 : decode b_Model_reduced 60 = .ok (.iinc 7 1, 3) := by decide +kernel
theorem d_Model_reduced_63 : decode b_Model_reduced 63 = .ok (.goto (-24), 3) := by decide +kernel
theorem d_Model_reduced_66 : decode b_Model_reduced 66 = .ok (.iload 6, 2) := by decide +kernel
theorem d_Model_reduced_68 : decode b_Model_reduced 68 = .ok (.ireturn, 1) := by decide +kernel
def y_Integer_numberOfLeadingZeros : MethodName := ⟨"java/lang/Integer", "numberOfLeadingZeros", "(I)I"⟩
abbrev b_Integer_numberOfLeadingZeros : ByteArray := prog_21_method_47_code
def w_Integer_numberOfLeadingZeros : List Cond := Cond.code y_Integer_numberOfLeadingZeros b_Integer_numberOfLeadingZeros 2 ((some FieldType.int)) :: tb
theorem d_Integer_numberOfLeadingZeros_0 : decode b_Integer_numberOfLeadingZeros 0 = .ok (.iload_n 0, 1) := by decide +kernel
theorem d_Integer_numberOfLeadingZeros_1 : decode b_Integer_numberOfLeadingZeros 1 = .ok (.ifCond .gt 14, 3) := by decide +kernel
theorem d_Integer_numberOfLeadingZeros_15 : decode b_Integer_numberOfLeadingZeros 15 = .ok (.bipush 31, 2) := by decide +kernel
theorem d_Integer_numberOfLeadingZeros_17 : decode b_Integer_numberOfLeadingZeros 17 = .ok (.istore_n 1, 1) := by decide +kernel
theorem d_Integer_numberOfLeadingZeros_18 : decode b_Integer_numberOfLeadingZeros 18 = .ok (.iload_n 0, 1) := by decide +kernel
theorem d_Integer_numberOfLeadingZeros_19 : decode b_Integer_numberOfLeadingZeros 19 = .ok (.ldc_w 264, 3) := by decide +kernel
theorem d_Integer_numberOfLeadingZeros_22 : decode b_Integer_numberOfLeadingZeros 22 = .ok (.if_icmp .lt 11, 3) := by decide +kernel
theorem d_Integer_numberOfLeadingZeros_25 : decode b_Integer_numberOfLeadingZeros 25 = .ok (.iinc 1 (-16), 3) := by decide +kernel
theorem d_Integer_numberOfLeadingZeros_28 : decode b_Integer_numberOfLeadingZeros 28 = .ok (.iload_n 0, 1) := by decide +kernel
theorem d_Integer_numberOfLeadingZeros_29 : decode b_Integer_numberOfLeadingZeros 29 = .ok (.bipush 16, 2) := by decide +kernel
theorem d_Integer_numberOfLeadingZeros_31 : decode b_Integer_numberOfLeadingZeros 31 = .ok (.iushr, 1) := by decide +kernel
theorem d_Integer_numberOfLeadingZeros_32 : decode b_Integer_numberOfLeadingZeros 32 = .ok (.istore_n 0, 1) := by decide +kernel
theorem d_Integer_numberOfLeadingZeros_33 : decode b_Integer_numberOfLeadingZeros 33 = .ok (.iload_n 0, 1) := by decide +kernel
theorem d_Integer_numberOfLeadingZeros_34 : decode b_Integer_numberOfLeadingZeros 34 = .ok (.sipush 256, 3) := by decide +kernel
theorem d_Integer_numberOfLeadingZeros_37 : decode b_Integer_numberOfLeadingZeros 37 = .ok (.if_icmp .lt 11, 3) := by decide +kernel
theorem d_Integer_numberOfLeadingZeros_40 : decode b_Integer_numberOfLeadingZeros 40 = .ok (.iinc 1 (-8), 3) := by decide +kernel
theorem d_Integer_numberOfLeadingZeros_43 : decode b_Integer_numberOfLeadingZeros 43 = .ok (.iload_n 0, 1) := by decide +kernel
theorem d_Integer_numberOfLeadingZeros_44 : decode b_Integer_numberOfLeadingZeros 44 = .ok (.bipush 8, 2) := by decide +kernel
theorem d_Integer_numberOfLeadingZeros_46 : decode b_Integer_numberOfLeadingZeros 46 = .ok (.iushr, 1) := by decide +kernel
theorem d_Integer_numberOfLeadingZeros_47 : decode b_Integer_numberOfLeadingZeros 47 = .ok (.istore_n 0, 1) := by decide +kernel
theorem d_Integer_numberOfLeadingZeros_48 : decode b_Integer_numberOfLeadingZeros 48 = .ok (.iload_n 0, 1) := by decide +kernel
theorem d_Integer_numberOfLeadingZeros_49 : decode b_Integer_numberOfLeadingZeros 49 = .ok (.bipush 16, 2) := by decide +kernel
theorem d_Integer_numberOfLeadingZeros_51 : decode b_Integer_numberOfLeadingZeros 51 = .ok (.if_icmp .lt 10, 3) := by decide +kernel
theorem d_Integer_numberOfLeadingZeros_54 : decode b_Integer_numberOfLeadingZeros 54 = .ok (.iinc 1 (-4), 3) := by decide +kernel
theorem d_Integer_numberOfLeadingZeros_57 : decode b_Integer_numberOfLeadingZeros 57 = .ok (.iload_n 0, 1) := by decide +kernel
theorem d_Integer_numberOfLeadingZeros_58 : decode b_Integer_numberOfLeadingZeros 58 = .ok (.iconst 4, 1) := by decide +kernel
theorem d_Integer_numberOfLeadingZeros_59 : decode b_Integer_numberOfLeadingZeros 59 = .ok (.iushr, 1) := by decide +kernel
theorem d_Integer_numberOfLeadingZeros_60 : decode b_Integer_numberOfLeadingZeros 60 = .ok (.istore_n 0, 1) := by decide +kernel
theorem d_Integer_numberOfLeadingZeros_61 : decode b_Integer_numberOfLeadingZeros 61 = .ok (.iload_n 0, 1) := by decide +kernel
theorem d_Integer_numberOfLeadingZeros_62 : decode b_Integer_numberOfLeadingZeros 62 = .ok (.iconst 4, 1) := by decide +kernel
theorem d_Integer_numberOfLeadingZeros_63 : decode b_Integer_numberOfLeadingZeros 63 = .ok (.if_icmp .lt 10, 3) := by decide +kernel
theorem d_Integer_numberOfLeadingZeros_66 : decode b_Integer_numberOfLeadingZeros 66 = .ok (.iinc 1 (-2), 3) := by decide +kernel
theorem d_Integer_numberOfLeadingZeros_69 : decode b_Integer_numberOfLeadingZeros 69 = .ok (.iload_n 0, 1) := by decide +kernel
theorem d_Integer_numberOfLeadingZeros_70 : decode b_Integer_numberOfLeadingZeros 70 = .ok (.iconst 2, 1) := by decide +kernel
theorem d_Integer_numberOfLeadingZeros_71 : decode b_Integer_numberOfLeadingZeros 71 = .ok (.iushr, 1) := by decide +kernel
theorem d_Integer_numberOfLeadingZeros_72 : decode b_Integer_numberOfLeadingZeros 72 = .ok (.istore_n 0, 1) := by decide +kernel
theorem d_Integer_numberOfLeadingZeros_73 : decode b_Integer_numberOfLeadingZeros 73 = .ok (.iload_n 1, 1) := by decide +kernel
theorem d_Integer_numberOfLeadingZeros_74 : decode b_Integer_numberOfLeadingZeros 74 = .ok (.iload_n 0, 1) := by decide +kernel
theorem d_Integer_numberOfLeadingZeros_75 : decode b_Integer_numberOfLeadingZeros 75 = .ok (.iconst 1, 1) := by decide +kernel
theorem d_Integer_numberOfLeadingZeros_76 : decode b_Integer_numberOfLeadingZeros 76 = .ok (.iushr, 1) := by decide +kernel
theorem d_Integer_numberOfLeadingZeros_77 : decode b_Integer_numberOfLeadingZeros 77 = .ok (.isub, 1) := by decide +kernel
theorem d_Integer_numberOfLeadingZeros_78 : decode b_Integer_numberOfLeadingZeros 78 = .ok (.ireturn, 1) := by decide +kernel
def y_Model_isSigned : MethodName := ⟨"TrustChainModel", "isSigned", "(LTrustChainModel$Text;LTrustChainModel$Text;)Z"⟩
abbrev b_Model_isSigned : ByteArray := prog_14_method_28_code
def w_Model_isSigned : List Cond := Cond.code y_Model_isSigned b_Model_isSigned 14 ((some FieldType.boolean)) :: tb
theorem d_Model_isSigned_0 : decode b_Model_isSigned 0 = .ok (.aload_n 2, 1) := by decide +kernel
theorem d_Model_isSigned_1 : decode b_Model_isSigned 1 = .ok (.getfield 220, 3) := by decide +kernel
theorem d_Model_isSigned_4 : decode b_Model_isSigned 4 = .ok (.aload_n 2, 1) := by decide +kernel
theorem d_Model_isSigned_5 : decode b_Model_isSigned 5 = .ok (.getfield 223, 3) := by decide +kernel
theorem d_Model_isSigned_8 : decode b_Model_isSigned 8 = .ok (.isub, 1) := by decide +kernel
theorem d_Model_isSigned_9 : decode b_Model_isSigned 9 = .ok (.istore_n 3, 1) := by decide +kernel
theorem d_Model_isSigned_10 : decode b_Model_isSigned 10 = .ok (.aload_n 1, 1) := by decide +kernel
theorem d_Model_isSigned_11 : decode b_Model_isSigned 11 = .ok (.getfield 276, 3) := by decide +kernel
theorem d_Model_isSigned_14 : decode b_Model_isSigned 14 = .ok (.aload_n 1, 1) := by decide +kernel
theorem d_Model_isSigned_15 : decode b_Model_isSigned 15 = .ok (.getfield 279, 3) := by decide +kernel
theorem d_Model_isSigned_18 : decode b_Model_isSigned 18 = .ok (.isub, 1) := by decide +kernel
theorem d_Model_isSigned_19 : decode b_Model_isSigned 19 = .ok (.iload_n 3, 1) := by decide +kernel
theorem d_Model_isSigned_20 : decode b_Model_isSigned 20 = .ok (.if_icmp .eq 5, 3) := by decide +kernel
theorem d_Model_isSigned_23 : decode b_Model_isSigned 23 = .ok (.iconst 0, 1) := by decide +kernel
theorem d_Model_isSigned_24 : decode b_Model_isSigned 24 = .ok (.ireturn, 1) := by decide +kernel
theorem d_Model_isSigned_25 : decode b_Model_isSigned 25 = .ok (.aload_n 2, 1) := by decide +kernel
theorem d_Model_isSigned_26 : decode b_Model_isSigned 26 = .ok (.aload_n 2, 1) := by decide +kernel
theorem d_Model_isSigned_27 : decode b_Model_isSigned 27 = .ok (.getfield 223, 3) := by decide +kernel
theorem d_Model_isSigned_30 : decode b_Model_isSigned 30 = .ok (.aload_n 2, 1) := by decide +kernel
theorem d_Model_isSigned_31 : decode b_Model_isSigned 31 = .ok (.getfield 220, 3) := by decide +kernel
theorem d_Model_isSigned_34 : decode b_Model_isSigned 34 = .ok (.aload_n 0, 1) := by decide +kernel
theorem d_Model_isSigned_35 : decode b_Model_isSigned 35 = .ok (.getfield 127, 3) := by decide +kernel
theorem d_Model_isSigned_38 : decode b_Model_isSigned 38 = .ok (.invokestatic 282, 3) := by decide +kernel
theorem d_Model_isSigned_41 : decode b_Model_isSigned 41 = .ok (.istore 4, 2) := by decide +kernel
theorem d_Model_isSigned_43 : decode b_Model_isSigned 43 = .ok (.aload_n 1, 1) := by decide +kernel
theorem d_Model_isSigned_44 : decode b_Model_isSigned 44 = .ok (.aload_n 1, 1) := by decide +kernel
theorem d_Model_isSigned_45 : decode b_Model_isSigned 45 = .ok (.getfield 279, 3) := by decide +kernel
theorem d_Model_isSigned_48 : decode b_Model_isSigned 48 = .ok (.aload_n 1, 1) := by decide +kernel
theorem d_Model_isSigned_49 : decode b_Model_isSigned 49 = .ok (.getfield 276, 3) := by decide +kernel
theorem d_Model_isSigned_52 : decode b_Model_isSigned 52 = .ok (.aload_n 0, 1) := by decide +kernel
theorem d_Model_isSigned_53 : decode b_Model_isSigned 53 = .ok (.getfield 121, 3) := by decide +kernel
theorem d_Model_isSigned_56 : decode b_Model_isSigned 56 = .ok (.invokestatic 282, 3) := by decide +kernel
theorem d_Model_isSigned_59 : decode b_Model_isSigned 59 = .ok (.istore 5, 2) := by decide +kernel
theorem d_Model_isSigned_61 : decode b_Model_isSigned 61 = .ok (.iconst 1, 1) := by decide +kernel
theorem d_Model_isSigned_62 : decode b_Model_isSigned 62 = .ok (.istore 6, 2) := by decide +kernel
theorem d_Model_isSigned_64 : decode b_Model_isSigned 64 = .ok (.aload_n 0, 1) := by decide +kernel
theorem d_Model_isSigned_65 : decode b_Model_isSigned 65 = .ok (.getfield 121, 3) := by decide +kernel
theorem d_Model_isSigned_68 : decode b_Model_isSigned 68 = .ok (.iload 5, 2) := by decide +kernel
theorem d_Model_isSigned_70 : decode b_Model_isSigned 70 = .ok (.aload_n 0, 1) := by decide +kernel
theorem d_Model_isSigned_71 : decode b_Model_isSigned 71 = .ok (.getfield 127, 3) := by decide +kernel
theorem d_Model_isSigned_74 : decode b_Model_isSigned 74 = .ok (.iload 4, 2) := by decide +kernel
theorem d_Model_isSigned_76 : decode b_Model_isSigned 76 = .ok (.invokestatic 155, 3) := by decide +kernel
theorem d_Model_isSigned_79 : decode b_Model_isSigned 79 = .ok (.ifCond .lt 5, 3) := by decide +kernel
theorem d_Model_isSigned_82 : decode b_Model_isSigned 82 = .ok (.iconst 0, 1) := by decide +kernel
theorem d_Model_isSigned_83 : decode b_Model_isSigned 83 = .ok (.ireturn, 1) := by decide +kernel
theorem d_Model_isSigned_84 : decode b_Model_isSigned 84 = .ok (.aload_n 0, 1) := by decide +kernel
theorem d_Model_isSigned_85 : decode b_Model_isSigned 85 = .ok (.getfield 124, 3) := by decide +kernel
theorem d_Model_isSigned_88 : decode b_Model_isSigned 88 = .ok (.iconst 0, 1) := by decide +kernel
theorem d_Model_isSigned_89 : decode b_Model_isSigned 89 = .ok (.iconst 1, 1) := by decide +kernel
theorem d_Model_isSigned_90 : decode b_Model_isSigned 90 = .ok (.iastore, 1) := by decide +kernel
theorem d_Model_isSigned_91 : decode b_Model_isSigned 91 = .ok (.bipush 31, 2) := by decide +kernel
theorem d_Model_isSigned_93 : decode b_Model_isSigned 93 = .ok (.aload_n 2, 1) := by decide +kernel
theorem d_Model_isSigned_94 : decode b_Model_isSigned 94 = .ok (.getfield 226, 3) := by decide +kernel
theorem d_Model_isSigned_97 : decode b_Model_isSigned 97 = .ok (.invokestatic 286, 3) := by decide +kernel
theorem d_Model_isSigned_100 : decode b_Model_isSigned 100 = .ok (.isub, 1) := by decide +kernel
theorem d_Model_isSigned_101 : decode b_Model_isSigned 101 = .ok (.istore 7, 2) := by decide +kernel
theorem d_Model_isSigned_103 : decode b_Model_isSigned 103 = .ok (.iload 7, 2) := by decide +kernel
theorem d_Model_isSigned_105 : decode b_Model_isSigned 105 = .ok (.ifCond .lt 61, 3) := by decide +kernel
theorem d_Model_isSigned_108 : decode b_Model_isSigned 108 = .ok (.aload_n 0, 1) := by decide +kernel
theorem d_Model_isSigned_109 : decode b_Model_isSigned 109 = .ok (.aload_n 0, 1) := by decide +kernel
theorem d_Model_isSigned_110 : decode b_Model_isSigned 110 = .ok (.getfield 124, 3) := by decide +kernel
theorem d_Model_isSigned_113 : decode b_Model_isSigned 113 = .ok (.iload 6, 2) := by decide +kernel
theorem d_Model_isSigned_115 : decode b_Model_isSigned 115 = .ok (.aload_n 0, 1) := by decide +kernel
theorem d_Model_isSigned_116 : decode b_Model_isSigned 116 = .ok (.getfield 124, 3) := by decide +kernel
theorem d_Model_isSigned_119 : decode b_Model_isSigned 119 = .ok (.iload 6, 2) := by decide +kernel
theorem d_Model_isSigned_121 : decode b_Model_isSigned 121 = .ok (.iload 4, 2) := by decide +kernel
theorem d_Model_isSigned_123 : decode b_Model_isSigned 123 = .ok (.invokevirtual 292, 3) := by decide +kernel
theorem d_Model_isSigned_126 : decode b_Model_isSigned 126 = .ok (.istore 6, 2) := by decide +kernel
theorem d_Model_isSigned_128 : decode b_Model_isSigned 128 = .ok (.aload_n 2, 1) := by decide +kernel
theorem d_Model_isSigned_129 : decode b_Model_isSigned 129 = .ok (.getfield 226, 3) := by decide +kernel
theorem d_Model_isSigned_132 : decode b_Model_isSigned 132 = .ok (.iload 7, 2) := by decide +kernel
theorem d_Model_isSigned_134 : decode b_Model_isSigned 134 = .ok (.ishr, 1) := by decide +kernel
theorem d_Model_isSigned_135 : decode b_Model_isSigned 135 = .ok (.iconst 1, 1) := by decide +kernel
theorem d_Model_isSigned_136 : decode b_Model_isSigned 136 = .ok (.iand, 1) := by decide +kernel
theorem d_Model_isSigned_137 : decode b_Model_isSigned 137 = .ok (.ifCond .eq 23, 3) := by decide +kernel
theorem d_Model_isSigned_140 : decode b_Model_isSigned 140 = .ok (.aload_n 0, 1) := by decide +kernel
theorem d_Model_isSigned_141 : decode b_Model_isSigned 141 = .ok (.aload_n 0, 1) := by decide +kernel
theorem d_Model_isSigned_142 : decode b_Model_isSigned 142 = .ok (.getfield 124, 3) := by decide +kernel
theorem d_Model_isSigned_145 : decode b_Model_isSigned 145 = .ok (.iload 6, 2) := by decide +kernel
theorem d_Model_isSigned_147 : decode b_Model_isSigned 147 = .ok (.aload_n 0, 1) := by decide +kernel
theorem d_Model_isSigned_148 : decode b_Model_isSigned 148 = .ok (.getfield 121, 3) := by decide +kernel
theorem d_Model_isSigned_151 : decode b_Model_isSigned 151 = .ok (.iload 5, 2) := by decide +kernel
theorem d_Model_isSigned_153 : decode b_Model_isSigned 153 = .ok (.iload 4, 2) := by decide +kernel
theorem d_Model_isSigned_155 : decode b_Model_isSigned 155 = .ok (.invokevirtual 292, 3) := by decide +kernel
theorem d_Model_isSigned_158 : decode b_Model_isSigned 158 = .ok (.istore 6, 2) := by decide +kernel
theorem d_Model_isSigned_160 : decode b_Model_isSigned 160 = .ok (.iinc 7 (-1), 3) := by decide +kernel
theorem d_Model_isSigned_163 : decode b_Model_isSigned 163 = .ok (.goto (-60), 3) := by decide +kernel
theorem d_Model_isSigned_166 : decode b_Model_isSigned 166 = .ok (.aload_n 0, 1) := by decide +kernel
theorem d_Model_isSigned_167 : decode b_Model_isSigned 167 = .ok (.aload_n 1, 1) := by decide +kernel
theorem d_Model_isSigned_168 : decode b_Model_isSigned 168 = .ok (.invokevirtual 272, 3) := by decide +kernel
theorem d_Model_isSigned_171 : decode b_Model_isSigned 171 = .ok (.ldc_w 296, 3) := by decide +kernel
theorem d_Model_isSigned_174 : decode b_Model_isSigned 174 = .ok (.astore 7, 2) := by decide +kernel
theorem d_Model_isSigned_176 : decode b_Model_isSigned 176 = .ok (.iload_n 3, 1) := by decide +kernel
theorem d_Model_isSigned_177 : decode b_Model_isSigned 177 = .ok (.iconst 3, 1) := by decide +kernel
theorem d_Model_isSigned_178 : decode b_Model_isSigned 178 = .ok (.isub, 1) := by decide +kernel
theorem d_Model_isSigned_179 : decode b_Model_isSigned 179 = .ok (.bipush 19, 2) := by decide +kernel
theorem d_Model_isSigned_181 : decode b_Model_isSigned 181 = .ok (.isub, 1) := by decide +kernel
theorem d_Model_isSigned_182 : decode b_Model_isSigned 182 = .ok (.bipush 32, 2) := by decide +kernel
theorem d_Model_isSigned_184 : decode b_Model_isSigned 184 = .ok (.isub, 1) := by decide +kernel
theorem d_Model_isSigned_185 : decode b_Model_isSigned 185 = .ok (.istore 8, 2) := by decide +kernel
theorem d_Model_isSigned_187 : decode b_Model_isSigned 187 = .ok (.iload 8, 2) := by decide +kernel
theorem d_Model_isSigned_189 : decode b_Model_isSigned 189 = .ok (.bipush 8, 2) := by decide +kernel
theorem d_Model_isSigned_191 : decode b_Model_isSigned 191 = .ok (.if_icmp .ge 5, 3) := by decide +kernel
theorem d_Model_isSigned_196 : decode b_Model_isSigned 196 = .ok (.iconst 0, 1) := by decide +kernel
theorem d_Model_isSigned_197 : decode b_Model_isSigned 197 = .ok (.istore 9, 2) := by decide +kernel
theorem d_Model_isSigned_199 : decode b_Model_isSigned 199 = .ok (.iload 9, 2) := by decide +kernel
theorem d_Model_isSigned_201 : decode b_Model_isSigned 201 = .ok (.iload_n 3, 1) := by decide +kernel
theorem d_Model_isSigned_202 : decode b_Model_isSigned 202 = .ok (.if_icmp .ge 209, 3) := by decide +kernel
theorem d_Model_isSigned_205 : decode b_Model_isSigned 205 = .ok (.iload_n 3, 1) := by decide +kernel
theorem d_Model_isSigned_206 : decode b_Model_isSigned 206 = .ok (.iconst 1, 1) := by decide +kernel
theorem d_Model_isSigned_207 : decode b_Model_isSigned 207 = .ok (.isub, 1) := by decide +kernel
theorem d_Model_isSigned_208 : decode b_Model_isSigned 208 = .ok (.iload 9, 2) := by decide +kernel
theorem d_Model_isSigned_210 : decode b_Model_isSigned 210 = .ok (.isub, 1) := by decide +kernel
theorem d_Model_isSigned_211 : decode b_Model_isSigned 211 = .ok (.istore 10, 2) := by decide +kernel
theorem d_Model_isSigned_213 : decode b_Model_isSigned 213 = .ok (.iload 10, 2) := by decide +kernel
theorem d_Model_isSigned_215 : decode b_Model_isSigned 215 = .ok (.iconst 1, 1) := by decide +kernel
theorem d_Model_isSigned_216 : decode b_Model_isSigned 216 = .ok (.ishr, 1) := by decide +kernel
theorem d_Model_isSigned_217 : decode b_Model_isSigned 217 = .ok (.iload 6, 2) := by decide +kernel
theorem d_Model_isSigned_219 : decode b_Model_isSigned 219 = .ok (.if_icmp .ge 27, 3) := by decide +kernel
theorem d_Model_isSigned_222 : decode b_Model_isSigned 222 = .ok (.aload_n 0, 1) := by decide +kernel
theorem d_Model_isSigned_223 : decode b_Model_isSigned 223 = .ok (.getfield 124, 3) := by decide +kernel
theorem d_Model_isSigned_226 : decode b_Model_isSigned 226 = .ok (.iload 10, 2) := by decide +kernel
theorem d_Model_isSigned_228 : decode b_Model_isSigned 228 = .ok (.iconst 1, 1) := by decide +kernel
theorem d_Model_isSigned_229 : decode b_Model_isSigned 229 = .ok (.ishr, 1) := by decide +kernel
theorem d_Model_isSigned_230 : decode b_Model_isSigned 230 = .ok (.iaload, 1) := by decide +kernel
theorem d_Model_isSigned_231 : decode b_Model_isSigned 231 = .ok (.bipush 8, 2) := by decide +kernel
theorem d_Model_isSigned_233 : decode b_Model_isSigned 233 = .ok (.iload 10, 2) := by decide +kernel
theorem d_Model_isSigned_235 : decode b_Model_isSigned 235 = .ok (.iconst 1, 1) := by decide +kernel
theorem d_Model_isSigned_236 : decode b_Model_isSigned 236 = .ok (.iand, 1) := by decide +kernel
theorem d_Model_isSigned_237 : decode b_Model_isSigned 237 = .ok (.imul, 1) := by decide +kernel
theorem d_Model_isSigned_238 : decode b_Model_isSigned 238 = .ok (.ishr, 1) := by decide +kernel
theorem d_Model_isSigned_239 : decode b_Model_isSigned 239 = .ok (.sipush 255, 3) := by decide +kernel
theorem d_Model_isSigned_242 : decode b_Model_isSigned 242 = .ok (.iand, 1) := by decide +kernel
theorem d_Model_isSigned_243 : decode b_Model_isSigned 243 = .ok (.goto 4, 3) := by decide +kernel
theorem d_Model_isSigned_246 : decode b_Model_isSigned 246 = .ok (.iconst 0, 1) := by decide +kernel
theorem d_Model_isSigned_247 : decode b_Model_isSigned 247 = .ok (.istore 11, 2) := by decide +kernel
theorem d_Model_isSigned_249 : decode b_Model_isSigned 249 = .ok (.iload 9, 2) := by decide +kernel
theorem d_Model_isSigned_251 : decode b_Model_isSigned 251 = .ok (.ifCond .ne 9, 3) := by decide +kernel
theorem d_Model_isSigned_254 : decode b_Model_isSigned 254 = .ok (.iconst 0, 1) := by decide +kernel
theorem d_Model_isSigned_255 : decode b_Model_isSigned 255 = .ok (.istore 12, 2) := by decide +kernel
theorem d_Model_isSigned_257 : decode b_Model_isSigned 257 = .ok (.goto 139, 3) := by decide +kernel
theorem d_Model_isSigned_260 : decode b_Model_isSigned 260 = .ok (.iload 9, 2) := by decide +kernel
theorem d_Model_isSigned_262 : decode b_Model_isSigned 262 = .ok (.iconst 1, 1) := by decide +kernel
theorem d_Model_isSigned_263 : decode b_Model_isSigned 263 = .ok (.if_icmp .ne 9, 3) := by decide +kernel
theorem d_Model_isSigned_266 : decode b_Model_isSigned 266 = .ok (.iconst 1, 1) := by decide +kernel
theorem d_Model_isSigned_267 : decode b_Model_isSigned 267 = .ok (.istore 12, 2) := by decide +kernel
theorem d_Model_isSigned_269 : decode b_Model_isSigned 269 = .ok (.goto 127, 3) := by decide +kernel
theorem d_Model_isSigned_272 : decode b_Model_isSigned 272 = .ok (.iload 9, 2) := by decide +kernel
theorem d_Model_isSigned_274 : decode b_Model_isSigned 274 = .ok (.iconst 2, 1) := by decide +kernel
theorem d_Model_isSigned_275 : decode b_Model_isSigned 275 = .ok (.iload 8, 2) := by decide +kernel
theorem d_Model_isSigned_277 : decode b_Model_isSigned 277 = .ok (.iadd, 1) := by decide +kernel
theorem d_Model_isSigned_278 : decode b_Model_isSigned 278 = .ok (.if_icmp .ge 11, 3) := by decide +kernel
theorem d_Model_isSigned_281 : decode b_Model_isSigned 281 = .ok (.sipush 255, 3) := by decide +kernel
theorem d_Model_isSigned_284 : decode b_Model_isSigned 284 = .ok (.istore 12, 2) := by decide +kernel
theorem d_Model_isSigned_286 : decode b_Model_isSigned 286 = .ok (.goto 110, 3) := by decide +kernel
theorem d_Model_isSigned_289 : decode b_Model_isSigned 289 = .ok (.iload 9, 2) := by decide +kernel
theorem d_Model_isSigned_291 : decode b_Model_isSigned 291 = .ok (.iconst 2, 1) := by decide +kernel
theorem d_Model_isSigned_292 : decode b_Model_isSigned 292 = .ok (.iload 8, 2) := by decide +kernel
theorem d_Model_isSigned_294 : decode b_Model_isSigned 294 = .ok (.iadd, 1) := by decide +kernel
theorem d_Model_isSigned_295 : decode b_Model_isSigned 295 = .ok (.if_icmp .ne 9, 3) := by decide +kernel
theorem d_Model_isSigned_298 : decode b_Model_isSigned 298 = .ok (.iconst 0, 1) := by decide +kernel
theorem d_Model_isSigned_299 : decode b_Model_isSigned 299 = .ok (.istore 12, 2) := by decide +kernel
theorem d_Model_isSigned_301 : decode b_Model_isSigned 301 = .ok (.goto 95, 3) := by decide +kernel
theorem d_Model_isSigned_304 : decode b_Model_isSigned 304 = .ok (.iload 9, 2) := by decide +kernel
theorem d_Model_isSigned_306 : decode b_Model_isSigned 306 = .ok (.iconst 3, 1) := by decide +kernel
theorem d_Model_isSigned_307 : decode b_Model_isSigned 307 = .ok (.iload 8, 2) := by decide +kernel
theorem d_Model_isSigned_309 : decode b_Model_isSigned 309 = .ok (.iadd, 1) := by decide +kernel
theorem d_Model_isSigned_310 : decode b_Model_isSigned 310 = .ok (.bipush 19, 2) := by decide +kernel
theorem d_Model_isSigned_312 : decode b_Model_isSigned 312 = .ok (.iadd, 1) := by decide +kernel
theorem d_Model_isSigned_313 : decode b_Model_isSigned 313 = .ok (.if_icmp .ge 47, 3) := by decide +kernel
theorem d_Model_isSigned_316 : decode b_Model_isSigned 316 = .ok (.iload 9, 2) := by decide +kernel
theorem d_Model_isSigned_318 : decode b_Model_isSigned 318 = .ok (.iconst 3, 1) := by decide +kernel
theorem d_Model_isSigned_319 : decode b_Model_isSigned 319 = .ok (.isub, 1) := by decide +kernel
theorem d_Model_isSigned_320 : decode b_Model_isSigned 320 = .ok (.iload 8, 2) := by decide +kernel
theorem d_Model_isSigned_322 : decode b_Model_isSigned 322 = .ok (.isub, 1) := by decide +kernel
theorem d_Model_isSigned_323 : decode b_Model_isSigned 323 = .ok (.istore 13, 2) := by decide +kernel
theorem d_Model_isSigned_325 : decode b_Model_isSigned 325 = .ok (.bipush 16, 2) := by decide +kernel
theorem d_Model_isSigned_327 : decode b_Model_isSigned 327 = .ok (.aload 7, 2) := by decide +kernel
theorem d_Model_isSigned_329 : decode b_Model_isSigned 329 = .ok (.iconst 2, 1) := by decide +kernel
theorem d_Model_isSigned_330 : decode b_Model_isSigned 330 = .ok (.iload 13, 2) := by decide +kernel
theorem d_Model_isSigned_332 : decode b_Model_isSigned 332 = .ok (.imul, 1) := by decide +kernel
theorem d_Model_isSigned_333 : decode b_Model_isSigned 333 = .ok (.invokevirtual 169, 3) := by decide +kernel
theorem d_Model_isSigned_336 : decode b_Model_isSigned 336 = .ok (.invokestatic 298, 3) := by decide +kernel
theorem d_Model_isSigned_339 : decode b_Model_isSigned 339 = .ok (.imul, 1) := by decide +kernel
theorem d_Model_isSigned_340 : decode b_Model_isSigned 340 = .ok (.aload 7, 2) := by decide +kernel
theorem d_Model_isSigned_342 : decode b_Model_isSigned 342 = .ok (.iconst 2, 1) := by decide +kernel
theorem d_Model_isSigned_343 : decode b_Model_isSigned 343 = .ok (.iload 13, 2) := by decide +kernel
theorem d_Model_isSigned_345 : decode b_Model_isSigned 345 = .ok (.imul, 1) := by decide +kernel
theorem d_Model_isSigned_346 : decode b_Model_isSigned 346 = .ok (.iconst 1, 1) := by decide +kernel
theorem d_Model_isSigned_347 : decode b_Model_isSigned 347 = .ok (.iadd, 1) := by decide +kernel
theorem d_Model_isSigned_348 : decode b_Model_isSigned 348 = .ok (.invokevirtual 169, 3) := by decide +kernel
theorem d_Model_isSigned_351 : decode b_Model_isSigned 351 = .ok (.invokestatic 298, 3) := by decide +kernel
theorem d_Model_isSigned_354 : decode b_Model_isSigned 354 = .ok (.iadd, 1) := by decide +kernel
theorem d_Model_isSigned_355 : decode b_Model_isSigned 355 = .ok (.istore 12, 2) := by decide +kernel
theorem d_Model_isSigned_357 : decode b_Model_isSigned 357 = .ok (.goto 39, 3) := by decide +kernel
theorem d_Model_isSigned_360 : decode b_Model_isSigned 360 = .ok (.iload 9, 2) := by decide +kernel
theorem d_Model_isSigned_362 : decode b_Model_isSigned 362 = .ok (.bipush 22, 2) := by decide +kernel
theorem d_Model_isSigned_364 : decode b_Model_isSigned 364 = .ok (.isub, 1) := by decide +kernel
theorem d_Model_isSigned_365 : decode b_Model_isSigned 365 = .ok (.iload 8, 2) := by decide +kernel
theorem d_Model_isSigned_367 : decode b_Model_isSigned 367 = .ok (.isub, 1) := by decide +kernel
theorem d_Model_isSigned_368 : decode b_Model_isSigned 368 = .ok (.istore 13, 2) := by decide +kernel
theorem d_Model_isSigned_370 : decode b_Model_isSigned 370 = .ok (.aload_n 0, 1) := by decide +kernel
theorem d_Model_isSigned_371 : decode b_Model_isSigned 371 = .ok (.getfield 40, 3) := by decide +kernel
theorem d_Model_isSigned_374 : decode b_Model_isSigned 374 = .ok (.iload 13, 2) := by decide +kernel
theorem d_Model_isSigned_376 : decode b_Model_isSigned 376 = .ok (.iconst 2, 1) := by decide +kernel
theorem d_Model_isSigned_377 : decode b_Model_isSigned 377 = .ok (.ishr, 1) := by decide +kernel
theorem d_Model_isSigned_378 : decode b_Model_isSigned 378 = .ok (.iaload, 1) := by decide +kernel
theorem d_Model_isSigned_379 : decode b_Model_isSigned 379 = .ok (.bipush 24, 2) := by decide +kernel
theorem d_Model_isSigned_381 : decode b_Model_isSigned 381 = .ok (.bipush 8, 2) := by decide +kernel
theorem d_Model_isSigned_383 : decode b_Model_isSigned 383 = .ok (.iload 13, 2) := by decide +kernel
theorem d_Model_isSigned_385 : decode b_Model_isSigned 385 = .ok (.iconst 3, 1) := by decide +kernel
theorem d_Model_isSigned_386 : decode b_Model_isSigned 386 = .ok (.iand, 1) := by decide +kernel
theorem d_Model_isSigned_387 : decode b_Model_isSigned 387 = .ok (.imul, 1) := by decide +kernel
theorem d_Model_isSigned_388 : decode b_Model_isSigned 388 = .ok (.isub, 1) := by decide +kernel
theorem d_Model_isSigned_389 : decode b_Model_isSigned 389 = .ok (.ishr, 1) := by decide +kernel
theorem d_Model_isSigned_390 : decode b_Model_isSigned 390 = .ok (.sipush 255, 3) := by decide +kernel
theorem d_Model_isSigned_393 : decode b_Model_isSigned 393 = .ok (.iand, 1) := by decide +kernel
theorem d_Model_isSigned_394 : decode b_Model_isSigned 394 = .ok (.istore 12, 2) := by decide +kernel
theorem d_Model_isSigned_396 : decode b_Model_isSigned 396 = .ok (.iload 11, 2) := by decide +kernel
theorem d_Model_isSigned_398 : decode b_Model_isSigned 398 = .ok (.iload 12, 2) := by decide +kernel
theorem d_Model_isSigned_400 : decode b_Model_isSigned 400 = .ok (.if_icmp .eq 5, 3) := by decide +kernel
theorem d_Model_isSigned_403 : decode b_Model_isSigned 403 = .ok (.iconst 0, 1) := by decide +kernel
theorem d_Model_isSigned_404 : decode b_Model_isSigned 404 = .ok (.ireturn, 1) := by decide +kernel
theorem d_Model_isSigned_405 : decode b_Model_isSigned 405 = .ok (.iinc 9 1, 3) := by decide +kernel
theorem d_Model_isSigned_408 : decode b_Model_isSigned 408 = .ok (.goto (-209), 3) := by decide +kernel
theorem d_Model_isSigned_411 : decode b_Model_isSigned 411 = .ok (.iconst 1, 1) := by decide +kernel
theorem d_Model_isSigned_412 : decode b_Model_isSigned 412 = .ok (.ireturn, 1) := by decide +kernel
