/-! Rsa: lemmas. -/
theorem vp_in_of2 {x : Int32} {n : Nat} (h1 : ¬ x < 0) (h2 : x < nI n) (hn : n < 2 ^ 31) : vp_in x n := by
  obtain ⟨j, hj, rfl⟩ := nI_of h1
  rw [nI_ltI hj hn] at h2
  exact vp_in_nI h2 hn
def y_Arrays_fill : MethodName := ⟨"java/util/Arrays", "fill", "([JJ)V"⟩
abbrev b_Arrays_fill : ByteArray := prog_33_method_101_code
def w_Arrays_fill : List Cond := Cond.code y_Arrays_fill b_Arrays_fill 5 (none) :: tb
theorem d_Arrays_fill_0 : decode b_Arrays_fill 0 = .ok (.iconst 0, 1) := by decide +kernel
theorem d_Arrays_fill_1 : decode b_Arrays_fill 1 = .ok (.istore_n 3, 1) := by decide +kernel
theorem d_Arrays_fill_2 : decode b_Arrays_fill 2 = .ok (.aload_n 0, 1) := by decide +kernel
theorem d_Arrays_fill_3 : decode b_Arrays_fill 3 = .ok (.arraylength, 1) := by decide +kernel
theorem d_Arrays_fill_4 : decode b_Arrays_fill 4 = .ok (.istore 4, 2) := by decide +kernel
theorem d_Arrays_fill_6 : decode b_Arrays_fill 6 = .ok (.iload_n 3, 1) := by decide +kernel
theorem d_Arrays_fill_7 : decode b_Arrays_fill 7 = .ok (.iload 4, 2) := by decide +kernel
theorem d_Arrays_fill_9 : decode b_Arrays_fill 9 = .ok (.if_icmp .ge 13, 3) := by decide +kernel
theorem d_Arrays_fill_12 : decode b_Arrays_fill 12 = .ok (.aload_n 0, 1) := by decide +kernel
theorem d_Arrays_fill_13 : decode b_Arrays_fill 13 = .ok (.iload_n 3, 1) := by decide +kernel
theorem d_Arrays_fill_14 : decode b_Arrays_fill 14 = .ok (.lload_n 1, 1) := by decide +kernel
theorem d_Arrays_fill_15 : decode b_Arrays_fill 15 = .ok (.lastore, 1) := by decide +kernel
theorem d_Arrays_fill_16 : decode b_Arrays_fill 16 = .ok (.iinc 3 1, 3) := by decide +kernel
theorem d_Arrays_fill_19 : decode b_Arrays_fill 19 = .ok (.goto (-13), 3) := by decide +kernel
theorem d_Arrays_fill_22 : decode b_Arrays_fill 22 = .ok (.return_, 1) := by decide +kernel
def y_Rsa_settle : MethodName := ⟨"TrustChain$Rsa", "settle", "([J)V"⟩
abbrev b_Rsa_settle : ByteArray := prog_9_method_8_code
def w_Rsa_settle : List Cond := Cond.code y_Rsa_settle b_Rsa_settle 9 (none) :: tb
theorem d_Rsa_settle_0 : decode b_Rsa_settle 0 = .ok (.aload_n 0, 1) := by decide +kernel
theorem d_Rsa_settle_1 : decode b_Rsa_settle 1 = .ok (.getfield 30, 3) := by decide +kernel
theorem d_Rsa_settle_4 : decode b_Rsa_settle 4 = .ok (.iconst 1, 1) := by decide +kernel
theorem d_Rsa_settle_5 : decode b_Rsa_settle 5 = .ok (.isub, 1) := by decide +kernel
theorem d_Rsa_settle_6 : decode b_Rsa_settle 6 = .ok (.istore_n 2, 1) := by decide +kernel
theorem d_Rsa_settle_7 : decode b_Rsa_settle 7 = .ok (.iload_n 2, 1) := by decide +kernel
theorem d_Rsa_settle_8 : decode b_Rsa_settle 8 = .ok (.ifCond .le 25, 3) := by decide +kernel
theorem d_Rsa_settle_11 : decode b_Rsa_settle 11 = .ok (.aload_n 0, 1) := by decide +kernel
theorem d_Rsa_settle_12 : decode b_Rsa_settle 12 = .ok (.getfield 27, 3) := by decide +kernel
theorem d_Rsa_settle_15 : decode b_Rsa_settle 15 = .ok (.iload_n 2, 1) := by decide +kernel
theorem d_Rsa_settle_16 : decode b_Rsa_settle 16 = .ok (.laload, 1) := by decide +kernel
theorem d_Rsa_settle_17 : decode b_Rsa_settle 17 = .ok (.aload_n 0, 1) := by decide +kernel
theorem d_Rsa_settle_18 : decode b_Rsa_settle 18 = .ok (.getfield 11, 3) := by decide +kernel
theorem d_Rsa_settle_21 : decode b_Rsa_settle 21 = .ok (.iload_n 2, 1) := by decide +kernel
theorem d_Rsa_settle_22 : decode b_Rsa_settle 22 = .ok (.laload, 1) := by decide +kernel
theorem d_Rsa_settle_23 : decode b_Rsa_settle 23 = .ok (.lcmp, 1) := by decide +kernel
theorem d_Rsa_settle_24 : decode b_Rsa_settle 24 = .ok (.ifCond .ne 9, 3) := by decide +kernel
theorem d_Rsa_settle_27 : decode b_Rsa_settle 27 = .ok (.iinc 2 (-1), 3) := by decide +kernel
theorem d_Rsa_settle_30 : decode b_Rsa_settle 30 = .ok (.goto (-23), 3) := by decide +kernel
theorem d_Rsa_settle_33 : decode b_Rsa_settle 33 = .ok (.aload_n 0, 1) := by decide +kernel
theorem d_Rsa_settle_34 : decode b_Rsa_settle 34 = .ok (.getfield 27, 3) := by decide +kernel
theorem d_Rsa_settle_37 : decode b_Rsa_settle 37 = .ok (.aload_n 0, 1) := by decide +kernel
theorem d_Rsa_settle_38 : decode b_Rsa_settle 38 = .ok (.getfield 30, 3) := by decide +kernel
theorem d_Rsa_settle_41 : decode b_Rsa_settle 41 = .ok (.laload, 1) := by decide +kernel
theorem d_Rsa_settle_42 : decode b_Rsa_settle 42 = .ok (.lconst 0, 1) := by decide +kernel
theorem d_Rsa_settle_43 : decode b_Rsa_settle 43 = .ok (.lcmp, 1) := by decide +kernel
theorem d_Rsa_settle_44 : decode b_Rsa_settle 44 = .ok (.ifCond .ne 19, 3) := by decide +kernel
theorem d_Rsa_settle_47 : decode b_Rsa_settle 47 = .ok (.aload_n 0, 1) := by decide +kernel
theorem d_Rsa_settle_48 : decode b_Rsa_settle 48 = .ok (.getfield 27, 3) := by decide +kernel
theorem d_Rsa_settle_51 : decode b_Rsa_settle 51 = .ok (.iload_n 2, 1) := by decide +kernel
theorem d_Rsa_settle_52 : decode b_Rsa_settle 52 = .ok (.laload, 1) := by decide +kernel
theorem d_Rsa_settle_53 : decode b_Rsa_settle 53 = .ok (.aload_n 0, 1) := by decide +kernel
theorem d_Rsa_settle_54 : decode b_Rsa_settle 54 = .ok (.getfield 11, 3) := by decide +kernel
theorem d_Rsa_settle_57 : decode b_Rsa_settle 57 = .ok (.iload_n 2, 1) := by decide +kernel
theorem d_Rsa_settle_58 : decode b_Rsa_settle 58 = .ok (.laload, 1) := by decide +kernel
theorem d_Rsa_settle_59 : decode b_Rsa_settle 59 = .ok (.lcmp, 1) := by decide +kernel
theorem d_Rsa_settle_60 : decode b_Rsa_settle 60 = .ok (.ifCond .lt 7, 3) := by decide +kernel
theorem d_Rsa_settle_63 : decode b_Rsa_settle 63 = .ok (.iconst 1, 1) := by decide +kernel
theorem d_Rsa_settle_64 : decode b_Rsa_settle 64 = .ok (.goto 4, 3) := by decide +kernel
theorem d_Rsa_settle_67 : decode b_Rsa_settle 67 = .ok (.iconst 0, 1) := by decide +kernel
theorem d_Rsa_settle_68 : decode b_Rsa_settle 68 = .ok (.istore_n 3, 1) := by decide +kernel
theorem d_Rsa_settle_69 : decode b_Rsa_settle 69 = .ok (.lconst 0, 1) := by decide +kernel
theorem d_Rsa_settle_70 : decode b_Rsa_settle 70 = .ok (.lstore 4, 2) := by decide +kernel
theorem d_Rsa_settle_72 : decode b_Rsa_settle 72 = .ok (.iconst 0, 1) := by decide +kernel
theorem d_Rsa_settle_73 : decode b_Rsa_settle 73 = .ok (.istore 6, 2) := by decide +kernel
theorem d_Rsa_settle_75 : decode b_Rsa_settle 75 = .ok (.iload 6, 2) := by decide +kernel
theorem d_Rsa_settle_77 : decode b_Rsa_settle 77 = .ok (.aload_n 0, 1) := by decide +kernel
theorem d_Rsa_settle_78 : decode b_Rsa_settle 78 = .ok (.getfield 30, 3) := by decide +kernel
theorem d_Rsa_settle_81 : decode b_Rsa_settle 81 = .ok (.if_icmp .ge 61, 3) := by decide +kernel
theorem d_Rsa_settle_84 : decode b_Rsa_settle 84 = .ok (.aload_n 0, 1) := by decide +kernel
theorem d_Rsa_settle_85 : decode b_Rsa_settle 85 = .ok (.getfield 27, 3) := by decide +kernel
theorem d_Rsa_settle_88 : decode b_Rsa_settle 88 = .ok (.iload 6, 2) := by decide +kernel
theorem d_Rsa_settle_90 : decode b_Rsa_settle 90 = .ok (.laload, 1) := by decide +kernel
theorem d_Rsa_settle_91 : decode b_Rsa_settle 91 = .ok (.iload_n 3, 1) := by decide +kernel
theorem d_Rsa_settle_92 : decode b_Rsa_settle 92 = .ok (.ifCond .eq 13, 3) := by decide +kernel
theorem d_Rsa_settle_95 : decode b_Rsa_settle 95 = .ok (.aload_n 0, 1) := by decide +kernel
theorem d_Rsa_settle_96 : decode b_Rsa_settle 96 = .ok (.getfield 11, 3) := by decide +kernel
theorem d_Rsa_settle_99 : decode b_Rsa_settle 99 = .ok (.iload 6, 2) := by decide +kernel
theorem d_Rsa_settle_101 : decode b_Rsa_settle 101 = .ok (.laload, 1) := by decide +kernel
theorem d_Rsa_settle_102 : decode b_Rsa_settle 102 = .ok (.goto 4, 3) := by decide +kernel
theorem d_Rsa_settle_105 : decode b_Rsa_settle 105 = .ok (.lconst 0, 1) := by decide +kernel
theorem d_Rsa_settle_106 : decode b_Rsa_settle 106 = .ok (.lsub, 1) := by decide +kernel
theorem d_Rsa_settle_107 : decode b_Rsa_settle 107 = .ok (.lload 4, 2) := by decide +kernel
theorem d_Rsa_settle_109 : decode b_Rsa_settle 109 = .ok (.lsub, 1) := by decide +kernel
theorem d_Rsa_settle_110 : decode b_Rsa_settle 110 = .ok (.lstore 7, 2) := by decide +kernel
theorem d_Rsa_settle_112 : decode b_Rsa_settle 112 = .ok (.aload_n 1, 1) := by decide +kernel
theorem d_Rsa_settle_113 : decode b_Rsa_settle 113 = .ok (.iload 6, 2) := by decide +kernel
theorem d_Rsa_settle_115 : decode b_Rsa_settle 115 = .ok (.lload 7, 2) := by decide +kernel
theorem d_Rsa_settle_117 : decode b_Rsa_settle 117 = .ok (.ldc2_w 112, 3) := by decide +kernel
theorem d_Rsa_settle_120 : decode b_Rsa_settle 120 = .ok (.land, 1) := by decide +kernel
theorem d_Rsa_settle_121 : decode b_Rsa_settle 121 = .ok (.lastore, 1) := by decide +kernel
theorem d_Rsa_settle_122 : decode b_Rsa_settle 122 = .ok (.lload 7, 2) := by decide +kernel
theorem d_Rsa_settle_124 : decode b_Rsa_settle 124 = .ok (.lconst 0, 1) := by decide +kernel
theorem d_Rsa_settle_125 : decode b_Rsa_settle 125 = .ok (.lcmp, 1) := by decide +kernel
theorem d_Rsa_settle_126 : decode b_Rsa_settle 126 = .ok (.ifCond .ge 7, 3) := by decide +kernel
theorem d_Rsa_settle_129 : decode b_Rsa_settle 129 = .ok (.lconst 1, 1) := by decide +kernel
theorem d_Rsa_settle_130 : decode b_Rsa_settle 130 = .ok (.goto 4, 3) := by decide +kernel
theorem d_Rsa_settle_133 : decode b_Rsa_settle 133 = .ok (.lconst 0, 1) := by decide +kernel
theorem d_Rsa_settle_134 : decode b_Rsa_settle 134 = .ok (.lstore 4, 2) := by decide +kernel
theorem d_Rsa_settle_136 : decode b_Rsa_settle 136 = .ok (.iinc 6 1, 3) := by decide +kernel
theorem d_Rsa_settle_139 : decode b_Rsa_settle 139 = .ok (.goto (-64), 3) := by decide +kernel
theorem d_Rsa_settle_142 : decode b_Rsa_settle 142 = .ok (.return_, 1) := by decide +kernel
def y_Rsa_multiply : MethodName := ⟨"TrustChain$Rsa", "multiply", "([J[J[J)V"⟩
abbrev b_Rsa_multiply : ByteArray := prog_9_method_7_code
def w_Rsa_multiply : List Cond := Cond.code y_Rsa_multiply b_Rsa_multiply 14 (none) :: tb
theorem d_Rsa_multiply_0 : decode b_Rsa_multiply 0 = .ok (.aload_n 0, 1) := by decide +kernel
theorem d_Rsa_multiply_1 : decode b_Rsa_multiply 1 = .ok (.getfield 27, 3) := by decide +kernel
theorem d_Rsa_multiply_4 : decode b_Rsa_multiply 4 = .ok (.lconst 0, 1) := by decide +kernel
theorem d_Rsa_multiply_5 : decode b_Rsa_multiply 5 = .ok (.invokestatic 100, 3) := by decide +kernel
theorem d_Rsa_multiply_8 : decode b_Rsa_multiply 8 = .ok (.iconst 0, 1) := by decide +kernel
theorem d_Rsa_multiply_9 : decode b_Rsa_multiply 9 = .ok (.istore 4, 2) := by decide +kernel
theorem d_Rsa_multiply_11 : decode b_Rsa_multiply 11 = .ok (.iload 4, 2) := by decide +kernel
theorem d_Rsa_multiply_13 : decode b_Rsa_multiply 13 = .ok (.aload_n 0, 1) := by decide +kernel
theorem d_Rsa_multiply_14 : decode b_Rsa_multiply 14 = .ok (.getfield 30, 3) := by decide +kernel
theorem d_Rsa_multiply_17 : decode b_Rsa_multiply 17 = .ok (.if_icmp .ge 225, 3) := by decide +kernel
theorem d_Rsa_multiply_20 : decode b_Rsa_multiply 20 = .ok (.lconst 0, 1) := by decide +kernel
theorem d_Rsa_multiply_21 : decode b_Rsa_multiply 21 = .ok (.lstore 5, 2) := by decide +kernel
theorem d_Rsa_multiply_23 : decode b_Rsa_multiply 23 = .ok (.iconst 0, 1) := by decide +kernel
theorem d_Rsa_multiply_24 : decode b_Rsa_multiply 24 = .ok (.istore 7, 2) := by decide +kernel
theorem d_Rsa_multiply_26 : decode b_Rsa_multiply 26 = .ok (.iload 7, 2) := by decide +kernel
theorem d_Rsa_multiply_28 : decode b_Rsa_multiply 28 = .ok (.aload_n 0, 1) := by decide +kernel
theorem d_Rsa_multiply_29 : decode b_Rsa_multiply 29 = .ok (.getfield 30, 3) := by decide +kernel
theorem d_Rsa_multiply_32 : decode b_Rsa_multiply 32 = .ok (.if_icmp .ge 51, 3) := by decide +kernel
theorem d_Rsa_multiply_35 : decode b_Rsa_multiply 35 = .ok (.aload_n 0, 1) := by decide +kernel
theorem d_Rsa_multiply_36 : decode b_Rsa_multiply 36 = .ok (.getfield 27, 3) := by decide +kernel
theorem d_Rsa_multiply_39 : decode b_Rsa_multiply 39 = .ok (.iload 7, 2) := by decide +kernel
theorem d_Rsa_multiply_41 : decode b_Rsa_multiply 41 = .ok (.laload, 1) := by decide +kernel
theorem d_Rsa_multiply_42 : decode b_Rsa_multiply 42 = .ok (.aload_n 1, 1) := by decide +kernel
theorem d_Rsa_multiply_43 : decode b_Rsa_multiply 43 = .ok (.iload 7, 2) := by decide +kernel
theorem d_Rsa_multiply_45 : decode b_Rsa_multiply 45 = .ok (.laload, 1) := by decide +kernel
theorem d_Rsa_multiply_46 : decode b_Rsa_multiply 46 = .ok (.aload_n 2, 1) := by decide +kernel
theorem d_Rsa_multiply_47 : decode b_Rsa_multiply 47 = .ok (.iload 4, 2) := by decide +kernel
theorem d_Rsa_multiply_49 : decode b_Rsa_multiply 49 = .ok (.laload, 1) := by decide +kernel
theorem d_Rsa_multiply_50 : decode b_Rsa_multiply 50 = .ok (.lmul, 1) := by decide +kernel
theorem d_Rsa_multiply_51 : decode b_Rsa_multiply 51 = .ok (.ladd, 1) := by decide +kernel
theorem d_Rsa_multiply_52 : decode b_Rsa_multiply 52 = .ok (.lload 5, 2) := by decide +kernel
theorem d_Rsa_multiply_54 : decode b_Rsa_multiply 54 = .ok (.ladd, 1) := by decide +kernel
theorem d_Rsa_multiply_55 : decode b_Rsa_multiply 55 = .ok (.lstore 8, 2) := by decide +kernel
theorem d_Rsa_multiply_57 : decode b_Rsa_multiply 57 = .ok (.aload_n 0, 1) := by decide +kernel
theorem d_Rsa_multiply_58 : decode b_Rsa_multiply 58 = .ok (.getfield 27, 3) := by decide +kernel
theorem d_Rsa_multiply_61 : decode b_Rsa_multiply 61 = .ok (.iload 7, 2) := by decide +kernel
theorem d_Rsa_multiply_63 : decode b_Rsa_multiply 63 = .ok (.lload 8, 2) := by decide +kernel
theorem d_Rsa_multiply_65 : decode b_Rsa_multiply 65 = .ok (.ldc2_w 112, 3) := by decide +kernel
theorem d_Rsa_multiply_68 : decode b_Rsa_multiply 68 = .ok (.land, 1) := by decide +kernel
theorem d_Rsa_multiply_69 : decode b_Rsa_multiply 69 = .ok (.lastore, 1) := by decide +kernel
theorem d_Rsa_multiply_70 : decode b_Rsa_multiply 70 = .ok (.lload 8, 2) := by decide +kernel
theorem d_Rsa_multiply_72 : decode b_Rsa_multiply 72 = .ok (.bipush 32, 2) := by decide +kernel
theorem d_Rsa_multiply_74 : decode b_Rsa_multiply 74 = .ok (.lushr, 1) := by decide +kernel
theorem d_Rsa_multiply_75 : decode b_Rsa_multiply 75 = .ok (.lstore 5, 2) := by decide +kernel
theorem d_Rsa_multiply_77 : decode b_Rsa_multiply 77 = .ok (.iinc 7 1, 3) := by decide +kernel
theorem d_Rsa_multiply_80 : decode b_Rsa_multiply 80 = .ok (.goto (-54), 3) := by decide +kernel
theorem d_Rsa_multiply_83 : decode b_Rsa_multiply 83 = .ok (.aload_n 0, 1) := by decide +kernel
theorem d_Rsa_multiply_84 : decode b_Rsa_multiply 84 = .ok (.getfield 27, 3) := by decide +kernel
theorem d_Rsa_multiply_87 : decode b_Rsa_multiply 87 = .ok (.aload_n 0, 1) := by decide +kernel
theorem d_Rsa_multiply_88 : decode b_Rsa_multiply 88 = .ok (.getfield 30, 3) := by decide +kernel
theorem d_Rsa_multiply_91 : decode b_Rsa_multiply 91 = .ok (.laload, 1) := by decide +kernel
theorem d_Rsa_multiply_92 : decode b_Rsa_multiply 92 = .ok (.lload 5, 2) := by decide +kernel
theorem d_Rsa_multiply_94 : decode b_Rsa_multiply 94 = .ok (.ladd, 1) := by decide +kernel
theorem d_Rsa_multiply_95 : decode b_Rsa_multiply 95 = .ok (.lstore 7, 2) := by decide +kernel
theorem d_Rsa_multiply_97 : decode b_Rsa_multiply 97 = .ok (.aload_n 0, 1) := by decide +kernel
theorem d_Rsa_multiply_98 : decode b_Rsa_multiply 98 = .ok (.getfield 27, 3) := by decide +kernel
theorem d_Rsa_multiply_101 : decode b_Rsa_multiply 101 = .ok (.iconst 0, 1) := by decide +kernel
theorem d_Rsa_multiply_102 : decode b_Rsa_multiply 102 = .ok (.laload, 1) := by decide +kernel
theorem d_Rsa_multiply_103 : decode b_Rsa_multiply 103 = .ok (.aload_n 0, 1) := by decide +kernel
theorem d_Rsa_multiply_104 : decode b_Rsa_multiply 104 = .ok (.getfield 34, 3) := by decide +kernel
theorem d_Rsa_multiply_107 : decode b_Rsa_multiply 107 = .ok (.lmul, 1) := by decide +kernel
theorem d_Rsa_multiply_108 : decode b_Rsa_multiply 108 = .ok (.ldc2_w 112, 3) := by decide +kernel
theorem d_Rsa_multiply_111 : decode b_Rsa_multiply 111 = .ok (.land, 1) := by decide +kernel
theorem d_Rsa_multiply_112 : decode b_Rsa_multiply 112 = .ok (.lstore 9, 2) := by decide +kernel
theorem d_Rsa_multiply_114 : decode b_Rsa_multiply 114 = .ok (.aload_n 0, 1) := by decide +kernel
theorem d_Rsa_multiply_115 : decode b_Rsa_multiply 115 = .ok (.getfield 27, 3) := by decide +kernel
theorem d_Rsa_multiply_118 : decode b_Rsa_multiply 118 = .ok (.iconst 0, 1) := by decide +kernel
theorem d_Rsa_multiply_119 : decode b_Rsa_multiply 119 = .ok (.laload, 1) := by decide +kernel
theorem d_Rsa_multiply_120 : decode b_Rsa_multiply 120 = .ok (.lload 9, 2) := by decide +kernel
theorem d_Rsa_multiply_122 : decode b_Rsa_multiply 122 = .ok (.aload_n 0, 1) := by decide +kernel
theorem d_Rsa_multiply_123 : decode b_Rsa_multiply 123 = .ok (.getfield 11, 3) := by decide +kernel
theorem d_Rsa_multiply_126 : decode b_Rsa_multiply 126 = .ok (.iconst 0, 1) := by decide +kernel
theorem d_Rsa_multiply_127 : decode b_Rsa_multiply 127 = .ok (.laload, 1) := by decide +kernel
theorem d_Rsa_multiply_128 : decode b_Rsa_multiply 128 = .ok (.lmul, 1) := by decide +kernel
theorem d_Rsa_multiply_129 : decode b_Rsa_multiply 129 = .ok (.ladd, 1) := by decide +kernel
theorem d_Rsa_multiply_130 : decode b_Rsa_multiply 130 = .ok (.bipush 32, 2) := by decide +kernel
theorem d_Rsa_multiply_132 : decode b_Rsa_multiply 132 = .ok (.lushr, 1) := by decide +kernel
theorem d_Rsa_multiply_133 : decode b_Rsa_multiply 133 = .ok (.lstore 5, 2) := by decide +kernel
theorem d_Rsa_multiply_135 : decode b_Rsa_multiply 135 = .ok (.iconst 1, 1) := by decide +kernel
theorem d_Rsa_multiply_136 : decode b_Rsa_multiply 136 = .ok (.istore 11, 2) := by decide +kernel
theorem d_Rsa_multiply_138 : decode b_Rsa_multiply 138 = .ok (.iload 11, 2) := by decide +kernel
theorem d_Rsa_multiply_140 : decode b_Rsa_multiply 140 = .ok (.aload_n 0, 1) := by decide +kernel
theorem d_Rsa_multiply_141 : decode b_Rsa_multiply 141 = .ok (.getfield 30, 3) := by decide +kernel
theorem d_Rsa_multiply_144 : decode b_Rsa_multiply 144 = .ok (.if_icmp .ge 54, 3) := by decide +kernel
theorem d_Rsa_multiply_147 : decode b_Rsa_multiply 147 = .ok (.aload_n 0, 1) := by decide +kernel
theorem d_Rsa_multiply_148 : decode b_Rsa_multiply 148 = .ok (.getfield 27, 3) := by decide +kernel
theorem d_Rsa_multiply_151 : decode b_Rsa_multiply 151 = .ok (.iload 11, 2) := by decide +kernel
theorem d_Rsa_multiply_153 : decode b_Rsa_multiply 153 = .ok (.laload, 1) := by decide +kernel
theorem d_Rsa_multiply_154 : decode b_Rsa_multiply 154 = .ok (.lload 9, 2) := by decide +kernel
theorem d_Rsa_multiply_156 : decode b_Rsa_multiply 156 = .ok (.aload_n 0, 1) := by decide +kernel
theorem d_Rsa_multiply_157 : decode b_Rsa_multiply 157 = .ok (.getfield 11, 3) := by decide +kernel
theorem d_Rsa_multiply_160 : decode b_Rsa_multiply 160 = .ok (.iload 11, 2) := by decide +kernel
theorem d_Rsa_multiply_162 : decode b_Rsa_multiply 162 = .ok (.laload, 1) := by decide +kernel
theorem d_Rsa_multiply_163 : decode b_Rsa_multiply 163 = .ok (.lmul, 1) := by decide +kernel
theorem d_Rsa_multiply_164 : decode b_Rsa_multiply 164 = .ok (.ladd, 1) := by decide +kernel
theorem d_Rsa_multiply_165 : decode b_Rsa_multiply 165 = .ok (.lload 5, 2) := by decide +kernel
theorem d_Rsa_multiply_167 : decode b_Rsa_multiply 167 = .ok (.ladd, 1) := by decide +kernel
theorem d_Rsa_multiply_168 : decode b_Rsa_multiply 168 = .ok (.lstore 12, 2) := by decide +kernel
theorem d_Rsa_multiply_170 : decode b_Rsa_multiply 170 = .ok (.aload_n 0, 1) := by decide +kernel
theorem d_Rsa_multiply_171 : decode b_Rsa_multiply 171 = .ok (.getfield 27, 3) := by decide +kernel
theorem d_Rsa_multiply_174 : decode b_Rsa_multiply 174 = .ok (.iload 11, 2) := by decide +kernel
theorem d_Rsa_multiply_176 : decode b_Rsa_multiply 176 = .ok (.iconst 1, 1) := by decide +kernel
theorem d_Rsa_multiply_177 : decode b_Rsa_multiply 177 = .ok (.isub, 1) := by decide +kernel
theorem d_Rsa_multiply_178 : decode b_Rsa_multiply 178 = .ok (.lload 12, 2) := by decide +kernel
theorem d_Rsa_multiply_180 : decode b_Rsa_multiply 180 = .ok (.ldc2_w 112, 3) := by decide +kernel
theorem d_Rsa_multiply_183 : decode b_Rsa_multiply 183 = .ok (.land, 1) := by decide +kernel
theorem d_Rsa_multiply_184 : decode b_Rsa_multiply 184 = .ok (.lastore, 1) := by decide +kernel
theorem d_Rsa_multiply_185 : decode b_Rsa_multiply 185 = .ok (.lload 12, 2) := by decide +kernel
theorem d_Rsa_multiply_187 : decode b_Rsa_multiply 187 = .ok (.bipush 32, 2) := by decide +kernel
theorem d_Rsa_multiply_189 : decode b_Rsa_multiply 189 = .ok (.lushr, 1) := by decide +kernel
theorem d_Rsa_multiply_190 : decode b_Rsa_multiply 190 = .ok (.lstore 5, 2) := by decide +kernel
theorem d_Rsa_multiply_192 : decode b_Rsa_multiply 192 = .ok (.iinc 11 1, 3) := by decide +kernel
theorem d_Rsa_multiply_195 : decode b_Rsa_multiply 195 = .ok (.goto (-57), 3) := by decide +kernel
theorem d_Rsa_multiply_198 : decode b_Rsa_multiply 198 = .ok (.lload 7, 2) := by decide +kernel
theorem d_Rsa_multiply_200 : decode b_Rsa_multiply 200 = .ok (.lload 5, 2) := by decide +kernel
theorem d_Rsa_multiply_202 : decode b_Rsa_multiply 202 = .ok (.ladd, 1) := by decide +kernel
theorem d_Rsa_multiply_203 : decode b_Rsa_multiply 203 = .ok (.lstore 7, 2) := by decide +kernel
theorem d_Rsa_multiply_205 : decode b_Rsa_multiply 205 = .ok (.aload_n 0, 1) := by decide +kernel
theorem d_Rsa_multiply_206 : decode b_Rsa_multiply 206 = .ok (.getfield 27, 3) := by decide +kernel
theorem d_Rsa_multiply_209 : decode b_Rsa_multiply 209 = .ok (.aload_n 0, 1) := by decide +kernel
theorem d_Rsa_multiply_210 : decode b_Rsa_multiply 210 = .ok (.getfield 30, 3) := by decide +kernel
theorem d_Rsa_multiply_213 : decode b_Rsa_multiply 213 = .ok (.iconst 1, 1) := by decide +kernel
theorem d_Rsa_multiply_214 : decode b_Rsa_multiply 214 = .ok (.isub, 1) := by decide +kernel
theorem d_Rsa_multiply_215 : decode b_Rsa_multiply 215 = .ok (.lload 7, 2) := by decide +kernel
theorem d_Rsa_multiply_217 : decode b_Rsa_multiply 217 = .ok (.ldc2_w 112, 3) := by decide +kernel
theorem d_Rsa_multiply_220 : decode b_Rsa_multiply 220 = .ok (.land, 1) := by decide +kernel
theorem d_Rsa_multiply_221 : decode b_Rsa_multiply 221 = .ok (.lastore, 1) := by decide +kernel
theorem d_Rsa_multiply_222 : decode b_Rsa_multiply 222 = .ok (.aload_n 0, 1) := by decide +kernel
theorem d_Rsa_multiply_223 : decode b_Rsa_multiply 223 = .ok (.getfield 27, 3) := by decide +kernel
theorem d_Rsa_multiply_226 : decode b_Rsa_multiply 226 = .ok (.aload_n 0, 1) := by decide +kernel
theorem d_Rsa_multiply_227 : decode b_Rsa_multiply 227 = .ok (.getfield 30, 3) := by decide +kernel
theorem d_Rsa_multiply_230 : decode b_Rsa_multiply 230 = .ok (.lload 7, 2) := by decide +kernel
theorem d_Rsa_multiply_232 : decode b_Rsa_multiply 232 = .ok (.bipush 32, 2) := by decide +kernel
theorem d_Rsa_multiply_234 : decode b_Rsa_multiply 234 = .ok (.lushr, 1) := by decide +kernel
theorem d_Rsa_multiply_235 : decode b_Rsa_multiply 235 = .ok (.lastore, 1) := by decide +kernel
theorem d_Rsa_multiply_236 : decode b_Rsa_multiply 236 = .ok (.iinc 4 1, 3) := by decide +kernel
theorem d_Rsa_multiply_239 : decode b_Rsa_multiply 239 = .ok (.goto (-228), 3) := by decide +kernel
theorem d_Rsa_multiply_242 : decode b_Rsa_multiply 242 = .ok (.aload_n 0, 1) := by decide +kernel
theorem d_Rsa_multiply_243 : decode b_Rsa_multiply 243 = .ok (.aload_n 3, 1) := by decide +kernel
theorem d_Rsa_multiply_244 : decode b_Rsa_multiply 244 = .ok (.invokevirtual 123, 3) := by decide +kernel
theorem d_Rsa_multiply_247 : decode b_Rsa_multiply 247 = .ok (.return_, 1) := by decide +kernel
def y_Rsa_prepare : MethodName := ⟨"TrustChain$Rsa", "prepare", "(I)V"⟩
abbrev b_Rsa_prepare : ByteArray := prog_9_method_6_code
def w_Rsa_prepare : List Cond := Cond.code y_Rsa_prepare b_Rsa_prepare 11 (none) :: tb
theorem d_Rsa_prepare_0 : decode b_Rsa_prepare 0 = .ok (.aload_n 0, 1) := by decide +kernel
theorem d_Rsa_prepare_1 : decode b_Rsa_prepare 1 = .ok (.getfield 11, 3) := by decide +kernel
theorem d_Rsa_prepare_4 : decode b_Rsa_prepare 4 = .ok (.iconst 0, 1) := by decide +kernel
theorem d_Rsa_prepare_5 : decode b_Rsa_prepare 5 = .ok (.laload, 1) := by decide +kernel
theorem d_Rsa_prepare_6 : decode b_Rsa_prepare 6 = .ok (.lstore_n 2, 1) := by decide +kernel
theorem d_Rsa_prepare_7 : decode b_Rsa_prepare 7 = .ok (.aload_n 0, 1) := by decide +kernel
theorem d_Rsa_prepare_8 : decode b_Rsa_prepare 8 = .ok (.lload_n 2, 1) := by decide +kernel
theorem d_Rsa_prepare_9 : decode b_Rsa_prepare 9 = .ok (.putfield 34, 3) := by decide +kernel
theorem d_Rsa_prepare_12 : decode b_Rsa_prepare 12 = .ok (.iconst 0, 1) := by decide +kernel
theorem d_Rsa_prepare_13 : decode b_Rsa_prepare 13 = .ok (.istore 4, 2) := by decide +kernel
theorem d_Rsa_prepare_15 : decode b_Rsa_prepare 15 = .ok (.iload 4, 2) := by decide +kernel
theorem d_Rsa_prepare_17 : decode b_Rsa_prepare 17 = .ok (.iconst 5, 1) := by decide +kernel
theorem d_Rsa_prepare_18 : decode b_Rsa_prepare 18 = .ok (.if_icmp .ge 28, 3) := by decide +kernel
theorem d_Rsa_prepare_21 : decode b_Rsa_prepare 21 = .ok (.aload_n 0, 1) := by decide +kernel
theorem d_Rsa_prepare_22 : decode b_Rsa_prepare 22 = .ok (.aload_n 0, 1) := by decide +kernel
theorem d_Rsa_prepare_23 : decode b_Rsa_prepare 23 = .ok (.getfield 34, 3) := by decide +kernel
theorem d_Rsa_prepare_26 : decode b_Rsa_prepare 26 = .ok (.ldc2_w 110, 3) := by decide +kernel
theorem d_Rsa_prepare_29 : decode b_Rsa_prepare 29 = .ok (.lload_n 2, 1) := by decide +kernel
theorem d_Rsa_prepare_30 : decode b_Rsa_prepare 30 = .ok (.aload_n 0, 1) := by decide +kernel
theorem d_Rsa_prepare_31 : decode b_Rsa_prepare 31 = .ok (.getfield 34, 3) := by decide +kernel
theorem d_Rsa_prepare_34 : decode b_Rsa_prepare 34 = .ok (.lmul, 1) := by decide +kernel
theorem d_Rsa_prepare_35 : decode b_Rsa_prepare 35 = .ok (.lsub, 1) := by decide +kernel
theorem d_Rsa_prepare_36 : decode b_Rsa_prepare 36 = .ok (.lmul, 1) := by decide +kernel
theorem d_Rsa_prepare_37 : decode b_Rsa_prepare 37 = .ok (.putfield 34, 3) := by decide +kernel
theorem d_Rsa_prepare_40 : decode b_Rsa_prepare 40 = .ok (.iinc 4 1, 3) := by decide +kernel
theorem d_Rsa_prepare_43 : decode b_Rsa_prepare 43 = .ok (.goto (-28), 3) := by decide +kernel
theorem d_Rsa_prepare_46 : decode b_Rsa_prepare 46 = .ok (.aload_n 0, 1) := by decide +kernel
theorem d_Rsa_prepare_47 : decode b_Rsa_prepare 47 = .ok (.aload_n 0, 1) := by decide +kernel
theorem d_Rsa_prepare_48 : decode b_Rsa_prepare 48 = .ok (.getfield 34, 3) := by decide +kernel
theorem d_Rsa_prepare_51 : decode b_Rsa_prepare 51 = .ok (.lneg, 1) := by decide +kernel
theorem d_Rsa_prepare_52 : decode b_Rsa_prepare 52 = .ok (.ldc2_w 112, 3) := by decide +kernel
theorem d_Rsa_prepare_55 : decode b_Rsa_prepare 55 = .ok (.land, 1) := by decide +kernel
theorem d_Rsa_prepare_56 : decode b_Rsa_prepare 56 = .ok (.putfield 34, 3) := by decide +kernel
theorem d_Rsa_prepare_59 : decode b_Rsa_prepare 59 = .ok (.aload_n 0, 1) := by decide +kernel
theorem d_Rsa_prepare_60 : decode b_Rsa_prepare 60 = .ok (.getfield 15, 3) := by decide +kernel
theorem d_Rsa_prepare_63 : decode b_Rsa_prepare 63 = .ok (.lconst 0, 1) := by decide +kernel
theorem d_Rsa_prepare_64 : decode b_Rsa_prepare 64 = .ok (.invokestatic 100, 3) := by decide +kernel
theorem d_Rsa_prepare_67 : decode b_Rsa_prepare 67 = .ok (.iconst 0, 1) := by decide +kernel
theorem d_Rsa_prepare_68 : decode b_Rsa_prepare 68 = .ok (.iload_n 1, 1) := by decide +kernel
theorem d_Rsa_prepare_69 : decode b_Rsa_prepare 69 = .ok (.iconst 1, 1) := by decide +kernel
theorem d_Rsa_prepare_70 : decode b_Rsa_prepare 70 = .ok (.isub, 1) := by decide +kernel
theorem d_Rsa_prepare_71 : decode b_Rsa_prepare 71 = .ok (.bipush 32, 2) := by decide +kernel
theorem d_Rsa_prepare_73 : decode b_Rsa_prepare 73 = .ok (.aload_n 0, 1) := by decide +kernel
theorem d_Rsa_prepare_74 : decode b_Rsa_prepare 74 = .ok (.getfield 30, 3) := by decide +kernel
theorem d_Rsa_prepare_77 : decode b_Rsa_prepare 77 = .ok (.imul, 1) := by decide +kernel
theorem d_Rsa_prepare_78 : decode b_Rsa_prepare 78 = .ok (.iconst 1, 1) := by decide +kernel
theorem d_Rsa_prepare_79 : decode b_Rsa_prepare 79 = .ok (.isub, 1) := by decide +kernel
theorem d_Rsa_prepare_80 : decode b_Rsa_prepare 80 = .ok (.invokestatic 114, 3) := by decide +kernel
theorem d_Rsa_prepare_83 : decode b_Rsa_prepare 83 = .ok (.invokestatic 120, 3) := by decide +kernel
theorem d_Rsa_prepare_86 : decode b_Rsa_prepare 86 = .ok (.istore 4, 2) := by decide +kernel
theorem d_Rsa_prepare_88 : decode b_Rsa_prepare 88 = .ok (.aload_n 0, 1) := by decide +kernel
theorem d_Rsa_prepare_89 : decode b_Rsa_prepare 89 = .ok (.getfield 15, 3) := by decide +kernel
theorem d_Rsa_prepare_92 : decode b_Rsa_prepare 92 = .ok (.iload 4, 2) := by decide +kernel
theorem d_Rsa_prepare_94 : decode b_Rsa_prepare 94 = .ok (.bipush 32, 2) := by decide +kernel
theorem d_Rsa_prepare_96 : decode b_Rsa_prepare 96 = .ok (.idiv, 1) := by decide +kernel
theorem d_Rsa_prepare_97 : decode b_Rsa_prepare 97 = .ok (.lconst 1, 1) := by decide +kernel
theorem d_Rsa_prepare_98 : decode b_Rsa_prepare 98 = .ok (.iload 4, 2) := by decide +kernel
theorem d_Rsa_prepare_100 : decode b_Rsa_prepare 100 = .ok (.bipush 32, 2) := by decide +kernel
theorem d_Rsa_prepare_102 : decode b_Rsa_prepare 102 = .ok (.irem, 1) := by decide +kernel
theorem d_Rsa_prepare_103 : decode b_Rsa_prepare 103 = .ok (.lshl, 1) := by decide +kernel
theorem d_Rsa_prepare_104 : decode b_Rsa_prepare 104 = .ok (.lastore, 1) := by decide +kernel
theorem d_Rsa_prepare_105 : decode b_Rsa_prepare 105 = .ok (.iload 4, 2) := by decide +kernel
theorem d_Rsa_prepare_107 : decode b_Rsa_prepare 107 = .ok (.istore 5, 2) := by decide +kernel
theorem d_Rsa_prepare_109 : decode b_Rsa_prepare 109 = .ok (.iload 5, 2) := by decide +kernel
theorem d_Rsa_prepare_111 : decode b_Rsa_prepare 111 = .ok (.bipush 33, 2) := by decide +kernel
theorem d_Rsa_prepare_113 : decode b_Rsa_prepare 113 = .ok (.aload_n 0, 1) := by decide +kernel
theorem d_Rsa_prepare_114 : decode b_Rsa_prepare 114 = .ok (.getfield 30, 3) := by decide +kernel
theorem d_Rsa_prepare_117 : decode b_Rsa_prepare 117 = .ok (.imul, 1) := by decide +kernel
theorem d_Rsa_prepare_118 : decode b_Rsa_prepare 118 = .ok (.if_icmp .ge 83, 3) := by decide +kernel
theorem d_Rsa_prepare_121 : decode b_Rsa_prepare 121 = .ok (.lconst 0, 1) := by decide +kernel
theorem d_Rsa_prepare_122 : decode b_Rsa_prepare 122 = .ok (.lstore 6, 2) := by decide +kernel
theorem d_Rsa_prepare_124 : decode b_Rsa_prepare 124 = .ok (.iconst 0, 1) := by decide +kernel
theorem d_Rsa_prepare_125 : decode b_Rsa_prepare 125 = .ok (.istore 8, 2) := by decide +kernel
theorem d_Rsa_prepare_127 : decode b_Rsa_prepare 127 = .ok (.iload 8, 2) := by decide +kernel
theorem d_Rsa_prepare_129 : decode b_Rsa_prepare 129 = .ok (.aload_n 0, 1) := by decide +kernel
theorem d_Rsa_prepare_130 : decode b_Rsa_prepare 130 = .ok (.getfield 30, 3) := by decide +kernel
theorem d_Rsa_prepare_133 : decode b_Rsa_prepare 133 = .ok (.if_icmp .ge 43, 3) := by decide +kernel
theorem d_Rsa_prepare_136 : decode b_Rsa_prepare 136 = .ok (.aload_n 0, 1) := by decide +kernel
theorem d_Rsa_prepare_137 : decode b_Rsa_prepare 137 = .ok (.getfield 15, 3) := by decide +kernel
theorem d_Rsa_prepare_140 : decode b_Rsa_prepare 140 = .ok (.iload 8, 2) := by decide +kernel
theorem d_Rsa_prepare_142 : decode b_Rsa_prepare 142 = .ok (.laload, 1) := by decide +kernel
theorem d_Rsa_prepare_143 : decode b_Rsa_prepare 143 = .ok (.iconst 1, 1) := by decide +kernel
theorem d_Rsa_prepare_144 : decode b_Rsa_prepare 144 = .ok (.lshl, 1) := by decide +kernel
theorem d_Rsa_prepare_145 : decode b_Rsa_prepare 145 = .ok (.lload 6, 2) := by decide +kernel
theorem d_Rsa_prepare_147 : decode b_Rsa_prepare 147 = .ok (.lor, 1) := by decide +kernel
theorem d_Rsa_prepare_148 : decode b_Rsa_prepare 148 = .ok (.lstore 9, 2) := by decide +kernel
theorem d_Rsa_prepare_150 : decode b_Rsa_prepare 150 = .ok (.aload_n 0, 1) := by decide +kernel
theorem d_Rsa_prepare_151 : decode b_Rsa_prepare 151 = .ok (.getfield 27, 3) := by decide +kernel
theorem d_Rsa_prepare_154 : decode b_Rsa_prepare 154 = .ok (.iload 8, 2) := by decide +kernel
theorem d_Rsa_prepare_156 : decode b_Rsa_prepare 156 = .ok (.lload 9, 2) := by decide +kernel
theorem d_Rsa_prepare_158 : decode b_Rsa_prepare 158 = .ok (.ldc2_w 112, 3) := by decide +kernel
theorem d_Rsa_prepare_161 : decode b_Rsa_prepare 161 = .ok (.land, 1) := by decide +kernel
theorem d_Rsa_prepare_162 : decode b_Rsa_prepare 162 = .ok (.lastore, 1) := by decide +kernel
theorem d_Rsa_prepare_163 : decode b_Rsa_prepare 163 = .ok (.lload 9, 2) := by decide +kernel
theorem d_Rsa_prepare_165 : decode b_Rsa_prepare 165 = .ok (.bipush 32, 2) := by decide +kernel
theorem d_Rsa_prepare_167 : decode b_Rsa_prepare 167 = .ok (.lushr, 1) := by decide +kernel
theorem d_Rsa_prepare_168 : decode b_Rsa_prepare 168 = .ok (.lstore 6, 2) := by decide +kernel
theorem d_Rsa_prepare_170 : decode b_Rsa_prepare 170 = .ok (.iinc 8 1, 3) := by decide +kernel
theorem d_Rsa_prepare_173 : decode b_Rsa_prepare 173 = .ok (.goto (-46), 3) := by decide +kernel
theorem d_Rsa_prepare_176 : decode b_Rsa_prepare 176 = .ok (.aload_n 0, 1) := by decide +kernel
theorem d_Rsa_prepare_177 : decode b_Rsa_prepare 177 = .ok (.getfield 27, 3) := by decide +kernel
theorem d_Rsa_prepare_180 : decode b_Rsa_prepare 180 = .ok (.aload_n 0, 1) := by decide +kernel
theorem d_Rsa_prepare_181 : decode b_Rsa_prepare 181 = .ok (.getfield 30, 3) := by decide +kernel
theorem d_Rsa_prepare_184 : decode b_Rsa_prepare 184 = .ok (.lload 6, 2) := by decide +kernel
theorem d_Rsa_prepare_186 : decode b_Rsa_prepare 186 = .ok (.lastore, 1) := by decide +kernel
theorem d_Rsa_prepare_187 : decode b_Rsa_prepare 187 = .ok (.aload_n 0, 1) := by decide +kernel
theorem d_Rsa_prepare_188 : decode b_Rsa_prepare 188 = .ok (.aload_n 0, 1) := by decide +kernel
theorem d_Rsa_prepare_189 : decode b_Rsa_prepare 189 = .ok (.getfield 15, 3) := by decide +kernel
theorem d_Rsa_prepare_192 : decode b_Rsa_prepare 192 = .ok (.invokevirtual 123, 3) := by decide +kernel
theorem d_Rsa_prepare_195 : decode b_Rsa_prepare 195 = .ok (.iinc 5 1, 3) := by decide +kernel
theorem d_Rsa_prepare_198 : decode b_Rsa_prepare 198 = .ok (.goto (-89), 3) := by decide +kernel
theorem d_Rsa_prepare_201 : decode b_Rsa_prepare 201 = .ok (.return_, 1) := by decide +kernel
def y_Rsa_isBelowModulus : MethodName := ⟨"TrustChain$Rsa", "isBelowModulus", "([J)Z"⟩
abbrev b_Rsa_isBelowModulus : ByteArray := prog_9_method_5_code
def w_Rsa_isBelowModulus : List Cond := Cond.code y_Rsa_isBelowModulus b_Rsa_isBelowModulus 3 ((some FieldType.boolean)) :: tb
theorem d_Rsa_isBelowModulus_0 : decode b_Rsa_isBelowModulus 0 = .ok (.aload_n 0, 1) := by decide +kernel
theorem d_Rsa_isBelowModulus_1 : decode b_Rsa_isBelowModulus 1 = .ok (.getfield 30, 3) := by decide +kernel
theorem d_Rsa_isBelowModulus_4 : decode b_Rsa_isBelowModulus 4 = .ok (.iconst 1, 1) := by decide +kernel
theorem d_Rsa_isBelowModulus_5 : decode b_Rsa_isBelowModulus 5 = .ok (.isub, 1) := by decide +kernel
theorem d_Rsa_isBelowModulus_6 : decode b_Rsa_isBelowModulus 6 = .ok (.istore_n 2, 1) := by decide +kernel
theorem d_Rsa_isBelowModulus_7 : decode b_Rsa_isBelowModulus 7 = .ok (.iload_n 2, 1) := by decide +kernel
theorem d_Rsa_isBelowModulus_8 : decode b_Rsa_isBelowModulus 8 = .ok (.ifCond .lt 41, 3) := by decide +kernel
theorem d_Rsa_isBelowModulus_11 : decode b_Rsa_isBelowModulus 11 = .ok (.aload_n 1, 1) := by decide +kernel
theorem d_Rsa_isBelowModulus_12 : decode b_Rsa_isBelowModulus 12 = .ok (.iload_n 2, 1) := by decide +kernel
theorem d_Rsa_isBelowModulus_13 : decode b_Rsa_isBelowModulus 13 = .ok (.laload, 1) := by decide +kernel
theorem d_Rsa_isBelowModulus_14 : decode b_Rsa_isBelowModulus 14 = .ok (.aload_n 0, 1) := by decide +kernel
theorem d_Rsa_isBelowModulus_15 : decode b_Rsa_isBelowModulus 15 = .ok (.getfield 11, 3) := by decide +kernel
theorem d_Rsa_isBelowModulus_18 : decode b_Rsa_isBelowModulus 18 = .ok (.iload_n 2, 1) := by decide +kernel
theorem d_Rsa_isBelowModulus_19 : decode b_Rsa_isBelowModulus 19 = .ok (.laload, 1) := by decide +kernel
theorem d_Rsa_isBelowModulus_20 : decode b_Rsa_isBelowModulus 20 = .ok (.lcmp, 1) := by decide +kernel
theorem d_Rsa_isBelowModulus_21 : decode b_Rsa_isBelowModulus 21 = .ok (.ifCond .eq 22, 3) := by decide +kernel
theorem d_Rsa_isBelowModulus_24 : decode b_Rsa_isBelowModulus 24 = .ok (.aload_n 1, 1) := by decide +kernel
theorem d_Rsa_isBelowModulus_25 : decode b_Rsa_isBelowModulus 25 = .ok (.iload_n 2, 1) := by decide +kernel
theorem d_Rsa_isBelowModulus_26 : decode b_Rsa_isBelowModulus 26 = .ok (.laload, 1) := by decide +kernel
theorem d_Rsa_isBelowModulus_27 : decode b_Rsa_isBelowModulus 27 = .ok (.aload_n 0, 1) := by decide +kernel
theorem d_Rsa_isBelowModulus_28 : decode b_Rsa_isBelowModulus 28 = .ok (.getfield 11, 3) := by decide +kernel
theorem d_Rsa_isBelowModulus_31 : decode b_Rsa_isBelowModulus 31 = .ok (.iload_n 2, 1) := by decide +kernel
theorem d_Rsa_isBelowModulus_32 : decode b_Rsa_isBelowModulus 32 = .ok (.laload, 1) := by decide +kernel
theorem d_Rsa_isBelowModulus_33 : decode b_Rsa_isBelowModulus 33 = .ok (.lcmp, 1) := by decide +kernel
theorem d_Rsa_isBelowModulus_34 : decode b_Rsa_isBelowModulus 34 = .ok (.ifCond .ge 7, 3) := by decide +kernel
theorem d_Rsa_isBelowModulus_37 : decode b_Rsa_isBelowModulus 37 = .ok (.iconst 1, 1) := by decide +kernel
theorem d_Rsa_isBelowModulus_38 : decode b_Rsa_isBelowModulus 38 = .ok (.goto 4, 3) := by decide +kernel
theorem d_Rsa_isBelowModulus_41 : decode b_Rsa_isBelowModulus 41 = .ok (.iconst 0, 1) := by decide +kernel
theorem d_Rsa_isBelowModulus_42 : decode b_Rsa_isBelowModulus 42 = .ok (.ireturn, 1) := by decide +kernel
theorem d_Rsa_isBelowModulus_43 : decode b_Rsa_isBelowModulus 43 = .ok (.iinc 2 (-1), 3) := by decide +kernel
theorem d_Rsa_isBelowModulus_46 : decode b_Rsa_isBelowModulus 46 = .ok (.goto (-39), 3) := by decide +kernel
theorem d_Rsa_isBelowModulus_49 : decode b_Rsa_isBelowModulus 49 = .ok (.iconst 0, 1) := by decide +kernel
theorem d_Rsa_isBelowModulus_50 : decode b_Rsa_isBelowModulus 50 = .ok (.ireturn, 1) := by decide +kernel
def y_Rsa_load : MethodName := ⟨"TrustChain$Rsa", "load", "(LTrustChain$Slice;[J)V"⟩
abbrev b_Rsa_load : ByteArray := prog_9_method_4_code
def w_Rsa_load : List Cond := Cond.code y_Rsa_load b_Rsa_load 5 (none) :: tb
theorem d_Rsa_load_0 : decode b_Rsa_load 0 = .ok (.aload_n 2, 1) := by decide +kernel
theorem d_Rsa_load_1 : decode b_Rsa_load 1 = .ok (.lconst 0, 1) := by decide +kernel
theorem d_Rsa_load_2 : decode b_Rsa_load 2 = .ok (.invokestatic 100, 3) := by decide +kernel
theorem d_Rsa_load_5 : decode b_Rsa_load 5 = .ok (.aload_n 1, 1) := by decide +kernel
theorem d_Rsa_load_6 : decode b_Rsa_load 6 = .ok (.invokevirtual 56, 3) := by decide +kernel
theorem d_Rsa_load_9 : decode b_Rsa_load 9 = .ok (.istore_n 3, 1) := by decide +kernel
theorem d_Rsa_load_10 : decode b_Rsa_load 10 = .ok (.iconst 0, 1) := by decide +kernel
theorem d_Rsa_load_11 : decode b_Rsa_load 11 = .ok (.istore 4, 2) := by decide +kernel
theorem d_Rsa_load_13 : decode b_Rsa_load 13 = .ok (.iload 4, 2) := by decide +kernel
theorem d_Rsa_load_15 : decode b_Rsa_load 15 = .ok (.iload_n 3, 1) := by decide +kernel
theorem d_Rsa_load_16 : decode b_Rsa_load 16 = .ok (.if_icmp .ge 45, 3) := by decide +kernel
theorem d_Rsa_load_19 : decode b_Rsa_load 19 = .ok (.iload 4, 2) := by decide +kernel
theorem d_Rsa_load_21 : decode b_Rsa_load 21 = .ok (.sipush 256, 3) := by decide +kernel
theorem d_Rsa_load_24 : decode b_Rsa_load 24 = .ok (.if_icmp .ge 37, 3) := by decide +kernel
theorem d_Rsa_load_27 : decode b_Rsa_load 27 = .ok (.aload_n 2, 1) := by decide +kernel
theorem d_Rsa_load_28 : decode b_Rsa_load 28 = .ok (.iload 4, 2) := by decide +kernel
theorem d_Rsa_load_30 : decode b_Rsa_load 30 = .ok (.iconst 4, 1) := by decide +kernel
theorem d_Rsa_load_31 : decode b_Rsa_load 31 = .ok (.idiv, 1) := by decide +kernel
theorem d_Rsa_load_32 : decode b_Rsa_load 32 = .ok (.dup2, 1) := by decide +kernel
theorem d_Rsa_load_33 : decode b_Rsa_load 33 = .ok (.laload, 1) := by decide +kernel
theorem d_Rsa_load_34 : decode b_Rsa_load 34 = .ok (.aload_n 1, 1) := by decide +kernel
theorem d_Rsa_load_35 : decode b_Rsa_load 35 = .ok (.iload_n 3, 1) := by decide +kernel
theorem d_Rsa_load_36 : decode b_Rsa_load 36 = .ok (.iconst 1, 1) := by decide +kernel
theorem d_Rsa_load_37 : decode b_Rsa_load 37 = .ok (.isub, 1) := by decide +kernel
theorem d_Rsa_load_38 : decode b_Rsa_load 38 = .ok (.iload 4, 2) := by decide +kernel
theorem d_Rsa_load_40 : decode b_Rsa_load 40 = .ok (.isub, 1) := by decide +kernel
theorem d_Rsa_load_41 : decode b_Rsa_load 41 = .ok (.invokevirtual 106, 3) := by decide +kernel
theorem d_Rsa_load_44 : decode b_Rsa_load 44 = .ok (.i2l, 1) := by decide +kernel
theorem d_Rsa_load_45 : decode b_Rsa_load 45 = .ok (.bipush 8, 2) := by decide +kernel
theorem d_Rsa_load_47 : decode b_Rsa_load 47 = .ok (.iload 4, 2) := by decide +kernel
theorem d_Rsa_load_49 : decode b_Rsa_load 49 = .ok (.iconst 4, 1) := by decide +kernel
theorem d_Rsa_load_50 : decode b_Rsa_load 50 = .ok (.irem, 1) := by decide +kernel
theorem d_Rsa_load_51 : decode b_Rsa_load 51 = .ok (.imul, 1) := by decide +kernel
theorem d_Rsa_load_52 : decode b_Rsa_load 52 = .ok (.lshl, 1) := by decide +kernel
theorem d_Rsa_load_53 : decode b_Rsa_load 53 = .ok (.lor, 1) := by decide +kernel
theorem d_Rsa_load_54 : decode b_Rsa_load 54 = .ok (.lastore, 1) := by decide +kernel
theorem d_Rsa_load_55 : decode b_Rsa_load 55 = .ok (.iinc 4 1, 3) := by decide +kernel
theorem d_Rsa_load_58 : decode b_Rsa_load 58 = .ok (.goto (-45), 3) := by decide +kernel
theorem d_Rsa_load_61 : decode b_Rsa_load 61 = .ok (.return_, 1) := by decide +kernel
def y_Rsa_due : MethodName := ⟨"TrustChain$Rsa", "due", "([III)I"⟩
abbrev b_Rsa_due : ByteArray := prog_9_method_10_code
def w_Rsa_due : List Cond := Cond.code y_Rsa_due b_Rsa_due 4 ((some FieldType.int)) :: tb
theorem d_Rsa_due_0 : decode b_Rsa_due 0 = .ok (.iload_n 1, 1) := by decide +kernel
theorem d_Rsa_due_1 : decode b_Rsa_due 1 = .ok (.bipush 32, 2) := by decide +kernel
theorem d_Rsa_due_3 : decode b_Rsa_due 3 = .ok (.if_icmp .ge 23, 3) := by decide +kernel
theorem d_Rsa_due_6 : decode b_Rsa_due 6 = .ok (.aload_n 0, 1) := by decide +kernel
theorem d_Rsa_due_7 : decode b_Rsa_due 7 = .ok (.bipush 7, 2) := by decide +kernel
theorem d_Rsa_due_9 : decode b_Rsa_due 9 = .ok (.iload_n 1, 1) := by decide +kernel
theorem d_Rsa_due_10 : decode b_Rsa_due 10 = .ok (.iconst 4, 1) := by decide +kernel
theorem d_Rsa_due_11 : decode b_Rsa_due 11 = .ok (.idiv, 1) := by decide +kernel
theorem d_Rsa_due_12 : decode b_Rsa_due 12 = .ok (.isub, 1) := by decide +kernel
theorem d_Rsa_due_13 : decode b_Rsa_due 13 = .ok (.iaload, 1) := by decide +kernel
theorem d_Rsa_due_14 : decode b_Rsa_due 14 = .ok (.bipush 8, 2) := by decide +kernel
theorem d_Rsa_due_16 : decode b_Rsa_due 16 = .ok (.iload_n 1, 1) := by decide +kernel
theorem d_Rsa_due_17 : decode b_Rsa_due 17 = .ok (.iconst 4, 1) := by decide +kernel
theorem d_Rsa_due_18 : decode b_Rsa_due 18 = .ok (.irem, 1) := by decide +kernel
theorem d_Rsa_due_19 : decode b_Rsa_due 19 = .ok (.imul, 1) := by decide +kernel
theorem d_Rsa_due_20 : decode b_Rsa_due 20 = .ok (.iushr, 1) := by decide +kernel
theorem d_Rsa_due_21 : decode b_Rsa_due 21 = .ok (.sipush 255, 3) := by decide +kernel
theorem d_Rsa_due_24 : decode b_Rsa_due 24 = .ok (.iand, 1) := by decide +kernel
theorem d_Rsa_due_25 : decode b_Rsa_due 25 = .ok (.ireturn, 1) := by decide +kernel
theorem d_Rsa_due_26 : decode b_Rsa_due 26 = .ok (.iload_n 1, 1) := by decide +kernel
theorem d_Rsa_due_27 : decode b_Rsa_due 27 = .ok (.bipush 32, 2) := by decide +kernel
theorem d_Rsa_due_29 : decode b_Rsa_due 29 = .ok (.isub, 1) := by decide +kernel
theorem d_Rsa_due_30 : decode b_Rsa_due 30 = .ok (.istore_n 3, 1) := by decide +kernel
theorem d_Rsa_due_31 : decode b_Rsa_due 31 = .ok (.iload_n 3, 1) := by decide +kernel
theorem d_Rsa_due_32 : decode b_Rsa_due 32 = .ok (.getstatic 131, 3) := by decide +kernel
theorem d_Rsa_due_35 : decode b_Rsa_due 35 = .ok (.arraylength, 1) := by decide +kernel
theorem d_Rsa_due_36 : decode b_Rsa_due 36 = .ok (.if_icmp .ge 16, 3) := by decide +kernel
theorem d_Rsa_due_39 : decode b_Rsa_due 39 = .ok (.getstatic 131, 3) := by decide +kernel
theorem d_Rsa_due_42 : decode b_Rsa_due 42 = .ok (.getstatic 131, 3) := by decide +kernel
theorem d_Rsa_due_45 : decode b_Rsa_due 45 = .ok (.arraylength, 1) := by decide +kernel
theorem d_Rsa_due_46 : decode b_Rsa_due 46 = .ok (.iconst 1, 1) := by decide +kernel
theorem d_Rsa_due_47 : decode b_Rsa_due 47 = .ok (.isub, 1) := by decide +kernel
theorem d_Rsa_due_48 : decode b_Rsa_due 48 = .ok (.iload_n 3, 1) := by decide +kernel
theorem d_Rsa_due_49 : decode b_Rsa_due 49 = .ok (.isub, 1) := by decide +kernel
theorem d_Rsa_due_50 : decode b_Rsa_due 50 = .ok (.iaload, 1) := by decide +kernel
theorem d_Rsa_due_51 : decode b_Rsa_due 51 = .ok (.ireturn, 1) := by decide +kernel
theorem d_Rsa_due_52 : decode b_Rsa_due 52 = .ok (.iload_n 3, 1) := by decide +kernel
theorem d_Rsa_due_53 : decode b_Rsa_due 53 = .ok (.getstatic 131, 3) := by decide +kernel
theorem d_Rsa_due_56 : decode b_Rsa_due 56 = .ok (.arraylength, 1) := by decide +kernel
theorem d_Rsa_due_57 : decode b_Rsa_due 57 = .ok (.if_icmp .eq 10, 3) := by decide +kernel
theorem d_Rsa_due_60 : decode b_Rsa_due 60 = .ok (.iload_n 1, 1) := by decide +kernel
theorem d_Rsa_due_61 : decode b_Rsa_due 61 = .ok (.iload_n 2, 1) := by decide +kernel
theorem d_Rsa_due_62 : decode b_Rsa_due 62 = .ok (.iconst 1, 1) := by decide +kernel
theorem d_Rsa_due_63 : decode b_Rsa_due 63 = .ok (.isub, 1) := by decide +kernel
theorem d_Rsa_due_64 : decode b_Rsa_due 64 = .ok (.if_icmp .ne 5, 3) := by decide +kernel
theorem d_Rsa_due_67 : decode b_Rsa_due 67 = .ok (.iconst 0, 1) := by decide +kernel
theorem d_Rsa_due_68 : decode b_Rsa_due 68 = .ok (.ireturn, 1) := by decide +kernel
theorem d_Rsa_due_69 : decode b_Rsa_due 69 = .ok (.iload_n 1, 1) := by decide +kernel
theorem d_Rsa_due_70 : decode b_Rsa_due 70 = .ok (.iload_n 2, 1) := by decide +kernel
theorem d_Rsa_due_71 : decode b_Rsa_due 71 = .ok (.iconst 2, 1) := by decide +kernel
theorem d_Rsa_due_72 : decode b_Rsa_due 72 = .ok (.isub, 1) := by decide +kernel
theorem d_Rsa_due_73 : decode b_Rsa_due 73 = .ok (.if_icmp .ne 7, 3) := by decide +kernel
theorem d_Rsa_due_76 : decode b_Rsa_due 76 = .ok (.iconst 1, 1) := by decide +kernel
theorem d_Rsa_due_77 : decode b_Rsa_due 77 = .ok (.goto 6, 3) := by decide +kernel
theorem d_Rsa_due_80 : decode b_Rsa_due 80 = .ok (.sipush 255, 3) := by decide +kernel
theorem d_Rsa_due_83 : decode b_Rsa_due 83 = .ok (.ireturn, 1) := by decide +kernel
def y_Rsa_hasForm : MethodName := ⟨"TrustChain$Rsa", "hasForm", "([II)Z"⟩
abbrev b_Rsa_hasForm : ByteArray := prog_9_method_9_code
def w_Rsa_hasForm : List Cond := Cond.code y_Rsa_hasForm b_Rsa_hasForm 5 ((some FieldType.boolean)) :: tb
theorem d_Rsa_hasForm_0 : decode b_Rsa_hasForm 0 = .ok (.iconst 0, 1) := by decide +kernel
theorem d_Rsa_hasForm_1 : decode b_Rsa_hasForm 1 = .ok (.istore_n 3, 1) := by decide +kernel
theorem d_Rsa_hasForm_2 : decode b_Rsa_hasForm 2 = .ok (.iload_n 3, 1) := by decide +kernel
theorem d_Rsa_hasForm_3 : decode b_Rsa_hasForm 3 = .ok (.iload_n 2, 1) := by decide +kernel
theorem d_Rsa_hasForm_4 : decode b_Rsa_hasForm 4 = .ok (.if_icmp .ge 51, 3) := by decide +kernel
theorem d_Rsa_hasForm_7 : decode b_Rsa_hasForm 7 = .ok (.iload_n 3, 1) := by decide +kernel
theorem d_Rsa_hasForm_8 : decode b_Rsa_hasForm 8 = .ok (.sipush 256, 3) := by decide +kernel
theorem d_Rsa_hasForm_11 : decode b_Rsa_hasForm 11 = .ok (.if_icmp .ge 44, 3) := by decide +kernel
theorem d_Rsa_hasForm_14 : decode b_Rsa_hasForm 14 = .ok (.aload_n 0, 1) := by decide +kernel
theorem d_Rsa_hasForm_15 : decode b_Rsa_hasForm 15 = .ok (.getfield 21, 3) := by decide +kernel
theorem d_Rsa_hasForm_18 : decode b_Rsa_hasForm 18 = .ok (.iload_n 3, 1) := by decide +kernel
theorem d_Rsa_hasForm_19 : decode b_Rsa_hasForm 19 = .ok (.iconst 4, 1) := by decide +kernel
theorem d_Rsa_hasForm_20 : decode b_Rsa_hasForm 20 = .ok (.idiv, 1) := by decide +kernel
theorem d_Rsa_hasForm_21 : decode b_Rsa_hasForm 21 = .ok (.laload, 1) := by decide +kernel
theorem d_Rsa_hasForm_22 : decode b_Rsa_hasForm 22 = .ok (.bipush 8, 2) := by decide +kernel
theorem d_Rsa_hasForm_24 : decode b_Rsa_hasForm 24 = .ok (.iload_n 3, 1) := by decide +kernel
theorem d_Rsa_hasForm_25 : decode b_Rsa_hasForm 25 = .ok (.iconst 4, 1) := by decide +kernel
theorem d_Rsa_hasForm_26 : decode b_Rsa_hasForm 26 = .ok (.irem, 1) := by decide +kernel
theorem d_Rsa_hasForm_27 : decode b_Rsa_hasForm 27 = .ok (.imul, 1) := by decide +kernel
theorem d_Rsa_hasForm_28 : decode b_Rsa_hasForm 28 = .ok (.lushr, 1) := by decide +kernel
theorem d_Rsa_hasForm_29 : decode b_Rsa_hasForm 29 = .ok (.l2i, 1) := by decide +kernel
theorem d_Rsa_hasForm_30 : decode b_Rsa_hasForm 30 = .ok (.sipush 255, 3) := by decide +kernel
theorem d_Rsa_hasForm_33 : decode b_Rsa_hasForm 33 = .ok (.iand, 1) := by decide +kernel
theorem d_Rsa_hasForm_34 : decode b_Rsa_hasForm 34 = .ok (.istore 4, 2) := by decide +kernel
theorem d_Rsa_hasForm_36 : decode b_Rsa_hasForm 36 = .ok (.iload 4, 2) := by decide +kernel
theorem d_Rsa_hasForm_38 : decode b_Rsa_hasForm 38 = .ok (.aload_n 1, 1) := by decide +kernel
theorem d_Rsa_hasForm_39 : decode b_Rsa_hasForm 39 = .ok (.iload_n 3, 1) := by decide +kernel
theorem d_Rsa_hasForm_40 : decode b_Rsa_hasForm 40 = .ok (.iload_n 2, 1) := by decide +kernel
theorem d_Rsa_hasForm_41 : decode b_Rsa_hasForm 41 = .ok (.invokestatic 127, 3) := by decide +kernel
theorem d_Rsa_hasForm_44 : decode b_Rsa_hasForm 44 = .ok (.if_icmp .eq 5, 3) := by decide +kernel
theorem d_Rsa_hasForm_47 : decode b_Rsa_hasForm 47 = .ok (.iconst 0, 1) := by decide +kernel
theorem d_Rsa_hasForm_48 : decode b_Rsa_hasForm 48 = .ok (.ireturn, 1) := by decide +kernel
theorem d_Rsa_hasForm_49 : decode b_Rsa_hasForm 49 = .ok (.iinc 3 1, 3) := by decide +kernel
theorem d_Rsa_hasForm_52 : decode b_Rsa_hasForm 52 = .ok (.goto (-50), 3) := by decide +kernel
theorem d_Rsa_hasForm_55 : decode b_Rsa_hasForm 55 = .ok (.iconst 1, 1) := by decide +kernel
theorem d_Rsa_hasForm_56 : decode b_Rsa_hasForm 56 = .ok (.ireturn, 1) := by decide +kernel
def y_Rsa_verifies : MethodName := ⟨"TrustChain$Rsa", "verifies", "(LTrustChain$Paper;LTrustChain$Certificate;)Z"⟩
abbrev b_Rsa_verifies : ByteArray := prog_9_method_3_code
def w_Rsa_verifies : List Cond := Cond.code y_Rsa_verifies b_Rsa_verifies 6 ((some FieldType.boolean)) :: tb
theorem d_Rsa_verifies_0 : decode b_Rsa_verifies 0 = .ok (.aload_n 2, 1) := by decide +kernel
theorem d_Rsa_verifies_1 : decode b_Rsa_verifies 1 = .ok (.getfield 53, 3) := by decide +kernel
theorem d_Rsa_verifies_4 : decode b_Rsa_verifies 4 = .ok (.invokevirtual 56, 3) := by decide +kernel
theorem d_Rsa_verifies_7 : decode b_Rsa_verifies 7 = .ok (.istore_n 3, 1) := by decide +kernel
theorem d_Rsa_verifies_8 : decode b_Rsa_verifies 8 = .ok (.aload_n 1, 1) := by decide +kernel
theorem d_Rsa_verifies_9 : decode b_Rsa_verifies 9 = .ok (.getfield 62, 3) := by decide +kernel
theorem d_Rsa_verifies_12 : decode b_Rsa_verifies 12 = .ok (.invokevirtual 56, 3) := by decide +kernel
theorem d_Rsa_verifies_15 : decode b_Rsa_verifies 15 = .ok (.iload_n 3, 1) := by decide +kernel
theorem d_Rsa_verifies_16 : decode b_Rsa_verifies 16 = .ok (.if_icmp .ne 14, 3) := by decide +kernel
theorem d_Rsa_verifies_19 : decode b_Rsa_verifies 19 = .ok (.iload_n 3, 1) := by decide +kernel
theorem d_Rsa_verifies_20 : decode b_Rsa_verifies 20 = .ok (.sipush 256, 3) := by decide +kernel
theorem d_Rsa_verifies_23 : decode b_Rsa_verifies 23 = .ok (.if_icmp .gt 7, 3) := by decide +kernel
theorem d_Rsa_verifies_26 : decode b_Rsa_verifies 26 = .ok (.iload_n 3, 1) := by decide +kernel
theorem d_Rsa_verifies_27 : decode b_Rsa_verifies 27 = .ok (.ifCond .ne 5, 3) := by decide +kernel
theorem d_Rsa_verifies_30 : decode b_Rsa_verifies 30 = .ok (.iconst 0, 1) := by decide +kernel
theorem d_Rsa_verifies_31 : decode b_Rsa_verifies 31 = .ok (.ireturn, 1) := by decide +kernel
theorem d_Rsa_verifies_32 : decode b_Rsa_verifies 32 = .ok (.aload_n 0, 1) := by decide +kernel
theorem d_Rsa_verifies_33 : decode b_Rsa_verifies 33 = .ok (.iload_n 3, 1) := by decide +kernel
theorem d_Rsa_verifies_34 : decode b_Rsa_verifies 34 = .ok (.iconst 3, 1) := by decide +kernel
theorem d_Rsa_verifies_35 : decode b_Rsa_verifies 35 = .ok (.iadd, 1) := by decide +kernel
theorem d_Rsa_verifies_36 : decode b_Rsa_verifies 36 = .ok (.iconst 4, 1) := by decide +kernel
theorem d_Rsa_verifies_37 : decode b_Rsa_verifies 37 = .ok (.idiv, 1) := by decide +kernel
theorem d_Rsa_verifies_38 : decode b_Rsa_verifies 38 = .ok (.putfield 30, 3) := by decide +kernel
theorem d_Rsa_verifies_41 : decode b_Rsa_verifies 41 = .ok (.aload_n 0, 1) := by decide +kernel
theorem d_Rsa_verifies_42 : decode b_Rsa_verifies 42 = .ok (.aload_n 2, 1) := by decide +kernel
theorem d_Rsa_verifies_43 : decode b_Rsa_verifies 43 = .ok (.getfield 53, 3) := by decide +kernel
theorem d_Rsa_verifies_46 : decode b_Rsa_verifies 46 = .ok (.aload_n 0, 1) := by decide +kernel
theorem d_Rsa_verifies_47 : decode b_Rsa_verifies 47 = .ok (.getfield 11, 3) := by decide +kernel
theorem d_Rsa_verifies_50 : decode b_Rsa_verifies 50 = .ok (.invokevirtual 65, 3) := by decide +kernel
theorem d_Rsa_verifies_53 : decode b_Rsa_verifies 53 = .ok (.aload_n 0, 1) := by decide +kernel
theorem d_Rsa_verifies_54 : decode b_Rsa_verifies 54 = .ok (.aload_n 1, 1) := by decide +kernel
theorem d_Rsa_verifies_55 : decode b_Rsa_verifies 55 = .ok (.getfield 62, 3) := by decide +kernel
theorem d_Rsa_verifies_58 : decode b_Rsa_verifies 58 = .ok (.aload_n 0, 1) := by decide +kernel
theorem d_Rsa_verifies_59 : decode b_Rsa_verifies 59 = .ok (.getfield 18, 3) := by decide +kernel
theorem d_Rsa_verifies_62 : decode b_Rsa_verifies 62 = .ok (.invokevirtual 65, 3) := by decide +kernel
theorem d_Rsa_verifies_65 : decode b_Rsa_verifies 65 = .ok (.aload_n 0, 1) := by decide +kernel
theorem d_Rsa_verifies_66 : decode b_Rsa_verifies 66 = .ok (.aload_n 0, 1) := by decide +kernel
theorem d_Rsa_verifies_67 : decode b_Rsa_verifies 67 = .ok (.getfield 18, 3) := by decide +kernel
theorem d_Rsa_verifies_70 : decode b_Rsa_verifies 70 = .ok (.invokevirtual 69, 3) := by decide +kernel
theorem d_Rsa_verifies_73 : decode b_Rsa_verifies 73 = .ok (.ifCond .ne 5, 3) := by decide +kernel
theorem d_Rsa_verifies_76 : decode b_Rsa_verifies 76 = .ok (.iconst 0, 1) := by decide +kernel
theorem d_Rsa_verifies_77 : decode b_Rsa_verifies 77 = .ok (.ireturn, 1) := by decide +kernel
theorem d_Rsa_verifies_78 : decode b_Rsa_verifies 78 = .ok (.aload_n 0, 1) := by decide +kernel
theorem d_Rsa_verifies_79 : decode b_Rsa_verifies 79 = .ok (.aload_n 2, 1) := by decide +kernel
theorem d_Rsa_verifies_80 : decode b_Rsa_verifies 80 = .ok (.getfield 73, 3) := by decide +kernel
theorem d_Rsa_verifies_83 : decode b_Rsa_verifies 83 = .ok (.invokevirtual 76, 3) := by decide +kernel
theorem d_Rsa_verifies_86 : decode b_Rsa_verifies 86 = .ok (.iconst 0, 1) := by decide +kernel
theorem d_Rsa_verifies_87 : decode b_Rsa_verifies 87 = .ok (.istore 4, 2) := by decide +kernel
theorem d_Rsa_verifies_89 : decode b_Rsa_verifies 89 = .ok (.iload 4, 2) := by decide +kernel
theorem d_Rsa_verifies_91 : decode b_Rsa_verifies 91 = .ok (.iconst 5, 1) := by decide +kernel
theorem d_Rsa_verifies_92 : decode b_Rsa_verifies 92 = .ok (.if_icmp .ge 25, 3) := by decide +kernel
theorem d_Rsa_verifies_95 : decode b_Rsa_verifies 95 = .ok (.aload_n 0, 1) := by decide +kernel
theorem d_Rsa_verifies_96 : decode b_Rsa_verifies 96 = .ok (.aload_n 0, 1) := by decide +kernel
theorem d_Rsa_verifies_97 : decode b_Rsa_verifies 97 = .ok (.getfield 15, 3) := by decide +kernel
theorem d_Rsa_verifies_100 : decode b_Rsa_verifies 100 = .ok (.aload_n 0, 1) := by decide +kernel
theorem d_Rsa_verifies_101 : decode b_Rsa_verifies 101 = .ok (.getfield 15, 3) := by decide +kernel
theorem d_Rsa_verifies_104 : decode b_Rsa_verifies 104 = .ok (.aload_n 0, 1) := by decide +kernel
theorem d_Rsa_verifies_105 : decode b_Rsa_verifies 105 = .ok (.getfield 15, 3) := by decide +kernel
theorem d_Rsa_verifies_108 : decode b_Rsa_verifies 108 = .ok (.invokevirtual 80, 3) := by decide +kernel
theorem d_Rsa_verifies_111 : decode b_Rsa_verifies 111 = .ok (.iinc 4 1, 3) := by decide +kernel
theorem d_Rsa_verifies_114 : decode b_Rsa_verifies 114 = .ok (.goto (-25), 3) := by decide +kernel
theorem d_Rsa_verifies_117 : decode b_Rsa_verifies 117 = .ok (.aload_n 0, 1) := by decide +kernel
theorem d_Rsa_verifies_118 : decode b_Rsa_verifies 118 = .ok (.aload_n 0, 1) := by decide +kernel
theorem d_Rsa_verifies_119 : decode b_Rsa_verifies 119 = .ok (.getfield 18, 3) := by decide +kernel
theorem d_Rsa_verifies_122 : decode b_Rsa_verifies 122 = .ok (.aload_n 0, 1) := by decide +kernel
theorem d_Rsa_verifies_123 : decode b_Rsa_verifies 123 = .ok (.getfield 15, 3) := by decide +kernel
theorem d_Rsa_verifies_126 : decode b_Rsa_verifies 126 = .ok (.aload_n 0, 1) := by decide +kernel
theorem d_Rsa_verifies_127 : decode b_Rsa_verifies 127 = .ok (.getfield 18, 3) := by decide +kernel
theorem d_Rsa_verifies_130 : decode b_Rsa_verifies 130 = .ok (.invokevirtual 80, 3) := by decide +kernel
theorem d_Rsa_verifies_133 : decode b_Rsa_verifies 133 = .ok (.iconst 0, 1) := by decide +kernel
theorem d_Rsa_verifies_134 : decode b_Rsa_verifies 134 = .ok (.istore 4, 2) := by decide +kernel
theorem d_Rsa_verifies_136 : decode b_Rsa_verifies 136 = .ok (.bipush 30, 2) := by decide +kernel
theorem d_Rsa_verifies_138 : decode b_Rsa_verifies 138 = .ok (.istore 5, 2) := by decide +kernel
theorem d_Rsa_verifies_140 : decode b_Rsa_verifies 140 = .ok (.iload 5, 2) := by decide +kernel
theorem d_Rsa_verifies_142 : decode b_Rsa_verifies 142 = .ok (.ifCond .lt 87, 3) := by decide +kernel
theorem d_Rsa_verifies_145 : decode b_Rsa_verifies 145 = .ok (.iload 4, 2) := by decide +kernel
theorem d_Rsa_verifies_147 : decode b_Rsa_verifies 147 = .ok (.ifCond .eq 19, 3) := by decide +kernel
theorem d_Rsa_verifies_150 : decode b_Rsa_verifies 150 = .ok (.aload_n 0, 1) := by decide +kernel
theorem d_Rsa_verifies_151 : decode b_Rsa_verifies 151 = .ok (.aload_n 0, 1) := by decide +kernel
theorem d_Rsa_verifies_152 : decode b_Rsa_verifies 152 = .ok (.getfield 21, 3) := by decide +kernel
theorem d_Rsa_verifies_155 : decode b_Rsa_verifies 155 = .ok (.aload_n 0, 1) := by decide +kernel
theorem d_Rsa_verifies_156 : decode b_Rsa_verifies 156 = .ok (.getfield 21, 3) := by decide +kernel
theorem d_Rsa_verifies_159 : decode b_Rsa_verifies 159 = .ok (.aload_n 0, 1) := by decide +kernel
theorem d_Rsa_verifies_160 : decode b_Rsa_verifies 160 = .ok (.getfield 21, 3) := by decide +kernel
theorem d_Rsa_verifies_163 : decode b_Rsa_verifies 163 = .ok (.invokevirtual 80, 3) := by decide +kernel
theorem d_Rsa_verifies_166 : decode b_Rsa_verifies 166 = .ok (.aload_n 2, 1) := by decide +kernel
theorem d_Rsa_verifies_167 : decode b_Rsa_verifies 167 = .ok (.getfield 84, 3) := by decide +kernel
theorem d_Rsa_verifies_170 : decode b_Rsa_verifies 170 = .ok (.iload 5, 2) := by decide +kernel
theorem d_Rsa_verifies_172 : decode b_Rsa_verifies 172 = .ok (.ishr, 1) := by decide +kernel
theorem d_Rsa_verifies_173 : decode b_Rsa_verifies 173 = .ok (.iconst 1, 1) := by decide +kernel
theorem d_Rsa_verifies_174 : decode b_Rsa_verifies 174 = .ok (.iand, 1) := by decide +kernel
theorem d_Rsa_verifies_175 : decode b_Rsa_verifies 175 = .ok (.iconst 1, 1) := by decide +kernel
theorem d_Rsa_verifies_176 : decode b_Rsa_verifies 176 = .ok (.if_icmp .ne 47, 3) := by decide +kernel
theorem d_Rsa_verifies_179 : decode b_Rsa_verifies 179 = .ok (.iload 4, 2) := by decide +kernel
theorem d_Rsa_verifies_181 : decode b_Rsa_verifies 181 = .ok (.ifCond .eq 22, 3) := by decide +kernel
theorem d_Rsa_verifies_184 : decode b_Rsa_verifies 184 = .ok (.aload_n 0, 1) := by decide +kernel
theorem d_Rsa_verifies_185 : decode b_Rsa_verifies 185 = .ok (.aload_n 0, 1) := by decide +kernel
theorem d_Rsa_verifies_186 : decode b_Rsa_verifies 186 = .ok (.getfield 21, 3) := by decide +kernel
theorem d_Rsa_verifies_189 : decode b_Rsa_verifies 189 = .ok (.aload_n 0, 1) := by decide +kernel
theorem d_Rsa_verifies_190 : decode b_Rsa_verifies 190 = .ok (.getfield 18, 3) := by decide +kernel
theorem d_Rsa_verifies_193 : decode b_Rsa_verifies 193 = .ok (.aload_n 0, 1) := by decide +kernel
theorem d_Rsa_verifies_194 : decode b_Rsa_verifies 194 = .ok (.getfield 21, 3) := by decide +kernel
theorem d_Rsa_verifies_197 : decode b_Rsa_verifies 197 = .ok (.invokevirtual 80, 3) := by decide +kernel
theorem d_Rsa_verifies_200 : decode b_Rsa_verifies 200 = .ok (.goto 20, 3) := by decide +kernel
theorem d_Rsa_verifies_203 : decode b_Rsa_verifies 203 = .ok (.aload_n 0, 1) := by decide +kernel
theorem d_Rsa_verifies_204 : decode b_Rsa_verifies 204 = .ok (.getfield 18, 3) := by decide +kernel
theorem d_Rsa_verifies_207 : decode b_Rsa_verifies 207 = .ok (.iconst 0, 1) := by decide +kernel
theorem d_Rsa_verifies_208 : decode b_Rsa_verifies 208 = .ok (.aload_n 0, 1) := by decide +kernel
theorem d_Rsa_verifies_209 : decode b_Rsa_verifies 209 = .ok (.getfield 21, 3) := by decide +kernel
theorem d_Rsa_verifies_212 : decode b_Rsa_verifies 212 = .ok (.iconst 0, 1) := by decide +kernel
theorem d_Rsa_verifies_213 : decode b_Rsa_verifies 213 = .ok (.aload_n 0, 1) := by decide +kernel
theorem d_Rsa_verifies_214 : decode b_Rsa_verifies 214 = .ok (.getfield 30, 3) := by decide +kernel
theorem d_Rsa_verifies_217 : decode b_Rsa_verifies 217 = .ok (.invokestatic 87, 3) := by decide +kernel
theorem d_Rsa_verifies_220 : decode b_Rsa_verifies 220 = .ok (.iconst 1, 1) := by decide +kernel
theorem d_Rsa_verifies_221 : decode b_Rsa_verifies 221 = .ok (.istore 4, 2) := by decide +kernel
theorem d_Rsa_verifies_223 : decode b_Rsa_verifies 223 = .ok (.iinc 5 (-1), 3) := by decide +kernel
theorem d_Rsa_verifies_226 : decode b_Rsa_verifies 226 = .ok (.goto (-86), 3) := by decide +kernel
theorem d_Rsa_verifies_229 : decode b_Rsa_verifies 229 = .ok (.aload_n 0, 1) := by decide +kernel
theorem d_Rsa_verifies_230 : decode b_Rsa_verifies 230 = .ok (.aload_n 0, 1) := by decide +kernel
theorem d_Rsa_verifies_231 : decode b_Rsa_verifies 231 = .ok (.getfield 21, 3) := by decide +kernel
theorem d_Rsa_verifies_234 : decode b_Rsa_verifies 234 = .ok (.aload_n 0, 1) := by decide +kernel
theorem d_Rsa_verifies_235 : decode b_Rsa_verifies 235 = .ok (.getfield 24, 3) := by decide +kernel
theorem d_Rsa_verifies_238 : decode b_Rsa_verifies 238 = .ok (.aload_n 0, 1) := by decide +kernel
theorem d_Rsa_verifies_239 : decode b_Rsa_verifies 239 = .ok (.getfield 21, 3) := by decide +kernel
theorem d_Rsa_verifies_242 : decode b_Rsa_verifies 242 = .ok (.invokevirtual 80, 3) := by decide +kernel
theorem d_Rsa_verifies_245 : decode b_Rsa_verifies 245 = .ok (.aload_n 0, 1) := by decide +kernel
theorem d_Rsa_verifies_246 : decode b_Rsa_verifies 246 = .ok (.aload_n 1, 1) := by decide +kernel
theorem d_Rsa_verifies_247 : decode b_Rsa_verifies 247 = .ok (.getfield 93, 3) := by decide +kernel
theorem d_Rsa_verifies_250 : decode b_Rsa_verifies 250 = .ok (.iload_n 3, 1) := by decide +kernel
theorem d_Rsa_verifies_251 : decode b_Rsa_verifies 251 = .ok (.invokevirtual 96, 3) := by decide +kernel
theorem d_Rsa_verifies_254 : decode b_Rsa_verifies 254 = .ok (.ireturn, 1) := by decide +kernel
def y_Rsa_isSigned : MethodName := ⟨"TrustChain$Rsa", "isSigned", "(LTrustChain$Paper;LTrustChain$Certificate;)Z"⟩
abbrev b_Rsa_isSigned : ByteArray := prog_9_method_2_code
def w_Rsa_isSigned : List Cond := Cond.code y_Rsa_isSigned b_Rsa_isSigned 4 ((some FieldType.boolean)) :: tb
theorem d_Rsa_isSigned_0 : decode b_Rsa_isSigned 0 = .ok (.aload_n 2, 1) := by decide +kernel
theorem d_Rsa_isSigned_1 : decode b_Rsa_isSigned 1 = .ok (.getfield 38, 3) := by decide +kernel
theorem d_Rsa_isSigned_4 : decode b_Rsa_isSigned 4 = .ok (.istore_n 3, 1) := by decide +kernel
theorem d_Rsa_isSigned_5 : decode b_Rsa_isSigned 5 = .ok (.iload_n 3, 1) := by decide +kernel
theorem d_Rsa_isSigned_6 : decode b_Rsa_isSigned 6 = .ok (.ifCond .lt 12, 3) := by decide +kernel
theorem d_Rsa_isSigned_9 : decode b_Rsa_isSigned 9 = .ok (.iload_n 3, 1) := by decide +kernel
theorem d_Rsa_isSigned_10 : decode b_Rsa_isSigned 10 = .ok (.aload_n 1, 1) := by decide +kernel
theorem d_Rsa_isSigned_11 : decode b_Rsa_isSigned 11 = .ok (.getfield 43, 3) := by decide +kernel
theorem d_Rsa_isSigned_14 : decode b_Rsa_isSigned 14 = .ok (.arraylength, 1) := by decide +kernel
theorem d_Rsa_isSigned_15 : decode b_Rsa_isSigned 15 = .ok (.if_icmp .lt 5, 3) := by decide +kernel
theorem d_Rsa_isSigned_20 : decode b_Rsa_isSigned 20 = .ok (.aload_n 1, 1) := by decide +kernel
theorem d_Rsa_isSigned_21 : decode b_Rsa_isSigned 21 = .ok (.getfield 43, 3) := by decide +kernel
theorem d_Rsa_isSigned_24 : decode b_Rsa_isSigned 24 = .ok (.iload_n 3, 1) := by decide +kernel
theorem d_Rsa_isSigned_25 : decode b_Rsa_isSigned 25 = .ok (.iaload, 1) := by decide +kernel
theorem d_Rsa_isSigned_26 : decode b_Rsa_isSigned 26 = .ok (.ifCond .ne 23, 3) := by decide +kernel
theorem d_Rsa_isSigned_29 : decode b_Rsa_isSigned 29 = .ok (.aload_n 1, 1) := by decide +kernel
theorem d_Rsa_isSigned_30 : decode b_Rsa_isSigned 30 = .ok (.getfield 43, 3) := by decide +kernel
theorem d_Rsa_isSigned_33 : decode b_Rsa_isSigned 33 = .ok (.iload_n 3, 1) := by decide +kernel
theorem d_Rsa_isSigned_34 : decode b_Rsa_isSigned 34 = .ok (.aload_n 0, 1) := by decide +kernel
theorem d_Rsa_isSigned_35 : decode b_Rsa_isSigned 35 = .ok (.aload_n 1, 1) := by decide +kernel
theorem d_Rsa_isSigned_36 : decode b_Rsa_isSigned 36 = .ok (.aload_n 2, 1) := by decide +kernel
theorem d_Rsa_isSigned_37 : decode b_Rsa_isSigned 37 = .ok (.invokevirtual 49, 3) := by decide +kernel
theorem d_Rsa_isSigned_40 : decode b_Rsa_isSigned 40 = .ok (.ifCond .eq 7, 3) := by decide +kernel
theorem d_Rsa_isSigned_43 : decode b_Rsa_isSigned 43 = .ok (.iconst 1, 1) := by decide +kernel
theorem d_Rsa_isSigned_44 : decode b_Rsa_isSigned 44 = .ok (.goto 4, 3) := by decide +kernel
theorem d_Rsa_isSigned_47 : decode b_Rsa_isSigned 47 = .ok (.iconst 2, 1) := by decide +kernel
theorem d_Rsa_isSigned_48 : decode b_Rsa_isSigned 48 = .ok (.iastore, 1) := by decide +kernel
theorem d_Rsa_isSigned_49 : decode b_Rsa_isSigned 49 = .ok (.aload_n 1, 1) := by decide +kernel
theorem d_Rsa_isSigned_50 : decode b_Rsa_isSigned 50 = .ok (.getfield 43, 3) := by decide +kernel
theorem d_Rsa_isSigned_53 : decode b_Rsa_isSigned 53 = .ok (.iload_n 3, 1) := by decide +kernel
theorem d_Rsa_isSigned_54 : decode b_Rsa_isSigned 54 = .ok (.iaload, 1) := by decide +kernel
theorem d_Rsa_isSigned_55 : decode b_Rsa_isSigned 55 = .ok (.iconst 1, 1) := by decide +kernel
theorem d_Rsa_isSigned_56 : decode b_Rsa_isSigned 56 = .ok (.if_icmp .ne 7, 3) := by decide +kernel
theorem d_Rsa_isSigned_59 : decode b_Rsa_isSigned 59 = .ok (.iconst 1, 1) := by decide +kernel
theorem d_Rsa_isSigned_60 : decode b_Rsa_isSigned 60 = .ok (.goto 4, 3) := by decide +kernel
theorem d_Rsa_isSigned_63 : decode b_Rsa_isSigned 63 = .ok (.iconst 0, 1) := by decide +kernel
theorem d_Rsa_isSigned_64 : decode b_Rsa_isSigned 64 = .ok (.ireturn, 1) := by decide +kernel
