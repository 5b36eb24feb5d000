/-! The reference's division returns. -/
theorem shl_nat {t k : Nat} (hk : k ≤ 15) (ht : t * 2 ^ k < 65536) : nI t <<< (nI k &&& 31) = nI (t * 2 ^ k) := by
  have ht0 : t < 65536 := Nat.lt_of_le_of_lt (Nat.le_mul_of_pos_right t (Nat.two_pow_pos k)) ht
  apply Int32.toBitVec_inj.mp
  apply BitVec.eq_of_toNat_eq
  show ((nI t).toBitVec <<< (BitVec.smod (nI k &&& 31).toBitVec 32)).toNat = (nI (t * 2 ^ k)).toBitVec.toNat
  have e0 : BitVec.smod (nI k &&& 31).toBitVec 32 = BitVec.ofNat 32 k := by
    rcases (show k = 0 ∨ k = 1 ∨ k = 2 ∨ k = 3 ∨ k = 4 ∨ k = 5 ∨ k = 6 ∨ k = 7 ∨ k = 8 ∨ k = 9 ∨ k = 10 ∨ k = 11 ∨ k = 12 ∨ k = 13 ∨ k = 14 ∨ k = 15 by omega) with rfl | rfl | rfl | rfl | rfl | rfl | rfl | rfl | rfl | rfl | rfl | rfl | rfl | rfl | rfl | rfl <;> decide
  have e1 : (nI t).toBitVec = BitVec.ofNat 32 t := rfl
  have e3 : (nI (t * 2 ^ k)).toBitVec = BitVec.ofNat 32 (t * 2 ^ k) := rfl
  rw [e0, e1, e3, BitVec.shiftLeft_eq', BitVec.toNat_shiftLeft, BitVec.toNat_ofNat, BitVec.toNat_ofNat, BitVec.toNat_ofNat, Nat.mod_eq_of_lt (show k < 2 ^ 32 by omega), Nat.mod_eq_of_lt (show t < 2 ^ 32 by omega), Nat.shiftLeft_eq]
theorem top_16 (A B : Int32) {x : Nat} (hA : A = nI x) (h1 : 32768 ≤ x) (h2 : x < 65536) : ∃ r, 32768 ≤ r ∧ r < 65536 ∧ (A ||| B) &&& 65535 = nI r := by
  refine ⟨((A ||| B) &&& 65535).toBitVec.toNat, ?_, ?_, ?_⟩
  · show 32768 ≤ ((A.toBitVec ||| B.toBitVec) &&& (65535 : Int32).toBitVec).toNat
    rw [BitVec.toNat_and, BitVec.toNat_or]
    apply Nat.ge_two_pow_of_testBit (i := 15)
    rw [Nat.testBit_and, Nat.testBit_or]
    have e : A.toBitVec.toNat = x := by
      rw [hA]
      show (BitVec.ofNat 32 x).toNat = x
      rw [BitVec.toNat_ofNat]
      omega
    have hx : x.testBit 15 = true := by
      rw [Nat.testBit_eq_decide_div_mod_eq]
      have : x / 2 ^ 15 = 1 := by omega
      rw [this]
      decide
    rw [e, hx, Bool.true_or, Bool.true_and]
    decide
  · show ((A.toBitVec ||| B.toBitVec) &&& (65535 : Int32).toBitVec).toNat < 65536
    rw [BitVec.toNat_and]
    have := Nat.and_le_right (n := (A.toBitVec ||| B.toBitVec).toNat) (m := ((65535 : Int32).toBitVec).toNat)
    have e : ((65535 : Int32).toBitVec).toNat = 65535 := by decide
    omega
  · apply Int32.toBitVec_inj.mp
    apply BitVec.eq_of_toNat_eq
    show _ = (BitVec.ofNat 32 _).toNat
    rw [BitVec.toNat_ofNat]
    exact (Nat.mod_eq_of_lt (BitVec.isLt _)).symm
theorem i2l_ne {x : Int32} (h : x ≠ 0) : ¬ x.toInt64 = 0 := fun e => h (by
  have : x.toInt64.toInt = (0 : Int64).toInt := by rw [e]
  rw [Int32.toInt_toInt64, show (0 : Int64).toInt = 0 from by decide] at this
  exact Int32.toInt_inj.mp (by rw [this]; decide))
theorem nI_nz {r : Nat} (h1 : 1 ≤ r) (h2 : r < 2 ^ 31) : nI r ≠ 0 := fun e => by
  have := (nI_eq (a := r) (b := 0) h2 (by omega)).mp e
  omega
theorem dv_ne {x : Int32} {f : Nat → Int32} {k r : Nat} (he : x = f (nI k).toNatClampNeg) (hk : k < 2 ^ 31) (hf : f k = nI r) (h1 : 1 ≤ r) (h2 : r < 2 ^ 31) : ¬ x.toInt64 = 0 := by
  rw [nI_clamp hk, hf] at he
  rw [he]
  exact i2l_ne (nI_nz h1 h2)
theorem rs_step {f f' fm : Nat → Int32} {z k1 t kk : Nat} {x B : Int32} (he : x = fm (nI z).toNatClampNeg) (ef : f' = upd f (nI z).toNatClampNeg (((x <<< (nI kk &&& 31)) ||| B) &&& 65535)) (hz : z < k1) (hk : k1 ≤ 300) (ht : fm (k1 - 1) = nI t) (hkk : kk ≤ 15) (h1 : 32768 ≤ t * 2 ^ kk) (h2 : t * 2 ^ kk < 65536) (hJ : z + 1 < k1 → ∃ r, 32768 ≤ r ∧ r < 65536 ∧ f (k1 - 1) = nI r) : z < k1 → ∃ r, 32768 ≤ r ∧ r < 65536 ∧ f' (k1 - 1) = nI r := fun _ => by
  rw [nI_clamp (by omega)] at he ef
  by_cases h : z = k1 - 1
  · subst h
    rw [ht] at he
    subst he
    obtain ⟨r, a1, a2, a3⟩ := top_16 (nI t <<< (nI kk &&& 31)) B (shl_nat hkk h2) h1 h2
    refine ⟨r, a1, a2, ?_⟩
    rw [ef]
    unfold upd
    rw [if_pos rfl]
    exact a3
  · obtain ⟨r, a1, a2, a3⟩ := hJ (by omega)
    refine ⟨r, a1, a2, ?_⟩
    rw [ef]
    unfold upd
    rw [if_neg (by omega)]
    exact a3
theorem lf_step {x y : Int64} {r : Nat} (hx : x.toInt ≤ 65535) (hy : y = (nI r).toInt64) (h1 : 1 ≤ r) (h2 : r < 65536) : x.toInt < (x + y).toInt := by
  have e : y.toInt = r := by rw [hy, Int32.toInt_toInt64, nI_toInt (by omega)]
  have h3 := Int64.le_toInt x
  rw [Int64.toInt_add, e]
  rw [Int.bmod_eq_of_le (by omega) (by omega)]
  omega
theorem big_N : ∃ N : Nat, ∀ x : Int64, (65536 - x.toInt).toNat < N := ⟨2 ^ 65, fun x => by
  have := Int64.le_toInt x
  omega⟩
theorem lf_mu {b : Bool} {N : Nat} {x y z : Int64} {r : Nat} (hN : ∀ x : Int64, (65536 - x.toInt).toNat < N) (hJ : b = false → y.toInt ≤ 65535) (hx : x.toInt ≤ 65535) (e : x = y + z) (hz : z = (nI r).toInt64) (h1 : 1 ≤ r) (h2 : r < 65536) : cond false N (65536 - x.toInt).toNat < cond b N (65536 - y.toInt).toNat := by
  cases b with
  | true => exact hN x
  | false =>
    have q : y.toInt < x.toInt := by rw [e]; exact lf_step (hJ rfl) hz h1 h2
    show (65536 - x.toInt).toNat < (65536 - y.toInt).toNat
    omega
theorem cmp_le {x : Int64} (h : lg_cmp x 65535 ≤ 0) : x.toInt ≤ 65535 := by
  have h := Int32.not_lt.mpr h
  rw [lg_cmp_gt, Int64.lt_iff_toInt_lt, show (65535 : Int64).toInt = 65535 from by decide] at h
  omega
def y_Model_divided : MethodName := ⟨"TrustChainModel", "divided", "([II[II[I)I"⟩
abbrev b_Model_divided : ByteArray := prog_14_method_8_code
def w_Model_divided : List Cond := Cond.code y_Model_divided b_Model_divided 18 ((some FieldType.int)) :: tb
theorem d_Model_divided_0 : decode b_Model_divided 0 = .ok (.aload_n 1, 1) := by decide +kernel
theorem d_Model_divided_1 : decode b_Model_divided 1 = .ok (.iload_n 2, 1) := by decide +kernel
theorem d_Model_divided_2 : decode b_Model_divided 2 = .ok (.aload_n 3, 1) := by decide +kernel
theorem d_Model_divided_3 : decode b_Model_divided 3 = .ok (.iload 4, 2) := by decide +kernel
theorem d_Model_divided_5 : decode b_Model_divided 5 = .ok (.invokestatic 155, 3) := by decide +kernel
theorem d_Model_divided_8 : decode b_Model_divided 8 = .ok (.ifCond .ge 10, 3) := by decide +kernel
theorem d_Model_divided_11 : decode b_Model_divided 11 = .ok (.aload_n 0, 1) := by decide +kernel
theorem d_Model_divided_12 : decode b_Model_divided 12 = .ok (.iconst 0, 1) := by decide +kernel
theorem d_Model_divided_13 : decode b_Model_divided 13 = .ok (.putfield 159, 3) := by decide +kernel
theorem d_Model_divided_16 : decode b_Model_divided 16 = .ok (.iload_n 2, 1) := by decide +kernel
theorem d_Model_divided_17 : decode b_Model_divided 17 = .ok (.ireturn, 1) := by decide +kernel
theorem d_Model_divided_18 : decode b_Model_divided 18 = .ok (.iload 4, 2) := by decide +kernel
theorem d_Model_divided_20 : decode b_Model_divided 20 = .ok (.iconst 1, 1) := by decide +kernel
theorem d_Model_divided_21 : decode b_Model_divided 21 = .ok (.if_icmp .ne 84, 3) := by decide +kernel
theorem d_Model_divided_24 : decode b_Model_divided 24 = .ok (.lconst 0, 1) := by decide +kernel
theorem d_Model_divided_25 : decode b_Model_divided 25 = .ok (.lstore 6, 2) := by decide +kernel
theorem d_Model_divided_27 : decode b_Model_divided 27 = .ok (.iload_n 2, 1) := by decide +kernel
theorem d_Model_divided_28 : decode b_Model_divided 28 = .ok (.iconst 1, 1) := by decide +kernel
theorem d_Model_divided_29 : decode b_Model_divided 29 = .ok (.isub, 1) := by decide +kernel
theorem d_Model_divided_30 : decode b_Model_divided 30 = .ok (.istore 8, 2) := by decide +kernel
theorem d_Model_divided_32 : decode b_Model_divided 32 = .ok (.iload 8, 2) := by decide +kernel
theorem d_Model_divided_34 : decode b_Model_divided 34 = .ok (.ifCond .lt 49, 3) := by decide +kernel
theorem d_Model_divided_37 : decode b_Model_divided 37 = .ok (.lload 6, 2) := by decide +kernel
theorem d_Model_divided_39 : decode b_Model_divided 39 = .ok (.bipush 16, 2) := by decide +kernel
theorem d_Model_divided_41 : decode b_Model_divided 41 = .ok (.lshl, 1) := by decide +kernel
theorem d_Model_divided_42 : decode b_Model_divided 42 = .ok (.aload_n 1, 1) := by decide +kernel
theorem d_Model_divided_43 : decode b_Model_divided 43 = .ok (.iload 8, 2) := by decide +kernel
theorem d_Model_divided_45 : decode b_Model_divided 45 = .ok (.iaload, 1) := by decide +kernel
theorem d_Model_divided_46 : decode b_Model_divided 46 = .ok (.i2l, 1) := by decide +kernel
theorem d_Model_divided_47 : decode b_Model_divided 47 = .ok (.lor, 1) := by decide +kernel
theorem d_Model_divided_48 : decode b_Model_divided 48 = .ok (.lstore 6, 2) := by decide +kernel
theorem d_Model_divided_50 : decode b_Model_divided 50 = .ok (.aload 5, 2) := by decide +kernel
theorem d_Model_divided_52 : decode b_Model_divided 52 = .ok (.iload 8, 2) := by decide +kernel
theorem d_Model_divided_54 : decode b_Model_divided 54 = .ok (.lload 6, 2) := by decide +kernel
theorem d_Model_divided_56 : decode b_Model_divided 56 = .ok (.aload_n 3, 1) := by decide +kernel
theorem d_Model_divided_57 : decode b_Model_divided 57 = .ok (.iconst 0, 1) := by decide +kernel
theorem d_Model_divided_58 : decode b_Model_divided 58 = .ok (.iaload, 1) := by decide +kernel
theorem d_Model_divided_59 : decode b_Model_divided 59 = .ok (.i2l, 1) := by decide +kernel
theorem d_Model_divided_60 : decode b_Model_divided 60 = .ok (.ldiv, 1) := by decide +kernel
theorem d_Model_divided_61 : decode b_Model_divided 61 = .ok (.l2i, 1) := by decide +kernel
theorem d_Model_divided_62 : decode b_Model_divided 62 = .ok (.iastore, 1) := by decide +kernel
theorem d_Model_divided_63 : decode b_Model_divided 63 = .ok (.lload 6, 2) := by decide +kernel
theorem d_Model_divided_65 : decode b_Model_divided 65 = .ok (.aload_n 3, 1) := by decide +kernel
theorem d_Model_divided_66 : decode b_Model_divided 66 = .ok (.iconst 0, 1) := by decide +kernel
theorem d_Model_divided_67 : decode b_Model_divided 67 = .ok (.iaload, 1) := by decide +kernel
theorem d_Model_divided_68 : decode b_Model_divided 68 = .ok (.i2l, 1) := by decide +kernel
theorem d_Model_divided_69 : decode b_Model_divided 69 = .ok (.lrem, 1) := by decide +kernel
theorem d_Model_divided_70 : decode b_Model_divided 70 = .ok (.lstore 6, 2) := by decide +kernel
theorem d_Model_divided_72 : decode b_Model_divided 72 = .ok (.aload_n 1, 1) := by decide +kernel
theorem d_Model_divided_73 : decode b_Model_divided 73 = .ok (.iload 8, 2) := by decide +kernel
theorem d_Model_divided_75 : decode b_Model_divided 75 = .ok (.iconst 0, 1) := by decide +kernel
theorem d_Model_divided_76 : decode b_Model_divided 76 = .ok (.iastore, 1) := by decide +kernel
theorem d_Model_divided_77 : decode b_Model_divided 77 = .ok (.iinc 8 (-1), 3) := by decide +kernel
theorem d_Model_divided_80 : decode b_Model_divided 80 = .ok (.goto (-48), 3) := by decide +kernel
theorem d_Model_divided_83 : decode b_Model_divided 83 = .ok (.aload_n 0, 1) := by decide +kernel
theorem d_Model_divided_84 : decode b_Model_divided 84 = .ok (.aload 5, 2) := by decide +kernel
theorem d_Model_divided_86 : decode b_Model_divided 86 = .ok (.iload_n 2, 1) := by decide +kernel
theorem d_Model_divided_87 : decode b_Model_divided 87 = .ok (.invokestatic 149, 3) := by decide +kernel
theorem d_Model_divided_90 : decode b_Model_divided 90 = .ok (.putfield 159, 3) := by decide +kernel
theorem d_Model_divided_93 : decode b_Model_divided 93 = .ok (.aload_n 1, 1) := by decide +kernel
theorem d_Model_divided_94 : decode b_Model_divided 94 = .ok (.iconst 0, 1) := by decide +kernel
theorem d_Model_divided_95 : decode b_Model_divided 95 = .ok (.lload 6, 2) := by decide +kernel
theorem d_Model_divided_97 : decode b_Model_divided 97 = .ok (.l2i, 1) := by decide +kernel
theorem d_Model_divided_98 : decode b_Model_divided 98 = .ok (.iastore, 1) := by decide +kernel
theorem d_Model_divided_99 : decode b_Model_divided 99 = .ok (.aload_n 1, 1) := by decide +kernel
theorem d_Model_divided_100 : decode b_Model_divided 100 = .ok (.iconst 1, 1) := by decide +kernel
theorem d_Model_divided_101 : decode b_Model_divided 101 = .ok (.invokestatic 149, 3) := by decide +kernel
theorem d_Model_divided_104 : decode b_Model_divided 104 = .ok (.ireturn, 1) := by decide +kernel
theorem d_Model_divided_105 : decode b_Model_divided 105 = .ok (.iconst 0, 1) := by decide +kernel
theorem d_Model_divided_106 : decode b_Model_divided 106 = .ok (.istore 6, 2) := by decide +kernel
theorem d_Model_divided_108 : decode b_Model_divided 108 = .ok (.aload_n 3, 1) := by decide +kernel
theorem d_Model_divided_109 : decode b_Model_divided 109 = .ok (.iload 4, 2) := by decide +kernel
theorem d_Model_divided_111 : decode b_Model_divided 111 = .ok (.iconst 1, 1) := by decide +kernel
theorem d_Model_divided_112 : decode b_Model_divided 112 = .ok (.isub, 1) := by decide +kernel
theorem d_Model_divided_113 : decode b_Model_divided 113 = .ok (.iaload, 1) := by decide +kernel
theorem d_Model_divided_114 : decode b_Model_divided 114 = .ok (.istore 7, 2) := by decide +kernel
theorem d_Model_divided_116 : decode b_Model_divided 116 = .ok (.iload 7, 2) := by decide +kernel
theorem d_Model_divided_118 : decode b_Model_divided 118 = .ok (.ldc 162, 2) := by decide +kernel
theorem d_Model_divided_120 : decode b_Model_divided 120 = .ok (.if_icmp .ge 15, 3) := by decide +kernel
theorem d_Model_divided_123 : decode b_Model_divided 123 = .ok (.iinc 6 1, 3) := by decide +kernel
theorem d_Model_divided_126 : decode b_Model_divided 126 = .ok (.iload 7, 2) := by decide +kernel
theorem d_Model_divided_128 : decode b_Model_divided 128 = .ok (.iconst 1, 1) := by decide +kernel
theorem d_Model_divided_129 : decode b_Model_divided 129 = .ok (.ishl, 1) := by decide +kernel
theorem d_Model_divided_130 : decode b_Model_divided 130 = .ok (.istore 7, 2) := by decide +kernel
theorem d_Model_divided_132 : decode b_Model_divided 132 = .ok (.goto (-16), 3) := by decide +kernel
theorem d_Model_divided_135 : decode b_Model_divided 135 = .ok (.iload 4, 2) := by decide +kernel
theorem d_Model_divided_137 : decode b_Model_divided 137 = .ok (.iconst 1, 1) := by decide +kernel
theorem d_Model_divided_138 : decode b_Model_divided 138 = .ok (.isub, 1) := by decide +kernel
theorem d_Model_divided_139 : decode b_Model_divided 139 = .ok (.istore 7, 2) := by decide +kernel
theorem d_Model_divided_141 : decode b_Model_divided 141 = .ok (.iload 7, 2) := by decide +kernel
theorem d_Model_divided_143 : decode b_Model_divided 143 = .ok (.ifCond .lt 48, 3) := by decide +kernel
theorem d_Model_divided_146 : decode b_Model_divided 146 = .ok (.aload_n 0, 1) := by decide +kernel
theorem d_Model_divided_147 : decode b_Model_divided 147 = .ok (.getfield 31, 3) := by decide +kernel
theorem d_Model_divided_150 : decode b_Model_divided 150 = .ok (.iload 7, 2) := by decide +kernel
theorem d_Model_divided_152 : decode b_Model_divided 152 = .ok (.aload_n 3, 1) := by decide +kernel
theorem d_Model_divided_153 : decode b_Model_divided 153 = .ok (.iload 7, 2) := by decide +kernel
theorem d_Model_divided_155 : decode b_Model_divided 155 = .ok (.iaload, 1) := by decide +kernel
theorem d_Model_divided_156 : decode b_Model_divided 156 = .ok (.iload 6, 2) := by decide +kernel
theorem d_Model_divided_158 : decode b_Model_divided 158 = .ok (.ishl, 1) := by decide +kernel
theorem d_Model_divided_159 : decode b_Model_divided 159 = .ok (.iload 7, 2) := by decide +kernel
theorem d_Model_divided_161 : decode b_Model_divided 161 = .ok (.ifCond .le 18, 3) := by decide +kernel
theorem d_Model_divided_164 : decode b_Model_divided 164 = .ok (.aload_n 3, 1) := by decide +kernel
theorem d_Model_divided_165 : decode b_Model_divided 165 = .ok (.iload 7, 2) := by decide +kernel
theorem d_Model_divided_167 : decode b_Model_divided 167 = .ok (.iconst 1, 1) := by decide +kernel
theorem d_Model_divided_168 : decode b_Model_divided 168 = .ok (.isub, 1) := by decide +kernel
theorem d_Model_divided_169 : decode b_Model_divided 169 = .ok (.iaload, 1) := by decide +kernel
theorem d_Model_divided_170 : decode b_Model_divided 170 = .ok (.bipush 16, 2) := by decide +kernel
theorem d_Model_divided_172 : decode b_Model_divided 172 = .ok (.iload 6, 2) := by decide +kernel
theorem d_Model_divided_174 : decode b_Model_divided 174 = .ok (.isub, 1) := by decide +kernel
theorem d_Model_divided_175 : decode b_Model_divided 175 = .ok (.ishr, 1) := by decide +kernel
theorem d_Model_divided_176 : decode b_Model_divided 176 = .ok (.goto 4, 3) := by decide +kernel
theorem d_Model_divided_179 : decode b_Model_divided 179 = .ok (.iconst 0, 1) := by decide +kernel
theorem d_Model_divided_180 : decode b_Model_divided 180 = .ok (.ior, 1) := by decide +kernel
theorem d_Model_divided_181 : decode b_Model_divided 181 = .ok (.ldc 148, 2) := by decide +kernel
theorem d_Model_divided_183 : decode b_Model_divided 183 = .ok (.iand, 1) := by decide +kernel
theorem d_Model_divided_184 : decode b_Model_divided 184 = .ok (.iastore, 1) := by decide +kernel
theorem d_Model_divided_185 : decode b_Model_divided 185 = .ok (.iinc 7 (-1), 3) := by decide +kernel
theorem d_Model_divided_188 : decode b_Model_divided 188 = .ok (.goto (-47), 3) := by decide +kernel
theorem d_Model_divided_191 : decode b_Model_divided 191 = .ok (.aload_n 1, 1) := by decide +kernel
theorem d_Model_divided_192 : decode b_Model_divided 192 = .ok (.iload_n 2, 1) := by decide +kernel
theorem d_Model_divided_193 : decode b_Model_divided 193 = .ok (.iconst 0, 1) := by decide +kernel
theorem d_Model_divided_194 : decode b_Model_divided 194 = .ok (.iastore, 1) := by decide +kernel
theorem d_Model_divided_195 : decode b_Model_divided 195 = .ok (.iload_n 2, 1) := by decide +kernel
theorem d_Model_divided_196 : decode b_Model_divided 196 = .ok (.istore 7, 2) := by decide +kernel
theorem d_Model_divided_198 : decode b_Model_divided 198 = .ok (.iload 7, 2) := by decide +kernel
theorem d_Model_divided_200 : decode b_Model_divided 200 = .ok (.ifCond .lt 45, 3) := by decide +kernel
theorem d_Model_divided_203 : decode b_Model_divided 203 = .ok (.aload_n 1, 1) := by decide +kernel
theorem d_Model_divided_204 : decode b_Model_divided 204 = .ok (.iload 7, 2) := by decide +kernel
theorem d_Model_divided_206 : decode b_Model_divided 206 = .ok (.aload_n 1, 1) := by decide +kernel
theorem d_Model_divided_207 : decode b_Model_divided 207 = .ok (.iload 7, 2) := by decide +kernel
theorem d_Model_divided_209 : decode b_Model_divided 209 = .ok (.iaload, 1) := by decide +kernel
theorem d_Model_divided_210 : decode b_Model_divided 210 = .ok (.iload 6, 2) := by decide +kernel
theorem d_Model_divided_212 : decode b_Model_divided 212 = .ok (.ishl, 1) := by decide +kernel
theorem d_Model_divided_213 : decode b_Model_divided 213 = .ok (.iload 7, 2) := by decide +kernel
theorem d_Model_divided_215 : decode b_Model_divided 215 = .ok (.ifCond .le 18, 3) := by decide +kernel
theorem d_Model_divided_218 : decode b_Model_divided 218 = .ok (.aload_n 1, 1) := by decide +kernel
theorem d_Model_divided_219 : decode b_Model_divided 219 = .ok (.iload 7, 2) := by decide +kernel
theorem d_Model_divided_221 : decode b_Model_divided 221 = .ok (.iconst 1, 1) := by decide +kernel
theorem d_Model_divided_222 : decode b_Model_divided 222 = .ok (.isub, 1) := by decide +kernel
theorem d_Model_divided_223 : decode b_Model_divided 223 = .ok (.iaload, 1) := by decide +kernel
theorem d_Model_divided_224 : decode b_Model_divided 224 = .ok (.bipush 16, 2) := by decide +kernel
theorem d_Model_divided_226 : decode b_Model_divided 226 = .ok (.iload 6, 2) := by decide +kernel
theorem d_Model_divided_228 : decode b_Model_divided 228 = .ok (.isub, 1) := by decide +kernel
theorem d_Model_divided_229 : decode b_Model_divided 229 = .ok (.ishr, 1) := by decide +kernel
theorem d_Model_divided_230 : decode b_Model_divided 230 = .ok (.goto 4, 3) := by decide +kernel
theorem d_Model_divided_233 : decode b_Model_divided 233 = .ok (.iconst 0, 1) := by decide +kernel
theorem d_Model_divided_234 : decode b_Model_divided 234 = .ok (.ior, 1) := by decide +kernel
theorem d_Model_divided_235 : decode b_Model_divided 235 = .ok (.ldc 148, 2) := by decide +kernel
theorem d_Model_divided_237 : decode b_Model_divided 237 = .ok (.iand, 1) := by decide +kernel
theorem d_Model_divided_238 : decode b_Model_divided 238 = .ok (.iastore, 1) := by decide +kernel
theorem d_Model_divided_239 : decode b_Model_divided 239 = .ok (.iinc 7 (-1), 3) := by decide +kernel
theorem d_Model_divided_242 : decode b_Model_divided 242 = .ok (.goto (-44), 3) := by decide +kernel
theorem d_Model_divided_245 : decode b_Model_divided 245 = .ok (.iload_n 2, 1) := by decide +kernel
theorem d_Model_divided_246 : decode b_Model_divided 246 = .ok (.iload 4, 2) := by decide +kernel
theorem d_Model_divided_248 : decode b_Model_divided 248 = .ok (.isub, 1) := by decide +kernel
theorem d_Model_divided_249 : decode b_Model_divided 249 = .ok (.istore 7, 2) := by decide +kernel
theorem d_Model_divided_251 : decode b_Model_divided 251 = .ok (.iload 7, 2) := by decide +kernel
theorem d_Model_divided_253 : decode b_Model_divided 253 = .ok (.ifCond .lt 329, 3) := by decide +kernel
theorem d_Model_divided_256 : decode b_Model_divided 256 = .ok (.aload_n 1, 1) := by decide +kernel
theorem d_Model_divided_257 : decode b_Model_divided 257 = .ok (.iload 7, 2) := by decide +kernel
theorem d_Model_divided_259 : decode b_Model_divided 259 = .ok (.iload 4, 2) := by decide +kernel
theorem d_Model_divided_261 : decode b_Model_divided 261 = .ok (.iadd, 1) := by decide +kernel
theorem d_Model_divided_262 : decode b_Model_divided 262 = .ok (.iaload, 1) := by decide +kernel
theorem d_Model_divided_263 : decode b_Model_divided 263 = .ok (.i2l, 1) := by decide +kernel
theorem d_Model_divided_264 : decode b_Model_divided 264 = .ok (.bipush 16, 2) := by decide +kernel
theorem d_Model_divided_266 : decode b_Model_divided 266 = .ok (.lshl, 1) := by decide +kernel
theorem d_Model_divided_267 : decode b_Model_divided 267 = .ok (.aload_n 1, 1) := by decide +kernel
theorem d_Model_divided_268 : decode b_Model_divided 268 = .ok (.iload 7, 2) := by decide +kernel
theorem d_Model_divided_270 : decode b_Model_divided 270 = .ok (.iload 4, 2) := by decide +kernel
theorem d_Model_divided_272 : decode b_Model_divided 272 = .ok (.iadd, 1) := by decide +kernel
theorem d_Model_divided_273 : decode b_Model_divided 273 = .ok (.iconst 1, 1) := by decide +kernel
theorem d_Model_divided_274 : decode b_Model_divided 274 = .ok (.isub, 1) := by decide +kernel
theorem d_Model_divided_275 : decode b_Model_divided 275 = .ok (.iaload, 1) := by decide +kernel
theorem d_Model_divided_276 : decode b_Model_divided 276 = .ok (.i2l, 1) := by decide +kernel
theorem d_Model_divided_277 : decode b_Model_divided 277 = .ok (.lor, 1) := by decide +kernel
theorem d_Model_divided_278 : decode b_Model_divided 278 = .ok (.lstore 8, 2) := by decide +kernel
theorem d_Model_divided_280 : decode b_Model_divided 280 = .ok (.lload 8, 2) := by decide +kernel
theorem d_Model_divided_282 : decode b_Model_divided 282 = .ok (.aload_n 0, 1) := by decide +kernel
theorem d_Model_divided_283 : decode b_Model_divided 283 = .ok (.getfield 31, 3) := by decide +kernel
theorem d_Model_divided_286 : decode b_Model_divided 286 = .ok (.iload 4, 2) := by decide +kernel
theorem d_Model_divided_288 : decode b_Model_divided 288 = .ok (.iconst 1, 1) := by decide +kernel
theorem d_Model_divided_289 : decode b_Model_divided 289 = .ok (.isub, 1) := by decide +kernel
theorem d_Model_divided_290 : decode b_Model_divided 290 = .ok (.iaload, 1) := by decide +kernel
theorem d_Model_divided_291 : decode b_Model_divided 291 = .ok (.i2l, 1) := by decide +kernel
theorem d_Model_divided_292 : decode b_Model_divided 292 = .ok (.ldiv, 1) := by decide +kernel
theorem d_Model_divided_293 : decode b_Model_divided 293 = .ok (.lstore 10, 2) := by decide +kernel
theorem d_Model_divided_295 : decode b_Model_divided 295 = .ok (.lload 8, 2) := by decide +kernel
theorem d_Model_divided_297 : decode b_Model_divided 297 = .ok (.aload_n 0, 1) := by decide +kernel
theorem d_Model_divided_298 : decode b_Model_divided 298 = .ok (.getfield 31, 3) := by decide +kernel
theorem d_Model_divided_301 : decode b_Model_divided 301 = .ok (.iload 4, 2) := by decide +kernel
theorem d_Model_divided_303 : decode b_Model_divided 303 = .ok (.iconst 1, 1) := by decide +kernel
theorem d_Model_divided_304 : decode b_Model_divided 304 = .ok (.isub, 1) := by decide +kernel
theorem d_Model_divided_305 : decode b_Model_divided 305 = .ok (.iaload, 1) := by decide +kernel
theorem d_Model_divided_306 : decode b_Model_divided 306 = .ok (.i2l, 1) := by decide +kernel
theorem d_Model_divided_307 : decode b_Model_divided 307 = .ok (.lrem, 1) := by decide +kernel
theorem d_Model_divided_308 : decode b_Model_divided 308 = .ok (.lstore 12, 2) := by decide +kernel
theorem d_Model_divided_310 : decode b_Model_divided 310 = .ok (.lload 10, 2) := by decide +kernel
theorem d_Model_divided_312 : decode b_Model_divided 312 = .ok (.ldc2_w 153, 3) := by decide +kernel
theorem d_Model_divided_315 : decode b_Model_divided 315 = .ok (.lcmp, 1) := by decide +kernel
theorem d_Model_divided_316 : decode b_Model_divided 316 = .ok (.ifCond .gt 36, 3) := by decide +kernel
theorem d_Model_divided_319 : decode b_Model_divided 319 = .ok (.lload 10, 2) := by decide +kernel
theorem d_Model_divided_321 : decode b_Model_divided 321 = .ok (.aload_n 0, 1) := by decide +kernel
theorem d_Model_divided_322 : decode b_Model_divided 322 = .ok (.getfield 31, 3) := by decide +kernel
theorem d_Model_divided_325 : decode b_Model_divided 325 = .ok (.iload 4, 2) := by decide +kernel
theorem d_Model_divided_327 : decode b_Model_divided 327 = .ok (.iconst 2, 1) := by decide +kernel
theorem d_Model_divided_328 : decode b_Model_divided 328 = .ok (.isub, 1) := by decide +kernel
theorem d_Model_divided_329 : decode b_Model_divided 329 = .ok (.iaload, 1) := by decide +kernel
theorem d_Model_divided_330 : decode b_Model_divided 330 = .ok (.i2l, 1) := by decide +kernel
theorem d_Model_divided_331 : decode b_Model_divided 331 = .ok (.lmul, 1) := by decide +kernel
theorem d_Model_divided_332 : decode b_Model_divided 332 = .ok (.lload 12, 2) := by decide +kernel
theorem d_Model_divided_334 : decode b_Model_divided 334 = .ok (.bipush 16, 2) := by decide +kernel
theorem d_Model_divided_336 : decode b_Model_divided 336 = .ok (.lshl, 1) := by decide +kernel
theorem d_Model_divided_337 : decode b_Model_divided 337 = .ok (.aload_n 1, 1) := by decide +kernel
theorem d_Model_divided_338 : decode b_Model_divided 338 = .ok (.iload 7, 2) := by decide +kernel
theorem d_Model_divided_340 : decode b_Model_divided 340 = .ok (.iload 4, 2) := by decide +kernel
theorem d_Model_divided_342 : decode b_Model_divided 342 = .ok (.iadd, 1) := by decide +kernel
theorem d_Model_divided_343 : decode b_Model_divided 343 = .ok (.iconst 2, 1) := by decide +kernel
theorem d_Model_divided_344 : decode b_Model_divided 344 = .ok (.isub, 1) := by decide +kernel
theorem d_Model_divided_345 : decode b_Model_divided 345 = .ok (.iaload, 1) := by decide +kernel
theorem d_Model_divided_346 : decode b_Model_divided 346 = .ok (.i2l, 1) := by decide +kernel
theorem d_Model_divided_347 : decode b_Model_divided 347 = .ok (.lor, 1) := by decide +kernel
theorem d_Model_divided_348 : decode b_Model_divided 348 = .ok (.lcmp, 1) := by decide +kernel
theorem d_Model_divided_349 : decode b_Model_divided 349 = .ok (.ifCond .le 36, 3) := by decide +kernel
theorem d_Model_divided_352 : decode b_Model_divided 352 = .ok (.lload 10, 2) := by decide +kernel
theorem d_Model_divided_354 : decode b_Model_divided 354 = .ok (.lconst 1, 1) := by decide +kernel
theorem d_Model_divided_355 : decode b_Model_divided 355 = .ok (.lsub, 1) := by decide +kernel
theorem d_Model_divided_356 : decode b_Model_divided 356 = .ok (.lstore 10, 2) := by decide +kernel
theorem d_Model_divided_358 : decode b_Model_divided 358 = .ok (.lload 12, 2) := by decide +kernel
theorem d_Model_divided_360 : decode b_Model_divided 360 = .ok (.aload_n 0, 1) := by decide +kernel
theorem d_Model_divided_361 : decode b_Model_divided 361 = .ok (.getfield 31, 3) := by decide +kernel
theorem d_Model_divided_364 : decode b_Model_divided 364 = .ok (.iload 4, 2) := by decide +kernel
theorem d_Model_divided_366 : decode b_Model_divided 366 = .ok (.iconst 1, 1) := by decide +kernel
theorem d_Model_divided_367 : decode b_Model_divided 367 = .ok (.isub, 1) := by decide +kernel
theorem d_Model_divided_368 : decode b_Model_divided 368 = .ok (.iaload, 1) := by decide +kernel
theorem d_Model_divided_369 : decode b_Model_divided 369 = .ok (.i2l, 1) := by decide +kernel
theorem d_Model_divided_370 : decode b_Model_divided 370 = .ok (.ladd, 1) := by decide +kernel
theorem d_Model_divided_371 : decode b_Model_divided 371 = .ok (.lstore 12, 2) := by decide +kernel
theorem d_Model_divided_373 : decode b_Model_divided 373 = .ok (.lload 12, 2) := by decide +kernel
theorem d_Model_divided_375 : decode b_Model_divided 375 = .ok (.ldc2_w 153, 3) := by decide +kernel
theorem d_Model_divided_378 : decode b_Model_divided 378 = .ok (.lcmp, 1) := by decide +kernel
theorem d_Model_divided_379 : decode b_Model_divided 379 = .ok (.ifCond .le (-69), 3) := by decide +kernel
theorem d_Model_divided_382 : decode b_Model_divided 382 = .ok (.goto 3, 3) := by decide +kernel
theorem d_Model_divided_385 : decode b_Model_divided 385 = .ok (.lconst 0, 1) := by decide +kernel
theorem d_Model_divided_386 : decode b_Model_divided 386 = .ok (.lstore 14, 2) := by decide +kernel
theorem d_Model_divided_388 : decode b_Model_divided 388 = .ok (.iconst 0, 1) := by decide +kernel
theorem d_Model_divided_389 : decode b_Model_divided 389 = .ok (.istore 16, 2) := by decide +kernel
theorem d_Model_divided_391 : decode b_Model_divided 391 = .ok (.iload 16, 2) := by decide +kernel
theorem d_Model_divided_393 : decode b_Model_divided 393 = .ok (.iload 4, 2) := by decide +kernel
theorem d_Model_divided_395 : decode b_Model_divided 395 = .ok (.if_icmp .ge 55, 3) := by decide +kernel
theorem d_Model_divided_398 : decode b_Model_divided 398 = .ok (.lload 14, 2) := by decide +kernel
theorem d_Model_divided_400 : decode b_Model_divided 400 = .ok (.aload_n 1, 1) := by decide +kernel
theorem d_Model_divided_401 : decode b_Model_divided 401 = .ok (.iload 7, 2) := by decide +kernel
theorem d_Model_divided_403 : decode b_Model_divided 403 = .ok (.iload 16, 2) := by decide +kernel
theorem d_Model_divided_405 : decode b_Model_divided 405 = .ok (.iadd, 1) := by decide +kernel
theorem d_Model_divided_406 : decode b_Model_divided 406 = .ok (.iaload, 1) := by decide +kernel
theorem d_Model_divided_407 : decode b_Model_divided 407 = .ok (.i2l, 1) := by decide +kernel
theorem d_Model_divided_408 : decode b_Model_divided 408 = .ok (.lload 10, 2) := by decide +kernel
theorem d_Model_divided_410 : decode b_Model_divided 410 = .ok (.aload_n 0, 1) := by decide +kernel
theorem d_Model_divided_411 : decode b_Model_divided 411 = .ok (.getfield 31, 3) := by decide +kernel
theorem d_Model_divided_414 : decode b_Model_divided 414 = .ok (.iload 16, 2) := by decide +kernel
theorem d_Model_divided_416 : decode b_Model_divided 416 = .ok (.iaload, 1) := by decide +kernel
theorem d_Model_divided_417 : decode b_Model_divided 417 = .ok (.i2l, 1) := by decide +kernel
theorem d_Model_divided_418 : decode b_Model_divided 418 = .ok (.lmul, 1) := by decide +kernel
theorem d_Model_divided_419 : decode b_Model_divided 419 = .ok (.lsub, 1) := by decide +kernel
theorem d_Model_divided_420 : decode b_Model_divided 420 = .ok (.ladd, 1) := by decide +kernel
theorem d_Model_divided_421 : decode b_Model_divided 421 = .ok (.lstore 14, 2) := by decide +kernel
theorem d_Model_divided_423 : decode b_Model_divided 423 = .ok (.aload_n 1, 1) := by decide +kernel
theorem d_Model_divided_424 : decode b_Model_divided 424 = .ok (.iload 7, 2) := by decide +kernel
theorem d_Model_divided_426 : decode b_Model_divided 426 = .ok (.iload 16, 2) := by decide +kernel
theorem d_Model_divided_428 : decode b_Model_divided 428 = .ok (.iadd, 1) := by decide +kernel
theorem d_Model_divided_429 : decode b_Model_divided 429 = .ok (.lload 14, 2) := by decide +kernel
theorem d_Model_divided_431 : decode b_Model_divided 431 = .ok (.ldc2_w 153, 3) := by decide +kernel
theorem d_Model_divided_434 : decode b_Model_divided 434 = .ok (.land, 1) := by decide +kernel
theorem d_Model_divided_435 : decode b_Model_divided 435 = .ok (.l2i, 1) := by decide +kernel
theorem d_Model_divided_436 : decode b_Model_divided 436 = .ok (.iastore, 1) := by decide +kernel
theorem d_Model_divided_437 : decode b_Model_divided 437 = .ok (.lload 14, 2) := by decide +kernel
theorem d_Model_divided_439 : decode b_Model_divided 439 = .ok (.bipush 16, 2) := by decide +kernel
theorem d_Model_divided_441 : decode b_Model_divided 441 = .ok (.lshr, 1) := by decide +kernel
theorem d_Model_divided_442 : decode b_Model_divided 442 = .ok (.lstore 14, 2) := by decide +kernel
theorem d_Model_divided_444 : decode b_Model_divided 444 = .ok (.iinc 16 1, 3) := by decide +kernel
theorem d_Model_divided_447 : decode b_Model_divided 447 = .ok (.goto (-56), 3) := by decide +kernel
theorem d_Model_divided_450 : decode b_Model_divided 450 = .ok (.lload 14, 2) := by decide +kernel
theorem d_Model_divided_452 : decode b_Model_divided 452 = .ok (.aload_n 1, 1) := by decide +kernel
theorem d_Model_divided_453 : decode b_Model_divided 453 = .ok (.iload 7, 2) := by decide +kernel
theorem d_Model_divided_455 : decode b_Model_divided 455 = .ok (.iload 4, 2) := by decide +kernel
theorem d_Model_divided_457 : decode b_Model_divided 457 = .ok (.iadd, 1) := by decide +kernel
theorem d_Model_divided_458 : decode b_Model_divided 458 = .ok (.iaload, 1) := by decide +kernel
theorem d_Model_divided_459 : decode b_Model_divided 459 = .ok (.i2l, 1) := by decide +kernel
theorem d_Model_divided_460 : decode b_Model_divided 460 = .ok (.ladd, 1) := by decide +kernel
theorem d_Model_divided_461 : decode b_Model_divided 461 = .ok (.lstore 14, 2) := by decide +kernel
theorem d_Model_divided_463 : decode b_Model_divided 463 = .ok (.aload_n 1, 1) := by decide +kernel
theorem d_Model_divided_464 : decode b_Model_divided 464 = .ok (.iload 7, 2) := by decide +kernel
theorem d_Model_divided_466 : decode b_Model_divided 466 = .ok (.iload 4, 2) := by decide +kernel
theorem d_Model_divided_468 : decode b_Model_divided 468 = .ok (.iadd, 1) := by decide +kernel
theorem d_Model_divided_469 : decode b_Model_divided 469 = .ok (.lload 14, 2) := by decide +kernel
theorem d_Model_divided_471 : decode b_Model_divided 471 = .ok (.ldc2_w 153, 3) := by decide +kernel
theorem d_Model_divided_474 : decode b_Model_divided 474 = .ok (.land, 1) := by decide +kernel
theorem d_Model_divided_475 : decode b_Model_divided 475 = .ok (.l2i, 1) := by decide +kernel
theorem d_Model_divided_476 : decode b_Model_divided 476 = .ok (.iastore, 1) := by decide +kernel
theorem d_Model_divided_477 : decode b_Model_divided 477 = .ok (.lload 14, 2) := by decide +kernel
theorem d_Model_divided_479 : decode b_Model_divided 479 = .ok (.lconst 0, 1) := by decide +kernel
theorem d_Model_divided_480 : decode b_Model_divided 480 = .ok (.lcmp, 1) := by decide +kernel
theorem d_Model_divided_481 : decode b_Model_divided 481 = .ok (.ifCond .ge 87, 3) := by decide +kernel
theorem d_Model_divided_484 : decode b_Model_divided 484 = .ok (.lload 10, 2) := by decide +kernel
theorem d_Model_divided_486 : decode b_Model_divided 486 = .ok (.lconst 1, 1) := by decide +kernel
theorem d_Model_divided_487 : decode b_Model_divided 487 = .ok (.lsub, 1) := by decide +kernel
theorem d_Model_divided_488 : decode b_Model_divided 488 = .ok (.lstore 10, 2) := by decide +kernel
theorem d_Model_divided_490 : decode b_Model_divided 490 = .ok (.iconst 0, 1) := by decide +kernel
theorem d_Model_divided_491 : decode b_Model_divided 491 = .ok (.istore 16, 2) := by decide +kernel
theorem d_Model_divided_493 : decode b_Model_divided 493 = .ok (.iconst 0, 1) := by decide +kernel
theorem d_Model_divided_494 : decode b_Model_divided 494 = .ok (.istore 17, 2) := by decide +kernel
theorem d_Model_divided_496 : decode b_Model_divided 496 = .ok (.iload 17, 2) := by decide +kernel
theorem d_Model_divided_498 : decode b_Model_divided 498 = .ok (.iload 4, 2) := by decide +kernel
theorem d_Model_divided_500 : decode b_Model_divided 500 = .ok (.if_icmp .ge 48, 3) := by decide +kernel
theorem d_Model_divided_503 : decode b_Model_divided 503 = .ok (.iload 16, 2) := by decide +kernel
theorem d_Model_divided_505 : decode b_Model_divided 505 = .ok (.aload_n 1, 1) := by decide +kernel
theorem d_Model_divided_506 : decode b_Model_divided 506 = .ok (.iload 7, 2) := by decide +kernel
theorem d_Model_divided_508 : decode b_Model_divided 508 = .ok (.iload 17, 2) := by decide +kernel
theorem d_Model_divided_510 : decode b_Model_divided 510 = .ok (.iadd, 1) := by decide +kernel
theorem d_Model_divided_511 : decode b_Model_divided 511 = .ok (.iaload, 1) := by decide +kernel
theorem d_Model_divided_512 : decode b_Model_divided 512 = .ok (.aload_n 0, 1) := by decide +kernel
theorem d_Model_divided_513 : decode b_Model_divided 513 = .ok (.getfield 31, 3) := by decide +kernel
theorem d_Model_divided_516 : decode b_Model_divided 516 = .ok (.iload 17, 2) := by decide +kernel
theorem d_Model_divided_518 : decode b_Model_divided 518 = .ok (.iaload, 1) := by decide +kernel
theorem d_Model_divided_519 : decode b_Model_divided 519 = .ok (.iadd, 1) := by decide +kernel
theorem d_Model_divided_520 : decode b_Model_divided 520 = .ok (.iadd, 1) := by decide +kernel
theorem d_Model_divided_521 : decode b_Model_divided 521 = .ok (.istore 16, 2) := by decide +kernel
theorem d_Model_divided_523 : decode b_Model_divided 523 = .ok (.aload_n 1, 1) := by decide +kernel
theorem d_Model_divided_524 : decode b_Model_divided 524 = .ok (.iload 7, 2) := by decide +kernel
theorem d_Model_divided_526 : decode b_Model_divided 526 = .ok (.iload 17, 2) := by decide +kernel
theorem d_Model_divided_528 : decode b_Model_divided 528 = .ok (.iadd, 1) := by decide +kernel
theorem d_Model_divided_529 : decode b_Model_divided 529 = .ok (.iload 16, 2) := by decide +kernel
theorem d_Model_divided_531 : decode b_Model_divided 531 = .ok (.ldc 148, 2) := by decide +kernel
theorem d_Model_divided_533 : decode b_Model_divided 533 = .ok (.iand, 1) := by decide +kernel
theorem d_Model_divided_534 : decode b_Model_divided 534 = .ok (.iastore, 1) := by decide +kernel
theorem d_Model_divided_535 : decode b_Model_divided 535 = .ok (.iload 16, 2) := by decide +kernel
theorem d_Model_divided_537 : decode b_Model_divided 537 = .ok (.bipush 16, 2) := by decide +kernel
theorem d_Model_divided_539 : decode b_Model_divided 539 = .ok (.ishr, 1) := by decide +kernel
theorem d_Model_divided_540 : decode b_Model_divided 540 = .ok (.istore 16, 2) := by decide +kernel
theorem d_Model_divided_542 : decode b_Model_divided 542 = .ok (.iinc 17 1, 3) := by decide +kernel
theorem d_Model_divided_545 : decode b_Model_divided 545 = .ok (.goto (-49), 3) := by decide +kernel
theorem d_Model_divided_548 : decode b_Model_divided 548 = .ok (.aload_n 1, 1) := by decide +kernel
theorem d_Model_divided_549 : decode b_Model_divided 549 = .ok (.iload 7, 2) := by decide +kernel
theorem d_Model_divided_551 : decode b_Model_divided 551 = .ok (.iload 4, 2) := by decide +kernel
theorem d_Model_divided_553 : decode b_Model_divided 553 = .ok (.iadd, 1) := by decide +kernel
theorem d_Model_divided_554 : decode b_Model_divided 554 = .ok (.aload_n 1, 1) := by decide +kernel
theorem d_Model_divided_555 : decode b_Model_divided 555 = .ok (.iload 7, 2) := by decide +kernel
theorem d_Model_divided_557 : decode b_Model_divided 557 = .ok (.iload 4, 2) := by decide +kernel
theorem d_Model_divided_559 : decode b_Model_divided 559 = .ok (.iadd, 1) := by decide +kernel
theorem d_Model_divided_560 : decode b_Model_divided 560 = .ok (.iaload, 1) := by decide +kernel
theorem d_Model_divided_561 : decode b_Model_divided 561 = .ok (.iload 16, 2) := by decide +kernel
theorem d_Model_divided_563 : decode b_Model_divided 563 = .ok (.iadd, 1) := by decide +kernel
theorem d_Model_divided_564 : decode b_Model_divided 564 = .ok (.ldc 148, 2) := by decide +kernel
theorem d_Model_divided_566 : decode b_Model_divided 566 = .ok (.iand, 1) := by decide +kernel
theorem d_Model_divided_567 : decode b_Model_divided 567 = .ok (.iastore, 1) := by decide +kernel
theorem d_Model_divided_568 : decode b_Model_divided 568 = .ok (.aload 5, 2) := by decide +kernel
theorem d_Model_divided_570 : decode b_Model_divided 570 = .ok (.iload 7, 2) := by decide +kernel
theorem d_Model_divided_572 : decode b_Model_divided 572 = .ok (.lload 10, 2) := by decide +kernel
theorem d_Model_divided_574 : decode b_Model_divided 574 = .ok (.l2i, 1) := by decide +kernel
theorem d_Model_divided_575 : decode b_Model_divided 575 = .ok (.iastore, 1) := by decide +kernel
theorem d_Model_divided_576 : decode b_Model_divided 576 = .ok (.iinc 7 (-1), 3) := by decide +kernel
theorem d_Model_divided_579 : decode b_Model_divided 579 = .ok (.goto (-328), 3) := by decide +kernel
theorem d_Model_divided_582 : decode b_Model_divided 582 = .ok (.aload_n 0, 1) := by decide +kernel
theorem d_Model_divided_583 : decode b_Model_divided 583 = .ok (.aload 5, 2) := by decide +kernel
theorem d_Model_divided_585 : decode b_Model_divided 585 = .ok (.iload_n 2, 1) := by decide +kernel
theorem d_Model_divided_586 : decode b_Model_divided 586 = .ok (.iload 4, 2) := by decide +kernel
theorem d_Model_divided_588 : decode b_Model_divided 588 = .ok (.isub, 1) := by decide +kernel
theorem d_Model_divided_589 : decode b_Model_divided 589 = .ok (.iconst 1, 1) := by decide +kernel
theorem d_Model_divided_590 : decode b_Model_divided 590 = .ok (.iadd, 1) := by decide +kernel
theorem d_Model_divided_591 : decode b_Model_divided 591 = .ok (.invokestatic 149, 3) := by decide +kernel
theorem d_Model_divided_594 : decode b_Model_divided 594 = .ok (.putfield 159, 3) := by decide +kernel
theorem d_Model_divided_597 : decode b_Model_divided 597 = .ok (.iconst 0, 1) := by decide +kernel
theorem d_Model_divided_598 : decode b_Model_divided 598 = .ok (.istore 7, 2) := by decide +kernel
theorem d_Model_divided_600 : decode b_Model_divided 600 = .ok (.iload 7, 2) := by decide +kernel
theorem d_Model_divided_602 : decode b_Model_divided 602 = .ok (.iload 4, 2) := by decide +kernel
theorem d_Model_divided_604 : decode b_Model_divided 604 = .ok (.if_icmp .ge 49, 3) := by decide +kernel
theorem d_Model_divided_607 : decode b_Model_divided 607 = .ok (.aload_n 1, 1) := by decide +kernel
theorem d_Model_divided_608 : decode b_Model_divided 608 = .ok (.iload 7, 2) := by decide +kernel
theorem d_Model_divided_610 : decode b_Model_divided 610 = .ok (.aload_n 1, 1) := by decide +kernel
theorem d_Model_divided_611 : decode b_Model_divided 611 = .ok (.iload 7, 2) := by decide +kernel
theorem d_Model_divided_613 : decode b_Model_divided 613 = .ok (.iaload, 1) := by decide +kernel
theorem d_Model_divided_614 : decode b_Model_divided 614 = .ok (.iload 6, 2) := by decide +kernel
theorem d_Model_divided_616 : decode b_Model_divided 616 = .ok (.ishr, 1) := by decide +kernel
theorem d_Model_divided_617 : decode b_Model_divided 617 = .ok (.iload 7, 2) := by decide +kernel
theorem d_Model_divided_619 : decode b_Model_divided 619 = .ok (.iconst 1, 1) := by decide +kernel
theorem d_Model_divided_620 : decode b_Model_divided 620 = .ok (.iadd, 1) := by decide +kernel
theorem d_Model_divided_621 : decode b_Model_divided 621 = .ok (.iload 4, 2) := by decide +kernel
theorem d_Model_divided_623 : decode b_Model_divided 623 = .ok (.if_icmp .gt 18, 3) := by decide +kernel
theorem d_Model_divided_626 : decode b_Model_divided 626 = .ok (.aload_n 1, 1) := by decide +kernel
theorem d_Model_divided_627 : decode b_Model_divided 627 = .ok (.iload 7, 2) := by decide +kernel
theorem d_Model_divided_629 : decode b_Model_divided 629 = .ok (.iconst 1, 1) := by decide +kernel
theorem d_Model_divided_630 : decode b_Model_divided 630 = .ok (.iadd, 1) := by decide +kernel
theorem d_Model_divided_631 : decode b_Model_divided 631 = .ok (.iaload, 1) := by decide +kernel
theorem d_Model_divided_632 : decode b_Model_divided 632 = .ok (.bipush 16, 2) := by decide +kernel
theorem d_Model_divided_634 : decode b_Model_divided 634 = .ok (.iload 6, 2) := by decide +kernel
theorem d_Model_divided_636 : decode b_Model_divided 636 = .ok (.isub, 1) := by decide +kernel
theorem d_Model_divided_637 : decode b_Model_divided 637 = .ok (.ishl, 1) := by decide +kernel
theorem d_Model_divided_638 : decode b_Model_divided 638 = .ok (.goto 4, 3) := by decide +kernel
theorem d_Model_divided_641 : decode b_Model_divided 641 = .ok (.iconst 0, 1) := by decide +kernel
theorem d_Model_divided_642 : decode b_Model_divided 642 = .ok (.ior, 1) := by decide +kernel
theorem d_Model_divided_643 : decode b_Model_divided 643 = .ok (.ldc 148, 2) := by decide +kernel
theorem d_Model_divided_645 : decode b_Model_divided 645 = .ok (.iand, 1) := by decide +kernel
theorem d_Model_divided_646 : decode b_Model_divided 646 = .ok (.iastore, 1) := by decide +kernel
theorem d_Model_divided_647 : decode b_Model_divided 647 = .ok (.iinc 7 1, 3) := by decide +kernel
theorem d_Model_divided_650 : decode b_Model_divided 650 = .ok (.goto (-50), 3) := by decide +kernel
theorem d_Model_divided_653 : decode b_Model_divided 653 = .ok (.aload_n 1, 1) := by decide +kernel
theorem d_Model_divided_654 : decode b_Model_divided 654 = .ok (.iload 4, 2) := by decide +kernel
theorem d_Model_divided_656 : decode b_Model_divided 656 = .ok (.invokestatic 149, 3) := by decide +kernel
theorem d_Model_divided_659 : decode b_Model_divided 659 = .ok (.ireturn, 1) := by decide +kernel
set_option maxHeartbeats 4000000 in
set_option maxRecDepth 100000 in
theorem m_Model_divided (l : Launch) (dC : Nat → ClassId) (dI : Nat → Nat → Nat) (sb : sB) (γ : cG) (κ : kE) (Ad : List Nat) (τ : Nat → TD) (gT : ClassId) (G : va_W) (mo a1 q1 : Nat) (moc msT mrV msP mrA mbA mwA mhA mfA mpA mxA myA mmA mqA mzA mwy mfd : Nat) (mer mfed mwr mct mls mqs msz mcz mch mft mpt mdp mvd mmk : Int32) (mnw : Int64) (n k1 : Nat) (fm fr : Nat → Int32) (sz : Nat) (hTy : TR γ κ Ad τ G) (kmo : Xc Ad mo (.inr (12, (.int mer :: .int mfed :: .int mwr :: .int mct :: .int mls :: .ref moc :: .ref msT :: .ref mrV :: .ref msP :: .int mqs :: .ref mrA :: .ref mbA :: .ref mwA :: .ref mhA :: .ref mfA :: .ref mpA :: .ref mxA :: .ref myA :: .ref mmA :: .ref mqA :: .ref mzA :: .ref mwy :: .ref mfd :: .int msz :: .int mcz :: .int mch :: .int mft :: .int mpt :: .int mdp :: .int mvd :: .long mnw :: .int mmk :: []))) G) (ka1 : tK κ Ad a1 (6, 600, 0)) (kmmA : Xc Ad mmA (.inl (γ.2.1, 600, .inl fm)) G) (kq1 : tK κ Ad q1 (6, 600, 0)) (kmrA : Xc Ad mrA (.inl (γ.2.1, 600, .inl fr)) G) (hx_mo_mmA : mo ≠ mmA) (hx_mo_mrA : mo ≠ mrA) (hx_mmA_mrA : mmA ≠ mrA) (hn : n ≤ 598) (hk1 : 1 ≤ k1) (hk2 : k1 ≤ 300) (hbt : ∃ t, 1 ≤ t ∧ t < 65536 ∧ fm (k1 - 1) = nI t) : Met l y_Model_divided w_Model_divided ({ frames := 1, cells := 0, slots := 0, locals := 24 }) (mu_P [.ref mo, .ref a1, .int (nI n), .ref mmA, .int (nI k1), .ref q1] (dC, dI) sb G [(γ.1, .byte), (γ.2.1, .int), (γ.2.2.1, .long), (γ.2.2.2, .object "java/lang/Object"), (gT, .object "TrustChainModel$Text")] sz) (va_Qi (fun r (G' : va_W) => TR γ κ Ad τ G' ∧ FL Ad [mo, mrA] G G' ∧ ((∃ k, k ≤ k1 ∧ r = nI k) ∧ (∃ q9 : Int32, Xc Ad mo (.inr (12, (.int mer :: .int mfed :: .int mwr :: .int mct :: .int mls :: .ref moc :: .ref msT :: .ref mrV :: .ref msP :: .int q9 :: .ref mrA :: .ref mbA :: .ref mwA :: .ref mhA :: .ref mfA :: .ref mpA :: .ref mxA :: .ref myA :: .ref mmA :: .ref mqA :: .ref mzA :: .ref mwy :: .ref mfd :: .int msz :: .int mcz :: .int mch :: .int mft :: .int mpt :: .int mdp :: .int mvd :: .long mnw :: .int mmk :: []))) G') ∧ Xc Ad mmA (.inl (γ.2.1, 600, .inl fm)) G' ∧ (∃ f9 : Nat → Int32, Xc Ad mrA (.inl (γ.2.1, 600, .inl f9)) G'))) (mu_B (dC, dI) [(γ.1, .byte), (γ.2.1, .int), (γ.2.2.1, .long), (γ.2.2.2, .object "java/lang/Object"), (gT, .object "TrustChainModel$Text")] (va_A G sz) (fun G' : va_W => G')) (va_A G sz)) 0 0 (va_A G sz) := by
  refine Met.ofW (cc := b_Model_divided) (maxL := 18) (ret := (some FieldType.int)) (by decide) rfl ?_
  intro p e s m args below meth c s₁ B hml hv
  obtain ⟨rfl, hsz, hB0, hP, hK, hD0, hN, hT0⟩ := hv
  have hx := B.exec
  have hb := B.bytes
  have hr := B.returns
  have hts := atoms_spec (ws := w_Model_divided) B.pre
  have tbin : ∀ w ∈ tb, w ∈ w_Model_divided := fun w h => List.mem_cons_of_mem _ h
  have htb : ∀ w ∈ tb, w.before _ s = true := fun w h => hts w (tbin w h)
  have hown : s.vm.findClass "TrustChainModel" = some m.cls := findClass_of_methodNamed B.named
  have hlocks := B.notSynchronized
  subst hsz
  have hD := hD0.self (sz := s.heap.size)
  generalize hAe : va_A G s.heap.size = A at hD ⊢
  have hA : ∀ q : Nat, s.heap.size ≤ q → A q := fun q h => by rw [← hAe]; exact Or.inr h
  have hAs : ∀ q : Nat, A q → sb.1 ≤ q := fun q h => by
    rw [← hAe] at h
    rcases h with ⟨k, e, h⟩ | h
    · exact hD0.2 k _ h
    · exact Nat.le_trans hB0 h
  have hS : va_S A s.heap s.heap [] := va_S.rf
  have hFR := FL.rf Ad [mo, mrA] G
  have hcs : 0 ≤ (headSpec w_Model_divided ({ frames := 1, cells := 0, slots := 0, locals := 24 })).room.cells ∧ 0 ≤ (headSpec w_Model_divided ({ frames := 1, cells := 0, slots := 0, locals := 24 })).room.slots := ⟨Nat.le_refl _, Nat.le_refl _⟩
  have hP : va_P (dC, dI) classes G s.heap := hP
  have hl := lv_entry ([.ref mo, .ref a1, .int (nI n), .ref mmA, .int (nI k1), .ref q1]) (n := 18) (Nat.le_of_ble_eq_true rfl)
  rw [lg_entry_eq]
  generalize (lg_sl ([.ref mo, .ref a1, .int (nI n), .ref mmA, .int (nI k1), .ref q1]) ++ List.replicate (18 - (lg_sl ([.ref mo, .ref a1, .int (nI n), .ref mmA, .int (nI k1), .ref q1])).length) Slot.unset).toArray = ls at hl ⊢
  have hl : lv_has ls 18 [(0, .ref mo), (1, .ref a1), (2, .int (nI n)), (3, .ref mmA), (4, .int (nI k1)), (5, .ref q1)] := hl
  obtain ⟨cX_mo, eX_mo⟩ : ∃ z : va_E, z = .inr (12, (.int mer :: .int mfed :: .int mwr :: .int mct :: .int mls :: .ref moc :: .ref msT :: .ref mrV :: .ref msP :: .int mqs :: .ref mrA :: .ref mbA :: .ref mwA :: .ref mhA :: .ref mfA :: .ref mpA :: .ref mxA :: .ref myA :: .ref mmA :: .ref mqA :: .ref mzA :: .ref mwy :: .ref mfd :: .int msz :: .int mcz :: .int mch :: .int mft :: .int mpt :: .int mdp :: .int mvd :: .long mnw :: .int mmk :: [])) := ⟨_, rfl⟩
  rw [← eX_mo] at kmo
  refine lv_aload_n hx hb d_Model_divided_0 rfl (lv_at hl 1 rfl) ?_
  refine lv_iload_n hx hb d_Model_divided_1 rfl (lv_at hl 2 rfl) ?_
  refine lv_aload_n hx hb d_Model_divided_2 rfl (lv_at hl 3 rfl) ?_
  refine lv_iload hx hb d_Model_divided_3 (lv_at hl 4 rfl) ?_
  refine vp_callSi (pu_callS (As := [.ref a1, .int (nI n), .ref mmA, .int (nI k1)]) (rest := []) ⟨hx, hb, hml, hown, hts⟩ tbin (p_Model_compared l dC dI sb γ κ Ad τ gT G a1 mmA _ _ _ hTy ka1 kmmA (by omega) (by omega)) q9_106 q9_107 q1_9 q9_108 (n := 4) (by decide +kernel) rfl ⟨rfl, rfl⟩ ⟨Nat.le_of_ble_eq_true rfl, Nat.le_of_ble_eq_true rfl⟩ ⟨Nat.le_of_ble_eq_true rfl, Nat.le_of_ble_eq_true rfl⟩ hN (hT0.keep hS hAs) hK hP (List.range G.length) (rg_all G) [0, 1, 2, 3, 4] rfl hl.1 rfl (Nat.le_of_ble_eq_true rfl) d_Model_divided_5) (fun r5 hr5 => ?_)
  refine lv_if_ge (tgt := 18) hx hb d_Model_divided_8 (by decide) (fun c8 => ?_) (fun c8 => ?_)
  · have p8 : (0 : Int32) ≤ r5 := c8
    have hkn : k1 ≤ n := hr5.2 (Int32.not_lt.mpr p8)
    obtain ⟨t, ht1, ht2, ht3⟩ := hbt
    refine lv_iload hx hb d_Model_divided_18 (lv_at hl 4 rfl) ?_
    refine lv_iconst (v := 1) hx hb d_Model_divided_20 (by decide) ?_
    refine lv_icmp_ne (tgt := 105) hx hb d_Model_divided_21 (by decide) (fun c21 => ?_) (fun c21 => ?_)
    · have p21 : ¬ (k1 = 1) := (fun q9 => c21 ((nI_eq (a := k1) (b := 1) (by omega) (by omega)).mpr q9))
      refine lv_iconst (v := 0) hx hb d_Model_divided_105 (by decide) ?_
      refine lv_istore (lv' := [(6, .int 0), (0, .ref mo), (1, .ref a1), (2, .int (nI n)), (3, .ref mmA), (4, .int (nI k1)), (5, .ref q1)]) hx hb d_Model_divided_106 hl (by decide) rfl (fun ls hl => ?_)
      refine lv_aload_n hx hb d_Model_divided_108 rfl (lv_at hl 4 rfl) ?_
      refine lv_iload hx hb d_Model_divided_109 (lv_at hl 5 rfl) ?_
      refine lv_iconst (v := 1) hx hb d_Model_divided_111 (by decide) ?_
      refine lv_isub hx hb d_Model_divided_112 ?_
      rw [show ((nI k1) - 1 : Int32) = nI (k1 - 1) from pk_sub (a := k1) (b := 1) (by omega)]
      obtain ⟨i_1, hg_1⟩ := List.getElem?_of_mem kmmA.2
      have h113 : vp_in (nI (k1 - 1)) 600 := vp_in_nI (by omega) (by omega)
      refine va_iald hx hb hK hP i_1 1 hg_1 rfl h113 d_Model_divided_113 ?_
      refine lv_topi (fun e113 he113 => ?_)
      refine lv_istore (lv' := [(7, .int e113), (6, .int 0), (0, .ref mo), (1, .ref a1), (2, .int (nI n)), (3, .ref mmA), (4, .int (nI k1)), (5, .ref q1)]) hx hb d_Model_divided_114 hl (by decide) rfl (fun ls hl => ?_)
      have e9 : e113 = nI (t * 2 ^ 0) := by rw [he113, nI_clamp (by omega), ht3, Nat.pow_zero, Nat.mul_one]
      rw [e9] at hl
      refine w_loop (α := Nat × Nat) (fun a9 => a9.2 = t * 2 ^ a9.1 ∧ a9.2 < 65536) (fun a9 => 65536 - a9.2) (fun a9 => [(7, .int (nI a9.2)), (6, .int (nI a9.1)), (0, .ref mo), (1, .ref a1), (2, .int (nI n)), (3, .ref mmA), (4, .int (nI k1)), (5, .ref q1)]) (fun _ => []) 18 116 (fun a9 ls hJ hl ih116 => ?_) (0, t * 2 ^ 0) ls ⟨rfl, by dsimp only; rw [Nat.pow_zero, Nat.mul_one]; exact ht2⟩ (lv_sub hl [0, 1, 2, 3, 4, 5, 6, 7] rfl)
      obtain ⟨kk, X⟩ := a9
      obtain ⟨hX, hX2⟩ := hJ
      dsimp only at hX hX2 hl ih116
      have hX1 : 1 ≤ X := by rw [hX]; exact Nat.mul_pos ht1 (Nat.two_pow_pos kk)
      have hkk : kk ≤ 15 := Classical.byContradiction (fun h => by
        have h1 : 2 ^ 16 ≤ 2 ^ kk := Nat.pow_le_pow_right (by omega) (by omega)
        have h2 : 1 * 2 ^ kk ≤ t * 2 ^ kk := Nat.mul_le_mul_right _ ht1
        omega)
      refine lv_iload hx hb d_Model_divided_116 (lv_at hl 0 rfl) ?_
      refine lv_ldc (v := 32768) hx hb hown (htb _ q9_125) d_Model_divided_118 ?_
      refine lv_icmp_ge (tgt := 135) hx hb d_Model_divided_120 (by decide) (fun c120 => ?_) (fun c120 => ?_)
      · have p120 : 32768 ≤ X := ((nI_leI (a := 32768) (b := X) (by omega) (by omega)).mp c120)
        refine lv_iload hx hb d_Model_divided_135 (lv_at hl 6 rfl) ?_
        refine lv_iconst (v := 1) hx hb d_Model_divided_137 (by decide) ?_
        refine lv_isub hx hb d_Model_divided_138 ?_
        rw [show ((nI k1) - 1 : Int32) = nI (k1 - 1) from pk_sub (a := k1) (b := 1) (by omega)]
        refine lv_istore (lv' := [(7, .int (nI (k1 - 1))), (6, .int (nI kk)), (0, .ref mo), (1, .ref a1), (2, .int (nI n)), (3, .ref mmA), (4, .int (nI k1)), (5, .ref q1)]) hx hb d_Model_divided_139 hl (by decide) rfl (fun ls hl => ?_)
        have hl : lv_has ls 18 [(7, .int (jD k1)), (6, .int (nI kk)), (0, .ref mo), (1, .ref a1), (2, .int (nI n)), (3, .ref mmA), (4, .int (nI k1)), (5, .ref q1)] := by rw [jD_pos (k := k1) (by omega)]; exact hl
        refine w_loopW (α := Nat × (Nat → Int32) × va_W) (fun a9 => a9.1 ≤ k1 ∧ TR γ κ Ad τ a9.2.2 ∧ FL Ad [mo, mrA] G a9.2.2 ∧ Xc Ad mo cX_mo a9.2.2 ∧ Xc Ad mmA (.inl (γ.2.1, 600, .inl fm)) a9.2.2 ∧ Xc Ad mrA (.inl (γ.2.1, 600, .inl a9.2.1)) a9.2.2 ∧ (a9.1 < k1 → ∃ r, 32768 ≤ r ∧ r < 65536 ∧ a9.2.1 (k1 - 1) = nI r)) (fun a9 => a9.1) (fun a9 => [(7, .int (jD a9.1)), (6, .int (nI kk)), (0, .ref mo), (1, .ref a1), (2, .int (nI n)), (3, .ref mmA), (4, .int (nI k1)), (5, .ref q1)]) (fun _ => []) (fun a9 => a9.2.2) 18 141 (fun a9 HL141 locs ls hJ hP hD hS hl ih141 => ?_) (k1, fr, G) _ _ ls ⟨by omega, hTy, hFR, kmo, kmmA, kmrA, fun h => absurd h (Nat.lt_irrefl _)⟩ hP hD hS (lv_sub hl [0, 1, 2, 3, 4, 5, 6, 7] rfl)
        obtain ⟨z141, f141_mrA, G141⟩ := a9
        obtain ⟨hz141, hTy, hFR, kmo, kmmA, kmrA, hJ141⟩ := hJ
        dsimp only at hz141 hTy hFR kmo kmmA kmrA hP hD hl ih141 hJ141
        obtain _ | z141 := z141
        · have hl : lv_has ls 18 [(7, .int (-1)), (6, .int (nI kk)), (0, .ref mo), (1, .ref a1), (2, .int (nI n)), (3, .ref mmA), (4, .int (nI k1)), (5, .ref q1)] := hl
          refine lv_iload hx hb d_Model_divided_141 (lv_at hl 0 rfl) ?_
          refine lv_if_lt (tgt := 191) hx hb d_Model_divided_143 (by decide) (fun c143 => ?_) (fun c143 => ?_)
          rotate_left
          · exact absurd c143 (by decide)
          obtain ⟨r9, hr1, hr2, hr3⟩ := hJ141 (by omega)
          refine lv_aload_n hx hb d_Model_divided_191 rfl (lv_at hl 3 rfl) ?_
          refine lv_iload_n hx hb d_Model_divided_192 rfl (lv_at hl 4 rfl) ?_
          refine lv_iconst (v := 0) hx hb d_Model_divided_193 (by decide) ?_
          obtain ⟨i_2, f_2, hn_2, hg_2⟩ := tr_6 hTy ka1
          have h194 : vp_in (nI n) 600 := vp_in_nI (by omega) (by omega)
          refine va_iast hx hb hK hP hD hS i_2 1 hg_2 rfl h194 d_Model_divided_194 (fun H194 locs hP hD2 hS => ?_)
          have hP : va_P (dC, dI) classes (G141.set i_2 (a1, .inl (γ.2.1, 600, .inl (upd f_2 (nI n).toNatClampNeg 0)))) H194 := hP
          have hD3 : va_D A (G141.set i_2 (a1, .inl (γ.2.1, 600, .inl (upd f_2 (nI n).toNatClampNeg 0)))) := hD2
          have hF1 := FR.set (c' := .inl (γ.2.1, 600, .inl (upd f_2 (nI n).toNatClampNeg 0))) hg_2 ka1.1
          have kmo := kmo.fr hF1
          have kmmA := kmmA.fr hF1
          have kmrA := kmrA.fr hF1
          have hFR := hFR.tr hF1.l
          clear hF1
          have hTy := TR.set (c' := .inl (γ.2.1, 600, .inl (upd f_2 (nI n).toNatClampNeg 0))) hTy hg_2 (okr_6 ka1 hn_2 _)
          have hD := hD3
          clear hD3 hD2
          generalize G141.set i_2 (a1, .inl (γ.2.1, 600, .inl (upd f_2 (nI n).toNatClampNeg 0))) = G_3 at hP hD hTy hFR kmo kmmA kmrA 
          refine lv_iload_n hx hb d_Model_divided_195 rfl (lv_at hl 4 rfl) ?_
          refine lv_istore (lv' := [(7, .int (nI n)), (6, .int (nI kk)), (0, .ref mo), (1, .ref a1), (2, .int (nI n)), (3, .ref mmA), (4, .int (nI k1)), (5, .ref q1)]) hx hb d_Model_divided_196 hl (by decide) rfl (fun ls hl => ?_)
          have hl : lv_has ls 18 [(7, .int (jD (n + 1))), (6, .int (nI kk)), (0, .ref mo), (1, .ref a1), (2, .int (nI n)), (3, .ref mmA), (4, .int (nI k1)), (5, .ref q1)] := by rw [jD_pos (k := (n + 1)) (by omega)]; exact hl
          refine w_loopW (α := Nat × va_W) (fun a9 => a9.1 ≤ (n + 1) ∧ TR γ κ Ad τ a9.2 ∧ FL Ad [mo, mrA] G a9.2 ∧ Xc Ad mo cX_mo a9.2 ∧ Xc Ad mmA (.inl (γ.2.1, 600, .inl fm)) a9.2 ∧ Xc Ad mrA (.inl (γ.2.1, 600, .inl f141_mrA)) a9.2) (fun a9 => a9.1) (fun a9 => [(7, .int (jD a9.1)), (6, .int (nI kk)), (0, .ref mo), (1, .ref a1), (2, .int (nI n)), (3, .ref mmA), (4, .int (nI k1)), (5, .ref q1)]) (fun _ => []) (fun a9 => a9.2) 18 198 (fun a9 HL198 locs ls hJ hP hD hS hl ih198 => ?_) ((n + 1), G_3) _ _ ls ⟨by omega, hTy, hFR, kmo, kmmA, kmrA⟩ hP hD hS (lv_sub hl [0, 1, 2, 3, 4, 5, 6, 7] rfl)
          obtain ⟨z198, G198⟩ := a9
          obtain ⟨hz198, hTy, hFR, kmo, kmmA, kmrA⟩ := hJ
          dsimp only at hz198 hTy hFR kmo kmmA kmrA hP hD hl ih198
          obtain _ | z198 := z198
          · have hl : lv_has ls 18 [(7, .int (-1)), (6, .int (nI kk)), (0, .ref mo), (1, .ref a1), (2, .int (nI n)), (3, .ref mmA), (4, .int (nI k1)), (5, .ref q1)] := hl
            refine lv_iload hx hb d_Model_divided_198 (lv_at hl 0 rfl) ?_
            refine lv_if_lt (tgt := 245) hx hb d_Model_divided_200 (by decide) (fun c200 => ?_) (fun c200 => ?_)
            rotate_left
            · exact absurd c200 (by decide)
            refine lv_iload_n hx hb d_Model_divided_245 rfl (lv_at hl 4 rfl) ?_
            refine lv_iload hx hb d_Model_divided_246 (lv_at hl 6 rfl) ?_
            refine lv_isub hx hb d_Model_divided_248 ?_
            rw [show ((nI n) - (nI k1) : Int32) = nI (n - k1) from pk_sub (a := n) (b := k1) (by omega)]
            refine lv_istore (lv' := [(7, .int (nI (n - k1))), (6, .int (nI kk)), (0, .ref mo), (1, .ref a1), (2, .int (nI n)), (3, .ref mmA), (4, .int (nI k1)), (5, .ref q1)]) hx hb d_Model_divided_249 hl (by decide) rfl (fun ls hl => ?_)
            have hl : lv_has ls 18 [(7, .int (jD (n - k1 + 1))), (6, .int (nI kk)), (0, .ref mo), (1, .ref a1), (2, .int (nI n)), (3, .ref mmA), (4, .int (nI k1)), (5, .ref q1)] := by rw [jD_pos (k := (n - k1 + 1)) (by omega)]; exact hl
            refine w_loopW (α := Nat × va_W) (fun a9 => a9.1 ≤ (n - k1 + 1) ∧ TR γ κ Ad τ a9.2 ∧ FL Ad [mo, mrA] G a9.2 ∧ Xc Ad mo cX_mo a9.2 ∧ Xc Ad mmA (.inl (γ.2.1, 600, .inl fm)) a9.2 ∧ Xc Ad mrA (.inl (γ.2.1, 600, .inl f141_mrA)) a9.2) (fun a9 => a9.1) (fun a9 => [(7, .int (jD a9.1)), (6, .int (nI kk)), (0, .ref mo), (1, .ref a1), (2, .int (nI n)), (3, .ref mmA), (4, .int (nI k1)), (5, .ref q1)]) (fun _ => []) (fun a9 => a9.2) 18 251 (fun a9 HL251 locs ls hJ hP hD hS hl ih251 => ?_) ((n - k1 + 1), G198) _ _ ls ⟨by omega, hTy, hFR, kmo, kmmA, kmrA⟩ hP hD hS (lv_sub hl [0, 1, 2, 3, 4, 5, 6, 7] rfl)
            obtain ⟨z251, G251⟩ := a9
            obtain ⟨hz251, hTy, hFR, kmo, kmmA, kmrA⟩ := hJ
            dsimp only at hz251 hTy hFR kmo kmmA kmrA hP hD hl ih251
            obtain _ | z251 := z251
            · have hl : lv_has ls 18 [(7, .int (-1)), (6, .int (nI kk)), (0, .ref mo), (1, .ref a1), (2, .int (nI n)), (3, .ref mmA), (4, .int (nI k1)), (5, .ref q1)] := hl
              refine lv_iload hx hb d_Model_divided_251 (lv_at hl 0 rfl) ?_
              refine lv_if_lt (tgt := 582) hx hb d_Model_divided_253 (by decide) (fun c253 => ?_) (fun c253 => ?_)
              rotate_left
              · exact absurd c253 (by decide)
              refine lv_aload_n hx hb d_Model_divided_582 rfl (lv_at hl 2 rfl) ?_
              refine lv_aload hx hb d_Model_divided_583 (lv_at hl 7 rfl) ?_
              refine lv_iload_n hx hb d_Model_divided_585 rfl (lv_at hl 4 rfl) ?_
              refine lv_iload hx hb d_Model_divided_586 (lv_at hl 6 rfl) ?_
              refine lv_isub hx hb d_Model_divided_588 ?_
              rw [show ((nI n) - (nI k1) : Int32) = nI (n - k1) from pk_sub (a := n) (b := k1) (by omega)]
              refine lv_iconst (v := 1) hx hb d_Model_divided_589 (by decide) ?_
              refine lv_iadd hx hb d_Model_divided_590 ?_
              rw [show ((nI (n - k1)) + 1 : Int32) = nI ((n - k1) + 1) from nI_add (n - k1) 1]
              refine vp_callSi (pu_callS (As := [.ref q1, .int (nI ((n - k1) + 1))]) (rest := [.ref mo]) ⟨hx, hb, hml, hown, hts⟩ tbin (p_Model_trim l dC dI sb γ κ Ad τ gT G251 q1 600 ((n - k1) + 1) hTy kq1 (by omega) (by omega)) q9_103 q9_104 q1_9 q9_105 (n := 2) (by decide +kernel) rfl ⟨rfl, rfl⟩ ⟨Nat.le_of_ble_eq_true rfl, Nat.le_of_ble_eq_true rfl⟩ ⟨Nat.le_of_ble_eq_true rfl, Nat.le_of_ble_eq_true rfl⟩ hN (hT0.keep hS hAs) hK hP (List.range G251.length) (rg_all G251) [0, 1, 2, 3, 4] rfl hl.1 rfl (Nat.le_of_ble_eq_true rfl) d_Model_divided_591) (fun r591 hr591 => ?_)
              obtain ⟨i_4, hg_4⟩ := List.getElem?_of_mem kmo.2
              rw [eX_mo] at hg_4
              refine va_put (v := .int r591) (ty := .int) hx hb htb i_Model t_Model t_Model_ok n_Model hown hK hP hD hS i_4 hg_4 rfl 9 (by decide) (htb _ q7_223) (fun _ h9 => h9) rfl (by decide +kernel) rfl rfl (Nat.le_of_ble_eq_true rfl) d_Model_divided_594 (fun H594 locs hP hD2 hS => ?_)
              have hP : va_P (dC, dI) classes (G251.set i_4 (mo, .inr (12, (.int mer :: .int mfed :: .int mwr :: .int mct :: .int mls :: .ref moc :: .ref msT :: .ref mrV :: .ref msP :: .int r591 :: .ref mrA :: .ref mbA :: .ref mwA :: .ref mhA :: .ref mfA :: .ref mpA :: .ref mxA :: .ref myA :: .ref mmA :: .ref mqA :: .ref mzA :: .ref mwy :: .ref mfd :: .int msz :: .int mcz :: .int mch :: .int mft :: .int mpt :: .int mdp :: .int mvd :: .long mnw :: .int mmk :: [])))) H594 := hP
              have hD3 : va_D A (G251.set i_4 (mo, .inr (12, (.int mer :: .int mfed :: .int mwr :: .int mct :: .int mls :: .ref moc :: .ref msT :: .ref mrV :: .ref msP :: .int r591 :: .ref mrA :: .ref mbA :: .ref mwA :: .ref mhA :: .ref mfA :: .ref mpA :: .ref mxA :: .ref myA :: .ref mmA :: .ref mqA :: .ref mzA :: .ref mwy :: .ref mfd :: .int msz :: .int mcz :: .int mch :: .int mft :: .int mpt :: .int mdp :: .int mvd :: .long mnw :: .int mmk :: [])))) := hD2
              have hTy := TR.setX (c' := .inr (12, (.int mer :: .int mfed :: .int mwr :: .int mct :: .int mls :: .ref moc :: .ref msT :: .ref mrV :: .ref msP :: .int r591 :: .ref mrA :: .ref mbA :: .ref mwA :: .ref mhA :: .ref mfA :: .ref mpA :: .ref mxA :: .ref myA :: .ref mmA :: .ref mqA :: .ref mzA :: .ref mwy :: .ref mfd :: .int msz :: .int mcz :: .int mch :: .int mft :: .int mpt :: .int mdp :: .int mvd :: .long mnw :: .int mmk :: []))) hTy hg_4 kmo.1
              have kmmA := Xc.setX (c' := .inr (12, (.int mer :: .int mfed :: .int mwr :: .int mct :: .int mls :: .ref moc :: .ref msT :: .ref mrV :: .ref msP :: .int r591 :: .ref mrA :: .ref mbA :: .ref mwA :: .ref mhA :: .ref mfA :: .ref mpA :: .ref mxA :: .ref myA :: .ref mmA :: .ref mqA :: .ref mzA :: .ref mwy :: .ref mfd :: .int msz :: .int mcz :: .int mch :: .int mft :: .int mpt :: .int mdp :: .int mvd :: .long mnw :: .int mmk :: []))) kmmA hg_4 (fun e => hx_mo_mmA.symm (congrArg Prod.fst e))
              have kmrA := Xc.setX (c' := .inr (12, (.int mer :: .int mfed :: .int mwr :: .int mct :: .int mls :: .ref moc :: .ref msT :: .ref mrV :: .ref msP :: .int r591 :: .ref mrA :: .ref mbA :: .ref mwA :: .ref mhA :: .ref mfA :: .ref mpA :: .ref mxA :: .ref myA :: .ref mmA :: .ref mqA :: .ref mzA :: .ref mwy :: .ref mfd :: .int msz :: .int mcz :: .int mch :: .int mft :: .int mpt :: .int mdp :: .int mvd :: .long mnw :: .int mmk :: []))) kmrA hg_4 (fun e => hx_mo_mrA.symm (congrArg Prod.fst e))
              have hFR := hFR.tr (FL.set (Ad := Ad) (X := [mo, mrA]) (c' := .inr (12, (.int mer :: .int mfed :: .int mwr :: .int mct :: .int mls :: .ref moc :: .ref msT :: .ref mrV :: .ref msP :: .int r591 :: .ref mrA :: .ref mbA :: .ref mwA :: .ref mhA :: .ref mfA :: .ref mpA :: .ref mxA :: .ref myA :: .ref mmA :: .ref mqA :: .ref mzA :: .ref mwy :: .ref mfd :: .int msz :: .int mcz :: .int mch :: .int mft :: .int mpt :: .int mdp :: .int mvd :: .long mnw :: .int mmk :: []))) hg_4 (by simp))
              have hg_4 := set_here (c' := .inr (12, (.int mer :: .int mfed :: .int mwr :: .int mct :: .int mls :: .ref moc :: .ref msT :: .ref mrV :: .ref msP :: .int r591 :: .ref mrA :: .ref mbA :: .ref mwA :: .ref mhA :: .ref mfA :: .ref mpA :: .ref mxA :: .ref myA :: .ref mmA :: .ref mqA :: .ref mzA :: .ref mwy :: .ref mfd :: .int msz :: .int mcz :: .int mch :: .int mft :: .int mpt :: .int mdp :: .int mvd :: .long mnw :: .int mmk :: []))) hg_4
              have kmo : Xc Ad mo (.inr (12, (.int mer :: .int mfed :: .int mwr :: .int mct :: .int mls :: .ref moc :: .ref msT :: .ref mrV :: .ref msP :: .int r591 :: .ref mrA :: .ref mbA :: .ref mwA :: .ref mhA :: .ref mfA :: .ref mpA :: .ref mxA :: .ref myA :: .ref mmA :: .ref mqA :: .ref mzA :: .ref mwy :: .ref mfd :: .int msz :: .int mcz :: .int mch :: .int mft :: .int mpt :: .int mdp :: .int mvd :: .long mnw :: .int mmk :: []))) (G251.set i_4 (mo, .inr (12, (.int mer :: .int mfed :: .int mwr :: .int mct :: .int mls :: .ref moc :: .ref msT :: .ref mrV :: .ref msP :: .int r591 :: .ref mrA :: .ref mbA :: .ref mwA :: .ref mhA :: .ref mfA :: .ref mpA :: .ref mxA :: .ref myA :: .ref mmA :: .ref mqA :: .ref mzA :: .ref mwy :: .ref mfd :: .int msz :: .int mcz :: .int mch :: .int mft :: .int mpt :: .int mdp :: .int mvd :: .long mnw :: .int mmk :: [])))) := ⟨kmo.1, List.mem_of_getElem? hg_4⟩
              have hD := hD3
              clear hD3 hD2
              generalize G251.set i_4 (mo, .inr (12, (.int mer :: .int mfed :: .int mwr :: .int mct :: .int mls :: .ref moc :: .ref msT :: .ref mrV :: .ref msP :: .int r591 :: .ref mrA :: .ref mbA :: .ref mwA :: .ref mhA :: .ref mfA :: .ref mpA :: .ref mxA :: .ref myA :: .ref mmA :: .ref mqA :: .ref mzA :: .ref mwy :: .ref mfd :: .int msz :: .int mcz :: .int mch :: .int mft :: .int mpt :: .int mdp :: .int mvd :: .long mnw :: .int mmk :: []))) = G_5 at hP hD hTy hFR kmo kmmA kmrA hg_4
              obtain ⟨cX_6, eX_6⟩ : ∃ z : va_E, z = .inr (12, (.int mer :: .int mfed :: .int mwr :: .int mct :: .int mls :: .ref moc :: .ref msT :: .ref mrV :: .ref msP :: .int r591 :: .ref mrA :: .ref mbA :: .ref mwA :: .ref mhA :: .ref mfA :: .ref mpA :: .ref mxA :: .ref myA :: .ref mmA :: .ref mqA :: .ref mzA :: .ref mwy :: .ref mfd :: .int msz :: .int mcz :: .int mch :: .int mft :: .int mpt :: .int mdp :: .int mvd :: .long mnw :: .int mmk :: [])) := ⟨_, rfl⟩
              rw [← eX_6] at kmo
              refine lv_iconst (v := 0) hx hb d_Model_divided_597 (by decide) ?_
              refine lv_istore (lv' := [(7, .int 0), (6, .int (nI kk)), (0, .ref mo), (1, .ref a1), (2, .int (nI n)), (3, .ref mmA), (4, .int (nI k1)), (5, .ref q1)]) hx hb d_Model_divided_598 hl (by decide) rfl (fun ls hl => ?_)
              refine w_loopW (α := Nat × va_W) (fun a9 => a9.1 ≤ k1 ∧ TR γ κ Ad τ a9.2 ∧ FL Ad [mo, mrA] G a9.2 ∧ Xc Ad mo cX_6 a9.2 ∧ Xc Ad mmA (.inl (γ.2.1, 600, .inl fm)) a9.2 ∧ Xc Ad mrA (.inl (γ.2.1, 600, .inl f141_mrA)) a9.2) (fun a9 => k1 - a9.1) (fun a9 => [(7, .int (nI a9.1)), (6, .int (nI kk)), (0, .ref mo), (1, .ref a1), (2, .int (nI n)), (3, .ref mmA), (4, .int (nI k1)), (5, .ref q1)]) (fun _ => []) (fun a9 => a9.2) 18 600 (fun a9 HL600 locs ls hJ hP hD hS hl ih600 => ?_) (0, G_5) _ _ ls ⟨by omega, hTy, hFR, kmo, kmmA, kmrA⟩ hP hD hS (lv_sub hl [0, 1, 2, 3, 4, 5, 6, 7] rfl)
              obtain ⟨z600, G600⟩ := a9
              obtain ⟨hz600, hTy, hFR, kmo, kmmA, kmrA⟩ := hJ
              dsimp only at hz600 hTy hFR kmo kmmA kmrA hP hD hl ih600
              refine lv_iload hx hb d_Model_divided_600 (lv_at hl 0 rfl) ?_
              refine lv_iload hx hb d_Model_divided_602 (lv_at hl 6 rfl) ?_
              refine lv_icmp_ge (tgt := 653) hx hb d_Model_divided_604 (by decide) (fun c604 => ?_) (fun c604 => ?_)
              · have p604 : k1 ≤ z600 := ((nI_leI (a := k1) (b := z600) (by omega) (by omega)).mp c604)
                refine lv_aload_n hx hb d_Model_divided_653 rfl (lv_at hl 3 rfl) ?_
                refine lv_iload hx hb d_Model_divided_654 (lv_at hl 6 rfl) ?_
                refine vp_callSi (pu_callS (As := [.ref a1, .int (nI k1)]) (rest := []) ⟨hx, hb, hml, hown, hts⟩ tbin (p_Model_trim l dC dI sb γ κ Ad τ gT G600 a1 600 k1 hTy ka1 (by omega) (by omega)) q9_103 q9_104 q1_9 q9_105 (n := 2) (by decide +kernel) rfl ⟨rfl, rfl⟩ ⟨Nat.le_of_ble_eq_true rfl, Nat.le_of_ble_eq_true rfl⟩ ⟨Nat.le_of_ble_eq_true rfl, Nat.le_of_ble_eq_true rfl⟩ hN (hT0.keep hS hAs) hK hP (List.range G600.length) (rg_all G600) [0, 1, 2, 3, 4] rfl hl.1 rfl (Nat.le_of_ble_eq_true rfl) d_Model_divided_656) (fun r656 hr656 => ?_)
                exact W.iret (v := r656) hx hb hr (fun t ht hW => ⟨⟨_, G600, rfl, ⟨hTy, hFR, (let ⟨k, a, b⟩ := hr656; ⟨k, by omega, b⟩), ⟨_, by rw [eX_6] at kmo; exact kmo⟩, kmmA, ⟨_, kmrA⟩⟩, by rw [ht]; exact hP, va_K.moved hW.alike hK, hD⟩, hS.F ht⟩) hS.2.2 d_Model_divided_659
              · have p604 : ¬ (k1 ≤ z600) := (fun q9 => c604 ((nI_leI (a := k1) (b := z600) (by omega) (by omega)).mpr q9))
                refine lv_aload_n hx hb d_Model_divided_607 rfl (lv_at hl 3 rfl) ?_
                refine lv_iload hx hb d_Model_divided_608 (lv_at hl 0 rfl) ?_
                refine lv_aload_n hx hb d_Model_divided_610 rfl (lv_at hl 3 rfl) ?_
                refine lv_iload hx hb d_Model_divided_611 (lv_at hl 0 rfl) ?_
                obtain ⟨i_7, f_7, hn_7, hg_7⟩ := tr_6 hTy ka1
                have h613 : vp_in (nI z600) 600 := vp_in_nI (by omega) (by omega)
                refine va_iald hx hb hK hP i_7 1 hg_7 rfl h613 d_Model_divided_613 ?_
                refine lv_topi (fun e613 he613 => ?_)
                refine lv_iload hx hb d_Model_divided_614 (lv_at hl 1 rfl) ?_
                refine lv_ishr hx hb d_Model_divided_616 ?_
                refine lv_iload hx hb d_Model_divided_617 (lv_at hl 0 rfl) ?_
                refine lv_iconst (v := 1) hx hb d_Model_divided_619 (by decide) ?_
                refine lv_iadd hx hb d_Model_divided_620 ?_
                rw [show ((nI z600) + 1 : Int32) = nI (z600 + 1) from nI_add z600 1]
                refine lv_iload hx hb d_Model_divided_621 (lv_at hl 6 rfl) ?_
                refine lv_icmp_gt (tgt := 641) hx hb d_Model_divided_623 (by decide) (fun c623 => ?_) (fun c623 => ?_)
                · have p623 : k1 < (z600 + 1) := ((nI_ltI (a := k1) (b := (z600 + 1)) (by omega) (by omega)).mp c623)
                  refine lv_iconst (v := 0) hx hb d_Model_divided_641 (by decide) ?_
                  refine lv_ior hx hb d_Model_divided_642 ?_
                  refine lv_ldc (v := 65535) hx hb hown (htb _ q9_126) d_Model_divided_643 ?_
                  refine lv_iand hx hb d_Model_divided_645 ?_
                  have h646 : vp_in (nI z600) 600 := vp_in_nI (by omega) (by omega)
                  refine va_iast hx hb hK hP hD hS i_7 1 hg_7 rfl h646 d_Model_divided_646 (fun H646 locs hP hD2 hS => ?_)
                  have hP : va_P (dC, dI) classes (G600.set i_7 (a1, .inl (γ.2.1, 600, .inl (upd f_7 (nI z600).toNatClampNeg (((e613 >>> ((nI kk) &&& 31)) ||| 0) &&& 65535))))) H646 := hP
                  have hD3 : va_D A (G600.set i_7 (a1, .inl (γ.2.1, 600, .inl (upd f_7 (nI z600).toNatClampNeg (((e613 >>> ((nI kk) &&& 31)) ||| 0) &&& 65535))))) := hD2
                  have hF1 := FR.set (c' := .inl (γ.2.1, 600, .inl (upd f_7 (nI z600).toNatClampNeg (((e613 >>> ((nI kk) &&& 31)) ||| 0) &&& 65535)))) hg_7 ka1.1
                  have kmo := kmo.fr hF1
                  have kmmA := kmmA.fr hF1
                  have kmrA := kmrA.fr hF1
                  have hFR := hFR.tr hF1.l
                  clear hF1
                  have hTy := TR.set (c' := .inl (γ.2.1, 600, .inl (upd f_7 (nI z600).toNatClampNeg (((e613 >>> ((nI kk) &&& 31)) ||| 0) &&& 65535)))) hTy hg_7 (okr_6 ka1 hn_7 _)
                  have hD := hD3
                  clear hD3 hD2
                  generalize G600.set i_7 (a1, .inl (γ.2.1, 600, .inl (upd f_7 (nI z600).toNatClampNeg (((e613 >>> ((nI kk) &&& 31)) ||| 0) &&& 65535)))) = G_8 at hP hD hTy hFR kmo kmmA kmrA 
                  refine lv_iinc (v := nI (z600 + 1)) (lv' := [(7, .int (nI (z600 + 1))), (6, .int (nI kk)), (0, .ref mo), (1, .ref a1), (2, .int (nI n)), (3, .ref mmA), (4, .int (nI k1)), (5, .ref q1)]) hx hb d_Model_divided_647 hl (k := 0) rfl (nI_1 _) (by decide) rfl (fun ls hl => ?_)
                  refine lv_goto (tgt := 600) hx hb d_Model_divided_650 (by decide) ?_
                  exact ih600 (z600 + 1, G_8) _ _ ls (by dsimp only; omega) ⟨by dsimp only; omega, hTy, hFR, kmo, kmmA, kmrA⟩ hP hD hS (lv_sub hl [0, 1, 2, 3, 4, 5, 6, 7] rfl)
                · have p623 : ¬ (k1 < (z600 + 1)) := (fun q9 => c623 ((nI_ltI (a := k1) (b := (z600 + 1)) (by omega) (by omega)).mpr q9))
                  refine lv_aload_n hx hb d_Model_divided_626 rfl (lv_at hl 3 rfl) ?_
                  refine lv_iload hx hb d_Model_divided_627 (lv_at hl 0 rfl) ?_
                  refine lv_iconst (v := 1) hx hb d_Model_divided_629 (by decide) ?_
                  refine lv_iadd hx hb d_Model_divided_630 ?_
                  rw [show ((nI z600) + 1 : Int32) = nI (z600 + 1) from nI_add z600 1]
                  have h631 : vp_in (nI (z600 + 1)) 600 := vp_in_nI (by omega) (by omega)
                  refine va_iald hx hb hK hP i_7 1 hg_7 rfl h631 d_Model_divided_631 ?_
                  refine lv_topi (fun e631 he631 => ?_)
                  refine lv_bipush (v := 16) hx hb d_Model_divided_632 (by decide) ?_
                  refine lv_iload hx hb d_Model_divided_634 (lv_at hl 1 rfl) ?_
                  refine lv_isub hx hb d_Model_divided_636 ?_
                  rw [show (16 - (nI kk) : Int32) = nI (16 - kk) from pk_sub (a := 16) (b := kk) (by omega)]
                  refine lv_ishl hx hb d_Model_divided_637 ?_
                  refine lv_goto (tgt := 642) hx hb d_Model_divided_638 (by decide) ?_
                  refine lv_ior hx hb d_Model_divided_642 ?_
                  refine lv_ldc (v := 65535) hx hb hown (htb _ q9_126) d_Model_divided_643 ?_
                  refine lv_iand hx hb d_Model_divided_645 ?_
                  have h646 : vp_in (nI z600) 600 := vp_in_nI (by omega) (by omega)
                  refine va_iast hx hb hK hP hD hS i_7 1 hg_7 rfl h646 d_Model_divided_646 (fun H646 locs hP hD2 hS => ?_)
                  have hP : va_P (dC, dI) classes (G600.set i_7 (a1, .inl (γ.2.1, 600, .inl (upd f_7 (nI z600).toNatClampNeg (((e613 >>> ((nI kk) &&& 31)) ||| (e631 <<< ((nI (16 - kk)) &&& 31))) &&& 65535))))) H646 := hP
                  have hD3 : va_D A (G600.set i_7 (a1, .inl (γ.2.1, 600, .inl (upd f_7 (nI z600).toNatClampNeg (((e613 >>> ((nI kk) &&& 31)) ||| (e631 <<< ((nI (16 - kk)) &&& 31))) &&& 65535))))) := hD2
                  have hF1 := FR.set (c' := .inl (γ.2.1, 600, .inl (upd f_7 (nI z600).toNatClampNeg (((e613 >>> ((nI kk) &&& 31)) ||| (e631 <<< ((nI (16 - kk)) &&& 31))) &&& 65535)))) hg_7 ka1.1
                  have kmo := kmo.fr hF1
                  have kmmA := kmmA.fr hF1
                  have kmrA := kmrA.fr hF1
                  have hFR := hFR.tr hF1.l
                  clear hF1
                  have hTy := TR.set (c' := .inl (γ.2.1, 600, .inl (upd f_7 (nI z600).toNatClampNeg (((e613 >>> ((nI kk) &&& 31)) ||| (e631 <<< ((nI (16 - kk)) &&& 31))) &&& 65535)))) hTy hg_7 (okr_6 ka1 hn_7 _)
                  have hD := hD3
                  clear hD3 hD2
                  generalize G600.set i_7 (a1, .inl (γ.2.1, 600, .inl (upd f_7 (nI z600).toNatClampNeg (((e613 >>> ((nI kk) &&& 31)) ||| (e631 <<< ((nI (16 - kk)) &&& 31))) &&& 65535)))) = G_9 at hP hD hTy hFR kmo kmmA kmrA 
                  refine lv_iinc (v := nI (z600 + 1)) (lv' := [(7, .int (nI (z600 + 1))), (6, .int (nI kk)), (0, .ref mo), (1, .ref a1), (2, .int (nI n)), (3, .ref mmA), (4, .int (nI k1)), (5, .ref q1)]) hx hb d_Model_divided_647 hl (k := 0) rfl (nI_1 _) (by decide) rfl (fun ls hl => ?_)
                  refine lv_goto (tgt := 600) hx hb d_Model_divided_650 (by decide) ?_
                  exact ih600 (z600 + 1, G_9) _ _ ls (by dsimp only; omega) ⟨by dsimp only; omega, hTy, hFR, kmo, kmmA, kmrA⟩ hP hD hS (lv_sub hl [0, 1, 2, 3, 4, 5, 6, 7] rfl)
            · have hl : lv_has ls 18 [(7, .int (nI z251)), (6, .int (nI kk)), (0, .ref mo), (1, .ref a1), (2, .int (nI n)), (3, .ref mmA), (4, .int (nI k1)), (5, .ref q1)] := hl
              refine lv_iload hx hb d_Model_divided_251 (lv_at hl 0 rfl) ?_
              refine lv_if_lt (tgt := 582) hx hb d_Model_divided_253 (by decide) (fun c253 => ?_) (fun c253 => ?_)
              · exact absurd c253 (nI_pos (by omega))
              refine lv_aload_n hx hb d_Model_divided_256 rfl (lv_at hl 3 rfl) ?_
              refine lv_iload hx hb d_Model_divided_257 (lv_at hl 0 rfl) ?_
              refine lv_iload hx hb d_Model_divided_259 (lv_at hl 6 rfl) ?_
              refine lv_iadd hx hb d_Model_divided_261 ?_
              rw [show ((nI z251) + (nI k1) : Int32) = nI (z251 + k1) from nI_add z251 k1]
              obtain ⟨i_10, f_10, hn_10, hg_10⟩ := tr_6 hTy ka1
              have h262 : vp_in (nI (z251 + k1)) 600 := vp_in_nI (by omega) (by omega)
              refine va_iald hx hb hK hP i_10 1 hg_10 rfl h262 d_Model_divided_262 ?_
              refine lv_topi (fun e262 he262 => ?_)
              refine lv_i2l (v := e262.toInt64) hx hb d_Model_divided_263 rfl ?_
              refine lv_bipush (v := 16) hx hb d_Model_divided_264 (by decide) ?_
              refine lv_lshl (v := e262.toInt64 <<< ((16 : Int32).toInt64 &&& 63)) hx hb d_Model_divided_266 rfl ?_
              refine lv_aload_n hx hb d_Model_divided_267 rfl (lv_at hl 3 rfl) ?_
              refine lv_iload hx hb d_Model_divided_268 (lv_at hl 0 rfl) ?_
              refine lv_iload hx hb d_Model_divided_270 (lv_at hl 6 rfl) ?_
              refine lv_iadd hx hb d_Model_divided_272 ?_
              rw [show ((nI z251) + (nI k1) : Int32) = nI (z251 + k1) from nI_add z251 k1]
              refine lv_iconst (v := 1) hx hb d_Model_divided_273 (by decide) ?_
              refine lv_isub hx hb d_Model_divided_274 ?_
              rw [show ((nI (z251 + k1)) - 1 : Int32) = nI ((z251 + k1) - 1) from pk_sub (a := (z251 + k1)) (b := 1) (by omega)]
              have h275 : vp_in (nI ((z251 + k1) - 1)) 600 := vp_in_nI (by omega) (by omega)
              refine va_iald hx hb hK hP i_10 1 hg_10 rfl h275 d_Model_divided_275 ?_
              refine lv_topi (fun e275 he275 => ?_)
              refine lv_i2l (v := e275.toInt64) hx hb d_Model_divided_276 rfl ?_
              refine lv_lor hx hb d_Model_divided_277 ?_
              refine lv_topl (fun v278 ev278 => ?_)
              refine lv_lstore (lv' := [(8, .long v278), (7, .int (nI z251)), (6, .int (nI kk)), (0, .ref mo), (1, .ref a1), (2, .int (nI n)), (3, .ref mmA), (4, .int (nI k1)), (5, .ref q1)]) hx hb d_Model_divided_278 hl (by decide) rfl (fun ls hl => ?_)
              refine lv_lload hx hb d_Model_divided_280 (lv_at hl 0 rfl) ?_
              refine lv_aload_n hx hb d_Model_divided_282 rfl (lv_at hl 3 rfl) ?_
              obtain ⟨i_11, hg_11⟩ := List.getElem?_of_mem kmo.2
              rw [eX_mo] at hg_11
              refine va_get (v := .ref mrA) hx hb htb i_Model hown hK hP i_11 hg_11 rfl 10 (by decide) (htb _ q7_224) (fun _ h9 => h9) rfl d_Model_divided_283 ?_
              refine lv_iload hx hb d_Model_divided_286 (lv_at hl 7 rfl) ?_
              refine lv_iconst (v := 1) hx hb d_Model_divided_288 (by decide) ?_
              refine lv_isub hx hb d_Model_divided_289 ?_
              rw [show ((nI k1) - 1 : Int32) = nI (k1 - 1) from pk_sub (a := k1) (b := 1) (by omega)]
              obtain ⟨i_12, hg_12⟩ := List.getElem?_of_mem kmrA.2
              have h290 : vp_in (nI (k1 - 1)) 600 := vp_in_nI (by omega) (by omega)
              refine va_iald hx hb hK hP i_12 1 hg_12 rfl h290 d_Model_divided_290 ?_
              refine lv_topi (fun e290 he290 => ?_)
              refine lv_i2l (v := e290.toInt64) hx hb d_Model_divided_291 rfl ?_
              refine lv_ldiv hx hb d_Model_divided_292 (dv_ne (k := k1 - 1) he290 (by omega) hr3 (by omega) (by omega)) ?_
              refine lv_topl (fun v293 ev293 => ?_)
              refine lv_lstore (lv' := [(10, .long v293), (8, .long v278), (7, .int (nI z251)), (6, .int (nI kk)), (0, .ref mo), (1, .ref a1), (2, .int (nI n)), (3, .ref mmA), (4, .int (nI k1)), (5, .ref q1)]) hx hb d_Model_divided_293 hl (by decide) rfl (fun ls hl => ?_)
              refine lv_lload hx hb d_Model_divided_295 (lv_at hl 1 rfl) ?_
              refine lv_aload_n hx hb d_Model_divided_297 rfl (lv_at hl 4 rfl) ?_
              refine va_get (v := .ref mrA) hx hb htb i_Model hown hK hP i_11 hg_11 rfl 10 (by decide) (htb _ q7_224) (fun _ h9 => h9) rfl d_Model_divided_298 ?_
              refine lv_iload hx hb d_Model_divided_301 (lv_at hl 8 rfl) ?_
              refine lv_iconst (v := 1) hx hb d_Model_divided_303 (by decide) ?_
              refine lv_isub hx hb d_Model_divided_304 ?_
              rw [show ((nI k1) - 1 : Int32) = nI (k1 - 1) from pk_sub (a := k1) (b := 1) (by omega)]
              have h305 : vp_in (nI (k1 - 1)) 600 := vp_in_nI (by omega) (by omega)
              refine va_iald hx hb hK hP i_12 1 hg_12 rfl h305 d_Model_divided_305 ?_
              refine lv_topi (fun e305 he305 => ?_)
              refine lv_i2l (v := e305.toInt64) hx hb d_Model_divided_306 rfl ?_
              refine lv_lrem hx hb d_Model_divided_307 (dv_ne (k := k1 - 1) he305 (by omega) hr3 (by omega) (by omega)) ?_
              refine lv_topl (fun v308 ev308 => ?_)
              refine lv_lstore (lv' := [(12, .long v308), (10, .long v293), (8, .long v278), (7, .int (nI z251)), (6, .int (nI kk)), (0, .ref mo), (1, .ref a1), (2, .int (nI n)), (3, .ref mmA), (4, .int (nI k1)), (5, .ref q1)]) hx hb d_Model_divided_308 hl (by decide) rfl (fun ls hl => ?_)
              obtain ⟨N9, hN9⟩ := big_N
              refine w_loop (α := Bool × Int64 × Int64) (fun a9 => a9.1 = false → a9.2.2.toInt ≤ 65535) (fun a9 => cond a9.1 N9 (65536 - a9.2.2.toInt).toNat) (fun a9 => [(12, .long a9.2.2), (10, .long a9.2.1), (8, .long v278), (7, .int (nI z251)), (6, .int (nI kk)), (0, .ref mo), (1, .ref a1), (2, .int (nI n)), (3, .ref mmA), (4, .int (nI k1)), (5, .ref q1)]) (fun _ => []) 18 310 (fun a9 ls hJ hl ih310 => ?_) (true, v293, v308) ls (fun h => by cases h) (lv_sub hl [0, 1, 2, 3, 4, 5, 6, 7, 8, 9, 10] rfl)
              obtain ⟨b9, g9, y9⟩ := a9
              dsimp only at hJ hl ih310
              refine lv_lload hx hb d_Model_divided_310 (lv_at hl 1 rfl) ?_
              refine lv_ldc2 (v := 65535) hx hb hown (htb _ q9_120) d_Model_divided_312 ?_
              refine W.lcmp hx hb d_Model_divided_315 ?_
              refine lv_if_gt (tgt := 352) hx hb d_Model_divided_316 (by decide) (fun c316 => ?_) (fun c316 => ?_)
              · have p316 : (0 : Int32) < (lg_cmp g9 65535) := c316
                refine lv_lload hx hb d_Model_divided_352 (lv_at hl 1 rfl) ?_
                refine lv_lconst (v := 1) hx hb d_Model_divided_354 (by decide) ?_
                refine lv_lsub hx hb d_Model_divided_355 ?_
                refine lv_topl (fun v356 ev356 => ?_)
                refine lv_lstore (lv' := [(10, .long v356), (12, .long y9), (8, .long v278), (7, .int (nI z251)), (6, .int (nI kk)), (0, .ref mo), (1, .ref a1), (2, .int (nI n)), (3, .ref mmA), (4, .int (nI k1)), (5, .ref q1)]) hx hb d_Model_divided_356 hl (by decide) rfl (fun ls hl => ?_)
                refine lv_lload hx hb d_Model_divided_358 (lv_at hl 1 rfl) ?_
                refine lv_aload_n hx hb d_Model_divided_360 rfl (lv_at hl 5 rfl) ?_
                refine va_get (v := .ref mrA) hx hb htb i_Model hown hK hP i_11 hg_11 rfl 10 (by decide) (htb _ q7_224) (fun _ h9 => h9) rfl d_Model_divided_361 ?_
                refine lv_iload hx hb d_Model_divided_364 (lv_at hl 9 rfl) ?_
                refine lv_iconst (v := 1) hx hb d_Model_divided_366 (by decide) ?_
                refine lv_isub hx hb d_Model_divided_367 ?_
                rw [show ((nI k1) - 1 : Int32) = nI (k1 - 1) from pk_sub (a := k1) (b := 1) (by omega)]
                have h368 : vp_in (nI (k1 - 1)) 600 := vp_in_nI (by omega) (by omega)
                refine va_iald hx hb hK hP i_12 1 hg_12 rfl h368 d_Model_divided_368 ?_
                refine lv_topi (fun e368 he368 => ?_)
                refine lv_i2l (v := e368.toInt64) hx hb d_Model_divided_369 rfl ?_
                refine lv_ladd hx hb d_Model_divided_370 ?_
                refine lv_topl (fun v371 ev371 => ?_)
                refine lv_lstore (lv' := [(12, .long v371), (10, .long v356), (8, .long v278), (7, .int (nI z251)), (6, .int (nI kk)), (0, .ref mo), (1, .ref a1), (2, .int (nI n)), (3, .ref mmA), (4, .int (nI k1)), (5, .ref q1)]) hx hb d_Model_divided_371 hl (by decide) rfl (fun ls hl => ?_)
                refine lv_lload hx hb d_Model_divided_373 (lv_at hl 0 rfl) ?_
                refine lv_ldc2 (v := 65535) hx hb hown (htb _ q9_120) d_Model_divided_375 ?_
                refine W.lcmp hx hb d_Model_divided_378 ?_
                refine lv_if_le (tgt := 310) hx hb d_Model_divided_379 (by decide) (fun c379 => ?_) (fun c379 => ?_)
                · have p379 : (lg_cmp v371 65535) ≤ (0 : Int32) := c379
                  have q1 : v371.toInt ≤ 65535 := cmp_le p379
                  exact ih310 (false, v356, v371) ls (lf_mu hN9 hJ q1 ev371 (by rw [he368, nI_clamp (by omega), hr3]) (by omega) (by omega)) (fun _ => q1) (lv_sub hl [0, 1, 2, 3, 4, 5, 6, 7, 8, 9, 10] rfl)
                · have p379 : ¬ ((lg_cmp v371 65535) ≤ (0 : Int32)) := c379
                  refine lv_goto (tgt := 385) hx hb d_Model_divided_382 (by decide) ?_
                  refine lv_lconst (v := 0) hx hb d_Model_divided_385 (by decide) ?_
                  refine lv_lstore (lv' := [(14, .long 0), (12, .long v371), (10, .long v356), (8, .long v278), (7, .int (nI z251)), (6, .int (nI kk)), (0, .ref mo), (1, .ref a1), (2, .int (nI n)), (3, .ref mmA), (4, .int (nI k1)), (5, .ref q1)]) hx hb d_Model_divided_386 hl (by decide) rfl (fun ls hl => ?_)
                  refine lv_iconst (v := 0) hx hb d_Model_divided_388 (by decide) ?_
                  refine lv_istore (lv' := [(16, .int 0), (14, .long 0), (12, .long v371), (10, .long v356), (8, .long v278), (7, .int (nI z251)), (6, .int (nI kk)), (0, .ref mo), (1, .ref a1), (2, .int (nI n)), (3, .ref mmA), (4, .int (nI k1)), (5, .ref q1)]) hx hb d_Model_divided_389 hl (by decide) rfl (fun ls hl => ?_)
                  refine w_loopW (α := Nat × Int64 × va_W) (fun a9 => a9.1 ≤ k1 ∧ TR γ κ Ad τ a9.2.2 ∧ FL Ad [mo, mrA] G a9.2.2 ∧ Xc Ad mo cX_mo a9.2.2 ∧ Xc Ad mmA (.inl (γ.2.1, 600, .inl fm)) a9.2.2 ∧ Xc Ad mrA (.inl (γ.2.1, 600, .inl f141_mrA)) a9.2.2) (fun a9 => k1 - a9.1) (fun a9 => [(16, .int (nI a9.1)), (14, .long a9.2.1), (12, .long v371), (10, .long v356), (8, .long v278), (7, .int (nI z251)), (6, .int (nI kk)), (0, .ref mo), (1, .ref a1), (2, .int (nI n)), (3, .ref mmA), (4, .int (nI k1)), (5, .ref q1)]) (fun _ => []) (fun a9 => a9.2.2) 18 391 (fun a9 HL391 locs ls hJ hP hD hS hl ih391 => ?_) (0, (0 : Int64), G251) _ _ ls ⟨by omega, hTy, hFR, kmo, kmmA, kmrA⟩ hP hD hS (lv_sub hl [0, 1, 2, 3, 4, 5, 6, 7, 8, 9, 10, 11, 12] rfl)
                  obtain ⟨z391, x391_14, G391⟩ := a9
                  obtain ⟨hz391, hTy, hFR, kmo, kmmA, kmrA⟩ := hJ
                  dsimp only at hz391 hTy hFR kmo kmmA kmrA hP hD hl ih391
                  refine lv_iload hx hb d_Model_divided_391 (lv_at hl 0 rfl) ?_
                  refine lv_iload hx hb d_Model_divided_393 (lv_at hl 11 rfl) ?_
                  refine lv_icmp_ge (tgt := 450) hx hb d_Model_divided_395 (by decide) (fun c395 => ?_) (fun c395 => ?_)
                  · have p395 : k1 ≤ z391 := ((nI_leI (a := k1) (b := z391) (by omega) (by omega)).mp c395)
                    refine lv_lload hx hb d_Model_divided_450 (lv_at hl 1 rfl) ?_
                    refine lv_aload_n hx hb d_Model_divided_452 rfl (lv_at hl 8 rfl) ?_
                    refine lv_iload hx hb d_Model_divided_453 (lv_at hl 5 rfl) ?_
                    refine lv_iload hx hb d_Model_divided_455 (lv_at hl 11 rfl) ?_
                    refine lv_iadd hx hb d_Model_divided_457 ?_
                    rw [show ((nI z251) + (nI k1) : Int32) = nI (z251 + k1) from nI_add z251 k1]
                    obtain ⟨i_13, f_13, hn_13, hg_13⟩ := tr_6 hTy ka1
                    have h458 : vp_in (nI (z251 + k1)) 600 := vp_in_nI (by omega) (by omega)
                    refine va_iald hx hb hK hP i_13 1 hg_13 rfl h458 d_Model_divided_458 ?_
                    refine lv_topi (fun e458 he458 => ?_)
                    refine lv_i2l (v := e458.toInt64) hx hb d_Model_divided_459 rfl ?_
                    refine lv_ladd hx hb d_Model_divided_460 ?_
                    refine lv_topl (fun v461 ev461 => ?_)
                    refine lv_lstore (lv' := [(14, .long v461), (16, .int (nI z391)), (12, .long v371), (10, .long v356), (8, .long v278), (7, .int (nI z251)), (6, .int (nI kk)), (0, .ref mo), (1, .ref a1), (2, .int (nI n)), (3, .ref mmA), (4, .int (nI k1)), (5, .ref q1)]) hx hb d_Model_divided_461 hl (by decide) rfl (fun ls hl => ?_)
                    refine lv_aload_n hx hb d_Model_divided_463 rfl (lv_at hl 8 rfl) ?_
                    refine lv_iload hx hb d_Model_divided_464 (lv_at hl 5 rfl) ?_
                    refine lv_iload hx hb d_Model_divided_466 (lv_at hl 11 rfl) ?_
                    refine lv_iadd hx hb d_Model_divided_468 ?_
                    rw [show ((nI z251) + (nI k1) : Int32) = nI (z251 + k1) from nI_add z251 k1]
                    refine lv_lload hx hb d_Model_divided_469 (lv_at hl 0 rfl) ?_
                    refine lv_ldc2 (v := 65535) hx hb hown (htb _ q9_120) d_Model_divided_471 ?_
                    refine lv_land hx hb d_Model_divided_474 ?_
                    refine lv_l2i (v := (v461 &&& 65535).toInt32) hx hb d_Model_divided_475 rfl ?_
                    have h476 : vp_in (nI (z251 + k1)) 600 := vp_in_nI (by omega) (by omega)
                    refine va_iast hx hb hK hP hD hS i_13 1 hg_13 rfl h476 d_Model_divided_476 (fun H476 locs hP hD2 hS => ?_)
                    have hP : va_P (dC, dI) classes (G391.set i_13 (a1, .inl (γ.2.1, 600, .inl (upd f_13 (nI (z251 + k1)).toNatClampNeg ((v461 &&& 65535).toInt32))))) H476 := hP
                    have hD3 : va_D A (G391.set i_13 (a1, .inl (γ.2.1, 600, .inl (upd f_13 (nI (z251 + k1)).toNatClampNeg ((v461 &&& 65535).toInt32))))) := hD2
                    have hF1 := FR.set (c' := .inl (γ.2.1, 600, .inl (upd f_13 (nI (z251 + k1)).toNatClampNeg ((v461 &&& 65535).toInt32)))) hg_13 ka1.1
                    have kmo := kmo.fr hF1
                    have kmmA := kmmA.fr hF1
                    have kmrA := kmrA.fr hF1
                    have hFR := hFR.tr hF1.l
                    clear hF1
                    have hTy := TR.set (c' := .inl (γ.2.1, 600, .inl (upd f_13 (nI (z251 + k1)).toNatClampNeg ((v461 &&& 65535).toInt32)))) hTy hg_13 (okr_6 ka1 hn_13 _)
                    have hD := hD3
                    clear hD3 hD2
                    generalize G391.set i_13 (a1, .inl (γ.2.1, 600, .inl (upd f_13 (nI (z251 + k1)).toNatClampNeg ((v461 &&& 65535).toInt32)))) = G_14 at hP hD hTy hFR kmo kmmA kmrA 
                    refine lv_lload hx hb d_Model_divided_477 (lv_at hl 0 rfl) ?_
                    refine lv_lconst (v := 0) hx hb d_Model_divided_479 (by decide) ?_
                    refine W.lcmp hx hb d_Model_divided_480 ?_
                    refine lv_if_ge (tgt := 568) hx hb d_Model_divided_481 (by decide) (fun c481 => ?_) (fun c481 => ?_)
                    · have p481 : (0 : Int32) ≤ (lg_cmp v461 0) := c481
                      refine lv_aload hx hb d_Model_divided_568 (lv_at hl 12 rfl) ?_
                      refine lv_iload hx hb d_Model_divided_570 (lv_at hl 5 rfl) ?_
                      refine lv_lload hx hb d_Model_divided_572 (lv_at hl 3 rfl) ?_
                      refine lv_l2i (v := v356.toInt32) hx hb d_Model_divided_574 rfl ?_
                      obtain ⟨i_15, f_15, hn_15, hg_15⟩ := tr_6 hTy kq1
                      have h575 : vp_in (nI z251) 600 := vp_in_nI (by omega) (by omega)
                      refine va_iast hx hb hK hP hD hS i_15 1 hg_15 rfl h575 d_Model_divided_575 (fun H575 locs hP hD2 hS => ?_)
                      have hP : va_P (dC, dI) classes (G_14.set i_15 (q1, .inl (γ.2.1, 600, .inl (upd f_15 (nI z251).toNatClampNeg v356.toInt32)))) H575 := hP
                      have hD3 : va_D A (G_14.set i_15 (q1, .inl (γ.2.1, 600, .inl (upd f_15 (nI z251).toNatClampNeg v356.toInt32)))) := hD2
                      have hF1 := FR.set (c' := .inl (γ.2.1, 600, .inl (upd f_15 (nI z251).toNatClampNeg v356.toInt32))) hg_15 kq1.1
                      have kmo := kmo.fr hF1
                      have kmmA := kmmA.fr hF1
                      have kmrA := kmrA.fr hF1
                      have hFR := hFR.tr hF1.l
                      clear hF1
                      have hTy := TR.set (c' := .inl (γ.2.1, 600, .inl (upd f_15 (nI z251).toNatClampNeg v356.toInt32))) hTy hg_15 (okr_6 kq1 hn_15 _)
                      have hD := hD3
                      clear hD3 hD2
                      generalize G_14.set i_15 (q1, .inl (γ.2.1, 600, .inl (upd f_15 (nI z251).toNatClampNeg v356.toInt32))) = G_16 at hP hD hTy hFR kmo kmmA kmrA 
                      refine lv_iinc (v := jD z251) (lv' := [(7, .int (jD z251)), (14, .long v461), (16, .int (nI z391)), (12, .long v371), (10, .long v356), (8, .long v278), (6, .int (nI kk)), (0, .ref mo), (1, .ref a1), (2, .int (nI n)), (3, .ref mmA), (4, .int (nI k1)), (5, .ref q1)]) hx hb d_Model_divided_576 hl (k := 5) rfl (jD_dec _) (by decide) rfl (fun ls hl => ?_)
                      refine lv_goto (tgt := 251) hx hb d_Model_divided_579 (by decide) ?_
                      exact ih251 (z251, G_16) _ _ ls (by dsimp only; omega) ⟨by dsimp only; omega, hTy, hFR, kmo, kmmA, kmrA⟩ hP hD hS (lv_sub hl [0, 6, 7, 8, 9, 10, 11, 12] rfl)
                    · have p481 : ¬ ((0 : Int32) ≤ (lg_cmp v461 0)) := c481
                      refine lv_lload hx hb d_Model_divided_484 (lv_at hl 3 rfl) ?_
                      refine lv_lconst (v := 1) hx hb d_Model_divided_486 (by decide) ?_
                      refine lv_lsub hx hb d_Model_divided_487 ?_
                      refine lv_topl (fun v488 ev488 => ?_)
                      refine lv_lstore (lv' := [(10, .long v488), (14, .long v461), (16, .int (nI z391)), (12, .long v371), (8, .long v278), (7, .int (nI z251)), (6, .int (nI kk)), (0, .ref mo), (1, .ref a1), (2, .int (nI n)), (3, .ref mmA), (4, .int (nI k1)), (5, .ref q1)]) hx hb d_Model_divided_488 hl (by decide) rfl (fun ls hl => ?_)
                      refine lv_iconst (v := 0) hx hb d_Model_divided_490 (by decide) ?_
                      refine lv_istore (lv' := [(16, .int 0), (10, .long v488), (14, .long v461), (12, .long v371), (8, .long v278), (7, .int (nI z251)), (6, .int (nI kk)), (0, .ref mo), (1, .ref a1), (2, .int (nI n)), (3, .ref mmA), (4, .int (nI k1)), (5, .ref q1)]) hx hb d_Model_divided_491 hl (by decide) rfl (fun ls hl => ?_)
                      refine lv_iconst (v := 0) hx hb d_Model_divided_493 (by decide) ?_
                      refine lv_istore (lv' := [(17, .int 0), (16, .int 0), (10, .long v488), (14, .long v461), (12, .long v371), (8, .long v278), (7, .int (nI z251)), (6, .int (nI kk)), (0, .ref mo), (1, .ref a1), (2, .int (nI n)), (3, .ref mmA), (4, .int (nI k1)), (5, .ref q1)]) hx hb d_Model_divided_494 hl (by decide) rfl (fun ls hl => ?_)
                      refine w_loopW (α := Nat × Int32 × va_W) (fun a9 => a9.1 ≤ k1 ∧ TR γ κ Ad τ a9.2.2 ∧ FL Ad [mo, mrA] G a9.2.2 ∧ Xc Ad mo cX_mo a9.2.2 ∧ Xc Ad mmA (.inl (γ.2.1, 600, .inl fm)) a9.2.2 ∧ Xc Ad mrA (.inl (γ.2.1, 600, .inl f141_mrA)) a9.2.2) (fun a9 => k1 - a9.1) (fun a9 => [(17, .int (nI a9.1)), (16, .int a9.2.1), (10, .long v488), (14, .long v461), (12, .long v371), (8, .long v278), (7, .int (nI z251)), (6, .int (nI kk)), (0, .ref mo), (1, .ref a1), (2, .int (nI n)), (3, .ref mmA), (4, .int (nI k1)), (5, .ref q1)]) (fun _ => []) (fun a9 => a9.2.2) 18 496 (fun a9 HL496 locs ls hJ hP hD hS hl ih496 => ?_) (0, (0 : Int32), G_14) _ _ ls ⟨by omega, hTy, hFR, kmo, kmmA, kmrA⟩ hP hD hS (lv_sub hl [0, 1, 2, 3, 4, 5, 6, 7, 8, 9, 10, 11, 12, 13] rfl)
                      obtain ⟨z496, x496_16, G496⟩ := a9
                      obtain ⟨hz496, hTy, hFR, kmo, kmmA, kmrA⟩ := hJ
                      dsimp only at hz496 hTy hFR kmo kmmA kmrA hP hD hl ih496
                      refine lv_iload hx hb d_Model_divided_496 (lv_at hl 0 rfl) ?_
                      refine lv_iload hx hb d_Model_divided_498 (lv_at hl 12 rfl) ?_
                      refine lv_icmp_ge (tgt := 548) hx hb d_Model_divided_500 (by decide) (fun c500 => ?_) (fun c500 => ?_)
                      · have p500 : k1 ≤ z496 := ((nI_leI (a := k1) (b := z496) (by omega) (by omega)).mp c500)
                        refine lv_aload_n hx hb d_Model_divided_548 rfl (lv_at hl 9 rfl) ?_
                        refine lv_iload hx hb d_Model_divided_549 (lv_at hl 6 rfl) ?_
                        refine lv_iload hx hb d_Model_divided_551 (lv_at hl 12 rfl) ?_
                        refine lv_iadd hx hb d_Model_divided_553 ?_
                        rw [show ((nI z251) + (nI k1) : Int32) = nI (z251 + k1) from nI_add z251 k1]
                        refine lv_aload_n hx hb d_Model_divided_554 rfl (lv_at hl 9 rfl) ?_
                        refine lv_iload hx hb d_Model_divided_555 (lv_at hl 6 rfl) ?_
                        refine lv_iload hx hb d_Model_divided_557 (lv_at hl 12 rfl) ?_
                        refine lv_iadd hx hb d_Model_divided_559 ?_
                        rw [show ((nI z251) + (nI k1) : Int32) = nI (z251 + k1) from nI_add z251 k1]
                        obtain ⟨i_17, f_17, hn_17, hg_17⟩ := tr_6 hTy ka1
                        have h560 : vp_in (nI (z251 + k1)) 600 := vp_in_nI (by omega) (by omega)
                        refine va_iald hx hb hK hP i_17 1 hg_17 rfl h560 d_Model_divided_560 ?_
                        refine lv_topi (fun e560 he560 => ?_)
                        refine lv_iload hx hb d_Model_divided_561 (lv_at hl 1 rfl) ?_
                        refine lv_iadd hx hb d_Model_divided_563 ?_
                        refine lv_ldc (v := 65535) hx hb hown (htb _ q9_126) d_Model_divided_564 ?_
                        refine lv_iand hx hb d_Model_divided_566 ?_
                        have h567 : vp_in (nI (z251 + k1)) 600 := vp_in_nI (by omega) (by omega)
                        refine va_iast hx hb hK hP hD hS i_17 1 hg_17 rfl h567 d_Model_divided_567 (fun H567 locs hP hD2 hS => ?_)
                        have hP : va_P (dC, dI) classes (G496.set i_17 (a1, .inl (γ.2.1, 600, .inl (upd f_17 (nI (z251 + k1)).toNatClampNeg ((e560 + x496_16) &&& 65535))))) H567 := hP
                        have hD3 : va_D A (G496.set i_17 (a1, .inl (γ.2.1, 600, .inl (upd f_17 (nI (z251 + k1)).toNatClampNeg ((e560 + x496_16) &&& 65535))))) := hD2
                        have hF1 := FR.set (c' := .inl (γ.2.1, 600, .inl (upd f_17 (nI (z251 + k1)).toNatClampNeg ((e560 + x496_16) &&& 65535)))) hg_17 ka1.1
                        have kmo := kmo.fr hF1
                        have kmmA := kmmA.fr hF1
                        have kmrA := kmrA.fr hF1
                        have hFR := hFR.tr hF1.l
                        clear hF1
                        have hTy := TR.set (c' := .inl (γ.2.1, 600, .inl (upd f_17 (nI (z251 + k1)).toNatClampNeg ((e560 + x496_16) &&& 65535)))) hTy hg_17 (okr_6 ka1 hn_17 _)
                        have hD := hD3
                        clear hD3 hD2
                        generalize G496.set i_17 (a1, .inl (γ.2.1, 600, .inl (upd f_17 (nI (z251 + k1)).toNatClampNeg ((e560 + x496_16) &&& 65535)))) = G_18 at hP hD hTy hFR kmo kmmA kmrA 
                        refine lv_aload hx hb d_Model_divided_568 (lv_at hl 13 rfl) ?_
                        refine lv_iload hx hb d_Model_divided_570 (lv_at hl 6 rfl) ?_
                        refine lv_lload hx hb d_Model_divided_572 (lv_at hl 2 rfl) ?_
                        refine lv_l2i (v := v488.toInt32) hx hb d_Model_divided_574 rfl ?_
                        obtain ⟨i_19, f_19, hn_19, hg_19⟩ := tr_6 hTy kq1
                        have h575 : vp_in (nI z251) 600 := vp_in_nI (by omega) (by omega)
                        refine va_iast hx hb hK hP hD hS i_19 1 hg_19 rfl h575 d_Model_divided_575 (fun H575 locs hP hD2 hS => ?_)
                        have hP : va_P (dC, dI) classes (G_18.set i_19 (q1, .inl (γ.2.1, 600, .inl (upd f_19 (nI z251).toNatClampNeg v488.toInt32)))) H575 := hP
                        have hD3 : va_D A (G_18.set i_19 (q1, .inl (γ.2.1, 600, .inl (upd f_19 (nI z251).toNatClampNeg v488.toInt32)))) := hD2
                        have hF1 := FR.set (c' := .inl (γ.2.1, 600, .inl (upd f_19 (nI z251).toNatClampNeg v488.toInt32))) hg_19 kq1.1
                        have kmo := kmo.fr hF1
                        have kmmA := kmmA.fr hF1
                        have kmrA := kmrA.fr hF1
                        have hFR := hFR.tr hF1.l
                        clear hF1
                        have hTy := TR.set (c' := .inl (γ.2.1, 600, .inl (upd f_19 (nI z251).toNatClampNeg v488.toInt32))) hTy hg_19 (okr_6 kq1 hn_19 _)
                        have hD := hD3
                        clear hD3 hD2
                        generalize G_18.set i_19 (q1, .inl (γ.2.1, 600, .inl (upd f_19 (nI z251).toNatClampNeg v488.toInt32))) = G_20 at hP hD hTy hFR kmo kmmA kmrA 
                        refine lv_iinc (v := jD z251) (lv' := [(7, .int (jD z251)), (17, .int (nI z496)), (16, .int x496_16), (10, .long v488), (14, .long v461), (12, .long v371), (8, .long v278), (6, .int (nI kk)), (0, .ref mo), (1, .ref a1), (2, .int (nI n)), (3, .ref mmA), (4, .int (nI k1)), (5, .ref q1)]) hx hb d_Model_divided_576 hl (k := 6) rfl (jD_dec _) (by decide) rfl (fun ls hl => ?_)
                        refine lv_goto (tgt := 251) hx hb d_Model_divided_579 (by decide) ?_
                        exact ih251 (z251, G_20) _ _ ls (by dsimp only; omega) ⟨by dsimp only; omega, hTy, hFR, kmo, kmmA, kmrA⟩ hP hD hS (lv_sub hl [0, 7, 8, 9, 10, 11, 12, 13] rfl)
                      · have p500 : ¬ (k1 ≤ z496) := (fun q9 => c500 ((nI_leI (a := k1) (b := z496) (by omega) (by omega)).mpr q9))
                        refine lv_iload hx hb d_Model_divided_503 (lv_at hl 1 rfl) ?_
                        refine lv_aload_n hx hb d_Model_divided_505 rfl (lv_at hl 9 rfl) ?_
                        refine lv_iload hx hb d_Model_divided_506 (lv_at hl 6 rfl) ?_
                        refine lv_iload hx hb d_Model_divided_508 (lv_at hl 0 rfl) ?_
                        refine lv_iadd hx hb d_Model_divided_510 ?_
                        rw [show ((nI z251) + (nI z496) : Int32) = nI (z251 + z496) from nI_add z251 z496]
                        obtain ⟨i_21, f_21, hn_21, hg_21⟩ := tr_6 hTy ka1
                        have h511 : vp_in (nI (z251 + z496)) 600 := vp_in_nI (by omega) (by omega)
                        refine va_iald hx hb hK hP i_21 1 hg_21 rfl h511 d_Model_divided_511 ?_
                        refine lv_topi (fun e511 he511 => ?_)
                        refine lv_aload_n hx hb d_Model_divided_512 rfl (lv_at hl 8 rfl) ?_
                        obtain ⟨i_22, hg_22⟩ := List.getElem?_of_mem kmo.2
                        rw [eX_mo] at hg_22
                        refine va_get (v := .ref mrA) hx hb htb i_Model hown hK hP i_22 hg_22 rfl 10 (by decide) (htb _ q7_224) (fun _ h9 => h9) rfl d_Model_divided_513 ?_
                        refine lv_iload hx hb d_Model_divided_516 (lv_at hl 0 rfl) ?_
                        obtain ⟨i_23, hg_23⟩ := List.getElem?_of_mem kmrA.2
                        have h518 : vp_in (nI z496) 600 := vp_in_nI (by omega) (by omega)
                        refine va_iald hx hb hK hP i_23 1 hg_23 rfl h518 d_Model_divided_518 ?_
                        refine lv_topi (fun e518 he518 => ?_)
                        refine lv_iadd hx hb d_Model_divided_519 ?_
                        refine lv_iadd hx hb d_Model_divided_520 ?_
                        refine lv_topi (fun v521 ev521 => ?_)
                        refine lv_istore (lv' := [(16, .int v521), (17, .int (nI z496)), (10, .long v488), (14, .long v461), (12, .long v371), (8, .long v278), (7, .int (nI z251)), (6, .int (nI kk)), (0, .ref mo), (1, .ref a1), (2, .int (nI n)), (3, .ref mmA), (4, .int (nI k1)), (5, .ref q1)]) hx hb d_Model_divided_521 hl (by decide) rfl (fun ls hl => ?_)
                        refine lv_aload_n hx hb d_Model_divided_523 rfl (lv_at hl 9 rfl) ?_
                        refine lv_iload hx hb d_Model_divided_524 (lv_at hl 6 rfl) ?_
                        refine lv_iload hx hb d_Model_divided_526 (lv_at hl 1 rfl) ?_
                        refine lv_iadd hx hb d_Model_divided_528 ?_
                        rw [show ((nI z251) + (nI z496) : Int32) = nI (z251 + z496) from nI_add z251 z496]
                        refine lv_iload hx hb d_Model_divided_529 (lv_at hl 0 rfl) ?_
                        refine lv_ldc (v := 65535) hx hb hown (htb _ q9_126) d_Model_divided_531 ?_
                        refine lv_iand hx hb d_Model_divided_533 ?_
                        have h534 : vp_in (nI (z251 + z496)) 600 := vp_in_nI (by omega) (by omega)
                        refine va_iast hx hb hK hP hD hS i_21 1 hg_21 rfl h534 d_Model_divided_534 (fun H534 locs hP hD2 hS => ?_)
                        have hP : va_P (dC, dI) classes (G496.set i_21 (a1, .inl (γ.2.1, 600, .inl (upd f_21 (nI (z251 + z496)).toNatClampNeg (v521 &&& 65535))))) H534 := hP
                        have hD3 : va_D A (G496.set i_21 (a1, .inl (γ.2.1, 600, .inl (upd f_21 (nI (z251 + z496)).toNatClampNeg (v521 &&& 65535))))) := hD2
                        have hF1 := FR.set (c' := .inl (γ.2.1, 600, .inl (upd f_21 (nI (z251 + z496)).toNatClampNeg (v521 &&& 65535)))) hg_21 ka1.1
                        have kmo := kmo.fr hF1
                        have kmmA := kmmA.fr hF1
                        have kmrA := kmrA.fr hF1
                        have hFR := hFR.tr hF1.l
                        clear hF1
                        have hTy := TR.set (c' := .inl (γ.2.1, 600, .inl (upd f_21 (nI (z251 + z496)).toNatClampNeg (v521 &&& 65535)))) hTy hg_21 (okr_6 ka1 hn_21 _)
                        have hD := hD3
                        clear hD3 hD2
                        generalize G496.set i_21 (a1, .inl (γ.2.1, 600, .inl (upd f_21 (nI (z251 + z496)).toNatClampNeg (v521 &&& 65535)))) = G_24 at hP hD hTy hFR kmo kmmA kmrA 
                        refine lv_iload hx hb d_Model_divided_535 (lv_at hl 0 rfl) ?_
                        refine lv_bipush (v := 16) hx hb d_Model_divided_537 (by decide) ?_
                        refine lv_ishr hx hb d_Model_divided_539 ?_
                        refine lv_topi (fun v540 ev540 => ?_)
                        refine lv_istore (lv' := [(16, .int v540), (17, .int (nI z496)), (10, .long v488), (14, .long v461), (12, .long v371), (8, .long v278), (7, .int (nI z251)), (6, .int (nI kk)), (0, .ref mo), (1, .ref a1), (2, .int (nI n)), (3, .ref mmA), (4, .int (nI k1)), (5, .ref q1)]) hx hb d_Model_divided_540 hl (by decide) rfl (fun ls hl => ?_)
                        refine lv_iinc (v := nI (z496 + 1)) (lv' := [(17, .int (nI (z496 + 1))), (16, .int v540), (10, .long v488), (14, .long v461), (12, .long v371), (8, .long v278), (7, .int (nI z251)), (6, .int (nI kk)), (0, .ref mo), (1, .ref a1), (2, .int (nI n)), (3, .ref mmA), (4, .int (nI k1)), (5, .ref q1)]) hx hb d_Model_divided_542 hl (k := 1) rfl (nI_1 _) (by decide) rfl (fun ls hl => ?_)
                        refine lv_goto (tgt := 496) hx hb d_Model_divided_545 (by decide) ?_
                        exact ih496 (z496 + 1, v540, G_24) _ _ ls (by dsimp only; omega) ⟨by dsimp only; omega, hTy, hFR, kmo, kmmA, kmrA⟩ hP hD hS (lv_sub hl [0, 1, 2, 3, 4, 5, 6, 7, 8, 9, 10, 11, 12, 13] rfl)
                  · have p395 : ¬ (k1 ≤ z391) := (fun q9 => c395 ((nI_leI (a := k1) (b := z391) (by omega) (by omega)).mpr q9))
                    refine lv_lload hx hb d_Model_divided_398 (lv_at hl 1 rfl) ?_
                    refine lv_aload_n hx hb d_Model_divided_400 rfl (lv_at hl 8 rfl) ?_
                    refine lv_iload hx hb d_Model_divided_401 (lv_at hl 5 rfl) ?_
                    refine lv_iload hx hb d_Model_divided_403 (lv_at hl 0 rfl) ?_
                    refine lv_iadd hx hb d_Model_divided_405 ?_
                    rw [show ((nI z251) + (nI z391) : Int32) = nI (z251 + z391) from nI_add z251 z391]
                    obtain ⟨i_25, f_25, hn_25, hg_25⟩ := tr_6 hTy ka1
                    have h406 : vp_in (nI (z251 + z391)) 600 := vp_in_nI (by omega) (by omega)
                    refine va_iald hx hb hK hP i_25 1 hg_25 rfl h406 d_Model_divided_406 ?_
                    refine lv_topi (fun e406 he406 => ?_)
                    refine lv_i2l (v := e406.toInt64) hx hb d_Model_divided_407 rfl ?_
                    refine lv_lload hx hb d_Model_divided_408 (lv_at hl 3 rfl) ?_
                    refine lv_aload_n hx hb d_Model_divided_410 rfl (lv_at hl 7 rfl) ?_
                    obtain ⟨i_26, hg_26⟩ := List.getElem?_of_mem kmo.2
                    rw [eX_mo] at hg_26
                    refine va_get (v := .ref mrA) hx hb htb i_Model hown hK hP i_26 hg_26 rfl 10 (by decide) (htb _ q7_224) (fun _ h9 => h9) rfl d_Model_divided_411 ?_
                    refine lv_iload hx hb d_Model_divided_414 (lv_at hl 0 rfl) ?_
                    obtain ⟨i_27, hg_27⟩ := List.getElem?_of_mem kmrA.2
                    have h416 : vp_in (nI z391) 600 := vp_in_nI (by omega) (by omega)
                    refine va_iald hx hb hK hP i_27 1 hg_27 rfl h416 d_Model_divided_416 ?_
                    refine lv_topi (fun e416 he416 => ?_)
                    refine lv_i2l (v := e416.toInt64) hx hb d_Model_divided_417 rfl ?_
                    refine lv_lmul hx hb d_Model_divided_418 ?_
                    refine lv_lsub hx hb d_Model_divided_419 ?_
                    refine lv_ladd hx hb d_Model_divided_420 ?_
                    refine lv_topl (fun v421 ev421 => ?_)
                    refine lv_lstore (lv' := [(14, .long v421), (16, .int (nI z391)), (12, .long v371), (10, .long v356), (8, .long v278), (7, .int (nI z251)), (6, .int (nI kk)), (0, .ref mo), (1, .ref a1), (2, .int (nI n)), (3, .ref mmA), (4, .int (nI k1)), (5, .ref q1)]) hx hb d_Model_divided_421 hl (by decide) rfl (fun ls hl => ?_)
                    refine lv_aload_n hx hb d_Model_divided_423 rfl (lv_at hl 8 rfl) ?_
                    refine lv_iload hx hb d_Model_divided_424 (lv_at hl 5 rfl) ?_
                    refine lv_iload hx hb d_Model_divided_426 (lv_at hl 1 rfl) ?_
                    refine lv_iadd hx hb d_Model_divided_428 ?_
                    rw [show ((nI z251) + (nI z391) : Int32) = nI (z251 + z391) from nI_add z251 z391]
                    refine lv_lload hx hb d_Model_divided_429 (lv_at hl 0 rfl) ?_
                    refine lv_ldc2 (v := 65535) hx hb hown (htb _ q9_120) d_Model_divided_431 ?_
                    refine lv_land hx hb d_Model_divided_434 ?_
                    refine lv_l2i (v := (v421 &&& 65535).toInt32) hx hb d_Model_divided_435 rfl ?_
                    have h436 : vp_in (nI (z251 + z391)) 600 := vp_in_nI (by omega) (by omega)
                    refine va_iast hx hb hK hP hD hS i_25 1 hg_25 rfl h436 d_Model_divided_436 (fun H436 locs hP hD2 hS => ?_)
                    have hP : va_P (dC, dI) classes (G391.set i_25 (a1, .inl (γ.2.1, 600, .inl (upd f_25 (nI (z251 + z391)).toNatClampNeg ((v421 &&& 65535).toInt32))))) H436 := hP
                    have hD3 : va_D A (G391.set i_25 (a1, .inl (γ.2.1, 600, .inl (upd f_25 (nI (z251 + z391)).toNatClampNeg ((v421 &&& 65535).toInt32))))) := hD2
                    have hF1 := FR.set (c' := .inl (γ.2.1, 600, .inl (upd f_25 (nI (z251 + z391)).toNatClampNeg ((v421 &&& 65535).toInt32)))) hg_25 ka1.1
                    have kmo := kmo.fr hF1
                    have kmmA := kmmA.fr hF1
                    have kmrA := kmrA.fr hF1
                    have hFR := hFR.tr hF1.l
                    clear hF1
                    have hTy := TR.set (c' := .inl (γ.2.1, 600, .inl (upd f_25 (nI (z251 + z391)).toNatClampNeg ((v421 &&& 65535).toInt32)))) hTy hg_25 (okr_6 ka1 hn_25 _)
                    have hD := hD3
                    clear hD3 hD2
                    generalize G391.set i_25 (a1, .inl (γ.2.1, 600, .inl (upd f_25 (nI (z251 + z391)).toNatClampNeg ((v421 &&& 65535).toInt32)))) = G_28 at hP hD hTy hFR kmo kmmA kmrA 
                    refine lv_lload hx hb d_Model_divided_437 (lv_at hl 0 rfl) ?_
                    refine lv_bipush (v := 16) hx hb d_Model_divided_439 (by decide) ?_
                    refine lv_lshr (v := v421 >>> ((16 : Int32).toInt64 &&& 63)) hx hb d_Model_divided_441 rfl ?_
                    refine lv_topl (fun v442 ev442 => ?_)
                    refine lv_lstore (lv' := [(14, .long v442), (16, .int (nI z391)), (12, .long v371), (10, .long v356), (8, .long v278), (7, .int (nI z251)), (6, .int (nI kk)), (0, .ref mo), (1, .ref a1), (2, .int (nI n)), (3, .ref mmA), (4, .int (nI k1)), (5, .ref q1)]) hx hb d_Model_divided_442 hl (by decide) rfl (fun ls hl => ?_)
                    refine lv_iinc (v := nI (z391 + 1)) (lv' := [(16, .int (nI (z391 + 1))), (14, .long v442), (12, .long v371), (10, .long v356), (8, .long v278), (7, .int (nI z251)), (6, .int (nI kk)), (0, .ref mo), (1, .ref a1), (2, .int (nI n)), (3, .ref mmA), (4, .int (nI k1)), (5, .ref q1)]) hx hb d_Model_divided_444 hl (k := 1) rfl (nI_1 _) (by decide) rfl (fun ls hl => ?_)
                    refine lv_goto (tgt := 391) hx hb d_Model_divided_447 (by decide) ?_
                    exact ih391 (z391 + 1, v442, G_28) _ _ ls (by dsimp only; omega) ⟨by dsimp only; omega, hTy, hFR, kmo, kmmA, kmrA⟩ hP hD hS (lv_sub hl [0, 1, 2, 3, 4, 5, 6, 7, 8, 9, 10, 11, 12] rfl)
              · have p316 : ¬ ((0 : Int32) < (lg_cmp g9 65535)) := c316
                refine lv_lload hx hb d_Model_divided_319 (lv_at hl 1 rfl) ?_
                refine lv_aload_n hx hb d_Model_divided_321 rfl (lv_at hl 5 rfl) ?_
                refine va_get (v := .ref mrA) hx hb htb i_Model hown hK hP i_11 hg_11 rfl 10 (by decide) (htb _ q7_224) (fun _ h9 => h9) rfl d_Model_divided_322 ?_
                refine lv_iload hx hb d_Model_divided_325 (lv_at hl 9 rfl) ?_
                refine lv_iconst (v := 2) hx hb d_Model_divided_327 (by decide) ?_
                refine lv_isub hx hb d_Model_divided_328 ?_
                rw [show ((nI k1) - 2 : Int32) = nI (k1 - 2) from pk_sub (a := k1) (b := 2) (by omega)]
                have h329 : vp_in (nI (k1 - 2)) 600 := vp_in_nI (by omega) (by omega)
                refine va_iald hx hb hK hP i_12 1 hg_12 rfl h329 d_Model_divided_329 ?_
                refine lv_topi (fun e329 he329 => ?_)
                refine lv_i2l (v := e329.toInt64) hx hb d_Model_divided_330 rfl ?_
                refine lv_lmul hx hb d_Model_divided_331 ?_
                refine lv_lload hx hb d_Model_divided_332 (lv_at hl 0 rfl) ?_
                refine lv_bipush (v := 16) hx hb d_Model_divided_334 (by decide) ?_
                refine lv_lshl (v := y9 <<< ((16 : Int32).toInt64 &&& 63)) hx hb d_Model_divided_336 rfl ?_
                refine lv_aload_n hx hb d_Model_divided_337 rfl (lv_at hl 6 rfl) ?_
                refine lv_iload hx hb d_Model_divided_338 (lv_at hl 3 rfl) ?_
                refine lv_iload hx hb d_Model_divided_340 (lv_at hl 9 rfl) ?_
                refine lv_iadd hx hb d_Model_divided_342 ?_
                rw [show ((nI z251) + (nI k1) : Int32) = nI (z251 + k1) from nI_add z251 k1]
                refine lv_iconst (v := 2) hx hb d_Model_divided_343 (by decide) ?_
                refine lv_isub hx hb d_Model_divided_344 ?_
                rw [show ((nI (z251 + k1)) - 2 : Int32) = nI ((z251 + k1) - 2) from pk_sub (a := (z251 + k1)) (b := 2) (by omega)]
                have h345 : vp_in (nI ((z251 + k1) - 2)) 600 := vp_in_nI (by omega) (by omega)
                refine va_iald hx hb hK hP i_10 1 hg_10 rfl h345 d_Model_divided_345 ?_
                refine lv_topi (fun e345 he345 => ?_)
                refine lv_i2l (v := e345.toInt64) hx hb d_Model_divided_346 rfl ?_
                refine lv_lor hx hb d_Model_divided_347 ?_
                refine W.lcmp hx hb d_Model_divided_348 ?_
                refine lv_if_le (tgt := 385) hx hb d_Model_divided_349 (by decide) (fun c349 => ?_) (fun c349 => ?_)
                · have p349 : (lg_cmp (g9 * e329.toInt64) ((y9 <<< ((16 : Int32).toInt64 &&& 63)) ||| e345.toInt64)) ≤ (0 : Int32) := c349
                  refine lv_lconst (v := 0) hx hb d_Model_divided_385 (by decide) ?_
                  refine lv_lstore (lv' := [(14, .long 0), (12, .long y9), (10, .long g9), (8, .long v278), (7, .int (nI z251)), (6, .int (nI kk)), (0, .ref mo), (1, .ref a1), (2, .int (nI n)), (3, .ref mmA), (4, .int (nI k1)), (5, .ref q1)]) hx hb d_Model_divided_386 hl (by decide) rfl (fun ls hl => ?_)
                  refine lv_iconst (v := 0) hx hb d_Model_divided_388 (by decide) ?_
                  refine lv_istore (lv' := [(16, .int 0), (14, .long 0), (12, .long y9), (10, .long g9), (8, .long v278), (7, .int (nI z251)), (6, .int (nI kk)), (0, .ref mo), (1, .ref a1), (2, .int (nI n)), (3, .ref mmA), (4, .int (nI k1)), (5, .ref q1)]) hx hb d_Model_divided_389 hl (by decide) rfl (fun ls hl => ?_)
                  refine w_loopW (α := Nat × Int64 × va_W) (fun a9 => a9.1 ≤ k1 ∧ TR γ κ Ad τ a9.2.2 ∧ FL Ad [mo, mrA] G a9.2.2 ∧ Xc Ad mo cX_mo a9.2.2 ∧ Xc Ad mmA (.inl (γ.2.1, 600, .inl fm)) a9.2.2 ∧ Xc Ad mrA (.inl (γ.2.1, 600, .inl f141_mrA)) a9.2.2) (fun a9 => k1 - a9.1) (fun a9 => [(16, .int (nI a9.1)), (14, .long a9.2.1), (12, .long y9), (10, .long g9), (8, .long v278), (7, .int (nI z251)), (6, .int (nI kk)), (0, .ref mo), (1, .ref a1), (2, .int (nI n)), (3, .ref mmA), (4, .int (nI k1)), (5, .ref q1)]) (fun _ => []) (fun a9 => a9.2.2) 18 391 (fun a9 HL391 locs ls hJ hP hD hS hl ih391 => ?_) (0, (0 : Int64), G251) _ _ ls ⟨by omega, hTy, hFR, kmo, kmmA, kmrA⟩ hP hD hS (lv_sub hl [0, 1, 2, 3, 4, 5, 6, 7, 8, 9, 10, 11, 12] rfl)
                  obtain ⟨z391, x391_14, G391⟩ := a9
                  obtain ⟨hz391, hTy, hFR, kmo, kmmA, kmrA⟩ := hJ
                  dsimp only at hz391 hTy hFR kmo kmmA kmrA hP hD hl ih391
                  refine lv_iload hx hb d_Model_divided_391 (lv_at hl 0 rfl) ?_
                  refine lv_iload hx hb d_Model_divided_393 (lv_at hl 11 rfl) ?_
                  refine lv_icmp_ge (tgt := 450) hx hb d_Model_divided_395 (by decide) (fun c395 => ?_) (fun c395 => ?_)
                  · have p395 : k1 ≤ z391 := ((nI_leI (a := k1) (b := z391) (by omega) (by omega)).mp c395)
                    refine lv_lload hx hb d_Model_divided_450 (lv_at hl 1 rfl) ?_
                    refine lv_aload_n hx hb d_Model_divided_452 rfl (lv_at hl 8 rfl) ?_
                    refine lv_iload hx hb d_Model_divided_453 (lv_at hl 5 rfl) ?_
                    refine lv_iload hx hb d_Model_divided_455 (lv_at hl 11 rfl) ?_
                    refine lv_iadd hx hb d_Model_divided_457 ?_
                    rw [show ((nI z251) + (nI k1) : Int32) = nI (z251 + k1) from nI_add z251 k1]
                    obtain ⟨i_29, f_29, hn_29, hg_29⟩ := tr_6 hTy ka1
                    have h458 : vp_in (nI (z251 + k1)) 600 := vp_in_nI (by omega) (by omega)
                    refine va_iald hx hb hK hP i_29 1 hg_29 rfl h458 d_Model_divided_458 ?_
                    refine lv_topi (fun e458 he458 => ?_)
                    refine lv_i2l (v := e458.toInt64) hx hb d_Model_divided_459 rfl ?_
                    refine lv_ladd hx hb d_Model_divided_460 ?_
                    refine lv_topl (fun v461 ev461 => ?_)
                    refine lv_lstore (lv' := [(14, .long v461), (16, .int (nI z391)), (12, .long y9), (10, .long g9), (8, .long v278), (7, .int (nI z251)), (6, .int (nI kk)), (0, .ref mo), (1, .ref a1), (2, .int (nI n)), (3, .ref mmA), (4, .int (nI k1)), (5, .ref q1)]) hx hb d_Model_divided_461 hl (by decide) rfl (fun ls hl => ?_)
                    refine lv_aload_n hx hb d_Model_divided_463 rfl (lv_at hl 8 rfl) ?_
                    refine lv_iload hx hb d_Model_divided_464 (lv_at hl 5 rfl) ?_
                    refine lv_iload hx hb d_Model_divided_466 (lv_at hl 11 rfl) ?_
                    refine lv_iadd hx hb d_Model_divided_468 ?_
                    rw [show ((nI z251) + (nI k1) : Int32) = nI (z251 + k1) from nI_add z251 k1]
                    refine lv_lload hx hb d_Model_divided_469 (lv_at hl 0 rfl) ?_
                    refine lv_ldc2 (v := 65535) hx hb hown (htb _ q9_120) d_Model_divided_471 ?_
                    refine lv_land hx hb d_Model_divided_474 ?_
                    refine lv_l2i (v := (v461 &&& 65535).toInt32) hx hb d_Model_divided_475 rfl ?_
                    have h476 : vp_in (nI (z251 + k1)) 600 := vp_in_nI (by omega) (by omega)
                    refine va_iast hx hb hK hP hD hS i_29 1 hg_29 rfl h476 d_Model_divided_476 (fun H476 locs hP hD2 hS => ?_)
                    have hP : va_P (dC, dI) classes (G391.set i_29 (a1, .inl (γ.2.1, 600, .inl (upd f_29 (nI (z251 + k1)).toNatClampNeg ((v461 &&& 65535).toInt32))))) H476 := hP
                    have hD3 : va_D A (G391.set i_29 (a1, .inl (γ.2.1, 600, .inl (upd f_29 (nI (z251 + k1)).toNatClampNeg ((v461 &&& 65535).toInt32))))) := hD2
                    have hF1 := FR.set (c' := .inl (γ.2.1, 600, .inl (upd f_29 (nI (z251 + k1)).toNatClampNeg ((v461 &&& 65535).toInt32)))) hg_29 ka1.1
                    have kmo := kmo.fr hF1
                    have kmmA := kmmA.fr hF1
                    have kmrA := kmrA.fr hF1
                    have hFR := hFR.tr hF1.l
                    clear hF1
                    have hTy := TR.set (c' := .inl (γ.2.1, 600, .inl (upd f_29 (nI (z251 + k1)).toNatClampNeg ((v461 &&& 65535).toInt32)))) hTy hg_29 (okr_6 ka1 hn_29 _)
                    have hD := hD3
                    clear hD3 hD2
                    generalize G391.set i_29 (a1, .inl (γ.2.1, 600, .inl (upd f_29 (nI (z251 + k1)).toNatClampNeg ((v461 &&& 65535).toInt32)))) = G_30 at hP hD hTy hFR kmo kmmA kmrA 
                    refine lv_lload hx hb d_Model_divided_477 (lv_at hl 0 rfl) ?_
                    refine lv_lconst (v := 0) hx hb d_Model_divided_479 (by decide) ?_
                    refine W.lcmp hx hb d_Model_divided_480 ?_
                    refine lv_if_ge (tgt := 568) hx hb d_Model_divided_481 (by decide) (fun c481 => ?_) (fun c481 => ?_)
                    · have p481 : (0 : Int32) ≤ (lg_cmp v461 0) := c481
                      refine lv_aload hx hb d_Model_divided_568 (lv_at hl 12 rfl) ?_
                      refine lv_iload hx hb d_Model_divided_570 (lv_at hl 5 rfl) ?_
                      refine lv_lload hx hb d_Model_divided_572 (lv_at hl 3 rfl) ?_
                      refine lv_l2i (v := g9.toInt32) hx hb d_Model_divided_574 rfl ?_
                      obtain ⟨i_31, f_31, hn_31, hg_31⟩ := tr_6 hTy kq1
                      have h575 : vp_in (nI z251) 600 := vp_in_nI (by omega) (by omega)
                      refine va_iast hx hb hK hP hD hS i_31 1 hg_31 rfl h575 d_Model_divided_575 (fun H575 locs hP hD2 hS => ?_)
                      have hP : va_P (dC, dI) classes (G_30.set i_31 (q1, .inl (γ.2.1, 600, .inl (upd f_31 (nI z251).toNatClampNeg g9.toInt32)))) H575 := hP
                      have hD3 : va_D A (G_30.set i_31 (q1, .inl (γ.2.1, 600, .inl (upd f_31 (nI z251).toNatClampNeg g9.toInt32)))) := hD2
                      have hF1 := FR.set (c' := .inl (γ.2.1, 600, .inl (upd f_31 (nI z251).toNatClampNeg g9.toInt32))) hg_31 kq1.1
                      have kmo := kmo.fr hF1
                      have kmmA := kmmA.fr hF1
                      have kmrA := kmrA.fr hF1
                      have hFR := hFR.tr hF1.l
                      clear hF1
                      have hTy := TR.set (c' := .inl (γ.2.1, 600, .inl (upd f_31 (nI z251).toNatClampNeg g9.toInt32))) hTy hg_31 (okr_6 kq1 hn_31 _)
                      have hD := hD3
                      clear hD3 hD2
                      generalize G_30.set i_31 (q1, .inl (γ.2.1, 600, .inl (upd f_31 (nI z251).toNatClampNeg g9.toInt32))) = G_32 at hP hD hTy hFR kmo kmmA kmrA 
                      refine lv_iinc (v := jD z251) (lv' := [(7, .int (jD z251)), (14, .long v461), (16, .int (nI z391)), (12, .long y9), (10, .long g9), (8, .long v278), (6, .int (nI kk)), (0, .ref mo), (1, .ref a1), (2, .int (nI n)), (3, .ref mmA), (4, .int (nI k1)), (5, .ref q1)]) hx hb d_Model_divided_576 hl (k := 5) rfl (jD_dec _) (by decide) rfl (fun ls hl => ?_)
                      refine lv_goto (tgt := 251) hx hb d_Model_divided_579 (by decide) ?_
                      exact ih251 (z251, G_32) _ _ ls (by dsimp only; omega) ⟨by dsimp only; omega, hTy, hFR, kmo, kmmA, kmrA⟩ hP hD hS (lv_sub hl [0, 6, 7, 8, 9, 10, 11, 12] rfl)
                    · have p481 : ¬ ((0 : Int32) ≤ (lg_cmp v461 0)) := c481
                      refine lv_lload hx hb d_Model_divided_484 (lv_at hl 3 rfl) ?_
                      refine lv_lconst (v := 1) hx hb d_Model_divided_486 (by decide) ?_
                      refine lv_lsub hx hb d_Model_divided_487 ?_
                      refine lv_topl (fun v488 ev488 => ?_)
                      refine lv_lstore (lv' := [(10, .long v488), (14, .long v461), (16, .int (nI z391)), (12, .long y9), (8, .long v278), (7, .int (nI z251)), (6, .int (nI kk)), (0, .ref mo), (1, .ref a1), (2, .int (nI n)), (3, .ref mmA), (4, .int (nI k1)), (5, .ref q1)]) hx hb d_Model_divided_488 hl (by decide) rfl (fun ls hl => ?_)
                      refine lv_iconst (v := 0) hx hb d_Model_divided_490 (by decide) ?_
                      refine lv_istore (lv' := [(16, .int 0), (10, .long v488), (14, .long v461), (12, .long y9), (8, .long v278), (7, .int (nI z251)), (6, .int (nI kk)), (0, .ref mo), (1, .ref a1), (2, .int (nI n)), (3, .ref mmA), (4, .int (nI k1)), (5, .ref q1)]) hx hb d_Model_divided_491 hl (by decide) rfl (fun ls hl => ?_)
                      refine lv_iconst (v := 0) hx hb d_Model_divided_493 (by decide) ?_
                      refine lv_istore (lv' := [(17, .int 0), (16, .int 0), (10, .long v488), (14, .long v461), (12, .long y9), (8, .long v278), (7, .int (nI z251)), (6, .int (nI kk)), (0, .ref mo), (1, .ref a1), (2, .int (nI n)), (3, .ref mmA), (4, .int (nI k1)), (5, .ref q1)]) hx hb d_Model_divided_494 hl (by decide) rfl (fun ls hl => ?_)
                      refine w_loopW (α := Nat × Int32 × va_W) (fun a9 => a9.1 ≤ k1 ∧ TR γ κ Ad τ a9.2.2 ∧ FL Ad [mo, mrA] G a9.2.2 ∧ Xc Ad mo cX_mo a9.2.2 ∧ Xc Ad mmA (.inl (γ.2.1, 600, .inl fm)) a9.2.2 ∧ Xc Ad mrA (.inl (γ.2.1, 600, .inl f141_mrA)) a9.2.2) (fun a9 => k1 - a9.1) (fun a9 => [(17, .int (nI a9.1)), (16, .int a9.2.1), (10, .long v488), (14, .long v461), (12, .long y9), (8, .long v278), (7, .int (nI z251)), (6, .int (nI kk)), (0, .ref mo), (1, .ref a1), (2, .int (nI n)), (3, .ref mmA), (4, .int (nI k1)), (5, .ref q1)]) (fun _ => []) (fun a9 => a9.2.2) 18 496 (fun a9 HL496 locs ls hJ hP hD hS hl ih496 => ?_) (0, (0 : Int32), G_30) _ _ ls ⟨by omega, hTy, hFR, kmo, kmmA, kmrA⟩ hP hD hS (lv_sub hl [0, 1, 2, 3, 4, 5, 6, 7, 8, 9, 10, 11, 12, 13] rfl)
                      obtain ⟨z496, x496_16, G496⟩ := a9
                      obtain ⟨hz496, hTy, hFR, kmo, kmmA, kmrA⟩ := hJ
                      dsimp only at hz496 hTy hFR kmo kmmA kmrA hP hD hl ih496
                      refine lv_iload hx hb d_Model_divided_496 (lv_at hl 0 rfl) ?_
                      refine lv_iload hx hb d_Model_divided_498 (lv_at hl 12 rfl) ?_
                      refine lv_icmp_ge (tgt := 548) hx hb d_Model_divided_500 (by decide) (fun c500 => ?_) (fun c500 => ?_)
                      · have p500 : k1 ≤ z496 := ((nI_leI (a := k1) (b := z496) (by omega) (by omega)).mp c500)
                        refine lv_aload_n hx hb d_Model_divided_548 rfl (lv_at hl 9 rfl) ?_
                        refine lv_iload hx hb d_Model_divided_549 (lv_at hl 6 rfl) ?_
                        refine lv_iload hx hb d_Model_divided_551 (lv_at hl 12 rfl) ?_
                        refine lv_iadd hx hb d_Model_divided_553 ?_
                        rw [show ((nI z251) + (nI k1) : Int32) = nI (z251 + k1) from nI_add z251 k1]
                        refine lv_aload_n hx hb d_Model_divided_554 rfl (lv_at hl 9 rfl) ?_
                        refine lv_iload hx hb d_Model_divided_555 (lv_at hl 6 rfl) ?_
                        refine lv_iload hx hb d_Model_divided_557 (lv_at hl 12 rfl) ?_
                        refine lv_iadd hx hb d_Model_divided_559 ?_
                        rw [show ((nI z251) + (nI k1) : Int32) = nI (z251 + k1) from nI_add z251 k1]
                        obtain ⟨i_33, f_33, hn_33, hg_33⟩ := tr_6 hTy ka1
                        have h560 : vp_in (nI (z251 + k1)) 600 := vp_in_nI (by omega) (by omega)
                        refine va_iald hx hb hK hP i_33 1 hg_33 rfl h560 d_Model_divided_560 ?_
                        refine lv_topi (fun e560 he560 => ?_)
                        refine lv_iload hx hb d_Model_divided_561 (lv_at hl 1 rfl) ?_
                        refine lv_iadd hx hb d_Model_divided_563 ?_
                        refine lv_ldc (v := 65535) hx hb hown (htb _ q9_126) d_Model_divided_564 ?_
                        refine lv_iand hx hb d_Model_divided_566 ?_
                        have h567 : vp_in (nI (z251 + k1)) 600 := vp_in_nI (by omega) (by omega)
                        refine va_iast hx hb hK hP hD hS i_33 1 hg_33 rfl h567 d_Model_divided_567 (fun H567 locs hP hD2 hS => ?_)
                        have hP : va_P (dC, dI) classes (G496.set i_33 (a1, .inl (γ.2.1, 600, .inl (upd f_33 (nI (z251 + k1)).toNatClampNeg ((e560 + x496_16) &&& 65535))))) H567 := hP
                        have hD3 : va_D A (G496.set i_33 (a1, .inl (γ.2.1, 600, .inl (upd f_33 (nI (z251 + k1)).toNatClampNeg ((e560 + x496_16) &&& 65535))))) := hD2
                        have hF1 := FR.set (c' := .inl (γ.2.1, 600, .inl (upd f_33 (nI (z251 + k1)).toNatClampNeg ((e560 + x496_16) &&& 65535)))) hg_33 ka1.1
                        have kmo := kmo.fr hF1
                        have kmmA := kmmA.fr hF1
                        have kmrA := kmrA.fr hF1
                        have hFR := hFR.tr hF1.l
                        clear hF1
                        have hTy := TR.set (c' := .inl (γ.2.1, 600, .inl (upd f_33 (nI (z251 + k1)).toNatClampNeg ((e560 + x496_16) &&& 65535)))) hTy hg_33 (okr_6 ka1 hn_33 _)
                        have hD := hD3
                        clear hD3 hD2
                        generalize G496.set i_33 (a1, .inl (γ.2.1, 600, .inl (upd f_33 (nI (z251 + k1)).toNatClampNeg ((e560 + x496_16) &&& 65535)))) = G_34 at hP hD hTy hFR kmo kmmA kmrA 
                        refine lv_aload hx hb d_Model_divided_568 (lv_at hl 13 rfl) ?_
                        refine lv_iload hx hb d_Model_divided_570 (lv_at hl 6 rfl) ?_
                        refine lv_lload hx hb d_Model_divided_572 (lv_at hl 2 rfl) ?_
                        refine lv_l2i (v := v488.toInt32) hx hb d_Model_divided_574 rfl ?_
                        obtain ⟨i_35, f_35, hn_35, hg_35⟩ := tr_6 hTy kq1
                        have h575 : vp_in (nI z251) 600 := vp_in_nI (by omega) (by omega)
                        refine va_iast hx hb hK hP hD hS i_35 1 hg_35 rfl h575 d_Model_divided_575 (fun H575 locs hP hD2 hS => ?_)
                        have hP : va_P (dC, dI) classes (G_34.set i_35 (q1, .inl (γ.2.1, 600, .inl (upd f_35 (nI z251).toNatClampNeg v488.toInt32)))) H575 := hP
                        have hD3 : va_D A (G_34.set i_35 (q1, .inl (γ.2.1, 600, .inl (upd f_35 (nI z251).toNatClampNeg v488.toInt32)))) := hD2
                        have hF1 := FR.set (c' := .inl (γ.2.1, 600, .inl (upd f_35 (nI z251).toNatClampNeg v488.toInt32))) hg_35 kq1.1
                        have kmo := kmo.fr hF1
                        have kmmA := kmmA.fr hF1
                        have kmrA := kmrA.fr hF1
                        have hFR := hFR.tr hF1.l
                        clear hF1
                        have hTy := TR.set (c' := .inl (γ.2.1, 600, .inl (upd f_35 (nI z251).toNatClampNeg v488.toInt32))) hTy hg_35 (okr_6 kq1 hn_35 _)
                        have hD := hD3
                        clear hD3 hD2
                        generalize G_34.set i_35 (q1, .inl (γ.2.1, 600, .inl (upd f_35 (nI z251).toNatClampNeg v488.toInt32))) = G_36 at hP hD hTy hFR kmo kmmA kmrA 
                        refine lv_iinc (v := jD z251) (lv' := [(7, .int (jD z251)), (17, .int (nI z496)), (16, .int x496_16), (10, .long v488), (14, .long v461), (12, .long y9), (8, .long v278), (6, .int (nI kk)), (0, .ref mo), (1, .ref a1), (2, .int (nI n)), (3, .ref mmA), (4, .int (nI k1)), (5, .ref q1)]) hx hb d_Model_divided_576 hl (k := 6) rfl (jD_dec _) (by decide) rfl (fun ls hl => ?_)
                        refine lv_goto (tgt := 251) hx hb d_Model_divided_579 (by decide) ?_
                        exact ih251 (z251, G_36) _ _ ls (by dsimp only; omega) ⟨by dsimp only; omega, hTy, hFR, kmo, kmmA, kmrA⟩ hP hD hS (lv_sub hl [0, 7, 8, 9, 10, 11, 12, 13] rfl)
                      · have p500 : ¬ (k1 ≤ z496) := (fun q9 => c500 ((nI_leI (a := k1) (b := z496) (by omega) (by omega)).mpr q9))
                        refine lv_iload hx hb d_Model_divided_503 (lv_at hl 1 rfl) ?_
                        refine lv_aload_n hx hb d_Model_divided_505 rfl (lv_at hl 9 rfl) ?_
                        refine lv_iload hx hb d_Model_divided_506 (lv_at hl 6 rfl) ?_
                        refine lv_iload hx hb d_Model_divided_508 (lv_at hl 0 rfl) ?_
                        refine lv_iadd hx hb d_Model_divided_510 ?_
                        rw [show ((nI z251) + (nI z496) : Int32) = nI (z251 + z496) from nI_add z251 z496]
                        obtain ⟨i_37, f_37, hn_37, hg_37⟩ := tr_6 hTy ka1
                        have h511 : vp_in (nI (z251 + z496)) 600 := vp_in_nI (by omega) (by omega)
                        refine va_iald hx hb hK hP i_37 1 hg_37 rfl h511 d_Model_divided_511 ?_
                        refine lv_topi (fun e511 he511 => ?_)
                        refine lv_aload_n hx hb d_Model_divided_512 rfl (lv_at hl 8 rfl) ?_
                        obtain ⟨i_38, hg_38⟩ := List.getElem?_of_mem kmo.2
                        rw [eX_mo] at hg_38
                        refine va_get (v := .ref mrA) hx hb htb i_Model hown hK hP i_38 hg_38 rfl 10 (by decide) (htb _ q7_224) (fun _ h9 => h9) rfl d_Model_divided_513 ?_
                        refine lv_iload hx hb d_Model_divided_516 (lv_at hl 0 rfl) ?_
                        obtain ⟨i_39, hg_39⟩ := List.getElem?_of_mem kmrA.2
                        have h518 : vp_in (nI z496) 600 := vp_in_nI (by omega) (by omega)
                        refine va_iald hx hb hK hP i_39 1 hg_39 rfl h518 d_Model_divided_518 ?_
                        refine lv_topi (fun e518 he518 => ?_)
                        refine lv_iadd hx hb d_Model_divided_519 ?_
                        refine lv_iadd hx hb d_Model_divided_520 ?_
                        refine lv_topi (fun v521 ev521 => ?_)
                        refine lv_istore (lv' := [(16, .int v521), (17, .int (nI z496)), (10, .long v488), (14, .long v461), (12, .long y9), (8, .long v278), (7, .int (nI z251)), (6, .int (nI kk)), (0, .ref mo), (1, .ref a1), (2, .int (nI n)), (3, .ref mmA), (4, .int (nI k1)), (5, .ref q1)]) hx hb d_Model_divided_521 hl (by decide) rfl (fun ls hl => ?_)
                        refine lv_aload_n hx hb d_Model_divided_523 rfl (lv_at hl 9 rfl) ?_
                        refine lv_iload hx hb d_Model_divided_524 (lv_at hl 6 rfl) ?_
                        refine lv_iload hx hb d_Model_divided_526 (lv_at hl 1 rfl) ?_
                        refine lv_iadd hx hb d_Model_divided_528 ?_
                        rw [show ((nI z251) + (nI z496) : Int32) = nI (z251 + z496) from nI_add z251 z496]
                        refine lv_iload hx hb d_Model_divided_529 (lv_at hl 0 rfl) ?_
                        refine lv_ldc (v := 65535) hx hb hown (htb _ q9_126) d_Model_divided_531 ?_
                        refine lv_iand hx hb d_Model_divided_533 ?_
                        have h534 : vp_in (nI (z251 + z496)) 600 := vp_in_nI (by omega) (by omega)
                        refine va_iast hx hb hK hP hD hS i_37 1 hg_37 rfl h534 d_Model_divided_534 (fun H534 locs hP hD2 hS => ?_)
                        have hP : va_P (dC, dI) classes (G496.set i_37 (a1, .inl (γ.2.1, 600, .inl (upd f_37 (nI (z251 + z496)).toNatClampNeg (v521 &&& 65535))))) H534 := hP
                        have hD3 : va_D A (G496.set i_37 (a1, .inl (γ.2.1, 600, .inl (upd f_37 (nI (z251 + z496)).toNatClampNeg (v521 &&& 65535))))) := hD2
                        have hF1 := FR.set (c' := .inl (γ.2.1, 600, .inl (upd f_37 (nI (z251 + z496)).toNatClampNeg (v521 &&& 65535)))) hg_37 ka1.1
                        have kmo := kmo.fr hF1
                        have kmmA := kmmA.fr hF1
                        have kmrA := kmrA.fr hF1
                        have hFR := hFR.tr hF1.l
                        clear hF1
                        have hTy := TR.set (c' := .inl (γ.2.1, 600, .inl (upd f_37 (nI (z251 + z496)).toNatClampNeg (v521 &&& 65535)))) hTy hg_37 (okr_6 ka1 hn_37 _)
                        have hD := hD3
                        clear hD3 hD2
                        generalize G496.set i_37 (a1, .inl (γ.2.1, 600, .inl (upd f_37 (nI (z251 + z496)).toNatClampNeg (v521 &&& 65535)))) = G_40 at hP hD hTy hFR kmo kmmA kmrA 
                        refine lv_iload hx hb d_Model_divided_535 (lv_at hl 0 rfl) ?_
                        refine lv_bipush (v := 16) hx hb d_Model_divided_537 (by decide) ?_
                        refine lv_ishr hx hb d_Model_divided_539 ?_
                        refine lv_topi (fun v540 ev540 => ?_)
                        refine lv_istore (lv' := [(16, .int v540), (17, .int (nI z496)), (10, .long v488), (14, .long v461), (12, .long y9), (8, .long v278), (7, .int (nI z251)), (6, .int (nI kk)), (0, .ref mo), (1, .ref a1), (2, .int (nI n)), (3, .ref mmA), (4, .int (nI k1)), (5, .ref q1)]) hx hb d_Model_divided_540 hl (by decide) rfl (fun ls hl => ?_)
                        refine lv_iinc (v := nI (z496 + 1)) (lv' := [(17, .int (nI (z496 + 1))), (16, .int v540), (10, .long v488), (14, .long v461), (12, .long y9), (8, .long v278), (7, .int (nI z251)), (6, .int (nI kk)), (0, .ref mo), (1, .ref a1), (2, .int (nI n)), (3, .ref mmA), (4, .int (nI k1)), (5, .ref q1)]) hx hb d_Model_divided_542 hl (k := 1) rfl (nI_1 _) (by decide) rfl (fun ls hl => ?_)
                        refine lv_goto (tgt := 496) hx hb d_Model_divided_545 (by decide) ?_
                        exact ih496 (z496 + 1, v540, G_40) _ _ ls (by dsimp only; omega) ⟨by dsimp only; omega, hTy, hFR, kmo, kmmA, kmrA⟩ hP hD hS (lv_sub hl [0, 1, 2, 3, 4, 5, 6, 7, 8, 9, 10, 11, 12, 13] rfl)
                  · have p395 : ¬ (k1 ≤ z391) := (fun q9 => c395 ((nI_leI (a := k1) (b := z391) (by omega) (by omega)).mpr q9))
                    refine lv_lload hx hb d_Model_divided_398 (lv_at hl 1 rfl) ?_
                    refine lv_aload_n hx hb d_Model_divided_400 rfl (lv_at hl 8 rfl) ?_
                    refine lv_iload hx hb d_Model_divided_401 (lv_at hl 5 rfl) ?_
                    refine lv_iload hx hb d_Model_divided_403 (lv_at hl 0 rfl) ?_
                    refine lv_iadd hx hb d_Model_divided_405 ?_
                    rw [show ((nI z251) + (nI z391) : Int32) = nI (z251 + z391) from nI_add z251 z391]
                    obtain ⟨i_41, f_41, hn_41, hg_41⟩ := tr_6 hTy ka1
                    have h406 : vp_in (nI (z251 + z391)) 600 := vp_in_nI (by omega) (by omega)
                    refine va_iald hx hb hK hP i_41 1 hg_41 rfl h406 d_Model_divided_406 ?_
                    refine lv_topi (fun e406 he406 => ?_)
                    refine lv_i2l (v := e406.toInt64) hx hb d_Model_divided_407 rfl ?_
                    refine lv_lload hx hb d_Model_divided_408 (lv_at hl 3 rfl) ?_
                    refine lv_aload_n hx hb d_Model_divided_410 rfl (lv_at hl 7 rfl) ?_
                    obtain ⟨i_42, hg_42⟩ := List.getElem?_of_mem kmo.2
                    rw [eX_mo] at hg_42
                    refine va_get (v := .ref mrA) hx hb htb i_Model hown hK hP i_42 hg_42 rfl 10 (by decide) (htb _ q7_224) (fun _ h9 => h9) rfl d_Model_divided_411 ?_
                    refine lv_iload hx hb d_Model_divided_414 (lv_at hl 0 rfl) ?_
                    obtain ⟨i_43, hg_43⟩ := List.getElem?_of_mem kmrA.2
                    have h416 : vp_in (nI z391) 600 := vp_in_nI (by omega) (by omega)
                    refine va_iald hx hb hK hP i_43 1 hg_43 rfl h416 d_Model_divided_416 ?_
                    refine lv_topi (fun e416 he416 => ?_)
                    refine lv_i2l (v := e416.toInt64) hx hb d_Model_divided_417 rfl ?_
                    refine lv_lmul hx hb d_Model_divided_418 ?_
                    refine lv_lsub hx hb d_Model_divided_419 ?_
                    refine lv_ladd hx hb d_Model_divided_420 ?_
                    refine lv_topl (fun v421 ev421 => ?_)
                    refine lv_lstore (lv' := [(14, .long v421), (16, .int (nI z391)), (12, .long y9), (10, .long g9), (8, .long v278), (7, .int (nI z251)), (6, .int (nI kk)), (0, .ref mo), (1, .ref a1), (2, .int (nI n)), (3, .ref mmA), (4, .int (nI k1)), (5, .ref q1)]) hx hb d_Model_divided_421 hl (by decide) rfl (fun ls hl => ?_)
                    refine lv_aload_n hx hb d_Model_divided_423 rfl (lv_at hl 8 rfl) ?_
                    refine lv_iload hx hb d_Model_divided_424 (lv_at hl 5 rfl) ?_
                    refine lv_iload hx hb d_Model_divided_426 (lv_at hl 1 rfl) ?_
                    refine lv_iadd hx hb d_Model_divided_428 ?_
                    rw [show ((nI z251) + (nI z391) : Int32) = nI (z251 + z391) from nI_add z251 z391]
                    refine lv_lload hx hb d_Model_divided_429 (lv_at hl 0 rfl) ?_
                    refine lv_ldc2 (v := 65535) hx hb hown (htb _ q9_120) d_Model_divided_431 ?_
                    refine lv_land hx hb d_Model_divided_434 ?_
                    refine lv_l2i (v := (v421 &&& 65535).toInt32) hx hb d_Model_divided_435 rfl ?_
                    have h436 : vp_in (nI (z251 + z391)) 600 := vp_in_nI (by omega) (by omega)
                    refine va_iast hx hb hK hP hD hS i_41 1 hg_41 rfl h436 d_Model_divided_436 (fun H436 locs hP hD2 hS => ?_)
                    have hP : va_P (dC, dI) classes (G391.set i_41 (a1, .inl (γ.2.1, 600, .inl (upd f_41 (nI (z251 + z391)).toNatClampNeg ((v421 &&& 65535).toInt32))))) H436 := hP
                    have hD3 : va_D A (G391.set i_41 (a1, .inl (γ.2.1, 600, .inl (upd f_41 (nI (z251 + z391)).toNatClampNeg ((v421 &&& 65535).toInt32))))) := hD2
                    have hF1 := FR.set (c' := .inl (γ.2.1, 600, .inl (upd f_41 (nI (z251 + z391)).toNatClampNeg ((v421 &&& 65535).toInt32)))) hg_41 ka1.1
                    have kmo := kmo.fr hF1
                    have kmmA := kmmA.fr hF1
                    have kmrA := kmrA.fr hF1
                    have hFR := hFR.tr hF1.l
                    clear hF1
                    have hTy := TR.set (c' := .inl (γ.2.1, 600, .inl (upd f_41 (nI (z251 + z391)).toNatClampNeg ((v421 &&& 65535).toInt32)))) hTy hg_41 (okr_6 ka1 hn_41 _)
                    have hD := hD3
                    clear hD3 hD2
                    generalize G391.set i_41 (a1, .inl (γ.2.1, 600, .inl (upd f_41 (nI (z251 + z391)).toNatClampNeg ((v421 &&& 65535).toInt32)))) = G_44 at hP hD hTy hFR kmo kmmA kmrA 
                    refine lv_lload hx hb d_Model_divided_437 (lv_at hl 0 rfl) ?_
                    refine lv_bipush (v := 16) hx hb d_Model_divided_439 (by decide) ?_
                    refine lv_lshr (v := v421 >>> ((16 : Int32).toInt64 &&& 63)) hx hb d_Model_divided_441 rfl ?_
                    refine lv_topl (fun v442 ev442 => ?_)
                    refine lv_lstore (lv' := [(14, .long v442), (16, .int (nI z391)), (12, .long y9), (10, .long g9), (8, .long v278), (7, .int (nI z251)), (6, .int (nI kk)), (0, .ref mo), (1, .ref a1), (2, .int (nI n)), (3, .ref mmA), (4, .int (nI k1)), (5, .ref q1)]) hx hb d_Model_divided_442 hl (by decide) rfl (fun ls hl => ?_)
                    refine lv_iinc (v := nI (z391 + 1)) (lv' := [(16, .int (nI (z391 + 1))), (14, .long v442), (12, .long y9), (10, .long g9), (8, .long v278), (7, .int (nI z251)), (6, .int (nI kk)), (0, .ref mo), (1, .ref a1), (2, .int (nI n)), (3, .ref mmA), (4, .int (nI k1)), (5, .ref q1)]) hx hb d_Model_divided_444 hl (k := 1) rfl (nI_1 _) (by decide) rfl (fun ls hl => ?_)
                    refine lv_goto (tgt := 391) hx hb d_Model_divided_447 (by decide) ?_
                    exact ih391 (z391 + 1, v442, G_44) _ _ ls (by dsimp only; omega) ⟨by dsimp only; omega, hTy, hFR, kmo, kmmA, kmrA⟩ hP hD hS (lv_sub hl [0, 1, 2, 3, 4, 5, 6, 7, 8, 9, 10, 11, 12] rfl)
                · have p349 : ¬ ((lg_cmp (g9 * e329.toInt64) ((y9 <<< ((16 : Int32).toInt64 &&& 63)) ||| e345.toInt64)) ≤ (0 : Int32)) := c349
                  refine lv_lload hx hb d_Model_divided_352 (lv_at hl 1 rfl) ?_
                  refine lv_lconst (v := 1) hx hb d_Model_divided_354 (by decide) ?_
                  refine lv_lsub hx hb d_Model_divided_355 ?_
                  refine lv_topl (fun v356 ev356 => ?_)
                  refine lv_lstore (lv' := [(10, .long v356), (12, .long y9), (8, .long v278), (7, .int (nI z251)), (6, .int (nI kk)), (0, .ref mo), (1, .ref a1), (2, .int (nI n)), (3, .ref mmA), (4, .int (nI k1)), (5, .ref q1)]) hx hb d_Model_divided_356 hl (by decide) rfl (fun ls hl => ?_)
                  refine lv_lload hx hb d_Model_divided_358 (lv_at hl 1 rfl) ?_
                  refine lv_aload_n hx hb d_Model_divided_360 rfl (lv_at hl 5 rfl) ?_
                  refine va_get (v := .ref mrA) hx hb htb i_Model hown hK hP i_11 hg_11 rfl 10 (by decide) (htb _ q7_224) (fun _ h9 => h9) rfl d_Model_divided_361 ?_
                  refine lv_iload hx hb d_Model_divided_364 (lv_at hl 9 rfl) ?_
                  refine lv_iconst (v := 1) hx hb d_Model_divided_366 (by decide) ?_
                  refine lv_isub hx hb d_Model_divided_367 ?_
                  rw [show ((nI k1) - 1 : Int32) = nI (k1 - 1) from pk_sub (a := k1) (b := 1) (by omega)]
                  have h368 : vp_in (nI (k1 - 1)) 600 := vp_in_nI (by omega) (by omega)
                  refine va_iald hx hb hK hP i_12 1 hg_12 rfl h368 d_Model_divided_368 ?_
                  refine lv_topi (fun e368 he368 => ?_)
                  refine lv_i2l (v := e368.toInt64) hx hb d_Model_divided_369 rfl ?_
                  refine lv_ladd hx hb d_Model_divided_370 ?_
                  refine lv_topl (fun v371 ev371 => ?_)
                  refine lv_lstore (lv' := [(12, .long v371), (10, .long v356), (8, .long v278), (7, .int (nI z251)), (6, .int (nI kk)), (0, .ref mo), (1, .ref a1), (2, .int (nI n)), (3, .ref mmA), (4, .int (nI k1)), (5, .ref q1)]) hx hb d_Model_divided_371 hl (by decide) rfl (fun ls hl => ?_)
                  refine lv_lload hx hb d_Model_divided_373 (lv_at hl 0 rfl) ?_
                  refine lv_ldc2 (v := 65535) hx hb hown (htb _ q9_120) d_Model_divided_375 ?_
                  refine W.lcmp hx hb d_Model_divided_378 ?_
                  refine lv_if_le (tgt := 310) hx hb d_Model_divided_379 (by decide) (fun c379 => ?_) (fun c379 => ?_)
                  · have p379 : (lg_cmp v371 65535) ≤ (0 : Int32) := c379
                    have q1 : v371.toInt ≤ 65535 := cmp_le p379
                    exact ih310 (false, v356, v371) ls (lf_mu hN9 hJ q1 ev371 (by rw [he368, nI_clamp (by omega), hr3]) (by omega) (by omega)) (fun _ => q1) (lv_sub hl [0, 1, 2, 3, 4, 5, 6, 7, 8, 9, 10] rfl)
                  · have p379 : ¬ ((lg_cmp v371 65535) ≤ (0 : Int32)) := c379
                    refine lv_goto (tgt := 385) hx hb d_Model_divided_382 (by decide) ?_
                    refine lv_lconst (v := 0) hx hb d_Model_divided_385 (by decide) ?_
                    refine lv_lstore (lv' := [(14, .long 0), (12, .long v371), (10, .long v356), (8, .long v278), (7, .int (nI z251)), (6, .int (nI kk)), (0, .ref mo), (1, .ref a1), (2, .int (nI n)), (3, .ref mmA), (4, .int (nI k1)), (5, .ref q1)]) hx hb d_Model_divided_386 hl (by decide) rfl (fun ls hl => ?_)
                    refine lv_iconst (v := 0) hx hb d_Model_divided_388 (by decide) ?_
                    refine lv_istore (lv' := [(16, .int 0), (14, .long 0), (12, .long v371), (10, .long v356), (8, .long v278), (7, .int (nI z251)), (6, .int (nI kk)), (0, .ref mo), (1, .ref a1), (2, .int (nI n)), (3, .ref mmA), (4, .int (nI k1)), (5, .ref q1)]) hx hb d_Model_divided_389 hl (by decide) rfl (fun ls hl => ?_)
                    refine w_loopW (α := Nat × Int64 × va_W) (fun a9 => a9.1 ≤ k1 ∧ TR γ κ Ad τ a9.2.2 ∧ FL Ad [mo, mrA] G a9.2.2 ∧ Xc Ad mo cX_mo a9.2.2 ∧ Xc Ad mmA (.inl (γ.2.1, 600, .inl fm)) a9.2.2 ∧ Xc Ad mrA (.inl (γ.2.1, 600, .inl f141_mrA)) a9.2.2) (fun a9 => k1 - a9.1) (fun a9 => [(16, .int (nI a9.1)), (14, .long a9.2.1), (12, .long v371), (10, .long v356), (8, .long v278), (7, .int (nI z251)), (6, .int (nI kk)), (0, .ref mo), (1, .ref a1), (2, .int (nI n)), (3, .ref mmA), (4, .int (nI k1)), (5, .ref q1)]) (fun _ => []) (fun a9 => a9.2.2) 18 391 (fun a9 HL391 locs ls hJ hP hD hS hl ih391 => ?_) (0, (0 : Int64), G251) _ _ ls ⟨by omega, hTy, hFR, kmo, kmmA, kmrA⟩ hP hD hS (lv_sub hl [0, 1, 2, 3, 4, 5, 6, 7, 8, 9, 10, 11, 12] rfl)
                    obtain ⟨z391, x391_14, G391⟩ := a9
                    obtain ⟨hz391, hTy, hFR, kmo, kmmA, kmrA⟩ := hJ
                    dsimp only at hz391 hTy hFR kmo kmmA kmrA hP hD hl ih391
                    refine lv_iload hx hb d_Model_divided_391 (lv_at hl 0 rfl) ?_
                    refine lv_iload hx hb d_Model_divided_393 (lv_at hl 11 rfl) ?_
                    refine lv_icmp_ge (tgt := 450) hx hb d_Model_divided_395 (by decide) (fun c395 => ?_) (fun c395 => ?_)
                    · have p395 : k1 ≤ z391 := ((nI_leI (a := k1) (b := z391) (by omega) (by omega)).mp c395)
                      refine lv_lload hx hb d_Model_divided_450 (lv_at hl 1 rfl) ?_
                      refine lv_aload_n hx hb d_Model_divided_452 rfl (lv_at hl 8 rfl) ?_
                      refine lv_iload hx hb d_Model_divided_453 (lv_at hl 5 rfl) ?_
                      refine lv_iload hx hb d_Model_divided_455 (lv_at hl 11 rfl) ?_
                      refine lv_iadd hx hb d_Model_divided_457 ?_
                      rw [show ((nI z251) + (nI k1) : Int32) = nI (z251 + k1) from nI_add z251 k1]
                      obtain ⟨i_45, f_45, hn_45, hg_45⟩ := tr_6 hTy ka1
                      have h458 : vp_in (nI (z251 + k1)) 600 := vp_in_nI (by omega) (by omega)
                      refine va_iald hx hb hK hP i_45 1 hg_45 rfl h458 d_Model_divided_458 ?_
                      refine lv_topi (fun e458 he458 => ?_)
                      refine lv_i2l (v := e458.toInt64) hx hb d_Model_divided_459 rfl ?_
                      refine lv_ladd hx hb d_Model_divided_460 ?_
                      refine lv_topl (fun v461 ev461 => ?_)
                      refine lv_lstore (lv' := [(14, .long v461), (16, .int (nI z391)), (12, .long v371), (10, .long v356), (8, .long v278), (7, .int (nI z251)), (6, .int (nI kk)), (0, .ref mo), (1, .ref a1), (2, .int (nI n)), (3, .ref mmA), (4, .int (nI k1)), (5, .ref q1)]) hx hb d_Model_divided_461 hl (by decide) rfl (fun ls hl => ?_)
                      refine lv_aload_n hx hb d_Model_divided_463 rfl (lv_at hl 8 rfl) ?_
                      refine lv_iload hx hb d_Model_divided_464 (lv_at hl 5 rfl) ?_
                      refine lv_iload hx hb d_Model_divided_466 (lv_at hl 11 rfl) ?_
                      refine lv_iadd hx hb d_Model_divided_468 ?_
                      rw [show ((nI z251) + (nI k1) : Int32) = nI (z251 + k1) from nI_add z251 k1]
                      refine lv_lload hx hb d_Model_divided_469 (lv_at hl 0 rfl) ?_
                      refine lv_ldc2 (v := 65535) hx hb hown (htb _ q9_120) d_Model_divided_471 ?_
                      refine lv_land hx hb d_Model_divided_474 ?_
                      refine lv_l2i (v := (v461 &&& 65535).toInt32) hx hb d_Model_divided_475 rfl ?_
                      have h476 : vp_in (nI (z251 + k1)) 600 := vp_in_nI (by omega) (by omega)
                      refine va_iast hx hb hK hP hD hS i_45 1 hg_45 rfl h476 d_Model_divided_476 (fun H476 locs hP hD2 hS => ?_)
                      have hP : va_P (dC, dI) classes (G391.set i_45 (a1, .inl (γ.2.1, 600, .inl (upd f_45 (nI (z251 + k1)).toNatClampNeg ((v461 &&& 65535).toInt32))))) H476 := hP
                      have hD3 : va_D A (G391.set i_45 (a1, .inl (γ.2.1, 600, .inl (upd f_45 (nI (z251 + k1)).toNatClampNeg ((v461 &&& 65535).toInt32))))) := hD2
                      have hF1 := FR.set (c' := .inl (γ.2.1, 600, .inl (upd f_45 (nI (z251 + k1)).toNatClampNeg ((v461 &&& 65535).toInt32)))) hg_45 ka1.1
                      have kmo := kmo.fr hF1
                      have kmmA := kmmA.fr hF1
                      have kmrA := kmrA.fr hF1
                      have hFR := hFR.tr hF1.l
                      clear hF1
                      have hTy := TR.set (c' := .inl (γ.2.1, 600, .inl (upd f_45 (nI (z251 + k1)).toNatClampNeg ((v461 &&& 65535).toInt32)))) hTy hg_45 (okr_6 ka1 hn_45 _)
                      have hD := hD3
                      clear hD3 hD2
                      generalize G391.set i_45 (a1, .inl (γ.2.1, 600, .inl (upd f_45 (nI (z251 + k1)).toNatClampNeg ((v461 &&& 65535).toInt32)))) = G_46 at hP hD hTy hFR kmo kmmA kmrA 
                      refine lv_lload hx hb d_Model_divided_477 (lv_at hl 0 rfl) ?_
                      refine lv_lconst (v := 0) hx hb d_Model_divided_479 (by decide) ?_
                      refine W.lcmp hx hb d_Model_divided_480 ?_
                      refine lv_if_ge (tgt := 568) hx hb d_Model_divided_481 (by decide) (fun c481 => ?_) (fun c481 => ?_)
                      · have p481 : (0 : Int32) ≤ (lg_cmp v461 0) := c481
                        refine lv_aload hx hb d_Model_divided_568 (lv_at hl 12 rfl) ?_
                        refine lv_iload hx hb d_Model_divided_570 (lv_at hl 5 rfl) ?_
                        refine lv_lload hx hb d_Model_divided_572 (lv_at hl 3 rfl) ?_
                        refine lv_l2i (v := v356.toInt32) hx hb d_Model_divided_574 rfl ?_
                        obtain ⟨i_47, f_47, hn_47, hg_47⟩ := tr_6 hTy kq1
                        have h575 : vp_in (nI z251) 600 := vp_in_nI (by omega) (by omega)
                        refine va_iast hx hb hK hP hD hS i_47 1 hg_47 rfl h575 d_Model_divided_575 (fun H575 locs hP hD2 hS => ?_)
                        have hP : va_P (dC, dI) classes (G_46.set i_47 (q1, .inl (γ.2.1, 600, .inl (upd f_47 (nI z251).toNatClampNeg v356.toInt32)))) H575 := hP
                        have hD3 : va_D A (G_46.set i_47 (q1, .inl (γ.2.1, 600, .inl (upd f_47 (nI z251).toNatClampNeg v356.toInt32)))) := hD2
                        have hF1 := FR.set (c' := .inl (γ.2.1, 600, .inl (upd f_47 (nI z251).toNatClampNeg v356.toInt32))) hg_47 kq1.1
                        have kmo := kmo.fr hF1
                        have kmmA := kmmA.fr hF1
                        have kmrA := kmrA.fr hF1
                        have hFR := hFR.tr hF1.l
                        clear hF1
                        have hTy := TR.set (c' := .inl (γ.2.1, 600, .inl (upd f_47 (nI z251).toNatClampNeg v356.toInt32))) hTy hg_47 (okr_6 kq1 hn_47 _)
                        have hD := hD3
                        clear hD3 hD2
                        generalize G_46.set i_47 (q1, .inl (γ.2.1, 600, .inl (upd f_47 (nI z251).toNatClampNeg v356.toInt32))) = G_48 at hP hD hTy hFR kmo kmmA kmrA 
                        refine lv_iinc (v := jD z251) (lv' := [(7, .int (jD z251)), (14, .long v461), (16, .int (nI z391)), (12, .long v371), (10, .long v356), (8, .long v278), (6, .int (nI kk)), (0, .ref mo), (1, .ref a1), (2, .int (nI n)), (3, .ref mmA), (4, .int (nI k1)), (5, .ref q1)]) hx hb d_Model_divided_576 hl (k := 5) rfl (jD_dec _) (by decide) rfl (fun ls hl => ?_)
                        refine lv_goto (tgt := 251) hx hb d_Model_divided_579 (by decide) ?_
                        exact ih251 (z251, G_48) _ _ ls (by dsimp only; omega) ⟨by dsimp only; omega, hTy, hFR, kmo, kmmA, kmrA⟩ hP hD hS (lv_sub hl [0, 6, 7, 8, 9, 10, 11, 12] rfl)
                      · have p481 : ¬ ((0 : Int32) ≤ (lg_cmp v461 0)) := c481
                        refine lv_lload hx hb d_Model_divided_484 (lv_at hl 3 rfl) ?_
                        refine lv_lconst (v := 1) hx hb d_Model_divided_486 (by decide) ?_
                        refine lv_lsub hx hb d_Model_divided_487 ?_
                        refine lv_topl (fun v488 ev488 => ?_)
                        refine lv_lstore (lv' := [(10, .long v488), (14, .long v461), (16, .int (nI z391)), (12, .long v371), (8, .long v278), (7, .int (nI z251)), (6, .int (nI kk)), (0, .ref mo), (1, .ref a1), (2, .int (nI n)), (3, .ref mmA), (4, .int (nI k1)), (5, .ref q1)]) hx hb d_Model_divided_488 hl (by decide) rfl (fun ls hl => ?_)
                        refine lv_iconst (v := 0) hx hb d_Model_divided_490 (by decide) ?_
                        refine lv_istore (lv' := [(16, .int 0), (10, .long v488), (14, .long v461), (12, .long v371), (8, .long v278), (7, .int (nI z251)), (6, .int (nI kk)), (0, .ref mo), (1, .ref a1), (2, .int (nI n)), (3, .ref mmA), (4, .int (nI k1)), (5, .ref q1)]) hx hb d_Model_divided_491 hl (by decide) rfl (fun ls hl => ?_)
                        refine lv_iconst (v := 0) hx hb d_Model_divided_493 (by decide) ?_
                        refine lv_istore (lv' := [(17, .int 0), (16, .int 0), (10, .long v488), (14, .long v461), (12, .long v371), (8, .long v278), (7, .int (nI z251)), (6, .int (nI kk)), (0, .ref mo), (1, .ref a1), (2, .int (nI n)), (3, .ref mmA), (4, .int (nI k1)), (5, .ref q1)]) hx hb d_Model_divided_494 hl (by decide) rfl (fun ls hl => ?_)
                        refine w_loopW (α := Nat × Int32 × va_W) (fun a9 => a9.1 ≤ k1 ∧ TR γ κ Ad τ a9.2.2 ∧ FL Ad [mo, mrA] G a9.2.2 ∧ Xc Ad mo cX_mo a9.2.2 ∧ Xc Ad mmA (.inl (γ.2.1, 600, .inl fm)) a9.2.2 ∧ Xc Ad mrA (.inl (γ.2.1, 600, .inl f141_mrA)) a9.2.2) (fun a9 => k1 - a9.1) (fun a9 => [(17, .int (nI a9.1)), (16, .int a9.2.1), (10, .long v488), (14, .long v461), (12, .long v371), (8, .long v278), (7, .int (nI z251)), (6, .int (nI kk)), (0, .ref mo), (1, .ref a1), (2, .int (nI n)), (3, .ref mmA), (4, .int (nI k1)), (5, .ref q1)]) (fun _ => []) (fun a9 => a9.2.2) 18 496 (fun a9 HL496 locs ls hJ hP hD hS hl ih496 => ?_) (0, (0 : Int32), G_46) _ _ ls ⟨by omega, hTy, hFR, kmo, kmmA, kmrA⟩ hP hD hS (lv_sub hl [0, 1, 2, 3, 4, 5, 6, 7, 8, 9, 10, 11, 12, 13] rfl)
                        obtain ⟨z496, x496_16, G496⟩ := a9
                        obtain ⟨hz496, hTy, hFR, kmo, kmmA, kmrA⟩ := hJ
                        dsimp only at hz496 hTy hFR kmo kmmA kmrA hP hD hl ih496
                        refine lv_iload hx hb d_Model_divided_496 (lv_at hl 0 rfl) ?_
                        refine lv_iload hx hb d_Model_divided_498 (lv_at hl 12 rfl) ?_
                        refine lv_icmp_ge (tgt := 548) hx hb d_Model_divided_500 (by decide) (fun c500 => ?_) (fun c500 => ?_)
                        · have p500 : k1 ≤ z496 := ((nI_leI (a := k1) (b := z496) (by omega) (by omega)).mp c500)
                          refine lv_aload_n hx hb d_Model_divided_548 rfl (lv_at hl 9 rfl) ?_
                          refine lv_iload hx hb d_Model_divided_549 (lv_at hl 6 rfl) ?_
                          refine lv_iload hx hb d_Model_divided_551 (lv_at hl 12 rfl) ?_
                          refine lv_iadd hx hb d_Model_divided_553 ?_
                          rw [show ((nI z251) + (nI k1) : Int32) = nI (z251 + k1) from nI_add z251 k1]
                          refine lv_aload_n hx hb d_Model_divided_554 rfl (lv_at hl 9 rfl) ?_
                          refine lv_iload hx hb d_Model_divided_555 (lv_at hl 6 rfl) ?_
                          refine lv_iload hx hb d_Model_divided_557 (lv_at hl 12 rfl) ?_
                          refine lv_iadd hx hb d_Model_divided_559 ?_
                          rw [show ((nI z251) + (nI k1) : Int32) = nI (z251 + k1) from nI_add z251 k1]
                          obtain ⟨i_49, f_49, hn_49, hg_49⟩ := tr_6 hTy ka1
                          have h560 : vp_in (nI (z251 + k1)) 600 := vp_in_nI (by omega) (by omega)
                          refine va_iald hx hb hK hP i_49 1 hg_49 rfl h560 d_Model_divided_560 ?_
                          refine lv_topi (fun e560 he560 => ?_)
                          refine lv_iload hx hb d_Model_divided_561 (lv_at hl 1 rfl) ?_
                          refine lv_iadd hx hb d_Model_divided_563 ?_
                          refine lv_ldc (v := 65535) hx hb hown (htb _ q9_126) d_Model_divided_564 ?_
                          refine lv_iand hx hb d_Model_divided_566 ?_
                          have h567 : vp_in (nI (z251 + k1)) 600 := vp_in_nI (by omega) (by omega)
                          refine va_iast hx hb hK hP hD hS i_49 1 hg_49 rfl h567 d_Model_divided_567 (fun H567 locs hP hD2 hS => ?_)
                          have hP : va_P (dC, dI) classes (G496.set i_49 (a1, .inl (γ.2.1, 600, .inl (upd f_49 (nI (z251 + k1)).toNatClampNeg ((e560 + x496_16) &&& 65535))))) H567 := hP
                          have hD3 : va_D A (G496.set i_49 (a1, .inl (γ.2.1, 600, .inl (upd f_49 (nI (z251 + k1)).toNatClampNeg ((e560 + x496_16) &&& 65535))))) := hD2
                          have hF1 := FR.set (c' := .inl (γ.2.1, 600, .inl (upd f_49 (nI (z251 + k1)).toNatClampNeg ((e560 + x496_16) &&& 65535)))) hg_49 ka1.1
                          have kmo := kmo.fr hF1
                          have kmmA := kmmA.fr hF1
                          have kmrA := kmrA.fr hF1
                          have hFR := hFR.tr hF1.l
                          clear hF1
                          have hTy := TR.set (c' := .inl (γ.2.1, 600, .inl (upd f_49 (nI (z251 + k1)).toNatClampNeg ((e560 + x496_16) &&& 65535)))) hTy hg_49 (okr_6 ka1 hn_49 _)
                          have hD := hD3
                          clear hD3 hD2
                          generalize G496.set i_49 (a1, .inl (γ.2.1, 600, .inl (upd f_49 (nI (z251 + k1)).toNatClampNeg ((e560 + x496_16) &&& 65535)))) = G_50 at hP hD hTy hFR kmo kmmA kmrA 
                          refine lv_aload hx hb d_Model_divided_568 (lv_at hl 13 rfl) ?_
                          refine lv_iload hx hb d_Model_divided_570 (lv_at hl 6 rfl) ?_
                          refine lv_lload hx hb d_Model_divided_572 (lv_at hl 2 rfl) ?_
                          refine lv_l2i (v := v488.toInt32) hx hb d_Model_divided_574 rfl ?_
                          obtain ⟨i_51, f_51, hn_51, hg_51⟩ := tr_6 hTy kq1
                          have h575 : vp_in (nI z251) 600 := vp_in_nI (by omega) (by omega)
                          refine va_iast hx hb hK hP hD hS i_51 1 hg_51 rfl h575 d_Model_divided_575 (fun H575 locs hP hD2 hS => ?_)
                          have hP : va_P (dC, dI) classes (G_50.set i_51 (q1, .inl (γ.2.1, 600, .inl (upd f_51 (nI z251).toNatClampNeg v488.toInt32)))) H575 := hP
                          have hD3 : va_D A (G_50.set i_51 (q1, .inl (γ.2.1, 600, .inl (upd f_51 (nI z251).toNatClampNeg v488.toInt32)))) := hD2
                          have hF1 := FR.set (c' := .inl (γ.2.1, 600, .inl (upd f_51 (nI z251).toNatClampNeg v488.toInt32))) hg_51 kq1.1
                          have kmo := kmo.fr hF1
                          have kmmA := kmmA.fr hF1
                          have kmrA := kmrA.fr hF1
                          have hFR := hFR.tr hF1.l
                          clear hF1
                          have hTy := TR.set (c' := .inl (γ.2.1, 600, .inl (upd f_51 (nI z251).toNatClampNeg v488.toInt32))) hTy hg_51 (okr_6 kq1 hn_51 _)
                          have hD := hD3
                          clear hD3 hD2
                          generalize G_50.set i_51 (q1, .inl (γ.2.1, 600, .inl (upd f_51 (nI z251).toNatClampNeg v488.toInt32))) = G_52 at hP hD hTy hFR kmo kmmA kmrA 
                          refine lv_iinc (v := jD z251) (lv' := [(7, .int (jD z251)), (17, .int (nI z496)), (16, .int x496_16), (10, .long v488), (14, .long v461), (12, .long v371), (8, .long v278), (6, .int (nI kk)), (0, .ref mo), (1, .ref a1), (2, .int (nI n)), (3, .ref mmA), (4, .int (nI k1)), (5, .ref q1)]) hx hb d_Model_divided_576 hl (k := 6) rfl (jD_dec _) (by decide) rfl (fun ls hl => ?_)
                          refine lv_goto (tgt := 251) hx hb d_Model_divided_579 (by decide) ?_
                          exact ih251 (z251, G_52) _ _ ls (by dsimp only; omega) ⟨by dsimp only; omega, hTy, hFR, kmo, kmmA, kmrA⟩ hP hD hS (lv_sub hl [0, 7, 8, 9, 10, 11, 12, 13] rfl)
                        · have p500 : ¬ (k1 ≤ z496) := (fun q9 => c500 ((nI_leI (a := k1) (b := z496) (by omega) (by omega)).mpr q9))
                          refine lv_iload hx hb d_Model_divided_503 (lv_at hl 1 rfl) ?_
                          refine lv_aload_n hx hb d_Model_divided_505 rfl (lv_at hl 9 rfl) ?_
                          refine lv_iload hx hb d_Model_divided_506 (lv_at hl 6 rfl) ?_
                          refine lv_iload hx hb d_Model_divided_508 (lv_at hl 0 rfl) ?_
                          refine lv_iadd hx hb d_Model_divided_510 ?_
                          rw [show ((nI z251) + (nI z496) : Int32) = nI (z251 + z496) from nI_add z251 z496]
                          obtain ⟨i_53, f_53, hn_53, hg_53⟩ := tr_6 hTy ka1
                          have h511 : vp_in (nI (z251 + z496)) 600 := vp_in_nI (by omega) (by omega)
                          refine va_iald hx hb hK hP i_53 1 hg_53 rfl h511 d_Model_divided_511 ?_
                          refine lv_topi (fun e511 he511 => ?_)
                          refine lv_aload_n hx hb d_Model_divided_512 rfl (lv_at hl 8 rfl) ?_
                          obtain ⟨i_54, hg_54⟩ := List.getElem?_of_mem kmo.2
                          rw [eX_mo] at hg_54
                          refine va_get (v := .ref mrA) hx hb htb i_Model hown hK hP i_54 hg_54 rfl 10 (by decide) (htb _ q7_224) (fun _ h9 => h9) rfl d_Model_divided_513 ?_
                          refine lv_iload hx hb d_Model_divided_516 (lv_at hl 0 rfl) ?_
                          obtain ⟨i_55, hg_55⟩ := List.getElem?_of_mem kmrA.2
                          have h518 : vp_in (nI z496) 600 := vp_in_nI (by omega) (by omega)
                          refine va_iald hx hb hK hP i_55 1 hg_55 rfl h518 d_Model_divided_518 ?_
                          refine lv_topi (fun e518 he518 => ?_)
                          refine lv_iadd hx hb d_Model_divided_519 ?_
                          refine lv_iadd hx hb d_Model_divided_520 ?_
                          refine lv_topi (fun v521 ev521 => ?_)
                          refine lv_istore (lv' := [(16, .int v521), (17, .int (nI z496)), (10, .long v488), (14, .long v461), (12, .long v371), (8, .long v278), (7, .int (nI z251)), (6, .int (nI kk)), (0, .ref mo), (1, .ref a1), (2, .int (nI n)), (3, .ref mmA), (4, .int (nI k1)), (5, .ref q1)]) hx hb d_Model_divided_521 hl (by decide) rfl (fun ls hl => ?_)
                          refine lv_aload_n hx hb d_Model_divided_523 rfl (lv_at hl 9 rfl) ?_
                          refine lv_iload hx hb d_Model_divided_524 (lv_at hl 6 rfl) ?_
                          refine lv_iload hx hb d_Model_divided_526 (lv_at hl 1 rfl) ?_
                          refine lv_iadd hx hb d_Model_divided_528 ?_
                          rw [show ((nI z251) + (nI z496) : Int32) = nI (z251 + z496) from nI_add z251 z496]
                          refine lv_iload hx hb d_Model_divided_529 (lv_at hl 0 rfl) ?_
                          refine lv_ldc (v := 65535) hx hb hown (htb _ q9_126) d_Model_divided_531 ?_
                          refine lv_iand hx hb d_Model_divided_533 ?_
                          have h534 : vp_in (nI (z251 + z496)) 600 := vp_in_nI (by omega) (by omega)
                          refine va_iast hx hb hK hP hD hS i_53 1 hg_53 rfl h534 d_Model_divided_534 (fun H534 locs hP hD2 hS => ?_)
                          have hP : va_P (dC, dI) classes (G496.set i_53 (a1, .inl (γ.2.1, 600, .inl (upd f_53 (nI (z251 + z496)).toNatClampNeg (v521 &&& 65535))))) H534 := hP
                          have hD3 : va_D A (G496.set i_53 (a1, .inl (γ.2.1, 600, .inl (upd f_53 (nI (z251 + z496)).toNatClampNeg (v521 &&& 65535))))) := hD2
                          have hF1 := FR.set (c' := .inl (γ.2.1, 600, .inl (upd f_53 (nI (z251 + z496)).toNatClampNeg (v521 &&& 65535)))) hg_53 ka1.1
                          have kmo := kmo.fr hF1
                          have kmmA := kmmA.fr hF1
                          have kmrA := kmrA.fr hF1
                          have hFR := hFR.tr hF1.l
                          clear hF1
                          have hTy := TR.set (c' := .inl (γ.2.1, 600, .inl (upd f_53 (nI (z251 + z496)).toNatClampNeg (v521 &&& 65535)))) hTy hg_53 (okr_6 ka1 hn_53 _)
                          have hD := hD3
                          clear hD3 hD2
                          generalize G496.set i_53 (a1, .inl (γ.2.1, 600, .inl (upd f_53 (nI (z251 + z496)).toNatClampNeg (v521 &&& 65535)))) = G_56 at hP hD hTy hFR kmo kmmA kmrA 
                          refine lv_iload hx hb d_Model_divided_535 (lv_at hl 0 rfl) ?_
                          refine lv_bipush (v := 16) hx hb d_Model_divided_537 (by decide) ?_
                          refine lv_ishr hx hb d_Model_divided_539 ?_
                          refine lv_topi (fun v540 ev540 => ?_)
                          refine lv_istore (lv' := [(16, .int v540), (17, .int (nI z496)), (10, .long v488), (14, .long v461), (12, .long v371), (8, .long v278), (7, .int (nI z251)), (6, .int (nI kk)), (0, .ref mo), (1, .ref a1), (2, .int (nI n)), (3, .ref mmA), (4, .int (nI k1)), (5, .ref q1)]) hx hb d_Model_divided_540 hl (by decide) rfl (fun ls hl => ?_)
                          refine lv_iinc (v := nI (z496 + 1)) (lv' := [(17, .int (nI (z496 + 1))), (16, .int v540), (10, .long v488), (14, .long v461), (12, .long v371), (8, .long v278), (7, .int (nI z251)), (6, .int (nI kk)), (0, .ref mo), (1, .ref a1), (2, .int (nI n)), (3, .ref mmA), (4, .int (nI k1)), (5, .ref q1)]) hx hb d_Model_divided_542 hl (k := 1) rfl (nI_1 _) (by decide) rfl (fun ls hl => ?_)
                          refine lv_goto (tgt := 496) hx hb d_Model_divided_545 (by decide) ?_
                          exact ih496 (z496 + 1, v540, G_56) _ _ ls (by dsimp only; omega) ⟨by dsimp only; omega, hTy, hFR, kmo, kmmA, kmrA⟩ hP hD hS (lv_sub hl [0, 1, 2, 3, 4, 5, 6, 7, 8, 9, 10, 11, 12, 13] rfl)
                    · have p395 : ¬ (k1 ≤ z391) := (fun q9 => c395 ((nI_leI (a := k1) (b := z391) (by omega) (by omega)).mpr q9))
                      refine lv_lload hx hb d_Model_divided_398 (lv_at hl 1 rfl) ?_
                      refine lv_aload_n hx hb d_Model_divided_400 rfl (lv_at hl 8 rfl) ?_
                      refine lv_iload hx hb d_Model_divided_401 (lv_at hl 5 rfl) ?_
                      refine lv_iload hx hb d_Model_divided_403 (lv_at hl 0 rfl) ?_
                      refine lv_iadd hx hb d_Model_divided_405 ?_
                      rw [show ((nI z251) + (nI z391) : Int32) = nI (z251 + z391) from nI_add z251 z391]
                      obtain ⟨i_57, f_57, hn_57, hg_57⟩ := tr_6 hTy ka1
                      have h406 : vp_in (nI (z251 + z391)) 600 := vp_in_nI (by omega) (by omega)
                      refine va_iald hx hb hK hP i_57 1 hg_57 rfl h406 d_Model_divided_406 ?_
                      refine lv_topi (fun e406 he406 => ?_)
                      refine lv_i2l (v := e406.toInt64) hx hb d_Model_divided_407 rfl ?_
                      refine lv_lload hx hb d_Model_divided_408 (lv_at hl 3 rfl) ?_
                      refine lv_aload_n hx hb d_Model_divided_410 rfl (lv_at hl 7 rfl) ?_
                      obtain ⟨i_58, hg_58⟩ := List.getElem?_of_mem kmo.2
                      rw [eX_mo] at hg_58
                      refine va_get (v := .ref mrA) hx hb htb i_Model hown hK hP i_58 hg_58 rfl 10 (by decide) (htb _ q7_224) (fun _ h9 => h9) rfl d_Model_divided_411 ?_
                      refine lv_iload hx hb d_Model_divided_414 (lv_at hl 0 rfl) ?_
                      obtain ⟨i_59, hg_59⟩ := List.getElem?_of_mem kmrA.2
                      have h416 : vp_in (nI z391) 600 := vp_in_nI (by omega) (by omega)
                      refine va_iald hx hb hK hP i_59 1 hg_59 rfl h416 d_Model_divided_416 ?_
                      refine lv_topi (fun e416 he416 => ?_)
                      refine lv_i2l (v := e416.toInt64) hx hb d_Model_divided_417 rfl ?_
                      refine lv_lmul hx hb d_Model_divided_418 ?_
                      refine lv_lsub hx hb d_Model_divided_419 ?_
                      refine lv_ladd hx hb d_Model_divided_420 ?_
                      refine lv_topl (fun v421 ev421 => ?_)
                      refine lv_lstore (lv' := [(14, .long v421), (16, .int (nI z391)), (12, .long v371), (10, .long v356), (8, .long v278), (7, .int (nI z251)), (6, .int (nI kk)), (0, .ref mo), (1, .ref a1), (2, .int (nI n)), (3, .ref mmA), (4, .int (nI k1)), (5, .ref q1)]) hx hb d_Model_divided_421 hl (by decide) rfl (fun ls hl => ?_)
                      refine lv_aload_n hx hb d_Model_divided_423 rfl (lv_at hl 8 rfl) ?_
                      refine lv_iload hx hb d_Model_divided_424 (lv_at hl 5 rfl) ?_
                      refine lv_iload hx hb d_Model_divided_426 (lv_at hl 1 rfl) ?_
                      refine lv_iadd hx hb d_Model_divided_428 ?_
                      rw [show ((nI z251) + (nI z391) : Int32) = nI (z251 + z391) from nI_add z251 z391]
                      refine lv_lload hx hb d_Model_divided_429 (lv_at hl 0 rfl) ?_
                      refine lv_ldc2 (v := 65535) hx hb hown (htb _ q9_120) d_Model_divided_431 ?_
                      refine lv_land hx hb d_Model_divided_434 ?_
                      refine lv_l2i (v := (v421 &&& 65535).toInt32) hx hb d_Model_divided_435 rfl ?_
                      have h436 : vp_in (nI (z251 + z391)) 600 := vp_in_nI (by omega) (by omega)
                      refine va_iast hx hb hK hP hD hS i_57 1 hg_57 rfl h436 d_Model_divided_436 (fun H436 locs hP hD2 hS => ?_)
                      have hP : va_P (dC, dI) classes (G391.set i_57 (a1, .inl (γ.2.1, 600, .inl (upd f_57 (nI (z251 + z391)).toNatClampNeg ((v421 &&& 65535).toInt32))))) H436 := hP
                      have hD3 : va_D A (G391.set i_57 (a1, .inl (γ.2.1, 600, .inl (upd f_57 (nI (z251 + z391)).toNatClampNeg ((v421 &&& 65535).toInt32))))) := hD2
                      have hF1 := FR.set (c' := .inl (γ.2.1, 600, .inl (upd f_57 (nI (z251 + z391)).toNatClampNeg ((v421 &&& 65535).toInt32)))) hg_57 ka1.1
                      have kmo := kmo.fr hF1
                      have kmmA := kmmA.fr hF1
                      have kmrA := kmrA.fr hF1
                      have hFR := hFR.tr hF1.l
                      clear hF1
                      have hTy := TR.set (c' := .inl (γ.2.1, 600, .inl (upd f_57 (nI (z251 + z391)).toNatClampNeg ((v421 &&& 65535).toInt32)))) hTy hg_57 (okr_6 ka1 hn_57 _)
                      have hD := hD3
                      clear hD3 hD2
                      generalize G391.set i_57 (a1, .inl (γ.2.1, 600, .inl (upd f_57 (nI (z251 + z391)).toNatClampNeg ((v421 &&& 65535).toInt32)))) = G_60 at hP hD hTy hFR kmo kmmA kmrA 
                      refine lv_lload hx hb d_Model_divided_437 (lv_at hl 0 rfl) ?_
                      refine lv_bipush (v := 16) hx hb d_Model_divided_439 (by decide) ?_
                      refine lv_lshr (v := v421 >>> ((16 : Int32).toInt64 &&& 63)) hx hb d_Model_divided_441 rfl ?_
                      refine lv_topl (fun v442 ev442 => ?_)
                      refine lv_lstore (lv' := [(14, .long v442), (16, .int (nI z391)), (12, .long v371), (10, .long v356), (8, .long v278), (7, .int (nI z251)), (6, .int (nI kk)), (0, .ref mo), (1, .ref a1), (2, .int (nI n)), (3, .ref mmA), (4, .int (nI k1)), (5, .ref q1)]) hx hb d_Model_divided_442 hl (by decide) rfl (fun ls hl => ?_)
                      refine lv_iinc (v := nI (z391 + 1)) (lv' := [(16, .int (nI (z391 + 1))), (14, .long v442), (12, .long v371), (10, .long v356), (8, .long v278), (7, .int (nI z251)), (6, .int (nI kk)), (0, .ref mo), (1, .ref a1), (2, .int (nI n)), (3, .ref mmA), (4, .int (nI k1)), (5, .ref q1)]) hx hb d_Model_divided_444 hl (k := 1) rfl (nI_1 _) (by decide) rfl (fun ls hl => ?_)
                      refine lv_goto (tgt := 391) hx hb d_Model_divided_447 (by decide) ?_
                      exact ih391 (z391 + 1, v442, G_60) _ _ ls (by dsimp only; omega) ⟨by dsimp only; omega, hTy, hFR, kmo, kmmA, kmrA⟩ hP hD hS (lv_sub hl [0, 1, 2, 3, 4, 5, 6, 7, 8, 9, 10, 11, 12] rfl)
          · have hl : lv_has ls 18 [(7, .int (nI z198)), (6, .int (nI kk)), (0, .ref mo), (1, .ref a1), (2, .int (nI n)), (3, .ref mmA), (4, .int (nI k1)), (5, .ref q1)] := hl
            refine lv_iload hx hb d_Model_divided_198 (lv_at hl 0 rfl) ?_
            refine lv_if_lt (tgt := 245) hx hb d_Model_divided_200 (by decide) (fun c200 => ?_) (fun c200 => ?_)
            · exact absurd c200 (nI_pos (by omega))
            refine lv_aload_n hx hb d_Model_divided_203 rfl (lv_at hl 3 rfl) ?_
            refine lv_iload hx hb d_Model_divided_204 (lv_at hl 0 rfl) ?_
            refine lv_aload_n hx hb d_Model_divided_206 rfl (lv_at hl 3 rfl) ?_
            refine lv_iload hx hb d_Model_divided_207 (lv_at hl 0 rfl) ?_
            obtain ⟨i_61, f_61, hn_61, hg_61⟩ := tr_6 hTy ka1
            have h209 : vp_in (nI z198) 600 := vp_in_nI (by omega) (by omega)
            refine va_iald hx hb hK hP i_61 1 hg_61 rfl h209 d_Model_divided_209 ?_
            refine lv_topi (fun e209 he209 => ?_)
            refine lv_iload hx hb d_Model_divided_210 (lv_at hl 1 rfl) ?_
            refine lv_ishl hx hb d_Model_divided_212 ?_
            refine lv_iload hx hb d_Model_divided_213 (lv_at hl 0 rfl) ?_
            refine lv_if_le (tgt := 233) hx hb d_Model_divided_215 (by decide) (fun c215 => ?_) (fun c215 => ?_)
            · have p215 : z198 ≤ 0 := ((nI_leI (a := z198) (b := 0) (by omega) (by omega)).mp c215)
              refine lv_iconst (v := 0) hx hb d_Model_divided_233 (by decide) ?_
              refine lv_ior hx hb d_Model_divided_234 ?_
              refine lv_ldc (v := 65535) hx hb hown (htb _ q9_126) d_Model_divided_235 ?_
              refine lv_iand hx hb d_Model_divided_237 ?_
              have h238 : vp_in (nI z198) 600 := vp_in_nI (by omega) (by omega)
              refine va_iast hx hb hK hP hD hS i_61 1 hg_61 rfl h238 d_Model_divided_238 (fun H238 locs hP hD2 hS => ?_)
              have hP : va_P (dC, dI) classes (G198.set i_61 (a1, .inl (γ.2.1, 600, .inl (upd f_61 (nI z198).toNatClampNeg (((e209 <<< ((nI kk) &&& 31)) ||| 0) &&& 65535))))) H238 := hP
              have hD3 : va_D A (G198.set i_61 (a1, .inl (γ.2.1, 600, .inl (upd f_61 (nI z198).toNatClampNeg (((e209 <<< ((nI kk) &&& 31)) ||| 0) &&& 65535))))) := hD2
              have hF1 := FR.set (c' := .inl (γ.2.1, 600, .inl (upd f_61 (nI z198).toNatClampNeg (((e209 <<< ((nI kk) &&& 31)) ||| 0) &&& 65535)))) hg_61 ka1.1
              have kmo := kmo.fr hF1
              have kmmA := kmmA.fr hF1
              have kmrA := kmrA.fr hF1
              have hFR := hFR.tr hF1.l
              clear hF1
              have hTy := TR.set (c' := .inl (γ.2.1, 600, .inl (upd f_61 (nI z198).toNatClampNeg (((e209 <<< ((nI kk) &&& 31)) ||| 0) &&& 65535)))) hTy hg_61 (okr_6 ka1 hn_61 _)
              have hD := hD3
              clear hD3 hD2
              generalize G198.set i_61 (a1, .inl (γ.2.1, 600, .inl (upd f_61 (nI z198).toNatClampNeg (((e209 <<< ((nI kk) &&& 31)) ||| 0) &&& 65535)))) = G_62 at hP hD hTy hFR kmo kmmA kmrA 
              refine lv_iinc (v := jD z198) (lv' := [(7, .int (jD z198)), (6, .int (nI kk)), (0, .ref mo), (1, .ref a1), (2, .int (nI n)), (3, .ref mmA), (4, .int (nI k1)), (5, .ref q1)]) hx hb d_Model_divided_239 hl (k := 0) rfl (jD_dec _) (by decide) rfl (fun ls hl => ?_)
              refine lv_goto (tgt := 198) hx hb d_Model_divided_242 (by decide) ?_
              exact ih198 (z198, G_62) _ _ ls (by dsimp only; omega) ⟨by dsimp only; omega, hTy, hFR, kmo, kmmA, kmrA⟩ hP hD hS (lv_sub hl [0, 1, 2, 3, 4, 5, 6, 7] rfl)
            · have p215 : ¬ (z198 ≤ 0) := (fun q9 => c215 ((nI_leI (a := z198) (b := 0) (by omega) (by omega)).mpr q9))
              refine lv_aload_n hx hb d_Model_divided_218 rfl (lv_at hl 3 rfl) ?_
              refine lv_iload hx hb d_Model_divided_219 (lv_at hl 0 rfl) ?_
              refine lv_iconst (v := 1) hx hb d_Model_divided_221 (by decide) ?_
              refine lv_isub hx hb d_Model_divided_222 ?_
              rw [show ((nI z198) - 1 : Int32) = nI (z198 - 1) from pk_sub (a := z198) (b := 1) (by omega)]
              have h223 : vp_in (nI (z198 - 1)) 600 := vp_in_nI (by omega) (by omega)
              refine va_iald hx hb hK hP i_61 1 hg_61 rfl h223 d_Model_divided_223 ?_
              refine lv_topi (fun e223 he223 => ?_)
              refine lv_bipush (v := 16) hx hb d_Model_divided_224 (by decide) ?_
              refine lv_iload hx hb d_Model_divided_226 (lv_at hl 1 rfl) ?_
              refine lv_isub hx hb d_Model_divided_228 ?_
              rw [show (16 - (nI kk) : Int32) = nI (16 - kk) from pk_sub (a := 16) (b := kk) (by omega)]
              refine lv_ishr hx hb d_Model_divided_229 ?_
              refine lv_goto (tgt := 234) hx hb d_Model_divided_230 (by decide) ?_
              refine lv_ior hx hb d_Model_divided_234 ?_
              refine lv_ldc (v := 65535) hx hb hown (htb _ q9_126) d_Model_divided_235 ?_
              refine lv_iand hx hb d_Model_divided_237 ?_
              have h238 : vp_in (nI z198) 600 := vp_in_nI (by omega) (by omega)
              refine va_iast hx hb hK hP hD hS i_61 1 hg_61 rfl h238 d_Model_divided_238 (fun H238 locs hP hD2 hS => ?_)
              have hP : va_P (dC, dI) classes (G198.set i_61 (a1, .inl (γ.2.1, 600, .inl (upd f_61 (nI z198).toNatClampNeg (((e209 <<< ((nI kk) &&& 31)) ||| (e223 >>> ((nI (16 - kk)) &&& 31))) &&& 65535))))) H238 := hP
              have hD3 : va_D A (G198.set i_61 (a1, .inl (γ.2.1, 600, .inl (upd f_61 (nI z198).toNatClampNeg (((e209 <<< ((nI kk) &&& 31)) ||| (e223 >>> ((nI (16 - kk)) &&& 31))) &&& 65535))))) := hD2
              have hF1 := FR.set (c' := .inl (γ.2.1, 600, .inl (upd f_61 (nI z198).toNatClampNeg (((e209 <<< ((nI kk) &&& 31)) ||| (e223 >>> ((nI (16 - kk)) &&& 31))) &&& 65535)))) hg_61 ka1.1
              have kmo := kmo.fr hF1
              have kmmA := kmmA.fr hF1
              have kmrA := kmrA.fr hF1
              have hFR := hFR.tr hF1.l
              clear hF1
              have hTy := TR.set (c' := .inl (γ.2.1, 600, .inl (upd f_61 (nI z198).toNatClampNeg (((e209 <<< ((nI kk) &&& 31)) ||| (e223 >>> ((nI (16 - kk)) &&& 31))) &&& 65535)))) hTy hg_61 (okr_6 ka1 hn_61 _)
              have hD := hD3
              clear hD3 hD2
              generalize G198.set i_61 (a1, .inl (γ.2.1, 600, .inl (upd f_61 (nI z198).toNatClampNeg (((e209 <<< ((nI kk) &&& 31)) ||| (e223 >>> ((nI (16 - kk)) &&& 31))) &&& 65535)))) = G_63 at hP hD hTy hFR kmo kmmA kmrA 
              refine lv_iinc (v := jD z198) (lv' := [(7, .int (jD z198)), (6, .int (nI kk)), (0, .ref mo), (1, .ref a1), (2, .int (nI n)), (3, .ref mmA), (4, .int (nI k1)), (5, .ref q1)]) hx hb d_Model_divided_239 hl (k := 0) rfl (jD_dec _) (by decide) rfl (fun ls hl => ?_)
              refine lv_goto (tgt := 198) hx hb d_Model_divided_242 (by decide) ?_
              exact ih198 (z198, G_63) _ _ ls (by dsimp only; omega) ⟨by dsimp only; omega, hTy, hFR, kmo, kmmA, kmrA⟩ hP hD hS (lv_sub hl [0, 1, 2, 3, 4, 5, 6, 7] rfl)
        · have hl : lv_has ls 18 [(7, .int (nI z141)), (6, .int (nI kk)), (0, .ref mo), (1, .ref a1), (2, .int (nI n)), (3, .ref mmA), (4, .int (nI k1)), (5, .ref q1)] := hl
          refine lv_iload hx hb d_Model_divided_141 (lv_at hl 0 rfl) ?_
          refine lv_if_lt (tgt := 191) hx hb d_Model_divided_143 (by decide) (fun c143 => ?_) (fun c143 => ?_)
          · exact absurd c143 (nI_pos (by omega))
          refine lv_aload_n hx hb d_Model_divided_146 rfl (lv_at hl 2 rfl) ?_
          obtain ⟨i_64, hg_64⟩ := List.getElem?_of_mem kmo.2
          rw [eX_mo] at hg_64
          refine va_get (v := .ref mrA) hx hb htb i_Model hown hK hP i_64 hg_64 rfl 10 (by decide) (htb _ q7_224) (fun _ h9 => h9) rfl d_Model_divided_147 ?_
          refine lv_iload hx hb d_Model_divided_150 (lv_at hl 0 rfl) ?_
          refine lv_aload_n hx hb d_Model_divided_152 rfl (lv_at hl 5 rfl) ?_
          refine lv_iload hx hb d_Model_divided_153 (lv_at hl 0 rfl) ?_
          obtain ⟨i_65, hg_65⟩ := List.getElem?_of_mem kmmA.2
          have h155 : vp_in (nI z141) 600 := vp_in_nI (by omega) (by omega)
          refine va_iald hx hb hK hP i_65 1 hg_65 rfl h155 d_Model_divided_155 ?_
          refine lv_topi (fun e155 he155 => ?_)
          refine lv_iload hx hb d_Model_divided_156 (lv_at hl 1 rfl) ?_
          refine lv_ishl hx hb d_Model_divided_158 ?_
          refine lv_iload hx hb d_Model_divided_159 (lv_at hl 0 rfl) ?_
          refine lv_if_le (tgt := 179) hx hb d_Model_divided_161 (by decide) (fun c161 => ?_) (fun c161 => ?_)
          · have p161 : z141 ≤ 0 := ((nI_leI (a := z141) (b := 0) (by omega) (by omega)).mp c161)
            refine lv_iconst (v := 0) hx hb d_Model_divided_179 (by decide) ?_
            refine lv_ior hx hb d_Model_divided_180 ?_
            refine lv_ldc (v := 65535) hx hb hown (htb _ q9_126) d_Model_divided_181 ?_
            refine lv_iand hx hb d_Model_divided_183 ?_
            obtain ⟨i_66, hg_66⟩ := List.getElem?_of_mem kmrA.2
            have h184 : vp_in (nI z141) 600 := vp_in_nI (by omega) (by omega)
            refine va_iast hx hb hK hP hD hS i_66 1 hg_66 rfl h184 d_Model_divided_184 (fun H184 locs hP hD2 hS => ?_)
            obtain ⟨f184, ef184⟩ : ∃ z : Nat → Int32, z = upd f141_mrA (nI z141).toNatClampNeg (((e155 <<< ((nI kk) &&& 31)) ||| 0) &&& 65535) := ⟨_, rfl⟩
            rw [← ef184] at hP hD2
            have hP : va_P (dC, dI) classes (G141.set i_66 (mrA, .inl (γ.2.1, 600, .inl f184))) H184 := hP
            have hD3 : va_D A (G141.set i_66 (mrA, .inl (γ.2.1, 600, .inl f184))) := hD2
            have hTy := TR.setX (c' := .inl (γ.2.1, 600, .inl f184)) hTy hg_66 kmrA.1
            have kmo := Xc.setX (c' := .inl (γ.2.1, 600, .inl f184)) kmo hg_66 (fun e => hx_mo_mrA (congrArg Prod.fst e))
            have kmmA := Xc.setX (c' := .inl (γ.2.1, 600, .inl f184)) kmmA hg_66 (fun e => hx_mmA_mrA (congrArg Prod.fst e))
            have hFR := hFR.tr (FL.set (Ad := Ad) (X := [mo, mrA]) (c' := .inl (γ.2.1, 600, .inl f184)) hg_66 (by simp))
            have hg_66 := set_here (c' := .inl (γ.2.1, 600, .inl f184)) hg_66
            have kmrA : Xc Ad mrA (.inl (γ.2.1, 600, .inl f184)) (G141.set i_66 (mrA, .inl (γ.2.1, 600, .inl f184))) := ⟨kmrA.1, List.mem_of_getElem? hg_66⟩
            have hD := hD3
            clear hD3 hD2
            generalize G141.set i_66 (mrA, .inl (γ.2.1, 600, .inl f184)) = G_67 at hP hD hTy hFR kmo kmmA kmrA hg_66
            refine lv_iinc (v := jD z141) (lv' := [(7, .int (jD z141)), (6, .int (nI kk)), (0, .ref mo), (1, .ref a1), (2, .int (nI n)), (3, .ref mmA), (4, .int (nI k1)), (5, .ref q1)]) hx hb d_Model_divided_185 hl (k := 0) rfl (jD_dec _) (by decide) rfl (fun ls hl => ?_)
            refine lv_goto (tgt := 141) hx hb d_Model_divided_188 (by decide) ?_
            exact ih141 (z141, f184, G_67) _ _ ls (by dsimp only; omega) ⟨by dsimp only; omega, hTy, hFR, kmo, kmmA, kmrA, rs_step he155 ef184 (by omega) hk2 ht3 hkk (by rw [← hX]; exact p120) (by rw [← hX]; exact hX2) hJ141⟩ hP hD hS (lv_sub hl [0, 1, 2, 3, 4, 5, 6, 7] rfl)
          · have p161 : ¬ (z141 ≤ 0) := (fun q9 => c161 ((nI_leI (a := z141) (b := 0) (by omega) (by omega)).mpr q9))
            refine lv_aload_n hx hb d_Model_divided_164 rfl (lv_at hl 5 rfl) ?_
            refine lv_iload hx hb d_Model_divided_165 (lv_at hl 0 rfl) ?_
            refine lv_iconst (v := 1) hx hb d_Model_divided_167 (by decide) ?_
            refine lv_isub hx hb d_Model_divided_168 ?_
            rw [show ((nI z141) - 1 : Int32) = nI (z141 - 1) from pk_sub (a := z141) (b := 1) (by omega)]
            have h169 : vp_in (nI (z141 - 1)) 600 := vp_in_nI (by omega) (by omega)
            refine va_iald hx hb hK hP i_65 1 hg_65 rfl h169 d_Model_divided_169 ?_
            refine lv_topi (fun e169 he169 => ?_)
            refine lv_bipush (v := 16) hx hb d_Model_divided_170 (by decide) ?_
            refine lv_iload hx hb d_Model_divided_172 (lv_at hl 1 rfl) ?_
            refine lv_isub hx hb d_Model_divided_174 ?_
            rw [show (16 - (nI kk) : Int32) = nI (16 - kk) from pk_sub (a := 16) (b := kk) (by omega)]
            refine lv_ishr hx hb d_Model_divided_175 ?_
            refine lv_goto (tgt := 180) hx hb d_Model_divided_176 (by decide) ?_
            refine lv_ior hx hb d_Model_divided_180 ?_
            refine lv_ldc (v := 65535) hx hb hown (htb _ q9_126) d_Model_divided_181 ?_
            refine lv_iand hx hb d_Model_divided_183 ?_
            obtain ⟨i_68, hg_68⟩ := List.getElem?_of_mem kmrA.2
            have h184 : vp_in (nI z141) 600 := vp_in_nI (by omega) (by omega)
            refine va_iast hx hb hK hP hD hS i_68 1 hg_68 rfl h184 d_Model_divided_184 (fun H184 locs hP hD2 hS => ?_)
            obtain ⟨f184, ef184⟩ : ∃ z : Nat → Int32, z = upd f141_mrA (nI z141).toNatClampNeg (((e155 <<< ((nI kk) &&& 31)) ||| (e169 >>> ((nI (16 - kk)) &&& 31))) &&& 65535) := ⟨_, rfl⟩
            rw [← ef184] at hP hD2
            have hP : va_P (dC, dI) classes (G141.set i_68 (mrA, .inl (γ.2.1, 600, .inl f184))) H184 := hP
            have hD3 : va_D A (G141.set i_68 (mrA, .inl (γ.2.1, 600, .inl f184))) := hD2
            have hTy := TR.setX (c' := .inl (γ.2.1, 600, .inl f184)) hTy hg_68 kmrA.1
            have kmo := Xc.setX (c' := .inl (γ.2.1, 600, .inl f184)) kmo hg_68 (fun e => hx_mo_mrA (congrArg Prod.fst e))
            have kmmA := Xc.setX (c' := .inl (γ.2.1, 600, .inl f184)) kmmA hg_68 (fun e => hx_mmA_mrA (congrArg Prod.fst e))
            have hFR := hFR.tr (FL.set (Ad := Ad) (X := [mo, mrA]) (c' := .inl (γ.2.1, 600, .inl f184)) hg_68 (by simp))
            have hg_68 := set_here (c' := .inl (γ.2.1, 600, .inl f184)) hg_68
            have kmrA : Xc Ad mrA (.inl (γ.2.1, 600, .inl f184)) (G141.set i_68 (mrA, .inl (γ.2.1, 600, .inl f184))) := ⟨kmrA.1, List.mem_of_getElem? hg_68⟩
            have hD := hD3
            clear hD3 hD2
            generalize G141.set i_68 (mrA, .inl (γ.2.1, 600, .inl f184)) = G_69 at hP hD hTy hFR kmo kmmA kmrA hg_68
            refine lv_iinc (v := jD z141) (lv' := [(7, .int (jD z141)), (6, .int (nI kk)), (0, .ref mo), (1, .ref a1), (2, .int (nI n)), (3, .ref mmA), (4, .int (nI k1)), (5, .ref q1)]) hx hb d_Model_divided_185 hl (k := 0) rfl (jD_dec _) (by decide) rfl (fun ls hl => ?_)
            refine lv_goto (tgt := 141) hx hb d_Model_divided_188 (by decide) ?_
            exact ih141 (z141, f184, G_69) _ _ ls (by dsimp only; omega) ⟨by dsimp only; omega, hTy, hFR, kmo, kmmA, kmrA, rs_step he155 ef184 (by omega) hk2 ht3 hkk (by rw [← hX]; exact p120) (by rw [← hX]; exact hX2) hJ141⟩ hP hD hS (lv_sub hl [0, 1, 2, 3, 4, 5, 6, 7] rfl)
      · have p120 : ¬ (32768 ≤ X) := (fun q9 => c120 ((nI_leI (a := 32768) (b := X) (by omega) (by omega)).mpr q9))
        refine lv_iinc (v := nI (kk + 1)) (lv' := [(6, .int (nI (kk + 1))), (7, .int (nI X)), (0, .ref mo), (1, .ref a1), (2, .int (nI n)), (3, .ref mmA), (4, .int (nI k1)), (5, .ref q1)]) hx hb d_Model_divided_123 hl (k := 1) rfl (nI_1 _) (by decide) rfl (fun ls hl => ?_)
        refine lv_iload hx hb d_Model_divided_126 (lv_at hl 1 rfl) ?_
        refine lv_iconst (v := 1) hx hb d_Model_divided_128 (by decide) ?_
        refine lv_ishl hx hb d_Model_divided_129 ?_
        refine lv_istore (lv' := [(7, .int ((nI X) <<< (1 &&& 31))), (6, .int (nI (kk + 1))), (0, .ref mo), (1, .ref a1), (2, .int (nI n)), (3, .ref mmA), (4, .int (nI k1)), (5, .ref q1)]) hx hb d_Model_divided_130 hl (by decide) rfl (fun ls hl => ?_)
        refine lv_goto (tgt := 116) hx hb d_Model_divided_132 (by decide) ?_
        have e8 : (nI X) <<< (1 &&& 31) = nI (2 * X) := by rw [show ((nI X) <<< (1 &&& 31) : Int32) = nI X <<< (nI 1 &&& 31) from rfl, shl_nat (by omega) (by omega), Nat.pow_one, Nat.mul_comm]
        rw [e8] at hl
        exact ih116 (kk + 1, 2 * X) ls (by dsimp only; omega) ⟨by dsimp only; rw [Nat.pow_succ, ← Nat.mul_assoc, ← hX, Nat.mul_comm], by dsimp only; omega⟩ (lv_sub hl [0, 1, 2, 3, 4, 5, 6, 7] rfl)
    · have p21 : k1 = 1 := ((nI_eq (a := k1) (b := 1) (by omega) (by omega)).mp c21)
      refine lv_lconst (v := 0) hx hb d_Model_divided_24 (by decide) ?_
      refine lv_lstore (lv' := [(6, .long 0), (0, .ref mo), (1, .ref a1), (2, .int (nI n)), (3, .ref mmA), (4, .int (nI k1)), (5, .ref q1)]) hx hb d_Model_divided_25 hl (by decide) rfl (fun ls hl => ?_)
      refine lv_iload_n hx hb d_Model_divided_27 rfl (lv_at hl 3 rfl) ?_
      refine lv_iconst (v := 1) hx hb d_Model_divided_28 (by decide) ?_
      refine lv_isub hx hb d_Model_divided_29 ?_
      refine lv_istore (lv' := [(8, .int ((nI n) - 1)), (6, .long 0), (0, .ref mo), (1, .ref a1), (2, .int (nI n)), (3, .ref mmA), (4, .int (nI k1)), (5, .ref q1)]) hx hb d_Model_divided_30 hl (by decide) rfl (fun ls hl => ?_)
      have hl : lv_has ls 18 [(8, .int (jD n)), (6, .long 0), (0, .ref mo), (1, .ref a1), (2, .int (nI n)), (3, .ref mmA), (4, .int (nI k1)), (5, .ref q1)] := by rw [← jD_dec' n]; exact hl
      refine w_loopW (α := Nat × Int64 × va_W) (fun a9 => a9.1 ≤ n ∧ TR γ κ Ad τ a9.2.2 ∧ FL Ad [mo, mrA] G a9.2.2 ∧ Xc Ad mo cX_mo a9.2.2 ∧ Xc Ad mmA (.inl (γ.2.1, 600, .inl fm)) a9.2.2 ∧ Xc Ad mrA (.inl (γ.2.1, 600, .inl fr)) a9.2.2) (fun a9 => a9.1) (fun a9 => [(8, .int (jD a9.1)), (6, .long a9.2.1), (0, .ref mo), (1, .ref a1), (2, .int (nI n)), (3, .ref mmA), (4, .int (nI k1)), (5, .ref q1)]) (fun _ => []) (fun a9 => a9.2.2) 18 32 (fun a9 HL32 locs ls hJ hP hD hS hl ih32 => ?_) (n, (0 : Int64), G) _ _ ls ⟨by omega, hTy, hFR, kmo, kmmA, kmrA⟩ hP hD hS (lv_sub hl [0, 1, 2, 3, 4, 5, 6, 7] rfl)
      obtain ⟨z32, x32_6, G32⟩ := a9
      obtain ⟨hz32, hTy, hFR, kmo, kmmA, kmrA⟩ := hJ
      dsimp only at hz32 hTy hFR kmo kmmA kmrA hP hD hl ih32
      obtain _ | z32 := z32
      · have hl : lv_has ls 18 [(8, .int (-1)), (6, .long x32_6), (0, .ref mo), (1, .ref a1), (2, .int (nI n)), (3, .ref mmA), (4, .int (nI k1)), (5, .ref q1)] := hl
        refine lv_iload hx hb d_Model_divided_32 (lv_at hl 0 rfl) ?_
        refine lv_if_lt (tgt := 83) hx hb d_Model_divided_34 (by decide) (fun c34 => ?_) (fun c34 => ?_)
        rotate_left
        · exact absurd c34 (by decide)
        refine lv_aload_n hx hb d_Model_divided_83 rfl (lv_at hl 2 rfl) ?_
        refine lv_aload hx hb d_Model_divided_84 (lv_at hl 7 rfl) ?_
        refine lv_iload_n hx hb d_Model_divided_86 rfl (lv_at hl 4 rfl) ?_
        refine vp_callSi (pu_callS (As := [.ref q1, .int (nI n)]) (rest := [.ref mo]) ⟨hx, hb, hml, hown, hts⟩ tbin (p_Model_trim l dC dI sb γ κ Ad τ gT G32 q1 600 n hTy kq1 (by omega) (by omega)) q9_103 q9_104 q1_9 q9_105 (n := 2) (by decide +kernel) rfl ⟨rfl, rfl⟩ ⟨Nat.le_of_ble_eq_true rfl, Nat.le_of_ble_eq_true rfl⟩ ⟨Nat.le_of_ble_eq_true rfl, Nat.le_of_ble_eq_true rfl⟩ hN (hT0.keep hS hAs) hK hP (List.range G32.length) (rg_all G32) [0, 1, 2, 3, 4] rfl hl.1 rfl (Nat.le_of_ble_eq_true rfl) d_Model_divided_87) (fun r87 hr87 => ?_)
        obtain ⟨i_70, hg_70⟩ := List.getElem?_of_mem kmo.2
        rw [eX_mo] at hg_70
        refine va_put (v := .int r87) (ty := .int) hx hb htb i_Model t_Model t_Model_ok n_Model hown hK hP hD hS i_70 hg_70 rfl 9 (by decide) (htb _ q7_223) (fun _ h9 => h9) rfl (by decide +kernel) rfl rfl (Nat.le_of_ble_eq_true rfl) d_Model_divided_90 (fun H90 locs hP hD2 hS => ?_)
        have hP : va_P (dC, dI) classes (G32.set i_70 (mo, .inr (12, (.int mer :: .int mfed :: .int mwr :: .int mct :: .int mls :: .ref moc :: .ref msT :: .ref mrV :: .ref msP :: .int r87 :: .ref mrA :: .ref mbA :: .ref mwA :: .ref mhA :: .ref mfA :: .ref mpA :: .ref mxA :: .ref myA :: .ref mmA :: .ref mqA :: .ref mzA :: .ref mwy :: .ref mfd :: .int msz :: .int mcz :: .int mch :: .int mft :: .int mpt :: .int mdp :: .int mvd :: .long mnw :: .int mmk :: [])))) H90 := hP
        have hD3 : va_D A (G32.set i_70 (mo, .inr (12, (.int mer :: .int mfed :: .int mwr :: .int mct :: .int mls :: .ref moc :: .ref msT :: .ref mrV :: .ref msP :: .int r87 :: .ref mrA :: .ref mbA :: .ref mwA :: .ref mhA :: .ref mfA :: .ref mpA :: .ref mxA :: .ref myA :: .ref mmA :: .ref mqA :: .ref mzA :: .ref mwy :: .ref mfd :: .int msz :: .int mcz :: .int mch :: .int mft :: .int mpt :: .int mdp :: .int mvd :: .long mnw :: .int mmk :: [])))) := hD2
        have hTy := TR.setX (c' := .inr (12, (.int mer :: .int mfed :: .int mwr :: .int mct :: .int mls :: .ref moc :: .ref msT :: .ref mrV :: .ref msP :: .int r87 :: .ref mrA :: .ref mbA :: .ref mwA :: .ref mhA :: .ref mfA :: .ref mpA :: .ref mxA :: .ref myA :: .ref mmA :: .ref mqA :: .ref mzA :: .ref mwy :: .ref mfd :: .int msz :: .int mcz :: .int mch :: .int mft :: .int mpt :: .int mdp :: .int mvd :: .long mnw :: .int mmk :: []))) hTy hg_70 kmo.1
        have kmmA := Xc.setX (c' := .inr (12, (.int mer :: .int mfed :: .int mwr :: .int mct :: .int mls :: .ref moc :: .ref msT :: .ref mrV :: .ref msP :: .int r87 :: .ref mrA :: .ref mbA :: .ref mwA :: .ref mhA :: .ref mfA :: .ref mpA :: .ref mxA :: .ref myA :: .ref mmA :: .ref mqA :: .ref mzA :: .ref mwy :: .ref mfd :: .int msz :: .int mcz :: .int mch :: .int mft :: .int mpt :: .int mdp :: .int mvd :: .long mnw :: .int mmk :: []))) kmmA hg_70 (fun e => hx_mo_mmA.symm (congrArg Prod.fst e))
        have kmrA := Xc.setX (c' := .inr (12, (.int mer :: .int mfed :: .int mwr :: .int mct :: .int mls :: .ref moc :: .ref msT :: .ref mrV :: .ref msP :: .int r87 :: .ref mrA :: .ref mbA :: .ref mwA :: .ref mhA :: .ref mfA :: .ref mpA :: .ref mxA :: .ref myA :: .ref mmA :: .ref mqA :: .ref mzA :: .ref mwy :: .ref mfd :: .int msz :: .int mcz :: .int mch :: .int mft :: .int mpt :: .int mdp :: .int mvd :: .long mnw :: .int mmk :: []))) kmrA hg_70 (fun e => hx_mo_mrA.symm (congrArg Prod.fst e))
        have hFR := hFR.tr (FL.set (Ad := Ad) (X := [mo, mrA]) (c' := .inr (12, (.int mer :: .int mfed :: .int mwr :: .int mct :: .int mls :: .ref moc :: .ref msT :: .ref mrV :: .ref msP :: .int r87 :: .ref mrA :: .ref mbA :: .ref mwA :: .ref mhA :: .ref mfA :: .ref mpA :: .ref mxA :: .ref myA :: .ref mmA :: .ref mqA :: .ref mzA :: .ref mwy :: .ref mfd :: .int msz :: .int mcz :: .int mch :: .int mft :: .int mpt :: .int mdp :: .int mvd :: .long mnw :: .int mmk :: []))) hg_70 (by simp))
        have hg_70 := set_here (c' := .inr (12, (.int mer :: .int mfed :: .int mwr :: .int mct :: .int mls :: .ref moc :: .ref msT :: .ref mrV :: .ref msP :: .int r87 :: .ref mrA :: .ref mbA :: .ref mwA :: .ref mhA :: .ref mfA :: .ref mpA :: .ref mxA :: .ref myA :: .ref mmA :: .ref mqA :: .ref mzA :: .ref mwy :: .ref mfd :: .int msz :: .int mcz :: .int mch :: .int mft :: .int mpt :: .int mdp :: .int mvd :: .long mnw :: .int mmk :: []))) hg_70
        have kmo : Xc Ad mo (.inr (12, (.int mer :: .int mfed :: .int mwr :: .int mct :: .int mls :: .ref moc :: .ref msT :: .ref mrV :: .ref msP :: .int r87 :: .ref mrA :: .ref mbA :: .ref mwA :: .ref mhA :: .ref mfA :: .ref mpA :: .ref mxA :: .ref myA :: .ref mmA :: .ref mqA :: .ref mzA :: .ref mwy :: .ref mfd :: .int msz :: .int mcz :: .int mch :: .int mft :: .int mpt :: .int mdp :: .int mvd :: .long mnw :: .int mmk :: []))) (G32.set i_70 (mo, .inr (12, (.int mer :: .int mfed :: .int mwr :: .int mct :: .int mls :: .ref moc :: .ref msT :: .ref mrV :: .ref msP :: .int r87 :: .ref mrA :: .ref mbA :: .ref mwA :: .ref mhA :: .ref mfA :: .ref mpA :: .ref mxA :: .ref myA :: .ref mmA :: .ref mqA :: .ref mzA :: .ref mwy :: .ref mfd :: .int msz :: .int mcz :: .int mch :: .int mft :: .int mpt :: .int mdp :: .int mvd :: .long mnw :: .int mmk :: [])))) := ⟨kmo.1, List.mem_of_getElem? hg_70⟩
        have hD := hD3
        clear hD3 hD2
        generalize G32.set i_70 (mo, .inr (12, (.int mer :: .int mfed :: .int mwr :: .int mct :: .int mls :: .ref moc :: .ref msT :: .ref mrV :: .ref msP :: .int r87 :: .ref mrA :: .ref mbA :: .ref mwA :: .ref mhA :: .ref mfA :: .ref mpA :: .ref mxA :: .ref myA :: .ref mmA :: .ref mqA :: .ref mzA :: .ref mwy :: .ref mfd :: .int msz :: .int mcz :: .int mch :: .int mft :: .int mpt :: .int mdp :: .int mvd :: .long mnw :: .int mmk :: []))) = G_71 at hP hD hTy hFR kmo kmmA kmrA hg_70
        obtain ⟨cX_72, eX_72⟩ : ∃ z : va_E, z = .inr (12, (.int mer :: .int mfed :: .int mwr :: .int mct :: .int mls :: .ref moc :: .ref msT :: .ref mrV :: .ref msP :: .int r87 :: .ref mrA :: .ref mbA :: .ref mwA :: .ref mhA :: .ref mfA :: .ref mpA :: .ref mxA :: .ref myA :: .ref mmA :: .ref mqA :: .ref mzA :: .ref mwy :: .ref mfd :: .int msz :: .int mcz :: .int mch :: .int mft :: .int mpt :: .int mdp :: .int mvd :: .long mnw :: .int mmk :: [])) := ⟨_, rfl⟩
        rw [← eX_72] at kmo
        refine lv_aload_n hx hb d_Model_divided_93 rfl (lv_at hl 3 rfl) ?_
        refine lv_iconst (v := 0) hx hb d_Model_divided_94 (by decide) ?_
        refine lv_lload hx hb d_Model_divided_95 (lv_at hl 1 rfl) ?_
        refine lv_l2i (v := x32_6.toInt32) hx hb d_Model_divided_97 rfl ?_
        obtain ⟨i_73, f_73, hn_73, hg_73⟩ := tr_6 hTy ka1
        have h98 : vp_in (0 : Int32) 600 := (by unfold vp_in; decide)
        refine va_iast hx hb hK hP hD hS i_73 1 hg_73 rfl h98 d_Model_divided_98 (fun H98 locs hP hD2 hS => ?_)
        have hP : va_P (dC, dI) classes (G_71.set i_73 (a1, .inl (γ.2.1, 600, .inl (upd f_73 (0 : Int32).toNatClampNeg x32_6.toInt32)))) H98 := hP
        have hD3 : va_D A (G_71.set i_73 (a1, .inl (γ.2.1, 600, .inl (upd f_73 (0 : Int32).toNatClampNeg x32_6.toInt32)))) := hD2
        have hF1 := FR.set (c' := .inl (γ.2.1, 600, .inl (upd f_73 (0 : Int32).toNatClampNeg x32_6.toInt32))) hg_73 ka1.1
        have kmo := kmo.fr hF1
        have kmmA := kmmA.fr hF1
        have kmrA := kmrA.fr hF1
        have hFR := hFR.tr hF1.l
        clear hF1
        have hTy := TR.set (c' := .inl (γ.2.1, 600, .inl (upd f_73 (0 : Int32).toNatClampNeg x32_6.toInt32))) hTy hg_73 (okr_6 ka1 hn_73 _)
        have hD := hD3
        clear hD3 hD2
        generalize G_71.set i_73 (a1, .inl (γ.2.1, 600, .inl (upd f_73 (0 : Int32).toNatClampNeg x32_6.toInt32))) = G_74 at hP hD hTy hFR kmo kmmA kmrA 
        refine lv_aload_n hx hb d_Model_divided_99 rfl (lv_at hl 3 rfl) ?_
        refine lv_iconst (v := 1) hx hb d_Model_divided_100 (by decide) ?_
        refine vp_callSi (pu_callS (As := [.ref a1, .int 1]) (rest := []) ⟨hx, hb, hml, hown, hts⟩ tbin (p_Model_trim l dC dI sb γ κ Ad τ gT G_74 a1 600 1 hTy ka1 (by omega) (by omega)) q9_103 q9_104 q1_9 q9_105 (n := 2) (by decide +kernel) rfl ⟨rfl, rfl⟩ ⟨Nat.le_of_ble_eq_true rfl, Nat.le_of_ble_eq_true rfl⟩ ⟨Nat.le_of_ble_eq_true rfl, Nat.le_of_ble_eq_true rfl⟩ hN (hT0.keep hS hAs) hK hP (List.range G_74.length) (rg_all G_74) [0, 1, 2, 3, 4] rfl hl.1 rfl (Nat.le_of_ble_eq_true rfl) d_Model_divided_101) (fun r101 hr101 => ?_)
        exact W.iret (v := r101) hx hb hr (fun t ht hW => ⟨⟨_, G_74, rfl, ⟨hTy, hFR, (let ⟨k, a, b⟩ := hr101; ⟨k, by omega, b⟩), ⟨_, by rw [eX_72] at kmo; exact kmo⟩, kmmA, ⟨_, kmrA⟩⟩, by rw [ht]; exact hP, va_K.moved hW.alike hK, hD⟩, hS.F ht⟩) hS.2.2 d_Model_divided_104
      · have hl : lv_has ls 18 [(8, .int (nI z32)), (6, .long x32_6), (0, .ref mo), (1, .ref a1), (2, .int (nI n)), (3, .ref mmA), (4, .int (nI k1)), (5, .ref q1)] := hl
        refine lv_iload hx hb d_Model_divided_32 (lv_at hl 0 rfl) ?_
        refine lv_if_lt (tgt := 83) hx hb d_Model_divided_34 (by decide) (fun c34 => ?_) (fun c34 => ?_)
        · exact absurd c34 (nI_pos (by omega))
        refine lv_lload hx hb d_Model_divided_37 (lv_at hl 1 rfl) ?_
        refine lv_bipush (v := 16) hx hb d_Model_divided_39 (by decide) ?_
        refine lv_lshl (v := x32_6 <<< ((16 : Int32).toInt64 &&& 63)) hx hb d_Model_divided_41 rfl ?_
        refine lv_aload_n hx hb d_Model_divided_42 rfl (lv_at hl 3 rfl) ?_
        refine lv_iload hx hb d_Model_divided_43 (lv_at hl 0 rfl) ?_
        obtain ⟨i_75, f_75, hn_75, hg_75⟩ := tr_6 hTy ka1
        have h45 : vp_in (nI z32) 600 := vp_in_nI (by omega) (by omega)
        refine va_iald hx hb hK hP i_75 1 hg_75 rfl h45 d_Model_divided_45 ?_
        refine lv_topi (fun e45 he45 => ?_)
        refine lv_i2l (v := e45.toInt64) hx hb d_Model_divided_46 rfl ?_
        refine lv_lor hx hb d_Model_divided_47 ?_
        refine lv_topl (fun v48 ev48 => ?_)
        refine lv_lstore (lv' := [(6, .long v48), (8, .int (nI z32)), (0, .ref mo), (1, .ref a1), (2, .int (nI n)), (3, .ref mmA), (4, .int (nI k1)), (5, .ref q1)]) hx hb d_Model_divided_48 hl (by decide) rfl (fun ls hl => ?_)
        refine lv_aload hx hb d_Model_divided_50 (lv_at hl 7 rfl) ?_
        refine lv_iload hx hb d_Model_divided_52 (lv_at hl 1 rfl) ?_
        refine lv_lload hx hb d_Model_divided_54 (lv_at hl 0 rfl) ?_
        refine lv_aload_n hx hb d_Model_divided_56 rfl (lv_at hl 5 rfl) ?_
        refine lv_iconst (v := 0) hx hb d_Model_divided_57 (by decide) ?_
        obtain ⟨i_76, hg_76⟩ := List.getElem?_of_mem kmmA.2
        have h58 : vp_in (0 : Int32) 600 := (by unfold vp_in; decide)
        refine va_iald hx hb hK hP i_76 1 hg_76 rfl h58 d_Model_divided_58 ?_
        refine lv_topi (fun e58 he58 => ?_)
        refine lv_i2l (v := e58.toInt64) hx hb d_Model_divided_59 rfl ?_
        refine lv_ldiv hx hb d_Model_divided_60 (dv_ne (k := 0) he58 (by decide) (by rw [← ht3, p21]) ht1 (by omega)) ?_
        refine lv_l2i (v := (v48 / e58.toInt64).toInt32) hx hb d_Model_divided_61 rfl ?_
        obtain ⟨i_77, f_77, hn_77, hg_77⟩ := tr_6 hTy kq1
        have h62 : vp_in (nI z32) 600 := vp_in_nI (by omega) (by omega)
        refine va_iast hx hb hK hP hD hS i_77 1 hg_77 rfl h62 d_Model_divided_62 (fun H62 locs hP hD2 hS => ?_)
        have hP : va_P (dC, dI) classes (G32.set i_77 (q1, .inl (γ.2.1, 600, .inl (upd f_77 (nI z32).toNatClampNeg ((v48 / e58.toInt64).toInt32))))) H62 := hP
        have hD3 : va_D A (G32.set i_77 (q1, .inl (γ.2.1, 600, .inl (upd f_77 (nI z32).toNatClampNeg ((v48 / e58.toInt64).toInt32))))) := hD2
        have hF1 := FR.set (c' := .inl (γ.2.1, 600, .inl (upd f_77 (nI z32).toNatClampNeg ((v48 / e58.toInt64).toInt32)))) hg_77 kq1.1
        have kmo := kmo.fr hF1
        have kmmA := kmmA.fr hF1
        have kmrA := kmrA.fr hF1
        have hFR := hFR.tr hF1.l
        clear hF1
        have hTy := TR.set (c' := .inl (γ.2.1, 600, .inl (upd f_77 (nI z32).toNatClampNeg ((v48 / e58.toInt64).toInt32)))) hTy hg_77 (okr_6 kq1 hn_77 _)
        have hD := hD3
        clear hD3 hD2
        generalize G32.set i_77 (q1, .inl (γ.2.1, 600, .inl (upd f_77 (nI z32).toNatClampNeg ((v48 / e58.toInt64).toInt32)))) = G_78 at hP hD hTy hFR kmo kmmA kmrA 
        refine lv_lload hx hb d_Model_divided_63 (lv_at hl 0 rfl) ?_
        refine lv_aload_n hx hb d_Model_divided_65 rfl (lv_at hl 5 rfl) ?_
        refine lv_iconst (v := 0) hx hb d_Model_divided_66 (by decide) ?_
        obtain ⟨i_79, hg_79⟩ := List.getElem?_of_mem kmmA.2
        have h67 : vp_in (0 : Int32) 600 := (by unfold vp_in; decide)
        refine va_iald hx hb hK hP i_79 1 hg_79 rfl h67 d_Model_divided_67 ?_
        refine lv_topi (fun e67 he67 => ?_)
        refine lv_i2l (v := e67.toInt64) hx hb d_Model_divided_68 rfl ?_
        refine lv_lrem hx hb d_Model_divided_69 (dv_ne (k := 0) he67 (by decide) (by rw [← ht3, p21]) ht1 (by omega)) ?_
        refine lv_topl (fun v70 ev70 => ?_)
        refine lv_lstore (lv' := [(6, .long v70), (8, .int (nI z32)), (0, .ref mo), (1, .ref a1), (2, .int (nI n)), (3, .ref mmA), (4, .int (nI k1)), (5, .ref q1)]) hx hb d_Model_divided_70 hl (by decide) rfl (fun ls hl => ?_)
        refine lv_aload_n hx hb d_Model_divided_72 rfl (lv_at hl 3 rfl) ?_
        refine lv_iload hx hb d_Model_divided_73 (lv_at hl 1 rfl) ?_
        refine lv_iconst (v := 0) hx hb d_Model_divided_75 (by decide) ?_
        obtain ⟨i_80, f_80, hn_80, hg_80⟩ := tr_6 hTy ka1
        have h76 : vp_in (nI z32) 600 := vp_in_nI (by omega) (by omega)
        refine va_iast hx hb hK hP hD hS i_80 1 hg_80 rfl h76 d_Model_divided_76 (fun H76 locs hP hD2 hS => ?_)
        have hP : va_P (dC, dI) classes (G_78.set i_80 (a1, .inl (γ.2.1, 600, .inl (upd f_80 (nI z32).toNatClampNeg 0)))) H76 := hP
        have hD3 : va_D A (G_78.set i_80 (a1, .inl (γ.2.1, 600, .inl (upd f_80 (nI z32).toNatClampNeg 0)))) := hD2
        have hF1 := FR.set (c' := .inl (γ.2.1, 600, .inl (upd f_80 (nI z32).toNatClampNeg 0))) hg_80 ka1.1
        have kmo := kmo.fr hF1
        have kmmA := kmmA.fr hF1
        have kmrA := kmrA.fr hF1
        have hFR := hFR.tr hF1.l
        clear hF1
        have hTy := TR.set (c' := .inl (γ.2.1, 600, .inl (upd f_80 (nI z32).toNatClampNeg 0))) hTy hg_80 (okr_6 ka1 hn_80 _)
        have hD := hD3
        clear hD3 hD2
        generalize G_78.set i_80 (a1, .inl (γ.2.1, 600, .inl (upd f_80 (nI z32).toNatClampNeg 0))) = G_81 at hP hD hTy hFR kmo kmmA kmrA 
        refine lv_iinc (v := jD z32) (lv' := [(8, .int (jD z32)), (6, .long v70), (0, .ref mo), (1, .ref a1), (2, .int (nI n)), (3, .ref mmA), (4, .int (nI k1)), (5, .ref q1)]) hx hb d_Model_divided_77 hl (k := 1) rfl (jD_dec _) (by decide) rfl (fun ls hl => ?_)
        refine lv_goto (tgt := 32) hx hb d_Model_divided_80 (by decide) ?_
        exact ih32 (z32, v70, G_81) _ _ ls (by dsimp only; omega) ⟨by dsimp only; omega, hTy, hFR, kmo, kmmA, kmrA⟩ hP hD hS (lv_sub hl [0, 1, 2, 3, 4, 5, 6, 7] rfl)
  · have p8 : ¬ ((0 : Int32) ≤ r5) := c8
    refine lv_aload_n hx hb d_Model_divided_11 rfl (lv_at hl 0 rfl) ?_
    refine lv_iconst (v := 0) hx hb d_Model_divided_12 (by decide) ?_
    obtain ⟨i_82, hg_82⟩ := List.getElem?_of_mem kmo.2
    rw [eX_mo] at hg_82
    refine va_put (v := .int 0) (ty := .int) hx hb htb i_Model t_Model t_Model_ok n_Model hown hK hP hD hS i_82 hg_82 rfl 9 (by decide) (htb _ q7_223) (fun _ h9 => h9) rfl (by decide +kernel) rfl rfl (Nat.le_of_ble_eq_true rfl) d_Model_divided_13 (fun H13 locs hP hD2 hS => ?_)
    have hP : va_P (dC, dI) classes (G.set i_82 (mo, .inr (12, (.int mer :: .int mfed :: .int mwr :: .int mct :: .int mls :: .ref moc :: .ref msT :: .ref mrV :: .ref msP :: .int 0 :: .ref mrA :: .ref mbA :: .ref mwA :: .ref mhA :: .ref mfA :: .ref mpA :: .ref mxA :: .ref myA :: .ref mmA :: .ref mqA :: .ref mzA :: .ref mwy :: .ref mfd :: .int msz :: .int mcz :: .int mch :: .int mft :: .int mpt :: .int mdp :: .int mvd :: .long mnw :: .int mmk :: [])))) H13 := hP
    have hD3 : va_D A (G.set i_82 (mo, .inr (12, (.int mer :: .int mfed :: .int mwr :: .int mct :: .int mls :: .ref moc :: .ref msT :: .ref mrV :: .ref msP :: .int 0 :: .ref mrA :: .ref mbA :: .ref mwA :: .ref mhA :: .ref mfA :: .ref mpA :: .ref mxA :: .ref myA :: .ref mmA :: .ref mqA :: .ref mzA :: .ref mwy :: .ref mfd :: .int msz :: .int mcz :: .int mch :: .int mft :: .int mpt :: .int mdp :: .int mvd :: .long mnw :: .int mmk :: [])))) := hD2
    have hTy := TR.setX (c' := .inr (12, (.int mer :: .int mfed :: .int mwr :: .int mct :: .int mls :: .ref moc :: .ref msT :: .ref mrV :: .ref msP :: .int 0 :: .ref mrA :: .ref mbA :: .ref mwA :: .ref mhA :: .ref mfA :: .ref mpA :: .ref mxA :: .ref myA :: .ref mmA :: .ref mqA :: .ref mzA :: .ref mwy :: .ref mfd :: .int msz :: .int mcz :: .int mch :: .int mft :: .int mpt :: .int mdp :: .int mvd :: .long mnw :: .int mmk :: []))) hTy hg_82 kmo.1
    have kmmA := Xc.setX (c' := .inr (12, (.int mer :: .int mfed :: .int mwr :: .int mct :: .int mls :: .ref moc :: .ref msT :: .ref mrV :: .ref msP :: .int 0 :: .ref mrA :: .ref mbA :: .ref mwA :: .ref mhA :: .ref mfA :: .ref mpA :: .ref mxA :: .ref myA :: .ref mmA :: .ref mqA :: .ref mzA :: .ref mwy :: .ref mfd :: .int msz :: .int mcz :: .int mch :: .int mft :: .int mpt :: .int mdp :: .int mvd :: .long mnw :: .int mmk :: []))) kmmA hg_82 (fun e => hx_mo_mmA.symm (congrArg Prod.fst e))
    have kmrA := Xc.setX (c' := .inr (12, (.int mer :: .int mfed :: .int mwr :: .int mct :: .int mls :: .ref moc :: .ref msT :: .ref mrV :: .ref msP :: .int 0 :: .ref mrA :: .ref mbA :: .ref mwA :: .ref mhA :: .ref mfA :: .ref mpA :: .ref mxA :: .ref myA :: .ref mmA :: .ref mqA :: .ref mzA :: .ref mwy :: .ref mfd :: .int msz :: .int mcz :: .int mch :: .int mft :: .int mpt :: .int mdp :: .int mvd :: .long mnw :: .int mmk :: []))) kmrA hg_82 (fun e => hx_mo_mrA.symm (congrArg Prod.fst e))
    have hFR := hFR.tr (FL.set (Ad := Ad) (X := [mo, mrA]) (c' := .inr (12, (.int mer :: .int mfed :: .int mwr :: .int mct :: .int mls :: .ref moc :: .ref msT :: .ref mrV :: .ref msP :: .int 0 :: .ref mrA :: .ref mbA :: .ref mwA :: .ref mhA :: .ref mfA :: .ref mpA :: .ref mxA :: .ref myA :: .ref mmA :: .ref mqA :: .ref mzA :: .ref mwy :: .ref mfd :: .int msz :: .int mcz :: .int mch :: .int mft :: .int mpt :: .int mdp :: .int mvd :: .long mnw :: .int mmk :: []))) hg_82 (by simp))
    have hg_82 := set_here (c' := .inr (12, (.int mer :: .int mfed :: .int mwr :: .int mct :: .int mls :: .ref moc :: .ref msT :: .ref mrV :: .ref msP :: .int 0 :: .ref mrA :: .ref mbA :: .ref mwA :: .ref mhA :: .ref mfA :: .ref mpA :: .ref mxA :: .ref myA :: .ref mmA :: .ref mqA :: .ref mzA :: .ref mwy :: .ref mfd :: .int msz :: .int mcz :: .int mch :: .int mft :: .int mpt :: .int mdp :: .int mvd :: .long mnw :: .int mmk :: []))) hg_82
    have kmo : Xc Ad mo (.inr (12, (.int mer :: .int mfed :: .int mwr :: .int mct :: .int mls :: .ref moc :: .ref msT :: .ref mrV :: .ref msP :: .int 0 :: .ref mrA :: .ref mbA :: .ref mwA :: .ref mhA :: .ref mfA :: .ref mpA :: .ref mxA :: .ref myA :: .ref mmA :: .ref mqA :: .ref mzA :: .ref mwy :: .ref mfd :: .int msz :: .int mcz :: .int mch :: .int mft :: .int mpt :: .int mdp :: .int mvd :: .long mnw :: .int mmk :: []))) (G.set i_82 (mo, .inr (12, (.int mer :: .int mfed :: .int mwr :: .int mct :: .int mls :: .ref moc :: .ref msT :: .ref mrV :: .ref msP :: .int 0 :: .ref mrA :: .ref mbA :: .ref mwA :: .ref mhA :: .ref mfA :: .ref mpA :: .ref mxA :: .ref myA :: .ref mmA :: .ref mqA :: .ref mzA :: .ref mwy :: .ref mfd :: .int msz :: .int mcz :: .int mch :: .int mft :: .int mpt :: .int mdp :: .int mvd :: .long mnw :: .int mmk :: [])))) := ⟨kmo.1, List.mem_of_getElem? hg_82⟩
    have hD := hD3
    clear hD3 hD2
    generalize G.set i_82 (mo, .inr (12, (.int mer :: .int mfed :: .int mwr :: .int mct :: .int mls :: .ref moc :: .ref msT :: .ref mrV :: .ref msP :: .int 0 :: .ref mrA :: .ref mbA :: .ref mwA :: .ref mhA :: .ref mfA :: .ref mpA :: .ref mxA :: .ref myA :: .ref mmA :: .ref mqA :: .ref mzA :: .ref mwy :: .ref mfd :: .int msz :: .int mcz :: .int mch :: .int mft :: .int mpt :: .int mdp :: .int mvd :: .long mnw :: .int mmk :: []))) = G_83 at hP hD hTy hFR kmo kmmA kmrA hg_82
    obtain ⟨cX_84, eX_84⟩ : ∃ z : va_E, z = .inr (12, (.int mer :: .int mfed :: .int mwr :: .int mct :: .int mls :: .ref moc :: .ref msT :: .ref mrV :: .ref msP :: .int 0 :: .ref mrA :: .ref mbA :: .ref mwA :: .ref mhA :: .ref mfA :: .ref mpA :: .ref mxA :: .ref myA :: .ref mmA :: .ref mqA :: .ref mzA :: .ref mwy :: .ref mfd :: .int msz :: .int mcz :: .int mch :: .int mft :: .int mpt :: .int mdp :: .int mvd :: .long mnw :: .int mmk :: [])) := ⟨_, rfl⟩
    rw [← eX_84] at kmo
    refine lv_iload_n hx hb d_Model_divided_16 rfl (lv_at hl 2 rfl) ?_
    exact W.iret (v := nI n) hx hb hr (fun t ht hW => ⟨⟨_, G_83, rfl, ⟨hTy, hFR, ⟨n, hr5.1 (Int32.not_le.mp p8), rfl⟩, ⟨_, by rw [eX_84] at kmo; exact kmo⟩, kmmA, ⟨_, kmrA⟩⟩, by rw [ht]; exact hP, va_K.moved hW.alike hK, hD⟩, hS.F ht⟩) hS.2.2 d_Model_divided_17
