/-! The reference's limbs and reduced return. -/
theorem or_hi {a b : Nat} (ha : a < 256) (hb : b < 256) : (nI a ||| (nI b <<< ((8 : Int32) &&& 31))) = nI (a + 256 * b) := by
  have e0 : BitVec.smod ((8 : Int32) &&& 31).toBitVec 32 = BitVec.ofNat 32 8 := by decide
  apply Int32.toBitVec_inj.mp
  apply BitVec.eq_of_toNat_eq
  show ((nI a).toBitVec ||| ((nI b).toBitVec <<< (BitVec.smod ((8 : Int32) &&& 31).toBitVec 32))).toNat = (nI (a + 256 * b)).toBitVec.toNat
  have e1 : (nI a).toBitVec = BitVec.ofNat 32 a := rfl
  have e2 : (nI b).toBitVec = BitVec.ofNat 32 b := rfl
  have e3 : (nI (a + 256 * b)).toBitVec = BitVec.ofNat 32 (a + 256 * b) := rfl
  rw [e0, e1, e2, e3, BitVec.toNat_or, BitVec.shiftLeft_eq', BitVec.toNat_shiftLeft, BitVec.toNat_ofNat, BitVec.toNat_ofNat, BitVec.toNat_ofNat, BitVec.toNat_ofNat, Nat.mod_eq_of_lt (show 8 < 2 ^ 32 by omega), Nat.mod_eq_of_lt (show a < 2 ^ 32 by omega), Nat.mod_eq_of_lt (show b < 2 ^ 32 by omega), Nat.shiftLeft_eq, Nat.mod_eq_of_lt (show a + 256 * b < 2 ^ 32 by omega), Nat.mod_eq_of_lt (show b * 2 ^ 8 < 2 ^ 32 by omega)]
  rw [Nat.or_comm, Nat.mul_comm b]
  rw [← Nat.two_pow_add_eq_or_of_lt (show a < 2 ^ 8 by omega)]
  omega
theorem or_zero {a : Nat} : (nI a ||| (0 : Int32)) = nI a := by
  apply Int32.toBitVec_inj.mp
  show (nI a).toBitVec ||| 0#32 = (nI a).toBitVec
  simp
theorem nI_m2 {k j : Nat} (h : k = j + 2) : nI k + (-2) = nI j := by
  subst h
  rw [← nI_add]
  rw [Int32.add_assoc]
  rw [show nI 2 + (-2 : Int32) = 0 from by decide, Int32.add_zero]
def y_Model_limbs : MethodName := ⟨"TrustChainModel", "limbs", "(LTrustChainModel$Text;II[I)I"⟩
abbrev b_Model_limbs : ByteArray := prog_14_method_27_code
def w_Model_limbs : List Cond := Cond.code y_Model_limbs b_Model_limbs 6 ((some FieldType.int)) :: tb
theorem d_Model_limbs_0 : decode b_Model_limbs 0 = .ok (.iconst 0, 1) := by decide +kernel
theorem d_Model_limbs_1 : decode b_Model_limbs 1 = .ok (.istore 4, 2) := by decide +kernel
theorem d_Model_limbs_3 : decode b_Model_limbs 3 = .ok (.iload_n 2, 1) := by decide +kernel
theorem d_Model_limbs_4 : decode b_Model_limbs 4 = .ok (.iconst 1, 1) := by decide +kernel
theorem d_Model_limbs_5 : decode b_Model_limbs 5 = .ok (.isub, 1) := by decide +kernel
theorem d_Model_limbs_6 : decode b_Model_limbs 6 = .ok (.istore 5, 2) := by decide +kernel
theorem d_Model_limbs_8 : decode b_Model_limbs 8 = .ok (.iload 5, 2) := by decide +kernel
theorem d_Model_limbs_10 : decode b_Model_limbs 10 = .ok (.iload_n 1, 1) := by decide +kernel
theorem d_Model_limbs_11 : decode b_Model_limbs 11 = .ok (.if_icmp .lt 46, 3) := by decide +kernel
theorem d_Model_limbs_14 : decode b_Model_limbs 14 = .ok (.aload_n 3, 1) := by decide +kernel
theorem d_Model_limbs_15 : decode b_Model_limbs 15 = .ok (.iload 4, 2) := by decide +kernel
theorem d_Model_limbs_17 : decode b_Model_limbs 17 = .ok (.iinc 4 1, 3) := by decide +kernel
theorem d_Model_limbs_20 : decode b_Model_limbs 20 = .ok (.aload_n 0, 1) := by decide +kernel
theorem d_Model_limbs_21 : decode b_Model_limbs 21 = .ok (.getfield 189, 3) := by decide +kernel
theorem d_Model_limbs_24 : decode b_Model_limbs 24 = .ok (.iload 5, 2) := by decide +kernel
theorem d_Model_limbs_26 : decode b_Model_limbs 26 = .ok (.iaload, 1) := by decide +kernel
theorem d_Model_limbs_27 : decode b_Model_limbs 27 = .ok (.iload 5, 2) := by decide +kernel
theorem d_Model_limbs_29 : decode b_Model_limbs 29 = .ok (.iload_n 1, 1) := by decide +kernel
theorem d_Model_limbs_30 : decode b_Model_limbs 30 = .ok (.if_icmp .le 18, 3) := by decide +kernel
theorem d_Model_limbs_33 : decode b_Model_limbs 33 = .ok (.aload_n 0, 1) := by decide +kernel
theorem d_Model_limbs_34 : decode b_Model_limbs 34 = .ok (.getfield 189, 3) := by decide +kernel
theorem d_Model_limbs_37 : decode b_Model_limbs 37 = .ok (.iload 5, 2) := by decide +kernel
theorem d_Model_limbs_39 : decode b_Model_limbs 39 = .ok (.iconst 1, 1) := by decide +kernel
theorem d_Model_limbs_40 : decode b_Model_limbs 40 = .ok (.isub, 1) := by decide +kernel
theorem d_Model_limbs_41 : decode b_Model_limbs 41 = .ok (.iaload, 1) := by decide +kernel
theorem d_Model_limbs_42 : decode b_Model_limbs 42 = .ok (.bipush 8, 2) := by decide +kernel
theorem d_Model_limbs_44 : decode b_Model_limbs 44 = .ok (.ishl, 1) := by decide +kernel
theorem d_Model_limbs_45 : decode b_Model_limbs 45 = .ok (.goto 4, 3) := by decide +kernel
theorem d_Model_limbs_48 : decode b_Model_limbs 48 = .ok (.iconst 0, 1) := by decide +kernel
theorem d_Model_limbs_49 : decode b_Model_limbs 49 = .ok (.ior, 1) := by decide +kernel
theorem d_Model_limbs_50 : decode b_Model_limbs 50 = .ok (.iastore, 1) := by decide +kernel
theorem d_Model_limbs_51 : decode b_Model_limbs 51 = .ok (.iinc 5 (-2), 3) := by decide +kernel
theorem d_Model_limbs_54 : decode b_Model_limbs 54 = .ok (.goto (-46), 3) := by decide +kernel
theorem d_Model_limbs_57 : decode b_Model_limbs 57 = .ok (.aload_n 3, 1) := by decide +kernel
theorem d_Model_limbs_58 : decode b_Model_limbs 58 = .ok (.iload 4, 2) := by decide +kernel
theorem d_Model_limbs_60 : decode b_Model_limbs 60 = .ok (.invokestatic 149, 3) := by decide +kernel
theorem d_Model_limbs_63 : decode b_Model_limbs 63 = .ok (.ireturn, 1) := by decide +kernel
