/-! The octets that are fed: both sides keep the same. -/
def oc9 (x s : Int32) : Nat := (x.toUInt32 >>> (s.toUInt32 &&& Int32.toUInt32 31)).toNat % 256
theorem oc9_lt (x s : Int32) : oc9 x s < 256 := Nat.mod_lt _ (by decide)
theorem and_255 (y : UInt32) : (y.toInt32 &&& 255) = nI (y.toNat % 256) := by
  apply Int32.toBitVec_inj.mp
  apply BitVec.eq_of_toNat_eq
  show (y.toBitVec &&& (255 : Int32).toBitVec).toNat = (BitVec.ofNat 32 (y.toNat % 256)).toNat
  rw [BitVec.toNat_and, BitVec.toNat_ofNat, show ((255 : Int32).toBitVec).toNat = 2 ^ 8 - 1 from by decide, Nat.and_two_pow_sub_one_eq_mod]
  show y.toNat % 2 ^ 8 = _
  rw [Nat.mod_eq_of_lt (a := y.toNat % 256) (by omega)]
theorem sh_24 : ∀ i, i < 20 → (24 - (8 * ((nI i) &&& 3)) : Int32) = if i % 4 = 0 then 24 else if i % 4 = 1 then 16 else if i % 4 = 2 then 8 else 0 := by decide
theorem wb_oc (x s : Int32) : wb x s = sb_b (oc9 x s) := by
  unfold wb sb_b oc9
  generalize (x.toUInt32 >>> (s.toUInt32 &&& Int32.toUInt32 31)) = y
  apply congrArg Int8.toInt32
  apply Int8.toBitVec_inj.mp
  apply BitVec.eq_of_toNat_eq
  rw [Int32.toBitVec_toInt8, Int32.toBitVec_toInt8, BitVec.signExtend_eq_setWidth_of_le _ (by decide), BitVec.signExtend_eq_setWidth_of_le _ (by decide)]
  show (BitVec.setWidth 8 y.toBitVec).toNat = (BitVec.setWidth 8 (BitVec.ofNat 32 (y.toNat % 256))).toNat
  rw [BitVec.toNat_setWidth, BitVec.toNat_setWidth, BitVec.toNat_ofNat]
  show y.toNat % 2 ^ 8 = _
  omega
def fw4 (u : Nat → Nat) (k : Nat) (x : Int32) : Nat → Nat := fun j => if j = k + 3 then oc9 x 0 else if j = k + 2 then oc9 x 8 else if j = k + 1 then oc9 x 16 else if j = k then oc9 x 24 else u j
def fw20 (u : Nat → Nat) (k : Nat) (a b c d e : Int32) : Nat → Nat := fw4 (fw4 (fw4 (fw4 (fw4 u k a) (k + 4) b) (k + 8) c) (k + 12) d) (k + 16) e
theorem fw4_lt {u : Nat → Nat} (hu : ∀ j, u j < 256) (k : Nat) (x : Int32) : ∀ j, fw4 u k x j < 256 := fun j => by
  unfold fw4
  split
  · exact oc9_lt _ _
  · split
    · exact oc9_lt _ _
    · split
      · exact oc9_lt _ _
      · split
        · exact oc9_lt _ _
        · exact hu j
theorem fw20_lt {u : Nat → Nat} (hu : ∀ j, u j < 256) (k : Nat) (a b c d e : Int32) : ∀ j, fw20 u k a b c d e j < 256 := fw4_lt (fw4_lt (fw4_lt (fw4_lt (fw4_lt hu _ _) _ _) _ _) _ _) _ _
theorem tw4_tx (u : Nat → Nat) (k : Nat) (x : Int32) : tw4 (tx u) k x = tx (fw4 u k x) := by
  funext j
  unfold tw4 upd tx fw4
  rw [wb_oc, wb_oc, wb_oc, wb_oc]
  by_cases h3 : j = k + 3
  · rw [if_pos h3, if_pos h3]
  · rw [if_neg h3, if_neg h3]
    by_cases h2 : j = k + 2
    · rw [if_pos h2, if_pos h2]
    · rw [if_neg h2, if_neg h2]
      by_cases h1 : j = k + 1
      · rw [if_pos h1, if_pos h1]
      · rw [if_neg h1, if_neg h1]
        by_cases h0 : j = k
        · rw [if_pos h0, if_pos h0]
        · rw [if_neg h0, if_neg h0]
/-- the class' row -/
theorem fed_tx (u : Nat → Nat) (k : Nat) (a b c d e : Int32) : tw4 (tw4 (tw4 (tw4 (tw4 (tx u) k a) (k + 4) b) (k + 8) c) (k + 12) d) (k + 16) e = tx (fw20 u k a b c d e) := by
  rw [tw4_tx, tw4_tx, tw4_tx, tw4_tx, tw4_tx]
  rfl
theorem fo5_oc (a b c d e : Int32) (i : Nat) : fo5 a b c d e i = nI (oc9 (if i < 4 then a else if i < 8 then b else if i < 12 then c else if i < 16 then d else e) (24 - (8 * ((nI i) &&& 3)))) := and_255 _
theorem fw_in (u : Nat → Nat) (k : Nat) (a b c d e : Int32) : ∀ i, i < 20 → fo5 a b c d e i = nI (fw20 u k a b c d e (k + i)) := fun i hi => by
  rcases (show i = 0 ∨ i = 1 ∨ i = 2 ∨ i = 3 ∨ i = 4 ∨ i = 5 ∨ i = 6 ∨ i = 7 ∨ i = 8 ∨ i = 9 ∨ i = 10 ∨ i = 11 ∨ i = 12 ∨ i = 13 ∨ i = 14 ∨ i = 15 ∨ i = 16 ∨ i = 17 ∨ i = 18 ∨ i = 19 by omega) with rfl | rfl | rfl | rfl | rfl | rfl | rfl | rfl | rfl | rfl | rfl | rfl | rfl | rfl | rfl | rfl | rfl | rfl | rfl | rfl
  · rw [fo5_oc, sh_24 0 (by decide)]
    have e1 : fw20 u k a b c d e (k + 0) = oc9 a 24 := by
      unfold fw20 fw4
      repeat first | rw [if_pos (by omega)] | rw [if_neg (by omega)]
    rw [e1]
    rfl
  · rw [fo5_oc, sh_24 1 (by decide)]
    have e1 : fw20 u k a b c d e (k + 1) = oc9 a 16 := by
      unfold fw20 fw4
      repeat first | rw [if_pos (by omega)] | rw [if_neg (by omega)]
    rw [e1]
    rfl
  · rw [fo5_oc, sh_24 2 (by decide)]
    have e1 : fw20 u k a b c d e (k + 2) = oc9 a 8 := by
      unfold fw20 fw4
      repeat first | rw [if_pos (by omega)] | rw [if_neg (by omega)]
    rw [e1]
    rfl
  · rw [fo5_oc, sh_24 3 (by decide)]
    have e1 : fw20 u k a b c d e (k + 3) = oc9 a 0 := by
      unfold fw20 fw4
      repeat first | rw [if_pos (by omega)] | rw [if_neg (by omega)]
    rw [e1]
    rfl
  · rw [fo5_oc, sh_24 4 (by decide)]
    have e1 : fw20 u k a b c d e (k + 4) = oc9 b 24 := by
      unfold fw20 fw4
      repeat first | rw [if_pos (by omega)] | rw [if_neg (by omega)]
    rw [e1]
    rfl
  · rw [fo5_oc, sh_24 5 (by decide)]
    have e1 : fw20 u k a b c d e (k + 5) = oc9 b 16 := by
      unfold fw20 fw4
      repeat first | rw [if_pos (by omega)] | rw [if_neg (by omega)]
    rw [e1]
    rfl
  · rw [fo5_oc, sh_24 6 (by decide)]
    have e1 : fw20 u k a b c d e (k + 6) = oc9 b 8 := by
      unfold fw20 fw4
      repeat first | rw [if_pos (by omega)] | rw [if_neg (by omega)]
    rw [e1]
    rfl
  · rw [fo5_oc, sh_24 7 (by decide)]
    have e1 : fw20 u k a b c d e (k + 7) = oc9 b 0 := by
      unfold fw20 fw4
      repeat first | rw [if_pos (by omega)] | rw [if_neg (by omega)]
    rw [e1]
    rfl
  · rw [fo5_oc, sh_24 8 (by decide)]
    have e1 : fw20 u k a b c d e (k + 8) = oc9 c 24 := by
      unfold fw20 fw4
      repeat first | rw [if_pos (by omega)] | rw [if_neg (by omega)]
    rw [e1]
    rfl
  · rw [fo5_oc, sh_24 9 (by decide)]
    have e1 : fw20 u k a b c d e (k + 9) = oc9 c 16 := by
      unfold fw20 fw4
      repeat first | rw [if_pos (by omega)] | rw [if_neg (by omega)]
    rw [e1]
    rfl
  · rw [fo5_oc, sh_24 10 (by decide)]
    have e1 : fw20 u k a b c d e (k + 10) = oc9 c 8 := by
      unfold fw20 fw4
      repeat first | rw [if_pos (by omega)] | rw [if_neg (by omega)]
    rw [e1]
    rfl
  · rw [fo5_oc, sh_24 11 (by decide)]
    have e1 : fw20 u k a b c d e (k + 11) = oc9 c 0 := by
      unfold fw20 fw4
      repeat first | rw [if_pos (by omega)] | rw [if_neg (by omega)]
    rw [e1]
    rfl
  · rw [fo5_oc, sh_24 12 (by decide)]
    have e1 : fw20 u k a b c d e (k + 12) = oc9 d 24 := by
      unfold fw20 fw4
      repeat first | rw [if_pos (by omega)] | rw [if_neg (by omega)]
    rw [e1]
    rfl
  · rw [fo5_oc, sh_24 13 (by decide)]
    have e1 : fw20 u k a b c d e (k + 13) = oc9 d 16 := by
      unfold fw20 fw4
      repeat first | rw [if_pos (by omega)] | rw [if_neg (by omega)]
    rw [e1]
    rfl
  · rw [fo5_oc, sh_24 14 (by decide)]
    have e1 : fw20 u k a b c d e (k + 14) = oc9 d 8 := by
      unfold fw20 fw4
      repeat first | rw [if_pos (by omega)] | rw [if_neg (by omega)]
    rw [e1]
    rfl
  · rw [fo5_oc, sh_24 15 (by decide)]
    have e1 : fw20 u k a b c d e (k + 15) = oc9 d 0 := by
      unfold fw20 fw4
      repeat first | rw [if_pos (by omega)] | rw [if_neg (by omega)]
    rw [e1]
    rfl
  · rw [fo5_oc, sh_24 16 (by decide)]
    have e1 : fw20 u k a b c d e (k + 16) = oc9 e 24 := by
      unfold fw20 fw4
      repeat first | rw [if_pos (by omega)] | rw [if_neg (by omega)]
    rw [e1]
    rfl
  · rw [fo5_oc, sh_24 17 (by decide)]
    have e1 : fw20 u k a b c d e (k + 17) = oc9 e 16 := by
      unfold fw20 fw4
      repeat first | rw [if_pos (by omega)] | rw [if_neg (by omega)]
    rw [e1]
    rfl
  · rw [fo5_oc, sh_24 18 (by decide)]
    have e1 : fw20 u k a b c d e (k + 18) = oc9 e 8 := by
      unfold fw20 fw4
      repeat first | rw [if_pos (by omega)] | rw [if_neg (by omega)]
    rw [e1]
    rfl
  · rw [fo5_oc, sh_24 19 (by decide)]
    have e1 : fw20 u k a b c d e (k + 19) = oc9 e 0 := by
      unfold fw20 fw4
      repeat first | rw [if_pos (by omega)] | rw [if_neg (by omega)]
    rw [e1]
    rfl
theorem fw_out (u : Nat → Nat) (k : Nat) (a b c d e : Int32) (j : Nat) (h : j < k ∨ k + 20 ≤ j) : fw20 u k a b c d e j = u j := by
  unfold fw20 fw4
  repeat rw [if_neg (by omega)]
/-- the reference's row -/
theorem fed_tI {u : Nat → Nat} {f : Nat → Int32} {k : Nat} {a b c d e : Int32} (h : FDJ (tI u) f k 20 a b c d e) : f = tI (fw20 u k a b c d e) := by
  funext j
  by_cases hj : j < k ∨ k + 20 ≤ j
  · rw [h.1 j hj]
    show nI (u j) = nI (fw20 u k a b c d e j)
    rw [fw_out u k a b c d e j hj]
  · have e1 : j = k + (j - k) := by omega
    have h2 := h.2 (j - k) (by omega)
    rw [fw_in u k a b c d e (j - k) (by omega), ← e1] at h2
    exact h2
