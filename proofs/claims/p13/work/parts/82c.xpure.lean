/-! The hash of both sides: words, padding, rows that are written from the front. -/
theorem wd4 (p q r s : Int32) : ((((((((0 : Int32) <<< ((8 : Int32) &&& 31)) ||| p) <<< ((8 : Int32) &&& 31)) ||| q) <<< ((8 : Int32) &&& 31)) ||| r) <<< ((8 : Int32) &&& 31)) ||| s = (((p <<< ((24 : Int32) &&& 31)) ||| (q <<< ((16 : Int32) &&& 31))) ||| (r <<< ((8 : Int32) &&& 31))) ||| s := by
  have e8 : BitVec.smod ((8 : Int32) &&& 31).toBitVec 32 = 8#32 := by decide
  have e16 : BitVec.smod ((16 : Int32) &&& 31).toBitVec 32 = 16#32 := by decide
  have e24 : BitVec.smod ((24 : Int32) &&& 31).toBitVec 32 = 24#32 := by decide
  apply Int32.toBitVec_inj.mp
  show (((((((0#32 <<< BitVec.smod ((8 : Int32) &&& 31).toBitVec 32) ||| p.toBitVec) <<< BitVec.smod ((8 : Int32) &&& 31).toBitVec 32) ||| q.toBitVec) <<< BitVec.smod ((8 : Int32) &&& 31).toBitVec 32) ||| r.toBitVec) <<< BitVec.smod ((8 : Int32) &&& 31).toBitVec 32) ||| s.toBitVec = (((p.toBitVec <<< BitVec.smod ((24 : Int32) &&& 31).toBitVec 32) ||| (q.toBitVec <<< BitVec.smod ((16 : Int32) &&& 31).toBitVec 32)) ||| (r.toBitVec <<< BitVec.smod ((8 : Int32) &&& 31).toBitVec 32)) ||| s.toBitVec
  rw [e8, e16, e24]
  generalize p.toBitVec = p1
  generalize q.toBitVec = q1
  generalize r.toBitVec = r1
  generalize s.toBitVec = s1
  show ((((((0#32 <<< 8) ||| p1) <<< 8 ||| q1) <<< 8 ||| r1) <<< 8) ||| s1 : BitVec 32) = ((p1 <<< (8 + 8 + 8) ||| q1 <<< (8 + 8)) ||| r1 <<< 8) ||| s1
  rw [BitVec.shiftLeft_add p1 (8 + 8) 8, BitVec.shiftLeft_add p1 8 8, BitVec.shiftLeft_add q1 8 8, BitVec.zero_shiftLeft, BitVec.zero_or, BitVec.shiftLeft_or_distrib, BitVec.shiftLeft_or_distrib, BitVec.shiftLeft_or_distrib]
theorem scV_r (s : Nat → Int32) (i : Nat) : ((s (i - 16) + ((rotI (s (i - 15)) 7 ^^^ rotI (s (i - 15)) 18) ^^^ shrI (s (i - 15)) 3)) + s (i - 7)) + ((rotI (s (i - 2)) 17 ^^^ rotI (s (i - 2)) 19) ^^^ shrI (s (i - 2)) 10) = scV s i := by
  unfold scV
  generalize ((rotI (s (i - 15)) 7 ^^^ rotI (s (i - 15)) 18) ^^^ shrI (s (i - 15)) 3) = c
  generalize ((rotI (s (i - 2)) 17 ^^^ rotI (s (i - 2)) 19) ^^^ shrI (s (i - 2)) 10) = a
  rw [Int32.add_comm (s (i - 16)) c, Int32.add_comm (c + s (i - 16) + s (i - 7)) a, Int32.add_assoc c, Int32.add_comm (s (i - 16)) (s (i - 7)), ← Int32.add_assoc c, Int32.add_comm c (s (i - 7)), ← Int32.add_assoc, ← Int32.add_assoc]
/-- a row that is written from the front -/
def stG (v bl : Nat → Int32) (k : Nat) : Nat → Int32 := fun j => if j < k then v j else bl j
theorem stG_0 (v bl : Nat → Int32) : stG v bl 0 = bl := funext fun j => if_neg (Nat.not_lt_zero j)
theorem stG_s {v bl : Nat → Int32} {k : Nat} {x : Int32} (h : x = v k) : upd (stG v bl k) k x = stG v bl (k + 1) := by
  funext j
  unfold upd stG
  by_cases h1 : j = k
  · subst h1
    rw [if_pos rfl, if_pos (Nat.lt_succ_self _)]
    exact h
  · rw [if_neg h1]
    by_cases h2 : j < k
    · rw [if_pos h2, if_pos (by omega)]
    · rw [if_neg h2, if_neg (by omega)]
theorem stG_f {v bl : Nat → Int32} {x : Int32} (h : x = v 0) : upd bl 0 x = stG v bl 1 := by
  have h1 := stG_s (bl := bl) (k := 0) h
  rw [stG_0] at h1
  exact h1
theorem stG_lt {v bl : Nat → Int32} {k j : Nat} (h : j < k) : stG v bl k j = v j := if_pos h
theorem shr_u0 {a : Nat} (ha : a < 2 ^ 31) : nI a >>> ((0 : Int32) &&& 31) = ((nI a).toUInt32 >>> ((0 : Int32).toUInt32 &&& Int32.toUInt32 31)).toInt32 := by
  apply Int32.toBitVec_inj.mp
  rw [Int32.toBitVec_shiftRight]
  show (BitVec.ofNat 32 a).sshiftRight' (BitVec.smod ((0 : Int32) &&& 31).toBitVec 32) = (BitVec.ofNat 32 a) >>> (UInt32.mod ((0 : Int32).toUInt32 &&& Int32.toUInt32 31) 32).toBitVec
  rw [show BitVec.smod ((0 : Int32) &&& 31).toBitVec 32 = 0#32 from by decide, show (UInt32.mod ((0 : Int32).toUInt32 &&& Int32.toUInt32 31) 32).toBitVec = 0#32 from by decide]
  rw [show (BitVec.ofNat 32 a).sshiftRight' 0#32 = (BitVec.ofNat 32 a).sshiftRight 0 from rfl, BitVec.sshiftRight_eq_of_msb_false]
  · rfl
  · simp [BitVec.msb_eq_decide]
    omega
theorem shr_u8 {a : Nat} (ha : a < 2 ^ 31) : nI a >>> ((8 : Int32) &&& 31) = ((nI a).toUInt32 >>> ((8 : Int32).toUInt32 &&& Int32.toUInt32 31)).toInt32 := by
  apply Int32.toBitVec_inj.mp
  rw [Int32.toBitVec_shiftRight]
  show (BitVec.ofNat 32 a).sshiftRight' (BitVec.smod ((8 : Int32) &&& 31).toBitVec 32) = (BitVec.ofNat 32 a) >>> (UInt32.mod ((8 : Int32).toUInt32 &&& Int32.toUInt32 31) 32).toBitVec
  rw [show BitVec.smod ((8 : Int32) &&& 31).toBitVec 32 = 8#32 from by decide, show (UInt32.mod ((8 : Int32).toUInt32 &&& Int32.toUInt32 31) 32).toBitVec = 8#32 from by decide]
  rw [show (BitVec.ofNat 32 a).sshiftRight' 8#32 = (BitVec.ofNat 32 a).sshiftRight 8 from rfl, BitVec.sshiftRight_eq_of_msb_false]
  · rfl
  · simp [BitVec.msb_eq_decide]
    omega
theorem shr_u16 {a : Nat} (ha : a < 2 ^ 31) : nI a >>> ((16 : Int32) &&& 31) = ((nI a).toUInt32 >>> ((16 : Int32).toUInt32 &&& Int32.toUInt32 31)).toInt32 := by
  apply Int32.toBitVec_inj.mp
  rw [Int32.toBitVec_shiftRight]
  show (BitVec.ofNat 32 a).sshiftRight' (BitVec.smod ((16 : Int32) &&& 31).toBitVec 32) = (BitVec.ofNat 32 a) >>> (UInt32.mod ((16 : Int32).toUInt32 &&& Int32.toUInt32 31) 32).toBitVec
  rw [show BitVec.smod ((16 : Int32) &&& 31).toBitVec 32 = 16#32 from by decide, show (UInt32.mod ((16 : Int32).toUInt32 &&& Int32.toUInt32 31) 32).toBitVec = 16#32 from by decide]
  rw [show (BitVec.ofNat 32 a).sshiftRight' 16#32 = (BitVec.ofNat 32 a).sshiftRight 16 from rfl, BitVec.sshiftRight_eq_of_msb_false]
  · rfl
  · simp [BitVec.msb_eq_decide]
    omega
theorem shr_u24 {a : Nat} (ha : a < 2 ^ 31) : nI a >>> ((24 : Int32) &&& 31) = ((nI a).toUInt32 >>> ((24 : Int32).toUInt32 &&& Int32.toUInt32 31)).toInt32 := by
  apply Int32.toBitVec_inj.mp
  rw [Int32.toBitVec_shiftRight]
  show (BitVec.ofNat 32 a).sshiftRight' (BitVec.smod ((24 : Int32) &&& 31).toBitVec 32) = (BitVec.ofNat 32 a) >>> (UInt32.mod ((24 : Int32).toUInt32 &&& Int32.toUInt32 31) 32).toBitVec
  rw [show BitVec.smod ((24 : Int32) &&& 31).toBitVec 32 = 24#32 from by decide, show (UInt32.mod ((24 : Int32).toUInt32 &&& Int32.toUInt32 31) 32).toBitVec = 24#32 from by decide]
  rw [show (BitVec.ofNat 32 a).sshiftRight' 24#32 = (BitVec.ofNat 32 a).sshiftRight 24 from rfl, BitVec.sshiftRight_eq_of_msb_false]
  · rfl
  · simp [BitVec.msb_eq_decide]
    omega
/-- the octets with their padding -/
def pdV (u : Nat → Nat) (a b : Nat) : Nat → Int32 := fun p => padI u a b (nI p) (nI (64 * hs_b (b - a)))
theorem pd_1 {u : Nat → Nat} {a b p : Nat} (hb : b < 2 ^ 20) (hp : p < b - a) : nI (u (a + p)) = pdV u a b p := by
  unfold pdV padI
  rw [if_neg (show ¬ nI (b - a) ≤ nI p by rw [nI_leI (by omega) (by omega)]; omega)]
  unfold sl_at
  have e : (nI p).toInt = (p : Int) := nI_toInt (by omega)
  have e2 : (nI p).toInt.toNat = p := by rw [e]; rfl
  rw [if_pos ⟨by rw [e]; exact Int.natCast_nonneg p, by rw [e2]; omega⟩, e2]
theorem pd_2 {u : Nat → Nat} {a b : Nat} (hb : b < 2 ^ 20) : (128 : Int32) = pdV u a b (b - a) := by
  unfold pdV padI
  rw [if_pos (show nI (b - a) ≤ nI (b - a) by rw [nI_leI (by omega) (by omega)]; exact Nat.le_refl _), if_pos rfl]
theorem pd_3 {u : Nat → Nat} {a b p : Nat} (hb : b < 2 ^ 20) (h1 : b - a < p) (h2 : p + 4 < 64 * hs_b (b - a)) : (0 : Int32) = pdV u a b p := by
  have hT : 64 * hs_b (b - a) ≤ b - a + 72 := by unfold hs_b; omega
  unfold pdV padI
  rw [if_pos (show nI (b - a) ≤ nI p by rw [nI_leI (by omega) (by omega)]; omega), if_neg (show ¬ nI p = nI (b - a) by rw [nI_eq (by omega) (by omega)]; omega)]
  rw [if_pos (show nI p < nI (64 * hs_b (b - a)) - 4 from ?_)]
  rw [show nI (64 * hs_b (b - a)) - 4 = nI (64 * hs_b (b - a) - 4) from pk_sub (a := 64 * hs_b (b - a)) (b := 4) (by omega), nI_ltI (by omega) (by omega)]
  omega
theorem pd_40 {u : Nat → Nat} {a b p : Nat} (hb : b < 2 ^ 20) (h : p + 4 = 64 * hs_b (b - a)) : (nI (8 * (b - a)) >>> ((24 : Int32) &&& 31)) &&& 255 = pdV u a b p := by
  have hT : 64 * hs_b (b - a) ≤ b - a + 72 := by unfold hs_b; omega
  have hT2 : b - a + 9 ≤ 64 * hs_b (b - a) := by unfold hs_b; omega
  unfold pdV padI
  rw [if_pos (show nI (b - a) ≤ nI p by rw [nI_leI (by omega) (by omega)]; omega), if_neg (show ¬ nI p = nI (b - a) by rw [nI_eq (by omega) (by omega)]; omega)]
  rw [if_neg (show ¬ nI p < nI (64 * hs_b (b - a)) - 4 from ?_)]
  · rw [shr_u24 (by omega), show nI (b - a) * 8 = nI (8 * (b - a)) from (pk_mul (b - a) 8).trans (congrArg nI (Nat.mul_comm _ _))]
    rw [show (8 : Int32) * (nI (64 * hs_b (b - a)) - 1 - nI p) = 24 from ?_]
    rw [show nI (64 * hs_b (b - a)) - 1 = nI (64 * hs_b (b - a) - 1) from pk_sub (a := 64 * hs_b (b - a)) (b := 1) (by omega), pk_sub (show p ≤ 64 * hs_b (b - a) - 1 by omega), show 64 * hs_b (b - a) - 1 - p = 3 by omega]
    decide
  · rw [show nI (64 * hs_b (b - a)) - 4 = nI (64 * hs_b (b - a) - 4) from pk_sub (a := 64 * hs_b (b - a)) (b := 4) (by omega), nI_ltI (by omega) (by omega)]
    omega
theorem pd_41 {u : Nat → Nat} {a b p : Nat} (hb : b < 2 ^ 20) (h : p + 3 = 64 * hs_b (b - a)) : (nI (8 * (b - a)) >>> ((16 : Int32) &&& 31)) &&& 255 = pdV u a b p := by
  have hT : 64 * hs_b (b - a) ≤ b - a + 72 := by unfold hs_b; omega
  have hT2 : b - a + 9 ≤ 64 * hs_b (b - a) := by unfold hs_b; omega
  unfold pdV padI
  rw [if_pos (show nI (b - a) ≤ nI p by rw [nI_leI (by omega) (by omega)]; omega), if_neg (show ¬ nI p = nI (b - a) by rw [nI_eq (by omega) (by omega)]; omega)]
  rw [if_neg (show ¬ nI p < nI (64 * hs_b (b - a)) - 4 from ?_)]
  · rw [shr_u16 (by omega), show nI (b - a) * 8 = nI (8 * (b - a)) from (pk_mul (b - a) 8).trans (congrArg nI (Nat.mul_comm _ _))]
    rw [show (8 : Int32) * (nI (64 * hs_b (b - a)) - 1 - nI p) = 16 from ?_]
    rw [show nI (64 * hs_b (b - a)) - 1 = nI (64 * hs_b (b - a) - 1) from pk_sub (a := 64 * hs_b (b - a)) (b := 1) (by omega), pk_sub (show p ≤ 64 * hs_b (b - a) - 1 by omega), show 64 * hs_b (b - a) - 1 - p = 2 by omega]
    decide
  · rw [show nI (64 * hs_b (b - a)) - 4 = nI (64 * hs_b (b - a) - 4) from pk_sub (a := 64 * hs_b (b - a)) (b := 4) (by omega), nI_ltI (by omega) (by omega)]
    omega
theorem pd_42 {u : Nat → Nat} {a b p : Nat} (hb : b < 2 ^ 20) (h : p + 2 = 64 * hs_b (b - a)) : (nI (8 * (b - a)) >>> ((8 : Int32) &&& 31)) &&& 255 = pdV u a b p := by
  have hT : 64 * hs_b (b - a) ≤ b - a + 72 := by unfold hs_b; omega
  have hT2 : b - a + 9 ≤ 64 * hs_b (b - a) := by unfold hs_b; omega
  unfold pdV padI
  rw [if_pos (show nI (b - a) ≤ nI p by rw [nI_leI (by omega) (by omega)]; omega), if_neg (show ¬ nI p = nI (b - a) by rw [nI_eq (by omega) (by omega)]; omega)]
  rw [if_neg (show ¬ nI p < nI (64 * hs_b (b - a)) - 4 from ?_)]
  · rw [shr_u8 (by omega), show nI (b - a) * 8 = nI (8 * (b - a)) from (pk_mul (b - a) 8).trans (congrArg nI (Nat.mul_comm _ _))]
    rw [show (8 : Int32) * (nI (64 * hs_b (b - a)) - 1 - nI p) = 8 from ?_]
    rw [show nI (64 * hs_b (b - a)) - 1 = nI (64 * hs_b (b - a) - 1) from pk_sub (a := 64 * hs_b (b - a)) (b := 1) (by omega), pk_sub (show p ≤ 64 * hs_b (b - a) - 1 by omega), show 64 * hs_b (b - a) - 1 - p = 1 by omega]
    decide
  · rw [show nI (64 * hs_b (b - a)) - 4 = nI (64 * hs_b (b - a) - 4) from pk_sub (a := 64 * hs_b (b - a)) (b := 4) (by omega), nI_ltI (by omega) (by omega)]
    omega
theorem pd_43 {u : Nat → Nat} {a b p : Nat} (hb : b < 2 ^ 20) (h : p + 1 = 64 * hs_b (b - a)) : (nI (8 * (b - a)) >>> ((0 : Int32) &&& 31)) &&& 255 = pdV u a b p := by
  have hT : 64 * hs_b (b - a) ≤ b - a + 72 := by unfold hs_b; omega
  have hT2 : b - a + 9 ≤ 64 * hs_b (b - a) := by unfold hs_b; omega
  unfold pdV padI
  rw [if_pos (show nI (b - a) ≤ nI p by rw [nI_leI (by omega) (by omega)]; omega), if_neg (show ¬ nI p = nI (b - a) by rw [nI_eq (by omega) (by omega)]; omega)]
  rw [if_neg (show ¬ nI p < nI (64 * hs_b (b - a)) - 4 from ?_)]
  · rw [shr_u0 (by omega), show nI (b - a) * 8 = nI (8 * (b - a)) from (pk_mul (b - a) 8).trans (congrArg nI (Nat.mul_comm _ _))]
    rw [show (8 : Int32) * (nI (64 * hs_b (b - a)) - 1 - nI p) = 0 from ?_]
    rw [show nI (64 * hs_b (b - a)) - 1 = nI (64 * hs_b (b - a) - 1) from pk_sub (a := 64 * hs_b (b - a)) (b := 1) (by omega), pk_sub (show p ≤ 64 * hs_b (b - a) - 1 by omega), show 64 * hs_b (b - a) - 1 - p = 0 by omega]
    decide
  · rw [show nI (64 * hs_b (b - a)) - 4 = nI (64 * hs_b (b - a) - 4) from pk_sub (a := 64 * hs_b (b - a)) (b := 4) (by omega), nI_ltI (by omega) (by omega)]
    omega
/-- what the hash does not depend on: the words' row and what stands behind the eighth word -/
theorem fsG_ind {u : Nat → Nat} {a b tt fr : Nat} {g g' : Nat → Int32} : ∀ i j, j < i → fsG u a b tt fr g i j = fsG u a b tt fr g' i j
  | 0, j, h => absurd h (Nat.not_lt_zero j)
  | i + 1, j, h => by
    show upd (fsG u a b tt fr g i) i _ j = upd (fsG u a b tt fr g' i) i _ j
    unfold upd
    by_cases e : j = i
    · rw [if_pos e, if_pos e]
    · rw [if_neg e, if_neg e]
      exact fsG_ind i j (by omega)
theorem scG_ind {g g' : Nat → Int32} (h0 : ∀ j, j < 16 → g j = g' j) : ∀ k j, j < 16 + k → scG g k j = scG g' k j
  | 0, j, h => h0 j h
  | k + 1, j, h => by
    have ih := scG_ind h0 k
    show upd (scG g k) (16 + k) (scV (scG g k) (16 + k)) j = upd (scG g' k) (16 + k) (scV (scG g' k) (16 + k)) j
    have ev : scV (scG g k) (16 + k) = scV (scG g' k) (16 + k) := by
      unfold scV
      rw [ih (16 + k - 2) (by omega), ih (16 + k - 7) (by omega), ih (16 + k - 15) (by omega), ih (16 + k - 16) (by omega)]
    unfold upd
    by_cases e : j = 16 + k
    · rw [if_pos e, if_pos e]
      exact ev
    · rw [if_neg e, if_neg e]
      exact ih j (by omega)
theorem shG_ind {w w' : Nat → Int32} {z : shaT} : ∀ k, (∀ j, j < k → w j = w' j) → shG w z k = shG w' z k
  | 0, _ => rfl
  | k + 1, h => by
    show shStep _ (w k) (shG w z k) = shStep _ (w' k) (shG w' z k)
    rw [h k (Nat.lt_succ_self k), shG_ind k (fun j hj => h j (Nat.lt_succ_of_lt hj))]
theorem lt8 {j : Nat} (h : j < 8) : j = 0 ∨ j = 1 ∨ j = 2 ∨ j = 3 ∨ j = 4 ∨ j = 5 ∨ j = 6 ∨ j = 7 := by omega
theorem shAdd_ind {f f' : Nat → Int32} {z : shaT} (h : ∀ j, j < 8 → f j = f' j) : ∀ j, j < 8 → shAdd f z j = shAdd f' z j := fun j hj => by
  have e0 := h 0 (by decide)
  have e1 := h 1 (by decide)
  have e2 := h 2 (by decide)
  have e3 := h 3 (by decide)
  have e4 := h 4 (by decide)
  have e5 := h 5 (by decide)
  have e6 := h 6 (by decide)
  have e7 := h 7 (by decide)
  unfold shAdd
  rw [e0, e1, e2, e3, e4, e5, e6, e7]
  unfold upd
  rcases lt8 hj with rfl | rfl | rfl | rfl | rfl | rfl | rfl | rfl <;> rfl
theorem hs_ind {u : Nat → Nat} {a b tt : Nat} {z z' : (Nat → Int32) × (Nat → Int32)} (h : ∀ j, j < 8 → z.2 j = z'.2 j) : ∀ k j, j < 8 → (hs_n u a b tt z k).2 j = (hs_n u a b tt z' k).2 j
  | 0, j, hj => h j hj
  | k + 1, j, hj => by
    have ih := hs_ind (u := u) (a := a) (b := b) (tt := tt) h k
    show (hs_1 u a b tt k (hs_n u a b tt z k)).2 j = (hs_1 u a b tt k (hs_n u a b tt z' k)).2 j
    generalize hs_n u a b tt z k = y at ih ⊢
    generalize hs_n u a b tt z' k = y' at ih ⊢
    show shAdd y.2 (shG (scG (fsG u a b tt (64 * k) y.1 16) 48) (sh0 y.2) 64) j = shAdd y'.2 (shG (scG (fsG u a b tt (64 * k) y'.1 16) 48) (sh0 y'.2) 64) j
    have e0 : sh0 y.2 = sh0 y'.2 := by
      unfold sh0
      rw [ih 0 (by decide), ih 1 (by decide), ih 2 (by decide), ih 3 (by decide), ih 4 (by decide), ih 5 (by decide), ih 6 (by decide), ih 7 (by decide)]
    rw [e0, shG_ind 64 (fun q hq => scG_ind (fun p hp => fsG_ind (g := y.1) (g' := y'.1) 16 p hp) 48 q (by omega))]
    exact shAdd_ind ih j hj
def s0G : Nat → Int32 := fun j => sv_START.getD j 0
def r0G : Nat → Int32 := fun j => sv_ROUND.getD j 0
/-- the hash: its words -/
def hsV (u : Nat → Nat) (a b : Nat) : Nat → Int32 := (hs_n u a b (64 * hs_b (b - a)) (fun _ => 0, s0G) (hs_b (b - a))).2
theorem hsV_c {u : Nat → Nat} {a b j : Nat} {g f : Nat → Int32} (hj : j < 8) : (hs_f u a b g f).2 j = hsV u a b j := by
  unfold hs_f hsV
  refine hs_ind (fun k hk => ?_) _ _ hj
  unfold va_cpy
  dsimp only
  rcases lt8 hk with rfl | rfl | rfl | rfl | rfl | rfl | rfl | rfl <;> rfl
theorem hsV_r {u : Nat → Nat} {a b j : Nat} {g f : Nat → Int32} (hj : j < 8) : (hs_n u a b (64 * hs_b (b - a)) (g, stG s0G f 8) (hs_b (b - a))).2 j = hsV u a b j := by
  unfold hsV
  exact hs_ind (fun k hk => stG_lt hk) _ _ hj
