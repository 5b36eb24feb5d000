/-! Times: the class' closed form is what the reference's loops come to. -/
noncomputable def yln (y : Nat) : Int64 := @ite _ ((y % 4) = 0) (Classical.propDecidable _) (@ite _ ((y % 100) = 0) (Classical.propDecidable _) (@ite _ ((y % 400) = 0) (Classical.propDecidable _) ((366 : Int64)) ((365 : Int64))) ((366 : Int64))) ((365 : Int64))
def ydI (y : Nat) : Int := 365 * (y : Int) + (((y - 1) / 4 : Nat) : Int) - (((y - 1) / 100 : Nat) : Int) + (((y - 1) / 400 : Nat) : Int)
theorem yd_step (y : Nat) (hy : 1 ≤ y) : Int64.ofInt (ydI (y + 1)) = Int64.ofInt (ydI y) + yln y := by
  unfold yln
  by_cases h4 : y % 4 = 0
  · rw [if_pos h4]
    by_cases h1 : y % 100 = 0
    · rw [if_pos h1]
      by_cases h400 : y % 400 = 0
      · rw [if_pos h400, show ydI (y + 1) = ydI y + 366 by unfold ydI; omega, Int64.ofInt_add]
        rfl
      · rw [if_neg h400, show ydI (y + 1) = ydI y + 365 by unfold ydI; omega, Int64.ofInt_add]
        rfl
    · rw [if_neg h1, show ydI (y + 1) = ydI y + 366 by unfold ydI; omega, Int64.ofInt_add]
      rfl
  · rw [if_neg h4, show ydI (y + 1) = ydI y + 365 by unfold ydI; omega, Int64.ofInt_add]
    rfl
theorem r64a (v y X Z : Int64) : v + y + (X - (Z + y)) = v + (X - Z) := by grind
theorem r64b (v y X Z : Int64) : v - y - (X - (Z + y)) = v - (X - Z) := by grind
theorem yr_up (Y : Nat) : ∀ (f a : Nat) (v : Int64), 1 ≤ a → Y ≤ a + f → loopE (α := Nat × Int64) (fun s => (.inr (s.1 + 1, s.2 + yln s.1) : Nat ⊕ (Nat × Int64))) (fun s => ¬ (Y ≤ s.1)) f (a, v) = .inr (max a Y, v + (Int64.ofInt (ydI (max a Y)) - Int64.ofInt (ydI a)))
  | 0, a, v, h1, h2 => by
    have e : max a Y = a := by omega
    rw [e, Int64.sub_self, Int64.add_zero]
    rfl
  | f + 1, a, v, h1, h2 => by
    by_cases h : Y ≤ a
    · have e : max a Y = a := by omega
      rw [e, Int64.sub_self, Int64.add_zero]
      exact if_neg (fun q => q h)
    · have e : max (a + 1) Y = max a Y := by omega
      have ih := yr_up Y f (a + 1) (v + yln a) (by omega) (by omega)
      rw [e, yd_step a h1, r64a] at ih
      exact (if_pos h).trans ih
theorem yr_dn (Y : Nat) : ∀ (f a : Nat) (v : Int64), 1 ≤ a → Y ≤ a + f → loopE (α := Nat × Int64) (fun s => (.inr (s.1 + 1, s.2 - yln s.1) : Nat ⊕ (Nat × Int64))) (fun s => ¬ (Y ≤ s.1)) f (a, v) = .inr (max a Y, v - (Int64.ofInt (ydI (max a Y)) - Int64.ofInt (ydI a)))
  | 0, a, v, h1, h2 => by
    have e : max a Y = a := by omega
    rw [e, Int64.sub_self, Int64.sub_zero]
    rfl
  | f + 1, a, v, h1, h2 => by
    by_cases h : Y ≤ a
    · have e : max a Y = a := by omega
      rw [e, Int64.sub_self, Int64.sub_zero]
      exact if_neg (fun q => q h)
    · have e : max (a + 1) Y = max a Y := by omega
      have ih := yr_dn Y f (a + 1) (v - yln a) (by omega) (by omega)
      rw [e, yd_step a h1, r64b] at ih
      exact (if_pos h).trans ih
noncomputable def mdn (Q : Prop) (m : Nat) : Int64 := @ite _ (m = 2) (Classical.propDecidable _) (@ite _ Q (Classical.propDecidable _) ((29 : Int64)) ((28 : Int64))) (@ite _ (m = 4) (Classical.propDecidable _) ((30 : Int64)) (@ite _ (m = 6) (Classical.propDecidable _) ((30 : Int64)) (@ite _ (m = 9) (Classical.propDecidable _) ((30 : Int64)) (@ite _ (m = 11) (Classical.propDecidable _) ((30 : Int64)) ((31 : Int64))))))
def cmT (m : Nat) : Int64 := ([0, 0, 31, 59, 90, 120, 151, 181, 212, 243, 273, 304, 334] : List Int64).getD m 0
noncomputable def cmn (Q : Prop) (m : Nat) : Int64 := cmT m + @ite _ (2 < m ∧ Q) (Classical.propDecidable _) 1 0
theorem mdn_n {Q : Prop} {m : Nat} (h : ¬ m = 2) : mdn Q m = if m = 4 then 30 else if m = 6 then 30 else if m = 9 then 30 else if m = 11 then 30 else 31 := by
  unfold mdn
  rw [if_neg h]
  by_cases q4 : m = 4
  · rw [if_pos q4, if_pos q4]
  · rw [if_neg q4, if_neg q4]
    by_cases q6 : m = 6
    · rw [if_pos q6, if_pos q6]
    · rw [if_neg q6, if_neg q6]
      by_cases q9 : m = 9
      · rw [if_pos q9, if_pos q9]
      · rw [if_neg q9, if_neg q9]
        by_cases q11 : m = 11
        · rw [if_pos q11, if_pos q11]
        · rw [if_neg q11, if_neg q11]
theorem cm_t : ∀ m, m < 12 → 1 ≤ m → ¬ m = 2 → cmT (m + 1) = cmT m + (if m = 4 then 30 else if m = 6 then 30 else if m = 9 then 30 else if m = 11 then 30 else 31) := by decide
theorem r64c (a b c : Int64) : a + b + c = a + c + b := by grind
theorem cm_step (Q : Prop) (m : Nat) (h1 : 1 ≤ m) (h2 : m < 12) : cmn Q (m + 1) = cmn Q m + mdn Q m := by
  by_cases h : m = 2
  · subst h
    unfold cmn mdn
    rw [if_pos rfl, if_neg (fun q : 2 < 2 ∧ Q => absurd q.1 (by decide))]
    by_cases hQ : Q
    · rw [if_pos ⟨by decide, hQ⟩, if_pos hQ]
      decide
    · rw [if_neg (fun q => hQ q.2), if_neg hQ]
      decide
  · rw [mdn_n h]
    unfold cmn
    rw [cm_t m h2 h1 h, r64c]
    congr 1
    by_cases hm : 2 < m
    · by_cases hQ : Q
      · rw [if_pos ⟨by omega, hQ⟩, if_pos ⟨hm, hQ⟩]
      · rw [if_neg (fun q => hQ q.2), if_neg (fun q => hQ q.2)]
    · rw [if_neg (fun q : 2 < m + 1 ∧ Q => by have := q.1; omega), if_neg (fun q : 2 < m ∧ Q => hm q.1)]
theorem r64d (v d C A : Int64) : v + d + (C - (A + d)) = v + (C - A) := by grind
theorem mo_up (Q : Prop) (M : Nat) (hM : M ≤ 12) : ∀ (f a : Nat) (v : Int64), 1 ≤ a → a ≤ M → M ≤ a + f → loopE (α := Nat × Int64) (fun s => (.inr (s.1 + 1, s.2 + mdn Q s.1) : Nat ⊕ (Nat × Int64))) (fun s => ¬ (M ≤ s.1)) f (a, v) = .inr (M, v + (cmn Q M - cmn Q a))
  | 0, a, v, h1, h3, h2 => by
    obtain rfl : a = M := by omega
    rw [Int64.sub_self, Int64.add_zero]
    rfl
  | f + 1, a, v, h1, h3, h2 => by
    by_cases h : M ≤ a
    · obtain rfl : a = M := by omega
      rw [Int64.sub_self, Int64.add_zero]
      exact if_neg (fun q => q h)
    · have ih := mo_up Q M hM f (a + 1) (v + mdn Q a) (by omega) (by omega) (by omega)
      rw [cm_step Q a h1 (by omega), r64d] at ih
      exact (if_pos h).trans ih
theorem cm_1 (Q : Prop) : cmn Q 1 = 0 := by
  unfold cmn
  rw [if_neg (fun q : 2 < 1 ∧ Q => absurd q.1 (by decide))]
  decide
