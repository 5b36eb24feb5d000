/-! Times, continued: what the reference's loops come to, and the class' form. -/
theorem nI_64 {k : Nat} (h : k < 2 ^ 31) : (nI k).toInt64 = Int64.ofInt (k : Int) := by
  have e : nI k = Int32.ofInt (k : Int) := (Int32.ofInt_eq_ofNat (n := k)).symm
  rw [e]
  exact Int32.toInt64_ofInt (by rw [show Int32.minValue.toInt = -2147483648 from by decide]; omega) (by rw [show Int32.maxValue.toInt = 2147483647 from by decide]; omega)
noncomputable def tmE {β : Type} (u : Nat → Nat) (Y : Int32) (b : Nat) (g : Int64 → Nat ⊕ β) : Nat ⊕ β :=
  eb (loopE (α := Nat × Int64) (fun s => (.inr (s.1 + 1, s.2 + yln s.1) : Nat ⊕ (Nat × Int64))) (fun s => ¬ (Y.toNatClampNeg ≤ s.1)) Y.toNatClampNeg (1970, 0)) (fun s416 => eb (loopE (α := Nat × Int64) (fun s => (.inr (s.1 + 1, s.2 - yln s.1) : Nat ⊕ (Nat × Int64))) (fun s => ¬ (1970 ≤ s.1)) 1970 (Y.toNatClampNeg, s416.2)) (fun s471 => eb (loopE (α := Nat × Int64) (fun s => (.inr (s.1 + 1, s.2 + mdn (lpI Y) s.1) : Nat ⊕ (Nat × Int64))) (fun s => ¬ ((tw u b).toNatClampNeg ≤ s.1)) (tw u b).toNatClampNeg (1, s471.2)) (fun s526 => g s526.2)))
theorem r64e (X Z P c : Int64) : 0 + (X - Z) - (X - P) + (c - 0) = P - Z + c := by grind
theorem tmE_v {β : Type} {u : Nat → Nat} {y b : Nat} (hy1 : 1 ≤ y) (hy : y < 2 ^ 31) (h0 : d2 u b) (hm1 : 1 ≤ tN u b) (hm2 : tN u b ≤ 12) (g : Int64 → Nat ⊕ β) : tmE u (nI y) b g = g (Int64.ofInt (ydI y) - Int64.ofInt (ydI 1970) + cmn (lpI (nI y)) (tN u b)) := by
  unfold tmE
  rw [nI_clamp hy, tw_y h0, nI_clamp (by omega)]
  rw [eb_ok (yr_up y y 1970 0 (by decide) (by omega)), eb_ok (yr_dn 1970 1970 y _ hy1 (by omega)), eb_ok (mo_up _ (tN u b) hm2 (tN u b) 1 _ (Nat.le_refl _) hm1 (by omega)), cm_1]
  dsimp only
  rw [Nat.max_comm 1970 y, r64e]
theorem nI_dv (a k : Nat) (ha : a < 2 ^ 31) (hk : 1 ≤ k) (hk2 : k < 2 ^ 31) : nI a / nI k = nI (a / k) := by
  apply Int32.toInt_inj.mp
  have e : ∀ n : Nat, n < 2 ^ 31 → (nI n).toInt = (n : Int) := fun n hn => Int32.toInt_ofNat_of_lt hn
  have hlt : a / k < 2 ^ 31 := Nat.lt_of_le_of_lt (Nat.div_le_self _ _) ha
  rw [Int32.toInt_div, e a ha, e k hk2, e _ hlt, ← Int.ofNat_tdiv]
  generalize a / k = d at hlt ⊢
  exact Int.bmod_eq_of_le (by omega) (by omega)
theorem ly_v {y M : Nat} (hM2 : M ≤ 12) : lyI (nI y) (nI M) = @ite _ (2 < M ∧ lpI (nI y)) (Classical.propDecidable _) 1 0 := by
  unfold lyI
  have e : ((2 : Int32) < nI M) ↔ 2 < M := nI_ltI (a := 2) (by omega) (by omega)
  by_cases h : 2 < M ∧ lpI (nI y)
  · rw [if_pos h]
    exact (zP_t ⟨e.mpr h.1, h.2⟩).symm
  · rw [if_neg h]
    exact (zP_f (fun q => h ⟨e.mp q.1, q.2⟩)).symm
theorem ms_d1 : ∀ k, k < 13 → 1 ≤ k → ∃ t : Nat, t < 400 ∧ msI (nI k - 1) = nI t ∧ cmT k = Int64.ofInt (t : Int) := by
  intro k h1 h2
  rcases (show k = 1 ∨ k = 2 ∨ k = 3 ∨ k = 4 ∨ k = 5 ∨ k = 6 ∨ k = 7 ∨ k = 8 ∨ k = 9 ∨ k = 10 ∨ k = 11 ∨ k = 12 by omega) with rfl | rfl | rfl | rfl | rfl | rfl | rfl | rfl | rfl | rfl | rfl | rfl
  · exact ⟨0, by decide, by decide, by decide⟩
  · exact ⟨31, by decide, by decide, by decide⟩
  · exact ⟨59, by decide, by decide, by decide⟩
  · exact ⟨90, by decide, by decide, by decide⟩
  · exact ⟨120, by decide, by decide, by decide⟩
  · exact ⟨151, by decide, by decide, by decide⟩
  · exact ⟨181, by decide, by decide, by decide⟩
  · exact ⟨212, by decide, by decide, by decide⟩
  · exact ⟨243, by decide, by decide, by decide⟩
  · exact ⟨273, by decide, by decide, by decide⟩
  · exact ⟨304, by decide, by decide, by decide⟩
  · exact ⟨334, by decide, by decide, by decide⟩
theorem r64f (a b c d t D l : Int64) : 365 * a + b - c + d + (t + D - 1 + l) - 719527 = 365 * a + b - c + d - 719527 + (t + l) + D - 1 := by grind
theorem yd_64 (y : Nat) : Int64.ofInt (ydI y) = 365 * Int64.ofInt (y : Int) + Int64.ofInt (((y - 1) / 4 : Nat) : Int) - Int64.ofInt (((y - 1) / 100 : Nat) : Int) + Int64.ofInt (((y - 1) / 400 : Nat) : Int) := by
  unfold ydI
  rw [Int64.ofInt_add, Int64.ofInt_sub, Int64.ofInt_add, Int64.ofInt_mul]
  rfl
theorem dt_v {y M D : Nat} (hy1 : 1 ≤ y) (hy : y < 10000) (hM1 : 1 ≤ M) (hM2 : M ≤ 12) (hD1 : 1 ≤ D) (hD : D ≤ 99) : dtI (nI y) (nI M) (nI D) = Int64.ofInt (ydI y) - 719527 + cmn (lpI (nI y)) M + (nI D).toInt64 - 1 := by
  have a1 : (nI M < (1 : Int32)) ↔ M < 1 := nI_ltI (b := 1) (by omega) (by omega)
  have a2 : (nI M ≤ (12 : Int32)) ↔ M ≤ 12 := nI_leI (b := 12) (by omega) (by omega)
  have c : ¬ (nI M < 1 ∨ ¬ nI M ≤ 12) := by rw [a1, a2]; omega
  unfold dtI
  rw [if_neg c]
  obtain ⟨t, ht, e2, e3⟩ := ms_d1 M (by omega) hM1
  have e1 : nI y - 1 = nI (y - 1) := pk_sub (a := y) (b := 1) hy1
  have q4 : nI (y - 1) / 4 = nI ((y - 1) / 4) := nI_dv (y - 1) 4 (by omega) (by decide) (by decide)
  have q1 : nI (y - 1) / 100 = nI ((y - 1) / 100) := nI_dv (y - 1) 100 (by omega) (by decide) (by decide)
  have q0 : nI (y - 1) / 400 = nI ((y - 1) / 400) := nI_dv (y - 1) 400 (by omega) (by decide) (by decide)
  have eL : (msI (nI M - 1) + nI D - 1 + lyI (nI y) (nI M)).toInt64 = cmT M + (nI D).toInt64 - 1 + @ite _ (2 < M ∧ lpI (nI y)) (Classical.propDecidable _) 1 0 := by
    rw [e2, ly_v hM2, nI_add, show nI (t + D) - 1 = nI (t + D - 1) from pk_sub (a := t + D) (b := 1) (by omega), e3, nI_64 (show D < 2 ^ 31 by omega)]
    by_cases h : 2 < M ∧ lpI (nI y)
    · rw [if_pos h, if_pos h, show nI (t + D - 1) + 1 = nI (t + D - 1 + 1) from nI_add _ 1, nI_64 (by omega), show ((t + D - 1 + 1 : Nat) : Int) = (t : Int) + (D : Int) - 1 + 1 by omega, Int64.ofInt_add, Int64.ofInt_sub, Int64.ofInt_add]
      rfl
    · rw [if_neg h, if_neg h, Int32.add_zero, nI_64 (by omega), show ((t + D - 1 : Nat) : Int) = (t : Int) + (D : Int) - 1 by omega, Int64.ofInt_sub, Int64.ofInt_add, Int64.add_zero]
      rfl
  rw [e1, q4, q1, q0, eL, nI_64 (show y < 2 ^ 31 by omega), nI_64 (show (y - 1) / 4 < 2 ^ 31 by omega), nI_64 (show (y - 1) / 100 < 2 ^ 31 by omega), nI_64 (show (y - 1) / 400 < 2 ^ 31 by omega), yd_64]
  unfold cmn
  exact r64f _ _ _ _ _ _ _
theorem r64g (X H I S : Int64) : ((X * 24 + H) * 60 + I) * 60 + S = (X * 24 + H) * 3600 + 60 * I + S := by grind
theorem yd_70 : Int64.ofInt (ydI 1970) = 719527 := by decide
theorem tm_parts {u : Nat → Nat} {Y : Int32} {b : Nat} (h : ¬ tBad u Y b) : d2 u b ∧ d2 u (b + 2) ∧ d2 u (b + 4) ∧ d2 u (b + 6) ∧ d2 u (b + 8) ∧ (1 ≤ tN u b ∧ tN u b ≤ 12) ∧ 1 ≤ tN u (b + 2) := by
  unfold tBad at h
  have t0 := tw_1 (Classical.byContradiction (fun q => h (Or.inr (Or.inl (fun z => q z.1)))))
  have t2 := tw_1 (Classical.byContradiction (fun q => h (Or.inr (Or.inr (Or.inl (fun z => q z.1))))))
  have t4 := tw_0 (Classical.byContradiction (fun q => h (Or.inr (Or.inr (Or.inr (Or.inl (fun z => q z.1)))))))
  have t6 := tw_0 (Classical.byContradiction (fun q => h (Or.inr (Or.inr (Or.inr (Or.inr (Or.inl (fun z => q z.1))))))))
  have t8 := tw_0 (Classical.byContradiction (fun q => h (Or.inr (Or.inr (Or.inr (Or.inr (Or.inr (fun z => q z.1))))))))
  have r0 : ¬ tw u b < 1 ∧ ¬ 12 < tw u b := Classical.byContradiction (fun q => h (Or.inr (Or.inl q)))
  have r2 : ¬ tw u (b + 2) < 1 := Classical.byContradiction (fun q => h (Or.inr (Or.inr (Or.inl (fun z => q z.1)))))
  have l0 := tN_le t0
  have l2 := tN_le t2
  rw [tw_y t0] at r0
  rw [tw_y t2] at r2
  have a1 : (nI (tN u b) < (1 : Int32)) ↔ tN u b < 1 := nI_ltI (b := 1) (by omega) (by omega)
  have a2 : ((12 : Int32) < nI (tN u b)) ↔ 12 < tN u b := nI_ltI (a := 12) (by omega) (by omega)
  have a3 : (nI (tN u (b + 2)) < (1 : Int32)) ↔ tN u (b + 2) < 1 := nI_ltI (b := 1) (by omega) (by omega)
  rw [a1, a2] at r0
  rw [a3] at r2
  exact ⟨t0, t2, t4, t6, t8, ⟨by omega, by omega⟩, by omega⟩
theorem tmV_v {u : Nat → Nat} {n a b y : Nat} {L : Prop} (hyr : yr1 u n a L = nI y) (hb : a + yoN L = b) (hy1 : 1 ≤ y) (hy : y < 10000) (hn : b + 10 < n + 1) (hB : ¬ tBad u (nI y) b) : tmV u n a L = ((((((Int64.ofInt (ydI y) - Int64.ofInt (ydI 1970) + cmn (lpI (nI y)) (tN u b)) + (tw u (b + 2)).toInt64) - 1) * 24) + (tw u (b + 4)).toInt64) * 3600 + (60 * (tw u (b + 6)).toInt64)) + (tw u (b + 8)).toInt64 := by
  obtain ⟨h0, h2, h4, h6, h8, ⟨m1, m2⟩, k1⟩ := tm_parts hB
  unfold tmV
  rw [hyr, hb, dg_y h0 (by omega), dg_y h2 (by omega), dg_y h4 (by omega), dg_y h6 (by omega), dg_y h8 (by omega), tw_y h2, tw_y h4, tw_y h6, tw_y h8, dt_v hy1 hy m1 m2 k1 (tN_le h2), r64g, yd_70]
theorem tm_yS {u : Nat → Nat} {n a : Nat} {L : Prop} (hL : ¬ L) (g0 : d2 u a) (hk : a + 1 < n) : yr1 u n a L = nI (tN u a + if 50 ≤ tN u a then 1900 else 2000) := by
  have l0 := tN_le g0
  unfold yr1 yr0
  rw [if_neg hL, if_neg hL, dg_y g0 hk]
  by_cases h5 : 50 ≤ tN u a
  · rw [if_pos h5, if_pos (show (50 : Int32) ≤ nI (tN u a) from (nI_leI (a := 50) (by omega) (by omega)).mpr h5)]
    exact nI_add _ 1900
  · rw [if_neg h5, if_neg (show ¬ (50 : Int32) ≤ nI (tN u a) from fun q => h5 ((nI_leI (a := 50) (by omega) (by omega)).mp q))]
    exact nI_add _ 2000
