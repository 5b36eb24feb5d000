/-! The class' readers and the reference's: times. -/
theorem loopE_in {α : Type} {B : α → Nat ⊕ α} {M : α → Prop} (h : ∀ s, ∃ s', B s = .inr s') : ∀ (f : Nat) (s : α), ∃ s', loopE B M f s = .inr s'
  | 0, s => ⟨s, rfl⟩
  | f + 1, s => by
    by_cases hM : M s
    · obtain ⟨s1, h1⟩ := h s
      obtain ⟨s2, h2⟩ := loopE_in h f s1
      exact ⟨s2, (if_pos hM).trans ((eb_ok h1).trans h2)⟩
    · exact ⟨s, if_neg hM⟩
theorem agr.lp {α β : Type} {y : rS} {P : β → Prop} {B : α → Nat ⊕ α} {M : α → Prop} {f : Nat} {s : α} {g : α → Nat ⊕ β} (h : ∀ s, ∃ s', B s = .inr s') (k : ∀ s', agr y (g s') P) : agr y (eb (loopE B M f s) g) P := by
  obtain ⟨s', e⟩ := loopE_in (M := M) h f s
  exact agr.ok e (k s')
def d2 (u : Nat → Nat) (k : Nat) : Prop := (48 ≤ u k ∧ u k ≤ 57) ∧ 48 ≤ u (k + 1) ∧ u (k + 1) ≤ 57
def tN (u : Nat → Nat) (k : Nat) : Nat := 10 * (u k - 48) + u (k + 1) - 48
theorem tw_y {u : Nat → Nat} {k : Nat} (h : d2 u k) : tw u k = nI (tN u k) := if_pos h
theorem tw_n {u : Nat → Nat} {k : Nat} (h : ¬ d2 u k) : tw u k = -1 := if_neg h
theorem tN_le {u : Nat → Nat} {k : Nat} (h : d2 u k) : tN u k ≤ 99 := by unfold d2 at h; unfold tN; omega
theorem tw_0 {u : Nat → Nat} {k : Nat} (h : ¬ tw u k < 0) : d2 u k := Classical.byContradiction (fun q => h (by rw [tw_n q]; decide))
theorem tw_1 {u : Nat → Nat} {k : Nat} (h : ¬ tw u k < 1) : d2 u k := Classical.byContradiction (fun q => h (by rw [tw_n q]; decide))
theorem tw_0' {u : Nat → Nat} {k : Nat} (h : d2 u k) : ¬ tw u k < 0 := by
  rw [tw_y h]
  exact nI_pos (by have := tN_le h; omega)
theorem dg_y {u : Nat → Nat} {n k : Nat} (h : d2 u k) (hk : k + 1 < n) : dg u n k = nI (tN u k) := by
  unfold dg
  rw [oc_in' hk, oc_in' (show k < n by omega)]
  have h1 : nI (u k) - 48 = nI (u k - 48) := pk_sub (a := u k) (b := 48) h.1.1
  have h2 : nI (u k - 48) * 10 = nI ((u k - 48) * 10) := nI_mul _ 10
  rw [h1, h2, nI_add]
  have h3 : nI ((u k - 48) * 10 + u (k + 1)) - 48 = nI ((u k - 48) * 10 + u (k + 1) - 48) := pk_sub (a := (u k - 48) * 10 + u (k + 1)) (b := 48) (by have := h.2.1; omega)
  rw [h3]
  unfold tN
  congr 1
  omega
noncomputable def vdN (Y m : Int32) : Nat := (@ite _ (m = (2 : Int32)) (Classical.propDecidable _) (@ite _ (((Y - Y / 4 * 4) = (0 : Int32)) ∧ (¬ ((Y - Y / 100 * 100) = (0 : Int32)) ∨ ((Y - Y / 400 * 400) = (0 : Int32)))) (Classical.propDecidable _) (29) (28)) (@ite _ (m = (4 : Int32)) (Classical.propDecidable _) (30) (@ite _ (m = (6 : Int32)) (Classical.propDecidable _) (30) (@ite _ (m = (9 : Int32)) (Classical.propDecidable _) (30) (@ite _ (m = (11 : Int32)) (Classical.propDecidable _) (30) (31))))))
noncomputable def tBad (u : Nat → Nat) (Y : Int32) (b : Nat) : Prop := ((Y < (0 : Int32)) ∨ (¬ (¬ (tw u b) < (1 : Int32) ∧ ¬ (12 : Int32) < (tw u b)) ∨ (¬ (¬ (tw u (b + 2)) < (1 : Int32) ∧ ¬ (nI (vdN Y (tw u b))) < (tw u (b + 2))) ∨ (¬ (¬ (tw u (b + 4)) < (0 : Int32) ∧ ¬ (23 : Int32) < (tw u (b + 4))) ∨ (¬ (¬ (tw u (b + 6)) < (0 : Int32) ∧ ¬ (59 : Int32) < (tw u (b + 6))) ∨ (¬ (¬ (tw u (b + 8)) < (0 : Int32) ∧ ¬ (59 : Int32) < (tw u (b + 8)))))))))
theorem ms_d : ∀ k, k < 13 → 1 ≤ k → msI (nI k) - msI (nI k - 1) = nI (if k = 2 then 28 else if k = 4 then 30 else if k = 6 then 30 else if k = 9 then 30 else if k = 11 then 30 else 31) := by decide
theorem vd_eq (Y : Int32) : ∀ k, k < 13 → 1 ≤ k → mdI Y (nI k) = nI (vdN Y (nI k)) := by
  intro k h1 h2
  have hm := ms_d k h1 h2
  have e2 : (nI k = (2 : Int32)) ↔ k = 2 := nI_eq (b := 2) (by omega) (by omega)
  have e4 : (nI k = (4 : Int32)) ↔ k = 4 := nI_eq (b := 4) (by omega) (by omega)
  have e6 : (nI k = (6 : Int32)) ↔ k = 6 := nI_eq (b := 6) (by omega) (by omega)
  have e9 : (nI k = (9 : Int32)) ↔ k = 9 := nI_eq (b := 9) (by omega) (by omega)
  have e11 : (nI k = (11 : Int32)) ↔ k = 11 := nI_eq (b := 11) (by omega) (by omega)
  by_cases k2 : k = 2
  · by_cases hl : lpI Y
    · rw [mdI_1 (e2.mpr k2) hl, hm, if_pos k2]
      unfold vdN
      rw [if_pos (e2.mpr k2), if_pos (show Y - Y / 4 * 4 = 0 ∧ (¬ Y - Y / 100 * 100 = 0 ∨ Y - Y / 400 * 400 = 0) from hl)]
      decide
    · rw [mdI_2 (fun q => hl q.2), hm, if_pos k2]
      unfold vdN
      rw [if_pos (e2.mpr k2), if_neg (show ¬ (Y - Y / 4 * 4 = 0 ∧ (¬ Y - Y / 100 * 100 = 0 ∨ Y - Y / 400 * 400 = 0)) from hl)]
  · rw [mdI_2 (fun q => k2 (e2.mp q.1)), hm, if_neg k2]
    unfold vdN
    rw [if_neg (fun q => k2 (e2.mp q))]
    by_cases k4 : k = 4
    · rw [if_pos k4, if_pos (e4.mpr k4)]
    · rw [if_neg k4, if_neg (fun q => k4 (e4.mp q))]
      by_cases k6 : k = 6
      · rw [if_pos k6, if_pos (e6.mpr k6)]
      · rw [if_neg k6, if_neg (fun q => k6 (e6.mp q))]
        by_cases k9 : k = 9
        · rw [if_pos k9, if_pos (e9.mpr k9)]
        · rw [if_neg k9, if_neg (fun q => k9 (e9.mp q))]
          by_cases k11 : k = 11
          · rw [if_pos k11, if_pos (e11.mpr k11)]
          · rw [if_neg k11, if_neg (fun q => k11 (e11.mp q))]
theorem vd_le (Y m : Int32) : vdN Y m ≤ 31 := by
  unfold vdN
  split
  · split <;> decide
  · split
    · decide
    · split
      · decide
      · split
        · decide
        · split <;> decide
theorem tm_core {u : Nat → Nat} {n b y : Nat} {Y : Int32} (hY : Y = nI y) (hy : y < 2 ^ 31) (hn : b + 10 < n + 1) (h0 : d2 u b) (h2 : d2 u (b + 2)) (h4 : d2 u (b + 4)) (h6 : d2 u (b + 6)) (h8 : d2 u (b + 8)) : (tmD u n b ∧ dayI Y (dg u n b) (dg u n (b + 2))) ↔ ¬ tBad u Y b := by
  unfold tmD dayI tBad
  rw [dg_y h0 (by omega), dg_y h2 (by omega), dg_y h4 (by omega), dg_y h6 (by omega), dg_y h8 (by omega), tw_y h0, tw_y h2, tw_y h4, tw_y h6, tw_y h8]
  have l0 := tN_le h0
  have l2 := tN_le h2
  have l4 := tN_le h4
  have l6 := tN_le h6
  have l8 := tN_le h8
  have hYn : ¬ Y < 0 := by rw [hY]; exact nI_pos hy
  generalize tN u b = M at *
  generalize tN u (b + 2) = D at *
  generalize tN u (b + 4) = H at *
  generalize tN u (b + 6) = I at *
  generalize tN u (b + 8) = S at *
  have a1 : (nI M < (1 : Int32)) ↔ M < 1 := nI_ltI (b := 1) (by omega) (by omega)
  have a2 : (nI M ≤ (12 : Int32)) ↔ M ≤ 12 := nI_leI (b := 12) (by omega) (by omega)
  have a3 : ((12 : Int32) < nI M) ↔ 12 < M := nI_ltI (a := 12) (by omega) (by omega)
  have a4 : (nI D < (1 : Int32)) ↔ D < 1 := nI_ltI (b := 1) (by omega) (by omega)
  have a5 : (nI H < (0 : Int32)) ↔ H < 0 := nI_ltI (b := 0) (by omega) (by omega)
  have a6 : (nI I < (0 : Int32)) ↔ I < 0 := nI_ltI (b := 0) (by omega) (by omega)
  have a7 : (nI S < (0 : Int32)) ↔ S < 0 := nI_ltI (b := 0) (by omega) (by omega)
  have a8 : ((23 : Int32) < nI H) ↔ 23 < H := nI_ltI (a := 23) (by omega) (by omega)
  have a9 : ((59 : Int32) < nI I) ↔ 59 < I := nI_ltI (a := 59) (by omega) (by omega)
  have a10 : ((59 : Int32) < nI S) ↔ 59 < S := nI_ltI (a := 59) (by omega) (by omega)
  have a11 : ((24 : Int32) ≤ nI H) ↔ 24 ≤ H := nI_leI (a := 24) (by omega) (by omega)
  have a12 : ((60 : Int32) ≤ nI I) ↔ 60 ≤ I := nI_leI (a := 60) (by omega) (by omega)
  have a13 : ((60 : Int32) ≤ nI S) ↔ 60 ≤ S := nI_leI (a := 60) (by omega) (by omega)
  rw [a1, a2, a3, a4, a5, a6, a7, a8, a9, a10, a11, a12, a13]
  by_cases hM : 1 ≤ M ∧ M ≤ 12
  · rw [vd_eq Y M (by omega) hM.1]
    have hv := vd_le Y (nI M)
    have a14 : (nI D ≤ nI (vdN Y (nI M))) ↔ D ≤ vdN Y (nI M) := nI_leI (by omega) (by omega)
    have a15 : (nI (vdN Y (nI M)) < nI D) ↔ vdN Y (nI M) < D := nI_ltI (by omega) (by omega)
    rw [a14, a15]
    constructor
    · rintro ⟨⟨c1, c2, c3⟩, ⟨c4, c5, c6⟩, c7⟩ q
      rcases q with q | q
      · exact hYn q
      · omega
    · intro q
      have q : ¬ (_ ∨ _) := fun z => q (Or.inr z)
      omega
  · constructor
    · rintro ⟨_, ⟨c4, c5, c6⟩, c7⟩
      omega
    · intro q
      exfalso
      exact q (Or.inr (Or.inl (by omega)))
/-- twelve or fourteen digits -/
theorem dig_d2 {u : Nat → Nat} {n a z k : Nat} (h : digsN u n a z) (h1 : a ≤ k) (h2 : k + 1 < z) : d2 u k := ⟨(h k h1 (by omega)).2, (h (k + 1) (by omega) h2).2⟩
theorem d2_dig {u : Nat → Nat} {n a : Nat} : ∀ (m : Nat), a + 2 * m ≤ n → (∀ i, i < m → d2 u (a + 2 * i)) → digsN u n a (a + 2 * m)
  | 0, _, _ => fun j h1 h2 => by omega
  | m + 1, hn, h => by
    intro j h1 h2
    by_cases hj : j < a + 2 * m
    · exact d2_dig m (by omega) (fun i hi => h i (by omega)) j h1 hj
    · have hd := h m (by omega)
      by_cases hj2 : j = a + 2 * m
      · subst hj2; exact ⟨by omega, hd.1⟩
      · have e : j = a + 2 * m + 1 := by omega
        subst e
        exact ⟨by omega, hd.2⟩
theorem tm_L {u : Nat → Nat} {n a z : Nat} {L : Prop} (hL : L) (hu : ∀ j, u j < 256) (hz : z ≤ n) (he : z = a + 15) (h9 : u (z - 1) = 90) : tmOK u n a z L ↔ (d2 u a ∧ d2 u (a + 2) ∧ 2050 ≤ 100 * tN u a + tN u (a + 2) ∧ ¬ tBad u (nI (100 * tN u a + tN u (a + 2))) (a + 2 + 2)) := by
  have ey : yoN L = 4 := if_pos hL
  have eb4 : a + 2 + 2 = a + 4 := rfl
  unfold tmOK tmW
  rw [ey, eb4]
  have h90 : oc u n (z - 1) = 90 := by
    rw [oc_in' (show z - 1 < n by omega), h9]
    rfl
  constructor
  · rintro ⟨⟨c1, c2, c3⟩, c4, c5, c6⟩
    have g0 : d2 u a := dig_d2 c2 (Nat.le_refl _) (by omega)
    have g2 : d2 u (a + 2) := dig_d2 c2 (by omega) (by omega)
    have l0 := tN_le g0
    have l2 := tN_le g2
    have eY : yr1 u n a L = nI (100 * tN u a + tN u (a + 2)) := by
      unfold yr1 yr0
      rw [if_pos hL, dg_y g0 (by omega), dg_y g2 (by omega), if_pos hL]
      rw [show (100 : Int32) = nI 100 from rfl, nI_mul, nI_add]
      congr 1
      omega
    rw [eY] at c5 c6
    refine ⟨g0, g2, ?_, (tm_core rfl (by omega) (by omega) (dig_d2 c2 (by omega) (by omega)) (dig_d2 c2 (by omega) (by omega)) (dig_d2 c2 (by omega) (by omega)) (dig_d2 c2 (by omega) (by omega)) (dig_d2 c2 (by omega) (by omega))).mp ⟨c4, c5⟩⟩
    have c6 := c6.elim (fun q => absurd hL q) id
    rw [show (2050 : Int32) = nI 2050 from rfl, nI_ltI (by omega) (by omega)] at c6
    omega
  · rintro ⟨g0, g2, c6, c5⟩
    have l0 := tN_le g0
    have l2 := tN_le g2
    have hb : ¬ tBad u (nI (100 * tN u a + tN u (a + 2))) (a + 4) := c5
    unfold tBad at c5
    have t0 := tw_1 (Classical.byContradiction (fun q => c5 (Or.inr (Or.inl (fun z => q z.1)))))
    have t2 := tw_1 (Classical.byContradiction (fun q => c5 (Or.inr (Or.inr (Or.inl (fun z => q z.1))))))
    have t4 := tw_0 (Classical.byContradiction (fun q => c5 (Or.inr (Or.inr (Or.inr (Or.inl (fun z => q z.1)))))))
    have t6 := tw_0 (Classical.byContradiction (fun q => c5 (Or.inr (Or.inr (Or.inr (Or.inr (Or.inl (fun z => q z.1))))))))
    have t8 := tw_0 (Classical.byContradiction (fun q => c5 (Or.inr (Or.inr (Or.inr (Or.inr (Or.inr (fun z => q z.1))))))))
    have hd : digsN u n a (a + 2 * 7) := d2_dig 7 (by omega) (fun i hi => by
      rcases (show i = 0 ∨ i = 1 ∨ i = 2 ∨ i = 3 ∨ i = 4 ∨ i = 5 ∨ i = 6 by omega) with e | e | e | e | e | e | e <;> subst e
      · exact g0
      · exact g2
      · exact t0
      · exact t2
      · exact t4
      · exact t6
      · exact t8)
    have eY : yr1 u n a L = nI (100 * tN u a + tN u (a + 2)) := by
      unfold yr1 yr0
      rw [if_pos hL, dg_y g0 (by omega), dg_y g2 (by omega), if_pos hL]
      rw [show (100 : Int32) = nI 100 from rfl, nI_mul, nI_add]
      congr 1
      omega
    have hc := (tm_core (n := n) rfl (by omega) (by omega) t0 t2 t4 t6 t8).mpr hb
    refine ⟨⟨by omega, ?_, h90⟩, hc.1, by rw [eY]; exact hc.2, Or.inr ?_⟩
    · rw [show z - 1 = a + 2 * 7 by omega]; exact hd
    · rw [eY, show (2050 : Int32) = nI 2050 from rfl, nI_ltI (by omega) (by omega)]
      omega
theorem tm_S {u : Nat → Nat} {n a z : Nat} {L : Prop} (hL : ¬ L) (hu : ∀ j, u j < 256) (hz : z ≤ n) (he : z = a + 13) (h9 : u (z - 1) = 90) : tmOK u n a z L ↔ (d2 u a ∧ ¬ tBad u (nI (tN u a + if 50 ≤ tN u a then 1900 else 2000)) (a + 2)) := by
  have ey : yoN L = 2 := if_neg hL
  unfold tmOK tmW
  rw [ey]
  have h90 : oc u n (z - 1) = 90 := by
    rw [oc_in' (show z - 1 < n by omega), h9]
    rfl
  have eY : d2 u a → yr1 u n a L = nI (tN u a + if 50 ≤ tN u a then 1900 else 2000) := fun g0 => by
    have l0 := tN_le g0
    unfold yr1 yr0
    rw [if_neg hL, if_neg hL, dg_y g0 (by omega)]
    by_cases h5 : 50 ≤ tN u a
    · rw [if_pos h5, if_pos (show (50 : Int32) ≤ nI (tN u a) from (nI_leI (a := 50) (by omega) (by omega)).mpr h5), show (1900 : Int32) = nI 1900 from rfl, nI_add]
    · rw [if_neg h5, if_neg (show ¬ (50 : Int32) ≤ nI (tN u a) from fun q => h5 ((nI_leI (a := 50) (by omega) (by omega)).mp q)), show (2000 : Int32) = nI 2000 from rfl, nI_add]
  have lY : ∀ k : Nat, (if 50 ≤ k then 1900 else 2000) ≤ 2000 := fun k => by split <;> decide
  constructor
  · rintro ⟨⟨c1, c2, c3⟩, c4, c5, c6⟩
    have g0 : d2 u a := dig_d2 c2 (Nat.le_refl _) (by omega)
    have l0 := tN_le g0
    have lk := lY (tN u a)
    rw [eY g0] at c5
    refine ⟨g0, (tm_core rfl (by omega) (by omega) (dig_d2 c2 (by omega) (by omega)) (dig_d2 c2 (by omega) (by omega)) (dig_d2 c2 (by omega) (by omega)) (dig_d2 c2 (by omega) (by omega)) (dig_d2 c2 (by omega) (by omega))).mp ⟨c4, c5⟩⟩
  · rintro ⟨g0, c5⟩
    have l0 := tN_le g0
    have lk := lY (tN u a)
    have hb := c5
    unfold tBad at c5
    have t0 := tw_1 (Classical.byContradiction (fun q => c5 (Or.inr (Or.inl (fun z => q z.1)))))
    have t2 := tw_1 (Classical.byContradiction (fun q => c5 (Or.inr (Or.inr (Or.inl (fun z => q z.1))))))
    have t4 := tw_0 (Classical.byContradiction (fun q => c5 (Or.inr (Or.inr (Or.inr (Or.inl (fun z => q z.1)))))))
    have t6 := tw_0 (Classical.byContradiction (fun q => c5 (Or.inr (Or.inr (Or.inr (Or.inr (Or.inl (fun z => q z.1))))))))
    have t8 := tw_0 (Classical.byContradiction (fun q => c5 (Or.inr (Or.inr (Or.inr (Or.inr (Or.inr (fun z => q z.1))))))))
    have hd : digsN u n a (a + 2 * 6) := d2_dig 6 (by omega) (fun i hi => by
      rcases (show i = 0 ∨ i = 1 ∨ i = 2 ∨ i = 3 ∨ i = 4 ∨ i = 5 by omega) with e | e | e | e | e | e <;> subst e
      · exact g0
      · exact t0
      · exact t2
      · exact t4
      · exact t6
      · exact t8)
    have hc := (tm_core (n := n) rfl (by omega) (by omega) t0 t2 t4 t6 t8).mpr hb
    refine ⟨⟨by omega, ?_, h90⟩, hc.1, by rw [eY g0]; exact hc.2, Or.inl hL⟩
    rw [show z - 1 = a + 2 * 6 by omega]; exact hd
theorem time_stk (u : Nat → Nat) (n : Nat) (x : rS) (en : Nat) : stk x (rd_time u n x en).1 := (opn_stk u n x _ en).tr (lea_stk _ _ _)
theorem tm_len {u : Nat → Nat} {n a z : Nat} {L : Prop} (hu : ∀ j, u j < 256) (hz : z ≤ n) (h : tmOK u n a z L) : z = a + yoN L + 11 ∧ u (z - 1) = 90 := by
  refine ⟨h.1.1, ?_⟩
  have h1 := h.1.1
  have h2 := h.1.2.2
  rw [oc_in' (show z - 1 < n by omega), show (90 : Int32) = nI 90 from rfl, nI_eq (by have := hu (z - 1); omega) (by omega)] at h2
  exact h2
