/-! The class' readers and the reference's: certificates. -/
theorem i2c (c : Nat) (C : Int64) (hC : C.toInt = (c : Int)) (x : Int64) : ((lg_cmp x C) = (0 : Int32)) ↔ ((c : Int) ≤ x.toInt ∧ x.toInt ≤ (c : Int)) := by
  rw [lg_cmp_eq, ← Int64.toInt_inj, hC]
  omega
theorem hdC_stk (u : Nat → Nat) (n : Nat) (x : rS) (en : Nat) : stk x (rd_hdC u n x en).1 := by
  unfold rd_hdC
  dsimp only
  exact ((opn_stk u n _ 160 _).tr ((nm_stk u n _ 2 _).tr ((req_stk _ _).tr ((fin_stk _ _).tr ((ser_stk u n _ _).tr ((alg_stk u n _ 11 _).tr ((fnm_stk u n _ _).tr ((opn_stk u n _ 48 _).tr ((time_stk u n _ _).tr ((time_stk u n _ _).tr ((fin_stk _ _).tr (nam_stk u n _ _))))))))))))
noncomputable def tx_hd {β : Type} (u : Nat → Nat) (p en : Nat) (F : Nat × Nat → Nat → Nat × Nat → Nat × Nat → Nat × Int64 → Nat × Int64 → Nat × Nat × Nat → Nat ⊕ β) : Nat ⊕ β := (eb (tx_element u p 160 en) (fun z5 => (eb (tx_number u z5.1 z5.2 (2 : Int32) (2 : Int32)) (fun z30 => (eb (tx_done u z30.2 z5.2) (fun z38 => (eb (tx_serial u z5.2 en) (fun z46 => (eb (tx_algorithm u z46.2 en kz1.2.2.2) (fun z75 => (eb (tx_issuer u z75 en) (fun z83 => (eb (tx_element u z83.1 48 en) (fun z95 => (eb (tx_time u z95.1 z95.2) (fun z118 => (eb (tx_time u z118.1 z95.2) (fun z136 => (eb (tx_done u z136.1 z95.2) (fun z154 => (eb (tx_name u z95.2 en) (fun z162 => F z46 z75 z83 z95 z118 z136 z162))))))))))))))))))))))
theorem hdC_q {β : Type} {u : Nat → Nat} (hu : ∀ j, u j < 256) {n p s en : Nat} (he : en ≤ n) (hn : n ≤ 2048) {y : rS} {P : β → Prop} {F : Nat × Nat → Nat → Nat × Nat → Nat × Nat → Nat × Int64 → Nat × Int64 → Nat × Nat × Nat → Nat ⊕ β} (hs : stk (rd_hdC u n (p, s, none) en).1 y) (hk : ∀ z46 z75 z83 z95 z118 z136 z162 s' i1 i2 s1, rd_hdC u n (p, s, none) en = ((z162.2.2, s', none), z46.1, z46.2, i1, i2, s1, z162.2.2, z162.2.1, nI z162.2.1, zP (z162.2.2 - s1 = i2 - i1 ∧ eqN u u s1 i1 (z162.2.2 - s1)), z118.2, z136.2) → z162.1 = z162.2.2 → p + 2 ≤ z162.2.2 → z162.2.2 ≤ en → z46.1 < z46.2 → z46.2 ≤ en → agr y (F z46 z75 z83 z95 z118 z136 z162) P) : agr y (tx_hd u p en F) P := by
  unfold tx_hd
  unfold rd_hdC at hs hk
  dsimp only at hs hk
  refine agr.step (el_q (u := u) (n := n) (p := p) (s := s) (tg := 160) (en := en) he) (((nm_stk u n _ 2 _).tr ((req_stk _ _).tr ((fin_stk _ _).tr ((ser_stk u n _ _).tr ((alg_stk u n _ 11 _).tr ((fnm_stk u n _ _).tr ((opn_stk u n _ 48 _).tr ((time_stk u n _ _).tr ((time_stk u n _ _).tr ((fin_stk _ _).tr (nam_stk u n _ _))))))))))).tr hs) (fun z5 hz5 hn1 hq1 => ?_)
  obtain ⟨a1, a2, a3, a4, a5⟩ := hq1
  rw [a1] at hs hk
  dsimp only at hs hk
  refine agr.step (numr_q hu (n := n) (p := z5.1) (s := p) (en := z5.2) (by omega) (lo := 2) (hi := 2) (by omega) (by omega) (P := fun x => (lg_cmp x 2) = (0 : Int32)) (fun x => i2c 2 2 (by decide) x)) (((fin_stk _ _).tr ((ser_stk u n _ _).tr ((alg_stk u n _ 11 _).tr ((fnm_stk u n _ _).tr ((opn_stk u n _ 48 _).tr ((time_stk u n _ _).tr ((time_stk u n _ _).tr ((fin_stk _ _).tr (nam_stk u n _ _))))))))).tr hs) (fun z30 hz30 hn2 hq2 => ?_)
  obtain ⟨y2, b1, b2, b3, b4, b5, b6⟩ := hq2
  subst b3
  rw [b1] at hs hk
  dsimp only at hs hk
  rw [req_ok (zP_ne b2)] at hs hk
  refine agr.step (fin_q (u := u) (p := y2.2) (s := z5.1) (en := z5.2)) (((ser_stk u n _ _).tr ((alg_stk u n _ 11 _).tr ((fnm_stk u n _ _).tr ((opn_stk u n _ 48 _).tr ((time_stk u n _ _).tr ((time_stk u n _ _).tr ((fin_stk _ _).tr (nam_stk u n _ _)))))))).tr hs) (fun _ _ _ hq3 => ?_)
  rw [hq3.1, show y2.2 = z5.2 by omega] at hs hk
  refine agr.step (ser_q hu (n := n) (p := z5.2) (s := z5.1) (en := en) he) (((alg_stk u n _ 11 _).tr ((fnm_stk u n _ _).tr ((opn_stk u n _ 48 _).tr ((time_stk u n _ _).tr ((time_stk u n _ _).tr ((fin_stk _ _).tr (nam_stk u n _ _))))))).tr hs) (fun z46 hz46 hn4 hq4 => ?_)
  obtain ⟨c1, c2, c3, c4⟩ := hq4
  rw [c1] at hs hk
  dsimp only at hs hk
  refine agr.step (alg_q hu (n := n) (p := z46.2) (s := z5.2) (en := en) algH11 he hn) (((fnm_stk u n _ _).tr ((opn_stk u n _ 48 _).tr ((time_stk u n _ _).tr ((time_stk u n _ _).tr ((fin_stk _ _).tr (nam_stk u n _ _)))))).tr hs) (fun z75 hz75 hn5 hq5 => ?_)
  obtain ⟨s5, d1, d2, d3⟩ := hq5
  rw [d1] at hs hk
  refine agr.step (fnm_q hu (n := n) (p := z75) (s := s5) (en := en) he hn) (((opn_stk u n _ 48 _).tr ((time_stk u n _ _).tr ((time_stk u n _ _).tr ((fin_stk _ _).tr (nam_stk u n _ _))))).tr hs) (fun z83 hz83 hn6 hq6 => ?_)
  obtain ⟨s6, i1, k6, f1, f2, f3, f4, f5⟩ := hq6
  rw [f1] at hs hk
  dsimp only at hs hk
  rw [f2]
  refine agr.step (el_q (u := u) (n := n) (p := z83.2) (s := s6) (tg := 48) (en := en) he) (((time_stk u n _ _).tr ((time_stk u n _ _).tr ((fin_stk _ _).tr (nam_stk u n _ _)))).tr hs) (fun z95 hz95 hn7 hq7 => ?_)
  obtain ⟨g1, g2, g3, g4, g5⟩ := hq7
  rw [g1] at hs hk
  dsimp only at hs hk
  refine agr.step (time_q hu (n := n) (p := z95.1) (s := z83.2) (en := z95.2) (by omega)) (((time_stk u n _ _).tr ((fin_stk _ _).tr (nam_stk u n _ _))).tr hs) (fun z118 hz118 hn8 hq8 => ?_)
  obtain ⟨h1, h2, h3, hv8⟩ := hq8
  rw [h1] at hs hk
  refine agr.step (time_q hu (n := n) (p := z118.1) (s := z95.1) (en := z95.2) (by omega)) (((fin_stk _ _).tr (nam_stk u n _ _)).tr hs) (fun z136 hz136 hn9 hq9 => ?_)
  obtain ⟨j1, j2, j3, hv9⟩ := hq9
  rw [j1] at hs hk
  refine agr.step (fin_q (u := u) (p := z136.1) (s := z118.1) (en := z95.2)) ((nam_stk u n _ _).tr hs) (fun _ _ _ hq10 => ?_)
  rw [hq10.1, show z136.1 = z95.2 by omega] at hs hk
  refine agr.step (nam_q hu (n := n) (p := z95.2) (s := z118.1) (en := en) he hn) hs (fun z162 hz162 hn11 hq11 => ?_)
  obtain ⟨s11, sa, l1, l2, l3, l4, l5, l6, l7⟩ := hq11
  rw [l1] at hk
  dsimp only at hk
  exact hk z46 z75 z83 z95 z118 z136 z162 s11 i1 z83.2 sa (by rw [hv8, hv9]) l2 (by omega) l5 c3 c4
theorem key_eq (u : Nat → Nat) (n : Nat) (x : rS) (en : Nat) : rd_key u n x en = (let z4 := rd_opn u n x 48 en; (let z11 := rd_alg u n z4.1 1 z4.2; (let z16 := rd_bits u n z11 z4.2; (let k2 := rd_key2 u n z16.1 z16.2; (rd_fin (rd_fin k2.1 z16.2) z4.2, k2.2.1, k2.2.2.1, k2.2.2.2.1, k2.2.2.2.2))))) := rfl
theorem key_stk (u : Nat → Nat) (n : Nat) (x : rS) (en : Nat) : stk x (rd_key u n x en).1 := by
  rw [key_eq]
  dsimp only
  exact ((opn_stk u n _ 48 _).tr ((alg_stk u n _ 1 _).tr ((bits_stk u n _ _).tr ((key2_stk u n _ _).tr ((fin_stk _ _).tr (fin_stk _ _))))))
noncomputable def tx_ky {β : Type} (u : Nat → Nat) (p en : Nat) (F : Nat × Nat → Nat × Nat × Nat × Int32 → Nat ⊕ β) : Nat ⊕ β := (eb (tx_element u p 48 en) (fun z198 => (eb (tx_algorithm u z198.1 z198.2 kz2.2.2.2) (fun z224 => (eb (tx_bits u z224 z198.2) (fun z232 => (eb (tx_key u z232.1 z232.2) (fun z255 => (eb (tx_done u z255.1 z232.2) (fun z263 => (eb (tx_done u z232.2 z198.2) (fun z271 => F z198 z255))))))))))))
theorem key_q {β : Type} {u : Nat → Nat} (hu : ∀ j, u j < 256) {n p s en : Nat} (he : en ≤ n) (hn : n ≤ 2048) {y : rS} {P : β → Prop} {F : Nat × Nat → Nat × Nat × Nat × Int32 → Nat ⊕ β} (hs : stk (rd_key u n (p, s, none) en).1 y) (hk : ∀ z198 z255 s', rd_key u n (p, s, none) en = ((z198.2, s', none), z255.2.1, z255.2.2.1, nI (modV u z255.2.1 z255.2.2.1), z255.2.2.2) → p + 2 ≤ z198.2 → z198.2 ≤ en → z255.2.1 < z255.2.2.1 → z255.2.2.1 ≤ en → 496 ≤ modV u z255.2.1 z255.2.2.1 → modV u z255.2.1 z255.2.2.1 ≤ 2048 → agr y (F z198 z255) P) : agr y (tx_ky u p en F) P := by
  unfold tx_ky
  rw [key_eq] at hs hk
  dsimp only at hs hk
  refine agr.step (el_q (u := u) (n := n) (p := p) (s := s) (tg := 48) (en := en) he) (((alg_stk u n _ 1 _).tr ((bits_stk u n _ _).tr ((key2_stk u n _ _).tr ((fin_stk _ _).tr (fin_stk _ _))))).tr hs) (fun z198 hz1 hn1 hq1 => ?_)
  obtain ⟨a1, a2, a3, a4, a5⟩ := hq1
  rw [a1] at hs hk
  dsimp only at hs hk
  refine agr.step (alg_q hu (n := n) (p := z198.1) (s := p) (en := z198.2) algH1 (by omega) hn) (((bits_stk u n _ _).tr ((key2_stk u n _ _).tr ((fin_stk _ _).tr (fin_stk _ _)))).tr hs) (fun z224 hz2 hn2 hq2 => ?_)
  obtain ⟨s2, b1, b2, b3⟩ := hq2
  rw [b1] at hs hk
  refine agr.step (bits_q hu (n := n) (p := z224) (s := s2) (en := z198.2) (by omega)) (((key2_stk u n _ _).tr ((fin_stk _ _).tr (fin_stk _ _))).tr hs) (fun z232 hz3 hn3 hq3 => ?_)
  obtain ⟨c1, c2, c3, c4⟩ := hq3
  rw [c1] at hs hk
  dsimp only at hs hk
  refine agr.step (key2_q hu (n := n) (p := z232.1) (s := z224) (en := z232.2) (by omega) hn) (((fin_stk _ _).tr (fin_stk _ _)).tr hs) (fun z255 hz4 hn4 hq4 => ?_)
  obtain ⟨s4, d1, d2, d3, d4, d5, d6, d7⟩ := hq4
  rw [d1] at hs hk
  dsimp only at hs hk
  refine agr.step (fin_q (u := u) (p := z255.1) (s := s4) (en := z232.2)) ((fin_stk _ _).tr hs) (fun _ _ _ hq5 => ?_)
  rw [hq5.1, show z255.1 = z232.2 by omega] at hs hk
  refine agr.step (fin_q (u := u) (p := z232.2) (s := s4) (en := z198.2)) hs (fun _ _ _ hq6 => ?_)
  rw [hq6.1] at hk
  have e9 : z232.2 = z198.2 := by omega
  exact hk z198 z255 s4 (by rw [e9]) (by omega) a4 d4 (by omega) d6 d7
theorem sig_stk (u : Nat → Nat) (n : Nat) (x : rS) (en : Nat) : stk x (rd_sig u n x en) := by
  unfold rd_sig
  dsimp only
  exact ((alg_stk u n _ 11 _).tr ((bits_stk u n _ _).tr ((lea_stk _ _ _).tr ((fin_stk _ _).tr (fin_stk _ _)))))
noncomputable def tx_sg {β : Type} (u : Nat → Nat) (p en n : Nat) (F : Nat × Nat → Nat ⊕ β) : Nat ⊕ β := (eb (tx_algorithm u p en kz1.2.2.2) (fun z181 => (eb (tx_bits u z181 en) (fun z189 => (eb (tx_done u z189.2 en) (fun z223 => (eb (tx_done u en n) (fun z234 => F z189))))))))
theorem sig_q {β : Type} {u : Nat → Nat} (hu : ∀ j, u j < 256) {n p s en : Nat} (he : en ≤ n) (hn : n ≤ 2048) {y : rS} {P : β → Prop} {F : Nat × Nat → Nat ⊕ β} (hs : stk (rd_sig u n (p, s, none) en) y) (hk : ∀ z189 s', rd_sig u n (p, s, none) en = (n, s', none) → (rd_bits u n (rd_alg u n (p, s, none) 11 en) en).1.1 = z189.1 → (rd_bits u n (rd_alg u n (p, s, none) 11 en) en).2 = z189.2 → z189.1 ≤ z189.2 → z189.2 ≤ n → agr y (F z189) P) : agr y (tx_sg u p en n F) P := by
  unfold tx_sg
  unfold rd_sig at hs hk
  dsimp only at hs hk
  refine agr.step (alg_q hu (n := n) (p := p) (s := s) (en := en) algH11 he hn) (((bits_stk u n _ _).tr ((lea_stk _ _ _).tr ((fin_stk _ _).tr (fin_stk _ _)))).tr hs) (fun z181 hz2 hn2 hq2 => ?_)
  obtain ⟨s2, b1, b2, b3⟩ := hq2
  rw [b1] at hs hk
  refine agr.step (bits_q hu (n := n) (p := z181) (s := s2) (en := en) he) (((lea_stk _ _ _).tr ((fin_stk _ _).tr (fin_stk _ _))).tr hs) (fun z189 hz3 hn3 hq3 => ?_)
  obtain ⟨c1, c2, c3, c4⟩ := hq3
  rw [c1] at hs hk
  dsimp only at hs hk
  rw [show rd_lea (z189.1, z181, none) z189.2 (1 : Int32) = (z189.2, z181, none) from lea_ok (by decide)] at hs hk
  refine agr.step (fin_q (u := u) (p := z189.2) (s := z181) (en := en)) ((fin_stk _ _).tr hs) (fun _ _ _ hq5 => ?_)
  rw [hq5.1, show z189.2 = en by omega] at hs
  rw [hq5.1] at hk
  refine agr.step (fin_q (u := u) (p := en) (s := z181) (en := n)) hs (fun _ _ _ hq6 => ?_)
  have e9 : z189.2 = en := by omega
  have e8 : en = n := by omega
  have hfn : rd_fin (z189.2, z181, none) n = (n, z181, none) := by
    rw [e9, hq6.1, e8]
  exact hk z189 z181 hfn rfl rfl c3 (by omega)
