/-! The class' readers and the reference's: known extensions. -/
def knQ (K : (rS × (Nat × Nat) × (Nat × Nat) × Int32 × Int32 × Int32 × (List (Nat × Nat)) × (List (Nat × Nat)) × (List (Nat × Nat)) × (List (Nat × Nat)) × (List (Nat × Nat)) × (List (Nat × Nat))) × Int32) (p en : Nat) (z : Nat × Int32 × Int32 × Int32 × Int32 × Int32 × Int32 × Int32 × List (Nat × Nat) × List (Nat × Nat) × List (Nat × Nat × Nat)) : Prop := (∃ s', K.1.1 = (z.1, s', none)) ∧ K.2 = 1 ∧ K.1.2.2.2.1 = z.2.1 ∧ K.1.2.2.2.2.1 = z.2.2.1 ∧ K.1.2.2.2.2.2.1 = z.2.2.2.1 ∧ K.1.2.2.2.2.2.2.1 = z.2.2.2.2.2.2.2.2.1 ∧ p ≤ z.1 ∧ z.1 ≤ en
theorem con_q {u : Nat → Nat} (hu : ∀ j, u j < 256) {n p s en : Nat} {ok ik : Nat × Nat} {ca pn us : Int32} {D1 D2 D3 D4 D5 D6 : List (Nat × Nat)} {T : List (Nat × Nat × Nat)} (he : en ≤ n) (hn : n ≤ 2048) : agr (rd_kn u n 30 en (p, s, none) ok ik ca pn us D1 D2 D3 D4 D5 D6).1.1 (tx_constraints u p en T) (fun z => knQ (rd_kn u n 30 en (p, s, none) ok ik ca pn us D1 D2 D3 D4 D5 D6) p en (z.1, ca, pn, us, 0, 0, 0, 0, D1, [], [])) := by
  have e0 : rd_kn u n 30 en (p, s, none) ok ik ca pn us D1 D2 D3 D4 D5 D6 = (let z101 := rd_opn u n (p, s, none) 48 en; (@ite _ (z101.1.2.2 = none ∧ z101.1.1 < z101.2 ∧ u z101.1.1 = 160) (Classical.propDecidable _) (let z132 := rd_trs u n z101.1 160 z101.2 D3 D4; (@ite _ (z132.1.2.2 = none ∧ z132.1.1 < z101.2) (Classical.propDecidable _) (let z160 := rd_trs u n z132.1 161 z101.2 D5 D6; (let z165 := rd_fin z160.1 z101.2; ((z165, ok, ik, ca, pn, us, D1, D2, z132.2.1, z132.2.2, z160.2.1, z160.2.2), 1))) (let z165 := rd_fin z132.1 z101.2; ((z165, ok, ik, ca, pn, us, D1, D2, z132.2.1, z132.2.2, D5, D6), 1)))) (let z160 := rd_trs u n z101.1 161 z101.2 D5 D6; (let z165 := rd_fin z160.1 z101.2; ((z165, ok, ik, ca, pn, us, D1, D2, D3, D4, z160.2.1, z160.2.2), 1))))) := (if_neg (by decide)).trans ((if_neg (by decide)).trans ((if_neg (by decide)).trans ((if_neg (by decide)).trans (if_pos rfl))))
  rw [e0]
  unfold tx_constraints
  refine agr.step (el_q (s := s) he) (fun w9 h9 => ?_) (fun z hz hn1 hq => ?_)
  · generalize rd_opn u n (p, s, none) 48 en = o at h9 ⊢
    dsimp only
    rw [if_neg (fun q => by rw [h9] at q; cases q.1)]
    exact ((trs_stk u n _ 161 _ _ _).tr (fin_stk _ _)) w9 h9
  obtain ⟨q1, q2, q3, q4, q5⟩ := hq
  rw [q1]
  dsimp only
  have hno : ∀ k w (D R : List (Nat × Nat)), tx_element u k 161 z.2 = .inl w → ∀ s', (rd_fin (rd_trs u n (k, s', none) 161 z.2 D R).1 z.2).2.2 = some w := fun k w D R hw s' => by
    have h := trs_q hu (n := n) (p := k) (s := s') (tg := 161) (en := z.2) (D := D) (R := R) (T := T) (by omega) hn
    have e : tx_trees u k z.2 161 T = .inl w := by
      unfold tx_trees
      exact eb_no hw
    rw [e] at h
    exact fin_stk _ _ w h
  by_cases h160 : z.1 < z.2 ∧ u z.1 = 160
  · rw [if_pos ⟨rfl, h160⟩]
    refine agr.neg (by omega) ?_
    refine agr.pos h160.1 ?_
    refine agr.pos h160.2 ?_
    refine agr.step (trs_q hu (n := n) (p := z.1) (s := p) (tg := 160) (en := z.2) (D := D3) (R := D4) (T := T) (by omega) hn) (fun w9 h9 => ?_) (fun y hy hn2 hq2 => ?_)
    · rw [if_neg (fun q => by rw [h9] at q; cases q.1)]
      exact fin_stk _ _ w9 h9
    obtain ⟨⟨s', E3, E4, g1⟩, g2, g3⟩ := hq2
    rw [g1]
    dsimp only
    by_cases hm : y.1 < z.2
    · rw [if_pos ⟨rfl, hm⟩]
      refine agr.pos hm ?_
      by_cases h161 : u y.1 = 161
      · refine agr.pos h161 ?_
        refine agr.step (trs_q hu (n := n) (p := y.1) (s := s') (tg := 161) (en := z.2) (D := D5) (R := D6) (T := y.2) (by omega) hn) (fin_stk _ _) (fun v hv hn3 hq3 => ?_)
        obtain ⟨⟨s2, E5, E6, r1⟩, r2, r3⟩ := hq3
        rw [r1]
        dsimp only
        refine agr.step (fin_q (u := u) (p := v.1) (s := s2) (en := z.2)) (stk.rf _) (fun _ _ _ hq5 => ?_)
        rw [hq5.1, show v.1 = z.2 by omega]
        exact ⟨rfl, ⟨s2, rfl⟩, rfl, rfl, rfl, rfl, rfl, by show p ≤ z.2; omega, q4⟩
      · refine agr.neg h161 ?_
        refine agr.no (hno y.1 y.1 D5 D6 (el_tag hm h161) s') ?_ (stk.rf _)
        exact if_neg (by omega)
    · rw [if_neg (fun q => hm q.2)]
      refine agr.neg hm ?_
      dsimp only
      refine agr.step (fin_q (u := u) (p := y.1) (s := s') (en := z.2)) (stk.rf _) (fun _ _ _ hq5 => ?_)
      rw [hq5.1, show y.1 = z.2 by omega]
      exact ⟨rfl, ⟨s', rfl⟩, rfl, rfl, rfl, rfl, rfl, by show p ≤ z.2; omega, q4⟩
  · rw [if_neg (fun q => h160 q.2)]
    dsimp only
    by_cases hz0 : z.1 = z.2
    · refine agr.pos hz0 ?_
      refine hno z.1 z.2 D5 D6 ?_ p
      unfold tx_element
      rw [if_neg (by omega)]
    · have hm : z.1 < z.2 := by omega
      refine agr.neg hz0 ?_
      refine agr.pos hm ?_
      refine agr.neg (fun q => h160 ⟨hm, q⟩) ?_
      refine agr.pos hm ?_
      by_cases h161 : u z.1 = 161
      · refine agr.pos h161 ?_
        refine agr.step (trs_q hu (n := n) (p := z.1) (s := p) (tg := 161) (en := z.2) (D := D5) (R := D6) (T := T) (by omega) hn) (fin_stk _ _) (fun v hv hn3 hq3 => ?_)
        obtain ⟨⟨s2, E5, E6, r1⟩, r2, r3⟩ := hq3
        rw [r1]
        dsimp only
        refine agr.step (fin_q (u := u) (p := v.1) (s := s2) (en := z.2)) (stk.rf _) (fun _ _ _ hq5 => ?_)
        rw [hq5.1, show v.1 = z.2 by omega]
        exact ⟨rfl, ⟨s2, rfl⟩, rfl, rfl, rfl, rfl, rfl, by show p ≤ z.2; omega, q4⟩
      · refine agr.neg h161 ?_
        refine agr.no (hno z.1 z.1 D5 D6 (el_tag hm h161) p) ?_ (stk.rf _)
        exact if_neg (by omega)
def knS (kn : Int32) : Prop := kn = 19 ∨ kn = 15 ∨ kn = 17 ∨ kn = 30 ∨ kn = 14 ∨ kn = 35
theorem kn_q {u : Nat → Nat} (hu : ∀ j, u j < 256) {n p s en : Nat} {kn : Int32} {ok ik : Nat × Nat} {ca pn us k1 k2 k3 k4 : Int32} {D1 D2 D3 D4 D5 D6 dirs : List (Nat × Nat)} {T : List (Nat × Nat × Nat)} (he : en ≤ n) (hn : n ≤ 2048) (hk : knS kn) : agr (rd_kn u n kn en (p, s, none) ok ik ca pn us D1 D2 D3 D4 D5 D6).1.1 (tx_content u p kn en D1 dirs T ca pn us k1 k2 k3 k4) (knQ (rd_kn u n kn en (p, s, none) ok ik ca pn us D1 D2 D3 D4 D5 D6) p en) := by
  unfold tx_content
  rcases hk with rfl | rfl | rfl | rfl | rfl | rfl
  · have e0 : rd_kn u n 19 en (p, s, none) ok ik ca pn us D1 D2 D3 D4 D5 D6 = ((((rd_bas u n (p, s, none) en pn).1, ok, ik, (rd_bas u n (p, s, none) en pn).2.2, (rd_bas u n (p, s, none) en pn).2.1, us, D1, D2, D3, D4, D5, D6), 1) : (rS × (Nat × Nat) × (Nat × Nat) × Int32 × Int32 × Int32 × (List (Nat × Nat)) × (List (Nat × Nat)) × (List (Nat × Nat)) × (List (Nat × Nat)) × (List (Nat × Nat)) × (List (Nat × Nat))) × Int32) := (if_neg (by decide)).trans ((if_neg (by decide)).trans ((if_neg (by decide)).trans (if_pos rfl)))
    rw [e0]
    refine agr.neg (by decide) (agr.neg (by decide) (agr.neg (by decide) (agr.pos rfl ?_)))
    refine agr.step (bas_q hu (n := n) (p := p) (s := s) (en := en) he pn) (stk.rf _) (fun z hz hn1 hq => ?_)
    obtain ⟨⟨s', g1⟩, g2, g3⟩ := hq
    rw [g1]
    exact ⟨rfl, ⟨s', rfl⟩, rfl, rfl, rfl, rfl, rfl, by show p ≤ z.1; omega, g3⟩
  · have e0 : rd_kn u n 15 en (p, s, none) ok ik ca pn us D1 D2 D3 D4 D5 D6 = ((((rd_use u n (p, s, none) en).1, ok, ik, ca, pn, (rd_use u n (p, s, none) en).2, D1, D2, D3, D4, D5, D6), 1) : (rS × (Nat × Nat) × (Nat × Nat) × Int32 × Int32 × Int32 × (List (Nat × Nat)) × (List (Nat × Nat)) × (List (Nat × Nat)) × (List (Nat × Nat)) × (List (Nat × Nat)) × (List (Nat × Nat))) × Int32) := (if_neg (by decide)).trans (if_pos rfl)
    rw [e0]
    refine agr.neg (by decide) (agr.pos rfl ?_)
    refine agr.step (use_q hu (n := n) (p := p) (s := s) (en := en) he hn) (stk.rf _) (fun z hz hn1 hq => ?_)
    obtain ⟨g1, g2, g3⟩ := hq
    rw [g1]
    exact ⟨rfl, ⟨p, rfl⟩, rfl, rfl, rfl, rfl, rfl, by show p ≤ z.1; omega, g3⟩
  · have e0 : rd_kn u n 17 en (p, s, none) ok ik ca pn us D1 D2 D3 D4 D5 D6 = ((((rd_nms u n (p, s, none) en D1 D2).1, ok, ik, ca, pn, us, (rd_nms u n (p, s, none) en D1 D2).2.1, (rd_nms u n (p, s, none) en D1 D2).2.2, D3, D4, D5, D6), 1) : (rS × (Nat × Nat) × (Nat × Nat) × Int32 × Int32 × Int32 × (List (Nat × Nat)) × (List (Nat × Nat)) × (List (Nat × Nat)) × (List (Nat × Nat)) × (List (Nat × Nat)) × (List (Nat × Nat))) × Int32) := (if_neg (by decide)).trans ((if_neg (by decide)).trans (if_pos rfl))
    rw [e0]
    refine agr.neg (by decide) (agr.neg (by decide) (agr.pos rfl ?_))
    refine agr.step (nms_q hu (n := n) (p := p) (s := s) (en := en) (D := D1) (R := D2) (R' := dirs) he hn) (stk.rf _) (fun z hz hn1 hq => ?_)
    obtain ⟨⟨s', R1, g1⟩, g2, g3⟩ := hq
    rw [g1]
    exact ⟨rfl, ⟨s', rfl⟩, rfl, rfl, rfl, rfl, rfl, by show p ≤ z.1; omega, g3⟩
  · refine agr.neg (by decide) (agr.neg (by decide) (agr.neg (by decide) (agr.neg (by decide) (agr.pos rfl ?_))))
    refine agr.step (con_q hu (n := n) (p := p) (s := s) (en := en) (ok := ok) (ik := ik) (ca := ca) (pn := pn) (us := us) (D1 := D1) (D2 := D2) (D3 := D3) (D4 := D4) (D5 := D5) (D6 := D6) (T := T) he hn) (stk.rf _) (fun z hz hn1 hq => ?_)
    exact ⟨hn1, hq⟩
  · have e0 : rd_kn u n 14 en (p, s, none) ok ik ca pn us D1 D2 D3 D4 D5 D6 = ((((rd_plain u n (p, s, none) 4 1 en).1, ((rd_plain u n (p, s, none) 4 1 en).2.1, (rd_plain u n (p, s, none) 4 1 en).2.2), ik, ca, pn, us, D1, D2, D3, D4, D5, D6), 1) : (rS × (Nat × Nat) × (Nat × Nat) × Int32 × Int32 × Int32 × (List (Nat × Nat)) × (List (Nat × Nat)) × (List (Nat × Nat)) × (List (Nat × Nat)) × (List (Nat × Nat)) × (List (Nat × Nat))) × Int32) := if_pos rfl
    rw [e0]
    refine agr.pos rfl ?_
    have hl := plain_q (u := u) (n := n) (p := p) (s := s) (tg := 4) (le := 1) (en := en) he
    cases hE : tx_element u p 4 en with
    | inl w => rw [hE] at hl; exact hl
    | inr z =>
      rw [hE] at hl
      have f := el_facts hE
      have hl : agr _ (@ite _ (1 ≤ z.2 - z.1) (Classical.propDecidable _) (.inr z) (.inl p)) _ := hl
      refine agr.ok rfl ?_
      by_cases hb : z.1 = z.2
      · refine agr.pos hb ?_
        rw [if_neg (by omega)] at hl
        exact hl
      · refine agr.neg hb ?_
        rw [if_pos (by omega)] at hl
        obtain ⟨_, l1, _⟩ := hl
        rw [l1]
        exact ⟨rfl, ⟨p, rfl⟩, rfl, rfl, rfl, rfl, rfl, by show p ≤ z.2; omega, f.2.2.1⟩
  · have e0 : rd_kn u n 35 en (p, s, none) ok ik ca pn us D1 D2 D3 D4 D5 D6 = ((((rd_iky u n (p, s, none) en).1, ok, ((rd_iky u n (p, s, none) en).2.1, (rd_iky u n (p, s, none) en).2.2), ca, pn, us, D1, D2, D3, D4, D5, D6), 1) : (rS × (Nat × Nat) × (Nat × Nat) × Int32 × Int32 × Int32 × (List (Nat × Nat)) × (List (Nat × Nat)) × (List (Nat × Nat)) × (List (Nat × Nat)) × (List (Nat × Nat)) × (List (Nat × Nat))) × Int32) := (if_neg (by decide)).trans ((if_neg (by decide)).trans ((if_neg (by decide)).trans ((if_neg (by decide)).trans ((if_neg (by decide)).trans (if_pos rfl)))))
    rw [e0]
    refine agr.neg (by decide) (agr.neg (by decide) (agr.neg (by decide) (agr.neg (by decide) (agr.neg (by decide) (agr.pos rfl ?_)))))
    have hi := iky_q (u := u) (n := n) (p := p) (s := s) (en := en) he (fun z189 z215 : Nat × Nat => (z189.2, ca, pn, us, k1, k2, nI z215.1, nI z215.2, D1, dirs, T))
    refine agr.imp hi (fun z hq => ?_)
    obtain ⟨y, v, s', rfl, g1, g2, g3⟩ := hq
    rw [g1]
    exact ⟨⟨s', rfl⟩, rfl, rfl, rfl, rfl, rfl, by show p ≤ y.2; omega, g3⟩
theorem kn_stk (u : Nat → Nat) (n : Nat) (kn : Int32) (en : Nat) (x : rS) (ok ik : Nat × Nat) (ca pn us : Int32) (D1 D2 D3 D4 D5 D6 : List (Nat × Nat)) : stk x (rd_kn u n kn en x ok ik ca pn us D1 D2 D3 D4 D5 D6).1.1 := by
  unfold rd_kn
  split
  · exact plain_stk u n x 4 1 en
  · split
    · exact use_stk u n x en
    · split
      · exact nms_stk u n x en D1 D2
      · split
        · exact bas_stk u n x en pn
        · split
          · intro w h
            have h1 := opn_stk u n x 48 en w h
            generalize rd_opn u n x 48 en = o at h1 ⊢
            dsimp only
            rw [if_neg (fun q => by rw [h1] at q; cases q.1)]
            exact ((trs_stk u n _ 161 _ _ _).tr (fin_stk _ _)) w h1
          · split
            · exact iky_stk u n x en
            · exact stk.rf x
/-! A list's known extensions. -/
def knT (ie kn : Int32) : Prop := (ie = 0 ∧ (kn = 20 ∨ kn = 35)) ∨ (ie = 1 ∧ kn = 21)
theorem knL_n {u : Nat → Nat} {n : Nat} {ie kn : Int32} {x : rS} {en : Nat} (hi : ie = 0 ∨ ie = 1) (hk : ¬ knT ie kn) : rd_knL u n ie kn x en = (x, 0) := by
  rcases hi with rfl | rfl
  · have h1 : ¬ kn = 20 := fun q => hk (Or.inl ⟨rfl, Or.inl q⟩)
    have h2 : ¬ kn = 35 := fun q => hk (Or.inl ⟨rfl, Or.inr q⟩)
    exact (if_pos rfl).trans ((if_pos rfl).trans ((if_neg h1).trans ((if_pos rfl).trans (if_neg h2))))
  · have h1 : ¬ kn = 21 := fun q => hk (Or.inr ⟨rfl, q⟩)
    exact (if_neg (by decide)).trans ((if_neg h1).trans ((if_neg (by decide)).trans (if_neg (by decide))))
theorem knL_20 {u : Nat → Nat} {n : Nat} {x : rS} {en : Nat} : rd_knL u n 0 20 x en = (rd_req (rd_nm u n x 2 en).1 (zP (¬ ((128 : Int32) ≤ (sl_at u (rd_nm u n x 2 en).2.1 (rd_nm u n x 2 en).2.2 (0 : Int32))) ∧ (¬ (20 < ((rd_nm u n x 2 en).2.2 - (rd_nm u n x 2 en).2.1))))), (1 : Int32)) := (if_pos rfl).trans ((if_pos rfl).trans (if_pos rfl))
theorem knL_35 {u : Nat → Nat} {n : Nat} {x : rS} {en : Nat} : rd_knL u n 0 35 x en = ((rd_iky u n x en).1, (1 : Int32)) := (if_pos rfl).trans ((if_pos rfl).trans ((if_neg (by decide)).trans ((if_pos rfl).trans (if_pos rfl))))
theorem knL_21 {u : Nat → Nat} {n : Nat} {x : rS} {en : Nat} : rd_knL u n 1 21 x en = (rd_req (rd_nm u n x 10 en).1 (zP (¬ ((lg_cmp (sl_num u (rd_nm u n x 10 en).2.1 (rd_nm u n x 10 en).2.2) 0) < (0 : Int32)) ∧ (¬ ((0 : Int32) < (lg_cmp (sl_num u (rd_nm u n x 10 en).2.1 (rd_nm u n x 10 en).2.2) 10)) ∧ (¬ ((lg_cmp (sl_num u (rd_nm u n x 10 en).2.1 (rd_nm u n x 10 en).2.2) 7) = (0 : Int32)))))), (1 : Int32)) := (if_neg (by decide)).trans (if_pos rfl)
theorem knL_stk (u : Nat → Nat) (n : Nat) (ie kn : Int32) (hi : ie = 0 ∨ ie = 1) (x : rS) (en : Nat) : stk x (rd_knL u n ie kn x en).1 := by
  by_cases hk : knT ie kn
  · rcases hk with ⟨rfl, rfl | rfl⟩ | ⟨rfl, rfl⟩
    · rw [knL_20]; exact (nm_stk u n x 2 en).tr (req_stk _ _)
    · rw [knL_35]; exact iky_stk u n x en
    · rw [knL_21]; exact (nm_stk u n x 10 en).tr (req_stk _ _)
  · rw [knL_n hi hk]; exact stk.rf x
theorem i10 (x : Int64) : (¬ ((lg_cmp x 0) < (0 : Int32)) ∧ (¬ ((0 : Int32) < (lg_cmp x 10)) ∧ (¬ ((lg_cmp x 7) = (0 : Int32))))) ↔ ((((0 : Nat) : Int) ≤ x.toInt ∧ x.toInt ≤ ((10 : Nat) : Int)) ∧ x.toInt ≠ 7) := by
  rw [lg_cmp_lt, lg_cmp_gt, lg_cmp_eq, Int64.lt_iff_toInt_lt, Int64.lt_iff_toInt_lt, ← Int64.toInt_inj, show (0 : Int64).toInt = 0 from by decide, show (10 : Int64).toInt = 10 from by decide, show (7 : Int64).toInt = 7 from by decide]
  omega
theorem en_q {u : Nat → Nat} (hu : ∀ j, u j < 256) {β : Type} {n p s en : Nat} (he : en ≤ n) (F : Nat × Nat → β) : agr (rd_knL u n 1 21 (p, s, none) en).1 (eb (tx_element u p 10 en) (fun z333 => (@ite _ (¬ ((z333.2 - z333.1) = 1) ∨ ((10 < (u z333.1)) ∨ ((u z333.1) = 7))) (Classical.propDecidable _) (.inl p) (.inr (F z333))))) (fun b => ∃ z : Nat × Nat, b = F z ∧ rd_knL u n 1 21 (p, s, none) en = ((z.2, p, none), 1) ∧ p ≤ z.2 ∧ z.2 ≤ en) := by
  rw [knL_21]
  unfold rd_nm
  dsimp only
  refine agr.step (el_q (s := s) he) (fun w9 h9 => ((lea_stk _ _ _).tr (req_stk _ _)) w9 h9) (fun z hz hn1 hq => ?_)
  obtain ⟨q1, q2, q3, q4, q5⟩ := hq
  rw [q1]
  dsimp only
  by_cases hN : numOK u n z.1 z.2
  · rw [lea_ok (zP_ne hN)]
    have hm : ¬ intN u z := (num_iff hu q3 (by omega)).mp hN
    have hlt : z.1 < z.2 := hN.1
    have h10 := num_in hu hlt hm (lo := 0) (hi := 10) (by omega)
    have hC := i10 (sl_num u z.1 z.2)
    have hI : (¬ ((lg_cmp (sl_num u z.1 z.2) 0) < (0 : Int32)) ∧ (¬ ((0 : Int32) < (lg_cmp (sl_num u z.1 z.2) 10)) ∧ (¬ ((lg_cmp (sl_num u z.1 z.2) 7) = (0 : Int32))))) ↔ ¬ (¬ ((z.2 - z.1) = 1) ∨ ((10 < (u z.1)) ∨ ((u z.1) = 7))) := by
      rw [hC, h10]
      by_cases h1 : z.2 - z.1 = 1
      · rw [h1]
        have e1 : bigN u z.1 1 = u z.1 := by show 0 * 256 + u z.1 = u z.1; omega
        rw [e1]
        by_cases h8 : u z.1 < 128
        · have e2 := num_pos hu hlt h8 (by omega)
          rw [h1, e1] at e2
          rw [e2]
          omega
        · constructor
          · rintro ⟨q, _⟩
            exact absurd (Or.inl (Or.inl (by omega))) q
          · intro q
            exact absurd (Or.inr (Or.inl (by omega))) q
      · constructor
        · rintro ⟨q, _⟩
          exfalso
          have h3 : z.2 - z.1 = 2 ∨ z.2 - z.1 = 3 := by omega
          have hl : 128 ≤ u z.1 * 256 + u (z.1 + 1) := by
            refine Classical.byContradiction (fun q => hm ?_)
            refine Or.inr ⟨by omega, Or.inl ⟨by omega, Or.inl (by omega)⟩⟩
          rcases h3 with h3 | h3
          · rw [h3] at q
            have : (u z.1 * 256 + u (z.1 + 1)) * 256 ^ 0 ≤ bigN u z.1 2 := bigN_ge (u := u) z.1 0
            have e : (u z.1 * 256 + u (z.1 + 1)) * 256 ^ 0 = u z.1 * 256 + u (z.1 + 1) := by simp
            rw [e] at this
            exact q (Or.inr (by omega))
          · rw [h3] at q
            have : (u z.1 * 256 + u (z.1 + 1)) * 256 ^ 1 ≤ bigN u z.1 3 := bigN_ge (u := u) z.1 1
            have e : (u z.1 * 256 + u (z.1 + 1)) * 256 ^ 1 = (u z.1 * 256 + u (z.1 + 1)) * 256 := by simp
            rw [e] at this
            exact q (Or.inr (by omega))
        · intro q
          exact absurd (Or.inl h1) q
    by_cases hb : ¬ ((z.2 - z.1) = 1) ∨ ((10 < (u z.1)) ∨ ((u z.1) = 7))
    · refine agr.pos hb ?_
      rw [req_no (zP_f (fun q => hI.mp q hb)).symm]
      exact rfl
    · refine agr.neg hb ?_
      rw [req_ok (zP_ne (hI.mpr hb))]
      exact ⟨rfl, z, rfl, rfl, by omega, q4⟩
  · rw [lea_no (zP_f hN).symm]
    refine agr.pos (Or.inl (fun q => hN ⟨by omega, fun r => by omega⟩)) ?_
    exact rfl
theorem knL_q {u : Nat → Nat} (hu : ∀ j, u j < 256) {n p s en : Nat} {ie kn : Int32} {ca pn us k1 k2 k3 k4 : Int32} {dns dirs : List (Nat × Nat)} {T : List (Nat × Nat × Nat)} (he : en ≤ n) (hk : knT ie kn) : agr (rd_knL u n ie kn (p, s, none) en).1 (tx_content u p kn en dns dirs T ca pn us k1 k2 k3 k4) (fun z => (∃ s', rd_knL u n ie kn (p, s, none) en = ((z.1, s', none), 1)) ∧ p ≤ z.1 ∧ z.1 ≤ en) := by
  unfold tx_content
  rcases hk with ⟨rfl, rfl | rfl⟩ | ⟨rfl, rfl⟩
  · rw [knL_20]
    refine agr.neg (by decide) (agr.neg (by decide) (agr.neg (by decide) (agr.neg (by decide) (agr.neg (by decide) (agr.neg (by decide) (agr.pos rfl ?_))))))
    refine agr.step (nm_eq (s := s) hu he) (req_stk _ _) (fun z hz hn hq => ?_)
    obtain ⟨q1, q2, q3, q4, q5⟩ := hq
    rw [q1]
    dsimp only
    have e1 : ((128 : Int32) ≤ sl_at u z.1 z.2 0 ↔ 128 ≤ u z.1) := by
      rw [sl_0 q3, show (128 : Int32) = nI 128 from rfl, nI_leI (by omega) (by have := hu z.1; omega)]
    rw [e1]
    by_cases hb : (128 ≤ (u z.1)) ∨ (¬ ((z.2 - z.1) ≤ 20))
    · refine agr.pos hb ?_
      rw [req_no (zP_f (fun q => by omega)).symm]
      exact rfl
    · refine agr.neg hb ?_
      rw [req_ok (zP_ne (show ¬ 128 ≤ u z.1 ∧ ¬ 20 < z.2 - z.1 by omega))]
      exact ⟨rfl, ⟨p, rfl⟩, by show p ≤ z.2; omega, q4⟩
  · rw [knL_35]
    refine agr.neg (by decide) (agr.neg (by decide) (agr.neg (by decide) (agr.neg (by decide) (agr.neg (by decide) (agr.pos rfl ?_)))))
    have hi := iky_q (u := u) (n := n) (p := p) (s := s) (en := en) he (fun z189 z215 : Nat × Nat => (z189.2, ca, pn, us, k1, k2, nI z215.1, nI z215.2, dns, dirs, T))
    refine agr.imp hi (fun z hq => ?_)
    obtain ⟨y, v, s', rfl, g1, g2, g3⟩ := hq
    rw [g1]
    exact ⟨⟨s', rfl⟩, by show p ≤ y.2; omega, g3⟩
  · refine agr.neg (by decide) (agr.neg (by decide) (agr.neg (by decide) (agr.neg (by decide) (agr.neg (by decide) (agr.neg (by decide) (agr.neg (by decide) ?_))))))
    have hi := en_q hu (n := n) (p := p) (s := s) (en := en) he (fun z333 : Nat × Nat => (z333.2, ca, pn, us, k1, k2, k3, k4, dns, dirs, T))
    refine agr.imp hi (fun z hq => ?_)
    obtain ⟨y, rfl, g1, g2, g3⟩ := hq
    rw [g1]
    exact ⟨⟨p, rfl⟩, g2, g3⟩
