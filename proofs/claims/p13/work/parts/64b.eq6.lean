/-! The class' readers and the reference's: names, trees, known extensions. -/
noncomputable def nmB (u : Nat → Nat) (e9 : Nat) : Nat × List (Nat × Nat) × List (Nat × Nat) → Nat ⊕ (Nat × List (Nat × Nat) × List (Nat × Nat)) := (fun s39 : Nat × List (Nat × Nat) × List (Nat × Nat) => ((@ite _ (¬ ((u s39.1) = 130) ∧ (¬ ((u s39.1) = 129) ∧ (¬ ((u s39.1) = 135) ∧ (¬ ((u s39.1) = 164))))) (Classical.propDecidable _) (.inl s39.1) (eb (tx_element u s39.1 (u s39.1) e9) (fun z97 => (@ite _ ((u s39.1) = 164) (Classical.propDecidable _) (eb (tx_name u z97.1 z97.2) (fun z129 => (eb (tx_done u z129.1 z97.2) (fun z138 => (.inr (z97.2, s39.2.1, (s39.2.2 ++ [(z97.1, z129.2.2)]))))))) (@ite _ ((u s39.1) = 135) (Classical.propDecidable _) (@ite _ (¬ ((z97.2 - z97.1) = 4) ∧ (¬ ((z97.2 - z97.1) = 16))) (Classical.propDecidable _) (.inl s39.1) (.inr (z97.2, s39.2.1, s39.2.2))) (eb (tx_visible u z97.1 z97.2 s39.1 1) (fun z227 => (@ite _ ((u s39.1) = 130) (Classical.propDecidable _) (.inr (z97.2, (s39.2.1 ++ [(z97.1, z97.2)]), s39.2.2)) (.inr (z97.2, s39.2.1, s39.2.2)))))))))) : Nat ⊕ (Nat × List (Nat × Nat) × List (Nat × Nat))))
noncomputable def trB (u : Nat → Nat) (tg e9 : Nat) : Nat × List (Nat × Nat × Nat) → Nat ⊕ (Nat × List (Nat × Nat × Nat)) := (fun s38 : Nat × List (Nat × Nat × Nat) => ((eb (tx_element u s38.1 48 e9) (fun z50 => (@ite _ (z50.1 < z50.2) (Classical.propDecidable _) (@ite _ (¬ ((u z50.1) < 0) ∧ (¬ ((u z50.1) = 130) ∧ (¬ ((u z50.1) = 164)))) (Classical.propDecidable _) (.inl z50.1) (let vj111 := (@ite _ (0 ≤ (u z50.1)) (Classical.propDecidable _) ((u z50.1)) (130)); (eb (tx_element u z50.1 vj111 z50.2) (fun z126 => (@ite _ ((u z50.1) = 130) (Classical.propDecidable _) (eb (tx_visible u z126.1 z126.2 z50.1 0) (fun z150 => (let vj256 := (@ite _ (tg = 160) (Classical.propDecidable _) (0) (2)); (@ite _ ((u z50.1) = 130) (Classical.propDecidable _) (eb (tx_done u z126.2 z50.2) (fun z292 => (.inr (z50.2, (s38.2 ++ [(z126.1, z126.2, (vj256 + 0))]))))) (eb (tx_done u z126.2 z50.2) (fun z292 => (.inr (z50.2, (s38.2 ++ [(z126.1, z126.2, (vj256 + 1))]))))))))) (eb (tx_name u z126.1 z126.2) (fun z198 => (eb (tx_done u z198.1 z126.2) (fun z207 => (let vj256 := (@ite _ (tg = 160) (Classical.propDecidable _) (0) (2)); (let vj268 := (@ite _ ((u z50.1) = 130) (Classical.propDecidable _) (0) (1)); (eb (tx_done u z126.2 z50.2) (fun z292 => (.inr (z50.2, (s38.2 ++ [(z126.1, z198.2.2, (vj256 + vj268))])))))))))))))))) (eb (tx_element u z50.1 130 z50.2) (fun z126 => (.inl 0)))))) : Nat ⊕ (Nat × List (Nat × Nat × Nat))))
theorem rbnms_stk (u : Nat → Nat) (n e : Nat) (s : rS × List (Nat × Nat) × List (Nat × Nat)) : stk s.1 (rb_nms u n e s).1 := by
  intro w h
  unfold rb_nms
  rw [if_neg (fun q => by rw [h] at q; cases q.1), if_neg (fun q => by rw [h] at q; cases q.1), if_neg (fun q => by rw [h] at q; cases q.1)]
  exact ((plain_stk u n s.1 130 1 e).tr (req_stk _ _)) w h
theorem nmb_q {u : Nat → Nat} (hu : ∀ j, u j < 256) {n p s e : Nat} {D R R' : List (Nat × Nat)} (he : e ≤ n) (hn : n ≤ 2048) (hp : p < e) : agr (rb_nms u n e ((p, s, none), D, R)).1 (nmB u e (p, D, R')) (fun z => (∃ s' R1, rb_nms u n e ((p, s, none), D, R) = ((z.1, s', none), z.2.1, R1)) ∧ p < z.1 ∧ z.1 ≤ e) := by
  unfold nmB
  dsimp only
  by_cases h164 : u p = 164
  · have e0 : rb_nms u n e ((p, s, none), D, R) = (let z45 := rd_opn u n (p, s, none) 164 e; (let z63 := rd_nam u n z45.1 z45.2; (let z73 := rd_fin z63.1 z45.2; (z73, D, (R ++ [(z63.2.2.1, z63.2.2.2)]))))) := if_pos ⟨rfl, hp, h164⟩
    rw [e0, h164]
    refine agr.neg (by decide) ?_
    refine agr.step (el_q (s := s) he) (fun w9 h9 => ((nam_stk u n _ _).tr (fin_stk _ _)) w9 h9) (fun z hz hn1 hq => ?_)
    obtain ⟨q1, q2, q3, q4, q5⟩ := hq
    rw [q1]
    dsimp only
    refine agr.pos rfl ?_
    refine agr.step (nam_q hu (n := n) (p := z.1) (s := p) (en := z.2) (by omega) hn) (fin_stk _ _) (fun v hv hn2 hq2 => ?_)
    obtain ⟨s', a, g1, g2, g3, g4, g5, g6, g7⟩ := hq2
    rw [g1]
    dsimp only
    rw [g2]
    refine agr.step (fin_q (u := u) (p := v.2.2) (s := s') (en := z.2)) (stk.rf _) (fun _ _ _ hq5 => ?_)
    rw [hq5.1, show v.2.2 = z.2 by omega]
    exact ⟨rfl, ⟨s', _, rfl⟩, by show p < z.2; omega, q4⟩
  · by_cases h135 : u p = 135
    · have e0 : rb_nms u n e ((p, s, none), D, R) = (rd_req (rd_plain u n (p, s, none) 135 1 e).1 (zP ((fun z : Nat × Nat => (z.2 - z.1) = 4 ∨ (z.2 - z.1) = 16) (rd_plain u n (p, s, none) 135 1 e).2)), D, R) := (if_neg (fun q => h164 q.2.2)).trans (if_pos ⟨rfl, hp, h135⟩)
      have hl := plr (u := u) (n := n) (p := p) (s := s) (tg := 135) (le := 1) (en := e) he (C := fun z : Nat × Nat => (z.2 - z.1) = 4 ∨ (z.2 - z.1) = 16)
      rw [e0, h135]
      refine agr.neg (by decide) ?_
      cases hE : tx_element u p 135 e with
      | inl w => exact hl.1 w hE
      | inr z =>
        obtain ⟨l1, l2, l3, l4, l5⟩ := hl.2 z hE
        refine agr.ok rfl ?_
        refine agr.neg (by decide) ?_
        refine agr.pos rfl ?_
        by_cases hb : ¬ ((z.2 - z.1) = 4) ∧ (¬ ((z.2 - z.1) = 16))
        · refine agr.pos hb ?_
          exact l1 (fun q => q.2.elim hb.1 hb.2)
        · refine agr.neg hb ?_
          have hc : 1 ≤ z.2 - z.1 ∧ ((z.2 - z.1) = 4 ∨ (z.2 - z.1) = 16) := by omega
          rw [(l2 hc).2]
          exact ⟨rfl, ⟨p, R, rfl⟩, by show p < z.2; omega, l5⟩
    · by_cases h129 : u p = 129
      · have e0 : rb_nms u n e ((p, s, none), D, R) = (rd_req (rd_plain u n (p, s, none) 129 1 e).1 (zP ((fun z : Nat × Nat => visN u z.1 z.2) (rd_plain u n (p, s, none) 129 1 e).2)), D, R) := (if_neg (fun q => h164 q.2.2)).trans ((if_neg (fun q => h135 q.2.2)).trans (if_pos ⟨rfl, hp, h129⟩))
        have hl := plr (u := u) (n := n) (p := p) (s := s) (tg := 129) (le := 1) (en := e) he (C := fun z : Nat × Nat => visN u z.1 z.2)
        rw [e0, h129]
        refine agr.neg (by decide) ?_
        cases hE : tx_element u p 129 e with
        | inl w => exact hl.1 w hE
        | inr z =>
          obtain ⟨l1, l2, l3, l4, l5⟩ := hl.2 z hE
          refine agr.ok rfl ?_
          refine agr.neg (by decide) ?_
          refine agr.neg (by decide) ?_
          have hv := vis_eq (u := u) (a := z.1) (b := z.2) (fp := p) (le := 1) (by omega)
          by_cases hc : 1 ≤ z.2 - z.1 ∧ visN u z.1 z.2
          · refine agr.ok (hv.1 hc) ?_
            refine agr.neg (by decide) ?_
            rw [(l2 hc).2]
            exact ⟨rfl, ⟨p, R, rfl⟩, by show p < z.2; omega, l5⟩
          · exact agr.no (l1 hc) (hv.2 hc) (stk.rf _)
      · have e0 : rb_nms u n e ((p, s, none), D, R) = (rd_req (rd_plain u n (p, s, none) 130 1 e).1 (zP ((fun z : Nat × Nat => visN u z.1 z.2) (rd_plain u n (p, s, none) 130 1 e).2)), (D ++ [((rd_plain u n (p, s, none) 130 1 e).2.1, (rd_plain u n (p, s, none) 130 1 e).2.2)]), R) := (if_neg (fun q => h164 q.2.2)).trans ((if_neg (fun q => h135 q.2.2)).trans (if_neg (fun q => h129 q.2.2)))
        have hl := plr (u := u) (n := n) (p := p) (s := s) (tg := 130) (le := 1) (en := e) he (C := fun z : Nat × Nat => visN u z.1 z.2)
        rw [e0]
        by_cases h130 : u p = 130
        · rw [h130]
          refine agr.neg (by decide) ?_
          cases hE : tx_element u p 130 e with
          | inl w => exact hl.1 w hE
          | inr z =>
            obtain ⟨l1, l2, l3, l4, l5⟩ := hl.2 z hE
            refine agr.ok rfl ?_
            refine agr.neg (by decide) ?_
            refine agr.neg (by decide) ?_
            have hv := vis_eq (u := u) (a := z.1) (b := z.2) (fp := p) (le := 1) (by omega)
            by_cases hc : 1 ≤ z.2 - z.1 ∧ visN u z.1 z.2
            · refine agr.ok (hv.1 hc) ?_
              refine agr.pos rfl ?_
              rw [(l2 hc).2, (l2 hc).1]
              exact ⟨rfl, ⟨p, R, rfl⟩, by show p < z.2; omega, l5⟩
            · exact agr.no (l1 hc) (hv.2 hc) (stk.rf _)
        · refine agr.pos ⟨h130, h129, h135, h164⟩ ?_
          exact hl.1 p (el_tag hp h130)
theorem nms_stk (u : Nat → Nat) (n : Nat) (x : rS) (en : Nat) (D R : List (Nat × Nat)) : stk x (rd_nms u n x en D R).1 := by
  intro w h
  unfold rd_nms
  obtain ⟨f9, hf9⟩ : ∃ f9, 2048 = f9 + 1 := ⟨2047, rfl⟩
  rw [hf9]
  rw [show loopF (rb_nms u n (rd_opn u n x 48 en).2) (fun s => mr s.1 (rd_opn u n x 48 en).2) (f9 + 1) true ((rd_opn u n x 48 en).1, D, R) = loopF (rb_nms u n (rd_opn u n x 48 en).2) (fun s => mr s.1 (rd_opn u n x 48 en).2) f9 false (rb_nms u n (rd_opn u n x 48 en).2 ((rd_opn u n x 48 en).1, D, R)) from if_pos (Or.inl rfl)]
  exact lpF_stk (st := Prod.fst) f9 _ w (rbnms_stk u n _ _ w (opn_stk u n x 48 en w h))
theorem nms_q {u : Nat → Nat} (hu : ∀ j, u j < 256) {n p s en : Nat} {D R R' : List (Nat × Nat)} (he : en ≤ n) (hn : n ≤ 2048) : agr (rd_nms u n (p, s, none) en D R).1 (tx_names u p en D R') (fun z => (∃ s' R1, rd_nms u n (p, s, none) en D R = ((z.1, s', none), z.2.1, R1)) ∧ p + 2 ≤ z.1 ∧ z.1 ≤ en) := by
  have e9 : tx_names u p en D R' = (eb (tx_element u p 48 en) (fun z4 => (@ite _ (z4.1 = z4.2) (Classical.propDecidable _) (.inl z4.2) (eb (loopE (nmB u z4.2) (fun t => ¬ (z4.2 ≤ t.1)) 2048 (z4.1, D, R')) (fun s39 => (.inr (s39.1, s39.2.1, s39.2.2))))))) := rfl
  rw [e9]
  refine agr.step (el_q (s := s) he) (fun w9 h9 => ?_) (fun z hz hn1 hq => ?_)
  · unfold rd_nms
    obtain ⟨f9, hf9⟩ : ∃ f9, 2048 = f9 + 1 := ⟨2047, rfl⟩
    rw [hf9]
    rw [show loopF (rb_nms u n (rd_opn u n (p, s, none) 48 en).2) (fun s9 => mr s9.1 (rd_opn u n (p, s, none) 48 en).2) (f9 + 1) true ((rd_opn u n (p, s, none) 48 en).1, D, R) = loopF (rb_nms u n (rd_opn u n (p, s, none) 48 en).2) (fun s9 => mr s9.1 (rd_opn u n (p, s, none) 48 en).2) f9 false (rb_nms u n (rd_opn u n (p, s, none) 48 en).2 ((rd_opn u n (p, s, none) 48 en).1, D, R)) from if_pos (Or.inl rfl)]
    exact lpF_stk (st := Prod.fst) f9 _ w9 (rbnms_stk u n _ _ w9 h9)
  · obtain ⟨q1, q2, q3, q4, q5⟩ := hq
    unfold rd_nms
    rw [q1]
    dsimp only
    have hf : z.2 - z.1 ≤ 2048 := by omega
    obtain ⟨f9, hf9⟩ : ∃ f9, 2048 = f9 + 1 := ⟨2047, rfl⟩
    rw [hf9] at hf ⊢
    by_cases hz0 : z.1 = z.2
    · refine agr.pos hz0 ?_
      rw [show loopF (rb_nms u n z.2) (fun s => mr s.1 z.2) (f9 + 1) true ((z.1, p, none), D, R) = loopF (rb_nms u n z.2) (fun s => mr s.1 z.2) f9 false (rb_nms u n z.2 ((z.1, p, none), D, R)) from if_pos (Or.inl rfl)]
      refine lpF_stk (st := Prod.fst) f9 _ z.2 ?_
      have e0 : rb_nms u n z.2 ((z.1, p, none), D, R) = (rd_req (rd_plain u n (z.1, p, none) 130 1 z.2).1 (zP ((fun z : Nat × Nat => visN u z.1 z.2) (rd_plain u n (z.1, p, none) 130 1 z.2).2)), (D ++ [((rd_plain u n (z.1, p, none) 130 1 z.2).2.1, (rd_plain u n (z.1, p, none) 130 1 z.2).2.2)]), R) := (if_neg (fun q => by have : z.1 < z.2 := q.2.1; omega)).trans ((if_neg (fun q => by have : z.1 < z.2 := q.2.1; omega)).trans (if_neg (fun q => by have : z.1 < z.2 := q.2.1; omega)))
      rw [e0]
      have hl := plr (u := u) (n := n) (p := z.1) (s := p) (tg := 130) (le := 1) (en := z.2) (by omega) (C := fun z : Nat × Nat => visN u z.1 z.2)
      refine hl.1 z.2 ?_
      unfold tx_element
      rw [if_neg (by omega)]
    · refine agr.neg hz0 ?_
      rw [loopF_t (M := fun s : rS × List (Nat × Nat) × List (Nat × Nat) => mr s.1 z.2) (s := ((z.1, p, none), D, R)) ⟨rfl, by show z.1 < z.2; omega⟩]
      have hL := loop_q (σ := rS × List (Nat × Nat) × List (Nat × Nat)) (τ := Nat × List (Nat × Nat) × List (Nat × Nat)) (B := rb_nms u n z.2) (st := Prod.fst) (RB := nmB u z.2) (pos := Prod.fst) (e := z.2) (I := fun s t => (∃ s' R1, s = ((t.1, s', none), t.2.1, R1)) ∧ t.1 ≤ z.2) (fun s t h => by
        obtain ⟨⟨s', R1, rfl⟩, h2⟩ := h
        exact ⟨rfl, rfl, h2⟩) (fun s t h hp => by
        obtain ⟨⟨s', R1, rfl⟩, h2⟩ := h
        obtain ⟨t1, t2, t3⟩ := t
        have hb := nmb_q hu (n := n) (p := t1) (s := s') (e := z.2) (D := t2) (R := R1) (R' := t3) (by omega) hn hp
        cases hR : nmB u z.2 (t1, t2, t3) with
        | inl w => rw [hR] at hb; exact hb
        | inr v => rw [hR] at hb; exact ⟨hb.1, ⟨hb.2.1, hb.2.2.2⟩, hb.2.2.1⟩) (f9 + 1) ((z.1, p, none), D, R) (z.1, D, R') ⟨⟨p, R, rfl⟩, q3⟩ hf
      refine agr.step hL (stk.rf _) (fun v hv hn2 hq2 => ?_)
      obtain ⟨⟨⟨s', R1, g1⟩, g2⟩, g3⟩ := hq2
      refine ⟨hn2, ⟨s', R1, g1⟩, by show p + 2 ≤ v.1; rw [g3]; omega, by show v.1 ≤ en; omega⟩
/-! Trees. -/
theorem rbtrs_stk (u : Nat → Nat) (n e : Nat) (s : rS × List (Nat × Nat) × List (Nat × Nat)) : stk s.1 (rb_trs u n e s).1 := by
  intro w h
  have h1 := opn_stk u n s.1 48 e w h
  unfold rb_trs
  generalize rd_opn u n s.1 48 e = o at h1 ⊢
  dsimp only
  rw [if_neg (fun q => by rw [h1] at q; cases q.1)]
  exact ((plain_stk u n o.1 130 0 _).tr ((req_stk _ _).tr (fin_stk _ _))) w h1
theorem trb_q {u : Nat → Nat} (hu : ∀ j, u j < 256) {n p s e tg : Nat} {D R : List (Nat × Nat)} {T : List (Nat × Nat × Nat)} (he : e ≤ n) (hn : n ≤ 2048) : agr (rb_trs u n e ((p, s, none), D, R)).1 (trB u tg e (p, T)) (fun z => (∃ s' D1 R1, rb_trs u n e ((p, s, none), D, R) = ((z.1, s', none), D1, R1)) ∧ p < z.1 ∧ z.1 ≤ e) := by
  unfold trB
  dsimp only
  refine agr.step (el_q (s := s) he) (fun w9 h9 => ?_) (fun z hz hn1 hq => ?_)
  · unfold rb_trs
    dsimp only
    generalize rd_opn u n (p, s, none) 48 e = o at h9 ⊢
    rw [if_neg (fun q => by rw [h9] at q; cases q.1)]
    exact ((plain_stk u n o.1 130 0 _).tr ((req_stk _ _).tr (fin_stk _ _))) w9 h9
  obtain ⟨q1, q2, q3, q4, q5⟩ := hq
  by_cases h164 : z.1 < z.2 ∧ u z.1 = 164
  · have e0 : rb_trs u n e ((p, s, none), D, R) = (let z61 := rd_opn u n (z.1, p, none) 164 z.2; (let z73 := rd_nam u n z61.1 z61.2; (let z83 := rd_fin z73.1 z61.2; (let z123 := rd_fin z83 z.2; (z123, D, (R ++ [(z73.2.2.1, z73.2.2.2)])))))) := by
      unfold rb_trs
      dsimp only
      rw [q1]
      exact if_pos ⟨rfl, h164⟩
    rw [e0, h164.2]
    refine agr.pos h164.1 ?_
    refine agr.neg (by decide) ?_
    rw [if_pos (by decide : 0 ≤ 164)]
    refine agr.step (el_q (u := u) (n := n) (p := z.1) (s := p) (tg := 164) (en := z.2) (by omega)) (fun w9 h9 => ((nam_stk u n _ _).tr ((fin_stk _ _).tr (fin_stk _ _))) w9 h9) (fun y hy hn3 hq3 => ?_)
    obtain ⟨r1, r2, r3, r4, r5⟩ := hq3
    rw [r1]
    dsimp only
    refine agr.neg (by decide) ?_
    refine agr.step (nam_q hu (n := n) (p := y.1) (s := z.1) (en := y.2) (by omega) hn) ((fin_stk _ _).tr (fin_stk _ _)) (fun v hv hn2 hq2 => ?_)
    obtain ⟨s', a, g1, g2, g3, g4, g5, g6, g7⟩ := hq2
    rw [g1]
    dsimp only
    rw [g2]
    refine agr.step (fin_q (u := u) (p := v.2.2) (s := s') (en := y.2)) (fin_stk _ _) (fun _ _ _ hq5 => ?_)
    rw [hq5.1, show v.2.2 = y.2 by omega]
    refine agr.step (fin_q (u := u) (p := y.2) (s := s') (en := z.2)) (stk.rf _) (fun _ _ _ hq6 => ?_)
    rw [hq6.1, show y.2 = z.2 by omega]
    exact ⟨rfl, ⟨s', _, _, rfl⟩, by show p < z.2; omega, q4⟩
  · have e0 : rb_trs u n e ((p, s, none), D, R) = (rd_fin (rd_req (rd_plain u n (z.1, p, none) 130 0 z.2).1 (zP ((fun z : Nat × Nat => visN u z.1 z.2) (rd_plain u n (z.1, p, none) 130 0 z.2).2))) z.2, (D ++ [((rd_plain u n (z.1, p, none) 130 0 z.2).2.1, (rd_plain u n (z.1, p, none) 130 0 z.2).2.2)]), R) := by
      unfold rb_trs
      dsimp only
      rw [q1]
      exact if_neg (fun q => h164 q.2)
    have hl := plr (u := u) (n := n) (p := z.1) (s := p) (tg := 130) (le := 0) (en := z.2) (by omega) (C := fun z : Nat × Nat => visN u z.1 z.2)
    rw [e0]
    by_cases hm : z.1 < z.2
    · refine agr.pos hm ?_
      by_cases h130 : u z.1 = 130
      · rw [h130]
        refine agr.neg (by decide) ?_
        rw [if_pos (by decide : 0 ≤ 130)]
        cases hE : tx_element u z.1 130 z.2 with
        | inl w => exact fin_stk _ _ w (hl.1 w hE)
        | inr y =>
          obtain ⟨l1, l2, l3, l4, l5⟩ := hl.2 y hE
          refine agr.ok rfl ?_
          refine agr.pos rfl ?_
          have hv := vis_eq (u := u) (a := y.1) (b := y.2) (fp := z.1) (le := 0) (by omega)
          by_cases hc : 0 ≤ y.2 - y.1 ∧ visN u y.1 y.2
          · refine agr.ok (hv.1 hc) ?_
            dsimp only
            refine agr.pos rfl ?_
            rw [(l2 hc).2]
            refine agr.step (fin_q (u := u) (p := y.2) (s := z.1) (en := z.2)) (stk.rf _) (fun _ _ _ hq6 => ?_)
            rw [hq6.1, show y.2 = z.2 by omega]
            exact ⟨rfl, ⟨z.1, _, _, rfl⟩, by show p < z.2; omega, q4⟩
          · exact agr.no (l1 hc) (hv.2 hc) (fin_stk _ _)
      · refine agr.pos ⟨by omega, h130, fun q => h164 ⟨hm, q⟩⟩ ?_
        exact fin_stk _ _ z.1 (hl.1 z.1 (el_tag hm h130))
    · refine agr.neg hm ?_
      have e : tx_element u z.1 130 z.2 = .inl z.2 := by
        unfold tx_element
        rw [if_neg hm]
      exact agr.no (hl.1 z.2 e) e (fin_stk _ _)
theorem trs_stk (u : Nat → Nat) (n : Nat) (x : rS) (tg en : Nat) (D R : List (Nat × Nat)) : stk x (rd_trs u n x tg en D R).1 := by
  intro w h
  unfold rd_trs
  obtain ⟨f9, hf9⟩ : ∃ f9, 2048 = f9 + 1 := ⟨2047, rfl⟩
  rw [hf9]
  rw [show loopF (rb_trs u n (rd_opn u n x tg en).2) (fun s => mr s.1 (rd_opn u n x tg en).2) (f9 + 1) true ((rd_opn u n x tg en).1, D, R) = loopF (rb_trs u n (rd_opn u n x tg en).2) (fun s => mr s.1 (rd_opn u n x tg en).2) f9 false (rb_trs u n (rd_opn u n x tg en).2 ((rd_opn u n x tg en).1, D, R)) from if_pos (Or.inl rfl)]
  exact lpF_stk (st := Prod.fst) f9 _ w (rbtrs_stk u n _ _ w (opn_stk u n x tg en w h))
theorem trs_q {u : Nat → Nat} (hu : ∀ j, u j < 256) {n p s tg en : Nat} {D R : List (Nat × Nat)} {T : List (Nat × Nat × Nat)} (he : en ≤ n) (hn : n ≤ 2048) : agr (rd_trs u n (p, s, none) tg en D R).1 (tx_trees u p en tg T) (fun z => (∃ s' D1 R1, rd_trs u n (p, s, none) tg en D R = ((z.1, s', none), D1, R1)) ∧ p + 2 ≤ z.1 ∧ z.1 ≤ en) := by
  have e9 : tx_trees u p en tg T = (eb (tx_element u p tg en) (fun z4 => (@ite _ (z4.1 = z4.2) (Classical.propDecidable _) (.inl z4.2) (eb (loopE (trB u tg z4.2) (fun t => ¬ (z4.2 ≤ t.1)) 2048 (z4.1, T)) (fun s39 => (.inr (s39.1, s39.2))))))) := rfl
  rw [e9]
  refine agr.step (el_q (s := s) he) (fun w9 h9 => ?_) (fun z hz hn1 hq => ?_)
  · unfold rd_trs
    obtain ⟨f9, hf9⟩ : ∃ f9, 2048 = f9 + 1 := ⟨2047, rfl⟩
    rw [hf9]
    rw [show loopF (rb_trs u n (rd_opn u n (p, s, none) tg en).2) (fun s9 => mr s9.1 (rd_opn u n (p, s, none) tg en).2) (f9 + 1) true ((rd_opn u n (p, s, none) tg en).1, D, R) = loopF (rb_trs u n (rd_opn u n (p, s, none) tg en).2) (fun s9 => mr s9.1 (rd_opn u n (p, s, none) tg en).2) f9 false (rb_trs u n (rd_opn u n (p, s, none) tg en).2 ((rd_opn u n (p, s, none) tg en).1, D, R)) from if_pos (Or.inl rfl)]
    exact lpF_stk (st := Prod.fst) f9 _ w9 (rbtrs_stk u n _ _ w9 h9)
  · obtain ⟨q1, q2, q3, q4, q5⟩ := hq
    unfold rd_trs
    rw [q1]
    dsimp only
    have hf : z.2 - z.1 ≤ 2048 := by omega
    obtain ⟨f9, hf9⟩ : ∃ f9, 2048 = f9 + 1 := ⟨2047, rfl⟩
    rw [hf9] at hf ⊢
    by_cases hz0 : z.1 = z.2
    · refine agr.pos hz0 ?_
      rw [show loopF (rb_trs u n z.2) (fun s => mr s.1 z.2) (f9 + 1) true ((z.1, p, none), D, R) = loopF (rb_trs u n z.2) (fun s => mr s.1 z.2) f9 false (rb_trs u n z.2 ((z.1, p, none), D, R)) from if_pos (Or.inl rfl)]
      refine lpF_stk (st := Prod.fst) f9 _ z.2 ?_
      have hb := trb_q hu (n := n) (p := z.1) (s := p) (e := z.2) (tg := tg) (D := D) (R := R) (T := T) (by omega) hn
      have e : trB u tg z.2 (z.1, T) = .inl z.2 := by
        unfold trB
        refine eb_no ?_
        unfold tx_element
        rw [if_neg (by show ¬ z.1 < z.2; omega)]
      rw [e] at hb
      exact hb
    · refine agr.neg hz0 ?_
      rw [loopF_t (M := fun s : rS × List (Nat × Nat) × List (Nat × Nat) => mr s.1 z.2) (s := ((z.1, p, none), D, R)) ⟨rfl, by show z.1 < z.2; omega⟩]
      have hL := loop_q (σ := rS × List (Nat × Nat) × List (Nat × Nat)) (τ := Nat × List (Nat × Nat × Nat)) (B := rb_trs u n z.2) (st := Prod.fst) (RB := trB u tg z.2) (pos := Prod.fst) (e := z.2) (I := fun s t => (∃ s' D1 R1, s = ((t.1, s', none), D1, R1)) ∧ t.1 ≤ z.2) (fun s t h => by
        obtain ⟨⟨s', D1, R1, rfl⟩, h2⟩ := h
        exact ⟨rfl, rfl, h2⟩) (fun s t h hp => by
        obtain ⟨⟨s', D1, R1, rfl⟩, h2⟩ := h
        obtain ⟨t1, t2⟩ := t
        have hb := trb_q hu (n := n) (p := t1) (s := s') (e := z.2) (tg := tg) (D := D1) (R := R1) (T := t2) (by omega) hn
        cases hR : trB u tg z.2 (t1, t2) with
        | inl w => rw [hR] at hb; exact hb
        | inr v => rw [hR] at hb; exact ⟨hb.1, ⟨hb.2.1, hb.2.2.2⟩, hb.2.2.1⟩) (f9 + 1) ((z.1, p, none), D, R) (z.1, T) ⟨⟨p, D, R, rfl⟩, q3⟩ hf
      refine agr.step hL (stk.rf _) (fun v hv hn2 hq2 => ?_)
      obtain ⟨⟨⟨s', D1, R1, g1⟩, g2⟩, g3⟩ := hq2
      refine ⟨hn2, ⟨s', D1, R1, g1⟩, by show p + 2 ≤ v.1; rw [g3]; omega, by show v.1 ≤ en; omega⟩
theorem iky_stk (u : Nat → Nat) (n : Nat) (x : rS) (en : Nat) : stk x (rd_iky u n x en).1 := (opn_stk u n x 48 en).tr ((plain_stk u n _ 128 1 _).tr (fin_stk _ _))
theorem agr.imp {α : Type} {y : rS} {R : Nat ⊕ α} {P Q : α → Prop} (h : agr y R P) (k : ∀ a, P a → Q a) : agr y R Q := by
  cases R with
  | inl w => exact h
  | inr a => exact ⟨h.1, k a h.2⟩
theorem iky_q {u : Nat → Nat} {β : Type} {n p s en : Nat} (he : en ≤ n) (F : Nat × Nat → Nat × Nat → β) : agr (rd_iky u n (p, s, none) en).1 (eb (tx_element u p 48 en) (fun z189 => (eb (tx_element u z189.1 128 z189.2) (fun z215 => (@ite _ (z215.1 = z215.2) (Classical.propDecidable _) (.inl z189.1) (eb (tx_done u z215.2 z189.2) (fun z269 => (.inr (F z189 z215))))))))) (fun b => ∃ z y s', b = F z y ∧ rd_iky u n (p, s, none) en = ((z.2, s', none), y.1, y.2) ∧ p + 2 ≤ z.2 ∧ z.2 ≤ en) := by
  unfold rd_iky
  dsimp only
  refine agr.step (el_q (s := s) he) (fun w9 h9 => ((plain_stk u n _ 128 1 _).tr (fin_stk _ _)) w9 h9) (fun z hz hn1 hq => ?_)
  obtain ⟨q1, q2, q3, q4, q5⟩ := hq
  rw [q1]
  dsimp only
  have hl := plain_q (u := u) (n := n) (p := z.1) (s := p) (tg := 128) (le := 1) (en := z.2) (by omega)
  cases hE : tx_element u z.1 128 z.2 with
  | inl w =>
    rw [hE] at hl
    exact fin_stk _ _ w hl
  | inr y =>
    have f := el_facts hE
    rw [hE] at hl
    have hl : agr _ (@ite _ (1 ≤ y.2 - y.1) (Classical.propDecidable _) (.inr y) (.inl z.1)) _ := hl
    refine agr.ok rfl ?_
    by_cases hb : y.1 = y.2
    · refine agr.pos hb ?_
      rw [if_neg (by omega)] at hl
      exact fin_stk _ _ z.1 hl
    · refine agr.neg hb ?_
      rw [if_pos (by omega)] at hl
      obtain ⟨_, l1, _⟩ := hl
      rw [l1]
      dsimp only
      refine agr.step (fin_q (u := u) (p := y.2) (s := z.1) (en := z.2)) (stk.rf _) (fun _ _ _ hq6 => ?_)
      have ey : y.2 = z.2 := by omega
      rw [hq6.1]
      exact ⟨rfl, z, y, z.1, rfl, by rw [ey], by omega, q4⟩
