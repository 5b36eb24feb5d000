/-! The class' readers and the reference's, continued. -/
theorem time_q {u : Nat → Nat} (hu : ∀ j, u j < 256) {n p s en : Nat} (he : en ≤ n) : agr (rd_time u n (p, s, none) en).1 (tx_time u p en) (fun z => (rd_time u n (p, s, none) en).1 = (z.1, p, none) ∧ p + 2 ≤ z.1 ∧ z.1 ≤ en ∧ (rd_time u n (p, s, none) en).2 = z.2) := by
  have e0 : (rd_time u n (p, s, none) en).1 = rd_lea (rd_opn u n (p, s, none) (tgN (isLg u (p, s, none) en)) en).1 (rd_opn u n (p, s, none) (tgN (isLg u (p, s, none) en)) en).2 (zP (tmOK u n (rd_opn u n (p, s, none) (tgN (isLg u (p, s, none) en)) en).1.1 (rd_opn u n (p, s, none) (tgN (isLg u (p, s, none) en)) en).2 (isLg u (p, s, none) en))) := rfl
  rw [e0]
  unfold tx_time
  by_cases hp : p < en
  · rw [if_pos hp]
    by_cases hb : ¬ ((u p) < 0) ∧ (¬ ((u p) = 23) ∧ (¬ ((u p) = 24)))
    · rw [if_pos hb]
      have hL : ¬ isLg u (p, s, none) en := fun q => hb.2.2 q.2.2
      have ht : tgN (isLg u (p, s, none) en) = 23 := if_neg hL
      have h := el_q (u := u) (n := n) (p := p) (s := s) (tg := 23) (en := en) he
      have e : tx_element u p 23 en = .inl p := by
        unfold tx_element
        rw [if_pos hp, if_pos (Or.inl hb.2.1)]
      rw [e] at h
      rw [ht]
      exact lea_stk _ _ _ p h
    · rw [if_neg hb]
      have ht3 : u p = 23 ∨ u p = 24 := by omega
      have ht : tgN (isLg u (p, s, none) en) = u p := by
        by_cases h24 : u p = 24
        · exact (if_pos ⟨rfl, hp, h24⟩).trans h24.symm
        · exact (if_neg (fun q => h24 q.2.2)).trans (by omega)
      rw [ht]
      dsimp only
      rw [if_pos (Nat.zero_le (u p))]
      refine agr.step (el_q he) (lea_stk _ _ _) (fun z hz hn1 hq => ?_)
      obtain ⟨q1, q2, q3, q4, q5⟩ := hq
      rw [q1]
      dsimp only
      by_cases h24 : u p = 24
      · have hL : isLg u (p, s, none) en := ⟨rfl, hp, h24⟩
        have ey : yoN (isLg u (p, s, none) en) = 4 := if_pos hL
        rw [if_neg (show ¬ u p = 23 by omega)]
        by_cases hlen : ¬ ((z.2 - z.1) = 15) ∨ (¬ ((u (z.2 - 1)) = 90))
        · rw [if_pos hlen, lea_no (zP_f (fun q => by have := tm_len hu (by omega) q; rw [ey] at this; omega)).symm]
          exact rfl
        · rw [if_neg hlen]
          have hT := tm_L (u := u) (n := n) (a := z.1) (z := z.2) hL hu (by omega) (by omega) (by omega)
          rw [if_pos h24]
          by_cases g0 : d2 u z.1
          · by_cases g2 : d2 u (z.1 + 2)
            · have l0 := tN_le g0
              have l2 := tN_le g2
              rw [if_neg (tw_0' g0), if_pos (show (0 : Int32) ≤ tw u (z.1 + 2) by rw [tw_y g2]; exact nI_pos' (by omega)), tw_y g0, tw_y g2]
              have eY : (100 * nI (tN u z.1)) + nI (tN u (z.1 + 2)) = nI (100 * tN u z.1 + tN u (z.1 + 2)) := by
                rw [show (100 : Int32) = nI 100 from rfl, nI_mul, nI_add]
              rw [eY]
              have hy : ((2050 : Int32) ≤ nI (100 * tN u z.1 + tN u (z.1 + 2))) ↔ 2050 ≤ 100 * tN u z.1 + tN u (z.1 + 2) := nI_leI (a := 2050) (by omega) (by omega)
              by_cases h20 : 2050 ≤ 100 * tN u z.1 + tN u (z.1 + 2)
              · rw [if_pos (hy.mpr h20)]
                refine agr.ok rfl ?_
                by_cases hB : tBad u (nI (100 * tN u z.1 + tN u (z.1 + 2))) (z.1 + 2 + 2)
                · refine agr.pos hB ?_
                  rw [lea_no (zP_f (fun q => (hT.mp q).2.2.2 hB)).symm]
                  exact rfl
                · refine agr.neg hB ?_
                  rw [lea_ok (zP_ne (hT.mpr ⟨g0, g2, h20, hB⟩))]
                  obtain ⟨m0, m2, m4, m6, m8, ⟨m1, m3⟩, k1⟩ := tm_parts hB
                  refine Eq.mpr (congrArg (fun R => agr _ R _) (tmE_v (y := 100 * tN u z.1 + tN u (z.1 + 2)) (b := z.1 + 2 + 2) (by omega) (by omega) m0 m1 m3 (fun V => .inr (z.2, ((((((V + ((tw u (z.1 + 2 + 2 + 2)).toInt64)) - 1) * 24) + ((tw u (z.1 + 2 + 2 + 4)).toInt64)) * 3600) + (60 * ((tw u (z.1 + 2 + 2 + 6)).toInt64))) + ((tw u (z.1 + 2 + 2 + 8)).toInt64))))) ?_
                  refine ⟨rfl, rfl, by show p + 2 ≤ z.2; omega, q4, ?_⟩
                  show tmV u n (rd_opn u n (p, s, none) (tgN (isLg u (p, s, none) en)) en).1.1 (isLg u (p, s, none) en) = _
                  rw [ht, q1]
                  show tmV u n z.1 _ = _
                  exact tmV_v (by unfold yr1 yr0; rw [if_pos hL, if_pos hL, dg_y g0 (by omega), dg_y g2 (by omega), show (100 : Int32) = nI 100 from rfl, nI_mul, nI_add]; congr 1; omega) (by rw [ey]) (by omega) (by omega) (by omega) hB
              · rw [if_neg (fun q => h20 (hy.mp q))]
                refine agr.no (x := (z.1, p, some p)) rfl rfl ?_
                rw [lea_no (zP_f (fun q => h20 (hT.mp q).2.2.1)).symm]
                exact stk.rf _
            · rw [if_neg (tw_0' g0), if_neg (show ¬ (0 : Int32) ≤ tw u (z.1 + 2) by rw [tw_n g2]; decide), if_neg (show ¬ (2050 : Int32) ≤ -1 by decide)]
              refine agr.no (x := (z.1, p, some p)) rfl rfl ?_
              rw [lea_no (zP_f (fun q => g2 (hT.mp q).2.1)).symm]
              exact stk.rf _
          · rw [if_pos (show tw u z.1 < 0 by rw [tw_n g0]; decide), if_neg (show ¬ (2050 : Int32) ≤ -1 by decide)]
            refine agr.no (x := (z.1, p, some p)) rfl rfl ?_
            rw [lea_no (zP_f (fun q => g0 (hT.mp q).1)).symm]
            exact stk.rf _
      · have h23 : u p = 23 := by omega
        have hL : ¬ isLg u (p, s, none) en := fun q => h24 q.2.2
        have ey : yoN (isLg u (p, s, none) en) = 2 := if_neg hL
        rw [if_pos h23]
        by_cases hlen : ¬ ((z.2 - z.1) = 13) ∨ (¬ ((u (z.2 - 1)) = 90))
        · rw [if_pos hlen, lea_no (zP_f (fun q => by have := tm_len hu (by omega) q; rw [ey] at this; omega)).symm]
          exact rfl
        · rw [if_neg hlen]
          have hT := tm_S (u := u) (n := n) (a := z.1) (z := z.2) hL hu (by omega) (by omega) (by omega)
          rw [if_neg h24]
          by_cases g0 : d2 u z.1
          · have l0 := tN_le g0
            rw [if_neg (tw_0' g0), tw_y g0]
            have eY : nI (tN u z.1) + nI (@ite _ ((50 : Int32) ≤ nI (tN u z.1)) (Classical.propDecidable _) 1900 2000) = nI (tN u z.1 + if 50 ≤ tN u z.1 then 1900 else 2000) := by
              rw [nI_add]
              by_cases h5 : 50 ≤ tN u z.1
              · rw [if_pos h5, if_pos (show (50 : Int32) ≤ nI (tN u z.1) from (nI_leI (a := 50) (by omega) (by omega)).mpr h5)]
              · rw [if_neg h5, if_neg (show ¬ (50 : Int32) ≤ nI (tN u z.1) from fun q => h5 ((nI_leI (a := 50) (by omega) (by omega)).mp q))]
            rw [eY]
            refine agr.ok rfl ?_
            by_cases hB : tBad u (nI (tN u z.1 + if 50 ≤ tN u z.1 then 1900 else 2000)) (z.1 + 2)
            · refine agr.pos hB ?_
              rw [lea_no (zP_f (fun q => (hT.mp q).2 hB)).symm]
              exact rfl
            · refine agr.neg hB ?_
              rw [lea_ok (zP_ne (hT.mpr ⟨g0, hB⟩))]
              have hyr9 : 1900 ≤ (tN u z.1 + if 50 ≤ tN u z.1 then 1900 else 2000) := by split <;> omega
              have hyr8 : (tN u z.1 + if 50 ≤ tN u z.1 then 1900 else 2000) < 10000 := by split <;> omega
              obtain ⟨m0, m2, m4, m6, m8, ⟨m1, m3⟩, k1⟩ := tm_parts hB
              refine Eq.mpr (congrArg (fun R => agr _ R _) (tmE_v (y := (tN u z.1 + if 50 ≤ tN u z.1 then 1900 else 2000)) (b := z.1 + 2) (by omega) (by omega) m0 m1 m3 (fun V => .inr (z.2, ((((((V + ((tw u (z.1 + 2 + 2)).toInt64)) - 1) * 24) + ((tw u (z.1 + 2 + 4)).toInt64)) * 3600) + (60 * ((tw u (z.1 + 2 + 6)).toInt64))) + ((tw u (z.1 + 2 + 8)).toInt64))))) ?_
              refine ⟨rfl, rfl, by show p + 2 ≤ z.2; omega, q4, ?_⟩
              show tmV u n (rd_opn u n (p, s, none) (tgN (isLg u (p, s, none) en)) en).1.1 (isLg u (p, s, none) en) = _
              rw [ht, q1]
              show tmV u n z.1 _ = _
              exact tmV_v (tm_yS hL g0 (by omega)) (by rw [ey]) (by omega) (by omega) (by omega) hB
          · rw [if_pos (show tw u z.1 < 0 by rw [tw_n g0]; decide)]
            refine agr.ok rfl ?_
            have hB : tBad u (tw u z.1) (z.1 + 2) := Or.inl (by rw [tw_n g0]; decide)
            refine agr.pos hB ?_
            rw [lea_no (zP_f (fun q => g0 (hT.mp q).1)).symm]
            exact rfl
  · rw [if_neg hp]
    have hL : ¬ isLg u (p, s, none) en := fun q => hp q.2.1
    have ht : tgN (isLg u (p, s, none) en) = 23 := if_neg hL
    rw [ht]
    have e : tx_element u p 23 en = .inl en := by
      unfold tx_element
      rw [if_neg hp]
    have h := el_q (u := u) (n := n) (p := p) (s := s) (tg := 23) (en := en) he
    rw [e] at h
    rw [eb_no e]
    exact lea_stk _ _ _ en h
theorem fnm_stk (u : Nat → Nat) (n : Nat) (x : rS) (en : Nat) : stk x (rd_fnm u n x en).1 := (nam_stk u n x en).tr (by
  unfold rd_fnm
  dsimp only
  split
  · exact ref_stk _ _
  · exact stk.rf _)
theorem fnm_q {u : Nat → Nat} (hu : ∀ j, u j < 256) {n p s en : Nat} (he : en ≤ n) (hn : n ≤ 2048) : agr (rd_fnm u n (p, s, none) en).1 (tx_issuer u p en) (fun z => ∃ s' a k, rd_fnm u n (p, s, none) en = ((z.2, s', none), k, a, z.2) ∧ z.1 = z.2 ∧ p + 2 ≤ a ∧ a < z.2 ∧ z.2 ≤ en) := by
  unfold tx_issuer rd_fnm
  dsimp only
  refine agr.step (nam_q (s := s) hu he hn) (fun w9 h9 => ?_) (fun z hz hn1 hq => ?_)
  · split
    · exact ref_stk _ _ w9 h9
    · exact h9
  · obtain ⟨s', a, q1, q2, q3, q4, q5, q6, q7⟩ := hq
    rw [q1]
    dsimp only
    by_cases hb : 0 < z.2.1
    · have ha : a < z.2.2 := by
        rcases Nat.lt_or_eq_of_le q4 with h | h
        · exact h
        · have := q7 h; omega
      rw [if_pos hb, if_neg (by omega)]
      exact ⟨rfl, s', a, z.2.1, rfl, q2, q3, ha, q5⟩
    · have ha : ¬ a < z.2.2 := fun q => hb (q6 q)
      rw [if_neg hb, if_pos (by omega)]
      exact rfl
