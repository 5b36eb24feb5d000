/-! The reference's methods over its side of the law. -/
set_option maxHeartbeats 4000000 in
theorem ri_chain (l : Launch) (dC : Nat → ClassId) (dI : Nat → Nat → Nat) (sb : sB) (γ : cG) (gT : ClassId) (mo : Nat) (fu : Nat → Nat) (fd : Nat) (wr : Int32) (nc nl : Nat) (xc xl : Nat → TD) (wx : Nat → Nat) (er : Int32) (G : va_W) (i : Int32) (sz : Nat) (h : RI γ gT mo fu fd wr nc nl xc xl wx er G)  : RCi l y_Model_chain w_Model_chain ({ frames := 1, cells := 0, slots := 0, locals := 22 }) [.ref mo, .int i] (dC, dI) sb (ty5 γ gT) G sz (fun r G' => ∃ er', RI γ gT mo fu fd wr nc nl xc xl wx er' G') := by
  obtain ⟨κ, Ad, τ, a, sp, x, fS, fV, fm, fr, fw, cz, mqs, msz, mch, mft, mpt, mdp, mvd, mmk, nw, hTy, kmo, kb, hn, kt, hst, hrv, hb, hxc, hxl, hij⟩ := h
  have e7 := rn7 hn.1
  refine rci_of (m_Model_chain l dC dI sb γ κ Ad τ gT G mo (a 1) (a 2) (a 3) sp (a 5) (a 6) (a 7) (a 8) (a 9) (a 10) (a 11) (a 12) (a 13) (a 14) (a 15) (a 16) (a 17) er wr mqs msz mch mft mpt mdp mvd mmk nw nc nl cz fd i sz hTy kmo kt.2.2.2.2.2.2.2.2.2 hb.2.2.1) rfl rfl (fun r G' hD' hw => ?_)
  obtain ⟨hT, hF, e9, k9⟩ := hw
  exact ⟨e9, κ, Ad, τ, a, sp, x, fS, fV, fm, fr, fw, cz, mqs, msz, mch, mft, mpt, mdp, mvd, mmk, nw, hT, k9, (kb.f1 hn hF), hn, kt, hst, hrv, hb, hxc, hxl, hij⟩
set_option maxHeartbeats 4000000 in
theorem ri_count (l : Launch) (dC : Nat → ClassId) (dI : Nat → Nat → Nat) (sb : sB) (γ : cG) (gT : ClassId) (mo : Nat) (fu : Nat → Nat) (fd : Nat) (wr : Int32) (nc nl : Nat) (xc xl : Nat → TD) (wx : Nat → Nat) (er : Int32) (G : va_W) (i : Int32) (sz : Nat) (h : RI γ gT mo fu fd wr nc nl xc xl wx er G)  : RCi l y_Model_count w_Model_count ({ frames := 1, cells := 0, slots := 0, locals := 22 }) [.ref mo, .int i] (dC, dI) sb (ty5 γ gT) G sz (fun r G' => ∃ er', RI γ gT mo fu fd wr nc nl xc xl wx er' G') := by
  obtain ⟨κ, Ad, τ, a, sp, x, fS, fV, fm, fr, fw, cz, mqs, msz, mch, mft, mpt, mdp, mvd, mmk, nw, hTy, kmo, kb, hn, kt, hst, hrv, hb, hxc, hxl, hij⟩ := h
  have e7 := rn7 hn.1
  refine rci_of (m_Model_count l dC dI sb γ κ Ad τ gT G mo (a 1) (a 2) (a 3) sp (a 5) (a 6) (a 7) (a 8) (a 9) (a 10) (a 11) (a 12) (a 13) (a 14) (a 15) (a 16) (a 17) er wr mqs msz mch mft mpt mdp mvd mmk nw nc nl cz fd i sz hTy kmo) rfl rfl (fun r G' hD' hw => ?_)
  obtain ⟨hT, hF, e9, k9⟩ := hw
  exact ⟨e9, κ, Ad, τ, a, sp, x, fS, fV, fm, fr, fw, cz, mqs, msz, mch, mft, mpt, mdp, mvd, mmk, nw, hT, k9, (kb.f1 hn hF), hn, kt, hst, hrv, hb, hxc, hxl, hij⟩
set_option maxHeartbeats 4000000 in
theorem ri_digest (l : Launch) (dC : Nat → ClassId) (dI : Nat → Nat → Nat) (sb : sB) (γ : cG) (gT : ClassId) (mo : Nat) (fu : Nat → Nat) (fd : Nat) (wr : Int32) (nc nl : Nat) (xc xl : Nat → TD) (wx : Nat → Nat) (er : Int32) (G : va_W) (i j : Int32) (sz : Nat) (h : RI γ gT mo fu fd wr nc nl xc xl wx er G)  : RCi l y_Model_digest0 w_Model_digest0 ({ frames := 3, cells := 0, slots := 0, locals := 77 }) [.ref mo, .int i, .int j] (dC, dI) sb (ty5 γ gT) G sz (fun r G' => ∃ er', RI γ gT mo fu fd wr nc nl xc xl wx er' G') := by
  obtain ⟨κ, Ad, τ, a, sp, x, fS, fV, fm, fr, fw, cz, mqs, msz, mch, mft, mpt, mdp, mvd, mmk, nw, hTy, kmo, kb, hn, kt, hst, hrv, hb, hxc, hxl, hij⟩ := h
  have e7 := rn7 hn.1
  refine rci_of (m_Model_digest0 l dC dI sb γ κ Ad τ gT G mo (a 1) (a 2) (a 3) sp (a 5) (a 6) (a 7) (a 8) (a 9) (a 10) (a 11) (a 12) (a 13) (a 14) (a 15) (a 16) (a 17) er wr mqs msz mch mft mpt mdp mvd mmk nw nc nl cz fd i j fS sz hTy kmo kb.2.1 kt.1 kt.2.1 kt.2.2.1 kt.2.2.2.2.1 kt.2.2.2.1 (e7.1.2.1) hst hb.1) rfl rfl (fun r G' hD' hw => ?_)
  obtain ⟨hT, hF, e9, k9⟩ := hw
  exact ⟨e9, κ, Ad, τ, a, sp, x, fS, fV, fm, fr, fw, cz, mqs, msz, mch, mft, mpt, mdp, mvd, mmk, nw, hT, k9, (kb.f1 hn hF), hn, kt, hst, hrv, hb, hxc, hxl, hij⟩
set_option maxHeartbeats 4000000 in
theorem ri_wrong (l : Launch) (dC : Nat → ClassId) (dI : Nat → Nat → Nat) (sb : sB) (γ : cG) (gT : ClassId) (mo : Nat) (fu : Nat → Nat) (fd : Nat) (wr : Int32) (nc nl : Nat) (xc xl : Nat → TD) (wx : Nat → Nat) (er : Int32) (G : va_W)  (sz : Nat) (h : RI γ gT mo fu fd wr nc nl xc xl wx er G)  : RCi l y_Model_wrong w_Model_wrong ({ frames := 0, cells := 0, slots := 0, locals := 0 }) [.ref mo] (dC, dI) sb (ty5 γ gT) G sz (fun r G' => r = wr ∧ RI γ gT mo fu fd wr nc nl xc xl wx 0 G') := by
  obtain ⟨κ, Ad, τ, a, sp, x, fS, fV, fm, fr, fw, cz, mqs, msz, mch, mft, mpt, mdp, mvd, mmk, nw, hTy, kmo, kb, hn, kt, hst, hrv, hb, hxc, hxl, hij⟩ := h
  have e7 := rn7 hn.1
  refine rci_of (mt_Model_wrong l dC dI sb γ κ Ad τ gT G mo (a 1) (a 2) (a 3) sp (a 5) (a 6) (a 7) (a 8) (a 9) (a 10) (a 11) (a 12) (a 13) (a 14) (a 15) (a 16) (a 17) er wr mqs msz mch mft mpt mdp mvd mmk nw nc nl cz fd sz hTy kmo) rfl rfl (fun r G' hD' hw => ?_)
  obtain ⟨hT, hF, hr, k9⟩ := hw
  exact ⟨hr, κ, Ad, τ, a, sp, x, fS, fV, fm, fr, fw, cz, mqs, msz, mch, mft, mpt, mdp, mvd, mmk, nw, hT, k9, (kb.f1 hn hF), hn, kt, hst, hrv, hb, hxc, hxl, hij⟩
set_option maxHeartbeats 4000000 in
theorem ri_feed (l : Launch) (dC : Nat → ClassId) (dI : Nat → Nat → Nat) (sb : sB) (γ : cG) (gT : ClassId) (mo : Nat) (fu : Nat → Nat) (fd : Nat) (wr : Int32) (nc nl : Nat) (xc xl : Nat → TD) (wx : Nat → Nat) (er : Int32) (G : va_W) (x0 x1 x2 x3 x4 : Int32) (sz : Nat) (h : RI γ gT mo fu fd wr nc nl xc xl wx er G)  : RCi l y_Model_feed w_Model_feed ({ frames := 1, cells := 0, slots := 0, locals := 22 }) [.ref mo, .int x0, .int x1, .int x2, .int x3, .int x4] (dC, dI) sb (ty5 γ gT) G sz (fun r G' => (fd ≤ 2040 ∧ r = nI (fd + 20) ∧ RI γ gT mo (fw20 fu fd x0 x1 x2 x3 x4) (fd + 20) wr nc nl xc xl wx 0 G') ∨ (2040 < fd ∧ r = 0 ∧ RI γ gT mo fu fd wr nc nl xc xl wx 1 G')) := by
  obtain ⟨κ, Ad, τ, a, sp, x, fS, fV, fm, fr, fw, cz, mqs, msz, mch, mft, mpt, mdp, mvd, mmk, nw, hTy, kmo, kb, hn, kt, hst, hrv, hb, hxc, hxl, hij⟩ := h
  have e7 := rn7 hn.1
  by_cases hfd : fd ≤ 2040
  · refine rci_of (m_Model_feed_0 l dC dI sb γ κ Ad τ gT G mo (a 1) (a 2) (a 3) sp (a 5) (a 6) (a 7) (a 8) (a 9) (a 10) (a 11) (a 12) (a 13) (a 14) (a 15) (a 16) (a 17) er wr mqs msz mch mft mpt mdp mvd mmk nw nc nl cz fd x0 x1 x2 x3 x4 (tI fu) sz hTy kmo kb.1 (e7.1.1) (by omega)) rfl rfl (fun r G' hD' hw => ?_)
    obtain ⟨hT, hF, hr, k9, f9, ko, hj⟩ := hw
    rw [fed_tI hj] at ko
    exact Or.inl ⟨hfd, hr, κ, Ad, τ, a, sp, x, fS, fV, fm, fr, fw, cz, mqs, msz, mch, mft, mpt, mdp, mvd, mmk, nw, hT, k9, (kb.f4 hn hF ko (fw20_lt kb.2.2.2.2.2.2.2.2.2.2 _ _ _ _ _ _)), hn, kt, hst, hrv, ⟨hb.1, hb.2.1, hb.2.2.1, by omega⟩, hxc, hxl, hij⟩
  · refine rci_of (m_Model_feed_1 l dC dI sb γ κ Ad τ gT G mo (a 1) (a 2) (a 3) sp (a 5) (a 6) (a 7) (a 8) (a 9) (a 10) (a 11) (a 12) (a 13) (a 14) (a 15) (a 16) (a 17) er wr mqs msz mch mft mpt mdp mvd mmk nw nc nl cz fd x0 x1 x2 x3 x4 sz hTy kmo (by omega) hb.2.2.2) rfl rfl (fun r G' hD' hw => ?_)
    obtain ⟨hT, hF, hr, k9⟩ := hw
    exact Or.inr ⟨by omega, hr, κ, Ad, τ, a, sp, x, fS, fV, fm, fr, fw, cz, mqs, msz, mch, mft, mpt, mdp, mvd, mmk, nw, hT, k9, (kb.f1 hn hF), hn, kt, hst, hrv, hb, hxc, hxl, hij⟩
set_option maxHeartbeats 4000000 in
theorem ri_trust (l : Launch) (dC : Nat → ClassId) (dI : Nat → Nat → Nat) (sb : sB) (γ : cG) (gT : ClassId) (mo : Nat) (fu : Nat → Nat) (fd : Nat) (wr : Int32) (nc nl : Nat) (xc xl : Nat → TD) (wx : Nat → Nat) (er : Int32) (G : va_W) (i v : Int32) (sz : Nat) (h : RI γ gT mo fu fd wr nc nl xc xl wx er G) (hv : b01 v) : RCi l y_Model_trust w_Model_trust ({ frames := 2, cells := 0, slots := 0, locals := 44 }) [.ref mo, .int i, .int v] (dC, dI) sb (ty5 γ gT) G sz (fun r G' => (∃ k, k < nc ∧ i = nI k ∧ r = (xc k).I 42 ∧ RI γ gT mo fu fd wr nc nl (vU xc k (tUp (xc k) v)) xl wx 0 G') ∨ (¬ (¬ i < 0 ∧ i < nI nc) ∧ r = 0 ∧ RI γ gT mo fu fd wr nc nl xc xl wx 1 G')) := by
  obtain ⟨κ, Ad, τ, a, sp, x, fS, fV, fm, fr, fw, cz, mqs, msz, mch, mft, mpt, mdp, mvd, mmk, nw, hTy, kmo, kb, hn, kt, hst, hrv, hb, hxc, hxl, hij⟩ := h
  have e7 := rn7 hn.1
  by_cases hi : ¬ i < 0 ∧ i < nI nc
  · obtain ⟨k, hk, e9⟩ := nI_at9 hi.1 hi.2 (by omega)
    subst e9
    rcases hv with rfl | rfl
    · refine rci_of (m_Model_trust_ok0 l dC dI sb γ κ Ad τ gT G mo (a 1) (a 2) (a 3) sp (a 5) (a 6) (a 7) (a 8) (a 9) (a 10) (a 11) (a 12) (a 13) (a 14) (a 15) (a 16) (a 17) er wr mqs msz mch mft mpt mdp mvd mmk nw nc nl cz fd fS k sz hTy kmo kb.2.1 (e7.1.2.1) hst hb.1 hk) rfl rfl (fun r G' hD' hw => ?_)
      obtain ⟨-, hF, t, ht, hT, hr, k9⟩ := hw
      refine Or.inl ⟨k, hk, rfl, by rw [hxc k hk t ht]; exact hr, κ, Ad, (tTr τ t (0 : Int32)), a, sp, x, fS, fV, fm, fr, fw, cz, mqs, msz, mch, mft, mpt, mdp, mvd, mmk, nw, hT, k9, (kb.f1 hn hF), hn, kt, hst.tr (by unfold b01; decide) t, hrv.tr t, hb, fun z hz t' ht' => ?_, fun z hz t' ht' => ?_, hij⟩
      · by_cases hzk : z = k
        · subst hzk
          obtain rfl : t = t' := Option.some.inj (ht.symm.trans ht')
          have e1 : vU xc z (tUp (xc z) (0 : Int32)) z = _ := if_pos rfl
          rw [e1, tTr_at, hxc z hz t ht]
        · have e1 : vU xc k (tUp (xc k) (0 : Int32)) z = xc z := if_neg hzk
          have hne : ¬ t' = t := fun e => hzk (hij.1 z k hz hk (by rw [ht, ht', e]))
          have e2 : tTr τ t (0 : Int32) t' = τ t' := if_neg hne
          rw [e1, e2]
          exact hxc z hz t' ht'
      · obtain ⟨t2, f1, g1, c1⟩ := hrv z hz
        obtain ⟨t3, f2, g2, c2⟩ := hst k hk
        obtain rfl : t' = t2 := Option.some.inj (ht'.symm.trans f1)
        obtain rfl : t = t3 := Option.some.inj (ht.symm.trans f2)
        have hne : ¬ t' = t := fun e => hij.2 k z hk hz (by rw [ht, ht', e])
        have e2 : tTr τ t (0 : Int32) t' = τ t' := if_neg hne
        rw [e2]
        exact hxl z hz t' ht'
    · refine rci_of (m_Model_trust_ok1 l dC dI sb γ κ Ad τ gT G mo (a 1) (a 2) (a 3) sp (a 5) (a 6) (a 7) (a 8) (a 9) (a 10) (a 11) (a 12) (a 13) (a 14) (a 15) (a 16) (a 17) er wr mqs msz mch mft mpt mdp mvd mmk nw nc nl cz fd fS k sz hTy kmo kb.2.1 (e7.1.2.1) hst hb.1 hk) rfl rfl (fun r G' hD' hw => ?_)
      obtain ⟨-, hF, t, ht, hT, hr, k9⟩ := hw
      refine Or.inl ⟨k, hk, rfl, by rw [hxc k hk t ht]; exact hr, κ, Ad, (tTr τ t (1 : Int32)), a, sp, x, fS, fV, fm, fr, fw, cz, mqs, msz, mch, mft, mpt, mdp, mvd, mmk, nw, hT, k9, (kb.f1 hn hF), hn, kt, hst.tr (by unfold b01; decide) t, hrv.tr t, hb, fun z hz t' ht' => ?_, fun z hz t' ht' => ?_, hij⟩
      · by_cases hzk : z = k
        · subst hzk
          obtain rfl : t = t' := Option.some.inj (ht.symm.trans ht')
          have e1 : vU xc z (tUp (xc z) (1 : Int32)) z = _ := if_pos rfl
          rw [e1, tTr_at, hxc z hz t ht]
        · have e1 : vU xc k (tUp (xc k) (1 : Int32)) z = xc z := if_neg hzk
          have hne : ¬ t' = t := fun e => hzk (hij.1 z k hz hk (by rw [ht, ht', e]))
          have e2 : tTr τ t (1 : Int32) t' = τ t' := if_neg hne
          rw [e1, e2]
          exact hxc z hz t' ht'
      · obtain ⟨t2, f1, g1, c1⟩ := hrv z hz
        obtain ⟨t3, f2, g2, c2⟩ := hst k hk
        obtain rfl : t' = t2 := Option.some.inj (ht'.symm.trans f1)
        obtain rfl : t = t3 := Option.some.inj (ht.symm.trans f2)
        have hne : ¬ t' = t := fun e => hij.2 k z hk hz (by rw [ht, ht', e])
        have e2 : tTr τ t (1 : Int32) t' = τ t' := if_neg hne
        rw [e2]
        exact hxl z hz t' ht'
  · refine rci_of (m_Model_trust_1 l dC dI sb γ κ Ad τ gT G mo (a 1) (a 2) (a 3) sp (a 5) (a 6) (a 7) (a 8) (a 9) (a 10) (a 11) (a 12) (a 13) (a 14) (a 15) (a 16) (a 17) er wr mqs msz mch mft mpt mdp mvd mmk nw nc nl cz fd i v sz hTy kmo hi hb.1) rfl rfl (fun r G' hD' hw => ?_)
    obtain ⟨hT, hF, hr, k9⟩ := hw
    exact Or.inr ⟨hi, hr, κ, Ad, τ, a, sp, x, fS, fV, fm, fr, fw, cz, mqs, msz, mch, mft, mpt, mdp, mvd, mmk, nw, hT, k9, (kb.f1 hn hF), hn, kt, hst, hrv, hb, hxc, hxl, hij⟩
