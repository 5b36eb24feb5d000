/-! The reference's other methods over its side of the law. -/
theorem nI_up {j : Int32} {n : Nat} (h1 : ¬ j < 0) (h2 : ¬ nI n < j) (hn : n < 2 ^ 31) : ∃ m, m ≤ n ∧ j = nI m := by
  obtain ⟨m, hm, rfl⟩ := nI_of h1
  rw [nI_ltI hn hm] at h2
  exact ⟨m, by omega, rfl⟩
theorem nI_116 {j : Int32} (h1 : ¬ j < 1) (h2 : ¬ 16 < j) : ∃ m, j = nI m ∧ 1 ≤ m ∧ m ≤ 16 := by
  have h0 : ¬ j < 0 := fun h => h1 (Int32.lt_trans h (by decide))
  obtain ⟨m, hm, rfl⟩ := nI_up h0 (show ¬ nI 16 < j from h2) (by decide)
  refine ⟨m, rfl, ?_, hm⟩
  have h3 : ¬ nI m < nI 1 := h1
  rw [nI_ltI (by omega) (by decide)] at h3
  omega
theorem lt4 {j : Nat} (h : j ≤ 3) : j = 0 ∨ j = 1 ∨ j = 2 ∨ j = 3 := by omega
set_option maxHeartbeats 4000000 in
theorem ri_signed (l : Launch) (dC : Nat → ClassId) (dI : Nat → Nat → Nat) (sb : sB) (γ : cG) (gT : ClassId) (mo : Nat) (fu : Nat → Nat) (fd : Nat) (wr : Int32) (nc nl : Nat) (xc xl : Nat → TD) (wx : Nat → Nat) (vs : sS) (er : Int32) (G : va_W) (b i j : Int32) (sz : Nat) (h : RI γ gT mo fu fd wr nc nl xc xl wx vs er G) (hv : b01 b) : RCi l y_Model_signed w_Model_signed ({ frames := 6, cells := 0, slots := 0, locals := 139 }) [.ref mo, .int b, .int i, .int j] (dC, dI) sb (ty5 γ gT) G sz (fun r G' => (∃ k k2 : Nat, i = nI k ∧ j = nI k2 ∧ k2 < nc ∧ ((b = 0 ∧ k < nc ∧ bz r (sgT (xc k) (xc k2))) ∨ (¬ b = 0 ∧ k < nl ∧ bz r (sgT (xl k) (xc k2)))) ∧ RI γ gT mo fu fd wr nc nl xc xl wx vs 0 G') ∨ (¬ ((¬ j < 0 ∧ j < nI nc) ∧ (¬ b = 0 → (¬ i < 0 ∧ i < nI nl)) ∧ (b = 0 → (¬ i < 0 ∧ i < nI nc))) ∧ RI γ gT mo fu fd wr nc nl xc xl wx vs 1 G')) := by
  obtain ⟨κ, Ad, τ, a, sp, x, fS, fV, fm, fr, fw, ff, cz, mqs, msz, mch, mft, mpt, mdp, mvd, mmk, nw, hTy, kmo, kb, hn, kt, hst, hrv, hb, hxc, hxl, hij⟩ := h
  have e7 := rn7 hn.1
  rcases hv with rfl | rfl
  · refine rci_of (m_Model_signed_0 l dC dI sb γ κ Ad τ gT G mo (a 1) (a 2) (a 3) sp (a 5) (a 6) (a 7) (a 8) (a 9) (a 10) (a 11) (a 12) (a 13) (a 14) (a 15) (a 16) (a 17) er wr mqs msz mch mft mpt mdp mvd mmk nw nc nl cz fd i j fm fr fS fV sz hTy kmo kb.2.2.2.1.1 kb.2.2.2.2.1.1 kb.2.1 kb.2.2.1 kt.2.2.2.2.2.2.2.2.1 kt.2.2.2.2.2.2.2.1 kt.2.2.2.2.2.2.1 kt.2.2.2.2.2.1 kt.1 kt.2.1 kt.2.2.1 kt.2.2.2.2.1 kt.2.2.2.1 (e7.1.2.2.2.1) (e7.1.2.2.2.2.1) (e7.1.2.1) (e7.1.2.2.1) (e7.2.2.2.2.1.1) ((Ne.symm (e7.2.2.1.2.1))) ((Ne.symm (e7.2.2.2.1.1))) ((Ne.symm (e7.2.2.1.2.2.1))) ((Ne.symm (e7.2.2.2.1.2.1))) (e7.2.2.1.1) hst hrv hb.1 hb.2.1 kb.2.2.2.1.2 kb.2.2.2.2.1.2) rfl rfl (fun r G' hD' hw => ?_)
    obtain ⟨hT, hF, hs, ⟨f1, b1, g1⟩, ⟨f2, b2, g2⟩⟩ := hw
    rcases hs with ⟨k, k2, t, t2, q9, hk, hi, hk2, hj, ht, ht2, hr, k9⟩ | ⟨hno, k9⟩
    · exact Or.inl ⟨k, k2, hi, hj, hk2, Or.inl ⟨rfl, hk, by rw [hxc k hk t ht, hxc k2 hk2 t2 ht2]; exact hr⟩, κ, Ad, τ, a, sp, x, fS, fV, f1, f2, fw, ff, cz, q9, msz, mch, mft, mpt, mdp, mvd, mmk, nw, hT, k9, (kb.f2 hn hF ⟨g1, b1⟩ ⟨g2, b2⟩), hn, kt, hst, hrv, hb, hxc, hxl, hij⟩
    · exact Or.inr ⟨fun q => hno ⟨q.2.2 rfl, q.1⟩, κ, Ad, τ, a, sp, x, fS, fV, f1, f2, fw, ff, cz, mqs, msz, mch, mft, mpt, mdp, mvd, mmk, nw, hT, k9, (kb.f2 hn hF ⟨g1, b1⟩ ⟨g2, b2⟩), hn, kt, hst, hrv, hb, hxc, hxl, hij⟩
  · refine rci_of (m_Model_signed_1 l dC dI sb γ κ Ad τ gT G mo (a 1) (a 2) (a 3) sp (a 5) (a 6) (a 7) (a 8) (a 9) (a 10) (a 11) (a 12) (a 13) (a 14) (a 15) (a 16) (a 17) er wr mqs msz mch mft mpt mdp mvd mmk nw nc nl cz fd i j fm fr fS fV sz hTy kmo kb.2.2.2.1.1 kb.2.2.2.2.1.1 kb.2.1 kb.2.2.1 kt.2.2.2.2.2.2.2.2.1 kt.2.2.2.2.2.2.2.1 kt.2.2.2.2.2.2.1 kt.2.2.2.2.2.1 kt.1 kt.2.1 kt.2.2.1 kt.2.2.2.2.1 kt.2.2.2.1 (e7.1.2.2.2.1) (e7.1.2.2.2.2.1) (e7.1.2.1) (e7.1.2.2.1) (e7.2.2.2.2.1.1) ((Ne.symm (e7.2.2.1.2.1))) ((Ne.symm (e7.2.2.2.1.1))) ((Ne.symm (e7.2.2.1.2.2.1))) ((Ne.symm (e7.2.2.2.1.2.1))) (e7.2.2.1.1) hst hrv hb.1 hb.2.1 kb.2.2.2.1.2 kb.2.2.2.2.1.2) rfl rfl (fun r G' hD' hw => ?_)
    obtain ⟨hT, hF, hs, ⟨f1, b1, g1⟩, ⟨f2, b2, g2⟩⟩ := hw
    rcases hs with ⟨k, k2, t, t2, q9, hk, hi, hk2, hj, ht, ht2, hr, k9⟩ | ⟨hno, k9⟩
    · exact Or.inl ⟨k, k2, hi, hj, hk2, Or.inr ⟨by decide, hk, by rw [hxl k hk t ht, hxc k2 hk2 t2 ht2]; exact hr⟩, κ, Ad, τ, a, sp, x, fS, fV, f1, f2, fw, ff, cz, q9, msz, mch, mft, mpt, mdp, mvd, mmk, nw, hT, k9, (kb.f2 hn hF ⟨g1, b1⟩ ⟨g2, b2⟩), hn, kt, hst, hrv, hb, hxc, hxl, hij⟩
    · exact Or.inr ⟨fun q => hno ⟨q.2.1 (by decide), q.1⟩, κ, Ad, τ, a, sp, x, fS, fV, f1, f2, fw, ff, cz, mqs, msz, mch, mft, mpt, mdp, mvd, mmk, nw, hT, k9, (kb.f2 hn hF ⟨g1, b1⟩ ⟨g2, b2⟩), hn, kt, hst, hrv, hb, hxc, hxl, hij⟩
set_option maxHeartbeats 4000000 in
theorem ri_covers (l : Launch) (dC : Nat → ClassId) (dI : Nat → Nat → Nat) (sb : sB) (γ : cG) (gT : ClassId) (mo : Nat) (fu : Nat → Nat) (fd : Nat) (wr : Int32) (nc nl : Nat) (xc xl : Nat → TD) (wx : Nat → Nat) (vs : sS) (er : Int32) (G : va_W) (i : Int32) (x0 x1 x2 x3 : Int64) (sz : Nat) (h : RI γ gT mo fu fd wr nc nl xc xl wx vs er G)  : RCi l y_Model_covers w_Model_covers ({ frames := 3, cells := 0, slots := 0, locals := 68 }) [.ref mo, .int i, .long x0, .long x1, .long x2, .long x3] (dC, dI) sb (ty5 γ gT) G sz (fun r G' => ∃ er', RI γ gT mo fu fd wr nc nl xc xl wx vs er' G') := by
  obtain ⟨κ, Ad, τ, a, sp, x, fS, fV, fm, fr, fw, ff, cz, mqs, msz, mch, mft, mpt, mdp, mvd, mmk, nw, hTy, kmo, kb, hn, kt, hst, hrv, hb, hxc, hxl, hij⟩ := h
  have e7 := rn7 hn.1
  by_cases hi : ¬ i < 0 ∧ i < nI nc
  · obtain ⟨k, hk, e9⟩ := nI_at9 hi.1 hi.2 (by omega)
    subst e9
    refine rci_of (m_Model_covers_0 l dC dI sb γ κ Ad τ gT G mo (a 1) (a 2) (a 3) sp (a 5) (a 6) (a 7) (a 8) (a 9) (a 10) (a 11) (a 12) (a 13) (a 14) (a 15) (a 16) (a 17) er wr mqs msz mch mft mpt mdp mvd mmk nw nc nl cz fd fS k x0 x1 x2 x3 sz hTy kmo kb.2.1 kt.2.2.2.2.2.1 (e7.1.2.1) hst hb.1 hk) rfl rfl (fun r G' hD' hw => ?_)
    obtain ⟨hT, hF, k9⟩ := hw
    exact ⟨0, κ, Ad, τ, a, sp, x, fS, fV, fm, fr, fw, ff, cz, mqs, msz, mch, mft, mpt, mdp, mvd, mmk, nw, hT, k9, (kb.f1 hn hF), hn, kt, hst, hrv, hb, hxc, hxl, hij⟩
  · refine rci_of (m_Model_covers_1 l dC dI sb γ κ Ad τ gT G mo (a 1) (a 2) (a 3) sp (a 5) (a 6) (a 7) (a 8) (a 9) (a 10) (a 11) (a 12) (a 13) (a 14) (a 15) (a 16) (a 17) er wr mqs msz mch mft mpt mdp mvd mmk nw nc nl cz fd i x0 x1 x2 x3 sz hTy kmo hi hb.1) rfl rfl (fun r G' hD' hw => ?_)
    obtain ⟨hT, hF, hr, k9⟩ := hw
    exact ⟨1, κ, Ad, τ, a, sp, x, fS, fV, fm, fr, fw, ff, cz, mqs, msz, mch, mft, mpt, mdp, mvd, mmk, nw, hT, k9, (kb.f1 hn hF), hn, kt, hst, hrv, hb, hxc, hxl, hij⟩
set_option maxHeartbeats 4000000 in
theorem ri_validate (l : Launch) (dC : Nat → ClassId) (dI : Nat → Nat → Nat) (sb : sB) (γ : cG) (gT : ClassId) (mo : Nat) (fu : Nat → Nat) (fd : Nat) (wr : Int32) (nc nl : Nat) (xc xl : Nat → TD) (wx : Nat → Nat) (vs : sS) (er : Int32) (G : va_W) (i j kn : Int32) (tm : Int64) (sz : Nat) (h : RI γ gT mo fu fd wr nc nl xc xl wx vs er G) (hv : b01 kn) (hma : ∀ l, l < nl → ¬ (xl l).I 30 < 0) : RCi l y_Model_validate w_Model_validate ({ frames := 24, cells := 0, slots := 0, locals := 558 }) [.ref mo, .int i, .long tm, .int j, .int kn] (dC, dI) sb (ty5 γ gT) G sz (fun r G' => (∃ k D, k < nc ∧ i = nI k ∧ j = nI D ∧ 1 ≤ D ∧ D ≤ 16 ∧ r = (valT nc nl xc xl tm kn k D).2.2.2.1 ∧ RI γ gT mo fu fd wr nc nl xc xl wx (valT nc nl xc xl tm kn k D) 0 G') ∨ ((j < 1 ∨ 16 < j) ∧ r = 0 ∧ RI γ gT mo fu fd wr nc nl xc xl wx vs 1 G') ∨ (¬ (j < 1 ∨ 16 < j) ∧ ¬ (¬ i < 0 ∧ i < nI nc) ∧ r = 0 ∧ RI γ gT mo fu fd wr nc nl xc xl wx vs 2 G')) := by
  obtain ⟨κ, Ad, τ, a, sp, x, fS, fV, fm, fr, fw, ff, cz, mqs, msz, mch, mft, mpt, mdp, mvd, mmk, nw, hTy, kmo, kb, hn, kt, hst, hrv, hb, hxc, hxl, hij⟩ := h
  have e7 := rn7 hn.1
  have hma9 : ∀ l9, l9 < nl → ¬ (τ ((fV l9).getD 0)).I 30 < 0 := fun l9 h9 => by
    obtain ⟨t, e, -⟩ := hrv l9 h9
    have e2 := hxl l9 h9 t e
    rw [e]
    show ¬ (τ t).I 30 < 0
    rw [← e2]
    exact hma l9 h9
  by_cases hj : ¬ j < 1 ∧ ¬ 16 < j
  · by_cases hi : ¬ i < 0 ∧ i < nI nc
    · obtain ⟨k, hk, e9⟩ := nI_at9 hi.1 hi.2 (by omega)
      subst e9
      obtain ⟨m8, e8, hm1, hm2⟩ := nI_116 hj.1 hj.2
      subst e8
      rcases hv with rfl | rfl
      · refine rci_of (m_Model_validate_ok0 l dC dI sb γ κ Ad τ gT G mo (a 1) (a 2) (a 3) sp (a 5) (a 6) (a 7) (a 8) (a 9) (a 10) (a 11) (a 12) (a 13) (a 14) (a 15) (a 16) (a 17) er wr mqs msz mch mft mpt mdp mvd mmk nw nc nl cz fd k m8 tm fm fr fw ff fS fV sz hTy kmo kb.2.2.2.1.1 kb.2.2.2.2.1.1 kb.2.2.2.2.2.1 kb.2.1 kb.2.2.1 kb.2.2.2.2.2.2.1 kt.2.2.2.2.2.2.2.2.1 kt.2.2.2.2.2.2.2.1 kt.2.2.2.2.2.2.1 kt.2.2.2.2.2.1 kt.1 kt.2.1 kt.2.2.1 kt.2.2.2.2.1 kt.2.2.2.1 (e7.1.2.2.2.1) (e7.1.2.2.2.2.1) (e7.1.2.2.2.2.2.1) (e7.1.2.1) (e7.1.2.2.1) (e7.1.2.2.2.2.2.2) (e7.2.2.2.2.1.1) (e7.2.2.2.2.1.2.1) ((Ne.symm (e7.2.2.1.2.1))) ((Ne.symm (e7.2.2.2.1.1))) (e7.2.2.2.2.1.2.2) (e7.2.2.2.2.2.1.1) ((Ne.symm (e7.2.2.1.2.2.1))) ((Ne.symm (e7.2.2.2.1.2.1))) (e7.2.2.2.2.2.1.2) ((Ne.symm (e7.2.2.1.2.2.2.1))) ((Ne.symm (e7.2.2.2.1.2.2.1))) (e7.2.2.2.2.2.2) (e7.2.2.1.1) (e7.2.2.1.2.2.2.2) (e7.2.2.2.1.2.2.2) hj hm1 hm2 hst hrv hb.1 hb.2.1 hk kb.2.2.2.1.2 kb.2.2.2.2.1.2 hma9) rfl rfl (fun r G' hD' hw => ?_)
        obtain ⟨hT, hF, hr, ⟨q9, k9⟩, ⟨f1, b1, g1⟩, ⟨f2, b2, g2⟩, ⟨f3, g3⟩, ⟨f4, h4, g4⟩⟩ := hw
        rw [rVQ_x hst hrv hxc hxl hk] at hr k9 h4
        exact Or.inl ⟨k, m8, hk, rfl, rfl, hm1, hm2, hr, κ, Ad, τ, a, sp, x, fS, fV, f1, f2, f3, f4, (valT nc nl xc xl tm 0 k m8).2.2.1.length, q9, nI 1, nI (valT nc nl xc xl tm 0 k m8).2.1, (valT nc nl xc xl tm 0 k m8).2.2.2.2, nI (valT nc nl xc xl tm 0 k m8).1, nI m8, (valT nc nl xc xl tm 0 k m8).2.2.2.1, 0, tm, hT, k9, (kb.f5 hn hF ⟨g1, b1⟩ ⟨g2, b2⟩ g3 g4), hn, kt, hst, hrv, ⟨hb.1, hb.2.1, h4.1, hb.2.2.2.1, ⟨rfl, rfl, rfl⟩, h4⟩, hxc, hxl, hij⟩
      · refine rci_of (m_Model_validate_ok1 l dC dI sb γ κ Ad τ gT G mo (a 1) (a 2) (a 3) sp (a 5) (a 6) (a 7) (a 8) (a 9) (a 10) (a 11) (a 12) (a 13) (a 14) (a 15) (a 16) (a 17) er wr mqs msz mch mft mpt mdp mvd mmk nw nc nl cz fd k m8 tm fm fr fw ff fS fV sz hTy kmo kb.2.2.2.1.1 kb.2.2.2.2.1.1 kb.2.2.2.2.2.1 kb.2.1 kb.2.2.1 kb.2.2.2.2.2.2.1 kt.2.2.2.2.2.2.2.2.1 kt.2.2.2.2.2.2.2.1 kt.2.2.2.2.2.2.1 kt.2.2.2.2.2.1 kt.1 kt.2.1 kt.2.2.1 kt.2.2.2.2.1 kt.2.2.2.1 (e7.1.2.2.2.1) (e7.1.2.2.2.2.1) (e7.1.2.2.2.2.2.1) (e7.1.2.1) (e7.1.2.2.1) (e7.1.2.2.2.2.2.2) (e7.2.2.2.2.1.1) (e7.2.2.2.2.1.2.1) ((Ne.symm (e7.2.2.1.2.1))) ((Ne.symm (e7.2.2.2.1.1))) (e7.2.2.2.2.1.2.2) (e7.2.2.2.2.2.1.1) ((Ne.symm (e7.2.2.1.2.2.1))) ((Ne.symm (e7.2.2.2.1.2.1))) (e7.2.2.2.2.2.1.2) ((Ne.symm (e7.2.2.1.2.2.2.1))) ((Ne.symm (e7.2.2.2.1.2.2.1))) (e7.2.2.2.2.2.2) (e7.2.2.1.1) (e7.2.2.1.2.2.2.2) (e7.2.2.2.1.2.2.2) hj hm1 hm2 hst hrv hb.1 hb.2.1 hk kb.2.2.2.1.2 kb.2.2.2.2.1.2 hma9) rfl rfl (fun r G' hD' hw => ?_)
        obtain ⟨hT, hF, hr, ⟨q9, k9⟩, ⟨f1, b1, g1⟩, ⟨f2, b2, g2⟩, ⟨f3, g3⟩, ⟨f4, h4, g4⟩⟩ := hw
        rw [rVQ_x hst hrv hxc hxl hk] at hr k9 h4
        exact Or.inl ⟨k, m8, hk, rfl, rfl, hm1, hm2, hr, κ, Ad, τ, a, sp, x, fS, fV, f1, f2, f3, f4, (valT nc nl xc xl tm 1 k m8).2.2.1.length, q9, nI 1, nI (valT nc nl xc xl tm 1 k m8).2.1, (valT nc nl xc xl tm 1 k m8).2.2.2.2, nI (valT nc nl xc xl tm 1 k m8).1, nI m8, (valT nc nl xc xl tm 1 k m8).2.2.2.1, 1, tm, hT, k9, (kb.f5 hn hF ⟨g1, b1⟩ ⟨g2, b2⟩ g3 g4), hn, kt, hst, hrv, ⟨hb.1, hb.2.1, h4.1, hb.2.2.2.1, ⟨rfl, rfl, rfl⟩, h4⟩, hxc, hxl, hij⟩
    · refine rci_of (m_Model_validate_2 l dC dI sb γ κ Ad τ gT G mo (a 1) (a 2) (a 3) sp (a 5) (a 6) (a 7) (a 8) (a 9) (a 10) (a 11) (a 12) (a 13) (a 14) (a 15) (a 16) (a 17) er wr mqs msz mch mft mpt mdp mvd mmk nw nc nl cz fd i j kn tm sz hTy kmo hj hi hb.1) rfl rfl (fun r G' hD' hw => ?_)
      obtain ⟨hT, hF, hr, k9⟩ := hw
      exact Or.inr (Or.inr ⟨fun q => q.elim hj.1 hj.2, hi, hr, κ, Ad, τ, a, sp, x, fS, fV, fm, fr, fw, ff, cz, mqs, msz, mch, mft, mpt, mdp, mvd, mmk, nw, hT, k9, (kb.f1 hn hF), hn, kt, hst, hrv, hb, hxc, hxl, hij⟩)
  · refine rci_of (m_Model_validate_1 l dC dI sb γ κ Ad τ gT G mo (a 1) (a 2) (a 3) sp (a 5) (a 6) (a 7) (a 8) (a 9) (a 10) (a 11) (a 12) (a 13) (a 14) (a 15) (a 16) (a 17) er wr mqs msz mch mft mpt mdp mvd mmk nw nc nl cz fd i j kn tm sz hTy kmo hj) rfl rfl (fun r G' hD' hw => ?_)
    obtain ⟨hT, hF, hr, k9⟩ := hw
    exact Or.inr (Or.inl ⟨at_n hj, hr, κ, Ad, τ, a, sp, x, fS, fV, fm, fr, fw, ff, cz, mqs, msz, mch, mft, mpt, mdp, mvd, mmk, nw, hT, k9, (kb.f1 hn hF), hn, kt, hst, hrv, hb, hxc, hxl, hij⟩)
def pvR (x : TD) : Nat → Int64
  | 0 => x.J 7
  | 1 => x.J 8
  | 2 => (nI (8 * (x.me - x.mo - 1) + (8 - lzD (x.u x.mo)))).toInt64
  | 3 => (nI x.ex).toInt64
  | 4 => (if x.I 40 = 0 then (0 : Int64) else 1)
  | 5 => (x.I 25).toInt64
  | 6 => (x.I 26).toInt64
  | 7 => (nI x.nd).toInt64
  | 8 => (x.I 16).toInt64
  | 9 => (x.I 29).toInt64
  | 10 => (x.I 30).toInt64
  | _ => (nI (x.re - x.sr)).toInt64
set_option maxHeartbeats 4000000 in
theorem ri_part (l : Launch) (dC : Nat → ClassId) (dI : Nat → Nat → Nat) (sb : sB) (γ : cG) (gT : ClassId) (mo : Nat) (fu : Nat → Nat) (fd : Nat) (wr : Int32) (nc nl : Nat) (xc xl : Nat → TD) (wx : Nat → Nat) (vs : sS) (er : Int32) (G : va_W) (i j : Int32) (sz : Nat) (h : RI γ gT mo fu fd wr nc nl xc xl wx vs er G)  : RCl l y_Model_part w_Model_part ({ frames := 2, cells := 0, slots := 0, locals := 44 }) [.ref mo, .int i, .int j] (dC, dI) sb (ty5 γ gT) G sz (fun r G' => (¬ (j < 0 ∨ 11 < j) ∧ ∃ k, k < nc ∧ i = nI k ∧ (∃ m, m ≤ 11 ∧ j = nI m ∧ r = pvR (xc k) m) ∧ RI γ gT mo fu fd wr nc nl xc xl wx vs 0 G') ∨ ((j < 0 ∨ 11 < j) ∧ r = 0 ∧ RI γ gT mo fu fd wr nc nl xc xl wx vs 1 G') ∨ (¬ (j < 0 ∨ 11 < j) ∧ ¬ (¬ i < 0 ∧ i < nI nc) ∧ r = 0 ∧ RI γ gT mo fu fd wr nc nl xc xl wx vs 2 G')) := by
  obtain ⟨κ, Ad, τ, a, sp, x, fS, fV, fm, fr, fw, ff, cz, mqs, msz, mch, mft, mpt, mdp, mvd, mmk, nw, hTy, kmo, kb, hn, kt, hst, hrv, hb, hxc, hxl, hij⟩ := h
  have e7 := rn7 hn.1
  by_cases hj : (j < 0 ∨ 11 < j)
  · refine rcl_of (m_Model_part_1 l dC dI sb γ κ Ad τ gT G mo (a 1) (a 2) (a 3) sp (a 5) (a 6) (a 7) (a 8) (a 9) (a 10) (a 11) (a 12) (a 13) (a 14) (a 15) (a 16) (a 17) er wr mqs msz mch mft mpt mdp mvd mmk nw nc nl cz fd i j sz hTy kmo (fun q => hj.elim q.1 q.2)) rfl rfl (fun r G' hD' hw => ?_)
    obtain ⟨hT, hF, hr, k9⟩ := hw
    exact Or.inr (Or.inl ⟨hj, hr, κ, Ad, τ, a, sp, x, fS, fV, fm, fr, fw, ff, cz, mqs, msz, mch, mft, mpt, mdp, mvd, mmk, nw, hT, k9, (kb.f1 hn hF), hn, kt, hst, hrv, hb, hxc, hxl, hij⟩)
  · have hj1 : ¬ j < 0 := fun q => hj (Or.inl q)
    have hj2 : ¬ 11 < j := fun q => hj (Or.inr q)
    by_cases hi : ¬ i < 0 ∧ i < nI nc
    · obtain ⟨k, hk, e9⟩ := nI_at9 hi.1 hi.2 (by omega)
      subst e9
      obtain ⟨m, hm, e8⟩ := nI_up hj1 (show ¬ nI 11 < j from hj2) (by decide)
      subst e8
      rcases lt12 (j := m) (by omega) with rfl | rfl | rfl | rfl | rfl | rfl | rfl | rfl | rfl | rfl | rfl | rfl
      · refine rcl_of (m_Model_part_ok0 l dC dI sb γ κ Ad τ gT G mo (a 1) (a 2) (a 3) sp (a 5) (a 6) (a 7) (a 8) (a 9) (a 10) (a 11) (a 12) (a 13) (a 14) (a 15) (a 16) (a 17) er wr mqs msz mch mft mpt mdp mvd mmk nw nc nl cz fd k fS sz hTy kmo kb.2.1 (e7.1.2.1) hst hb.1 hk) rfl rfl (fun r G' hD' hw => ?_)
        obtain ⟨hT, hF, ⟨t, ht, hr⟩, k9⟩ := hw
        exact Or.inl ⟨hj, k, hk, rfl, ⟨_, hm, rfl, by rw [hxc k hk t ht]; exact hr⟩, κ, Ad, τ, a, sp, x, fS, fV, fm, fr, fw, ff, cz, mqs, msz, mch, mft, mpt, mdp, mvd, mmk, nw, hT, k9, (kb.f1 hn hF), hn, kt, hst, hrv, hb, hxc, hxl, hij⟩
      · refine rcl_of (m_Model_part_ok1 l dC dI sb γ κ Ad τ gT G mo (a 1) (a 2) (a 3) sp (a 5) (a 6) (a 7) (a 8) (a 9) (a 10) (a 11) (a 12) (a 13) (a 14) (a 15) (a 16) (a 17) er wr mqs msz mch mft mpt mdp mvd mmk nw nc nl cz fd k fS sz hTy kmo kb.2.1 (e7.1.2.1) hst hb.1 hk) rfl rfl (fun r G' hD' hw => ?_)
        obtain ⟨hT, hF, ⟨t, ht, hr⟩, k9⟩ := hw
        exact Or.inl ⟨hj, k, hk, rfl, ⟨_, hm, rfl, by rw [hxc k hk t ht]; exact hr⟩, κ, Ad, τ, a, sp, x, fS, fV, fm, fr, fw, ff, cz, mqs, msz, mch, mft, mpt, mdp, mvd, mmk, nw, hT, k9, (kb.f1 hn hF), hn, kt, hst, hrv, hb, hxc, hxl, hij⟩
      · refine rcl_of (m_Model_part_ok2 l dC dI sb γ κ Ad τ gT G mo (a 1) (a 2) (a 3) sp (a 5) (a 6) (a 7) (a 8) (a 9) (a 10) (a 11) (a 12) (a 13) (a 14) (a 15) (a 16) (a 17) er wr mqs msz mch mft mpt mdp mvd mmk nw nc nl cz fd k fS sz hTy kmo kb.2.1 (e7.1.2.1) hst hb.1 hk) rfl rfl (fun r G' hD' hw => ?_)
        obtain ⟨hT, hF, ⟨t, ht, hr⟩, k9⟩ := hw
        exact Or.inl ⟨hj, k, hk, rfl, ⟨_, hm, rfl, by rw [hxc k hk t ht]; exact hr⟩, κ, Ad, τ, a, sp, x, fS, fV, fm, fr, fw, ff, cz, mqs, msz, mch, mft, mpt, mdp, mvd, mmk, nw, hT, k9, (kb.f1 hn hF), hn, kt, hst, hrv, hb, hxc, hxl, hij⟩
      · refine rcl_of (m_Model_part_ok3 l dC dI sb γ κ Ad τ gT G mo (a 1) (a 2) (a 3) sp (a 5) (a 6) (a 7) (a 8) (a 9) (a 10) (a 11) (a 12) (a 13) (a 14) (a 15) (a 16) (a 17) er wr mqs msz mch mft mpt mdp mvd mmk nw nc nl cz fd k fS sz hTy kmo kb.2.1 (e7.1.2.1) hst hb.1 hk) rfl rfl (fun r G' hD' hw => ?_)
        obtain ⟨hT, hF, ⟨t, ht, hr⟩, k9⟩ := hw
        exact Or.inl ⟨hj, k, hk, rfl, ⟨_, hm, rfl, by rw [hxc k hk t ht]; exact hr⟩, κ, Ad, τ, a, sp, x, fS, fV, fm, fr, fw, ff, cz, mqs, msz, mch, mft, mpt, mdp, mvd, mmk, nw, hT, k9, (kb.f1 hn hF), hn, kt, hst, hrv, hb, hxc, hxl, hij⟩
      · refine rcl_of (m_Model_part_ok4 l dC dI sb γ κ Ad τ gT G mo (a 1) (a 2) (a 3) sp (a 5) (a 6) (a 7) (a 8) (a 9) (a 10) (a 11) (a 12) (a 13) (a 14) (a 15) (a 16) (a 17) er wr mqs msz mch mft mpt mdp mvd mmk nw nc nl cz fd k fS sz hTy kmo kb.2.1 (e7.1.2.1) hst hb.1 hk) rfl rfl (fun r G' hD' hw => ?_)
        obtain ⟨hT, hF, ⟨t, ht, hr⟩, k9⟩ := hw
        exact Or.inl ⟨hj, k, hk, rfl, ⟨_, hm, rfl, by rw [hxc k hk t ht]; exact hr⟩, κ, Ad, τ, a, sp, x, fS, fV, fm, fr, fw, ff, cz, mqs, msz, mch, mft, mpt, mdp, mvd, mmk, nw, hT, k9, (kb.f1 hn hF), hn, kt, hst, hrv, hb, hxc, hxl, hij⟩
      · refine rcl_of (m_Model_part_ok5 l dC dI sb γ κ Ad τ gT G mo (a 1) (a 2) (a 3) sp (a 5) (a 6) (a 7) (a 8) (a 9) (a 10) (a 11) (a 12) (a 13) (a 14) (a 15) (a 16) (a 17) er wr mqs msz mch mft mpt mdp mvd mmk nw nc nl cz fd k fS sz hTy kmo kb.2.1 (e7.1.2.1) hst hb.1 hk) rfl rfl (fun r G' hD' hw => ?_)
        obtain ⟨hT, hF, ⟨t, ht, hr⟩, k9⟩ := hw
        exact Or.inl ⟨hj, k, hk, rfl, ⟨_, hm, rfl, by rw [hxc k hk t ht]; exact hr⟩, κ, Ad, τ, a, sp, x, fS, fV, fm, fr, fw, ff, cz, mqs, msz, mch, mft, mpt, mdp, mvd, mmk, nw, hT, k9, (kb.f1 hn hF), hn, kt, hst, hrv, hb, hxc, hxl, hij⟩
      · refine rcl_of (m_Model_part_ok6 l dC dI sb γ κ Ad τ gT G mo (a 1) (a 2) (a 3) sp (a 5) (a 6) (a 7) (a 8) (a 9) (a 10) (a 11) (a 12) (a 13) (a 14) (a 15) (a 16) (a 17) er wr mqs msz mch mft mpt mdp mvd mmk nw nc nl cz fd k fS sz hTy kmo kb.2.1 (e7.1.2.1) hst hb.1 hk) rfl rfl (fun r G' hD' hw => ?_)
        obtain ⟨hT, hF, ⟨t, ht, hr⟩, k9⟩ := hw
        exact Or.inl ⟨hj, k, hk, rfl, ⟨_, hm, rfl, by rw [hxc k hk t ht]; exact hr⟩, κ, Ad, τ, a, sp, x, fS, fV, fm, fr, fw, ff, cz, mqs, msz, mch, mft, mpt, mdp, mvd, mmk, nw, hT, k9, (kb.f1 hn hF), hn, kt, hst, hrv, hb, hxc, hxl, hij⟩
      · refine rcl_of (m_Model_part_ok7 l dC dI sb γ κ Ad τ gT G mo (a 1) (a 2) (a 3) sp (a 5) (a 6) (a 7) (a 8) (a 9) (a 10) (a 11) (a 12) (a 13) (a 14) (a 15) (a 16) (a 17) er wr mqs msz mch mft mpt mdp mvd mmk nw nc nl cz fd k fS sz hTy kmo kb.2.1 (e7.1.2.1) hst hb.1 hk) rfl rfl (fun r G' hD' hw => ?_)
        obtain ⟨hT, hF, ⟨t, ht, hr⟩, k9⟩ := hw
        exact Or.inl ⟨hj, k, hk, rfl, ⟨_, hm, rfl, by rw [hxc k hk t ht]; exact hr⟩, κ, Ad, τ, a, sp, x, fS, fV, fm, fr, fw, ff, cz, mqs, msz, mch, mft, mpt, mdp, mvd, mmk, nw, hT, k9, (kb.f1 hn hF), hn, kt, hst, hrv, hb, hxc, hxl, hij⟩
      · refine rcl_of (m_Model_part_ok8 l dC dI sb γ κ Ad τ gT G mo (a 1) (a 2) (a 3) sp (a 5) (a 6) (a 7) (a 8) (a 9) (a 10) (a 11) (a 12) (a 13) (a 14) (a 15) (a 16) (a 17) er wr mqs msz mch mft mpt mdp mvd mmk nw nc nl cz fd k fS sz hTy kmo kb.2.1 (e7.1.2.1) hst hb.1 hk) rfl rfl (fun r G' hD' hw => ?_)
        obtain ⟨hT, hF, ⟨t, ht, hr⟩, k9⟩ := hw
        exact Or.inl ⟨hj, k, hk, rfl, ⟨_, hm, rfl, by rw [hxc k hk t ht]; exact hr⟩, κ, Ad, τ, a, sp, x, fS, fV, fm, fr, fw, ff, cz, mqs, msz, mch, mft, mpt, mdp, mvd, mmk, nw, hT, k9, (kb.f1 hn hF), hn, kt, hst, hrv, hb, hxc, hxl, hij⟩
      · refine rcl_of (m_Model_part_ok9 l dC dI sb γ κ Ad τ gT G mo (a 1) (a 2) (a 3) sp (a 5) (a 6) (a 7) (a 8) (a 9) (a 10) (a 11) (a 12) (a 13) (a 14) (a 15) (a 16) (a 17) er wr mqs msz mch mft mpt mdp mvd mmk nw nc nl cz fd k fS sz hTy kmo kb.2.1 (e7.1.2.1) hst hb.1 hk) rfl rfl (fun r G' hD' hw => ?_)
        obtain ⟨hT, hF, ⟨t, ht, hr⟩, k9⟩ := hw
        exact Or.inl ⟨hj, k, hk, rfl, ⟨_, hm, rfl, by rw [hxc k hk t ht]; exact hr⟩, κ, Ad, τ, a, sp, x, fS, fV, fm, fr, fw, ff, cz, mqs, msz, mch, mft, mpt, mdp, mvd, mmk, nw, hT, k9, (kb.f1 hn hF), hn, kt, hst, hrv, hb, hxc, hxl, hij⟩
      · refine rcl_of (m_Model_part_ok10 l dC dI sb γ κ Ad τ gT G mo (a 1) (a 2) (a 3) sp (a 5) (a 6) (a 7) (a 8) (a 9) (a 10) (a 11) (a 12) (a 13) (a 14) (a 15) (a 16) (a 17) er wr mqs msz mch mft mpt mdp mvd mmk nw nc nl cz fd k fS sz hTy kmo kb.2.1 (e7.1.2.1) hst hb.1 hk) rfl rfl (fun r G' hD' hw => ?_)
        obtain ⟨hT, hF, ⟨t, ht, hr⟩, k9⟩ := hw
        exact Or.inl ⟨hj, k, hk, rfl, ⟨_, hm, rfl, by rw [hxc k hk t ht]; exact hr⟩, κ, Ad, τ, a, sp, x, fS, fV, fm, fr, fw, ff, cz, mqs, msz, mch, mft, mpt, mdp, mvd, mmk, nw, hT, k9, (kb.f1 hn hF), hn, kt, hst, hrv, hb, hxc, hxl, hij⟩
      · refine rcl_of (m_Model_part_ok11 l dC dI sb γ κ Ad τ gT G mo (a 1) (a 2) (a 3) sp (a 5) (a 6) (a 7) (a 8) (a 9) (a 10) (a 11) (a 12) (a 13) (a 14) (a 15) (a 16) (a 17) er wr mqs msz mch mft mpt mdp mvd mmk nw nc nl cz fd k fS sz hTy kmo kb.2.1 (e7.1.2.1) hst hb.1 hk) rfl rfl (fun r G' hD' hw => ?_)
        obtain ⟨hT, hF, ⟨t, ht, hr⟩, k9⟩ := hw
        exact Or.inl ⟨hj, k, hk, rfl, ⟨_, hm, rfl, by rw [hxc k hk t ht]; exact hr⟩, κ, Ad, τ, a, sp, x, fS, fV, fm, fr, fw, ff, cz, mqs, msz, mch, mft, mpt, mdp, mvd, mmk, nw, hT, k9, (kb.f1 hn hF), hn, kt, hst, hrv, hb, hxc, hxl, hij⟩
    · refine rcl_of (m_Model_part_2 l dC dI sb γ κ Ad τ gT G mo (a 1) (a 2) (a 3) sp (a 5) (a 6) (a 7) (a 8) (a 9) (a 10) (a 11) (a 12) (a 13) (a 14) (a 15) (a 16) (a 17) er wr mqs msz mch mft mpt mdp mvd mmk nw nc nl cz fd i j sz hTy kmo ⟨hj1, hj2⟩ hi hb.1) rfl rfl (fun r G' hD' hw => ?_)
      obtain ⟨hT, hF, hr, k9⟩ := hw
      exact Or.inr (Or.inr ⟨hj, hi, hr, κ, Ad, τ, a, sp, x, fS, fV, fm, fr, fw, ff, cz, mqs, msz, mch, mft, mpt, mdp, mvd, mmk, nw, hT, k9, (kb.f1 hn hF), hn, kt, hst, hrv, hb, hxc, hxl, hij⟩)
def lvR (x : TD) : Nat → Int64
  | 0 => x.J 7
  | 1 => x.J 8
  | 2 => (nI x.ne).toInt64
  | _ => (x.I 30).toInt64
set_option maxHeartbeats 4000000 in
theorem ri_listPart (l : Launch) (dC : Nat → ClassId) (dI : Nat → Nat → Nat) (sb : sB) (γ : cG) (gT : ClassId) (mo : Nat) (fu : Nat → Nat) (fd : Nat) (wr : Int32) (nc nl : Nat) (xc xl : Nat → TD) (wx : Nat → Nat) (vs : sS) (er : Int32) (G : va_W) (i j : Int32) (sz : Nat) (h : RI γ gT mo fu fd wr nc nl xc xl wx vs er G)  : RCl l y_Model_listPart w_Model_listPart ({ frames := 1, cells := 0, slots := 0, locals := 22 }) [.ref mo, .int i, .int j] (dC, dI) sb (ty5 γ gT) G sz (fun r G' => (¬ (j < 0 ∨ 3 < j) ∧ ∃ k, k < nl ∧ i = nI k ∧ (∃ m, m ≤ 3 ∧ j = nI m ∧ r = lvR (xl k) m) ∧ RI γ gT mo fu fd wr nc nl xc xl wx vs 0 G') ∨ ((j < 0 ∨ 3 < j) ∧ r = 0 ∧ RI γ gT mo fu fd wr nc nl xc xl wx vs 1 G') ∨ (¬ (j < 0 ∨ 3 < j) ∧ ¬ (¬ i < 0 ∧ i < nI nl) ∧ r = 0 ∧ RI γ gT mo fu fd wr nc nl xc xl wx vs 2 G')) := by
  obtain ⟨κ, Ad, τ, a, sp, x, fS, fV, fm, fr, fw, ff, cz, mqs, msz, mch, mft, mpt, mdp, mvd, mmk, nw, hTy, kmo, kb, hn, kt, hst, hrv, hb, hxc, hxl, hij⟩ := h
  have e7 := rn7 hn.1
  by_cases hj : (j < 0 ∨ 3 < j)
  · refine rcl_of (m_Model_listPart_1 l dC dI sb γ κ Ad τ gT G mo (a 1) (a 2) (a 3) sp (a 5) (a 6) (a 7) (a 8) (a 9) (a 10) (a 11) (a 12) (a 13) (a 14) (a 15) (a 16) (a 17) er wr mqs msz mch mft mpt mdp mvd mmk nw nc nl cz fd i j sz hTy kmo (fun q => hj.elim q.1 q.2)) rfl rfl (fun r G' hD' hw => ?_)
    obtain ⟨hT, hF, hr, k9⟩ := hw
    exact Or.inr (Or.inl ⟨hj, hr, κ, Ad, τ, a, sp, x, fS, fV, fm, fr, fw, ff, cz, mqs, msz, mch, mft, mpt, mdp, mvd, mmk, nw, hT, k9, (kb.f1 hn hF), hn, kt, hst, hrv, hb, hxc, hxl, hij⟩)
  · have hj1 : ¬ j < 0 := fun q => hj (Or.inl q)
    have hj2 : ¬ 3 < j := fun q => hj (Or.inr q)
    by_cases hi : ¬ i < 0 ∧ i < nI nl
    · obtain ⟨k, hk, e9⟩ := nI_at9 hi.1 hi.2 (by omega)
      subst e9
      obtain ⟨m, hm, e8⟩ := nI_up hj1 (show ¬ nI 3 < j from hj2) (by decide)
      subst e8
      rcases lt4 hm with rfl | rfl | rfl | rfl
      · refine rcl_of (m_Model_listPart_ok0 l dC dI sb γ κ Ad τ gT G mo (a 1) (a 2) (a 3) sp (a 5) (a 6) (a 7) (a 8) (a 9) (a 10) (a 11) (a 12) (a 13) (a 14) (a 15) (a 16) (a 17) er wr mqs msz mch mft mpt mdp mvd mmk nw nc nl cz fd k fV sz hTy kmo kb.2.2.1 (e7.1.2.2.1) hrv hb.2.1 hk) rfl rfl (fun r G' hD' hw => ?_)
        obtain ⟨hT, hF, ⟨t, ht, hr⟩, k9⟩ := hw
        exact Or.inl ⟨hj, k, hk, rfl, ⟨_, hm, rfl, by rw [hxl k hk t ht]; exact hr⟩, κ, Ad, τ, a, sp, x, fS, fV, fm, fr, fw, ff, cz, mqs, msz, mch, mft, mpt, mdp, mvd, mmk, nw, hT, k9, (kb.f1 hn hF), hn, kt, hst, hrv, hb, hxc, hxl, hij⟩
      · refine rcl_of (m_Model_listPart_ok1 l dC dI sb γ κ Ad τ gT G mo (a 1) (a 2) (a 3) sp (a 5) (a 6) (a 7) (a 8) (a 9) (a 10) (a 11) (a 12) (a 13) (a 14) (a 15) (a 16) (a 17) er wr mqs msz mch mft mpt mdp mvd mmk nw nc nl cz fd k fV sz hTy kmo kb.2.2.1 (e7.1.2.2.1) hrv hb.2.1 hk) rfl rfl (fun r G' hD' hw => ?_)
        obtain ⟨hT, hF, ⟨t, ht, hr⟩, k9⟩ := hw
        exact Or.inl ⟨hj, k, hk, rfl, ⟨_, hm, rfl, by rw [hxl k hk t ht]; exact hr⟩, κ, Ad, τ, a, sp, x, fS, fV, fm, fr, fw, ff, cz, mqs, msz, mch, mft, mpt, mdp, mvd, mmk, nw, hT, k9, (kb.f1 hn hF), hn, kt, hst, hrv, hb, hxc, hxl, hij⟩
      · refine rcl_of (m_Model_listPart_ok2 l dC dI sb γ κ Ad τ gT G mo (a 1) (a 2) (a 3) sp (a 5) (a 6) (a 7) (a 8) (a 9) (a 10) (a 11) (a 12) (a 13) (a 14) (a 15) (a 16) (a 17) er wr mqs msz mch mft mpt mdp mvd mmk nw nc nl cz fd k fV sz hTy kmo kb.2.2.1 (e7.1.2.2.1) hrv hb.2.1 hk) rfl rfl (fun r G' hD' hw => ?_)
        obtain ⟨hT, hF, ⟨t, ht, hr⟩, k9⟩ := hw
        exact Or.inl ⟨hj, k, hk, rfl, ⟨_, hm, rfl, by rw [hxl k hk t ht]; exact hr⟩, κ, Ad, τ, a, sp, x, fS, fV, fm, fr, fw, ff, cz, mqs, msz, mch, mft, mpt, mdp, mvd, mmk, nw, hT, k9, (kb.f1 hn hF), hn, kt, hst, hrv, hb, hxc, hxl, hij⟩
      · refine rcl_of (m_Model_listPart_ok3 l dC dI sb γ κ Ad τ gT G mo (a 1) (a 2) (a 3) sp (a 5) (a 6) (a 7) (a 8) (a 9) (a 10) (a 11) (a 12) (a 13) (a 14) (a 15) (a 16) (a 17) er wr mqs msz mch mft mpt mdp mvd mmk nw nc nl cz fd k fV sz hTy kmo kb.2.2.1 (e7.1.2.2.1) hrv hb.2.1 hk) rfl rfl (fun r G' hD' hw => ?_)
        obtain ⟨hT, hF, ⟨t, ht, hr⟩, k9⟩ := hw
        exact Or.inl ⟨hj, k, hk, rfl, ⟨_, hm, rfl, by rw [hxl k hk t ht]; exact hr⟩, κ, Ad, τ, a, sp, x, fS, fV, fm, fr, fw, ff, cz, mqs, msz, mch, mft, mpt, mdp, mvd, mmk, nw, hT, k9, (kb.f1 hn hF), hn, kt, hst, hrv, hb, hxc, hxl, hij⟩
    · refine rcl_of (m_Model_listPart_2 l dC dI sb γ κ Ad τ gT G mo (a 1) (a 2) (a 3) sp (a 5) (a 6) (a 7) (a 8) (a 9) (a 10) (a 11) (a 12) (a 13) (a 14) (a 15) (a 16) (a 17) er wr mqs msz mch mft mpt mdp mvd mmk nw nc nl cz fd i j sz hTy kmo ⟨hj1, hj2⟩ hi hb.2.1) rfl rfl (fun r G' hD' hw => ?_)
      obtain ⟨hT, hF, hr, k9⟩ := hw
      exact Or.inr (Or.inr ⟨hj, hi, hr, κ, Ad, τ, a, sp, x, fS, fV, fm, fr, fw, ff, cz, mqs, msz, mch, mft, mpt, mdp, mvd, mmk, nw, hT, k9, (kb.f1 hn hF), hn, kt, hst, hrv, hb, hxc, hxl, hij⟩)
