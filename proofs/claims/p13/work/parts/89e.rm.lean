/-! The reference's methods over its side of the law. -/
noncomputable def valT (nc nl : Nat) (xc xl : Nat → TD) (tm : Int64) (kn : Int32) (k D : Nat) : sS := valQ (fun c => cT (xc c)) (fun l => lTx (xl l)) nl (fun a b => sgT (xc a) (xc b)) (fun l b => sgT (xl l) (xc b)) tm (kn = 1) nc (fun c => ¬ (xc c).I 42 = 0) k D
theorem rVQ_x {κ : kE} {Ad : List Nat} {τ : Nat → TD} {fS fV : Nat → Option Nat} {nc nl k D : Nat} {xc xl : Nat → TD} {tm : Int64} {kn : Int32} (hst : STc κ Ad τ nc fS) (hrv : STl κ Ad τ nl fV) (hxc : ∀ k, k < nc → ∀ t, fS k = some t → xc k = τ t) (hxl : ∀ k, k < nl → ∀ t, fV k = some t → xl k = τ t) (hk : k < nc) : rVQ τ fS fV nc nl tm kn k D = valT nc nl xc xl tm kn k D := by
  have eC : ∀ k, k < nc → τ ((fS k).getD 0) = xc k := fun k hk => by
    obtain ⟨t, e, -⟩ := hst k hk
    rw [e]
    exact (hxc k hk t e).symm
  have eL : ∀ k, k < nl → τ ((fV k).getD 0) = xl k := fun k hk => by
    obtain ⟨t, e, -⟩ := hrv k hk
    rw [e]
    exact (hxl k hk t e).symm
  refine valQ_c (fun k hk => ?_) (fun l hl => ?_) (fun a b ha hb => ?_) (fun a b ha hb => ?_) (fun c hc => ?_) hk
  · show cT (τ ((fS k).getD 0)) = cT (xc k)
    rw [eC k hk]
  · show lTx (τ ((fV l).getD 0)) = lTx (xl l)
    rw [eL l hl]
  · show sgT (τ ((fS a).getD 0)) (τ ((fS b).getD 0)) ↔ sgT (xc a) (xc b)
    rw [eC a ha, eC b hb]
  · show sgT (τ ((fV a).getD 0)) (τ ((fS b).getD 0)) ↔ sgT (xl a) (xc b)
    rw [eL a ha, eC b hb]
  · show ¬ (τ ((fS c).getD 0)).I 42 = 0 ↔ ¬ (xc c).I 42 = 0
    rw [eC c hc]
set_option maxHeartbeats 4000000 in
theorem ri_chain (l : Launch) (dC : Nat → ClassId) (dI : Nat → Nat → Nat) (sb : sB) (γ : cG) (gT : ClassId) (mo : Nat) (fu : Nat → Nat) (fd : Nat) (wr : Int32) (nc nl : Nat) (xc xl : Nat → TD) (wx : Nat → Nat) (vs : sS) (er : Int32) (G : va_W) (i : Int32) (sz : Nat) (h : RI γ gT mo fu fd wr nc nl xc xl wx vs er G)  : RCi l y_Model_chain w_Model_chain ({ frames := 1, cells := 0, slots := 0, locals := 22 }) [.ref mo, .int i] (dC, dI) sb (ty5 γ gT) G sz (fun r G' => (¬ (¬ i < 0 ∧ i < nI vs.2.2.1.length) ∧ r = 0 ∧ RI γ gT mo fu fd wr nc nl xc xl wx vs 1 G') ∨ ∃ k, k < vs.2.2.1.length ∧ i = nI k ∧ r = nI (vs.2.2.1.reverse.getD k 0) ∧ RI γ gT mo fu fd wr nc nl xc xl wx vs 0 G') := by
  obtain ⟨κ, Ad, τ, a, sp, x, fS, fV, fm, fr, fw, ff, cz, mqs, msz, mch, mft, mpt, mdp, mvd, mmk, nw, hTy, kmo, kb, hn, kt, hst, hrv, hb, hxc, hxl, hij⟩ := h
  have e7 := rn7 hn.1
  refine rci_of (m_Model_chain l dC dI sb γ κ Ad τ gT G mo (a 1) (a 2) (a 3) sp (a 5) (a 6) (a 7) (a 8) (a 9) (a 10) (a 11) (a 12) (a 13) (a 14) (a 15) (a 16) (a 17) er wr mqs msz mch mft mpt mdp mvd mmk nw nc nl cz fd i ff sz hTy kmo kb.2.2.2.2.2.2.1 (e7.1.2.2.2.2.2.2) hb.2.2.1) rfl rfl (fun r G' hD' hw => ?_)
  have hv9 := hb.2.2.2.2
  rcases hw with ⟨hT, hF, ⟨hn9, hr, k9⟩ | ⟨k, hk, ek, hr, k9⟩⟩
  · exact Or.inl ⟨by rw [← hv9.1.1]; exact hn9, hr, κ, Ad, τ, a, sp, x, fS, fV, fm, fr, fw, ff, cz, mqs, msz, mch, mft, mpt, mdp, mvd, mmk, nw, hT, k9, (kb.f1 hn hF), hn, kt, hst, hrv, hb, hxc, hxl, hij⟩
  · exact Or.inr ⟨k, by rw [← hv9.1.1]; exact hk, ek, by rw [hr, hv9.2.2 k (by rw [← hv9.1.1]; exact hk)], κ, Ad, τ, a, sp, x, fS, fV, fm, fr, fw, ff, cz, mqs, msz, mch, mft, mpt, mdp, mvd, mmk, nw, hT, k9, (kb.f1 hn hF), hn, kt, hst, hrv, hb, hxc, hxl, hij⟩
set_option maxHeartbeats 4000000 in
theorem ri_count (l : Launch) (dC : Nat → ClassId) (dI : Nat → Nat → Nat) (sb : sB) (γ : cG) (gT : ClassId) (mo : Nat) (fu : Nat → Nat) (fd : Nat) (wr : Int32) (nc nl : Nat) (xc xl : Nat → TD) (wx : Nat → Nat) (vs : sS) (er : Int32) (G : va_W) (i : Int32) (sz : Nat) (h : RI γ gT mo fu fd wr nc nl xc xl wx vs er G)  : RCi l y_Model_count w_Model_count ({ frames := 1, cells := 0, slots := 0, locals := 22 }) [.ref mo, .int i] (dC, dI) sb (ty5 γ gT) G sz (fun r G' => (cntI nc nl (nI vs.2.1) vs.2.2.2.2 (nI fd) i = some r ∧ RI γ gT mo fu fd wr nc nl xc xl wx vs 0 G') ∨ (cntI nc nl (nI vs.2.1) vs.2.2.2.2 (nI fd) i = none ∧ r = 0 ∧ RI γ gT mo fu fd wr nc nl xc xl wx vs 1 G')) := by
  obtain ⟨κ, Ad, τ, a, sp, x, fS, fV, fm, fr, fw, ff, cz, mqs, msz, mch, mft, mpt, mdp, mvd, mmk, nw, hTy, kmo, kb, hn, kt, hst, hrv, hb, hxc, hxl, hij⟩ := h
  have e7 := rn7 hn.1
  refine rci_of (m_Model_count l dC dI sb γ κ Ad τ gT G mo (a 1) (a 2) (a 3) sp (a 5) (a 6) (a 7) (a 8) (a 9) (a 10) (a 11) (a 12) (a 13) (a 14) (a 15) (a 16) (a 17) er wr mqs msz mch mft mpt mdp mvd mmk nw nc nl cz fd i sz hTy kmo) rfl rfl (fun r G' hD' hw => ?_)
  have hv9 := hb.2.2.2.2
  rcases hw with ⟨hT, hF, ⟨hc, k9⟩ | ⟨hc, hr, k9⟩⟩
  · exact Or.inl ⟨by rw [← hv9.1.2.1, ← hv9.1.2.2]; exact hc, κ, Ad, τ, a, sp, x, fS, fV, fm, fr, fw, ff, cz, mqs, msz, mch, mft, mpt, mdp, mvd, mmk, nw, hT, k9, (kb.f1 hn hF), hn, kt, hst, hrv, hb, hxc, hxl, hij⟩
  · exact Or.inr ⟨by rw [← hv9.1.2.1, ← hv9.1.2.2]; exact hc, hr, κ, Ad, τ, a, sp, x, fS, fV, fm, fr, fw, ff, cz, mqs, msz, mch, mft, mpt, mdp, mvd, mmk, nw, hT, k9, (kb.f1 hn hF), hn, kt, hst, hrv, hb, hxc, hxl, hij⟩
theorem TR.swap {γ : cG} {κ : kE} {Ad : List Nat} {τ : Nat → TD} {G R9 ws ws' : va_W} (h : TR γ κ Ad τ G) (hp : G.Perm (ws ++ R9)) (hm : ws'.map Prod.fst = ws.map Prod.fst) (ho : ∀ q, q ∈ ws' → q.1 ∈ Ad → tOR γ κ Ad τ q.1 q.2) : TR γ κ Ad τ (ws' ++ R9) := by
  refine ⟨fun b hb => ?_, fun q hq hqa => ?_⟩
  · obtain ⟨c, hc⟩ := h.1 b hb
    rcases List.mem_append.mp (hp.mem_iff.mp hc) with e | e
    · have h1 : b ∈ ws'.map Prod.fst := by rw [hm]; exact List.mem_map.mpr ⟨_, e, rfl⟩
      obtain ⟨q, hq, e9⟩ := List.mem_map.mp h1
      exact ⟨q.2, List.mem_append_left _ (by rw [← e9]; exact hq)⟩
    · exact ⟨c, List.mem_append_right _ e⟩
  · rcases List.mem_append.mp hq with e | e
    · exact ho q e hqa
    · exact h.2 q (hp.mem_iff.mpr (List.mem_append_right _ e)) hqa
theorem fa_nil {p : Nat × va_E → Prop} : ∀ c, c ∈ ([] : va_W) → p c := fun c h => by cases h
theorem fa_cons {p : Nat × va_E → Prop} {x : Nat × va_E} {l : va_W} (h : p x) (t : ∀ c, c ∈ l → p c) : ∀ c, c ∈ x :: l → p c := fun c hc => by
  rcases List.mem_cons.mp hc with e | e
  · rw [e]; exact h
  · exact t c e
theorem nm_nil {x : Nat} : x ∉ ([] : List Nat) := fun h => by cases h
theorem nm_cons {x y : Nat} {l : List Nat} (h : x ≠ y) (t : x ∉ l) : x ∉ y :: l := fun hm => by
  rcases List.mem_cons.mp hm with e | e
  · exact h e
  · exact t e
set_option maxHeartbeats 4000000 in
theorem ri_digest (l : Launch) (dC : Nat → ClassId) (dI : Nat → Nat → Nat) (sb : sB) (γ : cG) (gT : ClassId) (mo : Nat) (fu : Nat → Nat) (fd : Nat) (wr : Int32) (nc nl : Nat) (xc xl : Nat → TD) (wx : Nat → Nat) (vs : sS) (er : Int32) (G : va_W) (i j : Int32) (sz : Nat) (h : RI γ gT mo fu fd wr nc nl xc xl wx vs er G)  : RCi l y_Model_digest0 w_Model_digest0 ({ frames := 3, cells := 0, slots := 0, locals := 77 }) [.ref mo, .int i, .int j] (dC, dI) sb (ty5 γ gT) G sz (fun r G' => (∃ k m8, k < nc ∧ i = nI k ∧ m8 < 8 ∧ j = nI m8 ∧ r = hsV (xc k).u (xc k).tb (xc k).te m8 ∧ RI γ gT mo fu fd wr nc nl xc xl wx vs 0 G') ∨ (¬ ((¬ i < 0 ∧ i < nI nc) ∧ ¬ j < 0 ∧ j < 8) ∧ RI γ gT mo fu fd wr nc nl xc xl wx vs 1 G')) := by
  obtain ⟨κ, Ad, τ, a, sp, x, fS, fV, fm, fr, fw, ff, cz, mqs, msz, mch, mft, mpt, mdp, mvd, mmk, nw, hTy, kmo, kb, hn, kt, hst, hrv, hb, hxc, hxl, hij⟩ := h
  have e7 := rn7 hn.1
  by_cases hi : (¬ i < 0 ∧ i < nI nc) ∧ ¬ j < 0 ∧ j < 8
  · obtain ⟨k, hk, e1⟩ := nI_at9 hi.1.1 hi.1.2 (by omega)
    obtain ⟨m8, hm8, e2⟩ := nI_at9 hi.2.1 (show j < nI 8 from hi.2.2) (by decide)
    subst e1
    subst e2
    obtain ⟨t, hft, k20, hTC⟩ := hst k hk
    obtain ⟨i6, f6, -, g6⟩ := tr_6 hTy kt.1
    obtain ⟨i7, f7, -, g7⟩ := tr_6 hTy kt.2.1
    obtain ⟨i8, f8, -, g8⟩ := tr_6 hTy kt.2.2.1
    obtain ⟨f9, h9s, g9⟩ := tr_61 hTy kt.2.2.2.1
    obtain ⟨f10, h10s, g10⟩ := tr_62 hTy kt.2.2.2.2.1
    obtain ⟨i20, kA, g20⟩ := tr_20 hTy k20
    have kA0 := kA 0 (by decide)
    obtain ⟨i18, g18⟩ := tr_18 hTy kA0
    have g18 : G[i18]? = some ((τ t).A 0, .inl (γ.2.1, 2048, .inl (tI (τ t).u))) := by rw [g18, hTC.d]; rfl
    obtain ⟨R9, hp⟩ := pickL (l := [(mo, (mC a sp er fd wr nc nl mqs msz cz mch mft mpt mdp mvd nw mmk)), (a 2, .inl (gT, 16, .inr (.inr (.inr (.inr fS))))), (a 6, .inl (γ.2.1, 2176, .inl f6)), (a 7, .inl (γ.2.1, 64, .inl f7)), (a 8, .inl (γ.2.1, 8, .inl f8)), (a 9, .inl (γ.2.1, 8, .inl f9)), (a 10, .inl (γ.2.1, 64, .inl f10)), (t, .inr (13, (.ref ((τ t).A 0) :: .int ((τ t).I 1) :: .int ((τ t).I 2) :: .int ((τ t).I 3) :: .int ((τ t).I 4) :: .int ((τ t).I 5) :: .int ((τ t).I 6) :: .long ((τ t).J 7) :: .long ((τ t).J 8) :: .long ((τ t).J 9) :: .int ((τ t).I 10) :: .int ((τ t).I 11) :: .int ((τ t).I 12) :: .int ((τ t).I 13) :: .int ((τ t).I 14) :: .int ((τ t).I 15) :: .int ((τ t).I 16) :: .int ((τ t).I 17) :: .int ((τ t).I 18) :: .int ((τ t).I 19) :: .int ((τ t).I 20) :: .int ((τ t).I 21) :: .int ((τ t).I 22) :: .int ((τ t).I 23) :: .int ((τ t).I 24) :: .int ((τ t).I 25) :: .int ((τ t).I 26) :: .int ((τ t).I 27) :: .int ((τ t).I 28) :: .int ((τ t).I 29) :: .int ((τ t).I 30) :: .int ((τ t).I 31) :: .int ((τ t).I 32) :: .int ((τ t).I 33) :: .int ((τ t).I 34) :: .int ((τ t).I 35) :: .int ((τ t).I 36) :: .int ((τ t).I 37) :: .int ((τ t).I 38) :: .int ((τ t).I 39) :: .int ((τ t).I 40) :: .int ((τ t).I 41) :: .int ((τ t).I 42) :: .ref ((τ t).A 1) :: .ref ((τ t).A 2) :: .ref ((τ t).A 3) :: .ref ((τ t).A 4) :: .ref ((τ t).A 5) :: .ref ((τ t).A 6) :: .ref ((τ t).A 7) :: .ref ((τ t).A 8) :: .ref ((τ t).A 9) :: .ref ((τ t).A 10) :: .ref ((τ t).A 11) :: []))), (((τ t).A 0), .inl (γ.2.1, 2048, .inl (tI (τ t).u)))]) (G := G) (fa_cons (kmo.2) (fa_cons (kb.2.1.2) (fa_cons (List.mem_of_getElem? g6) (fa_cons (List.mem_of_getElem? g7) (fa_cons (List.mem_of_getElem? g8) (fa_cons (g9) (fa_cons (g10) (fa_cons (List.mem_of_getElem? g20) (fa_cons (List.mem_of_getElem? g18) fa_nil))))))))) (show [mo, a 2, a 6, a 7, a 8, a 9, a 10, t, (τ t).A 0].Nodup from (List.nodup_cons.mpr ⟨(nm_cons (e7.1.2.1) (nm_cons (fun e => kmo.1 (by rw [e]; exact kt.1.1)) (nm_cons (fun e => kmo.1 (by rw [e]; exact kt.2.1.1)) (nm_cons (fun e => kmo.1 (by rw [e]; exact kt.2.2.1.1)) (nm_cons (fun e => kmo.1 (by rw [e]; exact kt.2.2.2.1.1)) (nm_cons (fun e => kmo.1 (by rw [e]; exact kt.2.2.2.2.1.1)) (nm_cons (fun e => kmo.1 (by rw [e]; exact k20.1)) (nm_cons (fun e => kmo.1 (by rw [e]; exact kA0.1)) nm_nil)))))))), (List.nodup_cons.mpr ⟨(nm_cons (fun e => kb.2.1.1 (by rw [e]; exact kt.1.1)) (nm_cons (fun e => kb.2.1.1 (by rw [e]; exact kt.2.1.1)) (nm_cons (fun e => kb.2.1.1 (by rw [e]; exact kt.2.2.1.1)) (nm_cons (fun e => kb.2.1.1 (by rw [e]; exact kt.2.2.2.1.1)) (nm_cons (fun e => kb.2.1.1 (by rw [e]; exact kt.2.2.2.2.1.1)) (nm_cons (fun e => kb.2.1.1 (by rw [e]; exact k20.1)) (nm_cons (fun e => kb.2.1.1 (by rw [e]; exact kA0.1)) nm_nil))))))), (List.nodup_cons.mpr ⟨(nm_cons (ne_k kt.1 kt.2.1 (by simp)) (nm_cons (ne_k kt.1 kt.2.2.1 (by simp)) (nm_cons (ne_k kt.1 kt.2.2.2.1 (by simp)) (nm_cons (ne_k kt.1 kt.2.2.2.2.1 (by simp)) (nm_cons (ne_k kt.1 k20 (by simp)) (nm_cons (ne_k kt.1 kA0 (by simp)) nm_nil)))))), (List.nodup_cons.mpr ⟨(nm_cons (ne_k kt.2.1 kt.2.2.1 (by simp)) (nm_cons (ne_k kt.2.1 kt.2.2.2.1 (by simp)) (nm_cons (ne_k kt.2.1 kt.2.2.2.2.1 (by simp)) (nm_cons (ne_k kt.2.1 k20 (by simp)) (nm_cons (ne_k kt.2.1 kA0 (by simp)) nm_nil))))), (List.nodup_cons.mpr ⟨(nm_cons (ne_k kt.2.2.1 kt.2.2.2.1 (by simp)) (nm_cons (ne_k kt.2.2.1 kt.2.2.2.2.1 (by simp)) (nm_cons (ne_k kt.2.2.1 k20 (by simp)) (nm_cons (ne_k kt.2.2.1 kA0 (by simp)) nm_nil)))), (List.nodup_cons.mpr ⟨(nm_cons (ne_k kt.2.2.2.1 kt.2.2.2.2.1 (by simp)) (nm_cons (ne_k kt.2.2.2.1 k20 (by simp)) (nm_cons (ne_k kt.2.2.2.1 kA0 (by simp)) nm_nil))), (List.nodup_cons.mpr ⟨(nm_cons (ne_k kt.2.2.2.2.1 k20 (by simp)) (nm_cons (ne_k kt.2.2.2.2.1 kA0 (by simp)) nm_nil)), (List.nodup_cons.mpr ⟨(nm_cons (ne_k k20 kA0 (by simp)) nm_nil), (List.nodup_cons.mpr ⟨nm_nil, List.nodup_nil⟩)⟩)⟩)⟩)⟩)⟩)⟩)⟩)⟩))
    refine rci_sub (x_Model_digest0 l dC dI sb mo t (a 1) (a 2) (a 3) sp (a 5) (a 6) (a 7) (a 8) (a 9) (a 10) (a 11) (a 12) (a 13) (a 14) (a 15) (a 16) (a 17) er (nI fd) wr (nI nl) mqs msz (nI cz) mch mft mpt mdp mvd mmk nw (τ t) (τ t).tb (τ t).te k m8 nc γ.2.1 gT (τ t).u fS f6 f7 f8 f9 f10 sz hk hb.1 hm8 hft hTC.e21 hTC.e22 hTC.b1.1 hTC.b1.2 h9s h10s) rfl rfl hp [1, 4] rfl (fun r u9 hD' hw => ?_)
    have hw : r = hsV (τ t).u (τ t).tb (τ t).te m8 := hw
    have hT : TR γ κ Ad τ ([(mo, (mC a sp 0 fd wr nc nl mqs msz cz mch mft mpt mdp mvd nw mmk)), (a 2, .inl (gT, 16, .inr (.inr (.inr (.inr fS))))), (a 6, .inl (γ.2.1, 2176, .inl (stG (pdV (τ t).u (τ t).tb (τ t).te) f6 (64 * hs_b ((τ t).te - (τ t).tb))))), (a 7, .inl (γ.2.1, 64, .inl (hs_n (τ t).u (τ t).tb (τ t).te (64 * hs_b ((τ t).te - (τ t).tb)) (f7, stG s0G f8 8) (hs_b ((τ t).te - (τ t).tb))).1)), (a 8, .inl (γ.2.1, 8, .inl (hs_n (τ t).u (τ t).tb (τ t).te (64 * hs_b ((τ t).te - (τ t).tb)) (f7, stG s0G f8 8) (hs_b ((τ t).te - (τ t).tb))).2)), (a 9, .inl (γ.2.1, 8, .inl f9)), (a 10, .inl (γ.2.1, 64, .inl f10)), (t, .inr (13, (.ref ((τ t).A 0) :: .int ((τ t).I 1) :: .int ((τ t).I 2) :: .int ((τ t).I 3) :: .int ((τ t).I 4) :: .int ((τ t).I 5) :: .int ((τ t).I 6) :: .long ((τ t).J 7) :: .long ((τ t).J 8) :: .long ((τ t).J 9) :: .int ((τ t).I 10) :: .int ((τ t).I 11) :: .int ((τ t).I 12) :: .int ((τ t).I 13) :: .int ((τ t).I 14) :: .int ((τ t).I 15) :: .int ((τ t).I 16) :: .int ((τ t).I 17) :: .int ((τ t).I 18) :: .int ((τ t).I 19) :: .int ((τ t).I 20) :: .int ((τ t).I 21) :: .int ((τ t).I 22) :: .int ((τ t).I 23) :: .int ((τ t).I 24) :: .int ((τ t).I 25) :: .int ((τ t).I 26) :: .int ((τ t).I 27) :: .int ((τ t).I 28) :: .int ((τ t).I 29) :: .int ((τ t).I 30) :: .int ((τ t).I 31) :: .int ((τ t).I 32) :: .int ((τ t).I 33) :: .int ((τ t).I 34) :: .int ((τ t).I 35) :: .int ((τ t).I 36) :: .int ((τ t).I 37) :: .int ((τ t).I 38) :: .int ((τ t).I 39) :: .int ((τ t).I 40) :: .int ((τ t).I 41) :: .int ((τ t).I 42) :: .ref ((τ t).A 1) :: .ref ((τ t).A 2) :: .ref ((τ t).A 3) :: .ref ((τ t).A 4) :: .ref ((τ t).A 5) :: .ref ((τ t).A 6) :: .ref ((τ t).A 7) :: .ref ((τ t).A 8) :: .ref ((τ t).A 9) :: .ref ((τ t).A 10) :: .ref ((τ t).A 11) :: []))), (((τ t).A 0), .inl (γ.2.1, 2048, .inl (tI (τ t).u)))] ++ R9) := TR.swap hTy hp rfl (fa_cons (fun ha => absurd ha kmo.1) (fa_cons (fun ha => absurd ha kb.2.1.1) (fa_cons (fun _ => okr_6 kt.1 (by decide) _) (fa_cons (fun _ => okr_6 kt.2.1 (by decide) _) (fa_cons (fun _ => okr_6 kt.2.2.1 (by decide) _) (fa_cons (fun ha => hTy.2 _ (g9) ha) (fa_cons (fun ha => hTy.2 _ (g10) ha) (fa_cons (fun ha => hTy.2 _ (List.mem_of_getElem? g20) ha) (fa_cons (fun ha => hTy.2 _ (List.mem_of_getElem? g18) ha) fa_nil)))))))))
    have hF : FL Ad [mo] G ([(mo, (mC a sp 0 fd wr nc nl mqs msz cz mch mft mpt mdp mvd nw mmk)), (a 2, .inl (gT, 16, .inr (.inr (.inr (.inr fS))))), (a 6, .inl (γ.2.1, 2176, .inl (stG (pdV (τ t).u (τ t).tb (τ t).te) f6 (64 * hs_b ((τ t).te - (τ t).tb))))), (a 7, .inl (γ.2.1, 64, .inl (hs_n (τ t).u (τ t).tb (τ t).te (64 * hs_b ((τ t).te - (τ t).tb)) (f7, stG s0G f8 8) (hs_b ((τ t).te - (τ t).tb))).1)), (a 8, .inl (γ.2.1, 8, .inl (hs_n (τ t).u (τ t).tb (τ t).te (64 * hs_b ((τ t).te - (τ t).tb)) (f7, stG s0G f8 8) (hs_b ((τ t).te - (τ t).tb))).2)), (a 9, .inl (γ.2.1, 8, .inl f9)), (a 10, .inl (γ.2.1, 64, .inl f10)), (t, .inr (13, (.ref ((τ t).A 0) :: .int ((τ t).I 1) :: .int ((τ t).I 2) :: .int ((τ t).I 3) :: .int ((τ t).I 4) :: .int ((τ t).I 5) :: .int ((τ t).I 6) :: .long ((τ t).J 7) :: .long ((τ t).J 8) :: .long ((τ t).J 9) :: .int ((τ t).I 10) :: .int ((τ t).I 11) :: .int ((τ t).I 12) :: .int ((τ t).I 13) :: .int ((τ t).I 14) :: .int ((τ t).I 15) :: .int ((τ t).I 16) :: .int ((τ t).I 17) :: .int ((τ t).I 18) :: .int ((τ t).I 19) :: .int ((τ t).I 20) :: .int ((τ t).I 21) :: .int ((τ t).I 22) :: .int ((τ t).I 23) :: .int ((τ t).I 24) :: .int ((τ t).I 25) :: .int ((τ t).I 26) :: .int ((τ t).I 27) :: .int ((τ t).I 28) :: .int ((τ t).I 29) :: .int ((τ t).I 30) :: .int ((τ t).I 31) :: .int ((τ t).I 32) :: .int ((τ t).I 33) :: .int ((τ t).I 34) :: .int ((τ t).I 35) :: .int ((τ t).I 36) :: .int ((τ t).I 37) :: .int ((τ t).I 38) :: .int ((τ t).I 39) :: .int ((τ t).I 40) :: .int ((τ t).I 41) :: .int ((τ t).I 42) :: .ref ((τ t).A 1) :: .ref ((τ t).A 2) :: .ref ((τ t).A 3) :: .ref ((τ t).A 4) :: .ref ((τ t).A 5) :: .ref ((τ t).A 6) :: .ref ((τ t).A 7) :: .ref ((τ t).A 8) :: .ref ((τ t).A 9) :: .ref ((τ t).A 10) :: .ref ((τ t).A 11) :: []))), (((τ t).A 0), .inl (γ.2.1, 2048, .inl (tI (τ t).u)))] ++ R9) := fun q ha hx hq => by
      rcases List.mem_append.mp (hp.mem_iff.mp hq) with e | e
      · exact ((fa_cons (fun _ hx => absurd List.mem_cons_self hx) (fa_cons (fun _ _ => List.mem_append_left _ (List.mem_of_getElem? (i := 1) rfl)) (fa_cons (fun ha _ => absurd kt.1.1 ha) (fa_cons (fun ha _ => absurd kt.2.1.1 ha) (fa_cons (fun ha _ => absurd kt.2.2.1.1 ha) (fa_cons (fun ha _ => absurd kt.2.2.2.1.1 ha) (fa_cons (fun ha _ => absurd kt.2.2.2.2.1.1 ha) (fa_cons (fun ha _ => absurd k20.1 ha) (fa_cons (fun ha _ => absurd kA0.1 ha) fa_nil))))))))) : ∀ c, c ∈ ([(mo, (mC a sp er fd wr nc nl mqs msz cz mch mft mpt mdp mvd nw mmk)), (a 2, .inl (gT, 16, .inr (.inr (.inr (.inr fS))))), (a 6, .inl (γ.2.1, 2176, .inl f6)), (a 7, .inl (γ.2.1, 64, .inl f7)), (a 8, .inl (γ.2.1, 8, .inl f8)), (a 9, .inl (γ.2.1, 8, .inl f9)), (a 10, .inl (γ.2.1, 64, .inl f10)), (t, .inr (13, (.ref ((τ t).A 0) :: .int ((τ t).I 1) :: .int ((τ t).I 2) :: .int ((τ t).I 3) :: .int ((τ t).I 4) :: .int ((τ t).I 5) :: .int ((τ t).I 6) :: .long ((τ t).J 7) :: .long ((τ t).J 8) :: .long ((τ t).J 9) :: .int ((τ t).I 10) :: .int ((τ t).I 11) :: .int ((τ t).I 12) :: .int ((τ t).I 13) :: .int ((τ t).I 14) :: .int ((τ t).I 15) :: .int ((τ t).I 16) :: .int ((τ t).I 17) :: .int ((τ t).I 18) :: .int ((τ t).I 19) :: .int ((τ t).I 20) :: .int ((τ t).I 21) :: .int ((τ t).I 22) :: .int ((τ t).I 23) :: .int ((τ t).I 24) :: .int ((τ t).I 25) :: .int ((τ t).I 26) :: .int ((τ t).I 27) :: .int ((τ t).I 28) :: .int ((τ t).I 29) :: .int ((τ t).I 30) :: .int ((τ t).I 31) :: .int ((τ t).I 32) :: .int ((τ t).I 33) :: .int ((τ t).I 34) :: .int ((τ t).I 35) :: .int ((τ t).I 36) :: .int ((τ t).I 37) :: .int ((τ t).I 38) :: .int ((τ t).I 39) :: .int ((τ t).I 40) :: .int ((τ t).I 41) :: .int ((τ t).I 42) :: .ref ((τ t).A 1) :: .ref ((τ t).A 2) :: .ref ((τ t).A 3) :: .ref ((τ t).A 4) :: .ref ((τ t).A 5) :: .ref ((τ t).A 6) :: .ref ((τ t).A 7) :: .ref ((τ t).A 8) :: .ref ((τ t).A 9) :: .ref ((τ t).A 10) :: .ref ((τ t).A 11) :: []))), (((τ t).A 0), .inl (γ.2.1, 2048, .inl (tI (τ t).u)))] : va_W) → c.1 ∉ Ad → c.1 ∉ [mo] → c ∈ ([(mo, (mC a sp 0 fd wr nc nl mqs msz cz mch mft mpt mdp mvd nw mmk)), (a 2, .inl (gT, 16, .inr (.inr (.inr (.inr fS))))), (a 6, .inl (γ.2.1, 2176, .inl (stG (pdV (τ t).u (τ t).tb (τ t).te) f6 (64 * hs_b ((τ t).te - (τ t).tb))))), (a 7, .inl (γ.2.1, 64, .inl (hs_n (τ t).u (τ t).tb (τ t).te (64 * hs_b ((τ t).te - (τ t).tb)) (f7, stG s0G f8 8) (hs_b ((τ t).te - (τ t).tb))).1)), (a 8, .inl (γ.2.1, 8, .inl (hs_n (τ t).u (τ t).tb (τ t).te (64 * hs_b ((τ t).te - (τ t).tb)) (f7, stG s0G f8 8) (hs_b ((τ t).te - (τ t).tb))).2)), (a 9, .inl (γ.2.1, 8, .inl f9)), (a 10, .inl (γ.2.1, 64, .inl f10)), (t, .inr (13, (.ref ((τ t).A 0) :: .int ((τ t).I 1) :: .int ((τ t).I 2) :: .int ((τ t).I 3) :: .int ((τ t).I 4) :: .int ((τ t).I 5) :: .int ((τ t).I 6) :: .long ((τ t).J 7) :: .long ((τ t).J 8) :: .long ((τ t).J 9) :: .int ((τ t).I 10) :: .int ((τ t).I 11) :: .int ((τ t).I 12) :: .int ((τ t).I 13) :: .int ((τ t).I 14) :: .int ((τ t).I 15) :: .int ((τ t).I 16) :: .int ((τ t).I 17) :: .int ((τ t).I 18) :: .int ((τ t).I 19) :: .int ((τ t).I 20) :: .int ((τ t).I 21) :: .int ((τ t).I 22) :: .int ((τ t).I 23) :: .int ((τ t).I 24) :: .int ((τ t).I 25) :: .int ((τ t).I 26) :: .int ((τ t).I 27) :: .int ((τ t).I 28) :: .int ((τ t).I 29) :: .int ((τ t).I 30) :: .int ((τ t).I 31) :: .int ((τ t).I 32) :: .int ((τ t).I 33) :: .int ((τ t).I 34) :: .int ((τ t).I 35) :: .int ((τ t).I 36) :: .int ((τ t).I 37) :: .int ((τ t).I 38) :: .int ((τ t).I 39) :: .int ((τ t).I 40) :: .int ((τ t).I 41) :: .int ((τ t).I 42) :: .ref ((τ t).A 1) :: .ref ((τ t).A 2) :: .ref ((τ t).A 3) :: .ref ((τ t).A 4) :: .ref ((τ t).A 5) :: .ref ((τ t).A 6) :: .ref ((τ t).A 7) :: .ref ((τ t).A 8) :: .ref ((τ t).A 9) :: .ref ((τ t).A 10) :: .ref ((τ t).A 11) :: []))), (((τ t).A 0), .inl (γ.2.1, 2048, .inl (tI (τ t).u)))] : va_W) ++ R9) q e ha hx
      · exact List.mem_append_right _ e
    have k9 : Xc Ad mo (mC a sp 0 fd wr nc nl mqs msz cz mch mft mpt mdp mvd nw mmk) ([(mo, (mC a sp 0 fd wr nc nl mqs msz cz mch mft mpt mdp mvd nw mmk)), (a 2, .inl (gT, 16, .inr (.inr (.inr (.inr fS))))), (a 6, .inl (γ.2.1, 2176, .inl (stG (pdV (τ t).u (τ t).tb (τ t).te) f6 (64 * hs_b ((τ t).te - (τ t).tb))))), (a 7, .inl (γ.2.1, 64, .inl (hs_n (τ t).u (τ t).tb (τ t).te (64 * hs_b ((τ t).te - (τ t).tb)) (f7, stG s0G f8 8) (hs_b ((τ t).te - (τ t).tb))).1)), (a 8, .inl (γ.2.1, 8, .inl (hs_n (τ t).u (τ t).tb (τ t).te (64 * hs_b ((τ t).te - (τ t).tb)) (f7, stG s0G f8 8) (hs_b ((τ t).te - (τ t).tb))).2)), (a 9, .inl (γ.2.1, 8, .inl f9)), (a 10, .inl (γ.2.1, 64, .inl f10)), (t, .inr (13, (.ref ((τ t).A 0) :: .int ((τ t).I 1) :: .int ((τ t).I 2) :: .int ((τ t).I 3) :: .int ((τ t).I 4) :: .int ((τ t).I 5) :: .int ((τ t).I 6) :: .long ((τ t).J 7) :: .long ((τ t).J 8) :: .long ((τ t).J 9) :: .int ((τ t).I 10) :: .int ((τ t).I 11) :: .int ((τ t).I 12) :: .int ((τ t).I 13) :: .int ((τ t).I 14) :: .int ((τ t).I 15) :: .int ((τ t).I 16) :: .int ((τ t).I 17) :: .int ((τ t).I 18) :: .int ((τ t).I 19) :: .int ((τ t).I 20) :: .int ((τ t).I 21) :: .int ((τ t).I 22) :: .int ((τ t).I 23) :: .int ((τ t).I 24) :: .int ((τ t).I 25) :: .int ((τ t).I 26) :: .int ((τ t).I 27) :: .int ((τ t).I 28) :: .int ((τ t).I 29) :: .int ((τ t).I 30) :: .int ((τ t).I 31) :: .int ((τ t).I 32) :: .int ((τ t).I 33) :: .int ((τ t).I 34) :: .int ((τ t).I 35) :: .int ((τ t).I 36) :: .int ((τ t).I 37) :: .int ((τ t).I 38) :: .int ((τ t).I 39) :: .int ((τ t).I 40) :: .int ((τ t).I 41) :: .int ((τ t).I 42) :: .ref ((τ t).A 1) :: .ref ((τ t).A 2) :: .ref ((τ t).A 3) :: .ref ((τ t).A 4) :: .ref ((τ t).A 5) :: .ref ((τ t).A 6) :: .ref ((τ t).A 7) :: .ref ((τ t).A 8) :: .ref ((τ t).A 9) :: .ref ((τ t).A 10) :: .ref ((τ t).A 11) :: []))), (((τ t).A 0), .inl (γ.2.1, 2048, .inl (tI (τ t).u)))] ++ R9) := ⟨kmo.1, List.mem_append_left _ List.mem_cons_self⟩
    exact Or.inl ⟨k, m8, hk, rfl, hm8, rfl, by rw [hxc k hk t hft]; exact hw, κ, Ad, τ, a, sp, x, fS, fV, fm, fr, fw, ff, cz, mqs, msz, mch, mft, mpt, mdp, mvd, mmk, nw, hT, k9, (kb.f1 hn hF), hn, kt, hst, hrv, hb, hxc, hxl, hij⟩
  · refine rci_of (m_Model_digest_1 l dC dI sb γ κ Ad τ gT G mo (a 1) (a 2) (a 3) sp (a 5) (a 6) (a 7) (a 8) (a 9) (a 10) (a 11) (a 12) (a 13) (a 14) (a 15) (a 16) (a 17) er wr mqs msz mch mft mpt mdp mvd mmk nw nc nl cz fd i j sz hTy kmo hi hb.1) rfl rfl (fun r G' hD' hw => ?_)
    obtain ⟨hT, hF, hr, k9⟩ := hw
    exact Or.inr ⟨hi, κ, Ad, τ, a, sp, x, fS, fV, fm, fr, fw, ff, cz, mqs, msz, mch, mft, mpt, mdp, mvd, mmk, nw, hT, k9, (kb.f1 hn hF), hn, kt, hst, hrv, hb, hxc, hxl, hij⟩
set_option maxHeartbeats 4000000 in
theorem ri_wrong (l : Launch) (dC : Nat → ClassId) (dI : Nat → Nat → Nat) (sb : sB) (γ : cG) (gT : ClassId) (mo : Nat) (fu : Nat → Nat) (fd : Nat) (wr : Int32) (nc nl : Nat) (xc xl : Nat → TD) (wx : Nat → Nat) (vs : sS) (er : Int32) (G : va_W)  (sz : Nat) (h : RI γ gT mo fu fd wr nc nl xc xl wx vs er G)  : RCi l y_Model_wrong w_Model_wrong ({ frames := 0, cells := 0, slots := 0, locals := 0 }) [.ref mo] (dC, dI) sb (ty5 γ gT) G sz (fun r G' => r = wr ∧ RI γ gT mo fu fd wr nc nl xc xl wx vs 0 G') := by
  obtain ⟨κ, Ad, τ, a, sp, x, fS, fV, fm, fr, fw, ff, cz, mqs, msz, mch, mft, mpt, mdp, mvd, mmk, nw, hTy, kmo, kb, hn, kt, hst, hrv, hb, hxc, hxl, hij⟩ := h
  have e7 := rn7 hn.1
  refine rci_of (mt_Model_wrong l dC dI sb γ κ Ad τ gT G mo (a 1) (a 2) (a 3) sp (a 5) (a 6) (a 7) (a 8) (a 9) (a 10) (a 11) (a 12) (a 13) (a 14) (a 15) (a 16) (a 17) er wr mqs msz mch mft mpt mdp mvd mmk nw nc nl cz fd sz hTy kmo) rfl rfl (fun r G' hD' hw => ?_)
  obtain ⟨hT, hF, hr, k9⟩ := hw
  exact ⟨hr, κ, Ad, τ, a, sp, x, fS, fV, fm, fr, fw, ff, cz, mqs, msz, mch, mft, mpt, mdp, mvd, mmk, nw, hT, k9, (kb.f1 hn hF), hn, kt, hst, hrv, hb, hxc, hxl, hij⟩
set_option maxHeartbeats 4000000 in
theorem ri_feed (l : Launch) (dC : Nat → ClassId) (dI : Nat → Nat → Nat) (sb : sB) (γ : cG) (gT : ClassId) (mo : Nat) (fu : Nat → Nat) (fd : Nat) (wr : Int32) (nc nl : Nat) (xc xl : Nat → TD) (wx : Nat → Nat) (vs : sS) (er : Int32) (G : va_W) (x0 x1 x2 x3 x4 : Int32) (sz : Nat) (h : RI γ gT mo fu fd wr nc nl xc xl wx vs er G)  : RCi l y_Model_feed w_Model_feed ({ frames := 1, cells := 0, slots := 0, locals := 22 }) [.ref mo, .int x0, .int x1, .int x2, .int x3, .int x4] (dC, dI) sb (ty5 γ gT) G sz (fun r G' => (fd ≤ 2040 ∧ r = nI (fd + 20) ∧ RI γ gT mo (fw20 fu fd x0 x1 x2 x3 x4) (fd + 20) wr nc nl xc xl wx vs 0 G') ∨ (2040 < fd ∧ r = 0 ∧ RI γ gT mo fu fd wr nc nl xc xl wx vs 1 G')) := by
  obtain ⟨κ, Ad, τ, a, sp, x, fS, fV, fm, fr, fw, ff, cz, mqs, msz, mch, mft, mpt, mdp, mvd, mmk, nw, hTy, kmo, kb, hn, kt, hst, hrv, hb, hxc, hxl, hij⟩ := h
  have e7 := rn7 hn.1
  by_cases hfd : fd ≤ 2040
  · refine rci_of (m_Model_feed_0 l dC dI sb γ κ Ad τ gT G mo (a 1) (a 2) (a 3) sp (a 5) (a 6) (a 7) (a 8) (a 9) (a 10) (a 11) (a 12) (a 13) (a 14) (a 15) (a 16) (a 17) er wr mqs msz mch mft mpt mdp mvd mmk nw nc nl cz fd x0 x1 x2 x3 x4 (tI fu) sz hTy kmo kb.1 (e7.1.1) (by omega)) rfl rfl (fun r G' hD' hw => ?_)
    obtain ⟨hT, hF, hr, k9, f9, ko, hj⟩ := hw
    rw [fed_tI hj] at ko
    exact Or.inl ⟨hfd, hr, κ, Ad, τ, a, sp, x, fS, fV, fm, fr, fw, ff, cz, mqs, msz, mch, mft, mpt, mdp, mvd, mmk, nw, hT, k9, (kb.f4 hn hF ko (fw20_lt kb.2.2.2.2.2.2.2.2.2.2.2 _ _ _ _ _ _)), hn, kt, hst, hrv, ⟨hb.1, hb.2.1, hb.2.2.1, by omega, hb.2.2.2.2⟩, hxc, hxl, hij⟩
  · refine rci_of (m_Model_feed_1 l dC dI sb γ κ Ad τ gT G mo (a 1) (a 2) (a 3) sp (a 5) (a 6) (a 7) (a 8) (a 9) (a 10) (a 11) (a 12) (a 13) (a 14) (a 15) (a 16) (a 17) er wr mqs msz mch mft mpt mdp mvd mmk nw nc nl cz fd x0 x1 x2 x3 x4 sz hTy kmo (by omega) hb.2.2.2.1) rfl rfl (fun r G' hD' hw => ?_)
    obtain ⟨hT, hF, hr, k9⟩ := hw
    exact Or.inr ⟨by omega, hr, κ, Ad, τ, a, sp, x, fS, fV, fm, fr, fw, ff, cz, mqs, msz, mch, mft, mpt, mdp, mvd, mmk, nw, hT, k9, (kb.f1 hn hF), hn, kt, hst, hrv, hb, hxc, hxl, hij⟩
set_option maxHeartbeats 4000000 in
theorem ri_trust (l : Launch) (dC : Nat → ClassId) (dI : Nat → Nat → Nat) (sb : sB) (γ : cG) (gT : ClassId) (mo : Nat) (fu : Nat → Nat) (fd : Nat) (wr : Int32) (nc nl : Nat) (xc xl : Nat → TD) (wx : Nat → Nat) (vs : sS) (er : Int32) (G : va_W) (i v : Int32) (sz : Nat) (h : RI γ gT mo fu fd wr nc nl xc xl wx vs er G) (hv : b01 v) : RCi l y_Model_trust w_Model_trust ({ frames := 2, cells := 0, slots := 0, locals := 44 }) [.ref mo, .int i, .int v] (dC, dI) sb (ty5 γ gT) G sz (fun r G' => (∃ k, k < nc ∧ i = nI k ∧ r = (xc k).I 42 ∧ RI γ gT mo fu fd wr nc nl (vU xc k (tUp (xc k) v)) xl wx vs 0 G') ∨ (¬ (¬ i < 0 ∧ i < nI nc) ∧ r = 0 ∧ RI γ gT mo fu fd wr nc nl xc xl wx vs 1 G')) := by
  obtain ⟨κ, Ad, τ, a, sp, x, fS, fV, fm, fr, fw, ff, cz, mqs, msz, mch, mft, mpt, mdp, mvd, mmk, nw, hTy, kmo, kb, hn, kt, hst, hrv, hb, hxc, hxl, hij⟩ := h
  have e7 := rn7 hn.1
  by_cases hi : ¬ i < 0 ∧ i < nI nc
  · obtain ⟨k, hk, e9⟩ := nI_at9 hi.1 hi.2 (by omega)
    subst e9
    rcases hv with rfl | rfl
    · refine rci_of (m_Model_trust_ok0 l dC dI sb γ κ Ad τ gT G mo (a 1) (a 2) (a 3) sp (a 5) (a 6) (a 7) (a 8) (a 9) (a 10) (a 11) (a 12) (a 13) (a 14) (a 15) (a 16) (a 17) er wr mqs msz mch mft mpt mdp mvd mmk nw nc nl cz fd fS k sz hTy kmo kb.2.1 (e7.1.2.1) hst hb.1 hk) rfl rfl (fun r G' hD' hw => ?_)
      obtain ⟨-, hF, t, ht, hT, hr, k9⟩ := hw
      refine Or.inl ⟨k, hk, rfl, by rw [hxc k hk t ht]; exact hr, κ, Ad, (tTr τ t (0 : Int32)), a, sp, x, fS, fV, fm, fr, fw, ff, cz, mqs, msz, mch, mft, mpt, mdp, mvd, mmk, nw, hT, k9, (kb.f1 hn hF), hn, kt, hst.tr (by unfold b01; decide) t, hrv.tr t, hb, fun z hz t' ht' => ?_, fun z hz t' ht' => ?_, hij⟩
      · by_cases hzk : z = k
        · subst hzk
          obtain rfl : t = t' := Option.some.inj (ht.symm.trans ht')
          have e1 : vU xc z (tUp (xc z) (0 : Int32)) z = _ := if_pos rfl
          rw [e1, tTr_at, hxc z hz t ht]
        · have e1 : vU xc k (tUp (xc k) (0 : Int32)) z = xc z := if_neg hzk
          have hne : ¬ t' = t := fun e => hzk (hij.1 z k hz hk (by rw [ht, ht', e]))
          have e2 : tTr τ t (0 : Int32) t' = τ t' := if_neg hne
          rw [e1, e2]
          exact hxc z hz t' ht'
      · obtain ⟨t2, f1, g1, c1⟩ := hrv z hz
        obtain ⟨t3, f2, g2, c2⟩ := hst k hk
        obtain rfl : t' = t2 := Option.some.inj (ht'.symm.trans f1)
        obtain rfl : t = t3 := Option.some.inj (ht.symm.trans f2)
        have hne : ¬ t' = t := fun e => hij.2 k z hk hz (by rw [ht, ht', e])
        have e2 : tTr τ t (0 : Int32) t' = τ t' := if_neg hne
        rw [e2]
        exact hxl z hz t' ht'
    · refine rci_of (m_Model_trust_ok1 l dC dI sb γ κ Ad τ gT G mo (a 1) (a 2) (a 3) sp (a 5) (a 6) (a 7) (a 8) (a 9) (a 10) (a 11) (a 12) (a 13) (a 14) (a 15) (a 16) (a 17) er wr mqs msz mch mft mpt mdp mvd mmk nw nc nl cz fd fS k sz hTy kmo kb.2.1 (e7.1.2.1) hst hb.1 hk) rfl rfl (fun r G' hD' hw => ?_)
      obtain ⟨-, hF, t, ht, hT, hr, k9⟩ := hw
      refine Or.inl ⟨k, hk, rfl, by rw [hxc k hk t ht]; exact hr, κ, Ad, (tTr τ t (1 : Int32)), a, sp, x, fS, fV, fm, fr, fw, ff, cz, mqs, msz, mch, mft, mpt, mdp, mvd, mmk, nw, hT, k9, (kb.f1 hn hF), hn, kt, hst.tr (by unfold b01; decide) t, hrv.tr t, hb, fun z hz t' ht' => ?_, fun z hz t' ht' => ?_, hij⟩
      · by_cases hzk : z = k
        · subst hzk
          obtain rfl : t = t' := Option.some.inj (ht.symm.trans ht')
          have e1 : vU xc z (tUp (xc z) (1 : Int32)) z = _ := if_pos rfl
          rw [e1, tTr_at, hxc z hz t ht]
        · have e1 : vU xc k (tUp (xc k) (1 : Int32)) z = xc z := if_neg hzk
          have hne : ¬ t' = t := fun e => hzk (hij.1 z k hz hk (by rw [ht, ht', e]))
          have e2 : tTr τ t (1 : Int32) t' = τ t' := if_neg hne
          rw [e1, e2]
          exact hxc z hz t' ht'
      · obtain ⟨t2, f1, g1, c1⟩ := hrv z hz
        obtain ⟨t3, f2, g2, c2⟩ := hst k hk
        obtain rfl : t' = t2 := Option.some.inj (ht'.symm.trans f1)
        obtain rfl : t = t3 := Option.some.inj (ht.symm.trans f2)
        have hne : ¬ t' = t := fun e => hij.2 k z hk hz (by rw [ht, ht', e])
        have e2 : tTr τ t (1 : Int32) t' = τ t' := if_neg hne
        rw [e2]
        exact hxl z hz t' ht'
  · refine rci_of (m_Model_trust_1 l dC dI sb γ κ Ad τ gT G mo (a 1) (a 2) (a 3) sp (a 5) (a 6) (a 7) (a 8) (a 9) (a 10) (a 11) (a 12) (a 13) (a 14) (a 15) (a 16) (a 17) er wr mqs msz mch mft mpt mdp mvd mmk nw nc nl cz fd i v sz hTy kmo hi hb.1) rfl rfl (fun r G' hD' hw => ?_)
    obtain ⟨hT, hF, hr, k9⟩ := hw
    exact Or.inr ⟨hi, hr, κ, Ad, τ, a, sp, x, fS, fV, fm, fr, fw, ff, cz, mqs, msz, mch, mft, mpt, mdp, mvd, mmk, nw, hT, k9, (kb.f1 hn hF), hn, kt, hst, hrv, hb, hxc, hxl, hij⟩
