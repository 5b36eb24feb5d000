/-! The reference's store, over its side of the law. -/
set_option maxHeartbeats 4000000 in
theorem ri_certificate_t1 (l : Launch) (dC : Nat → ClassId) (dI : Nat → Nat → Nat) (sb : sB) (γ : cG) (gT : ClassId) (mo : Nat) (fu : Nat → Nat) (fd : Nat) (wr : Int32) (nc nl : Nat) (xc xl : Nat → TD) (wx : Nat → Nat) (vs : sS) (er : Int32) (G : va_W) (i : Int32) (sz : Nat) (h : RI γ gT mo fu fd wr nc nl xc xl wx vs er G) (hok : (¬ i < 0 ∧ i ≤ 2048 ∧ i ≤ nI fd) ∧ nc < 16) (hno : (rd_cert (cpN fu wx i.toNatClampNeg) i.toNatClampNeg (0, 0, none) 0 0 (0, 0) (0, 0) 0 (-1) (-1) [] [] [] [] [] [] []).1.2.2 = none) : RCi l y_Model_certificate w_Model_certificate ({ frames := 15, cells := 13, slots := 8202, locals := 353 }) [.ref mo, .int i, .int 1] (dC, dI) sb (ty5 γ gT) G sz (fun r G' => r = nI nc ∧ ∃ xm, cX (cpN fu wx i.toNatClampNeg) i.toNatClampNeg 1 xm ∧ RI γ gT mo fu 0 (-1) (nc + 1) nl (vU xc nc xm) xl (fun _ => 0) vs 0 G') := by
  obtain ⟨κ, Ad, τ, a, sp, x, fS, fV, fm, fr, fw, ff, cz, mqs, msz, mch, mft, mpt, mdp, mvd, mmk, nw, hTy, kmo, kb, hn, kt, hst, hrv, hb, hxc, hxl, hij⟩ := h
  have e7 := rn7 hn.1
  obtain ⟨n, hn9, e9⟩ := nI_of hok.1.1
  subst e9
  have hn2 : n ≤ 2048 := by
    have h9 := Int32.not_lt.mpr hok.1.2.1
    have h8 : ¬ nI 2048 < nI n := h9
    rw [nI_ltI (by decide) hn9] at h8
    omega
  have hn3 : n ≤ fd := by
    have h9 := Int32.not_lt.mpr hok.1.2.2
    have hb4 := hb.2.2.2.1
    rw [nI_ltI (by omega) hn9] at h9
    omega
  rw [nI_clamp hn9] at hno
  obtain ⟨k1, k2, k3, ⟨k13, b13⟩, ⟨k5, b5⟩, k16, k17, ks, kA, hd, hw9, hu⟩ := id kb
  have hcu : ∀ j, cpN fu wx n j < 256 := fun j => by
    unfold cpN
    split
    · exact hu j
    · exact hw9 j
  have hq := cert_q hcu (n := n) (s := 0) (ok := (0, 0)) (ik := (0, 0)) (f1 := x.I 32) (f2 := x.I 34) (D2 := []) (D3 := []) (D4 := []) (D5 := []) (D6 := []) (D7 := []) hn2
  obtain ⟨R9, hp⟩ := pickL (l := w0C γ gT a fu fS sp x mo (mC a sp er fd wr nc nl mqs msz cz mch mft mpt mdp mvd nw mmk)) (G := G) (fun c hc => by
    rcases List.mem_cons.mp hc with e | hc
    · rw [e]; exact kmo.2
    rcases List.mem_cons.mp hc with e | hc
    · rw [e]; exact k1.2
    rcases List.mem_cons.mp hc with e | hc
    · rw [e]; exact k2.2
    rcases List.mem_cons.mp hc with e | hc
    · rw [e]; exact ks.2
    rcases List.mem_cons.mp hc with e | hc
    · rw [e]; exact (kA 0 (by decide)).2
    rcases List.mem_cons.mp hc with e | hc
    · rw [e]; exact (kA 1 (by decide)).2
    rcases List.mem_cons.mp hc with e | hc
    · rw [e]; exact (kA 2 (by decide)).2
    rcases List.mem_cons.mp hc with e | hc
    · rw [e]; exact (kA 3 (by decide)).2
    rcases List.mem_cons.mp hc with e | hc
    · rw [e]; exact (kA 4 (by decide)).2
    rcases List.mem_cons.mp hc with e | hc
    · rw [e]; exact (kA 5 (by decide)).2
    rcases List.mem_cons.mp hc with e | hc
    · rw [e]; exact (kA 6 (by decide)).2
    rcases List.mem_cons.mp hc with e | hc
    · rw [e]; exact (kA 7 (by decide)).2
    rcases List.mem_cons.mp hc with e | hc
    · rw [e]; exact (kA 8 (by decide)).2
    rcases List.mem_cons.mp hc with e | hc
    · rw [e]; exact (kA 9 (by decide)).2
    rcases List.mem_cons.mp hc with e | hc
    · rw [e]; exact (kA 10 (by decide)).2
    rw [List.mem_singleton.mp hc]; exact (kA 11 (by decide)).2) (by
    have e8 : [mo, a 1, a 2].Nodup := List.nodup_cons.mpr ⟨no2 (Ne.symm (e7.1.1)) (Ne.symm (e7.1.2.1)), List.nodup_cons.mpr ⟨no1 (Ne.symm (e7.2.1.1)), List.nodup_cons.mpr ⟨(fun h => by cases h), List.nodup_nil⟩⟩⟩
    show ([mo, a 1, a 2] ++ (sp :: (List.range 12).map x.A)).Nodup
    refine List.nodup_append.mpr ⟨e8, hn.2.1, fun b hb9 d hd9 e => hn.2.2 d hd9 ?_⟩
    rw [← e]
    rcases List.mem_cons.mp hb9 with e | hb9
    · rw [e]; simp
    · rcases List.mem_cons.mp hb9 with e | hb9
      · rw [e]; simp
      · rw [List.mem_singleton.mp hb9]; simp)
  have hp2 : G.Perm (([(mo, (mC a sp er fd wr nc nl mqs msz cz mch mft mpt mdp mvd nw mmk)), (a 1, .inl (γ.2.1, 2060, .inl (tI fu))), (a 2, .inl (gT, 16, .inr (.inr (.inr (.inr fS))))), (sp, tcell x), (x.A 0, .inl (γ.2.1, 2048, .inl (tI wx))), (x.A 1, .inl (γ.2.1, tlen 1, .inl (x.D 1))), (x.A 2, .inl (γ.2.1, tlen 2, .inl (x.D 2))), (x.A 3, .inl (γ.2.1, tlen 3, .inl (x.D 3))), (x.A 4, .inl (γ.2.1, tlen 4, .inl (x.D 4))), (x.A 5, .inl (γ.2.1, tlen 5, .inl (x.D 5))), (x.A 6, .inl (γ.2.1, tlen 6, .inl (x.D 6))), (x.A 7, .inl (γ.2.1, tlen 7, .inl (x.D 7))), (x.A 8, .inl (γ.2.1, tlen 8, .inl (x.D 8))), (x.A 9, .inl (γ.2.1, tlen 9, .inl (x.D 9))), (x.A 10, .inl (γ.2.1, tlen 10, .inl (x.D 10))), (x.A 11, .inl (γ.2.1, tlen 11, .inl (x.D 11)))] : va_W) ++ R9) := by
    have h9 := hp
    unfold w0C at h9
    rw [hd.1] at h9
    exact h9
  rw [nI_clamp hn9]
  cases hz : tx_readC (cpN fu wx n) n (x.I 32) (x.I 34) with
  | inl w8 =>
    rw [hz] at hq
    have hq : _ = some w8 := hq
    rw [hno] at hq
    cases hq
  | inr z =>
    refine rci_sub (c_Model_certificate_t1 l dC dI sb mo (a 1) (a 2) (a 3) (a 5) (a 6) (a 7) (a 8) (a 9) (a 10) (a 11) (a 12) (a 13) (a 14) (a 15) (a 16) (a 17) sp (x.A 0) (x.A 1) (x.A 2) (x.A 3) (x.A 4) (x.A 5) (x.A 6) (x.A 7) (x.A 8) (x.A 9) (x.A 10) (x.A 11) wr (nI nl) mqs msz (nI cz) mch mft mpt mdp mvd mmk (x.I 1) (x.I 2) (x.I 3) (x.I 4) (x.I 5) (x.I 6) (x.I 10) (x.I 11) (x.I 12) (x.I 13) (x.I 14) (x.I 15) (x.I 16) (x.I 17) (x.I 18) (x.I 19) (x.I 20) (x.I 21) (x.I 22) (x.I 23) (x.I 24) (x.I 25) (x.I 26) (x.I 27) (x.I 28) (x.I 29) (x.I 30) (x.I 31) (x.I 32) (x.I 33) (x.I 34) (x.I 35) (x.I 36) (x.I 37) (x.I 38) (x.I 39) (x.I 40) (x.I 41) (x.I 42) er nw (x.J 7) (x.J 8) (x.J 9) γ.2.1 gT fu wx fS (x.D 1) (x.D 2) (x.D 3) (x.D 4) (x.D 5) (x.D 6) (x.D 7) (x.D 8) (x.D 9) (x.D 10) (x.D 11) n fd nc sz hn2 hn3 hb.2.2.2.1 hok.2 hu hw9 z hz) rfl rfl hp2 [1, 4] rfl (fun r u9 hD' hw => ?_)
    obtain ⟨⟨y1, yw, y3⟩, s1, s2, s3, s4, s5, s6, s7, s8, s9, s10, s11, s12, s13⟩ := u9
    have hyw : yw = -1 := by
      rcases hw.2 with ⟨z, v9, h1, h2, h3, -⟩ | ⟨w9, v9, h1, h2, h3⟩
      · exact congrArg (fun q => q.2.1) h3
      · exact absurd (h1.symm.trans hz) (by intro e; cases e)
    subst hyw
    have hD2 : va_D (va_A G sz) (wTC γ gT a fu (va_up fS (nI nc).toNatClampNeg (some sp)) sp (mkC (x.A 0) (x.A 1) (x.A 2) (x.A 3) (x.A 4) (x.A 5) (x.A 6) (x.A 7) (x.A 8) (x.A 9) (x.A 10) (x.A 11) (cpN fu wx n) n 1 (y1, -1, y3) z) mo (mC a s1 0 0 (-1) (nc + 1) nl mqs msz cz mch mft mpt mdp mvd nw mmk) s1 (TD.mk (fun k => (s2 :: s3 :: s4 :: s5 :: s6 :: s7 :: s8 :: s9 :: s10 :: s11 :: s12 :: s13 :: []).getD k 0) (fun _ => 0) (fun _ => 0) (fun _ _ => 0) (fun _ => 0) 0 0 0 0 0 0 0 0 0 0 0 0 0 0 0 0 0 (fun _ => 0) (fun _ => 0) (fun _ => 0) (fun _ => 0) (fun _ => 0) (fun _ => 0) (fun _ => 0) (fun _ => 0)) ++ R9) := hD'
    obtain ⟨⟨q1, q2, q3, q4⟩, q5, q6⟩ := RBTC (xm := (mkC (x.A 0) (x.A 1) (x.A 2) (x.A 3) (x.A 4) (x.A 5) (x.A 6) (x.A 7) (x.A 8) (x.A 9) (x.A 10) (x.A 11) (cpN fu wx n) n 1 (y1, -1, y3) z)) (xn := (TD.mk (fun k => (s2 :: s3 :: s4 :: s5 :: s6 :: s7 :: s8 :: s9 :: s10 :: s11 :: s12 :: s13 :: []).getD k 0) (fun _ => 0) (fun _ => 0) (fun _ _ => 0) (fun _ => 0) 0 0 0 0 0 0 0 0 0 0 0 0 0 0 0 0 0 (fun _ => 0) (fun _ => 0) (fun _ => 0) (fun _ => 0) (fun _ => 0) (fun _ => 0) (fun _ => 0) (fun _ => 0))) (wx' := fun _ => 0) hTy kmo kb hn hp (fun j hj => by rcases lt12 hj with rfl | rfl | rfl | rfl | rfl | rfl | rfl | rfl | rfl | rfl | rfl | rfl <;> rfl) ⟨rfl, rfl⟩ (fun _ => by decide) hD2
    have hbc := hb.1
    have hbl := hb.2.1
    have hfit : TC (mkC (x.A 0) (x.A 1) (x.A 2) (x.A 3) (x.A 4) (x.A 5) (x.A 6) (x.A 7) (x.A 8) (x.A 9) (x.A 10) (x.A 11) (cpN fu wx n) n 1 (y1, -1, y3) z) := mkC_fits (x.A 0) (x.A 1) (x.A 2) (x.A 3) (x.A 4) (x.A 5) (x.A 6) (x.A 7) (x.A 8) (x.A 9) (x.A 10) (x.A 11) (cpN fu wx n) n (1 : Int32) (y1, -1, y3) z (x.I 32) (x.I 34) hcu hn2 (by unfold b01; decide) hz hw.2
    obtain ⟨w1, w2, w3, w4, w5⟩ := addC (xm := (mkC (x.A 0) (x.A 1) (x.A 2) (x.A 3) (x.A 4) (x.A 5) (x.A 6) (x.A 7) (x.A 8) (x.A 9) (x.A 10) (x.A 11) (cpN fu wx n) n 1 (y1, -1, y3) z)) hst hrv hxc hxl hij q5 q6 hfit
    have hup : va_up fS nc (some sp) = (va_up fS (nI nc).toNatClampNeg (some sp)) := by rw [nI_cl (by omega)]
    rw [hup] at w1 w3 w5
    have key : RI γ gT mo fu 0 (-1) (nc + 1) nl (vU xc nc (mkC (x.A 0) (x.A 1) (x.A 2) (x.A 3) (x.A 4) (x.A 5) (x.A 6) (x.A 7) (x.A 8) (x.A 9) (x.A 10) (x.A 11) (cpN fu wx n) n 1 (y1, -1, y3) z)) xl (fun _ => 0) vs 0 (wTC γ gT a fu (va_up fS (nI nc).toNatClampNeg (some sp)) sp (mkC (x.A 0) (x.A 1) (x.A 2) (x.A 3) (x.A 4) (x.A 5) (x.A 6) (x.A 7) (x.A 8) (x.A 9) (x.A 10) (x.A 11) (cpN fu wx n) n 1 (y1, -1, y3) z) mo (mC a s1 0 0 (-1) (nc + 1) nl mqs msz cz mch mft mpt mdp mvd nw mmk) s1 (TD.mk (fun k => (s2 :: s3 :: s4 :: s5 :: s6 :: s7 :: s8 :: s9 :: s10 :: s11 :: s12 :: s13 :: []).getD k 0) (fun _ => 0) (fun _ => 0) (fun _ _ => 0) (fun _ => 0) 0 0 0 0 0 0 0 0 0 0 0 0 0 0 0 0 0 (fun _ => 0) (fun _ => 0) (fun _ => 0) (fun _ => 0) (fun _ => 0) (fun _ => 0) (fun _ => 0) (fun _ => 0)) ++ R9) := ⟨_, _, _, a, s1, (TD.mk (fun k => (s2 :: s3 :: s4 :: s5 :: s6 :: s7 :: s8 :: s9 :: s10 :: s11 :: s12 :: s13 :: []).getD k 0) (fun _ => 0) (fun _ => 0) (fun _ _ => 0) (fun _ => 0) 0 0 0 0 0 0 0 0 0 0 0 0 0 0 0 0 0 (fun _ => 0) (fun _ => 0) (fun _ => 0) (fun _ => 0) (fun _ => 0) (fun _ => 0) (fun _ => 0) (fun _ => 0)), (va_up fS (nI nc).toNatClampNeg (some sp)), fV, fm, fr, fw, ff, cz, mqs, msz, mch, mft, mpt, mdp, mvd, mmk, nw, q1, q2, q3, q4, kt.gr q5 q6, w1, w2, ⟨by omega, by omega, hb.2.2.1, Nat.zero_le _, hb.2.2.2.2⟩, w3, w4, w5⟩
    exact ⟨hw.1, (mkC (x.A 0) (x.A 1) (x.A 2) (x.A 3) (x.A 4) (x.A 5) (x.A 6) (x.A 7) (x.A 8) (x.A 9) (x.A 10) (x.A 11) (cpN fu wx n) n 1 (y1, -1, y3) z), ⟨(fun k => (x.A 0 :: x.A 1 :: x.A 2 :: x.A 3 :: x.A 4 :: x.A 5 :: x.A 6 :: x.A 7 :: x.A 8 :: x.A 9 :: x.A 10 :: x.A 11 :: []).getD k 0), (y1, -1, y3), z, x.I 32, x.I 34, hz, rfl, hw.2⟩, key⟩
