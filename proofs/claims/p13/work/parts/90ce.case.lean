/-! The law: what call 4 does. -/
set_option maxHeartbeats 4000000 in
set_option maxRecDepth 100000 in
theorem lw_case4 {p : Program} {e : Env} {s : State} {m : MethodId} {below : List Frame} {meth : Method} {c : Code} (l : Launch) (hl0 : l.stackTraces = false) {b L : Nat} {xs : Nat → Int32} {dC : Nat → ClassId} {dI : Nat → Nat → Nat} {γ : cG} {gT : ClassId} {sb : sB} {A : Nat → Prop} (X : lwX p s m c b L xs dC dI γ gT sb A) {Q : State → Prop} {H : Heap} {locs : List Loc} {ls : Array Slot} {cells slots q0 ou mo i : Nat} {GC GR : va_W} (hi : i + 10 ≤ L) (hJ : LJ γ sb gT q0 ou mo i cells slots GC GR) (hP : va_P (dC, dI) classes (GC ++ GR) H) (hD : va_D A (GC ++ GR)) (hS : va_S A s.heap H locs) (hl : lv_has ls 8 [(4, .int (nI i)), (3, .ref ou), (2, .ref mo), (1, .ref q0), (0, .ref b)]) (kk : ∀ (GC' GR' : va_W) (H' : Heap) (locs' : List Loc) (ls' : Array Slot) (cells' slots' : Nat), LJ γ sb gT q0 ou mo (i + 10) cells' slots' GC' GR' → va_P (dC, dI) classes (GC' ++ GR') H' → va_D A (GC' ++ GR') → va_S A s.heap H' locs' → lv_has ls' 8 [(4, .int (nI i)), (3, .ref ou), (2, .ref mo), (1, .ref q0), (0, .ref b)] → W p l e room_1 s m #[Value.ref b] below meth c H' locs' cells' slots' Q (F0 m 933 ls' [])) : W p l e room_1 s m #[Value.ref b] below meth c H locs cells slots Q (F0 m 281 ls []) := by
  obtain ⟨hx, hb, hml, hown, hts, hK, hN, hT, hTh, hB0, hA, hAs, hX, hbl, hbA, hL5⟩ := X
  have tbin : ∀ w ∈ tb, w ∈ tb := fun w h => h
  have htb : ∀ w ∈ tb, w.before #[Value.ref b] s = true := hts
  obtain ⟨fu, fd, wr, nc, nl, vc, vl, cc, cl, vs, ov, xc, xl, wx, er, hC, hR, hNm, hRl⟩ := hJ
  obtain ⟨hb1, hb2, hb3, hu8, hw8, fs8, hmo⟩ := hR.nb
  obtain ⟨hrc, hrs⟩ := hNm.room hi hL5
  obtain ⟨x1, hx1⟩ : ∃ x9, xs ((nI i + 1 : Int32).toNatClampNeg) = x9 := ⟨_, rfl⟩
  obtain ⟨x2, hx2⟩ : ∃ x9, xs ((nI i + 2 : Int32).toNatClampNeg) = x9 := ⟨_, rfl⟩
  obtain ⟨x3, hx3⟩ : ∃ x9, xs ((nI i + 3 : Int32).toNatClampNeg) = x9 := ⟨_, rfl⟩
  obtain ⟨x4, hx4⟩ : ∃ x9, xs ((nI i + 4 : Int32).toNatClampNeg) = x9 := ⟨_, rfl⟩
  obtain ⟨x5, hx5⟩ : ∃ x9, xs ((nI i + 5 : Int32).toNatClampNeg) = x9 := ⟨_, rfl⟩
  obtain ⟨x6, hx6⟩ : ∃ x9, xs ((nI i + 6 : Int32).toNatClampNeg) = x9 := ⟨_, rfl⟩
  obtain ⟨x7, hx7⟩ : ∃ x9, xs ((nI i + 7 : Int32).toNatClampNeg) = x9 := ⟨_, rfl⟩
  obtain ⟨x8, hx8⟩ : ∃ x9, xs ((nI i + 8 : Int32).toNatClampNeg) = x9 := ⟨_, rfl⟩
  obtain ⟨x9, hx9⟩ : ∃ x9, xs ((nI i + 9 : Int32).toNatClampNeg) = x9 := ⟨_, rfl⟩
  refine lv_aload_n hx hb d_law_281 rfl (lv_at hl 3 rfl) ?_
  refine lv_aload_n hx hb d_law_282 rfl (lv_at hl 4 rfl) ?_
  refine lv_iload hx hb d_law_283 (lv_at hl 0 rfl) ?_
  refine lv_iconst (v := 1) hx hb d_law_285 (by decide) ?_
  refine lv_iadd hx hb d_law_286 ?_
  refine va_sld (i := (nI i) + 1) hx hb hX hbl hbA hS (vi_in 1 (by omega) hL5) d_law_287 ?_
  rw [hx1]
  refine w_join (J := fun v => v = zN x2) (pc := 302) (ls := ls) (rest := [.int x1, .ref q0]) (fun v hv => ?_) (fun k302 => ?_)
  · skip
    subst hv
    refine lv_aload_n hx hb d_law_302 rfl (lv_at hl 1 rfl) ?_
    refine lc_call (As := [.ref q0, .int x1, .int (zN x2), .ref ou]) (rest := []) (G := GC) (R9 := GR) ⟨hx, hb, hml, hown, hts⟩ tbin (ci_trust l hl0 dC dI sb γ q0 ou fu fd wr nc nl vc vl cc cl vs ov GC x1 (zN x2) H.size hC (zN_b _)) q5_130 q5_131 q1_0 q5_132 (n := 4) (by decide +kernel) rfl ⟨Nat.le_of_ble_eq_true rfl, Nat.le_of_ble_eq_true rfl⟩ ⟨(by show cells + 1 ≤ 601024; omega), (by show slots + 6 ≤ 7293034; omega)⟩ hTh hN hT hAs hB0 hK hA hP hD hS [0, 1, 2, 3] rfl hl.1 rfl (Nat.le_of_ble_eq_true rfl) d_law_303 (fun r1 G1 H1 locs hw1 hP hD hS => ?_)
    change W _ _ _ _ _ _ _ _ _ _ _ _ (cells + 1) (slots + 6) _ _
    obtain ⟨hP, hD⟩ := two_swap hP hD
    rcases hw1 with ⟨hr1, k1, hk1, hi1, hC1⟩ | ⟨hr1, hb1, hC1⟩
    · skip
      refine lv_istore (lv' := [(5, .int r1), (4, .int (nI i)), (3, .ref ou), (2, .ref mo), (1, .ref q0), (0, .ref b)]) hx hb d_law_306 hl (by decide) rfl (fun ls hl => ?_)
      refine lv_aload_n hx hb d_law_308 rfl (lv_at hl 3 rfl) ?_
      refine lv_aload_n hx hb d_law_309 rfl (lv_at hl 5 rfl) ?_
      refine lv_iload hx hb d_law_310 (lv_at hl 1 rfl) ?_
      refine lv_iconst (v := 1) hx hb d_law_312 (by decide) ?_
      refine lv_iadd hx hb d_law_313 ?_
      refine va_sld (i := (nI i) + 1) hx hb hX hbl hbA hS (vi_in 1 (by omega) hL5) d_law_314 ?_
      rw [hx1]
      refine w_join (J := fun v => v = zN x2) (pc := 329) (ls := ls) (rest := [.int x1, .ref mo]) (fun v hv => ?_) (fun k329 => ?_)
      · skip
        subst hv
        refine rc_calli (As := [.int x1, .int (zN x2)]) (rest := []) (G := GR) (R9 := G1) ⟨hx, hb, hml, hown, hts⟩ tbin (ri_trust l dC dI sb γ gT mo fu fd wr nc nl xc xl wx vs er GR x1 (zN x2) H1.size hR (zN_b _)) q9_60 q9_61 q9_62 q1_9 q9_63 (n := 2) (by decide +kernel) rfl ⟨Nat.le_of_ble_eq_true rfl, Nat.le_of_ble_eq_true rfl⟩ ⟨(by show cells + 1 + 0 ≤ 601024; omega), (by show slots + 6 + 0 ≤ 7293034; omega)⟩ hN hT hAs hB0 hK hA hP hD hS [0, 1, 2, 3, 4] rfl hmo rfl rfl hl.1 rfl (Nat.le_of_ble_eq_true rfl) d_law_329 (fun r2 G2 H2 locs hw2 hP hD hS => ?_)
        change W _ _ _ _ _ _ _ _ _ _ _ _ (cells + 1 + 0) (slots + 6 + 0) _ _
        obtain ⟨hP, hD⟩ := two_swap hP hD
        obtain ⟨k2, hk2, hi2, hr2, hR2⟩ := hw2.resolve_right (fun q => q.1 (by rw [hi1]; exact nI_rng hk1 (by omega)))
        obtain rfl : k1 = k2 := nI_inj9 (by omega) (by omega) (hi1.symm.trans hi2)
        refine lv_istore (lv' := [(6, .int r2), (5, .int r1), (4, .int (nI i)), (3, .ref ou), (2, .ref mo), (1, .ref q0), (0, .ref b)]) hx hb d_law_332 hl (by decide) rfl (fun ls hl => ?_)
        refine lv_goto (tgt := 933) hx hb d_law_334 (by decide) ?_
        exact kk G1 G2 _ _ ls _ _ ⟨fu, fd, wr, nc, nl, _, _, _, _, _, _, _, _, _, _, hC1, hR2, hNm.next (by omega) (by omega), hRl.tr k1⟩ hP hD hS (lv_sub hl [2, 3, 4, 5, 6] rfl)
      · skip
        refine lv_aload_n hx hb d_law_315 rfl (lv_at hl 5 rfl) ?_
        refine lv_iload hx hb d_law_316 (lv_at hl 1 rfl) ?_
        refine lv_iconst (v := 2) hx hb d_law_318 (by decide) ?_
        refine lv_iadd hx hb d_law_319 ?_
        refine va_sld (i := (nI i) + 2) hx hb hX hbl hbA hS (vi_in 2 (by omega) hL5) d_law_320 ?_
        rw [hx2]
        refine lv_if_eq (tgt := 328) hx hb d_law_321 (by decide) (fun c321 => ?_) (fun c321 => ?_)
        · refine lv_iconst (v := 0) hx hb d_law_328 (by decide) ?_
          exact k329 _ (by first | exact (if_pos c321).symm | exact (if_neg c321).symm | exact (if_pos (Classical.not_not.mp c321)).symm)
        · refine lv_iconst (v := 1) hx hb d_law_324 (by decide) ?_
          refine lv_goto (tgt := 329) hx hb d_law_325 (by decide) ?_
          exact k329 _ (by first | exact (if_pos c321).symm | exact (if_neg c321).symm | exact (if_pos (Classical.not_not.mp c321)).symm)
    · skip
      refine lv_istore (lv' := [(5, .int r1), (4, .int (nI i)), (3, .ref ou), (2, .ref mo), (1, .ref q0), (0, .ref b)]) hx hb d_law_306 hl (by decide) rfl (fun ls hl => ?_)
      refine lv_aload_n hx hb d_law_308 rfl (lv_at hl 3 rfl) ?_
      refine lv_aload_n hx hb d_law_309 rfl (lv_at hl 5 rfl) ?_
      refine lv_iload hx hb d_law_310 (lv_at hl 1 rfl) ?_
      refine lv_iconst (v := 1) hx hb d_law_312 (by decide) ?_
      refine lv_iadd hx hb d_law_313 ?_
      refine va_sld (i := (nI i) + 1) hx hb hX hbl hbA hS (vi_in 1 (by omega) hL5) d_law_314 ?_
      rw [hx1]
      refine w_join (J := fun v => v = zN x2) (pc := 329) (ls := ls) (rest := [.int x1, .ref mo]) (fun v hv => ?_) (fun k329 => ?_)
      · skip
        subst hv
        refine rc_calli (As := [.int x1, .int (zN x2)]) (rest := []) (G := GR) (R9 := G1) ⟨hx, hb, hml, hown, hts⟩ tbin (ri_trust l dC dI sb γ gT mo fu fd wr nc nl xc xl wx vs er GR x1 (zN x2) H1.size hR (zN_b _)) q9_60 q9_61 q9_62 q1_9 q9_63 (n := 2) (by decide +kernel) rfl ⟨Nat.le_of_ble_eq_true rfl, Nat.le_of_ble_eq_true rfl⟩ ⟨(by show cells + 1 + 0 ≤ 601024; omega), (by show slots + 6 + 0 ≤ 7293034; omega)⟩ hN hT hAs hB0 hK hA hP hD hS [0, 1, 2, 3, 4] rfl hmo rfl rfl hl.1 rfl (Nat.le_of_ble_eq_true rfl) d_law_329 (fun r2 G2 H2 locs hw2 hP hD hS => ?_)
        change W _ _ _ _ _ _ _ _ _ _ _ _ (cells + 1 + 0) (slots + 6 + 0) _ _
        obtain ⟨hP, hD⟩ := two_swap hP hD
        obtain ⟨-, hr2, hR2⟩ := hw2.resolve_left (fun ⟨k, hk, e, _⟩ => hb1 (by rw [e]; exact nI_rng hk (by omega)))
        refine lv_istore (lv' := [(6, .int r2), (5, .int r1), (4, .int (nI i)), (3, .ref ou), (2, .ref mo), (1, .ref q0), (0, .ref b)]) hx hb d_law_332 hl (by decide) rfl (fun ls hl => ?_)
        refine lv_goto (tgt := 933) hx hb d_law_334 (by decide) ?_
        exact kk G1 G2 _ _ ls _ _ ⟨fu, fd, wr, nc, nl, _, _, _, _, _, _, _, _, _, _, hC1, hR2, hNm.next (by omega) (by omega), hRl⟩ hP hD hS (lv_sub hl [2, 3, 4, 5, 6] rfl)
      · skip
        refine lv_aload_n hx hb d_law_315 rfl (lv_at hl 5 rfl) ?_
        refine lv_iload hx hb d_law_316 (lv_at hl 1 rfl) ?_
        refine lv_iconst (v := 2) hx hb d_law_318 (by decide) ?_
        refine lv_iadd hx hb d_law_319 ?_
        refine va_sld (i := (nI i) + 2) hx hb hX hbl hbA hS (vi_in 2 (by omega) hL5) d_law_320 ?_
        rw [hx2]
        refine lv_if_eq (tgt := 328) hx hb d_law_321 (by decide) (fun c321 => ?_) (fun c321 => ?_)
        · refine lv_iconst (v := 0) hx hb d_law_328 (by decide) ?_
          exact k329 _ (by first | exact (if_pos c321).symm | exact (if_neg c321).symm | exact (if_pos (Classical.not_not.mp c321)).symm)
        · refine lv_iconst (v := 1) hx hb d_law_324 (by decide) ?_
          refine lv_goto (tgt := 329) hx hb d_law_325 (by decide) ?_
          exact k329 _ (by first | exact (if_pos c321).symm | exact (if_neg c321).symm | exact (if_pos (Classical.not_not.mp c321)).symm)
  · skip
    refine lv_aload_n hx hb d_law_288 rfl (lv_at hl 4 rfl) ?_
    refine lv_iload hx hb d_law_289 (lv_at hl 0 rfl) ?_
    refine lv_iconst (v := 2) hx hb d_law_291 (by decide) ?_
    refine lv_iadd hx hb d_law_292 ?_
    refine va_sld (i := (nI i) + 2) hx hb hX hbl hbA hS (vi_in 2 (by omega) hL5) d_law_293 ?_
    rw [hx2]
    refine lv_if_eq (tgt := 301) hx hb d_law_294 (by decide) (fun c294 => ?_) (fun c294 => ?_)
    · refine lv_iconst (v := 0) hx hb d_law_301 (by decide) ?_
      exact k302 _ (by first | exact (if_pos c294).symm | exact (if_neg c294).symm | exact (if_pos (Classical.not_not.mp c294)).symm)
    · refine lv_iconst (v := 1) hx hb d_law_297 (by decide) ?_
      refine lv_goto (tgt := 302) hx hb d_law_298 (by decide) ?_
      exact k302 _ (by first | exact (if_pos c294).symm | exact (if_neg c294).symm | exact (if_pos (Classical.not_not.mp c294)).symm)
