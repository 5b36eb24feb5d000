/-! The law: what call 7 does. -/
set_option maxHeartbeats 4000000 in
set_option maxRecDepth 100000 in
theorem lw_case7 {p : Program} {e : Env} {s : State} {m : MethodId} {below : List Frame} {meth : Method} {c : Code} (l : Launch) (hl0 : l.stackTraces = false) {b L : Nat} {xs : Nat → Int32} {dC : Nat → ClassId} {dI : Nat → Nat → Nat} {γ : cG} {gT : ClassId} {sb : sB} {A : Nat → Prop} (X : lwX p s m c b L xs dC dI γ gT sb A) {Q : State → Prop} {H : Heap} {locs : List Loc} {ls : Array Slot} {cells slots q0 ou mo i : Nat} {GC GR : va_W} (hi : i + 10 ≤ L) (hJ : LJ γ sb gT q0 ou mo i cells slots GC GR) (hP : va_P (dC, dI) classes (GC ++ GR) H) (hD : va_D A (GC ++ GR)) (hS : va_S A s.heap H locs) (hl : lv_has ls 8 [(4, .int (nI i)), (3, .ref ou), (2, .ref mo), (1, .ref q0), (0, .ref b)]) (kk : ∀ (GC' GR' : va_W) (H' : Heap) (locs' : List Loc) (ls' : Array Slot) (cells' slots' : Nat), LJ γ sb gT q0 ou mo (i + 10) cells' slots' GC' GR' → va_P (dC, dI) classes (GC' ++ GR') H' → va_D A (GC' ++ GR') → va_S A s.heap H' locs' → lv_has ls' 8 [(4, .int (nI i)), (3, .ref ou), (2, .ref mo), (1, .ref q0), (0, .ref b)] → W p l e room_1 s m #[Value.ref b] below meth c H' locs' cells' slots' Q (F0 m 933 ls' [])) : W p l e room_1 s m #[Value.ref b] below meth c H locs cells slots Q (F0 m 417 ls []) := by
  obtain ⟨hx, hb, hml, hown, hts, hK, hN, hT, hTh, hB0, hA, hAs, hX, hbl, hbA, hL5⟩ := X
  have tbin : ∀ w ∈ tb, w ∈ tb := fun w h => h
  have htb : ∀ w ∈ tb, w.before #[Value.ref b] s = true := hts
  obtain ⟨fu, fd, wr, nc, nl, vc, vl, cc, cl, vs, ov, xc, xl, wx, er, hC, hR, hNm, hRl⟩ := hJ
  obtain ⟨hb1, hb2, hb3, hu8, hw8, fs8, hmo⟩ := hR.nb
  obtain ⟨hrc, hrs⟩ := hNm.room hi hL5
  obtain ⟨x1, hx1⟩ : ∃ x9, xs ((nI i + 1 : Int32).toNatClampNeg) = x9 := ⟨_, rfl⟩
  obtain ⟨x2, hx2⟩ : ∃ x9, xs ((nI i + 2 : Int32).toNatClampNeg) = x9 := ⟨_, rfl⟩
  obtain ⟨x3, hx3⟩ : ∃ x9, xs ((nI i + 3 : Int32).toNatClampNeg) = x9 := ⟨_, rfl⟩
  obtain ⟨x4, hx4⟩ : ∃ x9, xs ((nI i + 4 : Int32).toNatClampNeg) = x9 := ⟨_, rfl⟩
  obtain ⟨x5, hx5⟩ : ∃ x9, xs ((nI i + 5 : Int32).toNatClampNeg) = x9 := ⟨_, rfl⟩
  obtain ⟨x6, hx6⟩ : ∃ x9, xs ((nI i + 6 : Int32).toNatClampNeg) = x9 := ⟨_, rfl⟩
  obtain ⟨x7, hx7⟩ : ∃ x9, xs ((nI i + 7 : Int32).toNatClampNeg) = x9 := ⟨_, rfl⟩
  obtain ⟨x8, hx8⟩ : ∃ x9, xs ((nI i + 8 : Int32).toNatClampNeg) = x9 := ⟨_, rfl⟩
  obtain ⟨x9, hx9⟩ : ∃ x9, xs ((nI i + 9 : Int32).toNatClampNeg) = x9 := ⟨_, rfl⟩
  refine lv_aload_n hx hb d_law_417 rfl (lv_at hl 3 rfl) ?_
  refine w_join (J := fun v => v = zN x1) (pc := 432) (ls := ls) (rest := [.ref q0]) (fun v hv => ?_) (fun k432 => ?_)
  · skip
    subst hv
    refine lv_aload_n hx hb d_law_432 rfl (lv_at hl 4 rfl) ?_
    refine lv_iload hx hb d_law_433 (lv_at hl 0 rfl) ?_
    refine lv_iconst (v := 2) hx hb d_law_435 (by decide) ?_
    refine lv_iadd hx hb d_law_436 ?_
    refine va_sld (i := (nI i) + 2) hx hb hX hbl hbA hS (vi_in 2 (by omega) hL5) d_law_437 ?_
    rw [hx2]
    refine lv_aload_n hx hb d_law_438 rfl (lv_at hl 4 rfl) ?_
    refine lv_iload hx hb d_law_439 (lv_at hl 0 rfl) ?_
    refine lv_iconst (v := 3) hx hb d_law_441 (by decide) ?_
    refine lv_iadd hx hb d_law_442 ?_
    refine va_sld (i := (nI i) + 3) hx hb hX hbl hbA hS (vi_in 3 (by omega) hL5) d_law_443 ?_
    rw [hx3]
    refine lv_aload_n hx hb d_law_444 rfl (lv_at hl 1 rfl) ?_
    refine lc_call (As := [.ref q0, .int (zN x1), .int x2, .int x3, .ref ou]) (rest := []) (G := GC) (R9 := GR) ⟨hx, hb, hml, hown, hts⟩ tbin (ci_signed l hl0 dC dI sb γ q0 ou fu fd wr nc nl vc vl cc cl vs ov GC (zN x1) x2 x3 H.size hC ) q5_168 q5_169 q1_0 q5_170 (n := 5) (by decide +kernel) rfl ⟨Nat.le_of_ble_eq_true rfl, Nat.le_of_ble_eq_true rfl⟩ ⟨(by show cells + 1 ≤ 601024; omega), (by show slots + 6 ≤ 7293034; omega)⟩ hTh hN hT hAs hB0 hK hA hP hD hS [0, 1, 2, 3] rfl hl.1 rfl (Nat.le_of_ble_eq_true rfl) d_law_445 (fun r1 G1 H1 locs hw1 hP hD hS => ?_)
    change W _ _ _ _ _ _ _ _ _ _ _ _ (cells + 1) (slots + 6) _ _
    obtain ⟨hP, hD⟩ := two_swap hP hD
    obtain ⟨ov1, hC1, ho1⟩ := hw1
    refine lv_istore (lv' := [(5, .int r1), (4, .int (nI i)), (3, .ref ou), (2, .ref mo), (1, .ref q0), (0, .ref b)]) hx hb d_law_448 hl (by decide) rfl (fun ls hl => ?_)
    refine lv_aload_n hx hb d_law_450 rfl (lv_at hl 3 rfl) ?_
    refine w_join (J := fun v => v = zN x1) (pc := 465) (ls := ls) (rest := [.ref mo]) (fun v hv => ?_) (fun k465 => ?_)
    · skip
      subst hv
      refine lv_aload_n hx hb d_law_465 rfl (lv_at hl 5 rfl) ?_
      refine lv_iload hx hb d_law_466 (lv_at hl 1 rfl) ?_
      refine lv_iconst (v := 2) hx hb d_law_468 (by decide) ?_
      refine lv_iadd hx hb d_law_469 ?_
      refine va_sld (i := (nI i) + 2) hx hb hX hbl hbA hS (vi_in 2 (by omega) hL5) d_law_470 ?_
      rw [hx2]
      refine lv_aload_n hx hb d_law_471 rfl (lv_at hl 5 rfl) ?_
      refine lv_iload hx hb d_law_472 (lv_at hl 1 rfl) ?_
      refine lv_iconst (v := 3) hx hb d_law_474 (by decide) ?_
      refine lv_iadd hx hb d_law_475 ?_
      refine va_sld (i := (nI i) + 3) hx hb hX hbl hbA hS (vi_in 3 (by omega) hL5) d_law_476 ?_
      rw [hx3]
      refine rc_calli (As := [.int (zN x1), .int x2, .int x3]) (rest := []) (G := GR) (R9 := G1) ⟨hx, hb, hml, hown, hts⟩ tbin (ri_signed l dC dI sb γ gT mo fu fd wr nc nl xc xl wx vs er GR (zN x1) x2 x3 H1.size hR (zN_b _)) q9_92 q9_93 q9_94 q1_9 q9_95 (n := 3) (by decide +kernel) rfl ⟨Nat.le_of_ble_eq_true rfl, Nat.le_of_ble_eq_true rfl⟩ ⟨(by show cells + 1 + 0 ≤ 601024; omega), (by show slots + 6 + 0 ≤ 7293034; omega)⟩ hN hT hAs hB0 hK hA hP hD hS [0, 1, 2, 3, 4] rfl hmo rfl rfl hl.1 rfl (Nat.le_of_ble_eq_true rfl) d_law_477 (fun r2 G2 H2 locs hw2 hP hD hS => ?_)
      change W _ _ _ _ _ _ _ _ _ _ _ _ (cells + 1 + 0) (slots + 6 + 0) _ _
      obtain ⟨hP, hD⟩ := two_swap hP hD
      have hR2 : ∃ er', RI γ gT mo fu fd wr nc nl xc xl wx vs er' G2 := by
        rcases hw2 with ⟨_, _, -, -, -, -, h⟩ | ⟨-, h⟩ <;> exact ⟨_, h⟩
      obtain ⟨er2, hR2⟩ := hR2
      refine lv_istore (lv' := [(6, .int r2), (5, .int r1), (4, .int (nI i)), (3, .ref ou), (2, .ref mo), (1, .ref q0), (0, .ref b)]) hx hb d_law_480 hl (by decide) rfl (fun ls hl => ?_)
      refine lv_goto (tgt := 933) hx hb d_law_482 (by decide) ?_
      exact kk G1 G2 _ _ ls _ _ ⟨fu, fd, wr, nc, nl, _, _, _, _, _, _, _, _, _, _, hC1, hR2, hNm.next (by omega) (by omega), hRl⟩ hP hD hS (lv_sub hl [2, 3, 4, 5, 6] rfl)
    · skip
      refine lv_aload_n hx hb d_law_451 rfl (lv_at hl 5 rfl) ?_
      refine lv_iload hx hb d_law_452 (lv_at hl 1 rfl) ?_
      refine lv_iconst (v := 1) hx hb d_law_454 (by decide) ?_
      refine lv_iadd hx hb d_law_455 ?_
      refine va_sld (i := (nI i) + 1) hx hb hX hbl hbA hS (vi_in 1 (by omega) hL5) d_law_456 ?_
      rw [hx1]
      refine lv_if_eq (tgt := 464) hx hb d_law_457 (by decide) (fun c457 => ?_) (fun c457 => ?_)
      · refine lv_iconst (v := 0) hx hb d_law_464 (by decide) ?_
        exact k465 _ (by first | exact (if_pos c457).symm | exact (if_neg c457).symm | exact (if_pos (Classical.not_not.mp c457)).symm)
      · refine lv_iconst (v := 1) hx hb d_law_460 (by decide) ?_
        refine lv_goto (tgt := 465) hx hb d_law_461 (by decide) ?_
        exact k465 _ (by first | exact (if_pos c457).symm | exact (if_neg c457).symm | exact (if_pos (Classical.not_not.mp c457)).symm)
  · skip
    refine lv_aload_n hx hb d_law_418 rfl (lv_at hl 4 rfl) ?_
    refine lv_iload hx hb d_law_419 (lv_at hl 0 rfl) ?_
    refine lv_iconst (v := 1) hx hb d_law_421 (by decide) ?_
    refine lv_iadd hx hb d_law_422 ?_
    refine va_sld (i := (nI i) + 1) hx hb hX hbl hbA hS (vi_in 1 (by omega) hL5) d_law_423 ?_
    rw [hx1]
    refine lv_if_eq (tgt := 431) hx hb d_law_424 (by decide) (fun c424 => ?_) (fun c424 => ?_)
    · refine lv_iconst (v := 0) hx hb d_law_431 (by decide) ?_
      exact k432 _ (by first | exact (if_pos c424).symm | exact (if_neg c424).symm | exact (if_pos (Classical.not_not.mp c424)).symm)
    · refine lv_iconst (v := 1) hx hb d_law_427 (by decide) ?_
      refine lv_goto (tgt := 432) hx hb d_law_428 (by decide) ?_
      exact k432 _ (by first | exact (if_pos c424).symm | exact (if_neg c424).symm | exact (if_pos (Classical.not_not.mp c424)).symm)
