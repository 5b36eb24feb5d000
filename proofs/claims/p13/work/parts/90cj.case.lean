/-! The law: what call 9 does. -/
set_option maxHeartbeats 4000000 in
set_option maxRecDepth 100000 in
theorem lw_case9 {p : Program} {e : Env} {s : State} {m : MethodId} {below : List Frame} {meth : Method} {c : Code} (l : Launch) (hl0 : l.stackTraces = false) {b L : Nat} {xs : Nat → Int32} {dC : Nat → ClassId} {dI : Nat → Nat → Nat} {γ : cG} {gT : ClassId} {sb : sB} {A : Nat → Prop} (X : lwX p s m c b L xs dC dI γ gT sb A) {Q : State → Prop} {H : Heap} {locs : List Loc} {ls : Array Slot} {cells slots q0 ou mo i : Nat} {GC GR : va_W} (hi : i + 10 ≤ L) (hJ : LJ γ sb gT q0 ou mo i cells slots GC GR) (hP : va_P (dC, dI) classes (GC ++ GR) H) (hD : va_D A (GC ++ GR)) (hS : va_S A s.heap H locs) (hl : lv_has ls 8 [(4, .int (nI i)), (3, .ref ou), (2, .ref mo), (1, .ref q0), (0, .ref b)]) (kk : ∀ (GC' GR' : va_W) (H' : Heap) (locs' : List Loc) (ls' : Array Slot) (cells' slots' : Nat), LJ γ sb gT q0 ou mo (i + 10) cells' slots' GC' GR' → va_P (dC, dI) classes (GC' ++ GR') H' → va_D A (GC' ++ GR') → va_S A s.heap H' locs' → lv_has ls' 8 [(4, .int (nI i)), (3, .ref ou), (2, .ref mo), (1, .ref q0), (0, .ref b)] → W p l e room_1 s m #[Value.ref b] below meth c H' locs' cells' slots' Q (F0 m 933 ls' [])) : W p l e room_1 s m #[Value.ref b] below meth c H locs cells slots Q (F0 m 525 ls []) := by
  obtain ⟨hx, hb, hml, hown, hts, hK, hN, hT, hTh, hB0, hA, hAs, hX, hbl, hbA, hL5⟩ := X
  have tbin : ∀ w ∈ tb, w ∈ tb := fun w h => h
  have htb : ∀ w ∈ tb, w.before #[Value.ref b] s = true := hts
  obtain ⟨fu, fd, wr, nc, nl, vc, vl, cc, cl, vs, ov, xc, xl, wx, er, hC, hR, hNm, hRl⟩ := hJ
  obtain ⟨hb1, hb2, hb3, hu8, hw8, fs8, hmo⟩ := hR.nb
  obtain ⟨hrc, hrs⟩ := hNm.room hi hL5
  obtain ⟨x1, hx1⟩ : ∃ x9, xs ((nI i + 1 : Int32).toNatClampNeg) = x9 := ⟨_, rfl⟩
  obtain ⟨x2, hx2⟩ : ∃ x9, xs ((nI i + 2 : Int32).toNatClampNeg) = x9 := ⟨_, rfl⟩
  obtain ⟨x3, hx3⟩ : ∃ x9, xs ((nI i + 3 : Int32).toNatClampNeg) = x9 := ⟨_, rfl⟩
  obtain ⟨x4, hx4⟩ : ∃ x9, xs ((nI i + 4 : Int32).toNatClampNeg) = x9 := ⟨_, rfl⟩
  obtain ⟨x5, hx5⟩ : ∃ x9, xs ((nI i + 5 : Int32).toNatClampNeg) = x9 := ⟨_, rfl⟩
  obtain ⟨x6, hx6⟩ : ∃ x9, xs ((nI i + 6 : Int32).toNatClampNeg) = x9 := ⟨_, rfl⟩
  obtain ⟨x7, hx7⟩ : ∃ x9, xs ((nI i + 7 : Int32).toNatClampNeg) = x9 := ⟨_, rfl⟩
  obtain ⟨x8, hx8⟩ : ∃ x9, xs ((nI i + 8 : Int32).toNatClampNeg) = x9 := ⟨_, rfl⟩
  obtain ⟨x9, hx9⟩ : ∃ x9, xs ((nI i + 9 : Int32).toNatClampNeg) = x9 := ⟨_, rfl⟩
  refine lv_aload_n hx hb d_law_525 rfl (lv_at hl 3 rfl) ?_
  refine lv_aload_n hx hb d_law_526 rfl (lv_at hl 4 rfl) ?_
  refine lv_iload hx hb d_law_527 (lv_at hl 0 rfl) ?_
  refine lv_iconst (v := 1) hx hb d_law_529 (by decide) ?_
  refine lv_iadd hx hb d_law_530 ?_
  refine va_sld (i := (nI i) + 1) hx hb hX hbl hbA hS (vi_in 1 (by omega) hL5) d_law_531 ?_
  rw [hx1]
  refine lv_aload_n hx hb d_law_532 rfl (lv_at hl 4 rfl) ?_
  refine lv_iload hx hb d_law_533 (lv_at hl 0 rfl) ?_
  refine lv_iconst (v := 2) hx hb d_law_535 (by decide) ?_
  refine lv_iadd hx hb d_law_536 ?_
  refine va_sld (i := (nI i) + 2) hx hb hX hbl hbA hS (vi_in 2 (by omega) hL5) d_law_537 ?_
  rw [hx2]
  refine lv_i2l (v := x2.toInt64) hx hb d_law_538 rfl ?_
  refine lv_bipush (v := 32) hx hb d_law_539 (by decide) ?_
  refine lv_lshl (v := x2.toInt64 <<< ((32 : Int32).toInt64 &&& 63)) hx hb d_law_541 rfl ?_
  refine lv_aload_n hx hb d_law_542 rfl (lv_at hl 4 rfl) ?_
  refine lv_iload hx hb d_law_543 (lv_at hl 0 rfl) ?_
  refine lv_iconst (v := 3) hx hb d_law_545 (by decide) ?_
  refine lv_iadd hx hb d_law_546 ?_
  refine va_sld (i := (nI i) + 3) hx hb hX hbl hbA hS (vi_in 3 (by omega) hL5) d_law_547 ?_
  rw [hx3]
  refine lv_i2l (v := x3.toInt64) hx hb d_law_548 rfl ?_
  refine lv_ldc2 (v := 4294967295) hx hb hown (htb _ q9_190) d_law_549 ?_
  refine lv_land hx hb d_law_552 ?_
  refine lv_lor hx hb d_law_553 ?_
  refine lv_aload_n hx hb d_law_554 rfl (lv_at hl 4 rfl) ?_
  refine lv_iload hx hb d_law_555 (lv_at hl 0 rfl) ?_
  refine lv_iconst (v := 4) hx hb d_law_557 (by decide) ?_
  refine lv_iadd hx hb d_law_558 ?_
  refine va_sld (i := (nI i) + 4) hx hb hX hbl hbA hS (vi_in 4 (by omega) hL5) d_law_559 ?_
  rw [hx4]
  refine w_join (J := fun v => v = zN x5) (pc := 574) (ls := ls) (rest := [.int x4, .long ((x2.toInt64 <<< ((32 : Int32).toInt64 &&& 63)) ||| (x3.toInt64 &&& 4294967295)), .int x1, .ref q0]) (fun v hv => ?_) (fun k574 => ?_)
  · skip
    subst hv
    refine lv_aload_n hx hb d_law_574 rfl (lv_at hl 1 rfl) ?_
    refine lc_call (As := [.ref q0, .int x1, .long ((x2.toInt64 <<< ((32 : Int32).toInt64 &&& 63)) ||| (x3.toInt64 &&& 4294967295)), .int x4, .int (zN x5), .ref ou]) (rest := []) (G := GC) (R9 := GR) ⟨hx, hb, hml, hown, hts⟩ tbin (ci_validate l hl0 dC dI sb γ q0 ou fu fd wr nc nl vc vl cc cl vs ov GC x1 x4 (zN x5) ((x2.toInt64 <<< ((32 : Int32).toInt64 &&& 63)) ||| (x3.toInt64 &&& 4294967295)) H.size hC (zN_bz x5)) q5_231 q5_232 q1_0 q5_233 (n := 6) (by decide +kernel) rfl ⟨Nat.le_of_ble_eq_true rfl, Nat.le_of_ble_eq_true rfl⟩ ⟨(by show cells + 3 ≤ 601024; omega), (by show slots + 47 ≤ 7293034; omega)⟩ hTh hN hT hAs hB0 hK hA hP hD hS [0, 1, 2, 3] rfl hl.1 rfl (Nat.le_of_ble_eq_true rfl) d_law_575 (fun r1 G1 H1 locs hw1 hP hD hS => ?_)
    change W _ _ _ _ _ _ _ _ _ _ _ _ (cells + 3) (slots + 47) _ _
    obtain ⟨hP, hD⟩ := two_swap hP hD
    rcases hw1 with ⟨hr1, k1, D1, hk1, hi1, hj1, hd1, hd2, hC1⟩ | ⟨hr1, hj1, hC1⟩ | ⟨hr1, hj1, hb9, hC1⟩
    · skip
      refine lv_istore (lv' := [(5, .int r1), (4, .int (nI i)), (3, .ref ou), (2, .ref mo), (1, .ref q0), (0, .ref b)]) hx hb d_law_578 hl (by decide) rfl (fun ls hl => ?_)
      refine lv_aload_n hx hb d_law_580 rfl (lv_at hl 3 rfl) ?_
      refine lv_aload_n hx hb d_law_581 rfl (lv_at hl 5 rfl) ?_
      refine lv_iload hx hb d_law_582 (lv_at hl 1 rfl) ?_
      refine lv_iconst (v := 1) hx hb d_law_584 (by decide) ?_
      refine lv_iadd hx hb d_law_585 ?_
      refine va_sld (i := (nI i) + 1) hx hb hX hbl hbA hS (vi_in 1 (by omega) hL5) d_law_586 ?_
      rw [hx1]
      refine lv_aload_n hx hb d_law_587 rfl (lv_at hl 5 rfl) ?_
      refine lv_iload hx hb d_law_588 (lv_at hl 1 rfl) ?_
      refine lv_iconst (v := 2) hx hb d_law_590 (by decide) ?_
      refine lv_iadd hx hb d_law_591 ?_
      refine va_sld (i := (nI i) + 2) hx hb hX hbl hbA hS (vi_in 2 (by omega) hL5) d_law_592 ?_
      rw [hx2]
      refine lv_i2l (v := x2.toInt64) hx hb d_law_593 rfl ?_
      refine lv_bipush (v := 32) hx hb d_law_594 (by decide) ?_
      refine lv_lshl (v := x2.toInt64 <<< ((32 : Int32).toInt64 &&& 63)) hx hb d_law_596 rfl ?_
      refine lv_aload_n hx hb d_law_597 rfl (lv_at hl 5 rfl) ?_
      refine lv_iload hx hb d_law_598 (lv_at hl 1 rfl) ?_
      refine lv_iconst (v := 3) hx hb d_law_600 (by decide) ?_
      refine lv_iadd hx hb d_law_601 ?_
      refine va_sld (i := (nI i) + 3) hx hb hX hbl hbA hS (vi_in 3 (by omega) hL5) d_law_602 ?_
      rw [hx3]
      refine lv_i2l (v := x3.toInt64) hx hb d_law_603 rfl ?_
      refine lv_ldc2 (v := 4294967295) hx hb hown (htb _ q9_190) d_law_604 ?_
      refine lv_land hx hb d_law_607 ?_
      refine lv_lor hx hb d_law_608 ?_
      refine lv_aload_n hx hb d_law_609 rfl (lv_at hl 5 rfl) ?_
      refine lv_iload hx hb d_law_610 (lv_at hl 1 rfl) ?_
      refine lv_iconst (v := 4) hx hb d_law_612 (by decide) ?_
      refine lv_iadd hx hb d_law_613 ?_
      refine va_sld (i := (nI i) + 4) hx hb hX hbl hbA hS (vi_in 4 (by omega) hL5) d_law_614 ?_
      rw [hx4]
      refine w_join (J := fun v => v = zN x5) (pc := 629) (ls := ls) (rest := [.int x4, .long ((x2.toInt64 <<< ((32 : Int32).toInt64 &&& 63)) ||| (x3.toInt64 &&& 4294967295)), .int x1, .ref mo]) (fun v hv => ?_) (fun k629 => ?_)
      · skip
        subst hv
        refine rc_calli (As := [.int x1, .long ((x2.toInt64 <<< ((32 : Int32).toInt64 &&& 63)) ||| (x3.toInt64 &&& 4294967295)), .int x4, .int (zN x5)]) (rest := []) (G := GR) (R9 := G1) ⟨hx, hb, hml, hown, hts⟩ tbin (ri_validate l dC dI sb γ gT mo fu fd wr nc nl xc xl wx vs er GR x1 x4 (zN x5) ((x2.toInt64 <<< ((32 : Int32).toInt64 &&& 63)) ||| (x3.toInt64 &&& 4294967295)) H1.size hR (zN_b _) (fun l9 h9 => (hRl.2.2 l9 h9).2.2.2.2)) q9_129 q9_130 q9_131 q1_9 q9_132 (n := 4) (by decide +kernel) rfl ⟨Nat.le_of_ble_eq_true rfl, Nat.le_of_ble_eq_true rfl⟩ ⟨(by show cells + 3 + 0 ≤ 601024; omega), (by show slots + 47 + 0 ≤ 7293034; omega)⟩ hN hT hAs hB0 hK hA hP hD hS [0, 1, 2, 3, 4] rfl hmo rfl rfl hl.1 rfl (Nat.le_of_ble_eq_true rfl) d_law_629 (fun r2 G2 H2 locs hw2 hP hD hS => ?_)
        change W _ _ _ _ _ _ _ _ _ _ _ _ (cells + 3 + 0) (slots + 47 + 0) _ _
        obtain ⟨hP, hD⟩ := two_swap hP hD
        obtain ⟨k2, D2, hk2, hi2, hj2, hd3, hd4, hr2, hR2⟩ := hw2.resolve_right (fun q => q.elim (fun z => nI_dpn hd1 hd2 (by rw [← hj1]; exact z.1)) (fun z => z.2.1 (by rw [hi1]; exact nI_rng hk1 (by omega))))
        obtain rfl : k1 = k2 := nI_inj9 (by omega) (by omega) (hi1.symm.trans hi2)
        obtain rfl : D1 = D2 := nI_inj9 (by omega) (by omega) (hj1.symm.trans hj2)
        rw [hRl.val hk1] at hC1
        refine lv_istore (lv' := [(6, .int r2), (5, .int r1), (4, .int (nI i)), (3, .ref ou), (2, .ref mo), (1, .ref q0), (0, .ref b)]) hx hb d_law_632 hl (by decide) rfl (fun ls hl => ?_)
        refine lv_goto (tgt := 933) hx hb d_law_634 (by decide) ?_
        exact kk G1 G2 _ _ ls _ _ ⟨fu, fd, wr, nc, nl, _, _, _, _, _, _, _, _, _, _, hC1, hR2, hNm.next (by omega) (by omega), hRl⟩ hP hD hS (lv_sub hl [2, 3, 4, 5, 6] rfl)
      · skip
        refine lv_aload_n hx hb d_law_615 rfl (lv_at hl 5 rfl) ?_
        refine lv_iload hx hb d_law_616 (lv_at hl 1 rfl) ?_
        refine lv_iconst (v := 5) hx hb d_law_618 (by decide) ?_
        refine lv_iadd hx hb d_law_619 ?_
        refine va_sld (i := (nI i) + 5) hx hb hX hbl hbA hS (vi_in 5 (by omega) hL5) d_law_620 ?_
        rw [hx5]
        refine lv_if_eq (tgt := 628) hx hb d_law_621 (by decide) (fun c621 => ?_) (fun c621 => ?_)
        · refine lv_iconst (v := 0) hx hb d_law_628 (by decide) ?_
          exact k629 _ (by first | exact (if_pos c621).symm | exact (if_neg c621).symm | exact (if_pos (Classical.not_not.mp c621)).symm)
        · refine lv_iconst (v := 1) hx hb d_law_624 (by decide) ?_
          refine lv_goto (tgt := 629) hx hb d_law_625 (by decide) ?_
          exact k629 _ (by first | exact (if_pos c621).symm | exact (if_neg c621).symm | exact (if_pos (Classical.not_not.mp c621)).symm)
    · skip
      refine lv_istore (lv' := [(5, .int r1), (4, .int (nI i)), (3, .ref ou), (2, .ref mo), (1, .ref q0), (0, .ref b)]) hx hb d_law_578 hl (by decide) rfl (fun ls hl => ?_)
      refine lv_aload_n hx hb d_law_580 rfl (lv_at hl 3 rfl) ?_
      refine lv_aload_n hx hb d_law_581 rfl (lv_at hl 5 rfl) ?_
      refine lv_iload hx hb d_law_582 (lv_at hl 1 rfl) ?_
      refine lv_iconst (v := 1) hx hb d_law_584 (by decide) ?_
      refine lv_iadd hx hb d_law_585 ?_
      refine va_sld (i := (nI i) + 1) hx hb hX hbl hbA hS (vi_in 1 (by omega) hL5) d_law_586 ?_
      rw [hx1]
      refine lv_aload_n hx hb d_law_587 rfl (lv_at hl 5 rfl) ?_
      refine lv_iload hx hb d_law_588 (lv_at hl 1 rfl) ?_
      refine lv_iconst (v := 2) hx hb d_law_590 (by decide) ?_
      refine lv_iadd hx hb d_law_591 ?_
      refine va_sld (i := (nI i) + 2) hx hb hX hbl hbA hS (vi_in 2 (by omega) hL5) d_law_592 ?_
      rw [hx2]
      refine lv_i2l (v := x2.toInt64) hx hb d_law_593 rfl ?_
      refine lv_bipush (v := 32) hx hb d_law_594 (by decide) ?_
      refine lv_lshl (v := x2.toInt64 <<< ((32 : Int32).toInt64 &&& 63)) hx hb d_law_596 rfl ?_
      refine lv_aload_n hx hb d_law_597 rfl (lv_at hl 5 rfl) ?_
      refine lv_iload hx hb d_law_598 (lv_at hl 1 rfl) ?_
      refine lv_iconst (v := 3) hx hb d_law_600 (by decide) ?_
      refine lv_iadd hx hb d_law_601 ?_
      refine va_sld (i := (nI i) + 3) hx hb hX hbl hbA hS (vi_in 3 (by omega) hL5) d_law_602 ?_
      rw [hx3]
      refine lv_i2l (v := x3.toInt64) hx hb d_law_603 rfl ?_
      refine lv_ldc2 (v := 4294967295) hx hb hown (htb _ q9_190) d_law_604 ?_
      refine lv_land hx hb d_law_607 ?_
      refine lv_lor hx hb d_law_608 ?_
      refine lv_aload_n hx hb d_law_609 rfl (lv_at hl 5 rfl) ?_
      refine lv_iload hx hb d_law_610 (lv_at hl 1 rfl) ?_
      refine lv_iconst (v := 4) hx hb d_law_612 (by decide) ?_
      refine lv_iadd hx hb d_law_613 ?_
      refine va_sld (i := (nI i) + 4) hx hb hX hbl hbA hS (vi_in 4 (by omega) hL5) d_law_614 ?_
      rw [hx4]
      refine w_join (J := fun v => v = zN x5) (pc := 629) (ls := ls) (rest := [.int x4, .long ((x2.toInt64 <<< ((32 : Int32).toInt64 &&& 63)) ||| (x3.toInt64 &&& 4294967295)), .int x1, .ref mo]) (fun v hv => ?_) (fun k629 => ?_)
      · skip
        subst hv
        refine rc_calli (As := [.int x1, .long ((x2.toInt64 <<< ((32 : Int32).toInt64 &&& 63)) ||| (x3.toInt64 &&& 4294967295)), .int x4, .int (zN x5)]) (rest := []) (G := GR) (R9 := G1) ⟨hx, hb, hml, hown, hts⟩ tbin (ri_validate l dC dI sb γ gT mo fu fd wr nc nl xc xl wx vs er GR x1 x4 (zN x5) ((x2.toInt64 <<< ((32 : Int32).toInt64 &&& 63)) ||| (x3.toInt64 &&& 4294967295)) H1.size hR (zN_b _) (fun l9 h9 => (hRl.2.2 l9 h9).2.2.2.2)) q9_129 q9_130 q9_131 q1_9 q9_132 (n := 4) (by decide +kernel) rfl ⟨Nat.le_of_ble_eq_true rfl, Nat.le_of_ble_eq_true rfl⟩ ⟨(by show cells + 3 + 0 ≤ 601024; omega), (by show slots + 47 + 0 ≤ 7293034; omega)⟩ hN hT hAs hB0 hK hA hP hD hS [0, 1, 2, 3, 4] rfl hmo rfl rfl hl.1 rfl (Nat.le_of_ble_eq_true rfl) d_law_629 (fun r2 G2 H2 locs hw2 hP hD hS => ?_)
        change W _ _ _ _ _ _ _ _ _ _ _ _ (cells + 3 + 0) (slots + 47 + 0) _ _
        obtain ⟨hP, hD⟩ := two_swap hP hD
        obtain ⟨-, hr2, hR2⟩ := (hw2.resolve_left (fun ⟨k, D, _, _, e, h1, h2, _⟩ => nI_dpn h1 h2 (by rw [← e]; exact hj1))).resolve_right (fun q => q.1 hj1)
        refine lv_istore (lv' := [(6, .int r2), (5, .int r1), (4, .int (nI i)), (3, .ref ou), (2, .ref mo), (1, .ref q0), (0, .ref b)]) hx hb d_law_632 hl (by decide) rfl (fun ls hl => ?_)
        refine lv_goto (tgt := 933) hx hb d_law_634 (by decide) ?_
        exact kk G1 G2 _ _ ls _ _ ⟨fu, fd, wr, nc, nl, _, _, _, _, _, _, _, _, _, _, hC1, hR2, hNm.next (by omega) (by omega), hRl⟩ hP hD hS (lv_sub hl [2, 3, 4, 5, 6] rfl)
      · skip
        refine lv_aload_n hx hb d_law_615 rfl (lv_at hl 5 rfl) ?_
        refine lv_iload hx hb d_law_616 (lv_at hl 1 rfl) ?_
        refine lv_iconst (v := 5) hx hb d_law_618 (by decide) ?_
        refine lv_iadd hx hb d_law_619 ?_
        refine va_sld (i := (nI i) + 5) hx hb hX hbl hbA hS (vi_in 5 (by omega) hL5) d_law_620 ?_
        rw [hx5]
        refine lv_if_eq (tgt := 628) hx hb d_law_621 (by decide) (fun c621 => ?_) (fun c621 => ?_)
        · refine lv_iconst (v := 0) hx hb d_law_628 (by decide) ?_
          exact k629 _ (by first | exact (if_pos c621).symm | exact (if_neg c621).symm | exact (if_pos (Classical.not_not.mp c621)).symm)
        · refine lv_iconst (v := 1) hx hb d_law_624 (by decide) ?_
          refine lv_goto (tgt := 629) hx hb d_law_625 (by decide) ?_
          exact k629 _ (by first | exact (if_pos c621).symm | exact (if_neg c621).symm | exact (if_pos (Classical.not_not.mp c621)).symm)
    · skip
      refine lv_istore (lv' := [(5, .int r1), (4, .int (nI i)), (3, .ref ou), (2, .ref mo), (1, .ref q0), (0, .ref b)]) hx hb d_law_578 hl (by decide) rfl (fun ls hl => ?_)
      refine lv_aload_n hx hb d_law_580 rfl (lv_at hl 3 rfl) ?_
      refine lv_aload_n hx hb d_law_581 rfl (lv_at hl 5 rfl) ?_
      refine lv_iload hx hb d_law_582 (lv_at hl 1 rfl) ?_
      refine lv_iconst (v := 1) hx hb d_law_584 (by decide) ?_
      refine lv_iadd hx hb d_law_585 ?_
      refine va_sld (i := (nI i) + 1) hx hb hX hbl hbA hS (vi_in 1 (by omega) hL5) d_law_586 ?_
      rw [hx1]
      refine lv_aload_n hx hb d_law_587 rfl (lv_at hl 5 rfl) ?_
      refine lv_iload hx hb d_law_588 (lv_at hl 1 rfl) ?_
      refine lv_iconst (v := 2) hx hb d_law_590 (by decide) ?_
      refine lv_iadd hx hb d_law_591 ?_
      refine va_sld (i := (nI i) + 2) hx hb hX hbl hbA hS (vi_in 2 (by omega) hL5) d_law_592 ?_
      rw [hx2]
      refine lv_i2l (v := x2.toInt64) hx hb d_law_593 rfl ?_
      refine lv_bipush (v := 32) hx hb d_law_594 (by decide) ?_
      refine lv_lshl (v := x2.toInt64 <<< ((32 : Int32).toInt64 &&& 63)) hx hb d_law_596 rfl ?_
      refine lv_aload_n hx hb d_law_597 rfl (lv_at hl 5 rfl) ?_
      refine lv_iload hx hb d_law_598 (lv_at hl 1 rfl) ?_
      refine lv_iconst (v := 3) hx hb d_law_600 (by decide) ?_
      refine lv_iadd hx hb d_law_601 ?_
      refine va_sld (i := (nI i) + 3) hx hb hX hbl hbA hS (vi_in 3 (by omega) hL5) d_law_602 ?_
      rw [hx3]
      refine lv_i2l (v := x3.toInt64) hx hb d_law_603 rfl ?_
      refine lv_ldc2 (v := 4294967295) hx hb hown (htb _ q9_190) d_law_604 ?_
      refine lv_land hx hb d_law_607 ?_
      refine lv_lor hx hb d_law_608 ?_
      refine lv_aload_n hx hb d_law_609 rfl (lv_at hl 5 rfl) ?_
      refine lv_iload hx hb d_law_610 (lv_at hl 1 rfl) ?_
      refine lv_iconst (v := 4) hx hb d_law_612 (by decide) ?_
      refine lv_iadd hx hb d_law_613 ?_
      refine va_sld (i := (nI i) + 4) hx hb hX hbl hbA hS (vi_in 4 (by omega) hL5) d_law_614 ?_
      rw [hx4]
      refine w_join (J := fun v => v = zN x5) (pc := 629) (ls := ls) (rest := [.int x4, .long ((x2.toInt64 <<< ((32 : Int32).toInt64 &&& 63)) ||| (x3.toInt64 &&& 4294967295)), .int x1, .ref mo]) (fun v hv => ?_) (fun k629 => ?_)
      · skip
        subst hv
        refine rc_calli (As := [.int x1, .long ((x2.toInt64 <<< ((32 : Int32).toInt64 &&& 63)) ||| (x3.toInt64 &&& 4294967295)), .int x4, .int (zN x5)]) (rest := []) (G := GR) (R9 := G1) ⟨hx, hb, hml, hown, hts⟩ tbin (ri_validate l dC dI sb γ gT mo fu fd wr nc nl xc xl wx vs er GR x1 x4 (zN x5) ((x2.toInt64 <<< ((32 : Int32).toInt64 &&& 63)) ||| (x3.toInt64 &&& 4294967295)) H1.size hR (zN_b _) (fun l9 h9 => (hRl.2.2 l9 h9).2.2.2.2)) q9_129 q9_130 q9_131 q1_9 q9_132 (n := 4) (by decide +kernel) rfl ⟨Nat.le_of_ble_eq_true rfl, Nat.le_of_ble_eq_true rfl⟩ ⟨(by show cells + 3 + 0 ≤ 601024; omega), (by show slots + 47 + 0 ≤ 7293034; omega)⟩ hN hT hAs hB0 hK hA hP hD hS [0, 1, 2, 3, 4] rfl hmo rfl rfl hl.1 rfl (Nat.le_of_ble_eq_true rfl) d_law_629 (fun r2 G2 H2 locs hw2 hP hD hS => ?_)
        change W _ _ _ _ _ _ _ _ _ _ _ _ (cells + 3 + 0) (slots + 47 + 0) _ _
        obtain ⟨hP, hD⟩ := two_swap hP hD
        obtain ⟨-, -, hr2, hR2⟩ := (hw2.resolve_left (fun ⟨k, D, hk, e, _⟩ => hb9 (by rw [e]; exact nI_rng hk (by omega)))).resolve_left (fun q => hj1 q.1)
        refine lv_istore (lv' := [(6, .int r2), (5, .int r1), (4, .int (nI i)), (3, .ref ou), (2, .ref mo), (1, .ref q0), (0, .ref b)]) hx hb d_law_632 hl (by decide) rfl (fun ls hl => ?_)
        refine lv_goto (tgt := 933) hx hb d_law_634 (by decide) ?_
        exact kk G1 G2 _ _ ls _ _ ⟨fu, fd, wr, nc, nl, _, _, _, _, _, _, _, _, _, _, hC1, hR2, hNm.next (by omega) (by omega), hRl⟩ hP hD hS (lv_sub hl [2, 3, 4, 5, 6] rfl)
      · skip
        refine lv_aload_n hx hb d_law_615 rfl (lv_at hl 5 rfl) ?_
        refine lv_iload hx hb d_law_616 (lv_at hl 1 rfl) ?_
        refine lv_iconst (v := 5) hx hb d_law_618 (by decide) ?_
        refine lv_iadd hx hb d_law_619 ?_
        refine va_sld (i := (nI i) + 5) hx hb hX hbl hbA hS (vi_in 5 (by omega) hL5) d_law_620 ?_
        rw [hx5]
        refine lv_if_eq (tgt := 628) hx hb d_law_621 (by decide) (fun c621 => ?_) (fun c621 => ?_)
        · refine lv_iconst (v := 0) hx hb d_law_628 (by decide) ?_
          exact k629 _ (by first | exact (if_pos c621).symm | exact (if_neg c621).symm | exact (if_pos (Classical.not_not.mp c621)).symm)
        · refine lv_iconst (v := 1) hx hb d_law_624 (by decide) ?_
          refine lv_goto (tgt := 629) hx hb d_law_625 (by decide) ?_
          exact k629 _ (by first | exact (if_pos c621).symm | exact (if_neg c621).symm | exact (if_pos (Classical.not_not.mp c621)).symm)
  · skip
    refine lv_aload_n hx hb d_law_560 rfl (lv_at hl 4 rfl) ?_
    refine lv_iload hx hb d_law_561 (lv_at hl 0 rfl) ?_
    refine lv_iconst (v := 5) hx hb d_law_563 (by decide) ?_
    refine lv_iadd hx hb d_law_564 ?_
    refine va_sld (i := (nI i) + 5) hx hb hX hbl hbA hS (vi_in 5 (by omega) hL5) d_law_565 ?_
    rw [hx5]
    refine lv_if_eq (tgt := 573) hx hb d_law_566 (by decide) (fun c566 => ?_) (fun c566 => ?_)
    · refine lv_iconst (v := 0) hx hb d_law_573 (by decide) ?_
      exact k574 _ (by first | exact (if_pos c566).symm | exact (if_neg c566).symm | exact (if_pos (Classical.not_not.mp c566)).symm)
    · refine lv_iconst (v := 1) hx hb d_law_569 (by decide) ?_
      refine lv_goto (tgt := 574) hx hb d_law_570 (by decide) ?_
      exact k574 _ (by first | exact (if_pos c566).symm | exact (if_neg c566).symm | exact (if_pos (Classical.not_not.mp c566)).symm)
