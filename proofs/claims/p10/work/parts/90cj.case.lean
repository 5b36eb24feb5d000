/-! The law: what call 9 does. -/
set_option maxHeartbeats 4000000 in
set_option maxRecDepth 100000 in
theorem lw_case9 {p : Program} {e : Env} {s : State} {m : MethodId} {below : List Frame} {meth : Method} {c : Code} (l : Launch) (hl0 : l.stackTraces = false) {b L : Nat} {xs : Nat → Int32} {dC : Nat → ClassId} {dI : Nat → Nat → Nat} {γ : cG} {gT : ClassId} {sb : sB} {A : Nat → Prop} (X : lwX p s m c b L xs dC dI γ gT sb A) {Q : State → Prop} {H : Heap} {locs : List Loc} {ls : Array Slot} {cells slots q0 ou mo i : Nat} {GC GR : va_W} (hi : i + 10 ≤ L) (hJ : LJ γ sb gT q0 ou mo i cells slots GC GR) (hP : va_P (dC, dI) classes (GC ++ GR) H) (hD : va_D A (GC ++ GR)) (hS : va_S A s.heap H locs) (hl : lv_has ls 8 [(4, .int (nI i)), (3, .ref ou), (2, .ref mo), (1, .ref q0), (0, .ref b)]) (kk : ∀ (GC' GR' : va_W) (H' : Heap) (locs' : List Loc) (ls' : Array Slot) (cells' slots' : Nat), LJ γ sb gT q0 ou mo (i + 10) cells' slots' GC' GR' → va_P (dC, dI) classes (GC' ++ GR') H' → va_D A (GC' ++ GR') → va_S A s.heap H' locs' → lv_has ls' 8 [(4, .int (nI i)), (3, .ref ou), (2, .ref mo), (1, .ref q0), (0, .ref b)] → W p l e room_1 s m #[Value.ref b] below meth c H' locs' cells' slots' Q (F0 m 933 ls' [])) : W p l e room_1 s m #[Value.ref b] below meth c H locs cells slots Q (F0 m 553 ls []) := by
  obtain ⟨hx, hb, hml, hown, hts, hK, hN, hT, hTh, hB0, hA, hAs, hX, hbl, hbA, hL5⟩ := X
  have tbin : ∀ w ∈ tb, w ∈ tb := fun w h => h
  have htb : ∀ w ∈ tb, w.before #[Value.ref b] s = true := hts
  obtain ⟨fu, fd, wr, nc, nl, vc, vl, ov, xc, xl, wx, er, hC, hR, hNm, hRl⟩ := hJ
  obtain ⟨hb1, hb2, hb3, hu8, hw8, fs8, hmo⟩ := hR.nb
  obtain ⟨hrc, hrs⟩ := hNm.room hi hL5
  obtain ⟨x1, hx1⟩ : ∃ x9, xs ((nI i + 1 : Int32).toNatClampNeg) = x9 := ⟨_, rfl⟩
  obtain ⟨x2, hx2⟩ : ∃ x9, xs ((nI i + 2 : Int32).toNatClampNeg) = x9 := ⟨_, rfl⟩
  obtain ⟨x3, hx3⟩ : ∃ x9, xs ((nI i + 3 : Int32).toNatClampNeg) = x9 := ⟨_, rfl⟩
  obtain ⟨x4, hx4⟩ : ∃ x9, xs ((nI i + 4 : Int32).toNatClampNeg) = x9 := ⟨_, rfl⟩
  obtain ⟨x5, hx5⟩ : ∃ x9, xs ((nI i + 5 : Int32).toNatClampNeg) = x9 := ⟨_, rfl⟩
  obtain ⟨x6, hx6⟩ : ∃ x9, xs ((nI i + 6 : Int32).toNatClampNeg) = x9 := ⟨_, rfl⟩
  obtain ⟨x7, hx7⟩ : ∃ x9, xs ((nI i + 7 : Int32).toNatClampNeg) = x9 := ⟨_, rfl⟩
  obtain ⟨x8, hx8⟩ : ∃ x9, xs ((nI i + 8 : Int32).toNatClampNeg) = x9 := ⟨_, rfl⟩
  obtain ⟨x9, hx9⟩ : ∃ x9, xs ((nI i + 9 : Int32).toNatClampNeg) = x9 := ⟨_, rfl⟩
  refine lv_aload_n hx hb d_law_553 rfl (lv_at hl 3 rfl) ?_
  refine lv_aload_n hx hb d_law_554 rfl (lv_at hl 4 rfl) ?_
  refine lv_iload hx hb d_law_555 (lv_at hl 0 rfl) ?_
  refine lv_iconst (v := 1) hx hb d_law_557 (by decide) ?_
  refine lv_iadd hx hb d_law_558 ?_
  refine va_sld (i := (nI i) + 1) hx hb hX hbl hbA hS (vi_in 1 (by omega) hL5) d_law_559 ?_
  rw [hx1]
  refine lv_aload_n hx hb d_law_560 rfl (lv_at hl 4 rfl) ?_
  refine lv_iload hx hb d_law_561 (lv_at hl 0 rfl) ?_
  refine lv_iconst (v := 2) hx hb d_law_563 (by decide) ?_
  refine lv_iadd hx hb d_law_564 ?_
  refine va_sld (i := (nI i) + 2) hx hb hX hbl hbA hS (vi_in 2 (by omega) hL5) d_law_565 ?_
  rw [hx2]
  refine lv_i2l (v := x2.toInt64) hx hb d_law_566 rfl ?_
  refine lv_bipush (v := 32) hx hb d_law_567 (by decide) ?_
  refine lv_lshl (v := x2.toInt64 <<< ((32 : Int32).toInt64 &&& 63)) hx hb d_law_569 rfl ?_
  refine lv_aload_n hx hb d_law_570 rfl (lv_at hl 4 rfl) ?_
  refine lv_iload hx hb d_law_571 (lv_at hl 0 rfl) ?_
  refine lv_iconst (v := 3) hx hb d_law_573 (by decide) ?_
  refine lv_iadd hx hb d_law_574 ?_
  refine va_sld (i := (nI i) + 3) hx hb hX hbl hbA hS (vi_in 3 (by omega) hL5) d_law_575 ?_
  rw [hx3]
  refine lv_i2l (v := x3.toInt64) hx hb d_law_576 rfl ?_
  refine lv_ldc2 (v := 4294967295) hx hb hown (htb _ q9_190) d_law_577 ?_
  refine lv_land hx hb d_law_580 ?_
  refine lv_lor hx hb d_law_581 ?_
  refine lv_aload_n hx hb d_law_582 rfl (lv_at hl 4 rfl) ?_
  refine lv_iload hx hb d_law_583 (lv_at hl 0 rfl) ?_
  refine lv_iconst (v := 4) hx hb d_law_585 (by decide) ?_
  refine lv_iadd hx hb d_law_586 ?_
  refine va_sld (i := (nI i) + 4) hx hb hX hbl hbA hS (vi_in 4 (by omega) hL5) d_law_587 ?_
  rw [hx4]
  refine w_join (J := fun v => v = zN x5) (pc := 602) (ls := ls) (rest := [.int x4, .long ((x2.toInt64 <<< ((32 : Int32).toInt64 &&& 63)) ||| (x3.toInt64 &&& 4294967295)), .int x1, .ref q0]) (fun v hv => ?_) (fun k602 => ?_)
  · skip
    subst hv
    refine lv_aload_n hx hb d_law_602 rfl (lv_at hl 1 rfl) ?_
    refine lc_call (As := [.ref q0, .int x1, .long ((x2.toInt64 <<< ((32 : Int32).toInt64 &&& 63)) ||| (x3.toInt64 &&& 4294967295)), .int x4, .int (zN x5), .ref ou]) (rest := []) (G := GC) (R9 := GR) ⟨hx, hb, hml, hown, hts⟩ tbin (ci_validate l hl0 dC dI sb γ q0 ou fu fd wr nc nl vc vl ov GC x1 x4 (zN x5) ((x2.toInt64 <<< ((32 : Int32).toInt64 &&& 63)) ||| (x3.toInt64 &&& 4294967295)) H.size hC (zN_bz x5)) q5_231 q5_232 q1_0 q5_233 (n := 6) (by decide +kernel) rfl ⟨Nat.le_of_ble_eq_true rfl, Nat.le_of_ble_eq_true rfl⟩ ⟨(by show cells + 3 ≤ 601024; omega), (by show slots + 47 ≤ 7293034; omega)⟩ hTh hN hT hAs hB0 hK hA hP hD hS [0, 1, 2, 3] rfl hl.1 rfl (Nat.le_of_ble_eq_true rfl) d_law_603 (fun r1 G1 H1 locs hw1 hP hD hS => ?_)
    change W _ _ _ _ _ _ _ _ _ _ _ _ (cells + 3) (slots + 47) _ _
    obtain ⟨hP, hD⟩ := two_swap hP hD
    obtain ⟨ov1, hC1⟩ := hw1
    refine lv_istore (lv' := [(5, .int r1), (4, .int (nI i)), (3, .ref ou), (2, .ref mo), (1, .ref q0), (0, .ref b)]) hx hb d_law_606 hl (by decide) rfl (fun ls hl => ?_)
    refine lv_aload_n hx hb d_law_608 rfl (lv_at hl 3 rfl) ?_
    refine lv_aload_n hx hb d_law_609 rfl (lv_at hl 5 rfl) ?_
    refine lv_iload hx hb d_law_610 (lv_at hl 1 rfl) ?_
    refine lv_iconst (v := 1) hx hb d_law_612 (by decide) ?_
    refine lv_iadd hx hb d_law_613 ?_
    refine va_sld (i := (nI i) + 1) hx hb hX hbl hbA hS (vi_in 1 (by omega) hL5) d_law_614 ?_
    rw [hx1]
    refine lv_aload_n hx hb d_law_615 rfl (lv_at hl 5 rfl) ?_
    refine lv_iload hx hb d_law_616 (lv_at hl 1 rfl) ?_
    refine lv_iconst (v := 2) hx hb d_law_618 (by decide) ?_
    refine lv_iadd hx hb d_law_619 ?_
    refine va_sld (i := (nI i) + 2) hx hb hX hbl hbA hS (vi_in 2 (by omega) hL5) d_law_620 ?_
    rw [hx2]
    refine lv_i2l (v := x2.toInt64) hx hb d_law_621 rfl ?_
    refine lv_bipush (v := 32) hx hb d_law_622 (by decide) ?_
    refine lv_lshl (v := x2.toInt64 <<< ((32 : Int32).toInt64 &&& 63)) hx hb d_law_624 rfl ?_
    refine lv_aload_n hx hb d_law_625 rfl (lv_at hl 5 rfl) ?_
    refine lv_iload hx hb d_law_626 (lv_at hl 1 rfl) ?_
    refine lv_iconst (v := 3) hx hb d_law_628 (by decide) ?_
    refine lv_iadd hx hb d_law_629 ?_
    refine va_sld (i := (nI i) + 3) hx hb hX hbl hbA hS (vi_in 3 (by omega) hL5) d_law_630 ?_
    rw [hx3]
    refine lv_i2l (v := x3.toInt64) hx hb d_law_631 rfl ?_
    refine lv_ldc2 (v := 4294967295) hx hb hown (htb _ q9_190) d_law_632 ?_
    refine lv_land hx hb d_law_635 ?_
    refine lv_lor hx hb d_law_636 ?_
    refine lv_aload_n hx hb d_law_637 rfl (lv_at hl 5 rfl) ?_
    refine lv_iload hx hb d_law_638 (lv_at hl 1 rfl) ?_
    refine lv_iconst (v := 4) hx hb d_law_640 (by decide) ?_
    refine lv_iadd hx hb d_law_641 ?_
    refine va_sld (i := (nI i) + 4) hx hb hX hbl hbA hS (vi_in 4 (by omega) hL5) d_law_642 ?_
    rw [hx4]
    refine w_join (J := fun v => v = zN x5) (pc := 657) (ls := ls) (rest := [.int x4, .long ((x2.toInt64 <<< ((32 : Int32).toInt64 &&& 63)) ||| (x3.toInt64 &&& 4294967295)), .int x1, .ref mo]) (fun v hv => ?_) (fun k657 => ?_)
    · skip
      subst hv
      refine rc_calli (As := [.int x1, .long ((x2.toInt64 <<< ((32 : Int32).toInt64 &&& 63)) ||| (x3.toInt64 &&& 4294967295)), .int x4, .int (zN x5)]) (rest := []) (G := GR) (R9 := G1) ⟨hx, hb, hml, hown, hts⟩ tbin (ri_validate l dC dI sb γ gT mo fu fd wr nc nl xc xl wx er GR x1 x4 (zN x5) ((x2.toInt64 <<< ((32 : Int32).toInt64 &&& 63)) ||| (x3.toInt64 &&& 4294967295)) H1.size hR (zN_b _)) q9_129 q9_130 q9_131 q1_9 q9_132 (n := 4) (by decide +kernel) rfl ⟨Nat.le_of_ble_eq_true rfl, Nat.le_of_ble_eq_true rfl⟩ ⟨(by show cells + 3 + 0 ≤ 601024; omega), (by show slots + 47 + 0 ≤ 7293034; omega)⟩ hN hT hAs hB0 hK hA hP hD hS [0, 1, 2, 3, 4] rfl hmo rfl rfl hl.1 rfl (Nat.le_of_ble_eq_true rfl) d_law_657 (fun r2 G2 H2 locs hw2 hP hD hS => ?_)
      change W _ _ _ _ _ _ _ _ _ _ _ _ (cells + 3 + 0) (slots + 47 + 0) _ _
      obtain ⟨hP, hD⟩ := two_swap hP hD
      obtain ⟨er2, hR2⟩ := hw2
      refine lv_istore (lv' := [(6, .int r2), (5, .int r1), (4, .int (nI i)), (3, .ref ou), (2, .ref mo), (1, .ref q0), (0, .ref b)]) hx hb d_law_660 hl (by decide) rfl (fun ls hl => ?_)
      refine lv_goto (tgt := 933) hx hb d_law_662 (by decide) ?_
      exact kk G1 G2 _ _ ls _ _ ⟨fu, fd, wr, nc, nl, _, _, _, _, _, _, _, hC1, hR2, hNm.next (by omega) (by omega), hRl⟩ hP hD hS (lv_sub hl [2, 3, 4, 5, 6] rfl)
    · skip
      refine lv_aload_n hx hb d_law_643 rfl (lv_at hl 5 rfl) ?_
      refine lv_iload hx hb d_law_644 (lv_at hl 1 rfl) ?_
      refine lv_iconst (v := 5) hx hb d_law_646 (by decide) ?_
      refine lv_iadd hx hb d_law_647 ?_
      refine va_sld (i := (nI i) + 5) hx hb hX hbl hbA hS (vi_in 5 (by omega) hL5) d_law_648 ?_
      rw [hx5]
      refine lv_if_eq (tgt := 656) hx hb d_law_649 (by decide) (fun c649 => ?_) (fun c649 => ?_)
      · refine lv_iconst (v := 0) hx hb d_law_656 (by decide) ?_
        exact k657 _ (by first | exact (if_pos c649).symm | exact (if_neg c649).symm | exact (if_pos (Classical.not_not.mp c649)).symm)
      · refine lv_iconst (v := 1) hx hb d_law_652 (by decide) ?_
        refine lv_goto (tgt := 657) hx hb d_law_653 (by decide) ?_
        exact k657 _ (by first | exact (if_pos c649).symm | exact (if_neg c649).symm | exact (if_pos (Classical.not_not.mp c649)).symm)
  · skip
    refine lv_aload_n hx hb d_law_588 rfl (lv_at hl 4 rfl) ?_
    refine lv_iload hx hb d_law_589 (lv_at hl 0 rfl) ?_
    refine lv_iconst (v := 5) hx hb d_law_591 (by decide) ?_
    refine lv_iadd hx hb d_law_592 ?_
    refine va_sld (i := (nI i) + 5) hx hb hX hbl hbA hS (vi_in 5 (by omega) hL5) d_law_593 ?_
    rw [hx5]
    refine lv_if_eq (tgt := 601) hx hb d_law_594 (by decide) (fun c594 => ?_) (fun c594 => ?_)
    · refine lv_iconst (v := 0) hx hb d_law_601 (by decide) ?_
      exact k602 _ (by first | exact (if_pos c594).symm | exact (if_neg c594).symm | exact (if_pos (Classical.not_not.mp c594)).symm)
    · refine lv_iconst (v := 1) hx hb d_law_597 (by decide) ?_
      refine lv_goto (tgt := 602) hx hb d_law_598 (by decide) ?_
      exact k602 _ (by first | exact (if_pos c594).symm | exact (if_neg c594).symm | exact (if_pos (Classical.not_not.mp c594)).symm)
