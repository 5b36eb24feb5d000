/-! The law: what call 7 does. -/
set_option maxHeartbeats 4000000 in
set_option maxRecDepth 100000 in
theorem lw_case7 {p : Program} {e : Env} {s : State} {m : MethodId} {below : List Frame} {meth : Method} {c : Code} (l : Launch) (hl0 : l.stackTraces = false) {b L : Nat} {xs : Nat → Int32} {dC : Nat → ClassId} {dI : Nat → Nat → Nat} {γ : cG} {gT : ClassId} {sb : sB} {A : Nat → Prop} (X : lwX p s m c b L xs dC dI γ gT sb A) {Q : State → Prop} {H : Heap} {locs : List Loc} {ls : Array Slot} {cells slots q0 ou mo i : Nat} {GC GR : va_W} (hi : i + 10 ≤ L) (hJ : LJ γ sb gT q0 ou mo i cells slots GC GR) (hP : va_P (dC, dI) classes (GC ++ GR) H) (hD : va_D A (GC ++ GR)) (hS : va_S A s.heap H locs) (hl : lv_has ls 8 [(4, .int (nI i)), (3, .ref ou), (2, .ref mo), (1, .ref q0), (0, .ref b)]) (kk : ∀ (GC' GR' : va_W) (H' : Heap) (locs' : List Loc) (ls' : Array Slot) (cells' slots' : Nat), LJ γ sb gT q0 ou mo (i + 10) cells' slots' GC' GR' → va_P (dC, dI) classes (GC' ++ GR') H' → va_D A (GC' ++ GR') → va_S A s.heap H' locs' → lv_has ls' 8 [(4, .int (nI i)), (3, .ref ou), (2, .ref mo), (1, .ref q0), (0, .ref b)] → W p l e room_1 s m #[Value.ref b] below meth c H' locs' cells' slots' Q (F0 m 940 ls' [])) : W p l e room_1 s m #[Value.ref b] below meth c H locs cells slots Q (F0 m 417 ls []) := by
  obtain ⟨hx, hb, hml, hown, hts, hK, hN, hT, hTh, hB0, hA, hAs, hX, hbl, hbA, hL5⟩ := X
  have tbin : ∀ w ∈ tb, w ∈ tb := fun w h => h
  have htb : ∀ w ∈ tb, w.before #[Value.ref b] s = true := hts
  obtain ⟨fu, fd, wr, nc, nl, vc, vl, ov, xc, xl, wx, er, hC, hR, hNm, hRl⟩ := hJ
  obtain ⟨hb1, hb2, hb3, hu8, hw8, fs8, hmo⟩ := hR.nb
  obtain ⟨hrc, hrs⟩ := hNm.room hi hL5
  obtain ⟨x1, hx1⟩ : ∃ x9, xs ((nI i + 1 : Int32).toNatClampNeg) = x9 := ⟨_, rfl⟩
  obtain ⟨x2, hx2⟩ : ∃ x9, xs ((nI i + 2 : Int32).toNatClampNeg) = x9 := ⟨_, rfl⟩
  obtain ⟨x3, hx3⟩ : ∃ x9, xs ((nI i + 3 : Int32).toNatClampNeg) = x9 := ⟨_, rfl⟩
  obtain ⟨x4, hx4⟩ : ∃ x9, xs ((nI i + 4 : Int32).toNatClampNeg) = x9 := ⟨_, rfl⟩
  obtain ⟨x5, hx5⟩ : ∃ x9, xs ((nI i + 5 : Int32).toNatClampNeg) = x9 := ⟨_, rfl⟩
  obtain ⟨x6, hx6⟩ : ∃ x9, xs ((nI i + 6 : Int32).toNatClampNeg) = x9 := ⟨_, rfl⟩
  obtain ⟨x7, hx7⟩ : ∃ x9, xs ((nI i + 7 : Int32).toNatClampNeg) = x9 := ⟨_, rfl⟩
  obtain ⟨x8, hx8⟩ : ∃ x9, xs ((nI i + 8 : Int32).toNatClampNeg) = x9 := ⟨_, rfl⟩
  obtain ⟨x9, hx9⟩ : ∃ x9, xs ((nI i + 9 : Int32).toNatClampNeg) = x9 := ⟨_, rfl⟩
  refine lv_aload_n hx hb d_law_417 rfl (lv_at hl 3 rfl) ?_
  refine w_join (J := fun v => v = zN x1) (pc := 432) (ls := ls) (rest := [.ref q0]) (fun v hv => ?_) (fun k432 => ?_)
  · skip
    subst hv
    refine lv_aload_n hx hb d_law_432 rfl (lv_at hl 4 rfl) ?_
    refine lv_iload hx hb d_law_433 (lv_at hl 0 rfl) ?_
    refine lv_iconst (v := 2) hx hb d_law_435 (by decide) ?_
    refine lv_iadd hx hb d_law_436 ?_
    refine va_sld (i := (nI i) + 2) hx hb hX hbl hbA hS (vi_in 2 (by omega) hL5) d_law_437 ?_
    rw [hx2]
    refine lv_aload_n hx hb d_law_438 rfl (lv_at hl 4 rfl) ?_
    refine lv_iload hx hb d_law_439 (lv_at hl 0 rfl) ?_
    refine lv_iconst (v := 3) hx hb d_law_441 (by decide) ?_
    refine lv_iadd hx hb d_law_442 ?_
    refine va_sld (i := (nI i) + 3) hx hb hX hbl hbA hS (vi_in 3 (by omega) hL5) d_law_443 ?_
    rw [hx3]
    refine lv_aload_n hx hb d_law_444 rfl (lv_at hl 1 rfl) ?_
    refine lc_call (As := [.ref q0, .int (zN x1), .int x2, .int x3, .ref ou]) (rest := []) (G := GC) (R9 := GR) ⟨hx, hb, hml, hown, hts⟩ tbin (ci_signed l hl0 dC dI sb γ q0 ou fu fd wr nc nl vc vl ov GC (zN x1) x2 x3 H.size hC ) q5_168 q5_169 q1_0 q5_170 (n := 5) (by decide +kernel) rfl ⟨Nat.le_of_ble_eq_true rfl, Nat.le_of_ble_eq_true rfl⟩ ⟨(by show cells + 1 ≤ 601024; omega), (by show slots + 6 ≤ 7293034; omega)⟩ hTh hN hT hAs hB0 hK hA hP hD hS [0, 1, 2, 3] rfl hl.1 rfl (Nat.le_of_ble_eq_true rfl) d_law_445 (fun r1 G1 H1 locs hw1 hP hD hS => ?_)
    change W _ _ _ _ _ _ _ _ _ _ _ _ (cells + 1) (slots + 6) _ _
    obtain ⟨hP, hD⟩ := two_swap hP hD
    obtain ⟨ov1, hC1, ho1⟩ := hw1
    rcases ho1 with ⟨hr1, r9, k1, k12, hi1, hj1, hk12, hsg1, hov⟩ | ⟨hr1, hb9, hov⟩
    · skip
      subst hr1
      subst hov
      refine lv_istore (lv' := [(5, .int 0), (4, .int (nI i)), (3, .ref ou), (2, .ref mo), (1, .ref q0), (0, .ref b)]) hx hb d_law_448 hl (by decide) rfl (fun ls hl => ?_)
      refine lv_aload_n hx hb d_law_450 rfl (lv_at hl 3 rfl) ?_
      refine w_join (J := fun v => v = zN x1) (pc := 465) (ls := ls) (rest := [.ref mo]) (fun v hv => ?_) (fun k465 => ?_)
      · skip
        subst hv
        refine lv_aload_n hx hb d_law_465 rfl (lv_at hl 5 rfl) ?_
        refine lv_iload hx hb d_law_466 (lv_at hl 1 rfl) ?_
        refine lv_iconst (v := 2) hx hb d_law_468 (by decide) ?_
        refine lv_iadd hx hb d_law_469 ?_
        refine va_sld (i := (nI i) + 2) hx hb hX hbl hbA hS (vi_in 2 (by omega) hL5) d_law_470 ?_
        rw [hx2]
        refine lv_aload_n hx hb d_law_471 rfl (lv_at hl 5 rfl) ?_
        refine lv_iload hx hb d_law_472 (lv_at hl 1 rfl) ?_
        refine lv_iconst (v := 3) hx hb d_law_474 (by decide) ?_
        refine lv_iadd hx hb d_law_475 ?_
        refine va_sld (i := (nI i) + 3) hx hb hX hbl hbA hS (vi_in 3 (by omega) hL5) d_law_476 ?_
        rw [hx3]
        refine rc_calli (As := [.int (zN x1), .int x2, .int x3]) (rest := []) (G := GR) (R9 := G1) ⟨hx, hb, hml, hown, hts⟩ tbin (ri_signed l dC dI sb γ gT mo fu fd wr nc nl xc xl wx er GR (zN x1) x2 x3 H1.size hR (zN_b _)) q9_92 q9_93 q9_94 q1_9 q9_95 (n := 3) (by decide +kernel) rfl ⟨Nat.le_of_ble_eq_true rfl, Nat.le_of_ble_eq_true rfl⟩ ⟨(by show cells + 1 + 0 ≤ 601024; omega), (by show slots + 6 + 0 ≤ 7293034; omega)⟩ hN hT hAs hB0 hK hA hP hD hS [0, 1, 2, 3, 4] rfl hmo rfl rfl hl.1 rfl (Nat.le_of_ble_eq_true rfl) d_law_477 (fun r2 G2 H2 locs hw2 hP hD hS => ?_)
        change W _ _ _ _ _ _ _ _ _ _ _ _ (cells + 1 + 0) (slots + 6 + 0) _ _
        obtain ⟨hP, hD⟩ := two_swap hP hD
        obtain ⟨k2, k22, hi2, hj2, hk22, hsg2, hR2⟩ := hw2.resolve_right (fun q => q.1 ⟨by rw [hj1]; exact nI_rng hk12 (by omega), fun z => by rw [hi1]; exact nI_rng (hsg1.resolve_left (fun w => z w.1)).2.1 (by omega), fun z => by rw [hi1]; exact nI_rng (hsg1.resolve_right (fun w => w.1 z)).2.1 (by omega)⟩)
        obtain rfl : k12 = k22 := nI_inj9 (by omega) (by omega) (hj1.symm.trans hj2)
        have hsg : (r9 = 1 ∧ r2 = 1) ∨ (r9 = 0 ∧ r2 = 0) := by
          rcases hsg1 with ⟨hz1, hk1, hs1⟩ | ⟨hz1, hk1, hs1⟩
          · obtain ⟨-, hk2, hs2⟩ := hsg2.resolve_right (fun z => z.1 hz1)
            obtain rfl : k1 = k2 := nI_inj9 (by omega) (by omega) (hi1.symm.trans hi2)
            exact bz_two hs1 hs2 (sgc_T (hRl.1 k1 hk1) (hRl.1 k12 hk12))
          · obtain ⟨-, hk2, hs2⟩ := hsg2.resolve_left (fun z => hz1 z.1)
            obtain rfl : k1 = k2 := nI_inj9 (by omega) (by omega) (hi1.symm.trans hi2)
            exact bz_two hs1 hs2 (sgl_T (hRl.2 k1 hk1) (hRl.1 k12 hk12))
        rcases hsg with ⟨q9, q2⟩ | ⟨q9, q2⟩
        · subst q2
          refine lv_istore (lv' := [(6, .int 1), (5, .int 0), (4, .int (nI i)), (3, .ref ou), (2, .ref mo), (1, .ref q0), (0, .ref b)]) hx hb d_law_480 hl (by decide) rfl (fun ls hl => ?_)
          refine lv_aload_n hx hb d_law_482 rfl (lv_at hl 4 rfl) ?_
          obtain ⟨oc, so, rv, sp, rz, bl, ww, hs, fi, pm, mx, my, mm, mq, mz, wy, fn, qs, si, cs, cn, fa, pu, de, ve, mk, nw, hq8⟩ := hR2.cell
          obtain ⟨iq, hiq⟩ := List.getElem?_of_mem (List.mem_append_right G1 hq8)
          refine vp_callSi (pu_callV (As := []) (rest := []) ⟨hx, hb, hml, hown, hts⟩ tbin (c_Model_thrown l dC dI sb mo oc so rv sp rz bl ww hs fi pm mx my mm mq mz wy fn (nI fd) wr (nI nc) (nI nl) qs si cs cn fa pu de ve mk nw (0 : Int32)) q8_71 q8_72 q8_73 q1_9 q8_74 (n := 0) (by decide +kernel) rfl ⟨rfl, rfl⟩ ⟨Nat.le_of_ble_eq_true rfl, Nat.le_of_ble_eq_true rfl⟩ ⟨(by show cells + 1 + 0 ≤ 601024; omega), (by show slots + 6 + 0 ≤ 7293034; omega)⟩ hN (hT.keep hS hAs) hK hP [iq] (by simp only [List.filterMap_cons, hiq, List.filterMap_nil]) [] rfl iq 12 hiq rfl rfl hl.1 rfl (Nat.le_of_ble_eq_true rfl) d_law_483) (fun r3 hr3 => ?_)
          subst hr3
          refine lv_iload hx hb d_law_486 (lv_at hl 1 rfl) ?_
          refine lv_icmp_eq (tgt := 493) hx hb d_law_488 (by decide) (fun c488 => ?_) (fun c488 => ?_)
          rotate_left
          · exact absurd c488 (by decide)
          refine lv_iload hx hb d_law_493 (lv_at hl 1 rfl) ?_
          refine lv_if_ne (tgt := 517) hx hb d_law_495 (by decide) (fun c495 => ?_) (fun c495 => ?_)
          · exact absurd c495 (by decide)
          refine lv_aload_n hx hb d_law_498 rfl (lv_at hl 3 rfl) ?_
          refine lv_iconst (v := 0) hx hb d_law_499 (by decide) ?_
          obtain ⟨io, hio⟩ := List.getElem?_of_mem (List.mem_append_left G2 hC1.ou)
          refine va_lald hx hb hK hP io 2 hio rfl (show vp_in 0 1 from by unfold vp_in; decide) d_law_500 ?_
          rw [show vp_updL ov 0 (if r9 = 0 then 0 else 1) (0 : Int32).toNatClampNeg = (1 : Int64) from (by rw [q9]; rfl)]
          refine lv_iload hx hb d_law_501 (lv_at hl 0 rfl) ?_
          refine lv_if_eq (tgt := 510) hx hb d_law_503 (by decide) (fun c503 => ?_) (fun c503 => ?_)
          · exact absurd c503 (by decide)
          refine lv_lconst (v := 1) hx hb d_law_506 (by decide) ?_
          refine lv_goto (tgt := 511) hx hb d_law_507 (by decide) ?_
          refine W.lcmp hx hb d_law_511 ?_
          refine lv_if_eq (tgt := 517) hx hb d_law_512 (by decide) (fun c512 => ?_) (fun c512 => ?_)
          rotate_left
          · exact absurd (show lg_cmp 1 1 = 0 from by simp [lg_cmp]) c512
          refine lv_goto (tgt := 940) hx hb d_law_517 (by decide) ?_
          exact kk G1 G2 _ _ ls _ _ ⟨fu, fd, wr, nc, nl, _, _, _, _, _, _, _, hC1, hR2, hNm.next (by omega) (by omega), hRl⟩ hP hD hS (lv_sub hl [2, 3, 4, 5, 6] rfl)
        · subst q2
          refine lv_istore (lv' := [(6, .int 0), (5, .int 0), (4, .int (nI i)), (3, .ref ou), (2, .ref mo), (1, .ref q0), (0, .ref b)]) hx hb d_law_480 hl (by decide) rfl (fun ls hl => ?_)
          refine lv_aload_n hx hb d_law_482 rfl (lv_at hl 4 rfl) ?_
          obtain ⟨oc, so, rv, sp, rz, bl, ww, hs, fi, pm, mx, my, mm, mq, mz, wy, fn, qs, si, cs, cn, fa, pu, de, ve, mk, nw, hq8⟩ := hR2.cell
          obtain ⟨iq, hiq⟩ := List.getElem?_of_mem (List.mem_append_right G1 hq8)
          refine vp_callSi (pu_callV (As := []) (rest := []) ⟨hx, hb, hml, hown, hts⟩ tbin (c_Model_thrown l dC dI sb mo oc so rv sp rz bl ww hs fi pm mx my mm mq mz wy fn (nI fd) wr (nI nc) (nI nl) qs si cs cn fa pu de ve mk nw (0 : Int32)) q8_71 q8_72 q8_73 q1_9 q8_74 (n := 0) (by decide +kernel) rfl ⟨rfl, rfl⟩ ⟨Nat.le_of_ble_eq_true rfl, Nat.le_of_ble_eq_true rfl⟩ ⟨(by show cells + 1 + 0 ≤ 601024; omega), (by show slots + 6 + 0 ≤ 7293034; omega)⟩ hN (hT.keep hS hAs) hK hP [iq] (by simp only [List.filterMap_cons, hiq, List.filterMap_nil]) [] rfl iq 12 hiq rfl rfl hl.1 rfl (Nat.le_of_ble_eq_true rfl) d_law_483) (fun r3 hr3 => ?_)
          subst hr3
          refine lv_iload hx hb d_law_486 (lv_at hl 1 rfl) ?_
          refine lv_icmp_eq (tgt := 493) hx hb d_law_488 (by decide) (fun c488 => ?_) (fun c488 => ?_)
          rotate_left
          · exact absurd c488 (by decide)
          refine lv_iload hx hb d_law_493 (lv_at hl 1 rfl) ?_
          refine lv_if_ne (tgt := 517) hx hb d_law_495 (by decide) (fun c495 => ?_) (fun c495 => ?_)
          · exact absurd c495 (by decide)
          refine lv_aload_n hx hb d_law_498 rfl (lv_at hl 3 rfl) ?_
          refine lv_iconst (v := 0) hx hb d_law_499 (by decide) ?_
          obtain ⟨io, hio⟩ := List.getElem?_of_mem (List.mem_append_left G2 hC1.ou)
          refine va_lald hx hb hK hP io 2 hio rfl (show vp_in 0 1 from by unfold vp_in; decide) d_law_500 ?_
          rw [show vp_updL ov 0 (if r9 = 0 then 0 else 1) (0 : Int32).toNatClampNeg = (0 : Int64) from (by rw [q9]; rfl)]
          refine lv_iload hx hb d_law_501 (lv_at hl 0 rfl) ?_
          refine lv_if_eq (tgt := 510) hx hb d_law_503 (by decide) (fun c503 => ?_) (fun c503 => ?_)
          rotate_left
          · exact absurd c503 (by decide)
          refine lv_lconst (v := 0) hx hb d_law_510 (by decide) ?_
          refine W.lcmp hx hb d_law_511 ?_
          refine lv_if_eq (tgt := 517) hx hb d_law_512 (by decide) (fun c512 => ?_) (fun c512 => ?_)
          rotate_left
          · exact absurd (show lg_cmp 0 0 = 0 from by simp [lg_cmp]) c512
          refine lv_goto (tgt := 940) hx hb d_law_517 (by decide) ?_
          exact kk G1 G2 _ _ ls _ _ ⟨fu, fd, wr, nc, nl, _, _, _, _, _, _, _, hC1, hR2, hNm.next (by omega) (by omega), hRl⟩ hP hD hS (lv_sub hl [2, 3, 4, 5, 6] rfl)
      · skip
        refine lv_aload_n hx hb d_law_451 rfl (lv_at hl 5 rfl) ?_
        refine lv_iload hx hb d_law_452 (lv_at hl 1 rfl) ?_
        refine lv_iconst (v := 1) hx hb d_law_454 (by decide) ?_
        refine lv_iadd hx hb d_law_455 ?_
        refine va_sld (i := (nI i) + 1) hx hb hX hbl hbA hS (vi_in 1 (by omega) hL5) d_law_456 ?_
        rw [hx1]
        refine lv_if_eq (tgt := 464) hx hb d_law_457 (by decide) (fun c457 => ?_) (fun c457 => ?_)
        · refine lv_iconst (v := 0) hx hb d_law_464 (by decide) ?_
          exact k465 _ (by first | exact (if_pos c457).symm | exact (if_neg c457).symm | exact (if_pos (Classical.not_not.mp c457)).symm)
        · refine lv_iconst (v := 1) hx hb d_law_460 (by decide) ?_
          refine lv_goto (tgt := 465) hx hb d_law_461 (by decide) ?_
          exact k465 _ (by first | exact (if_pos c457).symm | exact (if_neg c457).symm | exact (if_pos (Classical.not_not.mp c457)).symm)
    · skip
      subst hr1
      refine lv_istore (lv' := [(5, .int 1), (4, .int (nI i)), (3, .ref ou), (2, .ref mo), (1, .ref q0), (0, .ref b)]) hx hb d_law_448 hl (by decide) rfl (fun ls hl => ?_)
      refine lv_aload_n hx hb d_law_450 rfl (lv_at hl 3 rfl) ?_
      refine w_join (J := fun v => v = zN x1) (pc := 465) (ls := ls) (rest := [.ref mo]) (fun v hv => ?_) (fun k465 => ?_)
      · skip
        subst hv
        refine lv_aload_n hx hb d_law_465 rfl (lv_at hl 5 rfl) ?_
        refine lv_iload hx hb d_law_466 (lv_at hl 1 rfl) ?_
        refine lv_iconst (v := 2) hx hb d_law_468 (by decide) ?_
        refine lv_iadd hx hb d_law_469 ?_
        refine va_sld (i := (nI i) + 2) hx hb hX hbl hbA hS (vi_in 2 (by omega) hL5) d_law_470 ?_
        rw [hx2]
        refine lv_aload_n hx hb d_law_471 rfl (lv_at hl 5 rfl) ?_
        refine lv_iload hx hb d_law_472 (lv_at hl 1 rfl) ?_
        refine lv_iconst (v := 3) hx hb d_law_474 (by decide) ?_
        refine lv_iadd hx hb d_law_475 ?_
        refine va_sld (i := (nI i) + 3) hx hb hX hbl hbA hS (vi_in 3 (by omega) hL5) d_law_476 ?_
        rw [hx3]
        refine rc_calli (As := [.int (zN x1), .int x2, .int x3]) (rest := []) (G := GR) (R9 := G1) ⟨hx, hb, hml, hown, hts⟩ tbin (ri_signed l dC dI sb γ gT mo fu fd wr nc nl xc xl wx er GR (zN x1) x2 x3 H1.size hR (zN_b _)) q9_92 q9_93 q9_94 q1_9 q9_95 (n := 3) (by decide +kernel) rfl ⟨Nat.le_of_ble_eq_true rfl, Nat.le_of_ble_eq_true rfl⟩ ⟨(by show cells + 1 + 0 ≤ 601024; omega), (by show slots + 6 + 0 ≤ 7293034; omega)⟩ hN hT hAs hB0 hK hA hP hD hS [0, 1, 2, 3, 4] rfl hmo rfl rfl hl.1 rfl (Nat.le_of_ble_eq_true rfl) d_law_477 (fun r2 G2 H2 locs hw2 hP hD hS => ?_)
        change W _ _ _ _ _ _ _ _ _ _ _ _ (cells + 1 + 0) (slots + 6 + 0) _ _
        obtain ⟨hP, hD⟩ := two_swap hP hD
        obtain ⟨-, hR2⟩ := hw2.resolve_left (fun ⟨k, k2, e1, e2, hk2, hk, _⟩ => hb9 ⟨by rw [e2]; exact nI_rng hk2 (by omega), fun q => by rw [e1]; exact nI_rng (hk.resolve_left (fun z => q z.1)).2.1 (by omega), fun q => by rw [e1]; exact nI_rng (hk.resolve_right (fun z => z.1 q)).2.1 (by omega)⟩)
        refine lv_istore (lv' := [(6, .int r2), (5, .int 1), (4, .int (nI i)), (3, .ref ou), (2, .ref mo), (1, .ref q0), (0, .ref b)]) hx hb d_law_480 hl (by decide) rfl (fun ls hl => ?_)
        refine lv_aload_n hx hb d_law_482 rfl (lv_at hl 4 rfl) ?_
        obtain ⟨oc, so, rv, sp, rz, bl, ww, hs, fi, pm, mx, my, mm, mq, mz, wy, fn, qs, si, cs, cn, fa, pu, de, ve, mk, nw, hq8⟩ := hR2.cell
        obtain ⟨iq, hiq⟩ := List.getElem?_of_mem (List.mem_append_right G1 hq8)
        refine vp_callSi (pu_callV (As := []) (rest := []) ⟨hx, hb, hml, hown, hts⟩ tbin (c_Model_thrown l dC dI sb mo oc so rv sp rz bl ww hs fi pm mx my mm mq mz wy fn (nI fd) wr (nI nc) (nI nl) qs si cs cn fa pu de ve mk nw (1 : Int32)) q8_71 q8_72 q8_73 q1_9 q8_74 (n := 0) (by decide +kernel) rfl ⟨rfl, rfl⟩ ⟨Nat.le_of_ble_eq_true rfl, Nat.le_of_ble_eq_true rfl⟩ ⟨(by show cells + 1 + 0 ≤ 601024; omega), (by show slots + 6 + 0 ≤ 7293034; omega)⟩ hN (hT.keep hS hAs) hK hP [iq] (by simp only [List.filterMap_cons, hiq, List.filterMap_nil]) [] rfl iq 12 hiq rfl rfl hl.1 rfl (Nat.le_of_ble_eq_true rfl) d_law_483) (fun r3 hr3 => ?_)
        subst hr3
        refine lv_iload hx hb d_law_486 (lv_at hl 1 rfl) ?_
        refine lv_icmp_eq (tgt := 493) hx hb d_law_488 (by decide) (fun c488 => ?_) (fun c488 => ?_)
        rotate_left
        · exact absurd c488 (by decide)
        refine lv_iload hx hb d_law_493 (lv_at hl 1 rfl) ?_
        refine lv_if_ne (tgt := 517) hx hb d_law_495 (by decide) (fun c495 => ?_) (fun c495 => ?_)
        rotate_left
        · exact absurd c495 (by decide)
        refine lv_goto (tgt := 940) hx hb d_law_517 (by decide) ?_
        exact kk G1 G2 _ _ ls _ _ ⟨fu, fd, wr, nc, nl, _, _, _, _, _, _, _, hC1, hR2, hNm.next (by omega) (by omega), hRl⟩ hP hD hS (lv_sub hl [2, 3, 4, 5, 6] rfl)
      · skip
        refine lv_aload_n hx hb d_law_451 rfl (lv_at hl 5 rfl) ?_
        refine lv_iload hx hb d_law_452 (lv_at hl 1 rfl) ?_
        refine lv_iconst (v := 1) hx hb d_law_454 (by decide) ?_
        refine lv_iadd hx hb d_law_455 ?_
        refine va_sld (i := (nI i) + 1) hx hb hX hbl hbA hS (vi_in 1 (by omega) hL5) d_law_456 ?_
        rw [hx1]
        refine lv_if_eq (tgt := 464) hx hb d_law_457 (by decide) (fun c457 => ?_) (fun c457 => ?_)
        · refine lv_iconst (v := 0) hx hb d_law_464 (by decide) ?_
          exact k465 _ (by first | exact (if_pos c457).symm | exact (if_neg c457).symm | exact (if_pos (Classical.not_not.mp c457)).symm)
        · refine lv_iconst (v := 1) hx hb d_law_460 (by decide) ?_
          refine lv_goto (tgt := 465) hx hb d_law_461 (by decide) ?_
          exact k465 _ (by first | exact (if_pos c457).symm | exact (if_neg c457).symm | exact (if_pos (Classical.not_not.mp c457)).symm)
  · skip
    refine lv_aload_n hx hb d_law_418 rfl (lv_at hl 4 rfl) ?_
    refine lv_iload hx hb d_law_419 (lv_at hl 0 rfl) ?_
    refine lv_iconst (v := 1) hx hb d_law_421 (by decide) ?_
    refine lv_iadd hx hb d_law_422 ?_
    refine va_sld (i := (nI i) + 1) hx hb hX hbl hbA hS (vi_in 1 (by omega) hL5) d_law_423 ?_
    rw [hx1]
    refine lv_if_eq (tgt := 431) hx hb d_law_424 (by decide) (fun c424 => ?_) (fun c424 => ?_)
    · refine lv_iconst (v := 0) hx hb d_law_431 (by decide) ?_
      exact k432 _ (by first | exact (if_pos c424).symm | exact (if_neg c424).symm | exact (if_pos (Classical.not_not.mp c424)).symm)
    · refine lv_iconst (v := 1) hx hb d_law_427 (by decide) ?_
      refine lv_goto (tgt := 432) hx hb d_law_428 (by decide) ?_
      exact k432 _ (by first | exact (if_pos c424).symm | exact (if_neg c424).symm | exact (if_pos (Classical.not_not.mp c424)).symm)
