/-! The law: what call 11 does. -/
set_option maxHeartbeats 4000000 in
set_option maxRecDepth 100000 in
theorem lw_case11 {p : Program} {e : Env} {s : State} {m : MethodId} {below : List Frame} {meth : Method} {c : Code} (l : Launch) (hl0 : l.stackTraces = false) {b L : Nat} {xs : Nat → Int32} {dC : Nat → ClassId} {dI : Nat → Nat → Nat} {γ : cG} {gT : ClassId} {sb : sB} {A : Nat → Prop} (X : lwX p s m c b L xs dC dI γ gT sb A) {Q : State → Prop} {H : Heap} {locs : List Loc} {ls : Array Slot} {cells slots q0 ou mo i : Nat} {GC GR : va_W} (hi : i + 10 ≤ L) (hJ : LJ γ sb gT q0 ou mo i cells slots GC GR) (hP : va_P (dC, dI) classes (GC ++ GR) H) (hD : va_D A (GC ++ GR)) (hS : va_S A s.heap H locs) (hl : lv_has ls 8 [(4, .int (nI i)), (3, .ref ou), (2, .ref mo), (1, .ref q0), (0, .ref b)]) (kk : ∀ (GC' GR' : va_W) (H' : Heap) (locs' : List Loc) (ls' : Array Slot) (cells' slots' : Nat), LJ γ sb gT q0 ou mo (i + 10) cells' slots' GC' GR' → va_P (dC, dI) classes (GC' ++ GR') H' → va_D A (GC' ++ GR') → va_S A s.heap H' locs' → lv_has ls' 8 [(4, .int (nI i)), (3, .ref ou), (2, .ref mo), (1, .ref q0), (0, .ref b)] → W p l e room_1 s m #[Value.ref b] below meth c H' locs' cells' slots' Q (F0 m 933 ls' [])) : W p l e room_1 s m #[Value.ref b] below meth c H locs cells slots Q (F0 m 665 ls []) := by
  obtain ⟨hx, hb, hml, hown, hts, hK, hN, hT, hTh, hB0, hA, hAs, hX, hbl, hbA, hL5⟩ := X
  have tbin : ∀ w ∈ tb, w ∈ tb := fun w h => h
  have htb : ∀ w ∈ tb, w.before #[Value.ref b] s = true := hts
  obtain ⟨fu, fd, wr, nc, nl, vc, vl, cc, cl, vs, ov, xc, xl, wx, er, hC, hR, hNm, hRl⟩ := hJ
  obtain ⟨hb1, hb2, hb3, hu8, hw8, fs8, hmo⟩ := hR.nb
  obtain ⟨hrc, hrs⟩ := hNm.room hi hL5
  obtain ⟨x1, hx1⟩ : ∃ x9, xs ((nI i + 1 : Int32).toNatClampNeg) = x9 := ⟨_, rfl⟩
  obtain ⟨x2, hx2⟩ : ∃ x9, xs ((nI i + 2 : Int32).toNatClampNeg) = x9 := ⟨_, rfl⟩
  obtain ⟨x3, hx3⟩ : ∃ x9, xs ((nI i + 3 : Int32).toNatClampNeg) = x9 := ⟨_, rfl⟩
  obtain ⟨x4, hx4⟩ : ∃ x9, xs ((nI i + 4 : Int32).toNatClampNeg) = x9 := ⟨_, rfl⟩
  obtain ⟨x5, hx5⟩ : ∃ x9, xs ((nI i + 5 : Int32).toNatClampNeg) = x9 := ⟨_, rfl⟩
  obtain ⟨x6, hx6⟩ : ∃ x9, xs ((nI i + 6 : Int32).toNatClampNeg) = x9 := ⟨_, rfl⟩
  obtain ⟨x7, hx7⟩ : ∃ x9, xs ((nI i + 7 : Int32).toNatClampNeg) = x9 := ⟨_, rfl⟩
  obtain ⟨x8, hx8⟩ : ∃ x9, xs ((nI i + 8 : Int32).toNatClampNeg) = x9 := ⟨_, rfl⟩
  obtain ⟨x9, hx9⟩ : ∃ x9, xs ((nI i + 9 : Int32).toNatClampNeg) = x9 := ⟨_, rfl⟩
  refine lv_aload_n hx hb d_law_665 rfl (lv_at hl 3 rfl) ?_
  refine lv_aload_n hx hb d_law_666 rfl (lv_at hl 4 rfl) ?_
  refine lv_iload hx hb d_law_667 (lv_at hl 0 rfl) ?_
  refine lv_iconst (v := 1) hx hb d_law_669 (by decide) ?_
  refine lv_iadd hx hb d_law_670 ?_
  refine va_sld (i := (nI i) + 1) hx hb hX hbl hbA hS (vi_in 1 (by omega) hL5) d_law_671 ?_
  rw [hx1]
  refine lv_aload_n hx hb d_law_672 rfl (lv_at hl 1 rfl) ?_
  refine lc_call (As := [.ref q0, .int x1, .ref ou]) (rest := []) (G := GC) (R9 := GR) ⟨hx, hb, hml, hown, hts⟩ tbin (ci_count l hl0 dC dI sb γ q0 ou fu fd wr nc nl vc vl cc cl vs ov GC x1 H.size hC ) q6_136 q6_137 q1_0 q6_138 (n := 3) (by decide +kernel) rfl ⟨Nat.le_of_ble_eq_true rfl, Nat.le_of_ble_eq_true rfl⟩ ⟨(by show cells + 1 ≤ 601024; omega), (by show slots + 6 ≤ 7293034; omega)⟩ hTh hN hT hAs hB0 hK hA hP hD hS [0, 1, 2, 3] rfl hl.1 rfl (Nat.le_of_ble_eq_true rfl) d_law_673 (fun r1 G1 H1 locs hw1 hP hD hS => ?_)
  change W _ _ _ _ _ _ _ _ _ _ _ _ (cells + 1) (slots + 6) _ _
  obtain ⟨hP, hD⟩ := two_swap hP hD
  obtain ⟨ov1, hC1, ho1⟩ := hw1
  rcases ho1 with ⟨hr1, r9, hc1, hov⟩ | ⟨hr1, hc1, hov⟩
  · skip
    subst hr1
    subst hov
    refine lv_istore (lv' := [(5, .int 0), (4, .int (nI i)), (3, .ref ou), (2, .ref mo), (1, .ref q0), (0, .ref b)]) hx hb d_law_676 hl (by decide) rfl (fun ls hl => ?_)
    refine lv_aload_n hx hb d_law_678 rfl (lv_at hl 3 rfl) ?_
    refine lv_aload_n hx hb d_law_679 rfl (lv_at hl 5 rfl) ?_
    refine lv_iload hx hb d_law_680 (lv_at hl 1 rfl) ?_
    refine lv_iconst (v := 1) hx hb d_law_682 (by decide) ?_
    refine lv_iadd hx hb d_law_683 ?_
    refine va_sld (i := (nI i) + 1) hx hb hX hbl hbA hS (vi_in 1 (by omega) hL5) d_law_684 ?_
    rw [hx1]
    refine rc_calli (As := [.int x1]) (rest := []) (G := GR) (R9 := G1) ⟨hx, hb, hml, hown, hts⟩ tbin (ri_count l dC dI sb γ gT mo fu fd wr nc nl xc xl wx vs er GR x1 H1.size hR) q9_178 q9_179 q9_180 q1_9 q9_181 (n := 1) (by decide +kernel) rfl ⟨Nat.le_of_ble_eq_true rfl, Nat.le_of_ble_eq_true rfl⟩ ⟨(by show cells + 1 + 0 ≤ 601024; omega), (by show slots + 6 + 0 ≤ 7293034; omega)⟩ hN hT hAs hB0 hK hA hP hD hS [0, 1, 2, 3, 4] rfl hmo rfl rfl hl.1 rfl (Nat.le_of_ble_eq_true rfl) d_law_685 (fun r2 G2 H2 locs hw2 hP hD hS => ?_)
    change W _ _ _ _ _ _ _ _ _ _ _ _ (cells + 1 + 0) (slots + 6 + 0) _ _
    obtain ⟨hP, hD⟩ := two_swap hP hD
    obtain ⟨hc2, hR2⟩ := hw2.resolve_right (fun q => absurd (hc1.symm.trans q.1) (by intro e; cases e))
    obtain rfl : r9 = r2 := Option.some.inj (hc1.symm.trans hc2)
    refine lv_istore (lv' := [(6, .int r9), (5, .int 0), (4, .int (nI i)), (3, .ref ou), (2, .ref mo), (1, .ref q0), (0, .ref b)]) hx hb d_law_688 hl (by decide) rfl (fun ls hl => ?_)
    refine lv_aload_n hx hb d_law_690 rfl (lv_at hl 4 rfl) ?_
    obtain ⟨oc, so, rv, sp, rz, bl, ww, hs, fi, pm, mx, my, mm, mq, mz, wy, fn, qs, si, cs, cn, fa, pu, de, ve, mk, nw, hq8⟩ := hR2.cell
    obtain ⟨iq, hiq⟩ := List.getElem?_of_mem (List.mem_append_right G1 hq8)
    refine vp_callSi (pu_callV (As := []) (rest := []) ⟨hx, hb, hml, hown, hts⟩ tbin (c_Model_thrown l dC dI sb mo oc so rv sp rz bl ww hs fi pm mx my mm mq mz wy fn (nI fd) wr (nI nc) (nI nl) qs si cs cn fa pu de ve mk nw (0 : Int32)) q8_71 q8_72 q8_73 q1_9 q8_74 (n := 0) (by decide +kernel) rfl ⟨rfl, rfl⟩ ⟨Nat.le_of_ble_eq_true rfl, Nat.le_of_ble_eq_true rfl⟩ ⟨(by show cells + 1 + 0 ≤ 601024; omega), (by show slots + 6 + 0 ≤ 7293034; omega)⟩ hN (hT.keep hS hAs) hK hP [iq] (by simp only [List.filterMap_cons, hiq, List.filterMap_nil]) [] rfl iq 12 hiq rfl rfl hl.1 rfl (Nat.le_of_ble_eq_true rfl) d_law_691) (fun r3 hr3 => ?_)
    subst hr3
    refine lv_iload hx hb d_law_694 (lv_at hl 1 rfl) ?_
    refine lv_icmp_eq (tgt := 701) hx hb d_law_696 (by decide) (fun c696 => ?_) (fun c696 => ?_)
    rotate_left
    · exact absurd c696 (by decide)
    refine lv_iload hx hb d_law_701 (lv_at hl 1 rfl) ?_
    refine lv_if_ne (tgt := 718) hx hb d_law_703 (by decide) (fun c703 => ?_) (fun c703 => ?_)
    · exact absurd c703 (by decide)
    refine lv_aload_n hx hb d_law_706 rfl (lv_at hl 3 rfl) ?_
    refine lv_iconst (v := 0) hx hb d_law_707 (by decide) ?_
    obtain ⟨io, hio⟩ := List.getElem?_of_mem (List.mem_append_left G2 hC1.ou)
    refine va_lald hx hb hK hP io 2 hio rfl (show vp_in 0 1 from by unfold vp_in; decide) d_law_708 ?_
    change W _ _ _ _ _ _ _ _ _ _ _ _ _ _ _ (F0 m 709 _ (.long (r9.toInt64) :: []))
    refine lv_iload hx hb d_law_709 (lv_at hl 0 rfl) ?_
    refine lv_i2l (v := r9.toInt64) hx hb d_law_711 rfl ?_
    refine W.lcmp hx hb d_law_712 ?_
    refine lv_if_eq (tgt := 718) hx hb d_law_713 (by decide) (fun c713 => ?_) (fun c713 => ?_)
    rotate_left
    · exact absurd (show lg_cmp r9.toInt64 r9.toInt64 = 0 from by simp [lg_cmp]) c713
    refine lv_goto (tgt := 933) hx hb d_law_718 (by decide) ?_
    exact kk G1 G2 _ _ ls _ _ ⟨fu, fd, wr, nc, nl, _, _, _, _, _, _, _, _, _, _, hC1, hR2, hNm.next (by omega) (by omega), hRl⟩ hP hD hS (lv_sub hl [2, 3, 4, 5, 6] rfl)
  · skip
    subst hr1
    refine lv_istore (lv' := [(5, .int 1), (4, .int (nI i)), (3, .ref ou), (2, .ref mo), (1, .ref q0), (0, .ref b)]) hx hb d_law_676 hl (by decide) rfl (fun ls hl => ?_)
    refine lv_aload_n hx hb d_law_678 rfl (lv_at hl 3 rfl) ?_
    refine lv_aload_n hx hb d_law_679 rfl (lv_at hl 5 rfl) ?_
    refine lv_iload hx hb d_law_680 (lv_at hl 1 rfl) ?_
    refine lv_iconst (v := 1) hx hb d_law_682 (by decide) ?_
    refine lv_iadd hx hb d_law_683 ?_
    refine va_sld (i := (nI i) + 1) hx hb hX hbl hbA hS (vi_in 1 (by omega) hL5) d_law_684 ?_
    rw [hx1]
    refine rc_calli (As := [.int x1]) (rest := []) (G := GR) (R9 := G1) ⟨hx, hb, hml, hown, hts⟩ tbin (ri_count l dC dI sb γ gT mo fu fd wr nc nl xc xl wx vs er GR x1 H1.size hR) q9_178 q9_179 q9_180 q1_9 q9_181 (n := 1) (by decide +kernel) rfl ⟨Nat.le_of_ble_eq_true rfl, Nat.le_of_ble_eq_true rfl⟩ ⟨(by show cells + 1 + 0 ≤ 601024; omega), (by show slots + 6 + 0 ≤ 7293034; omega)⟩ hN hT hAs hB0 hK hA hP hD hS [0, 1, 2, 3, 4] rfl hmo rfl rfl hl.1 rfl (Nat.le_of_ble_eq_true rfl) d_law_685 (fun r2 G2 H2 locs hw2 hP hD hS => ?_)
    change W _ _ _ _ _ _ _ _ _ _ _ _ (cells + 1 + 0) (slots + 6 + 0) _ _
    obtain ⟨hP, hD⟩ := two_swap hP hD
    obtain ⟨-, hr2, hR2⟩ := hw2.resolve_left (fun q => absurd (hc1.symm.trans q.1) (by intro e; cases e))
    subst hr2
    refine lv_istore (lv' := [(6, .int 0), (5, .int 1), (4, .int (nI i)), (3, .ref ou), (2, .ref mo), (1, .ref q0), (0, .ref b)]) hx hb d_law_688 hl (by decide) rfl (fun ls hl => ?_)
    refine lv_aload_n hx hb d_law_690 rfl (lv_at hl 4 rfl) ?_
    obtain ⟨oc, so, rv, sp, rz, bl, ww, hs, fi, pm, mx, my, mm, mq, mz, wy, fn, qs, si, cs, cn, fa, pu, de, ve, mk, nw, hq8⟩ := hR2.cell
    obtain ⟨iq, hiq⟩ := List.getElem?_of_mem (List.mem_append_right G1 hq8)
    refine vp_callSi (pu_callV (As := []) (rest := []) ⟨hx, hb, hml, hown, hts⟩ tbin (c_Model_thrown l dC dI sb mo oc so rv sp rz bl ww hs fi pm mx my mm mq mz wy fn (nI fd) wr (nI nc) (nI nl) qs si cs cn fa pu de ve mk nw (1 : Int32)) q8_71 q8_72 q8_73 q1_9 q8_74 (n := 0) (by decide +kernel) rfl ⟨rfl, rfl⟩ ⟨Nat.le_of_ble_eq_true rfl, Nat.le_of_ble_eq_true rfl⟩ ⟨(by show cells + 1 + 0 ≤ 601024; omega), (by show slots + 6 + 0 ≤ 7293034; omega)⟩ hN (hT.keep hS hAs) hK hP [iq] (by simp only [List.filterMap_cons, hiq, List.filterMap_nil]) [] rfl iq 12 hiq rfl rfl hl.1 rfl (Nat.le_of_ble_eq_true rfl) d_law_691) (fun r3 hr3 => ?_)
    subst hr3
    refine lv_iload hx hb d_law_694 (lv_at hl 1 rfl) ?_
    refine lv_icmp_eq (tgt := 701) hx hb d_law_696 (by decide) (fun c696 => ?_) (fun c696 => ?_)
    rotate_left
    · exact absurd c696 (by decide)
    refine lv_iload hx hb d_law_701 (lv_at hl 1 rfl) ?_
    refine lv_if_ne (tgt := 718) hx hb d_law_703 (by decide) (fun c703 => ?_) (fun c703 => ?_)
    rotate_left
    · exact absurd c703 (by decide)
    refine lv_goto (tgt := 933) hx hb d_law_718 (by decide) ?_
    exact kk G1 G2 _ _ ls _ _ ⟨fu, fd, wr, nc, nl, _, _, _, _, _, _, _, _, _, _, hC1, hR2, hNm.next (by omega) (by omega), hRl⟩ hP hD hS (lv_sub hl [2, 3, 4, 5, 6] rfl)
