/-! The law's loop. -/
theorem hi_of {i L : Nat} (hi0 : i ≤ 5120) (hL : L ≤ 5120) (h : ¬ (Int32.ofNat L - 10 < nI i)) : i + 10 ≤ L := by
  by_cases h10 : 10 ≤ L
  · have e : Int32.ofNat L - 10 = nI (L - 10) := pk_sub (a := L) (b := 10) h10
    rw [e, nI_ltI (by omega) (by omega)] at h
    omega
  · exfalso
    have hlt : Int32.ofNat L - 10 < 0 := by
      rcases (show L = 0 ∨ L = 1 ∨ L = 2 ∨ L = 3 ∨ L = 4 ∨ L = 5 ∨ L = 6 ∨ L = 7 ∨ L = 8 ∨ L = 9 by omega) with rfl | rfl | rfl | rfl | rfl | rfl | rfl | rfl | rfl | rfl <;> decide
    have hnn : ¬ nI i < 0 := fun q => by
      have q2 : nI i < nI 0 := q
      rw [nI_ltI (by omega) (by omega)] at q2
      omega
    exact h (Int32.lt_of_lt_of_le hlt (Int32.not_lt.mp hnn))
theorem LNm.fin {i cells slots fd : Nat} (h : LNm i cells slots fd) (hi : i ≤ 5120) : cells ≤ 200000 ∧ slots ≤ 7000000 := by
  obtain ⟨k, e, a1, a2⟩ := h
  exact ⟨by omega, by omega⟩
set_option maxHeartbeats 4000000 in
set_option maxRecDepth 100000 in
theorem lw_loop {p : Program} {e : Env} {s : State} {m : MethodId} {below : List Frame} {meth : Method} {c : Code} (l : Launch) (hl0 : l.stackTraces = false) {b L : Nat} {xs : Nat → Int32} {dC : Nat → ClassId} {dI : Nat → Nat → Nat} {γ : cG} {gT : ClassId} {sb : sB} {A : Nat → Prop} (X : lwX p s m c b L xs dC dI γ gT sb A) (hr : meth.sig.returnType = ret) (hlocks : meth.locks = false) (hAd : A = fun q => s.heap.size ≤ q) {H : Heap} {locs : List Loc} {ls : Array Slot} {cells slots q0 ou mo i : Nat} {GC GR : va_W} (hi0 : i ≤ 5120) (hJ : LJ γ sb gT q0 ou mo i cells slots GC GR) (hP : va_P (dC, dI) classes (GC ++ GR) H) (hD : va_D A (GC ++ GR)) (hS : va_S A s.heap H locs) (hl : lv_has ls 8 [(4, .int (nI i)), (3, .ref ou), (2, .ref mo), (1, .ref q0), (0, .ref b)]) : W p l e room_1 s m #[Value.ref b] below meth c H locs cells slots (lw_Z1 below #[Value.ref b] s) (F0 m 23 ls []) := by
  refine w_loopC (D := (dC, dI)) (H0 := s.heap) (A := A) (α := Nat × Nat × Nat × va_W × va_W) (fun a => LJ γ sb gT q0 ou mo a.1 a.2.1 a.2.2.1 a.2.2.2.1 a.2.2.2.2 ∧ a.1 ≤ 5120) (fun a => 6000 - a.1) (fun a => [(4, .int (nI a.1)), (3, .ref ou), (2, .ref mo), (1, .ref q0), (0, .ref b)]) (fun _ => []) (fun a => a.2.2.2.1 ++ a.2.2.2.2) (fun a => a.2.1) (fun a => a.2.2.1) 8 23 (fun a9 H9 locs9 ls9 hJ9 hP9 hD9 hS9 hl9 ih => ?_) (i, cells, slots, GC, GR) H locs ls ⟨hJ, hi0⟩ hP hD hS hl
  obtain ⟨j, cells, slots, GC, GR⟩ := a9
  obtain ⟨hJ, hi0⟩ := hJ9
  dsimp only at hJ hi0 ih ⊢
  have X9 := X
  obtain ⟨hx, hb, hml, hown, hts, hK, hN, hT, hTh, hB0, hA, hAs, hX, hbl, hbA, hL5⟩ := X
  have hP : va_P (dC, dI) classes (GC ++ GR) H9 := hP9
  have hD : va_D A (GC ++ GR) := hD9
  have hS := hS9
  have hl : lv_has ls9 8 [(4, .int (nI j)), (3, .ref ou), (2, .ref mo), (1, .ref q0), (0, .ref b)] := hl9
  refine lv_iload hx hb d_law_23 (lv_at hl 0 rfl) ?_
  refine lv_aload_n hx hb d_law_25 rfl (lv_at hl 4 rfl) ?_
  refine va_slen hx hb hX hbl hbA hS d_law_26 ?_
  refine lv_bipush (v := 10) hx hb d_law_27 (by decide) ?_
  refine lv_isub hx hb d_law_29 ?_
  refine lv_icmp_gt (tgt := 939) hx hb d_law_30 (by decide) (fun c9 => ?_) (fun c9 => ?_)
  · obtain ⟨fu, fd, wr, nc, nl, vc, vl, cc, cl, vs, ov, xc, xl, wx, er, hC, hR, hNm, hRl⟩ := hJ
    obtain ⟨hf1, hf2⟩ := hNm.fin hi0
    refine lv_iconst (v := 1) hx hb d_law_939 (by decide) ?_
    refine va_forget (fun q hq => by have h9 := hS.2.2 q hq; rw [hAd] at h9; exact h9) ?_
    exact W.widen (k := 601024) (n := 7293034) (by omega) (by omega) (lw_ret1 hx hb hr hlocks d_law_940)
  · have hi : j + 10 ≤ L := hi_of hi0 hL5 (by first | exact c9 | exact Int32.not_lt.mpr c9)
    have kk : ∀ (GC' GR' : va_W) (H' : Heap) (locs' : List Loc) (ls' : Array Slot) (cells' slots' : Nat), LJ γ sb gT q0 ou mo (j + 10) cells' slots' GC' GR' → va_P (dC, dI) classes (GC' ++ GR') H' → va_D A (GC' ++ GR') → va_S A s.heap H' locs' → lv_has ls' 8 [(4, .int (nI j)), (3, .ref ou), (2, .ref mo), (1, .ref q0), (0, .ref b)] → W p l e room_1 s m #[Value.ref b] below meth c H' locs' cells' slots' (lw_Z1 below #[Value.ref b] s) (F0 m 933 ls' []) := fun GC' GR' H' locs' ls' cells' slots' hJ' hP' hD' hS' hl' => by
      refine lv_iinc (v := nI (j + 10)) (lv' := [(4, .int (nI (j + 10))), (3, .ref ou), (2, .ref mo), (1, .ref q0), (0, .ref b)]) hx hb d_law_933 hl' (k := 0) rfl (show nI j + nI 10 = _ from nI_add j 10) (by decide) rfl (fun ls hl => ?_)
      refine lv_goto (tgt := 23) hx hb d_law_936 (by decide) ?_
      exact ih (j + 10, cells', slots', GC', GR') H' locs' ls (by show 6000 - (j + 10) < 6000 - j; omega) ⟨hJ', by show j + 10 ≤ 5120; omega⟩ hP' hD' hS' hl
    refine lv_aload_n hx hb d_law_33 rfl (lv_at hl 4 rfl) ?_
    refine lv_iload hx hb d_law_34 (lv_at hl 0 rfl) ?_
    refine va_sld (i := nI j) hx hb hX hbl hbA hS (vi_in0 (by omega) hL5) d_law_36 ?_
    generalize xs (nI j).toNatClampNeg = x0
    refine lv_bipush (v := 15) hx hb d_law_37 (by decide) ?_
    refine lv_iand hx hb d_law_39 ?_
    generalize x0 &&& 15 = x9
    by_cases s_0 : x9.toInt = 0
    · refine lv_tableIn (tgt := 108) hx hb d_law_40 (by omega) (by omega) (by rw [s_0]; rfl) rfl ?_
      exact lw_case0 l hl0 X9 hi hJ hP hD hS hl kk
    by_cases s_1 : x9.toInt = 1
    · refine lv_tableIn (tgt := 184) hx hb d_law_40 (by omega) (by omega) (by rw [s_1]; rfl) rfl ?_
      exact lw_case1 l hl0 X9 hi hJ hP hD hS hl kk
    by_cases s_2 : x9.toInt = 2
    · refine lv_tableIn (tgt := 240) hx hb d_law_40 (by omega) (by omega) (by rw [s_2]; rfl) rfl ?_
      exact lw_case2 l hl0 X9 hi hJ hP hD hS hl kk
    by_cases s_3 : x9.toInt = 3
    · refine lv_tableIn (tgt := 268) hx hb d_law_40 (by omega) (by omega) (by rw [s_3]; rfl) rfl ?_
      exact lw_case3 l hl0 X9 hi hJ hP hD hS hl kk
    by_cases s_4 : x9.toInt = 4
    · refine lv_tableIn (tgt := 281) hx hb d_law_40 (by omega) (by omega) (by rw [s_4]; rfl) rfl ?_
      exact lw_case4 l hl0 X9 hi hJ hP hD hS hl kk
    by_cases s_5 : x9.toInt = 5
    · refine lv_tableIn (tgt := 337) hx hb d_law_40 (by omega) (by omega) (by rw [s_5]; rfl) rfl ?_
      exact lw_case5 l hl0 X9 hi hJ hP hD hS hl kk
    by_cases s_6 : x9.toInt = 6
    · refine lv_tableIn (tgt := 377) hx hb d_law_40 (by omega) (by omega) (by rw [s_6]; rfl) rfl ?_
      exact lw_case6 l hl0 X9 hi hJ hP hD hS hl kk
    by_cases s_7 : x9.toInt = 7
    · refine lv_tableIn (tgt := 417) hx hb d_law_40 (by omega) (by omega) (by rw [s_7]; rfl) rfl ?_
      exact lw_case7 l hl0 X9 hi hJ hP hD hS hl kk
    by_cases s_8 : x9.toInt = 8
    · refine lv_tableIn (tgt := 485) hx hb d_law_40 (by omega) (by omega) (by rw [s_8]; rfl) rfl ?_
      exact lw_case8 l hl0 X9 hi hJ hP hD hS hl kk
    by_cases s_9 : x9.toInt = 9
    · refine lv_tableIn (tgt := 525) hx hb d_law_40 (by omega) (by omega) (by rw [s_9]; rfl) rfl ?_
      exact lw_case9 l hl0 X9 hi hJ hP hD hS hl kk
    by_cases s_10 : x9.toInt = 10
    · refine lv_tableIn (tgt := 637) hx hb d_law_40 (by omega) (by omega) (by rw [s_10]; rfl) rfl ?_
      exact lw_case10 l hl0 X9 hi hJ hP hD hS hl kk
    by_cases s_11 : x9.toInt = 11
    · refine lv_tableIn (tgt := 665) hx hb d_law_40 (by omega) (by omega) (by rw [s_11]; rfl) rfl ?_
      exact lw_case11 l hl0 X9 hi hJ hP hD hS hl kk
    by_cases s_12 : x9.toInt = 12
    · refine lv_tableIn (tgt := 721) hx hb d_law_40 (by omega) (by omega) (by rw [s_12]; rfl) rfl ?_
      exact lw_case12 l hl0 X9 hi hJ hP hD hS hl kk
    refine lv_tableOut (tgt := 933) hx hb d_law_40 (by omega) rfl ?_
    obtain ⟨fu, fd, wr, nc, nl, vc, vl, cc, cl, vs, ov, xc, xl, wx, er, hC, hR, hNm, hRl⟩ := hJ
    exact kk GC GR _ _ ls9 _ _ ⟨fu, fd, wr, nc, nl, vc, vl, cc, cl, vs, ov, xc, xl, wx, er, hC, hR, hNm.next (by omega) (by omega), hRl⟩ hP hD hS hl
