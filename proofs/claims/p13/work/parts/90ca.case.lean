/-! The law: what call 0 does. -/
set_option maxHeartbeats 4000000 in
set_option maxRecDepth 100000 in
theorem lw_case0 {p : Program} {e : Env} {s : State} {m : MethodId} {below : List Frame} {meth : Method} {c : Code} (l : Launch) (hl0 : l.stackTraces = false) {b L : Nat} {xs : Nat → Int32} {dC : Nat → ClassId} {dI : Nat → Nat → Nat} {γ : cG} {gT : ClassId} {sb : sB} {A : Nat → Prop} (X : lwX p s m c b L xs dC dI γ gT sb A) {Q : State → Prop} {H : Heap} {locs : List Loc} {ls : Array Slot} {cells slots q0 ou mo i : Nat} {GC GR : va_W} (hi : i + 10 ≤ L) (hJ : LJ γ sb gT q0 ou mo i cells slots GC GR) (hP : va_P (dC, dI) classes (GC ++ GR) H) (hD : va_D A (GC ++ GR)) (hS : va_S A s.heap H locs) (hl : lv_has ls 8 [(4, .int (nI i)), (3, .ref ou), (2, .ref mo), (1, .ref q0), (0, .ref b)]) (kk : ∀ (GC' GR' : va_W) (H' : Heap) (locs' : List Loc) (ls' : Array Slot) (cells' slots' : Nat), LJ γ sb gT q0 ou mo (i + 10) cells' slots' GC' GR' → va_P (dC, dI) classes (GC' ++ GR') H' → va_D A (GC' ++ GR') → va_S A s.heap H' locs' → lv_has ls' 8 [(4, .int (nI i)), (3, .ref ou), (2, .ref mo), (1, .ref q0), (0, .ref b)] → W p l e room_1 s m #[Value.ref b] below meth c H' locs' cells' slots' Q (F0 m 933 ls' [])) : W p l e room_1 s m #[Value.ref b] below meth c H locs cells slots Q (F0 m 108 ls []) := by
  obtain ⟨hx, hb, hml, hown, hts, hK, hN, hT, hTh, hB0, hA, hAs, hX, hbl, hbA, hL5⟩ := X
  have tbin : ∀ w ∈ tb, w ∈ tb := fun w h => h
  have htb : ∀ w ∈ tb, w.before #[Value.ref b] s = true := hts
  obtain ⟨fu, fd, wr, nc, nl, vc, vl, cc, cl, vs, ov, xc, xl, wx, er, hC, hR, hNm, hRl⟩ := hJ
  obtain ⟨hb1, hb2, hb3, hu8, hw8, fs8, hmo⟩ := hR.nb
  obtain ⟨hrc, hrs⟩ := hNm.room hi hL5
  obtain ⟨x1, hx1⟩ : ∃ x9, xs ((nI i + 1 : Int32).toNatClampNeg) = x9 := ⟨_, rfl⟩
  obtain ⟨x2, hx2⟩ : ∃ x9, xs ((nI i + 2 : Int32).toNatClampNeg) = x9 := ⟨_, rfl⟩
  obtain ⟨x3, hx3⟩ : ∃ x9, xs ((nI i + 3 : Int32).toNatClampNeg) = x9 := ⟨_, rfl⟩
  obtain ⟨x4, hx4⟩ : ∃ x9, xs ((nI i + 4 : Int32).toNatClampNeg) = x9 := ⟨_, rfl⟩
  obtain ⟨x5, hx5⟩ : ∃ x9, xs ((nI i + 5 : Int32).toNatClampNeg) = x9 := ⟨_, rfl⟩
  obtain ⟨x6, hx6⟩ : ∃ x9, xs ((nI i + 6 : Int32).toNatClampNeg) = x9 := ⟨_, rfl⟩
  obtain ⟨x7, hx7⟩ : ∃ x9, xs ((nI i + 7 : Int32).toNatClampNeg) = x9 := ⟨_, rfl⟩
  obtain ⟨x8, hx8⟩ : ∃ x9, xs ((nI i + 8 : Int32).toNatClampNeg) = x9 := ⟨_, rfl⟩
  obtain ⟨x9, hx9⟩ : ∃ x9, xs ((nI i + 9 : Int32).toNatClampNeg) = x9 := ⟨_, rfl⟩
  refine lv_aload_n hx hb d_law_108 rfl (lv_at hl 3 rfl) ?_
  refine lv_aload_n hx hb d_law_109 rfl (lv_at hl 4 rfl) ?_
  refine lv_iload hx hb d_law_110 (lv_at hl 0 rfl) ?_
  refine lv_iconst (v := 1) hx hb d_law_112 (by decide) ?_
  refine lv_iadd hx hb d_law_113 ?_
  refine va_sld (i := (nI i) + 1) hx hb hX hbl hbA hS (vi_in 1 (by omega) hL5) d_law_114 ?_
  rw [hx1]
  refine lv_aload_n hx hb d_law_115 rfl (lv_at hl 4 rfl) ?_
  refine lv_iload hx hb d_law_116 (lv_at hl 0 rfl) ?_
  refine lv_iconst (v := 2) hx hb d_law_118 (by decide) ?_
  refine lv_iadd hx hb d_law_119 ?_
  refine va_sld (i := (nI i) + 2) hx hb hX hbl hbA hS (vi_in 2 (by omega) hL5) d_law_120 ?_
  rw [hx2]
  refine lv_aload_n hx hb d_law_121 rfl (lv_at hl 4 rfl) ?_
  refine lv_iload hx hb d_law_122 (lv_at hl 0 rfl) ?_
  refine lv_iconst (v := 3) hx hb d_law_124 (by decide) ?_
  refine lv_iadd hx hb d_law_125 ?_
  refine va_sld (i := (nI i) + 3) hx hb hX hbl hbA hS (vi_in 3 (by omega) hL5) d_law_126 ?_
  rw [hx3]
  refine lv_aload_n hx hb d_law_127 rfl (lv_at hl 4 rfl) ?_
  refine lv_iload hx hb d_law_128 (lv_at hl 0 rfl) ?_
  refine lv_iconst (v := 4) hx hb d_law_130 (by decide) ?_
  refine lv_iadd hx hb d_law_131 ?_
  refine va_sld (i := (nI i) + 4) hx hb hX hbl hbA hS (vi_in 4 (by omega) hL5) d_law_132 ?_
  rw [hx4]
  refine lv_aload_n hx hb d_law_133 rfl (lv_at hl 4 rfl) ?_
  refine lv_iload hx hb d_law_134 (lv_at hl 0 rfl) ?_
  refine lv_iconst (v := 5) hx hb d_law_136 (by decide) ?_
  refine lv_iadd hx hb d_law_137 ?_
  refine va_sld (i := (nI i) + 5) hx hb hX hbl hbA hS (vi_in 5 (by omega) hL5) d_law_138 ?_
  rw [hx5]
  refine lv_aload_n hx hb d_law_139 rfl (lv_at hl 1 rfl) ?_
  refine lc_call (As := [.ref q0, .int x1, .int x2, .int x3, .int x4, .int x5, .ref ou]) (rest := []) (G := GC) (R9 := GR) ⟨hx, hb, hml, hown, hts⟩ tbin (ci_feed l hl0 dC dI sb γ q0 ou fu fd wr nc nl vc vl cc cl vs ov GC x1 x2 x3 x4 x5 H.size hC) q1_203 q1_204 q1_0 q1_205 (n := 7) (by decide +kernel) rfl ⟨Nat.le_of_ble_eq_true rfl, Nat.le_of_ble_eq_true rfl⟩ ⟨(by show cells + 1 ≤ 601024; omega), (by show slots + 6 ≤ 7293034; omega)⟩ hTh hN hT hAs hB0 hK hA hP hD hS [0, 1, 2, 3] rfl hl.1 rfl (Nat.le_of_ble_eq_true rfl) d_law_140 (fun r1 G1 H1 locs hw1 hP hD hS => ?_)
  change W _ _ _ _ _ _ _ _ _ _ _ _ (cells + 1) (slots + 6) _ _
  obtain ⟨hP, hD⟩ := two_swap hP hD
  rcases hw1 with ⟨hr1, hf1, hC1⟩ | ⟨hr1, hf1, hC1⟩
  · skip
    refine lv_istore (lv' := [(5, .int r1), (4, .int (nI i)), (3, .ref ou), (2, .ref mo), (1, .ref q0), (0, .ref b)]) hx hb d_law_143 hl (by decide) rfl (fun ls hl => ?_)
    refine lv_aload_n hx hb d_law_145 rfl (lv_at hl 3 rfl) ?_
    refine lv_aload_n hx hb d_law_146 rfl (lv_at hl 5 rfl) ?_
    refine lv_iload hx hb d_law_147 (lv_at hl 1 rfl) ?_
    refine lv_iconst (v := 1) hx hb d_law_149 (by decide) ?_
    refine lv_iadd hx hb d_law_150 ?_
    refine va_sld (i := (nI i) + 1) hx hb hX hbl hbA hS (vi_in 1 (by omega) hL5) d_law_151 ?_
    rw [hx1]
    refine lv_aload_n hx hb d_law_152 rfl (lv_at hl 5 rfl) ?_
    refine lv_iload hx hb d_law_153 (lv_at hl 1 rfl) ?_
    refine lv_iconst (v := 2) hx hb d_law_155 (by decide) ?_
    refine lv_iadd hx hb d_law_156 ?_
    refine va_sld (i := (nI i) + 2) hx hb hX hbl hbA hS (vi_in 2 (by omega) hL5) d_law_157 ?_
    rw [hx2]
    refine lv_aload_n hx hb d_law_158 rfl (lv_at hl 5 rfl) ?_
    refine lv_iload hx hb d_law_159 (lv_at hl 1 rfl) ?_
    refine lv_iconst (v := 3) hx hb d_law_161 (by decide) ?_
    refine lv_iadd hx hb d_law_162 ?_
    refine va_sld (i := (nI i) + 3) hx hb hX hbl hbA hS (vi_in 3 (by omega) hL5) d_law_163 ?_
    rw [hx3]
    refine lv_aload_n hx hb d_law_164 rfl (lv_at hl 5 rfl) ?_
    refine lv_iload hx hb d_law_165 (lv_at hl 1 rfl) ?_
    refine lv_iconst (v := 4) hx hb d_law_167 (by decide) ?_
    refine lv_iadd hx hb d_law_168 ?_
    refine va_sld (i := (nI i) + 4) hx hb hX hbl hbA hS (vi_in 4 (by omega) hL5) d_law_169 ?_
    rw [hx4]
    refine lv_aload_n hx hb d_law_170 rfl (lv_at hl 5 rfl) ?_
    refine lv_iload hx hb d_law_171 (lv_at hl 1 rfl) ?_
    refine lv_iconst (v := 5) hx hb d_law_173 (by decide) ?_
    refine lv_iadd hx hb d_law_174 ?_
    refine va_sld (i := (nI i) + 5) hx hb hX hbl hbA hS (vi_in 5 (by omega) hL5) d_law_175 ?_
    rw [hx5]
    refine rc_calli (As := [.int x1, .int x2, .int x3, .int x4, .int x5]) (rest := []) (G := GR) (R9 := G1) ⟨hx, hb, hml, hown, hts⟩ tbin (ri_feed l dC dI sb γ gT mo fu fd wr nc nl xc xl wx vs er GR x1 x2 x3 x4 x5 H1.size hR) q8_75 q8_76 q8_77 q1_9 q8_78 (n := 5) (by decide +kernel) rfl ⟨Nat.le_of_ble_eq_true rfl, Nat.le_of_ble_eq_true rfl⟩ ⟨(by show cells + 1 + 0 ≤ 601024; omega), (by show slots + 6 + 0 ≤ 7293034; omega)⟩ hN hT hAs hB0 hK hA hP hD hS [0, 1, 2, 3, 4] rfl hmo rfl rfl hl.1 rfl (Nat.le_of_ble_eq_true rfl) d_law_176 (fun r2 G2 H2 locs hw2 hP hD hS => ?_)
    change W _ _ _ _ _ _ _ _ _ _ _ _ (cells + 1 + 0) (slots + 6 + 0) _ _
    obtain ⟨hP, hD⟩ := two_swap hP hD
    obtain ⟨-, hr2, hR2⟩ := hw2.resolve_right (fun q => absurd q.1 (by omega))
    refine lv_istore (lv' := [(6, .int r2), (5, .int r1), (4, .int (nI i)), (3, .ref ou), (2, .ref mo), (1, .ref q0), (0, .ref b)]) hx hb d_law_179 hl (by decide) rfl (fun ls hl => ?_)
    refine lv_goto (tgt := 933) hx hb d_law_181 (by decide) ?_
    exact kk G1 G2 _ _ ls _ _ ⟨(fw20 fu fd x1 x2 x3 x4 x5), (fd + 20), wr, nc, nl, _, _, _, _, _, _, _, _, _, _, hC1, hR2, hNm.next (by omega) (by omega), hRl⟩ hP hD hS (lv_sub hl [2, 3, 4, 5, 6] rfl)
  · skip
    refine lv_istore (lv' := [(5, .int r1), (4, .int (nI i)), (3, .ref ou), (2, .ref mo), (1, .ref q0), (0, .ref b)]) hx hb d_law_143 hl (by decide) rfl (fun ls hl => ?_)
    refine lv_aload_n hx hb d_law_145 rfl (lv_at hl 3 rfl) ?_
    refine lv_aload_n hx hb d_law_146 rfl (lv_at hl 5 rfl) ?_
    refine lv_iload hx hb d_law_147 (lv_at hl 1 rfl) ?_
    refine lv_iconst (v := 1) hx hb d_law_149 (by decide) ?_
    refine lv_iadd hx hb d_law_150 ?_
    refine va_sld (i := (nI i) + 1) hx hb hX hbl hbA hS (vi_in 1 (by omega) hL5) d_law_151 ?_
    rw [hx1]
    refine lv_aload_n hx hb d_law_152 rfl (lv_at hl 5 rfl) ?_
    refine lv_iload hx hb d_law_153 (lv_at hl 1 rfl) ?_
    refine lv_iconst (v := 2) hx hb d_law_155 (by decide) ?_
    refine lv_iadd hx hb d_law_156 ?_
    refine va_sld (i := (nI i) + 2) hx hb hX hbl hbA hS (vi_in 2 (by omega) hL5) d_law_157 ?_
    rw [hx2]
    refine lv_aload_n hx hb d_law_158 rfl (lv_at hl 5 rfl) ?_
    refine lv_iload hx hb d_law_159 (lv_at hl 1 rfl) ?_
    refine lv_iconst (v := 3) hx hb d_law_161 (by decide) ?_
    refine lv_iadd hx hb d_law_162 ?_
    refine va_sld (i := (nI i) + 3) hx hb hX hbl hbA hS (vi_in 3 (by omega) hL5) d_law_163 ?_
    rw [hx3]
    refine lv_aload_n hx hb d_law_164 rfl (lv_at hl 5 rfl) ?_
    refine lv_iload hx hb d_law_165 (lv_at hl 1 rfl) ?_
    refine lv_iconst (v := 4) hx hb d_law_167 (by decide) ?_
    refine lv_iadd hx hb d_law_168 ?_
    refine va_sld (i := (nI i) + 4) hx hb hX hbl hbA hS (vi_in 4 (by omega) hL5) d_law_169 ?_
    rw [hx4]
    refine lv_aload_n hx hb d_law_170 rfl (lv_at hl 5 rfl) ?_
    refine lv_iload hx hb d_law_171 (lv_at hl 1 rfl) ?_
    refine lv_iconst (v := 5) hx hb d_law_173 (by decide) ?_
    refine lv_iadd hx hb d_law_174 ?_
    refine va_sld (i := (nI i) + 5) hx hb hX hbl hbA hS (vi_in 5 (by omega) hL5) d_law_175 ?_
    rw [hx5]
    refine rc_calli (As := [.int x1, .int x2, .int x3, .int x4, .int x5]) (rest := []) (G := GR) (R9 := G1) ⟨hx, hb, hml, hown, hts⟩ tbin (ri_feed l dC dI sb γ gT mo fu fd wr nc nl xc xl wx vs er GR x1 x2 x3 x4 x5 H1.size hR) q8_75 q8_76 q8_77 q1_9 q8_78 (n := 5) (by decide +kernel) rfl ⟨Nat.le_of_ble_eq_true rfl, Nat.le_of_ble_eq_true rfl⟩ ⟨(by show cells + 1 + 0 ≤ 601024; omega), (by show slots + 6 + 0 ≤ 7293034; omega)⟩ hN hT hAs hB0 hK hA hP hD hS [0, 1, 2, 3, 4] rfl hmo rfl rfl hl.1 rfl (Nat.le_of_ble_eq_true rfl) d_law_176 (fun r2 G2 H2 locs hw2 hP hD hS => ?_)
    change W _ _ _ _ _ _ _ _ _ _ _ _ (cells + 1 + 0) (slots + 6 + 0) _ _
    obtain ⟨hP, hD⟩ := two_swap hP hD
    obtain ⟨-, hr2, hR2⟩ := hw2.resolve_left (fun q => absurd q.1 (by omega))
    refine lv_istore (lv' := [(6, .int r2), (5, .int r1), (4, .int (nI i)), (3, .ref ou), (2, .ref mo), (1, .ref q0), (0, .ref b)]) hx hb d_law_179 hl (by decide) rfl (fun ls hl => ?_)
    refine lv_goto (tgt := 933) hx hb d_law_181 (by decide) ?_
    exact kk G1 G2 _ _ ls _ _ ⟨fu, fd, wr, nc, nl, _, _, _, _, _, _, _, _, _, _, hC1, hR2, hNm.next (by omega) (by omega), hRl⟩ hP hD hS (lv_sub hl [2, 3, 4, 5, 6] rfl)
