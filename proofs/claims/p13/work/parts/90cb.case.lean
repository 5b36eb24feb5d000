/-! The law: what call 1 does. -/
set_option maxHeartbeats 4000000 in
set_option maxRecDepth 100000 in
theorem lw_case1 {p : Program} {e : Env} {s : State} {m : MethodId} {below : List Frame} {meth : Method} {c : Code} (l : Launch) (hl0 : l.stackTraces = false) {b L : Nat} {xs : Nat → Int32} {dC : Nat → ClassId} {dI : Nat → Nat → Nat} {γ : cG} {gT : ClassId} {sb : sB} {A : Nat → Prop} (X : lwX p s m c b L xs dC dI γ gT sb A) {Q : State → Prop} {H : Heap} {locs : List Loc} {ls : Array Slot} {cells slots q0 ou mo i : Nat} {GC GR : va_W} (hi : i + 10 ≤ L) (hJ : LJ γ sb gT q0 ou mo i cells slots GC GR) (hP : va_P (dC, dI) classes (GC ++ GR) H) (hD : va_D A (GC ++ GR)) (hS : va_S A s.heap H locs) (hl : lv_has ls 8 [(4, .int (nI i)), (3, .ref ou), (2, .ref mo), (1, .ref q0), (0, .ref b)]) (kk : ∀ (GC' GR' : va_W) (H' : Heap) (locs' : List Loc) (ls' : Array Slot) (cells' slots' : Nat), LJ γ sb gT q0 ou mo (i + 10) cells' slots' GC' GR' → va_P (dC, dI) classes (GC' ++ GR') H' → va_D A (GC' ++ GR') → va_S A s.heap H' locs' → lv_has ls' 8 [(4, .int (nI i)), (3, .ref ou), (2, .ref mo), (1, .ref q0), (0, .ref b)] → W p l e room_1 s m #[Value.ref b] below meth c H' locs' cells' slots' Q (F0 m 933 ls' [])) : W p l e room_1 s m #[Value.ref b] below meth c H locs cells slots Q (F0 m 184 ls []) := by
  obtain ⟨hx, hb, hml, hown, hts, hK, hN, hT, hTh, hB0, hA, hAs, hX, hbl, hbA, hL5⟩ := X
  have tbin : ∀ w ∈ tb, w ∈ tb := fun w h => h
  have htb : ∀ w ∈ tb, w.before #[Value.ref b] s = true := hts
  obtain ⟨fu, fd, wr, nc, nl, vc, vl, cc, cl, vs, ov, xc, xl, wx, er, hC, hR, hNm, hRl⟩ := hJ
  obtain ⟨hb1, hb2, hb3, hu8, hw8, fs8, hmo⟩ := hR.nb
  obtain ⟨hrc, hrs⟩ := hNm.room hi hL5
  obtain ⟨x1, hx1⟩ : ∃ x9, xs ((nI i + 1 : Int32).toNatClampNeg) = x9 := ⟨_, rfl⟩
  obtain ⟨x2, hx2⟩ : ∃ x9, xs ((nI i + 2 : Int32).toNatClampNeg) = x9 := ⟨_, rfl⟩
  obtain ⟨x3, hx3⟩ : ∃ x9, xs ((nI i + 3 : Int32).toNatClampNeg) = x9 := ⟨_, rfl⟩
  obtain ⟨x4, hx4⟩ : ∃ x9, xs ((nI i + 4 : Int32).toNatClampNeg) = x9 := ⟨_, rfl⟩
  obtain ⟨x5, hx5⟩ : ∃ x9, xs ((nI i + 5 : Int32).toNatClampNeg) = x9 := ⟨_, rfl⟩
  obtain ⟨x6, hx6⟩ : ∃ x9, xs ((nI i + 6 : Int32).toNatClampNeg) = x9 := ⟨_, rfl⟩
  obtain ⟨x7, hx7⟩ : ∃ x9, xs ((nI i + 7 : Int32).toNatClampNeg) = x9 := ⟨_, rfl⟩
  obtain ⟨x8, hx8⟩ : ∃ x9, xs ((nI i + 8 : Int32).toNatClampNeg) = x9 := ⟨_, rfl⟩
  obtain ⟨x9, hx9⟩ : ∃ x9, xs ((nI i + 9 : Int32).toNatClampNeg) = x9 := ⟨_, rfl⟩
  refine lv_aload_n hx hb d_law_184 rfl (lv_at hl 3 rfl) ?_
  refine lv_aload_n hx hb d_law_185 rfl (lv_at hl 4 rfl) ?_
  refine lv_iload hx hb d_law_186 (lv_at hl 0 rfl) ?_
  refine lv_iconst (v := 1) hx hb d_law_188 (by decide) ?_
  refine lv_iadd hx hb d_law_189 ?_
  refine va_sld (i := (nI i) + 1) hx hb hX hbl hbA hS (vi_in 1 (by omega) hL5) d_law_190 ?_
  rw [hx1]
  refine w_join (J := fun v => v = zN x2) (pc := 205) (ls := ls) (rest := [.int x1, .ref q0]) (fun v hv => ?_) (fun k205 => ?_)
  · skip
    subst hv
    refine lv_aload_n hx hb d_law_205 rfl (lv_at hl 1 rfl) ?_
    by_cases hok : (¬ x1 < 0 ∧ x1 ≤ 2048 ∧ x1 ≤ nI fd) ∧ nc < 16
    · have hv1 : ∀ j, cpN fu wx x1.toNatClampNeg j < 256 := fun j => by
        unfold cpN
        split
        · exact hu8 j
        · exact hw8 j
      refine lc_call (As := [.ref q0, .int x1, .int (zN x2), .ref ou]) (rest := []) (G := GC) (R9 := GR) ⟨hx, hb, hml, hown, hts⟩ tbin (ci_certificate l hl0 dC dI sb γ q0 ou fu fd wr nc nl vc vl cc cl vs ov GC x1 (zN x2) (cpN fu wx x1.toNatClampNeg) H.size hC (zN_b _) hv1 (fun j hj => if_pos hj)) q2_41 q2_42 q1_0 q2_43 (n := 4) (by decide +kernel) rfl ⟨Nat.le_of_ble_eq_true rfl, Nat.le_of_ble_eq_true rfl⟩ ⟨(by show cells + (8 * fd + 100) ≤ 601024; omega), (by show slots + (405 * fd + 2700) ≤ 7293034; omega)⟩ hTh hN hT hAs hB0 hK hA hP hD hS [0, 1, 2, 3] rfl hl.1 rfl (Nat.le_of_ble_eq_true rfl) d_law_206 (fun r1 G1 H1 locs hw1 hP hD hS => ?_)
      change W _ _ _ _ _ _ _ _ _ _ _ _ (cells + (8 * fd + 100)) (slots + (405 * fd + 2700)) _ _
      obtain ⟨hP, hD⟩ := two_swap hP hD
      rcases hw1 with ⟨hr1, hok1, hno, hC1⟩ | ⟨hr1, hbad, hC1⟩ | ⟨hr1, hok1, w1, hno, hC1⟩
      · skip
        refine lv_istore (lv' := [(5, .int r1), (4, .int (nI i)), (3, .ref ou), (2, .ref mo), (1, .ref q0), (0, .ref b)]) hx hb d_law_209 hl (by decide) rfl (fun ls hl => ?_)
        refine lv_aload_n hx hb d_law_211 rfl (lv_at hl 3 rfl) ?_
        refine lv_aload_n hx hb d_law_212 rfl (lv_at hl 5 rfl) ?_
        refine lv_iload hx hb d_law_213 (lv_at hl 1 rfl) ?_
        refine lv_iconst (v := 1) hx hb d_law_215 (by decide) ?_
        refine lv_iadd hx hb d_law_216 ?_
        refine va_sld (i := (nI i) + 1) hx hb hX hbl hbA hS (vi_in 1 (by omega) hL5) d_law_217 ?_
        rw [hx1]
        refine w_join (J := fun v => v = zN x2) (pc := 232) (ls := ls) (rest := [.int x1, .ref mo]) (fun v hv => ?_) (fun k232 => ?_)
        · skip
          subst hv
          rcases zN_b x2 with e2 | e2
          · rw [e2]
            refine rc_calli (As := [.int x1, .int 0]) (rest := []) (G := GR) (R9 := G1) ⟨hx, hb, hml, hown, hts⟩ tbin (ri_certificate_t0 l dC dI sb γ gT mo fu fd wr nc nl xc xl wx vs er GR x1 H1.size hR hok hno) q8_83 q8_84 q8_85 q1_9 q8_86 (n := 2) (by decide +kernel) rfl ⟨Nat.le_of_ble_eq_true rfl, Nat.le_of_ble_eq_true rfl⟩ ⟨(by show cells + (8 * fd + 100) + 13 ≤ 601024; omega), (by show slots + (405 * fd + 2700) + 8202 ≤ 7293034; omega)⟩ hN hT hAs hB0 hK hA hP hD hS [0, 1, 2, 3, 4] rfl hmo rfl rfl hl.1 rfl (Nat.le_of_ble_eq_true rfl) d_law_232 (fun r2 G2 H2 locs hw2 hP hD hS => ?_)
            change W _ _ _ _ _ _ _ _ _ _ _ _ (cells + (8 * fd + 100) + 13) (slots + (405 * fd + 2700) + 8202) _ _
            obtain ⟨hP, hD⟩ := two_swap hP hD
            obtain ⟨hr2, xm, hX2, hR2⟩ := hw2
            refine lv_istore (lv' := [(6, .int r2), (5, .int r1), (4, .int (nI i)), (3, .ref ou), (2, .ref mo), (1, .ref q0), (0, .ref b)]) hx hb d_law_235 hl (by decide) rfl (fun ls hl => ?_)
            refine lv_goto (tgt := 933) hx hb d_law_237 (by decide) ?_
            exact kk G1 G2 _ _ ls _ _ ⟨fu, 0, (-1), (nc + 1), nl, _, _, _, _, _, _, _, _, _, _, hC1, hR2, hNm.next (by omega) (by omega), hRl.addC (cX_sg hv1 (nC_le hok) hX2 rfl nc) (by rw [cX_I hX2]; exact e2) (cX_cq hv1 (nC_le hok) hX2 rfl)⟩ hP hD hS (lv_sub hl [2, 3, 4, 5, 6] rfl)
          · rw [e2]
            refine rc_calli (As := [.int x1, .int 1]) (rest := []) (G := GR) (R9 := G1) ⟨hx, hb, hml, hown, hts⟩ tbin (ri_certificate_t1 l dC dI sb γ gT mo fu fd wr nc nl xc xl wx vs er GR x1 H1.size hR hok hno) q8_83 q8_84 q8_85 q1_9 q8_86 (n := 2) (by decide +kernel) rfl ⟨Nat.le_of_ble_eq_true rfl, Nat.le_of_ble_eq_true rfl⟩ ⟨(by show cells + (8 * fd + 100) + 13 ≤ 601024; omega), (by show slots + (405 * fd + 2700) + 8202 ≤ 7293034; omega)⟩ hN hT hAs hB0 hK hA hP hD hS [0, 1, 2, 3, 4] rfl hmo rfl rfl hl.1 rfl (Nat.le_of_ble_eq_true rfl) d_law_232 (fun r2 G2 H2 locs hw2 hP hD hS => ?_)
            change W _ _ _ _ _ _ _ _ _ _ _ _ (cells + (8 * fd + 100) + 13) (slots + (405 * fd + 2700) + 8202) _ _
            obtain ⟨hP, hD⟩ := two_swap hP hD
            obtain ⟨hr2, xm, hX2, hR2⟩ := hw2
            refine lv_istore (lv' := [(6, .int r2), (5, .int r1), (4, .int (nI i)), (3, .ref ou), (2, .ref mo), (1, .ref q0), (0, .ref b)]) hx hb d_law_235 hl (by decide) rfl (fun ls hl => ?_)
            refine lv_goto (tgt := 933) hx hb d_law_237 (by decide) ?_
            exact kk G1 G2 _ _ ls _ _ ⟨fu, 0, (-1), (nc + 1), nl, _, _, _, _, _, _, _, _, _, _, hC1, hR2, hNm.next (by omega) (by omega), hRl.addC (cX_sg hv1 (nC_le hok) hX2 rfl nc) (by rw [cX_I hX2]; exact e2) (cX_cq hv1 (nC_le hok) hX2 rfl)⟩ hP hD hS (lv_sub hl [2, 3, 4, 5, 6] rfl)
        · skip
          refine lv_aload_n hx hb d_law_218 rfl (lv_at hl 5 rfl) ?_
          refine lv_iload hx hb d_law_219 (lv_at hl 1 rfl) ?_
          refine lv_iconst (v := 2) hx hb d_law_221 (by decide) ?_
          refine lv_iadd hx hb d_law_222 ?_
          refine va_sld (i := (nI i) + 2) hx hb hX hbl hbA hS (vi_in 2 (by omega) hL5) d_law_223 ?_
          rw [hx2]
          refine lv_if_eq (tgt := 231) hx hb d_law_224 (by decide) (fun c224 => ?_) (fun c224 => ?_)
          · refine lv_iconst (v := 0) hx hb d_law_231 (by decide) ?_
            exact k232 _ (by first | exact (if_pos c224).symm | exact (if_neg c224).symm | exact (if_pos (Classical.not_not.mp c224)).symm)
          · refine lv_iconst (v := 1) hx hb d_law_227 (by decide) ?_
            refine lv_goto (tgt := 232) hx hb d_law_228 (by decide) ?_
            exact k232 _ (by first | exact (if_pos c224).symm | exact (if_neg c224).symm | exact (if_pos (Classical.not_not.mp c224)).symm)
      · skip
        exact absurd hok hbad
      · skip
        refine lv_istore (lv' := [(5, .int r1), (4, .int (nI i)), (3, .ref ou), (2, .ref mo), (1, .ref q0), (0, .ref b)]) hx hb d_law_209 hl (by decide) rfl (fun ls hl => ?_)
        refine lv_aload_n hx hb d_law_211 rfl (lv_at hl 3 rfl) ?_
        refine lv_aload_n hx hb d_law_212 rfl (lv_at hl 5 rfl) ?_
        refine lv_iload hx hb d_law_213 (lv_at hl 1 rfl) ?_
        refine lv_iconst (v := 1) hx hb d_law_215 (by decide) ?_
        refine lv_iadd hx hb d_law_216 ?_
        refine va_sld (i := (nI i) + 1) hx hb hX hbl hbA hS (vi_in 1 (by omega) hL5) d_law_217 ?_
        rw [hx1]
        refine w_join (J := fun v => v = zN x2) (pc := 232) (ls := ls) (rest := [.int x1, .ref mo]) (fun v hv => ?_) (fun k232 => ?_)
        · skip
          subst hv
          refine rc_calli (As := [.int x1, .int (zN x2)]) (rest := []) (G := GR) (R9 := G1) ⟨hx, hb, hml, hown, hts⟩ tbin (ri_certificate_f l dC dI sb γ gT mo fu fd wr nc nl xc xl wx vs er GR x1 (zN x2) w1 H1.size hR hok hno) q8_83 q8_84 q8_85 q1_9 q8_86 (n := 2) (by decide +kernel) rfl ⟨Nat.le_of_ble_eq_true rfl, Nat.le_of_ble_eq_true rfl⟩ ⟨(by show cells + (8 * fd + 100) + 0 ≤ 601024; omega), (by show slots + (405 * fd + 2700) + 0 ≤ 7293034; omega)⟩ hN hT hAs hB0 hK hA hP hD hS [0, 1, 2, 3, 4] rfl hmo rfl rfl hl.1 rfl (Nat.le_of_ble_eq_true rfl) d_law_232 (fun r2 G2 H2 locs hw2 hP hD hS => ?_)
          change W _ _ _ _ _ _ _ _ _ _ _ _ (cells + (8 * fd + 100) + 0) (slots + (405 * fd + 2700) + 0) _ _
          obtain ⟨hP, hD⟩ := two_swap hP hD
          obtain ⟨hr2, hR2⟩ := hw2
          refine lv_istore (lv' := [(6, .int r2), (5, .int r1), (4, .int (nI i)), (3, .ref ou), (2, .ref mo), (1, .ref q0), (0, .ref b)]) hx hb d_law_235 hl (by decide) rfl (fun ls hl => ?_)
          refine lv_goto (tgt := 933) hx hb d_law_237 (by decide) ?_
          exact kk G1 G2 _ _ ls _ _ ⟨fu, 0, (nI w1), nc, nl, _, _, _, _, _, _, _, _, _, _, hC1, hR2, hNm.next (by omega) (by omega), hRl⟩ hP hD hS (lv_sub hl [2, 3, 4, 5, 6] rfl)
        · skip
          refine lv_aload_n hx hb d_law_218 rfl (lv_at hl 5 rfl) ?_
          refine lv_iload hx hb d_law_219 (lv_at hl 1 rfl) ?_
          refine lv_iconst (v := 2) hx hb d_law_221 (by decide) ?_
          refine lv_iadd hx hb d_law_222 ?_
          refine va_sld (i := (nI i) + 2) hx hb hX hbl hbA hS (vi_in 2 (by omega) hL5) d_law_223 ?_
          rw [hx2]
          refine lv_if_eq (tgt := 231) hx hb d_law_224 (by decide) (fun c224 => ?_) (fun c224 => ?_)
          · refine lv_iconst (v := 0) hx hb d_law_231 (by decide) ?_
            exact k232 _ (by first | exact (if_pos c224).symm | exact (if_neg c224).symm | exact (if_pos (Classical.not_not.mp c224)).symm)
          · refine lv_iconst (v := 1) hx hb d_law_227 (by decide) ?_
            refine lv_goto (tgt := 232) hx hb d_law_228 (by decide) ?_
            exact k232 _ (by first | exact (if_pos c224).symm | exact (if_neg c224).symm | exact (if_pos (Classical.not_not.mp c224)).symm)
    · skip
      refine lc_call (As := [.ref q0, .int x1, .int (zN x2), .ref ou]) (rest := []) (G := GC) (R9 := GR) ⟨hx, hb, hml, hown, hts⟩ tbin (ci_certificate_b l hl0 dC dI sb γ q0 ou fu fd wr nc nl vc vl cc cl vs ov GC x1 (zN x2) H.size hC hok) q2_41 q2_42 q1_0 q2_43 (n := 4) (by decide +kernel) rfl ⟨Nat.le_of_ble_eq_true rfl, Nat.le_of_ble_eq_true rfl⟩ ⟨(by show cells + 1 ≤ 601024; omega), (by show slots + 6 ≤ 7293034; omega)⟩ hTh hN hT hAs hB0 hK hA hP hD hS [0, 1, 2, 3] rfl hl.1 rfl (Nat.le_of_ble_eq_true rfl) d_law_206 (fun r1 G1 H1 locs hw1 hP hD hS => ?_)
      change W _ _ _ _ _ _ _ _ _ _ _ _ (cells + 1) (slots + 6) _ _
      obtain ⟨hP, hD⟩ := two_swap hP hD
      obtain ⟨hr1, hC1⟩ := hw1
      refine lv_istore (lv' := [(5, .int r1), (4, .int (nI i)), (3, .ref ou), (2, .ref mo), (1, .ref q0), (0, .ref b)]) hx hb d_law_209 hl (by decide) rfl (fun ls hl => ?_)
      refine lv_aload_n hx hb d_law_211 rfl (lv_at hl 3 rfl) ?_
      refine lv_aload_n hx hb d_law_212 rfl (lv_at hl 5 rfl) ?_
      refine lv_iload hx hb d_law_213 (lv_at hl 1 rfl) ?_
      refine lv_iconst (v := 1) hx hb d_law_215 (by decide) ?_
      refine lv_iadd hx hb d_law_216 ?_
      refine va_sld (i := (nI i) + 1) hx hb hX hbl hbA hS (vi_in 1 (by omega) hL5) d_law_217 ?_
      rw [hx1]
      refine w_join (J := fun v => v = zN x2) (pc := 232) (ls := ls) (rest := [.int x1, .ref mo]) (fun v hv => ?_) (fun k232 => ?_)
      · skip
        subst hv
        refine rc_calli (As := [.int x1, .int (zN x2)]) (rest := []) (G := GR) (R9 := G1) ⟨hx, hb, hml, hown, hts⟩ tbin (ri_certificate_b l dC dI sb γ gT mo fu fd wr nc nl xc xl wx vs er GR x1 (zN x2) H1.size hR hok) q8_83 q8_84 q8_85 q1_9 q8_86 (n := 2) (by decide +kernel) rfl ⟨Nat.le_of_ble_eq_true rfl, Nat.le_of_ble_eq_true rfl⟩ ⟨(by show cells + 1 + 0 ≤ 601024; omega), (by show slots + 6 + 0 ≤ 7293034; omega)⟩ hN hT hAs hB0 hK hA hP hD hS [0, 1, 2, 3, 4] rfl hmo rfl rfl hl.1 rfl (Nat.le_of_ble_eq_true rfl) d_law_232 (fun r2 G2 H2 locs hw2 hP hD hS => ?_)
        change W _ _ _ _ _ _ _ _ _ _ _ _ (cells + 1 + 0) (slots + 6 + 0) _ _
        obtain ⟨hP, hD⟩ := two_swap hP hD
        obtain ⟨hr2, hR2⟩ := hw2
        refine lv_istore (lv' := [(6, .int r2), (5, .int r1), (4, .int (nI i)), (3, .ref ou), (2, .ref mo), (1, .ref q0), (0, .ref b)]) hx hb d_law_235 hl (by decide) rfl (fun ls hl => ?_)
        refine lv_goto (tgt := 933) hx hb d_law_237 (by decide) ?_
        exact kk G1 G2 _ _ ls _ _ ⟨fu, fd, wr, nc, nl, _, _, _, _, _, _, _, _, _, _, hC1, hR2, hNm.next (by omega) (by omega), hRl⟩ hP hD hS (lv_sub hl [2, 3, 4, 5, 6] rfl)
      · skip
        refine lv_aload_n hx hb d_law_218 rfl (lv_at hl 5 rfl) ?_
        refine lv_iload hx hb d_law_219 (lv_at hl 1 rfl) ?_
        refine lv_iconst (v := 2) hx hb d_law_221 (by decide) ?_
        refine lv_iadd hx hb d_law_222 ?_
        refine va_sld (i := (nI i) + 2) hx hb hX hbl hbA hS (vi_in 2 (by omega) hL5) d_law_223 ?_
        rw [hx2]
        refine lv_if_eq (tgt := 231) hx hb d_law_224 (by decide) (fun c224 => ?_) (fun c224 => ?_)
        · refine lv_iconst (v := 0) hx hb d_law_231 (by decide) ?_
          exact k232 _ (by first | exact (if_pos c224).symm | exact (if_neg c224).symm | exact (if_pos (Classical.not_not.mp c224)).symm)
        · refine lv_iconst (v := 1) hx hb d_law_227 (by decide) ?_
          refine lv_goto (tgt := 232) hx hb d_law_228 (by decide) ?_
          exact k232 _ (by first | exact (if_pos c224).symm | exact (if_neg c224).symm | exact (if_pos (Classical.not_not.mp c224)).symm)
  · skip
    refine lv_aload_n hx hb d_law_191 rfl (lv_at hl 4 rfl) ?_
    refine lv_iload hx hb d_law_192 (lv_at hl 0 rfl) ?_
    refine lv_iconst (v := 2) hx hb d_law_194 (by decide) ?_
    refine lv_iadd hx hb d_law_195 ?_
    refine va_sld (i := (nI i) + 2) hx hb hX hbl hbA hS (vi_in 2 (by omega) hL5) d_law_196 ?_
    rw [hx2]
    refine lv_if_eq (tgt := 204) hx hb d_law_197 (by decide) (fun c197 => ?_) (fun c197 => ?_)
    · refine lv_iconst (v := 0) hx hb d_law_204 (by decide) ?_
      exact k205 _ (by first | exact (if_pos c197).symm | exact (if_neg c197).symm | exact (if_pos (Classical.not_not.mp c197)).symm)
    · refine lv_iconst (v := 1) hx hb d_law_200 (by decide) ?_
      refine lv_goto (tgt := 205) hx hb d_law_201 (by decide) ?_
      exact k205 _ (by first | exact (if_pos c197).symm | exact (if_neg c197).symm | exact (if_pos (Classical.not_not.mp c197)).symm)
