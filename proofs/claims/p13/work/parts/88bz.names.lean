/-! Both readers agree on names, keys and trees (draft). -/
/-- elements as the class keeps them: their contents -/
def hdM (u : Nat → Nat) (E : List (Nat × Nat)) : List (Nat × Nat) := E.map (fun d => (hdr u d.1, d.2))
/-- the trees of a kind -/
def trD (k : Nat) (T : List (Nat × Nat × Nat)) : List (Nat × Nat) := (T.filter (fun d => d.2.2 == k)).map (fun d => (d.1, d.2.1))
def trR (u : Nat → Nat) (k : Nat) (T : List (Nat × Nat × Nat)) : List (Nat × Nat) := (T.filter (fun d => d.2.2 == k)).map (fun d => (hdr u d.1, d.2.1))
/-- a key's identifier: told or not -/
def kyR (o : Nat × Nat) (a b : Int32) : Prop := (a < 0 ∧ o.1 = o.2) ∨ ∃ x y, x < y ∧ y ≤ 2048 ∧ o = (x, y) ∧ a = nI x ∧ b = nI y
def XR (u : Nat → Nat) (ok ik : Nat × Nat) (D2 D3 D4 D5 D6 : List (Nat × Nat)) (k1 k2 k3 k4 : Int32) (dirs : List (Nat × Nat)) (T : List (Nat × Nat × Nat)) : Prop := kyR ok k1 k2 ∧ kyR ik k3 k4 ∧ D2 = hdM u dirs ∧ D3 = trD 0 T ∧ D4 = trR u 1 T ∧ D5 = trD 2 T ∧ D6 = trR u 3 T ∧ ∀ d, d ∈ T → d.2.2 ≤ 3
theorem hdM_ap (u : Nat → Nat) (A B : List (Nat × Nat)) : hdM u (A ++ B) = hdM u A ++ hdM u B := List.map_append
theorem trD_ap (k : Nat) (A B : List (Nat × Nat × Nat)) : trD k (A ++ B) = trD k A ++ trD k B := by
  unfold trD
  rw [List.filter_append, List.map_append]
theorem trR_ap (u : Nat → Nat) (k : Nat) (A B : List (Nat × Nat × Nat)) : trR u k (A ++ B) = trR u k A ++ trR u k B := by
  unfold trR
  rw [List.filter_append, List.map_append]
theorem fil_no {k : Nat} {E : List (Nat × Nat × Nat)} (h : ∀ d, d ∈ E → d.2.2 ≠ k) : E.filter (fun d => d.2.2 == k) = [] := by
  rw [List.filter_eq_nil_iff]
  intro d hd q
  exact h d hd (by simpa using q)
theorem trD_no {k : Nat} {E : List (Nat × Nat × Nat)} (h : ∀ d, d ∈ E → d.2.2 ≠ k) : trD k E = [] := by
  unfold trD
  rw [fil_no h]
  rfl
theorem trR_no {u : Nat → Nat} {k : Nat} {E : List (Nat × Nat × Nat)} (h : ∀ d, d ∈ E → d.2.2 ≠ k) : trR u k E = [] := by
  unfold trR
  rw [fil_no h]
  rfl
/-- what a list of trees is after some more of a tag -/
noncomputable def k0T (tg : Nat) : Nat := @ite _ (tg = 160) (Classical.propDecidable _) 0 2
theorem k0_160 : k0T 160 = 0 := if_pos rfl
theorem k0_161 : k0T 161 = 2 := if_neg (by decide)
/-- a name's content begins where its header ends -/
theorem nam_hd {u : Nat → Nat} {n p s en e s' k a e' : Nat} (he : en ≤ n) (h : rd_nam u n (p, s, none) en = ((e, s', none), k, a, e')) : a = hdr u p := by
  have hq := el_q (u := u) (n := n) (p := p) (s := s) (tg := 48) (en := en) he
  obtain ⟨R, hR⟩ : ∃ R, tx_element u p 48 en = R := ⟨_, rfl⟩
  rw [hR] at hq
  have h1 : (rd_row u n (rd_opn u n (p, s, none) 48 en).2 2048 (rd_opn u n (p, s, none) 48 en).1).1 = (e, s', none) := congrArg (fun z => z.1) h
  have h2 : (rd_opn u n (p, s, none) 48 en).1.1 = a := congrArg (fun z => z.2.2.1) h
  cases R with
  | inl w =>
    have hq : (rd_opn u n (p, s, none) 48 en).1.2.2 = some w := hq
    have h3 := row_stk u n (rd_opn u n (p, s, none) 48 en).2 2048 (rd_opn u n (p, s, none) 48 en).1 w hq
    rw [h1] at h3
    cases h3
  | inr z =>
    have h4 := (el_ok z hR).1
    obtain ⟨-, q1, -⟩ := hq
    rw [q1] at h2
    exact h2.symm.trans h4
/-- an element's header, as DER has it -/
def hdK (u : Nat → Nat) (a e : Nat) : Prop := u a = 48 ∧ ((u (a + 1) ≤ 127 ∧ e = a + 2 + u (a + 1)) ∨ (u (a + 1) = 129 ∧ 128 ≤ u (a + 2) ∧ e = a + 3 + u (a + 2)) ∨ (u (a + 1) = 130 ∧ ¬ u (a + 2) = 0 ∧ e = a + 4 + (u (a + 2) * 256 + u (a + 3))))
theorem el_hk {u : Nat → Nat} {p en : Nat} {z : Nat × Nat} (h : tx_element u p 48 en = .inr z) : hdK u p z.2 := by
  unfold tx_element at h
  by_cases h1 : p < en
  · rw [if_pos h1] at h
    by_cases h2 : ¬ (u p = 48) ∨ ¬ (p + 1 < en)
    · rw [if_pos h2] at h
      cases h
    · rw [if_neg h2] at h
      have e1 : u p = 48 := Classical.not_not.mp (fun q => h2 (Or.inl q))
      by_cases h3 : u (p + 1) = 129
      · rw [if_pos h3] at h
        by_cases h4 : en ≤ p + 2 ∨ ¬ (128 ≤ u (p + 2))
        · rw [if_pos h4] at h
          cases h
        · rw [if_neg h4] at h
          have e4 : 128 ≤ u (p + 2) := Classical.not_not.mp (fun q => h4 (Or.inr q))
          by_cases h5 : (p + 2 + 1) + u (p + 2) ≤ en
          · rw [if_pos h5] at h
            have e5 := Sum.inr.inj h
            rw [← e5]
            exact ⟨e1, Or.inr (Or.inl ⟨h3, e4, rfl⟩)⟩
          · rw [if_neg h5] at h
            cases h
      · rw [if_neg h3] at h
        by_cases h4 : u (p + 1) = 130
        · rw [if_pos h4] at h
          by_cases h5 : en ≤ (p + 2) + 1 ∨ u (p + 2) = 0
          · rw [if_pos h5] at h
            cases h
          · rw [if_neg h5] at h
            by_cases h6 : (p + 2 + 2) + (u (p + 2) * 256 + u ((p + 2) + 1)) ≤ en
            · rw [if_pos h6] at h
              have e6 := Sum.inr.inj h
              rw [← e6]
              exact ⟨e1, Or.inr (Or.inr ⟨h4, fun q => h5 (Or.inr q), rfl⟩)⟩
            · rw [if_neg h6] at h
              cases h
        · rw [if_neg h4] at h
          by_cases h5 : u (p + 1) ≤ 127
          · rw [if_pos h5] at h
            by_cases h6 : (p + 2) + u (p + 1) ≤ en
            · rw [if_pos h6] at h
              have e6 := Sum.inr.inj h
              rw [← e6]
              exact ⟨e1, Or.inl ⟨h5, rfl⟩⟩
            · rw [if_neg h6] at h
              cases h
          · rw [if_neg h5] at h
            cases h
  · rw [if_neg h1] at h
    cases h
theorem hdK_s {u : Nat → Nat} (hu : ∀ j, u j < 256) {a e : Nat} (h : hdK u a e) : ∃ k L, hdr u a = a + k ∧ e = a + k + L ∧ u a = 48 ∧ ((k = 2 ∧ u (a + 1) = L ∧ L ≤ 127) ∨ (k = 3 ∧ u (a + 1) = 129 ∧ u (a + 2) = L ∧ 128 ≤ L ∧ L < 256) ∨ (k = 4 ∧ u (a + 1) = 130 ∧ u (a + 2) * 256 + u (a + 3) = L ∧ u (a + 3) < 256 ∧ ¬ u (a + 2) = 0)) := by
  obtain ⟨h0, ⟨h1, h2⟩ | ⟨h1, h2, h3⟩ | ⟨h1, h2, h3⟩⟩ := h
  · exact ⟨2, u (a + 1), by unfold hdr; rw [if_neg (by omega), if_neg (by omega)], h2, h0, Or.inl ⟨rfl, rfl, h1⟩⟩
  · exact ⟨3, u (a + 2), by unfold hdr; rw [if_neg (by omega), if_pos h1], h3, h0, Or.inr (Or.inl ⟨rfl, h1, rfl, h2, hu _⟩)⟩
  · exact ⟨4, u (a + 2) * 256 + u (a + 3), by unfold hdr; rw [if_pos h1], h3, h0, Or.inr (Or.inr ⟨rfl, h1, rfl, hu _, h2⟩)⟩
/-- whole elements are the same where their contents are -/
theorem hdK_eq {u t : Nat → Nat} (hu : ∀ j, u j < 256) (ht : ∀ j, t j < 256) {a e b f : Nat} (h1 : hdK u a e) (h2 : hdK t b f) : rgM u a (e - a) = rgM t b (f - b) ↔ rgM u (hdr u a) (e - hdr u a) = rgM t (hdr t b) (f - hdr t b) := by
  obtain ⟨k, L, r1, r2, r3, r4⟩ := hdK_s hu h1
  obtain ⟨m, M, q1, q2, q3, q4⟩ := hdK_s ht h2
  rw [rgM_eq, rgM_eq, r1, q1, r2, q2, show a + k + L - a = k + L by omega, show b + m + M - b = m + M by omega, show a + k + L - (a + k) = L by omega, show b + m + M - (b + m) = M by omega]
  constructor
  · rintro ⟨g1, g2⟩
    have e1 : u (a + 1) = t (b + 1) := g2 1 (by omega)
    have hk : k = m := by omega
    refine ⟨by omega, fun j hj => ?_⟩
    have g3 := g2 (k + j) (by omega)
    rw [← Nat.add_assoc, ← Nat.add_assoc] at g3
    rw [← hk]
    exact g3
  · rintro ⟨g1, g2⟩
    have hk : k = m := by omega
    have e1 : u (a + 1) = t (b + 1) := by omega
    refine ⟨by omega, fun j hj => ?_⟩
    by_cases hj2 : j < k
    · rcases (show j = 0 ∨ j = 1 ∨ j = 2 ∨ j = 3 by omega) with rfl | rfl | rfl | rfl
      · rw [Nat.add_zero, Nat.add_zero, r3, q3]
      · exact e1
      · have e2 : u (a + 2) = t (b + 2) := by omega
        exact e2
      · have e3 : u (a + 3) = t (b + 3) := by omega
        exact e3
    · have g3 := g2 (j - k) (by omega)
      rw [show a + k + (j - k) = a + j by omega, show b + m + (j - k) = b + j by omega] at g3
      exact g3
theorem nam_hk {u : Nat → Nat} {n p s en e s' k a e' : Nat} (he : en ≤ n) (h : rd_nam u n (p, s, none) en = ((e, s', none), k, a, e')) : hdK u p e' := by
  have hq := el_q (u := u) (n := n) (p := p) (s := s) (tg := 48) (en := en) he
  obtain ⟨R, hR⟩ : ∃ R, tx_element u p 48 en = R := ⟨_, rfl⟩
  rw [hR] at hq
  have h1 : (rd_row u n (rd_opn u n (p, s, none) 48 en).2 2048 (rd_opn u n (p, s, none) 48 en).1).1 = (e, s', none) := congrArg (fun z => z.1) h
  have h2 : (rd_opn u n (p, s, none) 48 en).2 = e' := congrArg (fun z => z.2.2.2) h
  cases R with
  | inl w =>
    have hq : (rd_opn u n (p, s, none) 48 en).1.2.2 = some w := hq
    have h3 := row_stk u n (rd_opn u n (p, s, none) 48 en).2 2048 (rd_opn u n (p, s, none) 48 en).1 w hq
    rw [h1] at h3
    cases h3
  | inr z =>
    have h4 := el_hk hR
    obtain ⟨-, q1, -⟩ := hq
    rw [q1] at h2
    rw [← h2]
    exact h4
theorem nmb_q2 {u : Nat → Nat} (hu : ∀ j, u j < 256) {n p s e : Nat} {D R R' : List (Nat × Nat)} (he : e ≤ n) (hn : n ≤ 2048) (hp : p < e) : agr (rb_nms u n e ((p, s, none), D, R)).1 (nmB u e (p, D, R')) (fun z => (∃ s' R1 E, rb_nms u n e ((p, s, none), D, R) = ((z.1, s', none), z.2.1, R1) ∧ z.2.2 = R' ++ E ∧ R1 = R ++ hdM u E) ∧ p < z.1 ∧ z.1 ≤ e) := by
  unfold nmB
  dsimp only
  by_cases h164 : u p = 164
  · have e0 : rb_nms u n e ((p, s, none), D, R) = (let z45 := rd_opn u n (p, s, none) 164 e; (let z63 := rd_nam u n z45.1 z45.2; (let z73 := rd_fin z63.1 z45.2; (z73, D, (R ++ [(z63.2.2.1, z63.2.2.2)]))))) := if_pos ⟨rfl, hp, h164⟩
    rw [e0, h164]
    refine agr.neg (by decide) ?_
    refine agr.step (el_q (s := s) he) (fun w9 h9 => ((nam_stk u n _ _).tr (fin_stk _ _)) w9 h9) (fun z hz hn1 hq => ?_)
    obtain ⟨q1, q2, q3, q4, q5⟩ := hq
    rw [q1]
    dsimp only
    refine agr.pos rfl ?_
    refine agr.step (nam_q hu (n := n) (p := z.1) (s := p) (en := z.2) (by omega) hn) (fin_stk _ _) (fun v hv hn2 hq2 => ?_)
    obtain ⟨s', a, g1, g2, g3, g4, g5, g6, g7⟩ := hq2
    rw [g1]
    dsimp only
    rw [g2]
    refine agr.step (fin_q (u := u) (p := v.2.2) (s := s') (en := z.2)) (stk.rf _) (fun _ _ _ hq5 => ?_)
    rw [hq5.1, show v.2.2 = z.2 by omega]
    exact ⟨rfl, ⟨s', _, [(z.1, z.2)], rfl, rfl, by rw [nam_hd (by omega) g1]; rfl⟩, by show p < z.2; omega, q4⟩
  · by_cases h135 : u p = 135
    · have e0 : rb_nms u n e ((p, s, none), D, R) = (rd_req (rd_plain u n (p, s, none) 135 1 e).1 (zP ((fun z : Nat × Nat => (z.2 - z.1) = 4 ∨ (z.2 - z.1) = 16) (rd_plain u n (p, s, none) 135 1 e).2)), D, R) := (if_neg (fun q => h164 q.2.2)).trans (if_pos ⟨rfl, hp, h135⟩)
      have hl := plr (u := u) (n := n) (p := p) (s := s) (tg := 135) (le := 1) (en := e) he (C := fun z : Nat × Nat => (z.2 - z.1) = 4 ∨ (z.2 - z.1) = 16)
      rw [e0, h135]
      refine agr.neg (by decide) ?_
      cases hE : tx_element u p 135 e with
      | inl w => exact hl.1 w hE
      | inr z =>
        obtain ⟨l1, l2, l3, l4, l5⟩ := hl.2 z hE
        refine agr.ok rfl ?_
        refine agr.neg (by decide) ?_
        refine agr.pos rfl ?_
        by_cases hb : ¬ ((z.2 - z.1) = 4) ∧ (¬ ((z.2 - z.1) = 16))
        · refine agr.pos hb ?_
          exact l1 (fun q => q.2.elim hb.1 hb.2)
        · refine agr.neg hb ?_
          have hc : 1 ≤ z.2 - z.1 ∧ ((z.2 - z.1) = 4 ∨ (z.2 - z.1) = 16) := by omega
          rw [(l2 hc).2]
          exact ⟨rfl, ⟨p, R, [], rfl, (List.append_nil _).symm, (List.append_nil _).symm⟩, by show p < z.2; omega, l5⟩
    · by_cases h129 : u p = 129
      · have e0 : rb_nms u n e ((p, s, none), D, R) = (rd_req (rd_plain u n (p, s, none) 129 1 e).1 (zP ((fun z : Nat × Nat => visN u z.1 z.2) (rd_plain u n (p, s, none) 129 1 e).2)), D, R) := (if_neg (fun q => h164 q.2.2)).trans ((if_neg (fun q => h135 q.2.2)).trans (if_pos ⟨rfl, hp, h129⟩))
        have hl := plr (u := u) (n := n) (p := p) (s := s) (tg := 129) (le := 1) (en := e) he (C := fun z : Nat × Nat => visN u z.1 z.2)
        rw [e0, h129]
        refine agr.neg (by decide) ?_
        cases hE : tx_element u p 129 e with
        | inl w => exact hl.1 w hE
        | inr z =>
          obtain ⟨l1, l2, l3, l4, l5⟩ := hl.2 z hE
          refine agr.ok rfl ?_
          refine agr.neg (by decide) ?_
          refine agr.neg (by decide) ?_
          have hv := vis_eq (u := u) (a := z.1) (b := z.2) (fp := p) (le := 1) (by omega)
          by_cases hc : 1 ≤ z.2 - z.1 ∧ visN u z.1 z.2
          · refine agr.ok (hv.1 hc) ?_
            refine agr.neg (by decide) ?_
            rw [(l2 hc).2]
            exact ⟨rfl, ⟨p, R, [], rfl, (List.append_nil _).symm, (List.append_nil _).symm⟩, by show p < z.2; omega, l5⟩
          · exact agr.no (l1 hc) (hv.2 hc) (stk.rf _)
      · have e0 : rb_nms u n e ((p, s, none), D, R) = (rd_req (rd_plain u n (p, s, none) 130 1 e).1 (zP ((fun z : Nat × Nat => visN u z.1 z.2) (rd_plain u n (p, s, none) 130 1 e).2)), (D ++ [((rd_plain u n (p, s, none) 130 1 e).2.1, (rd_plain u n (p, s, none) 130 1 e).2.2)]), R) := (if_neg (fun q => h164 q.2.2)).trans ((if_neg (fun q => h135 q.2.2)).trans (if_neg (fun q => h129 q.2.2)))
        have hl := plr (u := u) (n := n) (p := p) (s := s) (tg := 130) (le := 1) (en := e) he (C := fun z : Nat × Nat => visN u z.1 z.2)
        rw [e0]
        by_cases h130 : u p = 130
        · rw [h130]
          refine agr.neg (by decide) ?_
          cases hE : tx_element u p 130 e with
          | inl w => exact hl.1 w hE
          | inr z =>
            obtain ⟨l1, l2, l3, l4, l5⟩ := hl.2 z hE
            refine agr.ok rfl ?_
            refine agr.neg (by decide) ?_
            refine agr.neg (by decide) ?_
            have hv := vis_eq (u := u) (a := z.1) (b := z.2) (fp := p) (le := 1) (by omega)
            by_cases hc : 1 ≤ z.2 - z.1 ∧ visN u z.1 z.2
            · refine agr.ok (hv.1 hc) ?_
              refine agr.pos rfl ?_
              rw [(l2 hc).2, (l2 hc).1]
              exact ⟨rfl, ⟨p, R, [], rfl, (List.append_nil _).symm, (List.append_nil _).symm⟩, by show p < z.2; omega, l5⟩
            · exact agr.no (l1 hc) (hv.2 hc) (stk.rf _)
        · refine agr.pos ⟨h130, h129, h135, h164⟩ ?_
          exact hl.1 p (el_tag hp h130)
theorem nms_q2 {u : Nat → Nat} (hu : ∀ j, u j < 256) {n p s en : Nat} {D R R' : List (Nat × Nat)} (he : en ≤ n) (hn : n ≤ 2048) : agr (rd_nms u n (p, s, none) en D R).1 (tx_names u p en D R') (fun z => (∃ s' R1 E, rd_nms u n (p, s, none) en D R = ((z.1, s', none), z.2.1, R1) ∧ z.2.2 = R' ++ E ∧ R1 = R ++ hdM u E) ∧ p + 2 ≤ z.1 ∧ z.1 ≤ en) := by
  have e9 : tx_names u p en D R' = (eb (tx_element u p 48 en) (fun z4 => (@ite _ (z4.1 = z4.2) (Classical.propDecidable _) (.inl z4.2) (eb (loopE (nmB u z4.2) (fun t => ¬ (z4.2 ≤ t.1)) 2048 (z4.1, D, R')) (fun s39 => (.inr (s39.1, s39.2.1, s39.2.2))))))) := rfl
  rw [e9]
  refine agr.step (el_q (s := s) he) (fun w9 h9 => ?_) (fun z hz hn1 hq => ?_)
  · unfold rd_nms
    obtain ⟨f9, hf9⟩ : ∃ f9, 2048 = f9 + 1 := ⟨2047, rfl⟩
    rw [hf9]
    rw [show loopF (rb_nms u n (rd_opn u n (p, s, none) 48 en).2) (fun s9 => mr s9.1 (rd_opn u n (p, s, none) 48 en).2) (f9 + 1) true ((rd_opn u n (p, s, none) 48 en).1, D, R) = loopF (rb_nms u n (rd_opn u n (p, s, none) 48 en).2) (fun s9 => mr s9.1 (rd_opn u n (p, s, none) 48 en).2) f9 false (rb_nms u n (rd_opn u n (p, s, none) 48 en).2 ((rd_opn u n (p, s, none) 48 en).1, D, R)) from if_pos (Or.inl rfl)]
    exact lpF_stk (st := Prod.fst) f9 _ w9 (rbnms_stk u n _ _ w9 h9)
  · obtain ⟨q1, q2, q3, q4, q5⟩ := hq
    unfold rd_nms
    rw [q1]
    dsimp only
    have hf : z.2 - z.1 ≤ 2048 := by omega
    obtain ⟨f9, hf9⟩ : ∃ f9, 2048 = f9 + 1 := ⟨2047, rfl⟩
    rw [hf9] at hf ⊢
    by_cases hz0 : z.1 = z.2
    · refine agr.pos hz0 ?_
      rw [show loopF (rb_nms u n z.2) (fun s => mr s.1 z.2) (f9 + 1) true ((z.1, p, none), D, R) = loopF (rb_nms u n z.2) (fun s => mr s.1 z.2) f9 false (rb_nms u n z.2 ((z.1, p, none), D, R)) from if_pos (Or.inl rfl)]
      refine lpF_stk (st := Prod.fst) f9 _ z.2 ?_
      have e0 : rb_nms u n z.2 ((z.1, p, none), D, R) = (rd_req (rd_plain u n (z.1, p, none) 130 1 z.2).1 (zP ((fun z : Nat × Nat => visN u z.1 z.2) (rd_plain u n (z.1, p, none) 130 1 z.2).2)), (D ++ [((rd_plain u n (z.1, p, none) 130 1 z.2).2.1, (rd_plain u n (z.1, p, none) 130 1 z.2).2.2)]), R) := (if_neg (fun q => by have : z.1 < z.2 := q.2.1; omega)).trans ((if_neg (fun q => by have : z.1 < z.2 := q.2.1; omega)).trans (if_neg (fun q => by have : z.1 < z.2 := q.2.1; omega)))
      rw [e0]
      have hl := plr (u := u) (n := n) (p := z.1) (s := p) (tg := 130) (le := 1) (en := z.2) (by omega) (C := fun z : Nat × Nat => visN u z.1 z.2)
      refine hl.1 z.2 ?_
      unfold tx_element
      rw [if_neg (by omega)]
    · refine agr.neg hz0 ?_
      rw [loopF_t (M := fun s : rS × List (Nat × Nat) × List (Nat × Nat) => mr s.1 z.2) (s := ((z.1, p, none), D, R)) ⟨rfl, by show z.1 < z.2; omega⟩]
      have hL := loop_q (σ := rS × List (Nat × Nat) × List (Nat × Nat)) (τ := Nat × List (Nat × Nat) × List (Nat × Nat)) (B := rb_nms u n z.2) (st := Prod.fst) (RB := nmB u z.2) (pos := Prod.fst) (e := z.2) (I := fun s t => (∃ s' R1 E, s = ((t.1, s', none), t.2.1, R1) ∧ t.2.2 = R' ++ E ∧ R1 = R ++ hdM u E) ∧ t.1 ≤ z.2) (fun s t h => by
        obtain ⟨⟨s', R1, E, rfl, -, -⟩, h2⟩ := h
        exact ⟨rfl, rfl, h2⟩) (fun s t h hp => by
        obtain ⟨⟨s', R1, E, rfl, hE1, hE2⟩, h2⟩ := h
        obtain ⟨t1, t2, t3⟩ := t
        have hb := nmb_q2 hu (n := n) (p := t1) (s := s') (e := z.2) (D := t2) (R := R1) (R' := t3) (by omega) hn hp
        cases hR : nmB u z.2 (t1, t2, t3) with
        | inl w => rw [hR] at hb; exact hb
        | inr v =>
          rw [hR] at hb
          obtain ⟨hb1, ⟨s2, R2, E2, x1, x2, x3⟩, hb2, hb3⟩ := hb
          exact ⟨hb1, ⟨⟨s2, R2, E ++ E2, x1, by rw [x2]; change t3 = R' ++ E at hE1; rw [hE1, List.append_assoc], by rw [x3, hE2, hdM_ap, List.append_assoc]⟩, hb3⟩, hb2⟩) (f9 + 1) ((z.1, p, none), D, R) (z.1, D, R') ⟨⟨p, R, [], rfl, (List.append_nil _).symm, (List.append_nil _).symm⟩, q3⟩ hf
      refine agr.step hL (stk.rf _) (fun v hv hn2 hq2 => ?_)
      obtain ⟨⟨⟨s', R1, E, g1, x1, x2⟩, g2⟩, g3⟩ := hq2
      refine ⟨hn2, ⟨s', R1, E, g1, x1, x2⟩, by show p + 2 ≤ v.1; rw [g3]; omega, by show v.1 ≤ en; omega⟩
/-! Trees. -/
theorem tr_1D (k a b : Nat) : trD k [(a, b, k)] = [(a, b)] := by
  unfold trD
  rw [List.filter_cons_of_pos (by simp)]
  rfl
theorem tr_1D' (k a b : Nat) : trD k [(a, b, k + 1)] = [] := trD_no (fun d hd => by rw [List.mem_singleton.mp hd]; show k + 1 ≠ k; omega)
theorem tr_1R (u : Nat → Nat) (k a b : Nat) : trR u k [(a, b, k)] = [(hdr u a, b)] := by
  unfold trR
  rw [List.filter_cons_of_pos (by simp)]
  rfl
theorem tr_1R' (u : Nat → Nat) (k a b : Nat) : trR u (k + 1) [(a, b, k)] = [] := trR_no (fun d hd => by rw [List.mem_singleton.mp hd]; show k ≠ k + 1; omega)
theorem trb_q2 {u : Nat → Nat} (hu : ∀ j, u j < 256) {n p s e tg : Nat} {D R : List (Nat × Nat)} {T : List (Nat × Nat × Nat)} (he : e ≤ n) (hn : n ≤ 2048) : agr (rb_trs u n e ((p, s, none), D, R)).1 (trB u tg e (p, T)) (fun z => (∃ s' D1 R1 E, rb_trs u n e ((p, s, none), D, R) = ((z.1, s', none), D1, R1) ∧ z.2 = T ++ E ∧ D1 = D ++ trD (k0T tg) E ∧ R1 = R ++ trR u (k0T tg + 1) E ∧ ∀ d, d ∈ E → d.2.2 = k0T tg ∨ d.2.2 = k0T tg + 1) ∧ p < z.1 ∧ z.1 ≤ e) := by
  unfold trB
  dsimp only
  refine agr.step (el_q (s := s) he) (fun w9 h9 => ?_) (fun z hz hn1 hq => ?_)
  · unfold rb_trs
    dsimp only
    generalize rd_opn u n (p, s, none) 48 e = o at h9 ⊢
    rw [if_neg (fun q => by rw [h9] at q; cases q.1)]
    exact ((plain_stk u n o.1 130 0 _).tr ((req_stk _ _).tr (fin_stk _ _))) w9 h9
  obtain ⟨q1, q2, q3, q4, q5⟩ := hq
  by_cases h164 : z.1 < z.2 ∧ u z.1 = 164
  · have e0 : rb_trs u n e ((p, s, none), D, R) = (let z61 := rd_opn u n (z.1, p, none) 164 z.2; (let z73 := rd_nam u n z61.1 z61.2; (let z83 := rd_fin z73.1 z61.2; (let z123 := rd_fin z83 z.2; (z123, D, (R ++ [(z73.2.2.1, z73.2.2.2)])))))) := by
      unfold rb_trs
      dsimp only
      rw [q1]
      exact if_pos ⟨rfl, h164⟩
    rw [e0, h164.2]
    refine agr.pos h164.1 ?_
    refine agr.neg (by decide) ?_
    rw [if_pos (by decide : 0 ≤ 164)]
    refine agr.step (el_q (u := u) (n := n) (p := z.1) (s := p) (tg := 164) (en := z.2) (by omega)) (fun w9 h9 => ((nam_stk u n _ _).tr ((fin_stk _ _).tr (fin_stk _ _))) w9 h9) (fun y hy hn3 hq3 => ?_)
    obtain ⟨r1, r2, r3, r4, r5⟩ := hq3
    rw [r1]
    dsimp only
    refine agr.neg (by decide) ?_
    refine agr.step (nam_q hu (n := n) (p := y.1) (s := z.1) (en := y.2) (by omega) hn) ((fin_stk _ _).tr (fin_stk _ _)) (fun v hv hn2 hq2 => ?_)
    obtain ⟨s', a, g1, g2, g3, g4, g5, g6, g7⟩ := hq2
    rw [g1]
    dsimp only
    rw [g2]
    refine agr.step (fin_q (u := u) (p := v.2.2) (s := s') (en := y.2)) (fin_stk _ _) (fun _ _ _ hq5 => ?_)
    rw [hq5.1, show v.2.2 = y.2 by omega]
    refine agr.step (fin_q (u := u) (p := y.2) (s := s') (en := z.2)) (stk.rf _) (fun _ _ _ hq6 => ?_)
    rw [hq6.1, show y.2 = z.2 by omega]
    have ha := nam_hd (by omega) g1
    refine ⟨rfl, ⟨s', _, _, [(y.1, z.2, k0T tg + 1)], rfl, (show T ++ [(y.1, z.2, k0T tg + @ite _ (164 = 130) (Classical.propDecidable _) 0 1)] = _ by rw [if_neg (by decide)]), ?_, ?_, ?_⟩, by show p < z.2; omega, q4⟩
    · rw [tr_1D', List.append_nil]
    · rw [tr_1R, ha]
    · intro d hd
      rw [List.mem_singleton.mp hd]
      exact Or.inr rfl
  · have e0 : rb_trs u n e ((p, s, none), D, R) = (rd_fin (rd_req (rd_plain u n (z.1, p, none) 130 0 z.2).1 (zP ((fun z : Nat × Nat => visN u z.1 z.2) (rd_plain u n (z.1, p, none) 130 0 z.2).2))) z.2, (D ++ [((rd_plain u n (z.1, p, none) 130 0 z.2).2.1, (rd_plain u n (z.1, p, none) 130 0 z.2).2.2)]), R) := by
      unfold rb_trs
      dsimp only
      rw [q1]
      exact if_neg (fun q => h164 q.2)
    have hl := plr (u := u) (n := n) (p := z.1) (s := p) (tg := 130) (le := 0) (en := z.2) (by omega) (C := fun z : Nat × Nat => visN u z.1 z.2)
    rw [e0]
    by_cases hm : z.1 < z.2
    · refine agr.pos hm ?_
      by_cases h130 : u z.1 = 130
      · rw [h130]
        refine agr.neg (by decide) ?_
        rw [if_pos (by decide : 0 ≤ 130)]
        cases hE : tx_element u z.1 130 z.2 with
        | inl w => exact fin_stk _ _ w (hl.1 w hE)
        | inr y =>
          obtain ⟨l1, l2, l3, l4, l5⟩ := hl.2 y hE
          refine agr.ok rfl ?_
          refine agr.pos rfl ?_
          have hv := vis_eq (u := u) (a := y.1) (b := y.2) (fp := z.1) (le := 0) (by omega)
          by_cases hc : 0 ≤ y.2 - y.1 ∧ visN u y.1 y.2
          · refine agr.ok (hv.1 hc) ?_
            dsimp only
            refine agr.pos rfl ?_
            rw [(l2 hc).2]
            refine agr.step (fin_q (u := u) (p := y.2) (s := z.1) (en := z.2)) (stk.rf _) (fun _ _ _ hq6 => ?_)
            rw [hq6.1, show y.2 = z.2 by omega]
            refine ⟨rfl, ⟨z.1, _, _, [(y.1, z.2, k0T tg)], rfl, rfl, ?_, ?_, ?_⟩, by show p < z.2; omega, q4⟩
            · rw [tr_1D, (l2 hc).1]
              rw [show y.2 = z.2 by omega]
            · rw [tr_1R', List.append_nil]
            · intro d hd
              rw [List.mem_singleton.mp hd]
              exact Or.inl rfl
          · exact agr.no (l1 hc) (hv.2 hc) (fin_stk _ _)
      · refine agr.pos ⟨by omega, h130, fun q => h164 ⟨hm, q⟩⟩ ?_
        exact fin_stk _ _ z.1 (hl.1 z.1 (el_tag hm h130))
    · refine agr.neg hm ?_
      have e : tx_element u z.1 130 z.2 = .inl z.2 := by
        unfold tx_element
        rw [if_neg hm]
      exact agr.no (hl.1 z.2 e) e (fin_stk _ _)
theorem trs_q2 {u : Nat → Nat} (hu : ∀ j, u j < 256) {n p s tg en : Nat} {D R : List (Nat × Nat)} {T : List (Nat × Nat × Nat)} (he : en ≤ n) (hn : n ≤ 2048) : agr (rd_trs u n (p, s, none) tg en D R).1 (tx_trees u p en tg T) (fun z => (∃ s' D1 R1 E, rd_trs u n (p, s, none) tg en D R = ((z.1, s', none), D1, R1) ∧ z.2 = T ++ E ∧ D1 = D ++ trD (k0T tg) E ∧ R1 = R ++ trR u (k0T tg + 1) E ∧ ∀ d, d ∈ E → d.2.2 = k0T tg ∨ d.2.2 = k0T tg + 1) ∧ p + 2 ≤ z.1 ∧ z.1 ≤ en) := by
  have e9 : tx_trees u p en tg T = (eb (tx_element u p tg en) (fun z4 => (@ite _ (z4.1 = z4.2) (Classical.propDecidable _) (.inl z4.2) (eb (loopE (trB u tg z4.2) (fun t => ¬ (z4.2 ≤ t.1)) 2048 (z4.1, T)) (fun s39 => (.inr (s39.1, s39.2))))))) := rfl
  rw [e9]
  refine agr.step (el_q (s := s) he) (fun w9 h9 => ?_) (fun z hz hn1 hq => ?_)
  · unfold rd_trs
    obtain ⟨f9, hf9⟩ : ∃ f9, 2048 = f9 + 1 := ⟨2047, rfl⟩
    rw [hf9]
    rw [show loopF (rb_trs u n (rd_opn u n (p, s, none) tg en).2) (fun s9 => mr s9.1 (rd_opn u n (p, s, none) tg en).2) (f9 + 1) true ((rd_opn u n (p, s, none) tg en).1, D, R) = loopF (rb_trs u n (rd_opn u n (p, s, none) tg en).2) (fun s9 => mr s9.1 (rd_opn u n (p, s, none) tg en).2) f9 false (rb_trs u n (rd_opn u n (p, s, none) tg en).2 ((rd_opn u n (p, s, none) tg en).1, D, R)) from if_pos (Or.inl rfl)]
    exact lpF_stk (st := Prod.fst) f9 _ w9 (rbtrs_stk u n _ _ w9 h9)
  · obtain ⟨q1, q2, q3, q4, q5⟩ := hq
    unfold rd_trs
    rw [q1]
    dsimp only
    have hf : z.2 - z.1 ≤ 2048 := by omega
    obtain ⟨f9, hf9⟩ : ∃ f9, 2048 = f9 + 1 := ⟨2047, rfl⟩
    rw [hf9] at hf ⊢
    by_cases hz0 : z.1 = z.2
    · refine agr.pos hz0 ?_
      rw [show loopF (rb_trs u n z.2) (fun s => mr s.1 z.2) (f9 + 1) true ((z.1, p, none), D, R) = loopF (rb_trs u n z.2) (fun s => mr s.1 z.2) f9 false (rb_trs u n z.2 ((z.1, p, none), D, R)) from if_pos (Or.inl rfl)]
      refine lpF_stk (st := Prod.fst) f9 _ z.2 ?_
      have hb := trb_q hu (n := n) (p := z.1) (s := p) (e := z.2) (tg := tg) (D := D) (R := R) (T := T) (by omega) hn
      have e : trB u tg z.2 (z.1, T) = .inl z.2 := by
        unfold trB
        refine eb_no ?_
        unfold tx_element
        rw [if_neg (by show ¬ z.1 < z.2; omega)]
      rw [e] at hb
      exact hb
    · refine agr.neg hz0 ?_
      rw [loopF_t (M := fun s : rS × List (Nat × Nat) × List (Nat × Nat) => mr s.1 z.2) (s := ((z.1, p, none), D, R)) ⟨rfl, by show z.1 < z.2; omega⟩]
      have hL := loop_q (σ := rS × List (Nat × Nat) × List (Nat × Nat)) (τ := Nat × List (Nat × Nat × Nat)) (B := rb_trs u n z.2) (st := Prod.fst) (RB := trB u tg z.2) (pos := Prod.fst) (e := z.2) (I := fun s t => (∃ s' D1 R1 E, s = ((t.1, s', none), D1, R1) ∧ t.2 = T ++ E ∧ D1 = D ++ trD (k0T tg) E ∧ R1 = R ++ trR u (k0T tg + 1) E ∧ ∀ d, d ∈ E → d.2.2 = k0T tg ∨ d.2.2 = k0T tg + 1) ∧ t.1 ≤ z.2) (fun s t h => by
        obtain ⟨⟨s', D1, R1, E, rfl, -⟩, h2⟩ := h
        exact ⟨rfl, rfl, h2⟩) (fun s t h hp => by
        obtain ⟨⟨s', D1, R1, E, rfl, y1, y2, y3, y4⟩, h2⟩ := h
        obtain ⟨t1, t2⟩ := t
        have hb := trb_q2 hu (n := n) (p := t1) (s := s') (e := z.2) (tg := tg) (D := D1) (R := R1) (T := t2) (by omega) hn
        cases hR : trB u tg z.2 (t1, t2) with
        | inl w => rw [hR] at hb; exact hb
        | inr v =>
          rw [hR] at hb
          obtain ⟨hb1, ⟨s2, D2, R2, E2, x1, x2, x3, x4, x5⟩, hb2, hb3⟩ := hb
          change t2 = T ++ E at y1
          refine ⟨hb1, ⟨⟨s2, D2, R2, E ++ E2, x1, by rw [x2, y1, List.append_assoc], by rw [x3, y2, trD_ap, List.append_assoc], by rw [x4, y3, trR_ap, List.append_assoc], fun d hd => ?_⟩, hb3⟩, hb2⟩
          rcases List.mem_append.mp hd with q | q
          · exact y4 d q
          · exact x5 d q) (f9 + 1) ((z.1, p, none), D, R) (z.1, T) ⟨⟨p, D, R, [], rfl, (List.append_nil _).symm, (List.append_nil _).symm, (List.append_nil _).symm, fun d hd => by cases hd⟩, q3⟩ hf
      refine agr.step hL (stk.rf _) (fun v hv hn2 hq2 => ?_)
      obtain ⟨⟨⟨s', D1, R1, E, g1, x1⟩, g2⟩, g3⟩ := hq2
      refine ⟨hn2, ⟨s', D1, R1, E, g1, x1⟩, by show p + 2 ≤ v.1; rw [g3]; omega, by show v.1 ≤ en; omega⟩
theorem iky_q2 {u : Nat → Nat} {β : Type} {n p s en : Nat} (he : en ≤ n) (F : Nat × Nat → Nat × Nat → β) : agr (rd_iky u n (p, s, none) en).1 (eb (tx_element u p 48 en) (fun z189 => (eb (tx_element u z189.1 128 z189.2) (fun z215 => (@ite _ (z215.1 = z215.2) (Classical.propDecidable _) (.inl z189.1) (eb (tx_done u z215.2 z189.2) (fun z269 => (.inr (F z189 z215))))))))) (fun b => ∃ z y s', b = F z y ∧ rd_iky u n (p, s, none) en = ((z.2, s', none), y.1, y.2) ∧ p + 2 ≤ z.2 ∧ z.2 ≤ en ∧ y.1 < y.2 ∧ y.2 ≤ en) := by
  unfold rd_iky
  dsimp only
  refine agr.step (el_q (s := s) he) (fun w9 h9 => ((plain_stk u n _ 128 1 _).tr (fin_stk _ _)) w9 h9) (fun z hz hn1 hq => ?_)
  obtain ⟨q1, q2, q3, q4, q5⟩ := hq
  rw [q1]
  dsimp only
  have hl := plain_q (u := u) (n := n) (p := z.1) (s := p) (tg := 128) (le := 1) (en := z.2) (by omega)
  cases hE : tx_element u z.1 128 z.2 with
  | inl w =>
    rw [hE] at hl
    exact fin_stk _ _ w hl
  | inr y =>
    have f := el_facts hE
    rw [hE] at hl
    have hl : agr _ (@ite _ (1 ≤ y.2 - y.1) (Classical.propDecidable _) (.inr y) (.inl z.1)) _ := hl
    refine agr.ok rfl ?_
    by_cases hb : y.1 = y.2
    · refine agr.pos hb ?_
      rw [if_neg (by omega)] at hl
      exact fin_stk _ _ z.1 hl
    · refine agr.neg hb ?_
      rw [if_pos (by omega)] at hl
      obtain ⟨_, l1, _⟩ := hl
      rw [l1]
      dsimp only
      refine agr.step (fin_q (u := u) (p := y.2) (s := z.1) (en := z.2)) (stk.rf _) (fun _ _ _ hq6 => ?_)
      have ey : y.2 = z.2 := by omega
      rw [hq6.1]
      exact ⟨rfl, z, y, z.1, rfl, by rw [ey], by omega, q4, by omega, by omega⟩
/-- names, keys and trees stay related -/
def knX (u : Nat → Nat) (ok ik : Nat × Nat) (D2 D3 D4 D5 D6 : List (Nat × Nat)) (k1 k2 k3 k4 : Int32) (dirs : List (Nat × Nat)) (T : List (Nat × Nat × Nat)) (K : (rS × (Nat × Nat) × (Nat × Nat) × Int32 × Int32 × Int32 × (List (Nat × Nat)) × (List (Nat × Nat)) × (List (Nat × Nat)) × (List (Nat × Nat)) × (List (Nat × Nat)) × (List (Nat × Nat))) × Int32) (z : Nat × Int32 × Int32 × Int32 × Int32 × Int32 × Int32 × Int32 × List (Nat × Nat) × List (Nat × Nat) × List (Nat × Nat × Nat)) : Prop := XR u ok ik D2 D3 D4 D5 D6 k1 k2 k3 k4 dirs T → XR u K.1.2.1 K.1.2.2.1 K.1.2.2.2.2.2.2.2.1 K.1.2.2.2.2.2.2.2.2.1 K.1.2.2.2.2.2.2.2.2.2.1 K.1.2.2.2.2.2.2.2.2.2.2.1 K.1.2.2.2.2.2.2.2.2.2.2.2 z.2.2.2.2.1 z.2.2.2.2.2.1 z.2.2.2.2.2.2.1 z.2.2.2.2.2.2.2.1 z.2.2.2.2.2.2.2.2.2.1 z.2.2.2.2.2.2.2.2.2.2
theorem XR_160 {u : Nat → Nat} {ok ik : Nat × Nat} {D2 D3 D4 D5 D6 : List (Nat × Nat)} {k1 k2 k3 k4 : Int32} {dirs : List (Nat × Nat)} {T E : List (Nat × Nat × Nat)} (h : XR u ok ik D2 D3 D4 D5 D6 k1 k2 k3 k4 dirs T) (hE : ∀ d, d ∈ E → d.2.2 = k0T 160 ∨ d.2.2 = k0T 160 + 1) : XR u ok ik D2 (D3 ++ trD (k0T 160) E) (D4 ++ trR u (k0T 160 + 1) E) D5 D6 k1 k2 k3 k4 dirs (T ++ E) := by
  rw [k0_160] at hE ⊢
  obtain ⟨h1, h2, h3, h4, h5, h6, h7, h8⟩ := h
  refine ⟨h1, h2, h3, by rw [h4, trD_ap], by rw [h5, trR_ap], ?_, ?_, fun d hd => (List.mem_append.mp hd).elim (h8 d) (fun q => by rcases hE d q with e | e <;> omega)⟩
  · rw [h6, trD_ap, trD_no (E := E) (fun d hd => by rcases hE d hd with e | e <;> omega), List.append_nil]
  · rw [h7, trR_ap, trR_no (E := E) (fun d hd => by rcases hE d hd with e | e <;> omega), List.append_nil]
theorem XR_161 {u : Nat → Nat} {ok ik : Nat × Nat} {D2 D3 D4 D5 D6 : List (Nat × Nat)} {k1 k2 k3 k4 : Int32} {dirs : List (Nat × Nat)} {T E : List (Nat × Nat × Nat)} (h : XR u ok ik D2 D3 D4 D5 D6 k1 k2 k3 k4 dirs T) (hE : ∀ d, d ∈ E → d.2.2 = k0T 161 ∨ d.2.2 = k0T 161 + 1) : XR u ok ik D2 D3 D4 (D5 ++ trD (k0T 161) E) (D6 ++ trR u (k0T 161 + 1) E) k1 k2 k3 k4 dirs (T ++ E) := by
  rw [k0_161] at hE ⊢
  obtain ⟨h1, h2, h3, h4, h5, h6, h7, h8⟩ := h
  refine ⟨h1, h2, h3, ?_, ?_, by rw [h6, trD_ap], by rw [h7, trR_ap], fun d hd => (List.mem_append.mp hd).elim (h8 d) (fun q => by rcases hE d q with e | e <;> omega)⟩
  · rw [h4, trD_ap, trD_no (E := E) (fun d hd => by rcases hE d hd with e | e <;> omega), List.append_nil]
  · rw [h5, trR_ap, trR_no (E := E) (fun d hd => by rcases hE d hd with e | e <;> omega), List.append_nil]
theorem con_q2 {u : Nat → Nat} (hu : ∀ j, u j < 256) {n p s en : Nat} {ok ik : Nat × Nat} {ca pn us : Int32} {D1 D2 D3 D4 D5 D6 dirs : List (Nat × Nat)} {k1 k2 k3 k4 : Int32} {T : List (Nat × Nat × Nat)} (he : en ≤ n) (hn : n ≤ 2048) : agr (rd_kn u n 30 en (p, s, none) ok ik ca pn us D1 D2 D3 D4 D5 D6).1.1 (tx_constraints u p en T) (fun z => knQ (rd_kn u n 30 en (p, s, none) ok ik ca pn us D1 D2 D3 D4 D5 D6) p en (z.1, ca, pn, us, k1, k2, k3, k4, D1, dirs, z.2) ∧ knX u ok ik D2 D3 D4 D5 D6 k1 k2 k3 k4 dirs T (rd_kn u n 30 en (p, s, none) ok ik ca pn us D1 D2 D3 D4 D5 D6) (z.1, ca, pn, us, k1, k2, k3, k4, D1, dirs, z.2)) := by
  have e0 : rd_kn u n 30 en (p, s, none) ok ik ca pn us D1 D2 D3 D4 D5 D6 = (let z101 := rd_opn u n (p, s, none) 48 en; (@ite _ (z101.1.2.2 = none ∧ z101.1.1 < z101.2 ∧ u z101.1.1 = 160) (Classical.propDecidable _) (let z132 := rd_trs u n z101.1 160 z101.2 D3 D4; (@ite _ (z132.1.2.2 = none ∧ z132.1.1 < z101.2) (Classical.propDecidable _) (let z160 := rd_trs u n z132.1 161 z101.2 D5 D6; (let z165 := rd_fin z160.1 z101.2; ((z165, ok, ik, ca, pn, us, D1, D2, z132.2.1, z132.2.2, z160.2.1, z160.2.2), 1))) (let z165 := rd_fin z132.1 z101.2; ((z165, ok, ik, ca, pn, us, D1, D2, z132.2.1, z132.2.2, D5, D6), 1)))) (let z160 := rd_trs u n z101.1 161 z101.2 D5 D6; (let z165 := rd_fin z160.1 z101.2; ((z165, ok, ik, ca, pn, us, D1, D2, D3, D4, z160.2.1, z160.2.2), 1))))) := (if_neg (by decide)).trans ((if_neg (by decide)).trans ((if_neg (by decide)).trans ((if_neg (by decide)).trans (if_pos rfl))))
  rw [e0]
  unfold tx_constraints
  refine agr.step (el_q (s := s) he) (fun w9 h9 => ?_) (fun z hz hn1 hq => ?_)
  · generalize rd_opn u n (p, s, none) 48 en = o at h9 ⊢
    dsimp only
    rw [if_neg (fun q => by rw [h9] at q; cases q.1)]
    exact ((trs_stk u n _ 161 _ _ _).tr (fin_stk _ _)) w9 h9
  obtain ⟨q1, q2, q3, q4, q5⟩ := hq
  rw [q1]
  dsimp only
  have hno : ∀ k w (D R : List (Nat × Nat)), tx_element u k 161 z.2 = .inl w → ∀ s', (rd_fin (rd_trs u n (k, s', none) 161 z.2 D R).1 z.2).2.2 = some w := fun k w D R hw s' => by
    have h := trs_q hu (n := n) (p := k) (s := s') (tg := 161) (en := z.2) (D := D) (R := R) (T := T) (by omega) hn
    have e : tx_trees u k z.2 161 T = .inl w := by
      unfold tx_trees
      exact eb_no hw
    rw [e] at h
    exact fin_stk _ _ w h
  by_cases h160 : z.1 < z.2 ∧ u z.1 = 160
  · rw [if_pos ⟨rfl, h160⟩]
    refine agr.neg (by omega) ?_
    refine agr.pos h160.1 ?_
    refine agr.pos h160.2 ?_
    refine agr.step (trs_q2 hu (n := n) (p := z.1) (s := p) (tg := 160) (en := z.2) (D := D3) (R := D4) (T := T) (by omega) hn) (fun w9 h9 => ?_) (fun y hy hn2 hq2 => ?_)
    · rw [if_neg (fun q => by rw [h9] at q; cases q.1)]
      exact fin_stk _ _ w9 h9
    obtain ⟨⟨s', E3, E4, F1, g1, w1, w2, w3, w4⟩, g2, g3⟩ := hq2
    rw [g1]
    dsimp only
    by_cases hm : y.1 < z.2
    · rw [if_pos ⟨rfl, hm⟩]
      refine agr.pos hm ?_
      by_cases h161 : u y.1 = 161
      · refine agr.pos h161 ?_
        refine agr.step (trs_q2 hu (n := n) (p := y.1) (s := s') (tg := 161) (en := z.2) (D := D5) (R := D6) (T := y.2) (by omega) hn) (fin_stk _ _) (fun v hv hn3 hq3 => ?_)
        obtain ⟨⟨s2, E5, E6, F2, r1, v1, v2, v3, v4⟩, r2, r3⟩ := hq3
        rw [r1]
        dsimp only
        refine agr.step (fin_q (u := u) (p := v.1) (s := s2) (en := z.2)) (stk.rf _) (fun _ _ _ hq5 => ?_)
        rw [hq5.1, show v.1 = z.2 by omega]
        refine ⟨rfl, ⟨⟨s2, rfl⟩, rfl, rfl, rfl, rfl, rfl, by show p ≤ z.2; omega, q4⟩, fun hx => ?_⟩
        show XR u ok ik D2 E3 E4 E5 E6 k1 k2 k3 k4 dirs v.2
        rw [w2, w3, v2, v3, v1, w1]
        exact XR_161 (XR_160 hx w4) v4
      · refine agr.neg h161 ?_
        refine agr.no (hno y.1 y.1 D5 D6 (el_tag hm h161) s') ?_ (stk.rf _)
        exact if_neg (by omega)
    · rw [if_neg (fun q => hm q.2)]
      refine agr.neg hm ?_
      dsimp only
      refine agr.step (fin_q (u := u) (p := y.1) (s := s') (en := z.2)) (stk.rf _) (fun _ _ _ hq5 => ?_)
      rw [hq5.1, show y.1 = z.2 by omega]
      refine ⟨rfl, ⟨⟨s', rfl⟩, rfl, rfl, rfl, rfl, rfl, by show p ≤ z.2; omega, q4⟩, fun hx => ?_⟩
      show XR u ok ik D2 E3 E4 D5 D6 k1 k2 k3 k4 dirs y.2
      rw [w2, w3, w1]
      exact XR_160 hx w4
  · rw [if_neg (fun q => h160 q.2)]
    dsimp only
    by_cases hz0 : z.1 = z.2
    · refine agr.pos hz0 ?_
      refine hno z.1 z.2 D5 D6 ?_ p
      unfold tx_element
      rw [if_neg (by omega)]
    · have hm : z.1 < z.2 := by omega
      refine agr.neg hz0 ?_
      refine agr.pos hm ?_
      refine agr.neg (fun q => h160 ⟨hm, q⟩) ?_
      refine agr.pos hm ?_
      by_cases h161 : u z.1 = 161
      · refine agr.pos h161 ?_
        refine agr.step (trs_q2 hu (n := n) (p := z.1) (s := p) (tg := 161) (en := z.2) (D := D5) (R := D6) (T := T) (by omega) hn) (fin_stk _ _) (fun v hv hn3 hq3 => ?_)
        obtain ⟨⟨s2, E5, E6, F2, r1, v1, v2, v3, v4⟩, r2, r3⟩ := hq3
        rw [r1]
        dsimp only
        refine agr.step (fin_q (u := u) (p := v.1) (s := s2) (en := z.2)) (stk.rf _) (fun _ _ _ hq5 => ?_)
        rw [hq5.1, show v.1 = z.2 by omega]
        refine ⟨rfl, ⟨⟨s2, rfl⟩, rfl, rfl, rfl, rfl, rfl, by show p ≤ z.2; omega, q4⟩, fun hx => ?_⟩
        show XR u ok ik D2 D3 D4 E5 E6 k1 k2 k3 k4 dirs v.2
        rw [v2, v3, v1]
        exact XR_161 hx v4
      · refine agr.neg h161 ?_
        refine agr.no (hno z.1 z.1 D5 D6 (el_tag hm h161) p) ?_ (stk.rf _)
        exact if_neg (by omega)
theorem kn_q2 {u : Nat → Nat} (hu : ∀ j, u j < 256) {n p s en : Nat} {kn : Int32} {ok ik : Nat × Nat} {ca pn us k1 k2 k3 k4 : Int32} {D1 D2 D3 D4 D5 D6 dirs : List (Nat × Nat)} {T : List (Nat × Nat × Nat)} (he : en ≤ n) (hn : n ≤ 2048) (hk : knS kn) : agr (rd_kn u n kn en (p, s, none) ok ik ca pn us D1 D2 D3 D4 D5 D6).1.1 (tx_content u p kn en D1 dirs T ca pn us k1 k2 k3 k4) (fun z => knQ (rd_kn u n kn en (p, s, none) ok ik ca pn us D1 D2 D3 D4 D5 D6) p en z ∧ knX u ok ik D2 D3 D4 D5 D6 k1 k2 k3 k4 dirs T (rd_kn u n kn en (p, s, none) ok ik ca pn us D1 D2 D3 D4 D5 D6) z) := by
  unfold tx_content
  rcases hk with rfl | rfl | rfl | rfl | rfl | rfl
  · have e0 : rd_kn u n 19 en (p, s, none) ok ik ca pn us D1 D2 D3 D4 D5 D6 = ((((rd_bas u n (p, s, none) en pn).1, ok, ik, (rd_bas u n (p, s, none) en pn).2.2, (rd_bas u n (p, s, none) en pn).2.1, us, D1, D2, D3, D4, D5, D6), 1) : (rS × (Nat × Nat) × (Nat × Nat) × Int32 × Int32 × Int32 × (List (Nat × Nat)) × (List (Nat × Nat)) × (List (Nat × Nat)) × (List (Nat × Nat)) × (List (Nat × Nat)) × (List (Nat × Nat))) × Int32) := (if_neg (by decide)).trans ((if_neg (by decide)).trans ((if_neg (by decide)).trans (if_pos rfl)))
    rw [e0]
    refine agr.neg (by decide) (agr.neg (by decide) (agr.neg (by decide) (agr.pos rfl ?_)))
    refine agr.step (bas_q hu (n := n) (p := p) (s := s) (en := en) he pn) (stk.rf _) (fun z hz hn1 hq => ?_)
    obtain ⟨⟨s', g1⟩, g2, g3⟩ := hq
    rw [g1]
    exact ⟨rfl, ⟨⟨s', rfl⟩, rfl, rfl, rfl, rfl, rfl, by show p ≤ z.1; omega, g3⟩, fun hx => hx⟩
  · have e0 : rd_kn u n 15 en (p, s, none) ok ik ca pn us D1 D2 D3 D4 D5 D6 = ((((rd_use u n (p, s, none) en).1, ok, ik, ca, pn, (rd_use u n (p, s, none) en).2, D1, D2, D3, D4, D5, D6), 1) : (rS × (Nat × Nat) × (Nat × Nat) × Int32 × Int32 × Int32 × (List (Nat × Nat)) × (List (Nat × Nat)) × (List (Nat × Nat)) × (List (Nat × Nat)) × (List (Nat × Nat)) × (List (Nat × Nat))) × Int32) := (if_neg (by decide)).trans (if_pos rfl)
    rw [e0]
    refine agr.neg (by decide) (agr.pos rfl ?_)
    refine agr.step (use_q hu (n := n) (p := p) (s := s) (en := en) he hn) (stk.rf _) (fun z hz hn1 hq => ?_)
    obtain ⟨g1, g2, g3⟩ := hq
    rw [g1]
    exact ⟨rfl, ⟨⟨p, rfl⟩, rfl, rfl, rfl, rfl, rfl, by show p ≤ z.1; omega, g3⟩, fun hx => hx⟩
  · have e0 : rd_kn u n 17 en (p, s, none) ok ik ca pn us D1 D2 D3 D4 D5 D6 = ((((rd_nms u n (p, s, none) en D1 D2).1, ok, ik, ca, pn, us, (rd_nms u n (p, s, none) en D1 D2).2.1, (rd_nms u n (p, s, none) en D1 D2).2.2, D3, D4, D5, D6), 1) : (rS × (Nat × Nat) × (Nat × Nat) × Int32 × Int32 × Int32 × (List (Nat × Nat)) × (List (Nat × Nat)) × (List (Nat × Nat)) × (List (Nat × Nat)) × (List (Nat × Nat)) × (List (Nat × Nat))) × Int32) := (if_neg (by decide)).trans ((if_neg (by decide)).trans (if_pos rfl))
    rw [e0]
    refine agr.neg (by decide) (agr.neg (by decide) (agr.pos rfl ?_))
    refine agr.step (nms_q2 hu (n := n) (p := p) (s := s) (en := en) (D := D1) (R := D2) (R' := dirs) he hn) (stk.rf _) (fun z hz hn1 hq => ?_)
    obtain ⟨⟨s', R1, E, g1, x1, x2⟩, g2, g3⟩ := hq
    rw [g1]
    exact ⟨rfl, ⟨⟨s', rfl⟩, rfl, rfl, rfl, rfl, rfl, by show p ≤ z.1; omega, g3⟩, fun hx => ⟨hx.1, hx.2.1, by show R1 = hdM u z.2.2; rw [x2, x1, hdM_ap, hx.2.2.1], hx.2.2.2⟩⟩
  · refine agr.neg (by decide) (agr.neg (by decide) (agr.neg (by decide) (agr.neg (by decide) (agr.pos rfl ?_))))
    refine agr.step (con_q2 (dirs := dirs) (k1 := k1) (k2 := k2) (k3 := k3) (k4 := k4) hu (n := n) (p := p) (s := s) (en := en) (ok := ok) (ik := ik) (ca := ca) (pn := pn) (us := us) (D1 := D1) (D2 := D2) (D3 := D3) (D4 := D4) (D5 := D5) (D6 := D6) (T := T) he hn) (stk.rf _) (fun z hz hn1 hq => ?_)
    exact ⟨hn1, hq⟩
  · have e0 : rd_kn u n 14 en (p, s, none) ok ik ca pn us D1 D2 D3 D4 D5 D6 = ((((rd_plain u n (p, s, none) 4 1 en).1, ((rd_plain u n (p, s, none) 4 1 en).2.1, (rd_plain u n (p, s, none) 4 1 en).2.2), ik, ca, pn, us, D1, D2, D3, D4, D5, D6), 1) : (rS × (Nat × Nat) × (Nat × Nat) × Int32 × Int32 × Int32 × (List (Nat × Nat)) × (List (Nat × Nat)) × (List (Nat × Nat)) × (List (Nat × Nat)) × (List (Nat × Nat)) × (List (Nat × Nat))) × Int32) := if_pos rfl
    rw [e0]
    refine agr.pos rfl ?_
    have hl := plain_q (u := u) (n := n) (p := p) (s := s) (tg := 4) (le := 1) (en := en) he
    cases hE : tx_element u p 4 en with
    | inl w => rw [hE] at hl; exact hl
    | inr z =>
      rw [hE] at hl
      have f := el_facts hE
      have hl : agr _ (@ite _ (1 ≤ z.2 - z.1) (Classical.propDecidable _) (.inr z) (.inl p)) _ := hl
      refine agr.ok rfl ?_
      by_cases hb : z.1 = z.2
      · refine agr.pos hb ?_
        rw [if_neg (by omega)] at hl
        exact hl
      · refine agr.neg hb ?_
        rw [if_pos (by omega)] at hl
        obtain ⟨_, l1, _⟩ := hl
        rw [l1]
        exact ⟨rfl, ⟨⟨p, rfl⟩, rfl, rfl, rfl, rfl, rfl, by show p ≤ z.2; omega, f.2.2.1⟩, fun hx => ⟨Or.inr ⟨z.1, z.2, by have := f.2.1; omega, by have := f.2.2.1; omega, rfl, rfl, rfl⟩, hx.2⟩⟩
  · have e0 : rd_kn u n 35 en (p, s, none) ok ik ca pn us D1 D2 D3 D4 D5 D6 = ((((rd_iky u n (p, s, none) en).1, ok, ((rd_iky u n (p, s, none) en).2.1, (rd_iky u n (p, s, none) en).2.2), ca, pn, us, D1, D2, D3, D4, D5, D6), 1) : (rS × (Nat × Nat) × (Nat × Nat) × Int32 × Int32 × Int32 × (List (Nat × Nat)) × (List (Nat × Nat)) × (List (Nat × Nat)) × (List (Nat × Nat)) × (List (Nat × Nat)) × (List (Nat × Nat))) × Int32) := (if_neg (by decide)).trans ((if_neg (by decide)).trans ((if_neg (by decide)).trans ((if_neg (by decide)).trans ((if_neg (by decide)).trans (if_pos rfl)))))
    rw [e0]
    refine agr.neg (by decide) (agr.neg (by decide) (agr.neg (by decide) (agr.neg (by decide) (agr.neg (by decide) (agr.pos rfl ?_)))))
    have hi := iky_q2 (u := u) (n := n) (p := p) (s := s) (en := en) he (fun z189 z215 : Nat × Nat => (z189.2, ca, pn, us, k1, k2, nI z215.1, nI z215.2, D1, dirs, T))
    refine agr.imp hi (fun z hq => ?_)
    obtain ⟨y, v, s', rfl, g1, g2, g3, g4⟩ := hq
    rw [g1]
    exact ⟨⟨⟨s', rfl⟩, rfl, rfl, rfl, rfl, rfl, by show p ≤ y.2; omega, g3⟩, fun hx => ⟨hx.1, Or.inr ⟨v.1, v.2, g4.1, by have := g4.2; omega, rfl, rfl, rfl⟩, hx.2.2⟩⟩
/-- the same of all that the extensions left -/
def eX (u : Nat → Nat) (s : rS × Int32 × Int32 × (List (Nat × Nat)) × (Nat × Nat) × (Nat × Nat) × Int32 × Int32 × Int32 × (List (Nat × Nat)) × (List (Nat × Nat)) × (List (Nat × Nat)) × (List (Nat × Nat)) × (List (Nat × Nat)) × (List (Nat × Nat))) (t : Nat × Int32 × List (Nat × Nat) × List (Nat × Nat) × List (Nat × Nat) × List (Nat × Nat × Nat) × Int32 × Int32 × Int32 × Int32 × Int32 × Int32 × Int32) : Prop := XR u s.2.2.2.2.1 s.2.2.2.2.2.1 s.2.2.2.2.2.2.2.2.2.2.1 s.2.2.2.2.2.2.2.2.2.2.2.1 s.2.2.2.2.2.2.2.2.2.2.2.2.1 s.2.2.2.2.2.2.2.2.2.2.2.2.2.1 s.2.2.2.2.2.2.2.2.2.2.2.2.2.2 t.2.2.2.2.2.2.2.2.2.1 t.2.2.2.2.2.2.2.2.2.2.1 t.2.2.2.2.2.2.2.2.2.2.2.1 t.2.2.2.2.2.2.2.2.2.2.2.2 t.2.2.2.2.1 t.2.2.2.2.2.1
theorem ex3C_q2 {u : Nat → Nat} (hu : ∀ j, u j < 256) {n p s0 E x0 a b : Nat} {fl f ma : Int32} {L : List (Nat × Nat)} {ok ik : Nat × Nat} {ca pn us k1 k2 k3 k4 : Int32} {D1 D2 D3 D4 D5 D6 dirs : List (Nat × Nat)} {T : List (Nat × Nat × Nat)} (hE : E ≤ n) (hn : n ≤ 2048) (hL : L.length ≤ 400) (hfl : (fl = 0 ∧ f = 0) ∨ (fl = 1 ∧ ¬ f = 0)) : agr (exC3 u n (p, s0, none) E x0 a b fl ma (nI L.length) L ok ik ca pn us D1 D2 D3 D4 D5 D6).1 (ex3 u 0 p f E a b (x0, ma, L, D1, dirs, T, ca, pn, us, k1, k2, k3, k4)) (fun t' => (∃ s', (exC3 u n (p, s0, none) E x0 a b fl ma (nI L.length) L ok ik ca pn us D1 D2 D3 D4 D5 D6).1 = (t'.1, s', none)) ∧ t'.1 = E ∧ p + 2 ≤ E ∧ eR (exC3 u n (p, s0, none) E x0 a b fl ma (nI L.length) L ok ik ca pn us D1 D2 D3 D4 D5 D6) t' ∧ t'.2.2.1 = L ++ [(a, b)] ∧ (XR u ok ik D2 D3 D4 D5 D6 k1 k2 k3 k4 dirs T → eX u (exC3 u n (p, s0, none) E x0 a b fl ma (nI L.length) L ok ik ca pn us D1 D2 D3 D4 D5 D6) t')) := by
  unfold ex3 exC3
  dsimp only
  refine agr.step (el_q (s := s0) hE) (fun w9 h9 => ((kn_stk u n _ _ _ _ _ _ _ _ _ _ _ _ _ _).tr exC4_stk) w9 h9) (fun z hz hn1 hq => ?_)
  obtain ⟨q1, q2, q3, q4, q5⟩ := hq
  rw [q1]
  dsimp only
  rw [kd_eq]
  have hrl := rep_q (u := u) (L := L) (a := a) (b := b) (x0 := x0) hL
  by_cases hk : knS (kdN u a b)
  · rw [if_neg (show ¬ knZ 0 (kdN u a b) = 0 by rw [knZ0]; exact zP_ne hk)]
    have hK := kn_q2 hu (n := n) (p := z.1) (s := p) (en := z.2) (kn := kdN u a b) (ok := ok) (ik := ik) (ca := ca) (pn := pn) (us := us) (k1 := k1) (k2 := k2) (k3 := k3) (k4 := k4) (D1 := D1) (D2 := D2) (D3 := D3) (D4 := D4) (D5 := D5) (D6 := D6) (dirs := dirs) (T := T) (by omega) hn hk
    have hK1 := kn_1 (u := u) (n := n) (en := z.2) (x := (z.1, p, none)) (ok := ok) (ik := ik) (ca := ca) (pn := pn) (us := us) (D1 := D1) (D2 := D2) (D3 := D3) (D4 := D4) (D5 := D5) (D6 := D6) hk
    generalize rd_kn u n (kdN u a b) z.2 (z.1, p, none) ok ik ca pn us D1 D2 D3 D4 D5 D6 = K at hK hK1 ⊢
    have e4 := fun {α : Type} (A B : α) => (if_neg (show ¬ K.2 = (0 : Int32) by rw [hK1]; decide) : @ite α (K.2 = (0 : Int32)) (Classical.propDecidable _) A B = B)
    unfold exC4
    rw [e4]
    refine agr.step (x := rd_fin K.1.1 z.2) (Q := fun v => ∃ y s', K.1.1 = (z.2, s', none) ∧ knQ K z.1 z.2 y ∧ knX u ok ik D2 D3 D4 D5 D6 k1 k2 k3 k4 dirs T K y ∧ v = (ma, y.2.2.2.2.2.2.2.2.1, y.2.2.2.2.2.2.2.2.2.1, y.2.2.2.2.2.2.2.2.2.2, y.2.1, y.2.2.1, y.2.2.2.1, y.2.2.2.2.1, y.2.2.2.2.2.1, y.2.2.2.2.2.2.1, y.2.2.2.2.2.2.2.1)) ?_ ?_ ?_
    · refine agr.step hK (fin_stk _ _) (fun y hy hn2 hq2 => ?_)
      obtain ⟨⟨⟨s', g1⟩, g2, g3, g4, g5, g6, g7, g8⟩, gx⟩ := hq2
      rw [g1]
      refine agr.step (fin_q (u := u) (p := y.1) (s := s') (en := z.2)) (stk.rf _) (fun _ _ _ hq3 => ?_)
      have ey : y.1 = z.2 := by omega
      rw [hq3.1]
      exact ⟨rfl, y, s', by rw [ey], ⟨⟨s', g1⟩, g2, g3, g4, g5, g6, g7, g8⟩, gx, rfl⟩
    · split
      · exact (fin_stk _ _).tr (ref_stk _ _)
      · exact fin_stk _ _
    · intro v hv hn2 hq2
      obtain ⟨y, s', g0, ⟨g1, g2, g3, g4, g5, g6, g7, g8⟩, gx, rfl⟩ := hq2
      rw [g0, show rd_fin (z.2, s', none) z.2 = (z.2, s', none) from if_neg (Nat.lt_irrefl _)]
      refine agr.step (fin_q (u := u) (p := z.2) (s := s') (en := E)) (fun w9 h9 => ?_) (fun _ _ _ hq3 => ?_)
      · split
        · exact ref_stk _ _ w9 h9
        · exact h9
      · have ez : z.2 = E := by omega
        rw [hq3.1]
        by_cases hr : repP u L a b
        · rw [if_pos hr]
          exact agr.no (x := (z.2, s', some x0)) rfl (hrl.1 hr) (stk.rf _)
        · rw [if_neg hr]
          obtain ⟨j, ej⟩ := hrl.2 hr
          refine agr.ok ej ?_
          exact ⟨rfl, ⟨s', by rw [ez]⟩, rfl, by omega, ⟨rfl, ap_len _ _, rfl, g3, g4, g5, g6⟩, rfl, gx⟩
  · rw [if_pos (show knZ 0 (kdN u a b) = 0 by rw [knZ0]; exact zPf0 hk), kn_0 hk]
    unfold exC4
    rw [if_pos rfl]
    dsimp only
    rw [show rd_lea (z.1, p, none) z.2 (1 : Int32) = (z.2, p, none) from lea_ok (by decide)]
    have eA : (@ite (Nat ⊕ (Int32 × List (Nat × Nat) × List (Nat × Nat) × List (Nat × Nat × Nat) × Int32 × Int32 × Int32 × Int32 × Int32 × Int32 × Int32)) (f = (0 : Int32)) (Classical.propDecidable _) (.inr (ma, D1, dirs, T, ca, pn, us, k1, k2, k3, k4)) (.inr (ma + 1, D1, dirs, T, ca, pn, us, k1, k2, k3, k4))) = .inr (ma + fl, D1, dirs, T, ca, pn, us, k1, k2, k3, k4) := by
      rcases hfl with ⟨h1, h2⟩ | ⟨h1, h2⟩
      · rw [if_pos h2, h1, Int32.add_zero]
      · rw [if_neg h2, h1]
    refine agr.ok eA ?_
    refine agr.step (fin_q (u := u) (p := z.2) (s := p) (en := E)) (fun w9 h9 => ?_) (fun _ _ _ hq3 => ?_)
    · split
      · exact ref_stk _ _ w9 h9
      · exact h9
    · have ez : z.2 = E := by omega
      rw [hq3.1]
      by_cases hr : repP u L a b
      · rw [if_pos hr]
        exact agr.no (x := (z.2, p, some x0)) rfl (hrl.1 hr) (stk.rf _)
      · rw [if_neg hr]
        obtain ⟨j, ej⟩ := hrl.2 hr
        refine agr.ok ej ?_
        exact ⟨rfl, ⟨p, by rw [ez]⟩, rfl, by omega, ⟨rfl, ap_len _ _, rfl, rfl, rfl, rfl, rfl⟩, rfl, fun hx => hx⟩
/-- the flag that an extension may bear -/
theorem rbC_q2 {u : Nat → Nat} (hu : ∀ j, u j < 256) {n e : Nat} (he : e ≤ n) (hn : n ≤ 2048) (s : rS × Int32 × Int32 × (List (Nat × Nat)) × (Nat × Nat) × (Nat × Nat) × Int32 × Int32 × Int32 × (List (Nat × Nat)) × (List (Nat × Nat)) × (List (Nat × Nat)) × (List (Nat × Nat)) × (List (Nat × Nat)) × (List (Nat × Nat))) (t : Nat × Int32 × List (Nat × Nat) × List (Nat × Nat) × List (Nat × Nat) × List (Nat × Nat × Nat) × Int32 × Int32 × Int32 × Int32 × Int32 × Int32 × Int32) (h : eI e s t ∧ eX u s t) : agr (rb_extC u n e s).1 (exB u 0 e t) (fun t' => (eI e (rb_extC u n e s) t' ∧ eX u (rb_extC u n e s) t') ∧ t.1 < t'.1) := by
  obtain ⟨h, hX⟩ := h
  obtain ⟨x, ma, ex, L, ok, ik, ca, pn, us, D1, D2, D3, D4, D5, D6⟩ := s
  obtain ⟨t1, ma', L', dns, dirs, T, ca', ln, us', k1, k2, k3, k4⟩ := t
  obtain ⟨⟨s', h0⟩, h1, h2, h3, h4, h5, h6, h7, h8, h9⟩ := h
  change x = (t1, s', none) at h0
  change ma = ma' at h3
  change ex = nI L'.length at h4
  change L = L' at h5
  change ca = ca' at h6
  change pn = ln at h7
  change us = us' at h8
  change D1 = dns at h9
  change t1 ≤ e at h1
  change 7 * L'.length ≤ t1 at h2
  change XR u ok ik D2 D3 D4 D5 D6 k1 k2 k3 k4 dirs T at hX
  subst h0 h3 h5 h6 h7 h8 h9 h4
  rw [rbC_eq]
  unfold exB
  dsimp only
  refine agr.step (el_q (s := s') he) (fun w9 h9 => ?_) (fun z hz hn1 hq => ?_)
  · generalize rd_opn u n (t1, s', none) 48 e = o at h9 ⊢
    have h2 := opn_stk u n o.1 6 o.2 w9 h9
    generalize rd_opn u n o.1 6 o.2 = d at h2 ⊢
    have h3 := lea_stk d.1 d.2 (zP (oidOK u d.1.1 d.2)) w9 h2
    generalize rd_lea d.1 d.2 (zP (oidOK u d.1.1 d.2)) = y at h3 ⊢
    split
    · exact ((flag_stk u n _ _).tr exC3_stk) w9 h3
    · exact exC3_stk w9 h3
  obtain ⟨q1, q2, q3, q4, q5⟩ := hq
  rw [q1]
  dsimp only
  refine agr.step (oid_q (u := u) (n := n) (p := z.1) (s := t1) (en := z.2) (by omega) hn) ?_ (fun d hd hn2 hq2 => ?_)
  · split
    · exact (flag_stk u n _ _).tr exC3_stk
    · exact exC3_stk
  obtain ⟨r1, r2, r3, r4, r5, r6⟩ := hq2
  rw [r1]
  dsimp only
  rw [r2]
  dsimp only
  by_cases hc : d.2 < z.2 ∧ u d.2 = 1
  · rw [if_pos ⟨rfl, hc⟩]
    refine agr.step (fl_q hu (n := n) (p := d.2) (s := z.1) (E := z.2) (by omega) hc.1 hc.2) exC3_stk (fun v hv hn3 hq3 => ?_)
    obtain ⟨g1, g2, g3, g4⟩ := hq3
    rw [g1]
    refine agr.imp (ex3C_q2 (dirs := dirs) (T := T) (k1 := k1) (k2 := k2) (k3 := k3) (k4 := k4) hu (n := n) (p := v.1) (s0 := d.2) (E := z.2) (x0 := t1) (a := d.1) (b := d.2) (fl := 1) (f := v.2) (by omega) hn (by omega) (Or.inr ⟨rfl, g2⟩)) (fun t' hq4 => ?_)
    obtain ⟨i1, i2, i3, i4, i5, i6⟩ := hq4
    refine ⟨⟨⟨i1, by omega, ?_, i4⟩, i6 hX⟩, by show t1 < t'.1; omega⟩
    rw [i5, List.length_append]
    show 7 * (L.length + 1) ≤ t'.1
    omega
  · rw [if_neg (fun q => hc q.2)]
    refine agr.ok (nfl hc) ?_
    refine agr.imp (ex3C_q2 (dirs := dirs) (T := T) (k1 := k1) (k2 := k2) (k3 := k3) (k4 := k4) hu (n := n) (p := d.2) (s0 := z.1) (E := z.2) (x0 := t1) (a := d.1) (b := d.2) (fl := 0) (f := 0) (by omega) hn (by omega) (Or.inl ⟨rfl, rfl⟩)) (fun t' hq4 => ?_)
    obtain ⟨i1, i2, i3, i4, i5, i6⟩ := hq4
    refine ⟨⟨⟨i1, by omega, ?_, i4⟩, i6 hX⟩, by show t1 < t'.1; omega⟩
    rw [i5, List.length_append]
    show 7 * (L.length + 1) ≤ t'.1
    omega
theorem extC_q2 {u : Nat → Nat} (hu : ∀ j, u j < 256) {n p s en : Nat} {ma : Int32} {ok ik : Nat × Nat} {ca pn us k1 k2 k3 k4 : Int32} {D1 D2 D3 D4 D5 D6 dirs : List (Nat × Nat)} {T : List (Nat × Nat × Nat)} (he : en ≤ n) (hn : n ≤ 2048) (hX : XR u ok ik D2 D3 D4 D5 D6 k1 k2 k3 k4 dirs T) : agr (rd_extC u n (p, s, none) en ma 0 ok ik ca pn us D1 D2 D3 D4 D5 D6).1 (tx_extensions u p en 0 D1 dirs T ma ca pn us k1 k2 k3 k4) (fun z => (∃ s', (rd_extC u n (p, s, none) en ma 0 ok ik ca pn us D1 D2 D3 D4 D5 D6).1 = (z.1, s', none)) ∧ eR (rd_extC u n (p, s, none) en ma 0 ok ik ca pn us D1 D2 D3 D4 D5 D6) (z.1, z.2.1, z.2.2.2.2.2.2.2.2.2.2.2.2, z.2.2.2.2.2.2.2.2.2.1, z.2.2.2.2.2.2.2.2.2.2.1, z.2.2.2.2.2.2.2.2.2.2.2.1, z.2.2.1, z.2.2.2.1, z.2.2.2.2.1, 0, 0, 0, 0) ∧ p + 2 ≤ z.1 ∧ z.1 ≤ en ∧ XR u (rd_extC u n (p, s, none) en ma 0 ok ik ca pn us D1 D2 D3 D4 D5 D6).2.2.2.2.1 (rd_extC u n (p, s, none) en ma 0 ok ik ca pn us D1 D2 D3 D4 D5 D6).2.2.2.2.2.1 (rd_extC u n (p, s, none) en ma 0 ok ik ca pn us D1 D2 D3 D4 D5 D6).2.2.2.2.2.2.2.2.2.2.1 (rd_extC u n (p, s, none) en ma 0 ok ik ca pn us D1 D2 D3 D4 D5 D6).2.2.2.2.2.2.2.2.2.2.2.1 (rd_extC u n (p, s, none) en ma 0 ok ik ca pn us D1 D2 D3 D4 D5 D6).2.2.2.2.2.2.2.2.2.2.2.2.1 (rd_extC u n (p, s, none) en ma 0 ok ik ca pn us D1 D2 D3 D4 D5 D6).2.2.2.2.2.2.2.2.2.2.2.2.2.1 (rd_extC u n (p, s, none) en ma 0 ok ik ca pn us D1 D2 D3 D4 D5 D6).2.2.2.2.2.2.2.2.2.2.2.2.2.2 z.2.2.2.2.2.1 z.2.2.2.2.2.2.1 z.2.2.2.2.2.2.2.1 z.2.2.2.2.2.2.2.2.1 z.2.2.2.2.2.2.2.2.2.2.1 z.2.2.2.2.2.2.2.2.2.2.2.1) := by
  have e9 : tx_extensions u p en 0 D1 dirs T ma ca pn us k1 k2 k3 k4 = (eb (tx_element u p 48 en) (fun z4 => (@ite _ (z4.1 = z4.2) (Classical.propDecidable _) (.inl z4.2) (eb (loopE (exB u 0 z4.2) (fun t => ¬ (z4.2 ≤ t.1)) 2048 (z4.1, ma, ([] : List (Nat × Nat)), D1, dirs, T, ca, pn, us, k1, k2, k3, k4)) (fun s44 => (.inr (s44.1, s44.2.1, s44.2.2.2.2.2.2.1, s44.2.2.2.2.2.2.2.1, s44.2.2.2.2.2.2.2.2.1, s44.2.2.2.2.2.2.2.2.2.1, s44.2.2.2.2.2.2.2.2.2.2.1, s44.2.2.2.2.2.2.2.2.2.2.2.1, s44.2.2.2.2.2.2.2.2.2.2.2.2, s44.2.2.2.1, s44.2.2.2.2.1, s44.2.2.2.2.2.1, s44.2.2.1))))))) := rfl
  rw [e9]
  unfold rd_extC
  obtain ⟨f9, hf9⟩ : ∃ f9, 2048 = f9 + 1 := ⟨2047, rfl⟩
  rw [hf9] at hn ⊢
  refine agr.step (el_q (s := s) he) (fun w9 h9 => ?_) (fun z hz hn1 hq => ?_)
  · generalize rd_opn u n (p, s, none) 48 en = o at h9 ⊢
    rw [show loopF (rb_extC u n o.2) (fun s9 => mr s9.1 o.2) (f9 + 1) true (o.1, ma, 0, ([] : List (Nat × Nat)), ok, ik, ca, pn, us, D1, D2, D3, D4, D5, D6) = loopF (rb_extC u n o.2) (fun s9 => mr s9.1 o.2) f9 false (rb_extC u n o.2 (o.1, ma, 0, ([] : List (Nat × Nat)), ok, ik, ca, pn, us, D1, D2, D3, D4, D5, D6)) from if_pos (Or.inl rfl)]
    exact lpF_stk (st := Prod.fst) f9 _ w9 (rbC_stk _ w9 h9)
  · obtain ⟨q1, q2, q3, q4, q5⟩ := hq
    rw [q1]
    dsimp only
    have hn' : n ≤ 2048 := by omega
    have hI0 : eI z.2 ((z.1, p, none), ma, 0, ([] : List (Nat × Nat)), ok, ik, ca, pn, us, D1, D2, D3, D4, D5, D6) (z.1, ma, ([] : List (Nat × Nat)), D1, dirs, T, ca, pn, us, k1, k2, k3, k4) := ⟨⟨p, rfl⟩, q3, Nat.zero_le _, rfl, rfl, rfl, rfl, rfl, rfl, rfl⟩
    by_cases hz0 : z.1 = z.2
    · refine agr.pos hz0 ?_
      rw [show loopF (rb_extC u n z.2) (fun s9 => mr s9.1 z.2) (f9 + 1) true ((z.1, p, none), ma, 0, ([] : List (Nat × Nat)), ok, ik, ca, pn, us, D1, D2, D3, D4, D5, D6) = loopF (rb_extC u n z.2) (fun s9 => mr s9.1 z.2) f9 false (rb_extC u n z.2 ((z.1, p, none), ma, 0, ([] : List (Nat × Nat)), ok, ik, ca, pn, us, D1, D2, D3, D4, D5, D6)) from if_pos (Or.inl rfl)]
      refine lpF_stk (st := Prod.fst) f9 _ z.2 ?_
      have hb := rbC_q2 hu (n := n) (e := z.2) (by omega) hn' _ _ ⟨hI0, hX⟩
      have e : exB u 0 z.2 (z.1, ma, ([] : List (Nat × Nat)), D1, dirs, T, ca, pn, us, k1, k2, k3, k4) = .inl z.2 := by
        unfold exB
        refine eb_no ?_
        unfold tx_element
        rw [if_neg (by show ¬ z.1 < z.2; omega)]
      rw [e] at hb
      exact hb
    · refine agr.neg hz0 ?_
      rw [loopF_t (M := fun s9 : rS × Int32 × Int32 × (List (Nat × Nat)) × (Nat × Nat) × (Nat × Nat) × Int32 × Int32 × Int32 × (List (Nat × Nat)) × (List (Nat × Nat)) × (List (Nat × Nat)) × (List (Nat × Nat)) × (List (Nat × Nat)) × (List (Nat × Nat)) => mr s9.1 z.2) (s := ((z.1, p, none), ma, 0, ([] : List (Nat × Nat)), ok, ik, ca, pn, us, D1, D2, D3, D4, D5, D6)) ⟨rfl, by show z.1 < z.2; omega⟩]
      have hLp := loop_q (B := rb_extC u n z.2) (st := Prod.fst) (RB := exB u 0 z.2) (pos := Prod.fst) (e := z.2) (I := fun s t => eI z.2 s t ∧ eX u s t) (fun s t h => by
        obtain ⟨⟨⟨s', h1⟩, h2, _⟩, _⟩ := h
        rw [h1]
        exact ⟨rfl, rfl, h2⟩) (fun s t h hp => rbC_q2 hu (n := n) (e := z.2) (by omega) hn' s t h) (f9 + 1) _ _ ⟨hI0, hX⟩ (by show z.2 - z.1 ≤ f9 + 1; omega)
      refine agr.step hLp (stk.rf _) (fun v hv hn2 hq2 => ?_)
      obtain ⟨⟨⟨g1, g2, g3, g4⟩, gX⟩, g5⟩ := hq2
      exact ⟨hn2, g1, g4, by show p + 2 ≤ v.1; rw [g5]; omega, by show v.1 ≤ en; omega, gX⟩
theorem fnm_hd {u : Nat → Nat} {n p s en e s' k a e' : Nat} (he : en ≤ n) (h : rd_fnm u n (p, s, none) en = ((e, s', none), k, a, e')) : a = hdr u p := by
  unfold rd_fnm at h
  obtain ⟨Z, hZ⟩ : ∃ Z, rd_nam u n (p, s, none) en = Z := ⟨_, rfl⟩
  rw [hZ] at h
  dsimp only at h
  obtain ⟨⟨e1, s1, w1⟩, k1, a1, b1⟩ := Z
  have ha : a1 = a := by
    have h9 := congrArg (fun z => z.2.2.1) h
    revert h9
    dsimp only
    first | exact fun h9 => h9 | (split <;> exact fun h9 => h9)
  cases w1 with
  | none => rw [← ha]; exact nam_hd he hZ
  | some w =>
    have h9 := congrArg (fun z => z.1.2.2) h
    revert h9
    dsimp only
    first
      | (intro h9; have h8 := ref_stk (e1, s1, some w) p w rfl; rw [h9] at h8; cases h8)
      | (split <;> (intro h9; first | cases h9 | (have h8 := ref_stk (e1, s1, some w) p w rfl; rw [h9] at h8; cases h8)))
theorem fnm_hk {u : Nat → Nat} {n p s en e s' k a e' : Nat} (he : en ≤ n) (h : rd_fnm u n (p, s, none) en = ((e, s', none), k, a, e')) : hdK u p e' := by
  unfold rd_fnm at h
  obtain ⟨Z, hZ⟩ : ∃ Z, rd_nam u n (p, s, none) en = Z := ⟨_, rfl⟩
  rw [hZ] at h
  dsimp only at h
  obtain ⟨⟨e1, s1, w1⟩, k1, a1, b1⟩ := Z
  have ha : b1 = e' := by
    have h9 := congrArg (fun z => z.2.2.2) h
    revert h9
    dsimp only
    first | exact fun h9 => h9 | (split <;> exact fun h9 => h9)
  cases w1 with
  | none => rw [← ha]; exact nam_hk he hZ
  | some w =>
    have h9 := congrArg (fun z => z.1.2.2) h
    revert h9
    dsimp only
    first
      | (intro h9; have h8 := ref_stk (e1, s1, some w) p w rfl; rw [h9] at h8; cases h8)
      | (split <;> (intro h9; first | cases h9 | (have h8 := ref_stk (e1, s1, some w) p w rfl; rw [h9] at h8; cases h8)))
theorem hdC_q2 {β : Type} {u : Nat → Nat} (hu : ∀ j, u j < 256) {n p s en : Nat} (he : en ≤ n) (hn : n ≤ 2048) {y : rS} {P : β → Prop} {F : Nat × Nat → Nat → Nat × Nat → Nat × Nat → Nat × Int64 → Nat × Int64 → Nat × Nat × Nat → Nat ⊕ β} (hs : stk (rd_hdC u n (p, s, none) en).1 y) (hk : ∀ z46 z75 z83 z95 z118 z136 z162 s' i1 i2 s1, rd_hdC u n (p, s, none) en = ((z162.2.2, s', none), z46.1, z46.2, i1, i2, s1, z162.2.2, z162.2.1, nI z162.2.1, zP (z162.2.2 - s1 = i2 - i1 ∧ eqN u u s1 i1 (z162.2.2 - s1)), z118.2, z136.2) → z162.1 = z162.2.2 → p + 2 ≤ z162.2.2 → z162.2.2 ≤ en → z46.1 < z46.2 → z46.2 ≤ en → i1 = hdr u z75 → i2 = z83.2 → s1 = hdr u z95.2 → hdK u z75 i2 → hdK u z95.2 z162.2.2 → agr y (F z46 z75 z83 z95 z118 z136 z162) P) : agr y (tx_hd u p en F) P := by
  unfold tx_hd
  unfold rd_hdC at hs hk
  dsimp only at hs hk
  refine agr.step (el_q (u := u) (n := n) (p := p) (s := s) (tg := 160) (en := en) he) (((nm_stk u n _ 2 _).tr ((req_stk _ _).tr ((fin_stk _ _).tr ((ser_stk u n _ _).tr ((alg_stk u n _ 11 _).tr ((fnm_stk u n _ _).tr ((opn_stk u n _ 48 _).tr ((time_stk u n _ _).tr ((time_stk u n _ _).tr ((fin_stk _ _).tr (nam_stk u n _ _))))))))))).tr hs) (fun z5 hz5 hn1 hq1 => ?_)
  obtain ⟨a1, a2, a3, a4, a5⟩ := hq1
  rw [a1] at hs hk
  dsimp only at hs hk
  refine agr.step (numr_q hu (n := n) (p := z5.1) (s := p) (en := z5.2) (by omega) (lo := 2) (hi := 2) (by omega) (by omega) (P := fun x => (lg_cmp x 2) = (0 : Int32)) (fun x => i2c 2 2 (by decide) x)) (((fin_stk _ _).tr ((ser_stk u n _ _).tr ((alg_stk u n _ 11 _).tr ((fnm_stk u n _ _).tr ((opn_stk u n _ 48 _).tr ((time_stk u n _ _).tr ((time_stk u n _ _).tr ((fin_stk _ _).tr (nam_stk u n _ _))))))))).tr hs) (fun z30 hz30 hn2 hq2 => ?_)
  obtain ⟨y2, b1, b2, b3, b4, b5, b6⟩ := hq2
  subst b3
  rw [b1] at hs hk
  dsimp only at hs hk
  rw [req_ok (zP_ne b2)] at hs hk
  refine agr.step (fin_q (u := u) (p := y2.2) (s := z5.1) (en := z5.2)) (((ser_stk u n _ _).tr ((alg_stk u n _ 11 _).tr ((fnm_stk u n _ _).tr ((opn_stk u n _ 48 _).tr ((time_stk u n _ _).tr ((time_stk u n _ _).tr ((fin_stk _ _).tr (nam_stk u n _ _)))))))).tr hs) (fun _ _ _ hq3 => ?_)
  rw [hq3.1, show y2.2 = z5.2 by omega] at hs hk
  refine agr.step (ser_q hu (n := n) (p := z5.2) (s := z5.1) (en := en) he) (((alg_stk u n _ 11 _).tr ((fnm_stk u n _ _).tr ((opn_stk u n _ 48 _).tr ((time_stk u n _ _).tr ((time_stk u n _ _).tr ((fin_stk _ _).tr (nam_stk u n _ _))))))).tr hs) (fun z46 hz46 hn4 hq4 => ?_)
  obtain ⟨c1, c2, c3, c4⟩ := hq4
  rw [c1] at hs hk
  dsimp only at hs hk
  refine agr.step (alg_q hu (n := n) (p := z46.2) (s := z5.2) (en := en) algH11 he hn) (((fnm_stk u n _ _).tr ((opn_stk u n _ 48 _).tr ((time_stk u n _ _).tr ((time_stk u n _ _).tr ((fin_stk _ _).tr (nam_stk u n _ _)))))).tr hs) (fun z75 hz75 hn5 hq5 => ?_)
  obtain ⟨s5, d1, d2, d3⟩ := hq5
  rw [d1] at hs hk
  refine agr.step (fnm_q hu (n := n) (p := z75) (s := s5) (en := en) he hn) (((opn_stk u n _ 48 _).tr ((time_stk u n _ _).tr ((time_stk u n _ _).tr ((fin_stk _ _).tr (nam_stk u n _ _))))).tr hs) (fun z83 hz83 hn6 hq6 => ?_)
  obtain ⟨s6, i1, k6, f1, f2, f3, f4, f5⟩ := hq6
  rw [f1] at hs hk
  dsimp only at hs hk
  rw [f2]
  refine agr.step (el_q (u := u) (n := n) (p := z83.2) (s := s6) (tg := 48) (en := en) he) (((time_stk u n _ _).tr ((time_stk u n _ _).tr ((fin_stk _ _).tr (nam_stk u n _ _)))).tr hs) (fun z95 hz95 hn7 hq7 => ?_)
  obtain ⟨g1, g2, g3, g4, g5⟩ := hq7
  rw [g1] at hs hk
  dsimp only at hs hk
  refine agr.step (time_q hu (n := n) (p := z95.1) (s := z83.2) (en := z95.2) (by omega)) (((time_stk u n _ _).tr ((fin_stk _ _).tr (nam_stk u n _ _))).tr hs) (fun z118 hz118 hn8 hq8 => ?_)
  obtain ⟨h1, h2, h3, hv8⟩ := hq8
  rw [h1] at hs hk
  refine agr.step (time_q hu (n := n) (p := z118.1) (s := z95.1) (en := z95.2) (by omega)) (((fin_stk _ _).tr (nam_stk u n _ _)).tr hs) (fun z136 hz136 hn9 hq9 => ?_)
  obtain ⟨j1, j2, j3, hv9⟩ := hq9
  rw [j1] at hs hk
  refine agr.step (fin_q (u := u) (p := z136.1) (s := z118.1) (en := z95.2)) ((nam_stk u n _ _).tr hs) (fun _ _ _ hq10 => ?_)
  rw [hq10.1, show z136.1 = z95.2 by omega] at hs hk
  refine agr.step (nam_q hu (n := n) (p := z95.2) (s := z118.1) (en := en) he hn) hs (fun z162 hz162 hn11 hq11 => ?_)
  obtain ⟨s11, sa, l1, l2, l3, l4, l5, l6, l7⟩ := hq11
  rw [l1] at hk
  dsimp only at hk
  exact hk z46 z75 z83 z95 z118 z136 z162 s11 i1 z83.2 sa (by rw [hv8, hv9]) l2 (by omega) l5 c3 c4 (fnm_hd he f1) rfl (nam_hd he l1) (fnm_hk he f1) (nam_hk he l1)
/-- names, keys and trees of a certificate -/
def cX2 (u : Nat → Nat) (C : rS × (Nat × Nat) × (Nat × Nat) × (Nat × Nat) × (Nat × Nat) × (Nat × Nat) × (Nat × Nat) × (Nat × Nat) × (Nat × Nat) × Int32 × Int32 × Int32 × Int32 × Int32 × Int32 × Int32 × Int32 × Int32 × Int64 × Int64 × (List (Nat × Nat)) × (List (Nat × Nat)) × (List (Nat × Nat)) × (List (Nat × Nat)) × (List (Nat × Nat)) × (List (Nat × Nat)) × (List (Nat × Nat)) × Int32 × Int32) (z : Nat × Nat × Nat × Nat × Nat × Nat × Nat × Nat × Nat × Int64 × Int64 × Int32 × Int32 × Int32 × Int32 × Int32 × Int32 × Int32 × Int32 × Int32 × Int32 × Nat × Nat × Nat × Nat × List (Nat × Nat) × List (Nat × Nat) × List (Nat × Nat × Nat)) : Prop := C.2.2.1 = (hdr u z.2.2.1, z.2.2.2.1) ∧ C.2.2.2.1 = (hdr u z.2.2.2.2.1, z.2.2.2.2.2.1) ∧ XR u C.2.2.2.2.2.2.2.1 C.2.2.2.2.2.2.2.2.1 C.2.2.2.2.2.2.2.2.2.2.2.2.2.2.2.2.2.2.2.2.2.1 C.2.2.2.2.2.2.2.2.2.2.2.2.2.2.2.2.2.2.2.2.2.2.1 C.2.2.2.2.2.2.2.2.2.2.2.2.2.2.2.2.2.2.2.2.2.2.2.1 C.2.2.2.2.2.2.2.2.2.2.2.2.2.2.2.2.2.2.2.2.2.2.2.2.1 C.2.2.2.2.2.2.2.2.2.2.2.2.2.2.2.2.2.2.2.2.2.2.2.2.2.1 z.2.2.2.2.2.2.2.2.2.2.2.2.2.2.2.2.2.1 z.2.2.2.2.2.2.2.2.2.2.2.2.2.2.2.2.2.2.1 z.2.2.2.2.2.2.2.2.2.2.2.2.2.2.2.2.2.2.2.1 z.2.2.2.2.2.2.2.2.2.2.2.2.2.2.2.2.2.2.2.2.1 z.2.2.2.2.2.2.2.2.2.2.2.2.2.2.2.2.2.2.2.2.2.2.2.2.2.2.1 z.2.2.2.2.2.2.2.2.2.2.2.2.2.2.2.2.2.2.2.2.2.2.2.2.2.2.2 ∧ hdK u z.2.2.1 z.2.2.2.1 ∧ hdK u z.2.2.2.2.1 z.2.2.2.2.2.1
theorem cert_q2 {u : Nat → Nat} (hu : ∀ j, u j < 256) {n s : Nat} {ok ik : Nat × Nat} {f1 f2 : Int32} {D2 D3 D4 D5 D6 D7 : List (Nat × Nat)} (hn : n ≤ 2048) (hX : XR u ok ik D2 D3 D4 D5 D6 (-1) f1 (-1) f2 [] []) : agr (rd_cert u n (0, s, none) 0 0 ok ik 0 (-1) (-1) [] D2 D3 D4 D5 D6 D7).1 (tx_readC u n f1 f2) (fun z => (∃ s', (rd_cert u n (0, s, none) 0 0 ok ik 0 (-1) (-1) [] D2 D3 D4 D5 D6 D7).1 = (n, s', none)) ∧ cV u (rd_cert u n (0, s, none) 0 0 ok ik 0 (-1) (-1) [] D2 D3 D4 D5 D6 D7) z ∧ cX2 u (rd_cert u n (0, s, none) 0 0 ok ik 0 (-1) (-1) [] D2 D3 D4 D5 D6 D7) z) := by
  have e1 := cert_1 u n (0, s, none) 0 0 ok ik 0 (-1) (-1) [] D2 D3 D4 D5 D6 D7
  have eP : ∀ (o8 o21 : rS × Nat) H K, rd_opn u n (0, s, none) 48 n = o8 → rd_opn u n o8.1 48 o8.2 = o21 → rd_hdC u n o21.1 o21.2 = H → rd_key u n H.1 o21.2 = K → ((K.1.2.2 = none ∧ K.1.1 < o21.2 ∧ u K.1.1 = 163) → rd_cert u n (0, s, none) 0 0 ok ik 0 (-1) (-1) [] D2 D3 D4 D5 D6 D7 = (let z27 := H; let z32 := K; let z51 := rd_opn u n z32.1 163 o21.2; (let z59 := rd_extC u n z51.1 z51.2 0 0 ok ik 0 (-1) (-1) [] D2 D3 D4 D5 D6; (let z65 := rd_fin z59.1 z51.2; (let z70 := rd_fin z65 o21.2; (let zb121 := (rd_bits u n (rd_alg u n z70 11 o8.2) o8.2); (let z121 := rd_sig u n z70 o8.2; (z121, (z27.2.1, z27.2.2.1), (z27.2.2.2.1, z27.2.2.2.2.1), (z27.2.2.2.2.2.1, z27.2.2.2.2.2.2.1), (z32.2.1, z32.2.2.1), (o8.1.1, o21.2), (zb121.1.1, zb121.2), z59.2.2.2.2.1, z59.2.2.2.2.2.1, z27.2.2.2.2.2.2.2.2.1, z32.2.2.2.1, z32.2.2.2.2, z59.2.2.2.2.2.2.1, z59.2.2.2.2.2.2.2.1, z59.2.2.2.2.2.2.2.2.1, z59.2.2.1, z27.2.2.2.2.2.2.2.2.2.1, z59.2.1, z27.2.2.2.2.2.2.2.2.2.2.1, z27.2.2.2.2.2.2.2.2.2.2.2, z59.2.2.2.2.2.2.2.2.2.1, z59.2.2.2.2.2.2.2.2.2.2.1, z59.2.2.2.2.2.2.2.2.2.2.2.1, z59.2.2.2.2.2.2.2.2.2.2.2.2.1, z59.2.2.2.2.2.2.2.2.2.2.2.2.2.1, z59.2.2.2.2.2.2.2.2.2.2.2.2.2.2, z59.2.2.2.1, z59.2.1, z59.2.2.1)))))))) ∧ (¬ (K.1.2.2 = none ∧ K.1.1 < o21.2 ∧ u K.1.1 = 163) → rd_cert u n (0, s, none) 0 0 ok ik 0 (-1) (-1) [] D2 D3 D4 D5 D6 D7 = (let z27 := H; let z32 := K; (let z70 := rd_fin z32.1 o21.2; (let zb121 := (rd_bits u n (rd_alg u n z70 11 o8.2) o8.2); (let z121 := rd_sig u n z70 o8.2; (z121, (z27.2.1, z27.2.2.1), (z27.2.2.2.1, z27.2.2.2.2.1), (z27.2.2.2.2.2.1, z27.2.2.2.2.2.2.1), (z32.2.1, z32.2.2.1), (o8.1.1, o21.2), (zb121.1.1, zb121.2), ok, ik, z27.2.2.2.2.2.2.2.2.1, z32.2.2.2.1, z32.2.2.2.2, 0, -1, -1, 0, z27.2.2.2.2.2.2.2.2.2.1, 0, z27.2.2.2.2.2.2.2.2.2.2.1, z27.2.2.2.2.2.2.2.2.2.2.2, [], D2, D3, D4, D5, D6, D7, 0, 0)))))) := by
    rintro o8 o21 H K rfl rfl rfl rfl
    exact ⟨fun c => if_pos c, fun c => if_neg c⟩
  generalize rd_cert u n (0, s, none) 0 0 ok ik 0 (-1) (-1) [] D2 D3 D4 D5 D6 D7 = C at e1 eP ⊢
  have e9 : tx_readC u n f1 f2 = (eb (tx_element u 0 48 n) (fun z77 => (eb (tx_element u z77.1 48 z77.2) (fun z102 => (eb (tx_hd u z102.1 z102.2 (fun z46 z75 z83 z95 z118 z136 z162 => tx_ky u z162.1 z102.2 (fun z198 z255 => (@ite _ (z198.2 = z102.2) (Classical.propDecidable _) (.inr (z198.2, z46.1, z46.2, z75, z83.2, z95.2, z162.2.2, z162.2.1, z255.2.1, z255.2.2.1, z118.2, z136.2, z255.2.2.2, 0, 0, 0, (-1), (-1), (-1), f1, (-1), f2, [], [], [])) (eb (tx_element u z198.2 163 z102.2) (fun z294 => (eb (tx_extensions u z294.1 z294.2 0 [] [] [] 0 0 (-1) (-1) (-1) f1 (-1) f2) (fun z318 => (eb (tx_done u z318.1 z294.2) (fun z336 => (.inr (z294.2, z46.1, z46.2, z75, z83.2, z95.2, z162.2.2, z162.2.1, z255.2.1, z255.2.2.1, z118.2, z136.2, z255.2.2.2, nI z318.2.2.2.2.2.2.2.2.2.2.2.2.length, z318.2.1, z318.2.2.1, z318.2.2.2.1, z318.2.2.2.2.1, z318.2.2.2.2.2.1, z318.2.2.2.2.2.2.1, z318.2.2.2.2.2.2.2.1, z318.2.2.2.2.2.2.2.2.1, z318.2.2.2.2.2.2.2.2.2.1, z318.2.2.2.2.2.2.2.2.2.2.1, z318.2.2.2.2.2.2.2.2.2.2.2.1)))))))))))) (fun z157 => (eb (tx_done u z157.1 z102.2) (fun z168 => (tx_sg u z102.2 z77.2 n (fun z189 => .inr (z157.2.1, z157.2.2.1, z157.2.2.2.1, z157.2.2.2.2.1, z157.2.2.2.2.2.1, z157.2.2.2.2.2.2.1, z157.2.2.2.2.2.2.2.1, z157.2.2.2.2.2.2.2.2.1, z157.2.2.2.2.2.2.2.2.2.1, z157.2.2.2.2.2.2.2.2.2.2.1, z157.2.2.2.2.2.2.2.2.2.2.2.1, z157.2.2.2.2.2.2.2.2.2.2.2.2.1, z157.2.2.2.2.2.2.2.2.2.2.2.2.2.1, z157.2.2.2.2.2.2.2.2.2.2.2.2.2.2.1, z157.2.2.2.2.2.2.2.2.2.2.2.2.2.2.2.1, z157.2.2.2.2.2.2.2.2.2.2.2.2.2.2.2.2.1, z157.2.2.2.2.2.2.2.2.2.2.2.2.2.2.2.2.2.1, z157.2.2.2.2.2.2.2.2.2.2.2.2.2.2.2.2.2.2.1, z157.2.2.2.2.2.2.2.2.2.2.2.2.2.2.2.2.2.2.2.1, z157.2.2.2.2.2.2.2.2.2.2.2.2.2.2.2.2.2.2.2.2.1, z157.2.2.2.2.2.2.2.2.2.2.2.2.2.2.2.2.2.2.2.2.2.1, z77.1, z102.2, z189.1, z189.2, z157.2.2.2.2.2.2.2.2.2.2.2.2.2.2.2.2.2.2.2.2.2.2.1, z157.2.2.2.2.2.2.2.2.2.2.2.2.2.2.2.2.2.2.2.2.2.2.2.1, z157.2.2.2.2.2.2.2.2.2.2.2.2.2.2.2.2.2.2.2.2.2.2.2.2))))))))))) := rfl
  rw [e9, e1]
  dsimp only
  refine agr.step (el_q (u := u) (n := n) (p := 0) (s := s) (tg := 48) (en := n) (Nat.le_refl _)) ((opn_stk u n _ 48 _).tr ((hdC_stk u n _ _).tr ((key_stk u n _ _).tr (crM_stk.tr (sig_stk u n _ _))))) (fun z77 hz77 hn1 hq1 => ?_)
  obtain ⟨a1, a2, a3, a4, a5⟩ := hq1
  have eP1 := eP _ _ _ _ a1 rfl rfl rfl
  rw [a1]
  dsimp only
  refine agr.step (el_q (u := u) (n := n) (p := z77.1) (s := 0) (tg := 48) (en := z77.2) (by omega)) ((hdC_stk u n _ _).tr ((key_stk u n _ _).tr (crM_stk.tr (sig_stk u n _ _)))) (fun z102 hz102 hn2 hq2 => ?_)
  obtain ⟨b1, b2, b3, b4, b5⟩ := hq2
  have eP2 := eP _ _ _ _ a1 b1 rfl rfl
  rw [b1]
  dsimp only
  rw [tx_hd_eb]
  refine hdC_q2 hu (n := n) (p := z102.1) (s := z77.1) (en := z102.2) (by omega) hn ((key_stk u n _ _).tr (crM_stk.tr (sig_stk u n _ _))) (fun z46 z75 z83 z95 z118 z136 z162 s3 i1 i2 s1 hH g1 g2 g3 g4 g5 x1 x2 x3 x4 x5 => ?_)
  have eP3 := eP _ _ _ _ a1 b1 hH rfl
  rw [congrArg (fun h => h.1) hH]
  dsimp only
  rw [tx_ky_eb, g1]
  refine key_q hu (n := n) (p := z162.2.2) (s := s3) (en := z102.2) (by omega) hn (crM_stk.tr (sig_stk u n _ _)) (fun z198 z255 s4 hK j1 j2 j3 j4 j5 j6 => ?_)
  have eP4 := eP _ _ _ _ a1 b1 hH hK
  rw [hK]
  dsimp only
  rw [eb_ite]
  by_cases hend : z198.2 = z102.2
  · rw [if_pos hend]
    refine agr.ok rfl ?_
    have eC := eP4.2 (fun q => by have : z198.2 < z102.2 := q.2.1; omega)
    have ecr : crM u n (z198.2, s4, none) z102.2 0 0 ok ik 0 (-1) (-1) [] D2 D3 D4 D5 D6 = rd_fin (z198.2, s4, none) z102.2 := if_neg (fun q => by have : z198.2 < z102.2 := q.2.1; omega)
    rw [ecr]
    refine agr.step (fin_q (u := u) (p := z198.2) (s := s4) (en := z102.2)) (sig_stk u n _ _) (fun _ _ _ hq5 => ?_)
    dsimp only at eC
    rw [hq5.1] at eC ⊢
    rw [hend] at eC ⊢
    refine sig_q hu (n := n) (p := z102.2) (s := s4) (en := z77.2) (by omega) hn (stk.rf _) (fun z189 s5 m1 m2 m3 m4 m5 => ?_)
    rw [m1, m2, m3] at eC
    rw [m1]
    refine ⟨rfl, ⟨s5, rfl⟩, ?_⟩
    rw [eC]
    exact ⟨⟨rfl, rfl, rfl, rfl, rfl, rfl, rfl, rfl, rfl, rfl, rfl, rfl, rfl, rfl, rfl⟩, by rw [x1, x2], by rw [x3], hX, by rw [← x2]; exact x4, x5⟩
  · rw [if_neg hend]
    have hlt : z198.2 < z102.2 := by omega
    rw [eb_as]
    by_cases h163 : u z198.2 = 163
    · have eC := eP4.1 ⟨rfl, hlt, h163⟩
      have ecr : crM u n (z198.2, s4, none) z102.2 0 0 ok ik 0 (-1) (-1) [] D2 D3 D4 D5 D6 = rd_fin (rd_fin (rd_extC u n (rd_opn u n (z198.2, s4, none) 163 z102.2).1 (rd_opn u n (z198.2, s4, none) 163 z102.2).2 0 0 ok ik 0 (-1) (-1) [] D2 D3 D4 D5 D6).1 (rd_opn u n (z198.2, s4, none) 163 z102.2).2) z102.2 := if_pos ⟨rfl, hlt, h163⟩
      rw [ecr]
      dsimp only at eC
      refine agr.step (el_q (u := u) (n := n) (p := z198.2) (s := s4) (tg := 163) (en := z102.2) (by omega)) ((extC_stk u n _ _ _ _ _ _ _ _ _ _ _ _ _ _ _).tr ((fin_stk _ _).tr ((fin_stk _ _).tr (sig_stk u n _ _)))) (fun z294 hz6 hn6 hq6 => ?_)
      obtain ⟨k1, k2, k3, k4, k5⟩ := hq6
      rw [k1] at eC ⊢
      dsimp only at eC ⊢
      rw [eb_as]
      refine agr.step (extC_q2 (k1 := -1) (k2 := f1) (k3 := -1) (k4 := f2) (dirs := []) (T := []) hu (n := n) (p := z294.1) (s := z198.2) (en := z294.2) (ma := 0) (ok := ok) (ik := ik) (ca := 0) (pn := -1) (us := -1) (D1 := []) (D2 := D2) (D3 := D3) (D4 := D4) (D5 := D5) (D6 := D6) (by omega) hn hX) ((fin_stk _ _).tr ((fin_stk _ _).tr (sig_stk u n _ _))) (fun z318 hz7 hn7 hq7 => ?_)
      obtain ⟨⟨s7, l1⟩, l2, l3, l4, l5⟩ := hq7
      rw [l1] at eC ⊢
      rw [eb_as]
      refine agr.step (fin_q (u := u) (p := z318.1) (s := s7) (en := z294.2)) ((fin_stk _ _).tr (sig_stk u n _ _)) (fun _ _ _ hq8 => ?_)
      have e8 : z318.1 = z294.2 := by omega
      rw [hq8.1] at eC ⊢
      refine agr.ok rfl ?_
      rw [e8] at eC ⊢
      refine agr.step (fin_q (u := u) (p := z294.2) (s := s7) (en := z102.2)) (sig_stk u n _ _) (fun _ _ _ hq9 => ?_)
      have e10 : z294.2 = z102.2 := by omega
      rw [hq9.1] at eC ⊢
      rw [e10] at eC ⊢
      refine sig_q hu (n := n) (p := z102.2) (s := s7) (en := z77.2) (by omega) hn (stk.rf _) (fun z189 s5 m1 m2 m3 m4 m5 => ?_)
      rw [m1, m2, m3] at eC
      rw [m1]
      refine ⟨rfl, ⟨s5, rfl⟩, ?_⟩
      rw [eC]
      obtain ⟨r1, r2, r3, r4, r5, r6, r7⟩ := l2
      rw [e10] at r1 r2 r3 r4 r5 r6 r7
      rw [e10] at l5
      exact ⟨⟨rfl, rfl, rfl, rfl, rfl, rfl, rfl, r4, r5, r6, r2, r1, r7, rfl, rfl⟩, by rw [x1, x2], by rw [x3], l5, by rw [← x2]; exact x4, x5⟩
    · have ecr : crM u n (z198.2, s4, none) z102.2 0 0 ok ik 0 (-1) (-1) [] D2 D3 D4 D5 D6 = rd_fin (z198.2, s4, none) z102.2 := if_neg (fun q => h163 q.2.2)
      rw [ecr]
      refine agr.no (x := rd_fin (z198.2, s4, none) z102.2) (w := z198.2) ?_ (el_tag hlt h163) (sig_stk u n _ _)
      rw [show rd_fin (z198.2, s4, none) z102.2 = (z198.2, s4, some z198.2) from if_pos hlt]
theorem lst_is (u : Nat → Nat) (n : Nat) (x : rS) (ie ma ex : Int32) (De D7 : List (Nat × Nat)) {o8 o21 : rS × Nat} {H : rS × Nat × Nat × Nat × Int64 × Int64} (h1 : rd_opn u n x 48 n = o8) (h2 : rd_opn u n o8.1 48 o8.2 = o21) (h3 : rd_hdL u n o21.1 o21.2 = H) : (rd_lst u n x ie ma ex De D7).2.1 = (H.2.1, H.2.2.1) := by
  subst h1 h2 h3
  unfold rd_lst
  dsimp only
  split
  · split <;> rfl
  · split <;> rfl
theorem hdL_q2 {β : Type} {u : Nat → Nat} (hu : ∀ j, u j < 256) {n p s en : Nat} (he : en ≤ n) (hn : n ≤ 2048) {y : rS} {P : β → Prop} {F : Nat → Nat × Nat → Nat × Int64 → Nat × Int64 → Nat ⊕ β} (hs : stk (rd_hdL u n (p, s, none) en).1 y) (hk : ∀ z15 z23 z31 z49 s' i1 k, rd_hdL u n (p, s, none) en = ((z49.1, s', none), i1, z23.2, k, z31.2, z49.2) → p + 2 ≤ z49.1 → z49.1 ≤ en → i1 = hdr u z15 → hdK u z15 z23.2 → agr y (F z15 z23 z31 z49) P) : agr y (tx_hl u p en F) P := by
  unfold tx_hl
  unfold rd_hdL at hs hk
  dsimp only at hs hk
  refine agr.step (numr_q hu (n := n) (p := p) (s := s) (en := en) he (lo := 1) (hi := 1) (by omega) (by omega) (P := fun x => (lg_cmp x 1) = (0 : Int32)) (fun x => i2c 1 1 (by decide) x)) (((alg_stk u n _ 11 _).tr ((fnm_stk u n _ _).tr ((time_stk u n _ _).tr (time_stk u n _ _)))).tr hs) (fun z4 hz4 hn2 hq2 => ?_)
  obtain ⟨y2, b1, b2, b3, b4, b5, b6⟩ := hq2
  subst b3
  rw [b1] at hs hk
  dsimp only at hs hk
  rw [req_ok (zP_ne b2)] at hs hk
  refine agr.step (alg_q hu (n := n) (p := y2.2) (s := p) (en := en) algH11 he hn) (((fnm_stk u n _ _).tr ((time_stk u n _ _).tr (time_stk u n _ _))).tr hs) (fun z15 hz5 hn5 hq5 => ?_)
  obtain ⟨s5, d1, d2, d3⟩ := hq5
  rw [d1] at hs hk
  refine agr.step (fnm_q hu (n := n) (p := z15) (s := s5) (en := en) he hn) (((time_stk u n _ _).tr (time_stk u n _ _)).tr hs) (fun z23 hz6 hn6 hq6 => ?_)
  obtain ⟨s6, i1, k6, f1, f2, f3, f4, f5⟩ := hq6
  rw [f1] at hs hk
  dsimp only at hs hk
  rw [f2]
  refine agr.step (time_q hu (n := n) (p := z23.2) (s := s6) (en := en) he) ((time_stk u n _ _).tr hs) (fun z31 hz8 hn8 hq8 => ?_)
  obtain ⟨h1, h2, h3, hv8⟩ := hq8
  rw [h1] at hs hk
  refine agr.step (time_q hu (n := n) (p := z31.1) (s := z23.2) (en := en) he) hs (fun z49 hz9 hn9 hq9 => ?_)
  obtain ⟨j1, j2, j3, hv9⟩ := hq9
  rw [j1] at hk
  exact hk z15 z23 z31 z49 z31.1 i1 k6 (by rw [hv8, hv9]) (by omega) j3 (fnm_hd he f1) (fnm_hk he f1)
theorem lst_q2 {u : Nat → Nat} (hu : ∀ j, u j < 256) {n s : Nat} {ie f1 f2 : Int32} {D7 : List (Nat × Nat)} {ex : Int32} (hn : n ≤ 2048) : agr (rd_lst u n (0, s, none) ie 0 ex [] D7).1 (tx_readL u n f1 f2) (fun z => (∃ s', (rd_lst u n (0, s, none) ie 0 ex [] D7).1 = (n, s', none)) ∧ lV (rd_lst u n (0, s, none) ie 0 ex [] D7) z ∧ (rd_lst u n (0, s, none) ie 0 ex [] D7).2.1 = (hdr u z.1, z.2.1) ∧ hdK u z.1 z.2.1) := by
  have e1 := lst_1 u n (0, s, none) ie 0 ex [] D7
  have eP := fun o8 o21 H => lst_v u n (0, s, none) ie 0 ex [] D7 (o8 := o8) (o21 := o21) (H := H)
  have eT := fun o8 o21 H => lst_tm u n (0, s, none) ie 0 ex [] D7 (o8 := o8) (o21 := o21) (H := H)
  have eS := fun o8 o21 H => lst_is u n (0, s, none) ie 0 ex [] D7 (o8 := o8) (o21 := o21) (H := H)
  generalize rd_lst u n (0, s, none) ie 0 ex [] D7 = C at e1 eP eT eS ⊢
  have e9 : tx_readL u n f1 f2 = (eb (tx_element u 0 48 n) (fun z77 => (eb (tx_element u z77.1 48 z77.2) (fun z102 => (eb (tx_hl u z102.1 z102.2 (fun z15 z23 z31 z49 => (eb ((@ite _ (z49.1 < z102.2) (Classical.propDecidable _) (@ite _ ((u z49.1) = 48) (Classical.propDecidable _) (eb (tx_element u z49.1 48 z102.2) (fun z79 => (@ite _ (z79.1 = z79.2) (Classical.propDecidable _) (.inl z79.2) (eb (loopE (α := Nat × Int32 × List (Nat × Nat) × List (Nat × Nat) × List (Nat × Nat) × List (Nat × Nat × Nat) × Int32 × Int32 × Int32 × Int32 × Int32 × Int32 × Int32) (enB u z79.2) (fun s114 => ¬ (z79.2 ≤ s114.1)) 2048 (z79.1, 0, [], [], [], [], 0, (-1), (-1), (-1), f1, (-1), f2)) (fun s114 => (.inr (s114.1, s114.2.1, s114.2.2.1, s114.2.2.2.1, s114.2.2.2.2.1, s114.2.2.2.2.2.1, s114.2.2.2.2.2.2.1, s114.2.2.2.2.2.2.2.1, s114.2.2.2.2.2.2.2.2.1, s114.2.2.2.2.2.2.2.2.2.1, s114.2.2.2.2.2.2.2.2.2.2.1, s114.2.2.2.2.2.2.2.2.2.2.2.1, s114.2.2.2.2.2.2.2.2.2.2.2.2))))))) (.inr (z49.1, 0, [], [], [], [], 0, (-1), (-1), (-1), f1, (-1), f2))) (.inr (z49.1, 0, [], [], [], [], 0, (-1), (-1), (-1), f1, (-1), f2))) : Nat ⊕ (Nat × Int32 × List (Nat × Nat) × List (Nat × Nat) × List (Nat × Nat) × List (Nat × Nat × Nat) × Int32 × Int32 × Int32 × Int32 × Int32 × Int32 × Int32)) (fun s65 => (@ite _ (s65.1 = z102.2) (Classical.propDecidable _) (.inr (s65.1, z15, z23.2, z31.2, z49.2, s65.2.1, s65.2.2.2.2.2.2.1, s65.2.2.2.2.2.2.2.1, s65.2.2.2.2.2.2.2.2.1, s65.2.2.2.2.2.2.2.2.2.1, s65.2.2.2.2.2.2.2.2.2.2.1, s65.2.2.2.2.2.2.2.2.2.2.2.1, s65.2.2.2.2.2.2.2.2.2.2.2.2, s65.2.2.2.1, s65.2.2.2.2.1, s65.2.2.2.2.2.1, s65.2.2.1)) (eb (tx_element u s65.1 160 z102.2) (fun z243 => (eb (tx_extensions u z243.1 z243.2 1 s65.2.2.2.1 s65.2.2.2.2.1 s65.2.2.2.2.2.1 s65.2.1 s65.2.2.2.2.2.2.1 s65.2.2.2.2.2.2.2.1 s65.2.2.2.2.2.2.2.2.1 s65.2.2.2.2.2.2.2.2.2.1 s65.2.2.2.2.2.2.2.2.2.2.1 s65.2.2.2.2.2.2.2.2.2.2.2.1 s65.2.2.2.2.2.2.2.2.2.2.2.2) (fun z267 => (eb (tx_done u z267.1 z243.2) (fun z275 => (.inr (z243.2, z15, z23.2, z31.2, z49.2, z267.2.1, z267.2.2.1, z267.2.2.2.1, z267.2.2.2.2.1, z267.2.2.2.2.2.1, z267.2.2.2.2.2.2.1, z267.2.2.2.2.2.2.2.1, z267.2.2.2.2.2.2.2.2.1, z267.2.2.2.2.2.2.2.2.2.1, z267.2.2.2.2.2.2.2.2.2.2.1, z267.2.2.2.2.2.2.2.2.2.2.2.1, s65.2.2.1))))))))))))) (fun z143 => (eb (tx_done u z143.1 z102.2) (fun z168 => (tx_sg u z102.2 z77.2 n (fun z189 => .inr (z143.2.1, z143.2.2.1, z143.2.2.2.1, z143.2.2.2.2.1, z143.2.2.2.2.2.1, z143.2.2.2.2.2.2.1, z143.2.2.2.2.2.2.2.1, z143.2.2.2.2.2.2.2.2.1, z143.2.2.2.2.2.2.2.2.2.1, z143.2.2.2.2.2.2.2.2.2.2.1, z143.2.2.2.2.2.2.2.2.2.2.2.1, z143.2.2.2.2.2.2.2.2.2.2.2.2.1, z77.1, z102.2, z189.1, z189.2, z143.2.2.2.2.2.2.2.2.2.2.2.2.2.2.2.2))))))))))) := rfl
  rw [e9, e1]
  dsimp only
  refine agr.step (el_q (u := u) (n := n) (p := 0) (s := s) (tg := 48) (en := n) (Nat.le_refl _)) ((opn_stk u n _ 48 _).tr ((hdL_stk u n _ _).tr (lsM_stk.tr (sig_stk u n _ _)))) (fun z77 hz77 hn1 hq1 => ?_)
  obtain ⟨a1, a2, a3, a4, a5⟩ := hq1
  rw [a1]
  dsimp only
  refine agr.step (el_q (u := u) (n := n) (p := z77.1) (s := 0) (tg := 48) (en := z77.2) (by omega)) ((hdL_stk u n _ _).tr (lsM_stk.tr (sig_stk u n _ _))) (fun z102 hz102 hn2 hq2 => ?_)
  obtain ⟨b1, b2, b3, b4, b5⟩ := hq2
  rw [b1]
  dsimp only
  rw [tx_hl_eb]
  refine hdL_q2 hu (n := n) (p := z102.1) (s := z77.1) (en := z102.2) (by omega) hn (lsM_stk.tr (sig_stk u n _ _)) (fun z15 z23 z31 z49 s3 i1 k hH g1 g2 x1 x4 => ?_)
  have eH := eP _ _ _ a1 b1 hH
  have eT9 := eT _ _ _ a1 b1 hH
  have eS9 := eS _ _ _ a1 b1 hH
  dsimp only at eS9
  rw [x1] at eS9
  dsimp only at eT9
  rw [congrArg (fun h => h.1) hH]
  dsimp only at eH ⊢
  rw [eb_as]
  by_cases h48 : z49.1 < z102.2 ∧ u z49.1 = 48
  · have c48 : ((none : Option Nat) = none ∧ z49.1 < z102.2 ∧ u z49.1 = 48) := ⟨rfl, h48⟩
    have eM : lsM u n (z49.1, s3, none) z102.2 0 ex [] D7 = lsT u n (rd_ents u n (rd_opn u n (z49.1, s3, none) 48 z102.2).2 (rd_opn u n (z49.1, s3, none) 48 z102.2).1 (zP ((none : Option Nat) = none ∧ z49.1 < z102.2 ∧ u z49.1 = 48)) 0 ex [] D7).2.1 (rd_ents u n (rd_opn u n (z49.1, s3, none) 48 z102.2).2 (rd_opn u n (z49.1, s3, none) 48 z102.2).1 (zP ((none : Option Nat) = none ∧ z49.1 < z102.2 ∧ u z49.1 = 48)) 0 ex [] D7).1 z102.2 (rd_ents u n (rd_opn u n (z49.1, s3, none) 48 z102.2).2 (rd_opn u n (z49.1, s3, none) 48 z102.2).1 (zP ((none : Option Nat) = none ∧ z49.1 < z102.2 ∧ u z49.1 = 48)) 0 ex [] D7).2.2.1 (rd_ents u n (rd_opn u n (z49.1, s3, none) 48 z102.2).2 (rd_opn u n (z49.1, s3, none) 48 z102.2).1 (zP ((none : Option Nat) = none ∧ z49.1 < z102.2 ∧ u z49.1 = 48)) 0 ex [] D7).2.2.2.1 := if_pos c48
    have eV := eH.1 c48
    have z1 : zP ((none : Option Nat) = none ∧ z49.1 < z102.2 ∧ u z49.1 = 48) = 1 := (zP_t c48).symm
    rw [eM]
    rw [z1] at eV ⊢
    rw [if_pos h48.1, if_pos h48.2, eb_as]
    refine agr.step (el_q (u := u) (n := n) (p := z49.1) (s := s3) (tg := 48) (en := z102.2) (by omega)) ((ents_stk u n _ _ _ _ _ (Or.inr rfl) _ _).tr ((lsT_stk (ents_ie u n _ _ _ _ _ (Or.inr rfl) _ _)).tr (sig_stk u n _ _))) (fun z79 hz3 hn3 hq3 => ?_)
    obtain ⟨c1, c2, c3, c4, c5⟩ := hq3
    rw [c1] at eV ⊢
    dsimp only at eV ⊢
    have hEn := ents_q hu (n := n) (e := z79.2) (p := z79.1) (s := z49.1) (ma := 0) (ex := ex) (De := []) (D7 := D7) (dns := []) (dirs := []) (T := []) (c1 := 0) (c2 := -1) (c3 := -1) (c4 := -1) (c5 := f1) (c6 := -1) (c7 := f2) (by omega) hn c3
    have hie := ents_ie u n z79.2 (z79.1, z49.1, none) 1 0 ex (Or.inr rfl) [] D7
    generalize rd_ents u n z79.2 (z79.1, z49.1, none) 1 0 ex [] D7 = Z at eV hEn hie ⊢
    have eV := eV Z rfl
    have eL : ∀ {γ : Type} (L : Nat ⊕ (Nat × Int32 × List (Nat × Nat) × List (Nat × Nat) × List (Nat × Nat) × List (Nat × Nat × Nat) × Int32 × Int32 × Int32 × Int32 × Int32 × Int32 × Int32)) (G : (Nat × Int32 × List (Nat × Nat) × List (Nat × Nat) × List (Nat × Nat) × List (Nat × Nat × Nat) × Int32 × Int32 × Int32 × Int32 × Int32 × Int32 × Int32) → Nat ⊕ γ), eb (@ite _ (z79.1 = z79.2) (Classical.propDecidable _) (.inl z79.2) (eb L (fun s114 => (.inr (s114.1, s114.2.1, s114.2.2.1, s114.2.2.2.1, s114.2.2.2.2.1, s114.2.2.2.2.2.1, s114.2.2.2.2.2.2.1, s114.2.2.2.2.2.2.2.1, s114.2.2.2.2.2.2.2.2.1, s114.2.2.2.2.2.2.2.2.2.1, s114.2.2.2.2.2.2.2.2.2.2.1, s114.2.2.2.2.2.2.2.2.2.2.2.1, s114.2.2.2.2.2.2.2.2.2.2.2.2))))) G = eb (@ite _ (z79.1 = z79.2) (Classical.propDecidable _) (.inl z79.2) L) G := fun L G => by
      by_cases hc : z79.1 = z79.2
      · rw [if_pos hc, if_pos hc]
      · rw [if_neg hc, if_neg hc]
        cases L <;> rfl
    rw [eL]
    refine agr.step hEn ((lsT_stk hie).tr (sig_stk u n _ _)) (fun t ht hn4 hq4 => ?_)
    obtain ⟨⟨⟨s6, d1⟩, d2, d3, d4, d5⟩, d6⟩ := hq4
    rw [d6] at d1 d3
    rw [zPf0 (Nat.lt_irrefl _)] at d3
    rw [d1, d3, d4] at eV ⊢
    rw [d6]
    rw [eb_ite]
    by_cases hend : z79.2 = z102.2
    · rw [if_pos hend]
      refine agr.ok rfl ?_
      have hno : ¬ (((z79.2, s6, none) : rS).2.2 = none ∧ ((z79.2, s6, none) : rS).1 < z102.2 ∧ u ((z79.2, s6, none) : rS).1 = 160) := fun q => by have : z79.2 < z102.2 := q.2.1; omega
      have ecr : lsT u n 0 (z79.2, s6, none) z102.2 t.2.1 Z.2.2.2.1 = rd_fin (z79.2, s6, none) z102.2 := if_neg hno
      rw [ecr]
      refine agr.step (fin_q (u := u) (p := z79.2) (s := s6) (en := z102.2)) (sig_stk u n _ _) (fun _ _ _ hq5 => ?_)
      rw [hq5.1] at ecr ⊢
      rw [hend] at ecr ⊢
      refine sig_q hu (n := n) (p := z102.2) (s := s6) (en := z77.2) (by omega) hn (stk.rf _) (fun z189 s5 m1 m2 m3 m4 m5 => ?_)
      have v3 := eV.2.2.1 _ rfl
      rw [show lsT u n 0 (z79.2, s6, none) z102.2 t.2.1 Z.2.2.2.1 = (z102.2, s6, none) by rw [hend]; exact ecr] at v3
      rw [m2, m3] at v3
      rw [m1]
      exact ⟨rfl, ⟨s5, rfl⟩, ⟨eV.1, v3, eV.2.2.2.2 hno, eV.2.1.trans d5, eT9.1, eT9.2⟩, eS9, x4⟩
    · rw [if_neg hend]
      have hlt : z79.2 < z102.2 := by omega
      rw [eb_as]
      by_cases h160 : u z79.2 = 160
      · have hyes : (((z79.2, s6, none) : rS).2.2 = none ∧ ((z79.2, s6, none) : rS).1 < z102.2 ∧ u ((z79.2, s6, none) : rS).1 = 160) := ⟨rfl, hlt, h160⟩
        have ecr : lsT u n 0 (z79.2, s6, none) z102.2 t.2.1 Z.2.2.2.1 = rd_fin (rd_fin (rd_extL u n 0 (rd_opn u n (z79.2, s6, none) 160 z102.2).1 (rd_opn u n (z79.2, s6, none) 160 z102.2).2 t.2.1 Z.2.2.2.1).1 (rd_opn u n (z79.2, s6, none) 160 z102.2).2) z102.2 := if_pos hyes
        have v4 := eV.2.2.2.1 hyes
        have v3 := eV.2.2.1 _ rfl
        rw [ecr] at v3 ⊢
        refine agr.step (el_q (u := u) (n := n) (p := z79.2) (s := s6) (tg := 160) (en := z102.2) (by omega)) ((extL_stk u n 0 (Or.inl rfl) _ _ _ _).tr ((fin_stk _ _).tr ((fin_stk _ _).tr (sig_stk u n _ _)))) (fun z243 hz6 hn6 hq6 => ?_)
        obtain ⟨k1, k2, k3, k4, k5⟩ := hq6
        rw [k1] at v3 v4 ⊢
        dsimp only at v3 v4 ⊢
        rw [eb_as]
        refine agr.step (extL_q hu (n := n) (p := z243.1) (s := z79.2) (en := z243.2) (wh := 1) (ie := 0) (ma := t.2.1) (ex := Z.2.2.2.1) (Or.inl ⟨rfl, rfl⟩) (by omega) hn) ((fin_stk _ _).tr ((fin_stk _ _).tr (sig_stk u n _ _))) (fun z267 hz7 hn7 hq7 => ?_)
        obtain ⟨⟨s7, l1⟩, l2, l3, l4⟩ := hq7
        rw [l1] at v3 ⊢
        rw [eb_as]
        refine agr.step (fin_q (u := u) (p := z267.1) (s := s7) (en := z243.2)) ((fin_stk _ _).tr (sig_stk u n _ _)) (fun _ _ _ hq8 => ?_)
        have e8 : z267.1 = z243.2 := by omega
        rw [hq8.1] at v3 ⊢
        refine agr.ok rfl ?_
        rw [e8] at v3 ⊢
        refine agr.step (fin_q (u := u) (p := z243.2) (s := s7) (en := z102.2)) (sig_stk u n _ _) (fun _ _ _ hq9 => ?_)
        have e10 : z243.2 = z102.2 := by omega
        rw [hq9.1] at v3 ⊢
        rw [e10] at v3 ⊢
        refine sig_q hu (n := n) (p := z102.2) (s := s7) (en := z77.2) (by omega) hn (stk.rf _) (fun z189 s5 m1 m2 m3 m4 m5 => ?_)
        rw [m2, m3] at v3
        rw [m1]
        exact ⟨rfl, ⟨s5, rfl⟩, ⟨eV.1, v3, v4.trans l2, eV.2.1.trans d5, eT9.1, eT9.2⟩, eS9, x4⟩
      · have ecr : lsT u n 0 (z79.2, s6, none) z102.2 t.2.1 Z.2.2.2.1 = rd_fin (z79.2, s6, none) z102.2 := if_neg (fun q => h160 q.2.2)
        rw [ecr]
        refine agr.no (x := rd_fin (z79.2, s6, none) z102.2) (w := z79.2) ?_ (el_tag hlt h160) (sig_stk u n _ _)
        rw [show rd_fin (z79.2, s6, none) z102.2 = (z79.2, s6, some z79.2) from if_pos hlt]
  · have c48 : ¬ ((none : Option Nat) = none ∧ z49.1 < z102.2 ∧ u z49.1 = 48) := fun q => h48 q.2
    have eM : lsM u n (z49.1, s3, none) z102.2 0 ex [] D7 = lsT u n (zP ((none : Option Nat) = none ∧ z49.1 < z102.2 ∧ u z49.1 = 48)) (z49.1, s3, none) z102.2 0 ex := if_neg c48
    have eV := eH.2 c48
    have z1 : zP ((none : Option Nat) = none ∧ z49.1 < z102.2 ∧ u z49.1 = 48) = 0 := zPf0 c48
    rw [eM]
    rw [z1] at eV ⊢
    have eE : ∀ (A : Nat ⊕ (Nat × Int32 × List (Nat × Nat) × List (Nat × Nat) × List (Nat × Nat) × List (Nat × Nat × Nat) × Int32 × Int32 × Int32 × Int32 × Int32 × Int32 × Int32)) (B : (Nat × Int32 × List (Nat × Nat) × List (Nat × Nat) × List (Nat × Nat) × List (Nat × Nat × Nat) × Int32 × Int32 × Int32 × Int32 × Int32 × Int32 × Int32)), (@ite _ (z49.1 < z102.2) (Classical.propDecidable _) (@ite _ ((u z49.1) = 48) (Classical.propDecidable _) A (.inr B)) (.inr B)) = .inr B := fun A B => by
      by_cases hc : z49.1 < z102.2
      · rw [if_pos hc, if_neg (fun q => h48 ⟨hc, q⟩)]
      · rw [if_neg hc]
    refine agr.ok (eE _ _) ?_
    dsimp only
    rw [eb_ite]
    by_cases hend : z49.1 = z102.2
    · rw [if_pos hend]
      refine agr.ok rfl ?_
      have hno : ¬ (((z49.1, s3, none) : rS).2.2 = none ∧ ((z49.1, s3, none) : rS).1 < z102.2 ∧ u ((z49.1, s3, none) : rS).1 = 160) := fun q => by have : z49.1 < z102.2 := q.2.1; omega
      have ecr : lsT u n 0 (z49.1, s3, none) z102.2 0 ex = rd_fin (z49.1, s3, none) z102.2 := if_neg hno
      rw [ecr]
      refine agr.step (fin_q (u := u) (p := z49.1) (s := s3) (en := z102.2)) (sig_stk u n _ _) (fun _ _ _ hq5 => ?_)
      rw [hq5.1] at ecr ⊢
      rw [hend] at ecr ⊢
      refine sig_q hu (n := n) (p := z102.2) (s := s3) (en := z77.2) (by omega) hn (stk.rf _) (fun z189 s5 m1 m2 m3 m4 m5 => ?_)
      have v3 := eV.2.2.1 _ rfl
      rw [show lsT u n 0 (z49.1, s3, none) z102.2 0 ex = (z102.2, s3, none) by rw [hend]; exact ecr] at v3
      rw [m2, m3] at v3
      rw [m1]
      exact ⟨rfl, ⟨s5, rfl⟩, ⟨eV.1, v3, eV.2.2.2.2 hno, eV.2.1, eT9.1, eT9.2⟩, eS9, x4⟩
    · rw [if_neg hend]
      have hlt : z49.1 < z102.2 := by omega
      rw [eb_as]
      by_cases h160 : u z49.1 = 160
      · have hyes : (((z49.1, s3, none) : rS).2.2 = none ∧ ((z49.1, s3, none) : rS).1 < z102.2 ∧ u ((z49.1, s3, none) : rS).1 = 160) := ⟨rfl, hlt, h160⟩
        have ecr : lsT u n 0 (z49.1, s3, none) z102.2 0 ex = rd_fin (rd_fin (rd_extL u n 0 (rd_opn u n (z49.1, s3, none) 160 z102.2).1 (rd_opn u n (z49.1, s3, none) 160 z102.2).2 0 ex).1 (rd_opn u n (z49.1, s3, none) 160 z102.2).2) z102.2 := if_pos hyes
        have v4 := eV.2.2.2.1 hyes
        have v3 := eV.2.2.1 _ rfl
        rw [ecr] at v3 ⊢
        refine agr.step (el_q (u := u) (n := n) (p := z49.1) (s := s3) (tg := 160) (en := z102.2) (by omega)) ((extL_stk u n 0 (Or.inl rfl) _ _ _ _).tr ((fin_stk _ _).tr ((fin_stk _ _).tr (sig_stk u n _ _)))) (fun z243 hz6 hn6 hq6 => ?_)
        obtain ⟨k1, k2, k3, k4, k5⟩ := hq6
        rw [k1] at v3 v4 ⊢
        dsimp only at v3 v4 ⊢
        rw [eb_as]
        refine agr.step (extL_q hu (n := n) (p := z243.1) (s := z49.1) (en := z243.2) (wh := 1) (ie := 0) (ma := 0) (ex := ex) (Or.inl ⟨rfl, rfl⟩) (by omega) hn) ((fin_stk _ _).tr ((fin_stk _ _).tr (sig_stk u n _ _))) (fun z267 hz7 hn7 hq7 => ?_)
        obtain ⟨⟨s7, l1⟩, l2, l3, l4⟩ := hq7
        rw [l1] at v3 ⊢
        rw [eb_as]
        refine agr.step (fin_q (u := u) (p := z267.1) (s := s7) (en := z243.2)) ((fin_stk _ _).tr (sig_stk u n _ _)) (fun _ _ _ hq8 => ?_)
        have e8 : z267.1 = z243.2 := by omega
        rw [hq8.1] at v3 ⊢
        refine agr.ok rfl ?_
        rw [e8] at v3 ⊢
        refine agr.step (fin_q (u := u) (p := z243.2) (s := s7) (en := z102.2)) (sig_stk u n _ _) (fun _ _ _ hq9 => ?_)
        have e10 : z243.2 = z102.2 := by omega
        rw [hq9.1] at v3 ⊢
        rw [e10] at v3 ⊢
        refine sig_q hu (n := n) (p := z102.2) (s := s7) (en := z77.2) (by omega) hn (stk.rf _) (fun z189 s5 m1 m2 m3 m4 m5 => ?_)
        rw [m2, m3] at v3
        rw [m1]
        exact ⟨rfl, ⟨s5, rfl⟩, ⟨eV.1, v3, v4.trans l2, eV.2.1, eT9.1, eT9.2⟩, eS9, x4⟩
      · have ecr : lsT u n 0 (z49.1, s3, none) z102.2 0 ex = rd_fin (z49.1, s3, none) z102.2 := if_neg (fun q => h160 q.2.2)
        rw [ecr]
        refine agr.no (x := rd_fin (z49.1, s3, none) z102.2) (w := z49.1) ?_ (el_tag hlt h160) (sig_stk u n _ _)
        rw [show rd_fin (z49.1, s3, none) z102.2 = (z49.1, s3, some z49.1) from if_pos hlt]
