/-! The class' side of the law: one invariant, and what each of the law's own methods does to it. -/
abbrev ty4 (γ : cG) : List (ClassId × FieldType) := [(γ.1, .byte), (γ.2.1, .int), (γ.2.2.1, .long), (γ.2.2.2, .object "java/lang/Object")]
abbrev ty5 (γ : cG) (gT : ClassId) : List (ClassId × FieldType) := [(γ.1, .byte), (γ.2.1, .int), (γ.2.2.1, .long), (γ.2.2.2, .object "java/lang/Object"), (gT, .object "TrustChainModel$Text")]
theorem pr5 {α β δ ε ζ : Type} {a a' : α} {b b' : β} {c c' : δ} {d d' : ε} {e e' : ζ} (h : (a, b, c, d, e) = (a', b', c', d', e')) : a = a' ∧ b = b' ∧ c = c' ∧ d = d' ∧ e = e' := by
  cases h
  exact ⟨rfl, rfl, rfl, rfl, rfl⟩
theorem pr2 {ε ζ : Type} {d d' : ε} {e e' : ζ} (h : (d, e) = (d', e')) : d = d' ∧ e = e' := by
  cases h
  exact ⟨rfl, rfl⟩
def CI (γ : cG) (sb : sB) (q0 ou : Nat) (fu : Nat → Nat) (fd : Nat) (wr : Int32) (nc nl : Nat) (vc : Nat → vC) (vl : Nat → vL) (ov : Nat → Int64) (G : va_W) : Prop :=
  ∃ (κ : kE) (Ad : List Nat) (ν : Nat → cN) (ω : Nat → List Nat) (fe ho ce li sh rs se ch fo pl L : Nat) (o : alD) (as : List Nat) (foS chS faP : Int32), LWx γ sb κ Ad ν ω fe ho ce li sh rs se ch fo q0 pl ou fu ov (G, L, o, as, foS, chS, faP, nI fd, wr) ∧ (ω ce).length = nc ∧ (ω li).length = nl ∧
    (∀ k, k < nc → vc k = vcO κ ν ω ((ω ce).getD k 0) ∧ (vc k).1.2.2.2.2.2.2.2.2.2.2.2.2 = nI k) ∧ (∀ k, k < nl → vl k = vlO κ ν ω ((ω li).getD k 0)) ∧ fd ≤ 2060 ∧ (∀ j, fu j < 256) ∧ XI κ Ad ν ω ce
section CIS
variable {γ : cG} {κ κ' : kE} {Ad Ad' : List Nat} {ν : Nat → cN} {ω : Nat → List Nat} {L : Nat} {G : va_W}
theorem ce_en {ce ed : Nat} (h : TY γ κ Ad ν ω L G) (ha : tK κ Ad ce (15, ed, 0)) {k : Nat} (hk : k < (ω ce).length) : ∃ p q, tK κ Ad ((ω ce).getD k 0) (8, p, q) := by
  obtain ⟨i, q, m, -, h2, -⟩ := ty_15 h ha
  obtain ⟨cap, hc⟩ := h2 (by omega)
  obtain ⟨_, f, -, -, h3, -⟩ := ty_14 h hc
  exact (h3 k hk).2
theorem li_en {li ed : Nat} (h : TY γ κ Ad ν ω L G) (ha : tK κ Ad li (17, ed, 0)) {k : Nat} (hk : k < (ω li).length) : ∃ p, tK κ Ad ((ω li).getD k 0) (9, p, 0) := by
  obtain ⟨i, q, m, -, h2, -⟩ := ty_17 h ha
  obtain ⟨cap, hc⟩ := h2 (by omega)
  obtain ⟨_, f, -, -, h3, -⟩ := ty_16 h hc
  exact (h3 k hk).2
theorem nuR_ne {res b : Nat} {x : cN} (h : b ≠ res) : nuR ν res x b = ν b := if_neg h
theorem nuR_at {res : Nat} {x : cN} : nuR ν res x res = x := if_pos rfl
theorem wU_at {l v : Nat} : wU ω l v l = ω l ++ [v] := if_pos rfl
theorem wU_ne {l v b : Nat} (h : b ≠ l) : wU ω l v b = ω b := if_neg h
theorem getD_app {l : List Nat} {v k : Nat} (h : k < l.length) : (l ++ [v]).getD k 0 = l.getD k 0 := by
  rw [List.getD_eq_getElem?_getD, List.getD_eq_getElem?_getD, List.getElem?_append_left h]
theorem getD_end {l : List Nat} {v : Nat} : (l ++ [v]).getD l.length 0 = v := by
  rw [List.getD_eq_getElem?_getD, List.getElem?_append_right (Nat.le_refl _)]
  simp
end CIS
def vT (vc : Nat → vC) (k : Nat) (j : Int32) : Nat → vC := fun i => if i = k then (((vc k).1.1, (vc k).1.2.1, (vc k).1.2.2.1, (vc k).1.2.2.2.1, (vc k).1.2.2.2.2.1, (vc k).1.2.2.2.2.2.1, (vc k).1.2.2.2.2.2.2.1, (vc k).1.2.2.2.2.2.2.2.1, j, (vc k).1.2.2.2.2.2.2.2.2.2), (vc k).2) else vc i
def hw8 (f : Nat → Int32) : Nat → Int32 := fun j => if j < 8 then f j else 0
theorem hw8_of {n : cN} {f : Nat → Int32} (h : ∀ j, j < 8 → wN n j = f j) : wN n = hw8 f := by
  funext j
  by_cases hj : j < 8
  · rw [show hw8 f j = f j from if_pos hj]
    exact h j hj
  · rw [show hw8 f j = 0 from if_neg hj]
    obtain ⟨k, rfl⟩ : ∃ k, j = k + 8 := ⟨j - 8, by omega⟩
    rfl
def vU {α : Type} (vc : Nat → α) (k : Nat) (x : α) : Nat → α := fun i => if i = k then x else vc i
set_option maxHeartbeats 4000000 in
theorem ci_digest (l : Launch) (hl0 : l.stackTraces = false) (dC : Nat → ClassId) (dI : Nat → Nat → Nat) (sb : sB) (γ : cG) (q0 ou : Nat) (fu : Nat → Nat) (fd : Nat) (wr : Int32) (nc nl : Nat) (vc : Nat → vC) (vl : Nat → vL) (ov : Nat → Int64) (G : va_W) (i j : Int32) (sz : Nat) (h : CI γ sb q0 ou fu fd wr nc nl vc vl ov G)  : CCi l y_TrustChainLaw_digest w_TrustChainLaw_digest ({ frames := 8, cells := 1, slots := 6, locals := 150 }) [.ref q0, .int i, .int j, .ref ou] (dC, dI) sb (ty4 γ) G sz (fun r G' => ∃ ov', CI γ sb q0 ou fu fd wr nc nl vc vl ov' G' ∧ ((r = 0 ∧ ∃ k m, k < nc ∧ i = nI k ∧ m < 8 ∧ j = nI m ∧ ov' = vp_updL ov 0 ((vc k).2.2.2.1 m).toInt64) ∨ (r = 1 ∧ ¬ ((¬ i < 0 ∧ i < nI nc) ∧ ¬ j < 0 ∧ j < 8) ∧ ov' = ov))) := by
  obtain ⟨κ, Ad, ν, ω, fe, ho, ce, li, sh, rs, se, ch, fo, pl, L, o, as, foS, chS, faP, hLW, h2, h3, h4, h5, h6, h7⟩ := h
  refine cci_of (zl_digest l hl0 dC dI sb γ κ Ad ν ω L G fe ho ce li sh rs se ch fo q0 pl o as foS chS faP (nI fd) wr ou fu ov i j sz hLW) rfl rfl (fun r u _ hw => ?_)
  obtain ⟨⟨G', L', o', as', f', c', p', d', w'⟩, ov'⟩ := u
  obtain ⟨hW', ⟨hr, r9, ⟨hu, -, -, -, k, m, hk, hi, hm, hj, h9⟩, ho9⟩ | ⟨E, ⟨hu, -, hn⟩, hr, ho9⟩⟩ := hw
  · obtain ⟨rfl, rfl, rfl, rfl, rfl⟩ := pr5 (show (f', c', p', d', w') = (_, _, _, _, _) from hu)
    exact ⟨ov', ⟨κ, Ad, ν, ω, fe, ho, ce, li, sh, rs, se, ch, fo, pl, L', o', as', f', c', p', hW', h2, h3, h4, h5, h6, h7⟩, Or.inl ⟨hr, k, m, by omega, hi, hm, hj, by rw [(h4 k (by omega)).1]; rw [h9] at ho9; exact ho9⟩⟩
  · obtain ⟨rfl, rfl, rfl, rfl, rfl⟩ := pr5 (show (f', c', p', d', w') = (_, _, _, _, _) from hu)
    exact ⟨ov', ⟨κ, Ad, ν, ω, fe, ho, ce, li, sh, rs, se, ch, fo, pl, L', o', as', f', c', p', hW', h2, h3, h4, h5, h6, h7⟩, Or.inr ⟨by rw [hr]; split <;> rfl, by rw [h2] at hn; exact hn, ho9⟩⟩
set_option maxHeartbeats 4000000 in
theorem ci_signed (l : Launch) (hl0 : l.stackTraces = false) (dC : Nat → ClassId) (dI : Nat → Nat → Nat) (sb : sB) (γ : cG) (q0 ou : Nat) (fu : Nat → Nat) (fd : Nat) (wr : Int32) (nc nl : Nat) (vc : Nat → vC) (vl : Nat → vL) (ov : Nat → Int64) (G : va_W) (b i j : Int32) (sz : Nat) (h : CI γ sb q0 ou fu fd wr nc nl vc vl ov G)  : CCi l y_TrustChainLaw_signed w_TrustChainLaw_signed ({ frames := 8, cells := 1, slots := 6, locals := 150 }) [.ref q0, .int b, .int i, .int j, .ref ou] (dC, dI) sb (ty4 γ) G sz (fun r G' => ∃ ov', CI γ sb q0 ou fu fd wr nc nl vc vl ov' G' ∧ ((r = 0 ∧ ∃ (r9 : Int32) (k k2 : Nat), i = nI k ∧ j = nI k2 ∧ k2 < nc ∧ ((b = 0 ∧ k < nc ∧ bz r9 (sgV (vc k).2.2.2.1 (vc k2).2.2.2.2.1 (vc k2).2.2.2.2.2.1 (vc k).2.2.2.2.2.2.1 (vc k).2.2.2.2.2.2.2 (vc k2).1.2.2.1.toNatClampNeg)) ∨ (¬ b = 0 ∧ k < nl ∧ bz r9 (sgV (vl k).2.2.1 (vc k2).2.2.2.2.1 (vc k2).2.2.2.2.2.1 (vl k).2.2.2.1 (vl k).2.2.2.2 (vc k2).1.2.2.1.toNatClampNeg))) ∧ ov' = vp_updL ov 0 (if r9 = 0 then 0 else 1)) ∨ (r = 1 ∧ ¬ ((¬ j < 0 ∧ j < nI nc) ∧ (¬ b = 0 → (¬ i < 0 ∧ i < nI nl)) ∧ (b = 0 → (¬ i < 0 ∧ i < nI nc))) ∧ ov' = ov))) := by
  obtain ⟨κ, Ad, ν, ω, fe, ho, ce, li, sh, rs, se, ch, fo, pl, L, o, as, foS, chS, faP, hLW, h2, h3, h4, h5, h6, h7⟩ := h
  refine cci_of (zl_signed l hl0 dC dI sb γ κ Ad ν ω L G fe ho ce li sh rs se ch fo q0 pl o as foS chS faP (nI fd) wr ou fu ov b i j sz hLW (h7.2.xc hLW.1.2.2.1)) rfl rfl (fun r u _ hw => ?_)
  obtain ⟨⟨G', L', o', as', f', c', p', d', w'⟩, ov'⟩ := u
  obtain ⟨hW', ⟨hr, r9, ⟨hu, k, k2, hi, hj, hk2, hs⟩, ho9⟩ | ⟨E, ⟨hu, -, hn⟩, hr, ho9⟩⟩ := hw
  · obtain ⟨rfl, rfl, rfl, rfl, rfl⟩ := pr5 (show (f', c', p', d', w') = (_, _, _, _, _) from hu)
    refine ⟨ov', ⟨κ, Ad, ν, ω, fe, ho, ce, li, sh, rs, se, ch, fo, pl, L', o', as', f', c', p', hW', h2, h3, h4, h5, h6, h7⟩, Or.inl ⟨hr, r9, k, k2, hi, hj, by omega, ?_, ho9⟩⟩
    have e2 := (h4 k2 (by omega)).1
    rcases hs with ⟨hb, hk, hs⟩ | ⟨hb, hk, hs⟩
    · have e1 := (h4 k (by omega)).1
      refine Or.inl ⟨hb, by omega, ?_⟩
      rw [e1, e2]
      exact hs
    · have e1 := h5 k (by omega)
      refine Or.inr ⟨hb, by omega, ?_⟩
      rw [e1, e2]
      exact hs
  · obtain ⟨rfl, rfl, rfl, rfl, rfl⟩ := pr5 (show (f', c', p', d', w') = (_, _, _, _, _) from hu)
    exact ⟨ov', ⟨κ, Ad, ν, ω, fe, ho, ce, li, sh, rs, se, ch, fo, pl, L', o', as', f', c', p', hW', h2, h3, h4, h5, h6, h7⟩, Or.inr ⟨by rw [hr]; split <;> rfl, by rw [h2, h3] at hn; exact hn, ho9⟩⟩
set_option maxHeartbeats 4000000 in
theorem ci_chain (l : Launch) (hl0 : l.stackTraces = false) (dC : Nat → ClassId) (dI : Nat → Nat → Nat) (sb : sB) (γ : cG) (q0 ou : Nat) (fu : Nat → Nat) (fd : Nat) (wr : Int32) (nc nl : Nat) (vc : Nat → vC) (vl : Nat → vL) (ov : Nat → Int64) (G : va_W) (i : Int32) (sz : Nat) (h : CI γ sb q0 ou fu fd wr nc nl vc vl ov G)  : CCi l y_TrustChainLaw_chain w_TrustChainLaw_chain ({ frames := 8, cells := 1, slots := 6, locals := 150 }) [.ref q0, .int i, .ref ou] (dC, dI) sb (ty4 γ) G sz (fun r G' => ∃ ov', CI γ sb q0 ou fu fd wr nc nl vc vl ov' G') := by
  obtain ⟨κ, Ad, ν, ω, fe, ho, ce, li, sh, rs, se, ch, fo, pl, L, o, as, foS, chS, faP, hLW, h2, h3, h4, h5, h6, h7⟩ := h
  refine cci_of (zl_chain l hl0 dC dI sb γ κ Ad ν ω L G fe ho ce li sh rs se ch fo q0 pl o as foS chS faP (nI fd) wr ou fu ov i sz hLW) rfl rfl (fun r u _ hw => ?_)
  obtain ⟨⟨G', L', o', as', f', c', p', d', w'⟩, ov'⟩ := u
  obtain ⟨hW', ⟨-, r9, ⟨hu, -⟩, -⟩ | ⟨E, ⟨hu, -⟩, -⟩⟩ := hw
  · obtain ⟨rfl, rfl, rfl, rfl, rfl⟩ := pr5 (show (f', c', p', d', w') = (_, _, _, _, _) from hu)
    exact ⟨ov', κ, Ad, ν, ω, fe, ho, ce, li, sh, rs, se, ch, fo, pl, L', o', as', f', c', p', hW', h2, h3, h4, h5, h6, h7⟩
  · obtain ⟨rfl, rfl, rfl, rfl, rfl⟩ := pr5 (show (f', c', p', d', w') = (_, _, _, _, _) from hu)
    exact ⟨ov', κ, Ad, ν, ω, fe, ho, ce, li, sh, rs, se, ch, fo, pl, L', o', as', f', c', p', hW', h2, h3, h4, h5, h6, h7⟩
set_option maxHeartbeats 4000000 in
theorem ci_count (l : Launch) (hl0 : l.stackTraces = false) (dC : Nat → ClassId) (dI : Nat → Nat → Nat) (sb : sB) (γ : cG) (q0 ou : Nat) (fu : Nat → Nat) (fd : Nat) (wr : Int32) (nc nl : Nat) (vc : Nat → vC) (vl : Nat → vL) (ov : Nat → Int64) (G : va_W) (i : Int32) (sz : Nat) (h : CI γ sb q0 ou fu fd wr nc nl vc vl ov G)  : CCi l y_TrustChainLaw_count w_TrustChainLaw_count ({ frames := 8, cells := 1, slots := 6, locals := 150 }) [.ref q0, .int i, .ref ou] (dC, dI) sb (ty4 γ) G sz (fun r G' => ∃ ov', CI γ sb q0 ou fu fd wr nc nl vc vl ov' G') := by
  obtain ⟨κ, Ad, ν, ω, fe, ho, ce, li, sh, rs, se, ch, fo, pl, L, o, as, foS, chS, faP, hLW, h2, h3, h4, h5, h6, h7⟩ := h
  refine cci_of (zl_count l hl0 dC dI sb γ κ Ad ν ω L G fe ho ce li sh rs se ch fo q0 pl o as foS chS faP (nI fd) wr ou fu ov i sz hLW) rfl rfl (fun r u _ hw => ?_)
  obtain ⟨⟨G', L', o', as', f', c', p', d', w'⟩, ov'⟩ := u
  obtain ⟨hW', ⟨-, r9, ⟨hu, -⟩, -⟩ | ⟨E, ⟨hu, -⟩, -⟩⟩ := hw
  · obtain ⟨rfl, rfl, rfl, rfl, rfl⟩ := pr5 (show (f', c', p', d', w') = (_, _, _, _, _) from hu)
    exact ⟨ov', κ, Ad, ν, ω, fe, ho, ce, li, sh, rs, se, ch, fo, pl, L', o', as', f', c', p', hW', h2, h3, h4, h5, h6, h7⟩
  · obtain ⟨rfl, rfl, rfl, rfl, rfl⟩ := pr5 (show (f', c', p', d', w') = (_, _, _, _, _) from hu)
    exact ⟨ov', κ, Ad, ν, ω, fe, ho, ce, li, sh, rs, se, ch, fo, pl, L', o', as', f', c', p', hW', h2, h3, h4, h5, h6, h7⟩
set_option maxHeartbeats 4000000 in
theorem ci_covers (l : Launch) (hl0 : l.stackTraces = false) (dC : Nat → ClassId) (dI : Nat → Nat → Nat) (sb : sB) (γ : cG) (q0 ou : Nat) (fu : Nat → Nat) (fd : Nat) (wr : Int32) (nc nl : Nat) (vc : Nat → vC) (vl : Nat → vL) (ov : Nat → Int64) (G : va_W) (i : Int32) (x0 x1 x2 x3 : Int64) (sz : Nat) (h : CI γ sb q0 ou fu fd wr nc nl vc vl ov G)  : CCi l y_TrustChainLaw_covers w_TrustChainLaw_covers ({ frames := 8, cells := 1, slots := 6, locals := 150 }) [.ref q0, .int i, .long x0, .long x1, .long x2, .long x3, .ref ou] (dC, dI) sb (ty4 γ) G sz (fun r G' => ∃ ov', CI γ sb q0 ou fu fd wr nc nl vc vl ov' G') := by
  obtain ⟨κ, Ad, ν, ω, fe, ho, ce, li, sh, rs, se, ch, fo, pl, L, o, as, foS, chS, faP, hLW, h2, h3, h4, h5, h6, h7⟩ := h
  refine cci_of (zl_covers l hl0 dC dI sb γ κ Ad ν ω L G fe ho ce li sh rs se ch fo q0 pl o as foS chS faP (nI fd) wr ou fu ov i x0 x1 x2 x3 sz hLW) rfl rfl (fun r u _ hw => ?_)
  obtain ⟨⟨G', L', o', as', f', c', p', d', w'⟩, ov'⟩ := u
  obtain ⟨hW', ⟨-, r9, ⟨hu, -⟩, -⟩ | ⟨E, ⟨hu, -⟩, -⟩⟩ := hw
  · obtain ⟨rfl, rfl, rfl, rfl, rfl⟩ := pr5 (show (f', c', p', d', w') = (_, _, _, _, _) from hu)
    exact ⟨ov', κ, Ad, ν, ω, fe, ho, ce, li, sh, rs, se, ch, fo, pl, L', o', as', f', c', p', hW', h2, h3, h4, h5, h6, h7⟩
  · obtain ⟨rfl, rfl, rfl, rfl, rfl⟩ := pr5 (show (f', c', p', d', w') = (_, _, _, _, _) from hu)
    exact ⟨ov', κ, Ad, ν, ω, fe, ho, ce, li, sh, rs, se, ch, fo, pl, L', o', as', f', c', p', hW', h2, h3, h4, h5, h6, h7⟩
set_option maxHeartbeats 4000000 in
theorem ci_validate (l : Launch) (hl0 : l.stackTraces = false) (dC : Nat → ClassId) (dI : Nat → Nat → Nat) (sb : sB) (γ : cG) (q0 ou : Nat) (fu : Nat → Nat) (fd : Nat) (wr : Int32) (nc nl : Nat) (vc : Nat → vC) (vl : Nat → vL) (ov : Nat → Int64) (G : va_W) (i j kn : Int32) (tm : Int64) (sz : Nat) (h : CI γ sb q0 ou fu fd wr nc nl vc vl ov G) (hkn : bz kn (kn = 1)) : CCi l y_TrustChainLaw_validate w_TrustChainLaw_validate ({ frames := 13, cells := 3, slots := 47, locals := 392 }) [.ref q0, .int i, .long tm, .int j, .int kn, .ref ou] (dC, dI) sb (ty4 γ) G sz (fun r G' => ∃ ov', CI γ sb q0 ou fu fd wr nc nl vc vl ov' G') := by
  obtain ⟨κ, Ad, ν, ω, fe, ho, ce, li, sh, rs, se, ch, fo, pl, L, o, as, foS, chS, faP, hLW, h2, h3, h4, h5, h6, h7⟩ := h
  refine cci_of (zl_validate l hl0 dC dI sb γ κ Ad ν ω L G fe ho ce li sh rs se ch fo q0 pl o as foS chS faP (nI fd) wr ou fu ov i j kn tm sz hLW hkn (h7.2.xc hLW.1.2.2.1)) rfl rfl (fun r u _ hw => ?_)
  obtain ⟨⟨G', L', o', as', f', c', p', d', w'⟩, ov'⟩ := u
  obtain ⟨hW', ⟨-, r9, ⟨hu, -⟩, -⟩ | ⟨E, ⟨hu, -⟩, -⟩⟩ := hw
  · obtain ⟨rfl, rfl⟩ := pr2 (show (d', w') = (_, _) from hu)
    exact ⟨ov', κ, Ad, ν, ω, fe, ho, ce, li, sh, rs, se, ch, fo, pl, L', o', as', f', c', p', hW', h2, h3, h4, h5, h6, h7⟩
  · obtain ⟨rfl, rfl, rfl, rfl, rfl⟩ := pr5 (show (f', c', p', d', w') = (_, _, _, _, _) from hu)
    exact ⟨ov', κ, Ad, ν, ω, fe, ho, ce, li, sh, rs, se, ch, fo, pl, L', o', as', f', c', p', hW', h2, h3, h4, h5, h6, h7⟩
set_option maxHeartbeats 4000000 in
theorem ci_part (l : Launch) (hl0 : l.stackTraces = false) (dC : Nat → ClassId) (dI : Nat → Nat → Nat) (sb : sB) (γ : cG) (q0 ou : Nat) (fu : Nat → Nat) (fd : Nat) (wr : Int32) (nc nl : Nat) (vc : Nat → vC) (vl : Nat → vL) (ov : Nat → Int64) (G : va_W) (i j : Int32) (sz : Nat) (h : CI γ sb q0 ou fu fd wr nc nl vc vl ov G)  : CCi l y_TrustChainLaw_part w_TrustChainLaw_part ({ frames := 8, cells := 1, slots := 6, locals := 150 }) [.ref q0, .int i, .int j, .ref ou] (dC, dI) sb (ty4 γ) G sz (fun r G' => ∃ ov', CI γ sb q0 ou fu fd wr nc nl vc vl ov' G' ∧ ((r = 0 ∧ ¬ (j < 0 ∨ 11 < j) ∧ ∃ k, k < nc ∧ i = nI k ∧ ov' = vp_updL ov 0 (tellV (vc k).1 (vc k).2.1 (vc k).2.2.1 j)) ∨ (r = 1 ∧ (j < 0 ∨ 11 < j) ∧ ov' = ov) ∨ (r = 2 ∧ ¬ (j < 0 ∨ 11 < j) ∧ ¬ (¬ i < 0 ∧ i < nI nc) ∧ ov' = ov))) := by
  obtain ⟨κ, Ad, ν, ω, fe, ho, ce, li, sh, rs, se, ch, fo, pl, L, o, as, foS, chS, faP, hLW, h2, h3, h4, h5, h6, h7⟩ := h
  refine cci_of (zl_part l hl0 dC dI sb γ κ Ad ν ω L G fe ho ce li sh rs se ch fo q0 pl o as foS chS faP (nI fd) wr ou fu ov i j sz hLW) rfl rfl (fun r u _ hw => ?_)
  obtain ⟨⟨G', L', o', as', f', c', p', d', w'⟩, ov'⟩ := u
  obtain ⟨hW', ⟨hr, r9, ⟨hu, hj, k, hk, hi, K, len, hK, h9⟩, ho9⟩ | ⟨E, ⟨hu, hE⟩, hr, ho9⟩⟩ := hw
  · obtain ⟨rfl, rfl, rfl, rfl, rfl⟩ := pr5 (show (f', c', p', d', w') = (_, _, _, _, _) from hu)
    have hv := (h4 k (by omega)).1
    unfold vcO at hv
    rw [hK] at hv
    exact ⟨ov', ⟨κ, Ad, ν, ω, fe, ho, ce, li, sh, rs, se, ch, fo, pl, L', o', as', f', c', p', hW', h2, h3, h4, h5, h6, h7⟩, Or.inl ⟨hr, hj, k, by omega, hi, by rw [hv]; rw [h9] at ho9; exact ho9⟩⟩
  · obtain ⟨rfl, rfl, rfl, rfl, rfl⟩ := pr5 (show (f', c', p', d', w') = (_, _, _, _, _) from hu)
    refine ⟨ov', ⟨κ, Ad, ν, ω, fe, ho, ce, li, sh, rs, se, ch, fo, pl, L', o', as', f', c', p', hW', h2, h3, h4, h5, h6, h7⟩, Or.inr ?_⟩
    rcases hE with ⟨rfl, hj⟩ | ⟨rfl, hj, hi⟩
    · exact Or.inl ⟨by rw [hr, if_pos rfl], hj, ho9⟩
    · exact Or.inr ⟨by rw [hr, if_neg (by decide)], hj, by rw [h2] at hi; exact hi, ho9⟩
set_option maxHeartbeats 4000000 in
theorem ci_listPart (l : Launch) (hl0 : l.stackTraces = false) (dC : Nat → ClassId) (dI : Nat → Nat → Nat) (sb : sB) (γ : cG) (q0 ou : Nat) (fu : Nat → Nat) (fd : Nat) (wr : Int32) (nc nl : Nat) (vc : Nat → vC) (vl : Nat → vL) (ov : Nat → Int64) (G : va_W) (i j : Int32) (sz : Nat) (h : CI γ sb q0 ou fu fd wr nc nl vc vl ov G)  : CCi l y_TrustChainLaw_listPart w_TrustChainLaw_listPart ({ frames := 8, cells := 1, slots := 6, locals := 150 }) [.ref q0, .int i, .int j, .ref ou] (dC, dI) sb (ty4 γ) G sz (fun r G' => ∃ ov', CI γ sb q0 ou fu fd wr nc nl vc vl ov' G' ∧ ((r = 0 ∧ ¬ (j < 0 ∨ 3 < j) ∧ ∃ k, k < nl ∧ i = nI k ∧ ov' = vp_updL ov 0 (ltellV (vl k).1 (vl k).2.1 j)) ∨ (r = 1 ∧ (j < 0 ∨ 3 < j) ∧ ov' = ov) ∨ (r = 2 ∧ ¬ (j < 0 ∨ 3 < j) ∧ ¬ (¬ i < 0 ∧ i < nI nl) ∧ ov' = ov))) := by
  obtain ⟨κ, Ad, ν, ω, fe, ho, ce, li, sh, rs, se, ch, fo, pl, L, o, as, foS, chS, faP, hLW, h2, h3, h4, h5, h6, h7⟩ := h
  refine cci_of (zl_listPart l hl0 dC dI sb γ κ Ad ν ω L G fe ho ce li sh rs se ch fo q0 pl o as foS chS faP (nI fd) wr ou fu ov i j sz hLW) rfl rfl (fun r u _ hw => ?_)
  obtain ⟨⟨G', L', o', as', f', c', p', d', w'⟩, ov'⟩ := u
  obtain ⟨hW', ⟨hr, r9, ⟨hu, hj, k, hk, hi, K, hK, h9⟩, ho9⟩ | ⟨E, ⟨hu, hE⟩, hr, ho9⟩⟩ := hw
  · obtain ⟨rfl, rfl, rfl, rfl, rfl⟩ := pr5 (show (f', c', p', d', w') = (_, _, _, _, _) from hu)
    have hv := h5 k (by omega)
    unfold vlO at hv
    rw [hK] at hv
    exact ⟨ov', ⟨κ, Ad, ν, ω, fe, ho, ce, li, sh, rs, se, ch, fo, pl, L', o', as', f', c', p', hW', h2, h3, h4, h5, h6, h7⟩, Or.inl ⟨hr, hj, k, by omega, hi, by rw [hv]; rw [h9] at ho9; exact ho9⟩⟩
  · obtain ⟨rfl, rfl, rfl, rfl, rfl⟩ := pr5 (show (f', c', p', d', w') = (_, _, _, _, _) from hu)
    refine ⟨ov', ⟨κ, Ad, ν, ω, fe, ho, ce, li, sh, rs, se, ch, fo, pl, L', o', as', f', c', p', hW', h2, h3, h4, h5, h6, h7⟩, Or.inr ?_⟩
    rcases hE with ⟨rfl, hj⟩ | ⟨rfl, hj, hi⟩
    · exact Or.inl ⟨by rw [hr, if_pos rfl], hj, ho9⟩
    · exact Or.inr ⟨by rw [hr, if_neg (by decide)], hj, by rw [h3] at hi; exact hi, ho9⟩
set_option maxHeartbeats 4000000 in
theorem ci_trust (l : Launch) (hl0 : l.stackTraces = false) (dC : Nat → ClassId) (dI : Nat → Nat → Nat) (sb : sB) (γ : cG) (q0 ou : Nat) (fu : Nat → Nat) (fd : Nat) (wr : Int32) (nc nl : Nat) (vc : Nat → vC) (vl : Nat → vL) (ov : Nat → Int64) (G : va_W) (i j : Int32) (sz : Nat) (h : CI γ sb q0 ou fu fd wr nc nl vc vl ov G) (hj : b01 j) : CCi l y_TrustChainLaw_trust w_TrustChainLaw_trust ({ frames := 8, cells := 1, slots := 6, locals := 150 }) [.ref q0, .int i, .int j, .ref ou] (dC, dI) sb (ty4 γ) G sz (fun r G' => (r = 0 ∧ ∃ k, k < nc ∧ i = nI k ∧ CI γ sb q0 ou fu fd wr nc nl (vT vc k j) vl (vp_updL ov 0 (if (vc k).1.2.2.2.2.2.2.2.2.1 = 0 then 0 else 1)) G') ∨ (r = 1 ∧ ¬ (¬ i < 0 ∧ i < nI nc) ∧ CI γ sb q0 ou fu fd wr nc nl vc vl ov G')) := by
  obtain ⟨κ, Ad, ν, ω, fe, ho, ce, li, sh, rs, se, ch, fo, pl, L, o, as, foS, chS, faP, hLW, h2, h3, h4, h5, h6, h7⟩ := h
  refine cci_of (zl_trust l hl0 dC dI sb γ κ Ad ν ω L G fe ho ce li sh rs se ch fo q0 pl o as foS chS faP (nI fd) wr ou fu ov i j sz hLW hj) rfl rfl (fun r u _ hw => ?_)
  obtain ⟨⟨G', L', o', as', f', c', p', d', w'⟩, ov'⟩ := u
  rcases hw with ⟨hr, k, hk, hi, hW', hu, ho9⟩ | ⟨hW', E, ⟨hu, hE, hn⟩, hr, ho9⟩
  · obtain ⟨rfl, rfl, rfl, rfl, rfl⟩ := pr5 (show (f', c', p', d', w') = (_, _, _, _, _) from hu)
    have ho9 : ov' = _ := ho9
    have hv := (h4 k (by omega)).1
    refine Or.inl ⟨hr, k, by omega, hi, ?_⟩
    rw [show (if (vc k).1.2.2.2.2.2.2.2.2.1 = 0 then (0 : Int64) else 1) = (if (ν ((ω ce).getD k 0)).2.2.2.2.2.2.2.2.1 = 0 then 0 else 1) by rw [hv]; rfl, ← ho9]
    refine ⟨κ, Ad, (nuT ν ((ω ce).getD k 0) j), ω, fe, ho, ce, li, sh, rs, se, ch, fo, pl, L', o', as', f', c', p', hW', h2, h3, fun z hz => ?_, fun z hz => ?_, h6, h7.1, h7.2.nuT⟩
    · have hz2 := h4 z hz
      by_cases hzk : z = k
      · subst hzk
        have e1 : vT vc z j z = _ := if_pos rfl
        have e2 : nuT ν ((ω ce).getD z 0) j ((ω ce).getD z 0) = _ := if_pos rfl
        rw [e1]
        refine ⟨?_, by have h9 := hz2.2; exact h9⟩
        unfold vcO
        rw [e2, (nuT_w ν ((ω ce).getD z 0) j ((ω ((ω ce).getD z 0)).getD 0 0)).1, hv]
        rfl
      · have e1 : vT vc k j z = vc z := if_neg hzk
        have hne : ¬ (ω ce).getD z 0 = (ω ce).getD k 0 := fun e => by
          have a1 := hz2.2
          have a2 := (h4 k (by omega)).2
          rw [hz2.1, e] at a1
          rw [hv] at a2
          have a3 : nI z = nI k := a1.symm.trans a2
          have b1 : nc ≤ 16 := by have h9 := hLW.1.2.2.1; omega
          exact hzk (nI_inj9 (by omega) (by omega) a3)
        have e2 : nuT ν ((ω ce).getD k 0) j ((ω ce).getD z 0) = ν ((ω ce).getD z 0) := if_neg hne
        rw [e1]
        refine ⟨?_, hz2.2⟩
        unfold vcO
        rw [e2, (nuT_w ν ((ω ce).getD k 0) j ((ω ((ω ce).getD z 0)).getD 0 0)).1]
        exact hz2.1
    · have hz2 := h5 z hz
      obtain ⟨p1, q1, t1⟩ := ce_en hLW.2.1.1 hLW.1.1.2.1 (k := k) hk
      obtain ⟨p2, t2⟩ := li_en hLW.2.1.1 hLW.1.1.2.2.1 (k := z) (by omega)
      have hne : ¬ (ω li).getD z 0 = (ω ce).getD k 0 := fun e => by
        have a1 := t1.2
        rw [← e, t2.2] at a1
        exact absurd (congrArg Prod.fst a1) (by simp)
      have e2 : nuT ν ((ω ce).getD k 0) j ((ω li).getD z 0) = ν ((ω li).getD z 0) := if_neg hne
      unfold vlO
      rw [e2, (nuT_w ν ((ω ce).getD k 0) j ((ω ((ω li).getD z 0)).getD 0 0)).1]
      exact hz2
  · obtain ⟨rfl, rfl, rfl, rfl, rfl⟩ := pr5 (show (f', c', p', d', w') = (_, _, _, _, _) from hu)
    have ho9 : ov' = ov := ho9
    subst ho9
    exact Or.inr ⟨hr, by rw [h2] at hn; exact hn, κ, Ad, ν, ω, fe, ho, ce, li, sh, rs, se, ch, fo, pl, L', o', as', f', c', p', hW', h2, h3, h4, h5, h6, h7⟩
noncomputable def cNw (v : Nat → Nat) (i tr : Int32) (nc : Nat) : vC := (((rd_cert v i.toNatClampNeg (0, 0, none) 0 0 (0, 0) (0, 0) 0 (-1) (-1) [] [] [] [] [] [] []).2.2.2.2.2.2.2.2.2.1, (rd_cert v i.toNatClampNeg (0, 0, none) 0 0 (0, 0) (0, 0) 0 (-1) (-1) [] [] [] [] [] [] []).2.2.2.2.2.2.2.2.2.2.1, (rd_cert v i.toNatClampNeg (0, 0, none) 0 0 (0, 0) (0, 0) 0 (-1) (-1) [] [] [] [] [] [] []).2.2.2.2.2.2.2.2.2.2.2.1, (rd_cert v i.toNatClampNeg (0, 0, none) 0 0 (0, 0) (0, 0) 0 (-1) (-1) [] [] [] [] [] [] []).2.2.2.2.2.2.2.2.2.2.2.2.1, (rd_cert v i.toNatClampNeg (0, 0, none) 0 0 (0, 0) (0, 0) 0 (-1) (-1) [] [] [] [] [] [] []).2.2.2.2.2.2.2.2.2.2.2.2.2.1, (rd_cert v i.toNatClampNeg (0, 0, none) 0 0 (0, 0) (0, 0) 0 (-1) (-1) [] [] [] [] [] [] []).2.2.2.2.2.2.2.2.2.2.2.2.2.2.1, (rd_cert v i.toNatClampNeg (0, 0, none) 0 0 (0, 0) (0, 0) 0 (-1) (-1) [] [] [] [] [] [] []).2.2.2.2.2.2.2.2.2.2.2.2.2.2.2.1, (rd_cert v i.toNatClampNeg (0, 0, none) 0 0 (0, 0) (0, 0) 0 (-1) (-1) [] [] [] [] [] [] []).2.2.2.2.2.2.2.2.2.2.2.2.2.2.2.2.1, tr, (rd_cert v i.toNatClampNeg (0, 0, none) 0 0 (0, 0) (0, 0) 0 (-1) (-1) [] [] [] [] [] [] []).2.2.2.2.2.2.2.2.2.2.2.2.2.2.2.2.2.2.1, (rd_cert v i.toNatClampNeg (0, 0, none) 0 0 (0, 0) (0, 0) 0 (-1) (-1) [] [] [] [] [] [] []).2.2.2.2.2.2.2.2.2.2.2.2.2.2.2.2.2.2.2.1, (rd_cert v i.toNatClampNeg (0, 0, none) 0 0 (0, 0) (0, 0) 0 (-1) (-1) [] [] [] [] [] [] []).2.2.2.2.2.2.2.2.2.2.2.2.2.2.2.2.2.1, nI nc), (rd_cert v i.toNatClampNeg (0, 0, none) 0 0 (0, 0) (0, 0) 0 (-1) (-1) [] [] [] [] [] [] []).2.2.2.2.2.2.2.2.2.2.2.2.2.2.2.2.2.2.2.2.1.length, (rd_cert v i.toNatClampNeg (0, 0, none) 0 0 (0, 0) (0, 0) 0 (-1) (-1) [] [] [] [] [] [] []).2.1.2 - (rd_cert v i.toNatClampNeg (0, 0, none) 0 0 (0, 0) (0, 0) 0 (-1) (-1) [] [] [] [] [] [] []).2.1.1, hw8 (hsV v (rd_cert v i.toNatClampNeg (0, 0, none) 0 0 (0, 0) (0, 0) 0 (-1) (-1) [] [] [] [] [] [] []).2.2.2.2.2.1.1 (rd_cert v i.toNatClampNeg (0, 0, none) 0 0 (0, 0) (0, 0) 0 (-1) (-1) [] [] [] [] [] [] []).2.2.2.2.2.1.2), ocE v (rd_cert v i.toNatClampNeg (0, 0, none) 0 0 (0, 0) (0, 0) 0 (-1) (-1) [] [] [] [] [] [] []).2.2.2.2.1, (rd_cert v i.toNatClampNeg (0, 0, none) 0 0 (0, 0) (0, 0) 0 (-1) (-1) [] [] [] [] [] [] []).2.2.2.2.1.2 - (rd_cert v i.toNatClampNeg (0, 0, none) 0 0 (0, 0) (0, 0) 0 (-1) (-1) [] [] [] [] [] [] []).2.2.2.2.1.1, ocE v (rd_cert v i.toNatClampNeg (0, 0, none) 0 0 (0, 0) (0, 0) 0 (-1) (-1) [] [] [] [] [] [] []).2.2.2.2.2.2.1, (rd_cert v i.toNatClampNeg (0, 0, none) 0 0 (0, 0) (0, 0) 0 (-1) (-1) [] [] [] [] [] [] []).2.2.2.2.2.2.1.2 - (rd_cert v i.toNatClampNeg (0, 0, none) 0 0 (0, 0) (0, 0) 0 (-1) (-1) [] [] [] [] [] [] []).2.2.2.2.2.2.1.1)
set_option maxHeartbeats 4000000 in
theorem ci_certificate (l : Launch) (hl0 : l.stackTraces = false) (dC : Nat → ClassId) (dI : Nat → Nat → Nat) (sb : sB) (γ : cG) (q0 ou : Nat) (fu : Nat → Nat) (fd : Nat) (wr : Int32) (nc nl : Nat) (vc : Nat → vC) (vl : Nat → vL) (ov : Nat → Int64) (G : va_W) (i tr : Int32) (v : Nat → Nat) (sz : Nat) (h : CI γ sb q0 ou fu fd wr nc nl vc vl ov G) (hj : b01 tr) (hvb : ∀ j, v j < 256) (hv : ∀ j, j < i.toNatClampNeg → v j = fu j) : CCi l y_TrustChainLaw_certificate w_TrustChainLaw_certificate ({ frames := 14, cells := (8 * fd + 100), slots := (405 * fd + 2700), locals := 444 }) [.ref q0, .int i, .int tr, .ref ou] (dC, dI) sb (ty4 γ) G sz (fun r G' => (r = 0 ∧ ((¬ i < 0 ∧ i ≤ 2048 ∧ i ≤ nI fd) ∧ nc < 16) ∧ (rd_cert v i.toNatClampNeg (0, 0, none) 0 0 (0, 0) (0, 0) 0 (-1) (-1) [] [] [] [] [] [] []).1.2.2 = none ∧ CI γ sb q0 ou fu 0 (-1) (nc + 1) nl (vU vc nc (cNw v i tr nc)) vl (vp_updL ov 0 (nI nc).toInt64) G') ∨ (r = 1 ∧ ¬ ((¬ i < 0 ∧ i ≤ 2048 ∧ i ≤ nI fd) ∧ nc < 16) ∧ CI γ sb q0 ou fu fd wr nc nl vc vl ov G') ∨ (r = 2 ∧ ((¬ i < 0 ∧ i ≤ 2048 ∧ i ≤ nI fd) ∧ nc < 16) ∧ ∃ w, (rd_cert v i.toNatClampNeg (0, 0, none) 0 0 (0, 0) (0, 0) 0 (-1) (-1) [] [] [] [] [] [] []).1.2.2 = some w ∧ CI γ sb q0 ou fu 0 (nI w) nc nl vc vl ov G')) := by
  obtain ⟨κ, Ad, ν, ω, fe, ho, ce, li, sh, rs, se, ch, fo, pl, L, o, as, foS, chS, faP, hLW, h2, h3, h4, h5, h6, h7⟩ := h
  refine cci_of (zl_certificate l hl0 dC dI sb γ κ Ad ν ω L G fe ho ce li sh rs se ch fo q0 pl o as foS chS faP (nI fd) wr ou fu ov i tr v fd sz hLW hj hvb hv rfl h6) rfl rfl (fun r u _ hw => ?_)
  obtain ⟨⟨G', L', o', as', f', c', p', d', w'⟩, ov'⟩ := u
  rcases hw with ⟨hr, κ', Ad', res, ω1, ν2, hres, hkk, hW', hK, hu, hi, hcap, hno, ho9, hω1, hν2, hhs, ha9, si9, mo9, sg9, w9, ws9, km9, ks9, om9, os9, h89⟩ | ⟨hW', E, hE, hr, ho9⟩
  · obtain ⟨rfl, rfl, rfl, rfl, rfl⟩ := pr5 (show (f', c', p', d', w') = (_, _, _, _, _) from hu)
    have ho9 : ov' = _ := ho9
    rw [h2] at hcap ho9
    refine Or.inl ⟨hr, ⟨hi, hcap⟩, hno, ?_⟩
    rw [← ho9]
    have kce := hLW.1.1.2.1
    have kli := hLW.1.1.2.2.1
    have hne : ce ≠ li := fun e => by
      have a1 := kce.2
      rw [e, kli.2] at a1
      exact absurd (congrArg Prod.fst a1) (by simp)
    have o1 : wU ω1 ce res ce = ω ce ++ [res] := by rw [wU_at, hω1 _ kce.1]
    have o2 : wU ω1 ce res li = ω li := (wU_ne hne.symm).trans (hω1 _ kli.1)
    have hwO : ∀ a, a ∈ Ad → (κ a).1 ≠ 15 → (κ a).1 ≠ 17 → wU ω1 ce res a = ω a := fun a ha h15 h17 => (wU_ne (fun e => h15 (by rw [e, kce.2]))).trans (hω1 a ha)
    have hkO : ∀ a, a ∈ Ad → (κ a).1 ≠ 14 → (κ a).1 ≠ 16 → κ' a = κ a := fun a ha h14 h16 => (hkk a ha h14).1
    have hnO : ∀ (N9 : cN) a, a ∈ Ad → nuR ν2 res N9 a = ν a := fun N9 a ha => (nuR_ne (fun e => hres (by rw [← e]; exact ha))).trans (hν2 a ha)
    have hwK : wK κ Ad ω (wU ω1 ce res) := fun a ha hk9 => hwO a ha (by rcases hk9 with e | e | e | e <;> rw [e] <;> decide) (by rcases hk9 with e | e | e | e <;> rw [e] <;> decide)
    have hk2 : ∀ a, a ∈ Ad → (κ a).1 = 2 ∨ (κ a).1 = 8 ∨ (κ a).1 = 9 → κ' a = κ a := fun a ha hk9 => hkO a ha (by rcases hk9 with e | e | e <;> rw [e] <;> decide) (by rcases hk9 with e | e | e <;> rw [e] <;> decide)
    have T := hLW.2.1.1
    have T' := hW'.2.1.1
    dsimp only at T T'
    obtain ⟨ω2, hw2, T2, X2⟩ := XI_step (ce := ce) (res := res) T T' h7.2 (by rw [hW'.1.1.2.1.2]; exact (by decide : (15 : Nat) ≠ 6)) (LWx.hl hW') (fun k hk => (ce_en T kce hk).elim (fun p h => h.elim (fun q h => ⟨h.1, by rw [h.2]⟩))) (fun k hk => (ce_en T' hW'.1.1.2.1 hk).elim (fun p h => h.elim (fun q h => ⟨h.1, by rw [h.2]⟩))) hwO hkO (hnO _) h89 (by rw [w9]; exact ws9) (Or.inr ⟨o1, by rw [nuR_at], by rw [nuR_at, w9]; show kFx _ (slO _ mo9 (κ' mo9).2.1) (κ' mo9).2.1; rw [km9.2]; show kFx _ (slO _ mo9 ((rd_cert v i.toNatClampNeg (0, 0, none) 0 0 (0, 0) (0, 0) 0 (-1) (-1) [] [] [] [] [] [] []).2.2.2.2.1.2 - (rd_cert v i.toNatClampNeg (0, 0, none) 0 0 (0, 0) (0, 0) 0 (-1) (-1) [] [] [] [] [] [] []).2.2.2.2.1.1)) ((rd_cert v i.toNatClampNeg (0, 0, none) 0 0 (0, 0) (0, 0) 0 (-1) (-1) [] [] [] [] [] [] []).2.2.2.2.1.2 - (rd_cert v i.toNatClampNeg (0, 0, none) 0 0 (0, 0) (0, 0) 0 (-1) (-1) [] [] [] [] [] [] []).2.2.2.2.1.1); rw [om9]; exact cert_kF hvb (show i.toNatClampNeg ≤ 2048 from by obtain ⟨n9, h31, en9⟩ := nI_of hi.1; have hle : n9 ≤ 2048 := (nI_leI (a := n9) (b := 2048) (by omega) (by omega)).mp (by rw [← en9]; exact hi.2.1); rw [en9, nI_clamp (by omega)]; exact hle) rfl hno _ rfl rfl⟩)
    have hw6 := wK_6 (Ad := Ad') hw2
    have z1 : ω2 ce = ω ce ++ [res] := (hw2 ce (by rw [hW'.1.1.2.1.2]; exact (by decide : (15 : Nat) ≠ 6))).trans o1
    have z2 : ω2 li = ω li := (hw2 li (by rw [hW'.1.1.2.2.1.2]; exact (by decide : (17 : Nat) ≠ 6))).trans o2
    refine ⟨κ', Ad', _, ω2, fe, ho, ce, li, sh, rs, se, ch, fo, pl, L', o', as', f', c', p', LWx.om hW' hw2 T2, ?_, ?_, fun k hk => ?_, fun k hk => ?_, Nat.zero_le _, h7.1, X2⟩
    · rw [z1, List.length_append, h2]
      rfl
    · rw [z2]
      exact h3
    · by_cases hkn : k = nc
      · subst hkn
        have e1 : vU vc k (cNw v i tr k) k = cNw v i tr k := if_pos rfl
        have e3 : (ω ce ++ [res]).getD k 0 = res := by rw [← h2]; exact getD_end
        rw [e1, z1, e3]
        have e8 := vcO_k T' hK.1 (by rw [hK.2]) hw6 (fun _ _ _ => rfl) (fun _ _ => rfl)
        refine ⟨?_, rfl⟩
        rw [e8]
        unfold vcO cNw
        rw [hw8_of hhs, nuR_at, hK.2, w9]
        show _ = (_, _, _, _, slO _ mo9 (κ' mo9).2.1, (κ' mo9).2.1, slO _ sg9 (κ' sg9).2.1, (κ' sg9).2.1)
        rw [km9.2, ks9.2]
        show _ = (_, _, _, _, slO _ mo9 ((rd_cert v i.toNatClampNeg (0, 0, none) 0 0 (0, 0) (0, 0) 0 (-1) (-1) [] [] [] [] [] [] []).2.2.2.2.1.2 - (rd_cert v i.toNatClampNeg (0, 0, none) 0 0 (0, 0) (0, 0) 0 (-1) (-1) [] [] [] [] [] [] []).2.2.2.2.1.1), (rd_cert v i.toNatClampNeg (0, 0, none) 0 0 (0, 0) (0, 0) 0 (-1) (-1) [] [] [] [] [] [] []).2.2.2.2.1.2 - (rd_cert v i.toNatClampNeg (0, 0, none) 0 0 (0, 0) (0, 0) 0 (-1) (-1) [] [] [] [] [] [] []).2.2.2.2.1.1, slO _ sg9 ((rd_cert v i.toNatClampNeg (0, 0, none) 0 0 (0, 0) (0, 0) 0 (-1) (-1) [] [] [] [] [] [] []).2.2.2.2.2.2.1.2 - (rd_cert v i.toNatClampNeg (0, 0, none) 0 0 (0, 0) (0, 0) 0 (-1) (-1) [] [] [] [] [] [] []).2.2.2.2.2.2.1.1), (rd_cert v i.toNatClampNeg (0, 0, none) 0 0 (0, 0) (0, 0) 0 (-1) (-1) [] [] [] [] [] [] []).2.2.2.2.2.2.1.2 - (rd_cert v i.toNatClampNeg (0, 0, none) 0 0 (0, 0) (0, 0) 0 (-1) (-1) [] [] [] [] [] [] []).2.2.2.2.2.2.1.1)
        rw [om9, os9, h2]
      · have hk2' : k < nc := by omega
        have e1 : vU vc nc (cNw v i tr nc) k = vc k := if_neg hkn
        obtain ⟨p1, q1, t1⟩ := ce_en T kce (k := k) (by omega)
        have e9 := vcO_k T t1.1 (by rw [t1.2]) hwK hk2 (hnO ((rd_cert v i.toNatClampNeg (0, 0, none) 0 0 (0, 0) (0, 0) 0 (-1) (-1) [] [] [] [] [] [] []).2.2.2.2.2.2.2.2.2.1, (rd_cert v i.toNatClampNeg (0, 0, none) 0 0 (0, 0) (0, 0) 0 (-1) (-1) [] [] [] [] [] [] []).2.2.2.2.2.2.2.2.2.2.1, (rd_cert v i.toNatClampNeg (0, 0, none) 0 0 (0, 0) (0, 0) 0 (-1) (-1) [] [] [] [] [] [] []).2.2.2.2.2.2.2.2.2.2.2.1, (rd_cert v i.toNatClampNeg (0, 0, none) 0 0 (0, 0) (0, 0) 0 (-1) (-1) [] [] [] [] [] [] []).2.2.2.2.2.2.2.2.2.2.2.2.1, (rd_cert v i.toNatClampNeg (0, 0, none) 0 0 (0, 0) (0, 0) 0 (-1) (-1) [] [] [] [] [] [] []).2.2.2.2.2.2.2.2.2.2.2.2.2.1, (rd_cert v i.toNatClampNeg (0, 0, none) 0 0 (0, 0) (0, 0) 0 (-1) (-1) [] [] [] [] [] [] []).2.2.2.2.2.2.2.2.2.2.2.2.2.2.1, (rd_cert v i.toNatClampNeg (0, 0, none) 0 0 (0, 0) (0, 0) 0 (-1) (-1) [] [] [] [] [] [] []).2.2.2.2.2.2.2.2.2.2.2.2.2.2.2.1, (rd_cert v i.toNatClampNeg (0, 0, none) 0 0 (0, 0) (0, 0) 0 (-1) (-1) [] [] [] [] [] [] []).2.2.2.2.2.2.2.2.2.2.2.2.2.2.2.2.1, tr, (rd_cert v i.toNatClampNeg (0, 0, none) 0 0 (0, 0) (0, 0) 0 (-1) (-1) [] [] [] [] [] [] []).2.2.2.2.2.2.2.2.2.2.2.2.2.2.2.2.2.2.1, (rd_cert v i.toNatClampNeg (0, 0, none) 0 0 (0, 0) (0, 0) 0 (-1) (-1) [] [] [] [] [] [] []).2.2.2.2.2.2.2.2.2.2.2.2.2.2.2.2.2.2.2.1, (rd_cert v i.toNatClampNeg (0, 0, none) 0 0 (0, 0) (0, 0) 0 (-1) (-1) [] [] [] [] [] [] []).2.2.2.2.2.2.2.2.2.2.2.2.2.2.2.2.2.1, (nI (ω ce).length)))
        have t2 := (hkk _ t1.1 (by rw [t1.2]; exact (by decide : (8 : Nat) ≠ 14)))
        have e8 := vcO_k T' t2.2 (by rw [t2.1, t1.2]) hw6 (fun _ _ _ => rfl) (fun _ _ => rfl)
        rw [e1, z1, getD_app (by omega), e8, e9]
        exact h4 k hk2'
    · obtain ⟨p1, t1⟩ := li_en T kli (k := k) (by omega)
      have e9 := vlO_k T t1.1 (by rw [t1.2]) hwK hk2 (hnO ((rd_cert v i.toNatClampNeg (0, 0, none) 0 0 (0, 0) (0, 0) 0 (-1) (-1) [] [] [] [] [] [] []).2.2.2.2.2.2.2.2.2.1, (rd_cert v i.toNatClampNeg (0, 0, none) 0 0 (0, 0) (0, 0) 0 (-1) (-1) [] [] [] [] [] [] []).2.2.2.2.2.2.2.2.2.2.1, (rd_cert v i.toNatClampNeg (0, 0, none) 0 0 (0, 0) (0, 0) 0 (-1) (-1) [] [] [] [] [] [] []).2.2.2.2.2.2.2.2.2.2.2.1, (rd_cert v i.toNatClampNeg (0, 0, none) 0 0 (0, 0) (0, 0) 0 (-1) (-1) [] [] [] [] [] [] []).2.2.2.2.2.2.2.2.2.2.2.2.1, (rd_cert v i.toNatClampNeg (0, 0, none) 0 0 (0, 0) (0, 0) 0 (-1) (-1) [] [] [] [] [] [] []).2.2.2.2.2.2.2.2.2.2.2.2.2.1, (rd_cert v i.toNatClampNeg (0, 0, none) 0 0 (0, 0) (0, 0) 0 (-1) (-1) [] [] [] [] [] [] []).2.2.2.2.2.2.2.2.2.2.2.2.2.2.1, (rd_cert v i.toNatClampNeg (0, 0, none) 0 0 (0, 0) (0, 0) 0 (-1) (-1) [] [] [] [] [] [] []).2.2.2.2.2.2.2.2.2.2.2.2.2.2.2.1, (rd_cert v i.toNatClampNeg (0, 0, none) 0 0 (0, 0) (0, 0) 0 (-1) (-1) [] [] [] [] [] [] []).2.2.2.2.2.2.2.2.2.2.2.2.2.2.2.2.1, tr, (rd_cert v i.toNatClampNeg (0, 0, none) 0 0 (0, 0) (0, 0) 0 (-1) (-1) [] [] [] [] [] [] []).2.2.2.2.2.2.2.2.2.2.2.2.2.2.2.2.2.2.1, (rd_cert v i.toNatClampNeg (0, 0, none) 0 0 (0, 0) (0, 0) 0 (-1) (-1) [] [] [] [] [] [] []).2.2.2.2.2.2.2.2.2.2.2.2.2.2.2.2.2.2.2.1, (rd_cert v i.toNatClampNeg (0, 0, none) 0 0 (0, 0) (0, 0) 0 (-1) (-1) [] [] [] [] [] [] []).2.2.2.2.2.2.2.2.2.2.2.2.2.2.2.2.2.1, (nI (ω ce).length)))
      have t2 := (hkk _ t1.1 (by rw [t1.2]; exact (by decide : (9 : Nat) ≠ 14)))
      have e8 := vlO_k T' t2.2 (by rw [t2.1, t1.2]) hw6 (fun _ _ _ => rfl) (fun _ _ => rfl)
      rw [z2, e8, e9]
      exact h5 k hk
  · have ho9 : ov' = ov := ho9
    subst ho9
    rcases hE with ⟨hu, rfl, hn⟩ | ⟨rfl, hi, hcap, w, hw9, hu⟩
    · obtain ⟨rfl, rfl, rfl, rfl, rfl⟩ := pr5 (show (f', c', p', d', w') = (_, _, _, _, _) from hu)
      exact Or.inr (Or.inl ⟨by rw [hr, if_neg (by decide)], by rw [h2] at hn; exact hn, κ, Ad, ν, ω, fe, ho, ce, li, sh, rs, se, ch, fo, pl, L', o', as', f', c', p', hW', h2, h3, h4, h5, h6, h7⟩)
    · obtain ⟨rfl, rfl, rfl, rfl, rfl⟩ := pr5 (show (f', c', p', d', w') = (_, _, _, _, _) from hu)
      exact Or.inr (Or.inr ⟨by rw [hr, if_pos rfl], ⟨hi, by rw [h2] at hcap; exact hcap⟩, w, hw9, κ, Ad, ν, ω, fe, ho, ce, li, sh, rs, se, ch, fo, pl, L', o', as', f', c', p', hW', h2, h3, h4, h5, Nat.zero_le _, h7⟩)
noncomputable def lNw (v : Nat → Nat) (i : Int32) : vL := ((0, 0, 0, 0, 0, 0, 0, 0, 0, (rd_lst v i.toNatClampNeg (0, 0, none) 0 0 0 [] []).2.2.2.2.2.1, (rd_lst v i.toNatClampNeg (0, 0, none) 0 0 0 [] []).2.2.2.2.2.2.1, (rd_lst v i.toNatClampNeg (0, 0, none) 0 0 0 [] []).2.2.2.2.1, 0), (rd_lst v i.toNatClampNeg (0, 0, none) 0 0 0 [] []).2.2.2.2.2.2.2.1.length, hw8 (hsV v (rd_lst v i.toNatClampNeg (0, 0, none) 0 0 0 [] []).2.2.1.1 (rd_lst v i.toNatClampNeg (0, 0, none) 0 0 0 [] []).2.2.1.2), ocE v (rd_lst v i.toNatClampNeg (0, 0, none) 0 0 0 [] []).2.2.2.1, (rd_lst v i.toNatClampNeg (0, 0, none) 0 0 0 [] []).2.2.2.1.2 - (rd_lst v i.toNatClampNeg (0, 0, none) 0 0 0 [] []).2.2.2.1.1)
set_option maxHeartbeats 4000000 in
theorem ci_list (l : Launch) (hl0 : l.stackTraces = false) (dC : Nat → ClassId) (dI : Nat → Nat → Nat) (sb : sB) (γ : cG) (q0 ou : Nat) (fu : Nat → Nat) (fd : Nat) (wr : Int32) (nc nl : Nat) (vc : Nat → vC) (vl : Nat → vL) (ov : Nat → Int64) (G : va_W) (i : Int32) (v : Nat → Nat) (sz : Nat) (h : CI γ sb q0 ou fu fd wr nc nl vc vl ov G) (hvb : ∀ j, v j < 256) (hv : ∀ j, j < i.toNatClampNeg → v j = fu j) : CCi l y_TrustChainLaw_list w_TrustChainLaw_list ({ frames := 13, cells := (8 * fd + 100), slots := (405 * fd + 2700), locals := 402 }) [.ref q0, .int i, .ref ou] (dC, dI) sb (ty4 γ) G sz (fun r G' => (r = 0 ∧ ((¬ i < 0 ∧ i ≤ 2048 ∧ i ≤ nI fd) ∧ nl < 8) ∧ (rd_lst v i.toNatClampNeg (0, 0, none) 0 0 0 [] []).1.2.2 = none ∧ CI γ sb q0 ou fu 0 (-1) nc (nl + 1) vc (vU vl nl (lNw v i)) (vp_updL ov 0 (nI nl).toInt64) G') ∨ (r = 1 ∧ ¬ ((¬ i < 0 ∧ i ≤ 2048 ∧ i ≤ nI fd) ∧ nl < 8) ∧ CI γ sb q0 ou fu fd wr nc nl vc vl ov G') ∨ (r = 2 ∧ ((¬ i < 0 ∧ i ≤ 2048 ∧ i ≤ nI fd) ∧ nl < 8) ∧ ∃ w, (rd_lst v i.toNatClampNeg (0, 0, none) 0 0 0 [] []).1.2.2 = some w ∧ CI γ sb q0 ou fu 0 (nI w) nc nl vc vl ov G')) := by
  obtain ⟨κ, Ad, ν, ω, fe, ho, ce, li, sh, rs, se, ch, fo, pl, L, o, as, foS, chS, faP, hLW, h2, h3, h4, h5, h6, h7⟩ := h
  refine cci_of (zl_list l hl0 dC dI sb γ κ Ad ν ω L G fe ho ce li sh rs se ch fo q0 pl o as foS chS faP (nI fd) wr ou fu ov i v fd sz hLW hvb hv rfl h6) rfl rfl (fun r u _ hw => ?_)
  obtain ⟨⟨G', L', o', as', f', c', p', d', w'⟩, ov'⟩ := u
  rcases hw with ⟨hr, κ', Ad', res, ω1, ν2, hres, hkk, hW', hK, hu, hi, hcap, hno, ho9, hω1, hν2, hhs, ha9, si9, sg9, w9, ws9, ks9, os9, h89⟩ | ⟨hW', E, hE, hr, ho9⟩
  · obtain ⟨rfl, rfl, rfl, rfl, rfl⟩ := pr5 (show (f', c', p', d', w') = (_, _, _, _, _) from hu)
    have ho9 : ov' = _ := ho9
    rw [h3] at hcap ho9
    refine Or.inl ⟨hr, ⟨hi, hcap⟩, hno, ?_⟩
    rw [← ho9]
    have kce := hLW.1.1.2.1
    have kli := hLW.1.1.2.2.1
    have hne : ce ≠ li := fun e => by
      have a1 := kce.2
      rw [e, kli.2] at a1
      exact absurd (congrArg Prod.fst a1) (by simp)
    have o1 : wU ω1 li res li = ω li ++ [res] := by rw [wU_at, hω1 _ kli.1]
    have o2 : wU ω1 li res ce = ω ce := (wU_ne hne).trans (hω1 _ kce.1)
    have hwO : ∀ a, a ∈ Ad → (κ a).1 ≠ 15 → (κ a).1 ≠ 17 → wU ω1 li res a = ω a := fun a ha h15 h17 => (wU_ne (fun e => h17 (by rw [e, kli.2]))).trans (hω1 a ha)
    have hkO : ∀ a, a ∈ Ad → (κ a).1 ≠ 14 → (κ a).1 ≠ 16 → κ' a = κ a := fun a ha h14 h16 => (hkk a ha h16).1
    have hnO : ∀ (N9 : cN) a, a ∈ Ad → nuR ν2 res N9 a = ν a := fun N9 a ha => (nuR_ne (fun e => hres (by rw [← e]; exact ha))).trans (hν2 a ha)
    have hwK : wK κ Ad ω (wU ω1 li res) := fun a ha hk9 => hwO a ha (by rcases hk9 with e | e | e | e <;> rw [e] <;> decide) (by rcases hk9 with e | e | e | e <;> rw [e] <;> decide)
    have hk2 : ∀ a, a ∈ Ad → (κ a).1 = 2 ∨ (κ a).1 = 8 ∨ (κ a).1 = 9 → κ' a = κ a := fun a ha hk9 => hkO a ha (by rcases hk9 with e | e | e <;> rw [e] <;> decide) (by rcases hk9 with e | e | e <;> rw [e] <;> decide)
    have T := hLW.2.1.1
    have T' := hW'.2.1.1
    dsimp only at T T'
    obtain ⟨ω2, hw2, T2, X2⟩ := XI_step (ce := ce) (res := res) T T' h7.2 (by rw [hW'.1.1.2.1.2]; exact (by decide : (15 : Nat) ≠ 6)) (LWx.hl hW') (fun k hk => (ce_en T kce hk).elim (fun p h => h.elim (fun q h => ⟨h.1, by rw [h.2]⟩))) (fun k hk => (ce_en T' hW'.1.1.2.1 hk).elim (fun p h => h.elim (fun q h => ⟨h.1, by rw [h.2]⟩))) hwO hkO (hnO _) h89 (by rw [w9]; exact ws9) (Or.inl ⟨o2, by rw [hK.2]⟩)
    have hw6 := wK_6 (Ad := Ad') hw2
    have z1 : ω2 li = ω li ++ [res] := (hw2 li (by rw [hW'.1.1.2.2.1.2]; exact (by decide : (17 : Nat) ≠ 6))).trans o1
    have z2 : ω2 ce = ω ce := (hw2 ce (by rw [hW'.1.1.2.1.2]; exact (by decide : (15 : Nat) ≠ 6))).trans o2
    refine ⟨κ', Ad', _, ω2, fe, ho, ce, li, sh, rs, se, ch, fo, pl, L', o', as', f', c', p', LWx.om hW' hw2 T2, ?_, ?_, fun k hk => ?_, fun k hk => ?_, Nat.zero_le _, h7.1, X2⟩
    · rw [z2]
      exact h2
    · rw [z1, List.length_append, h3]
      rfl
    · obtain ⟨p1, q1, t1⟩ := ce_en T kce (k := k) (by omega)
      have e9 := vcO_k T t1.1 (by rw [t1.2]) hwK hk2 (hnO (0, 0, 0, 0, 0, 0, 0, 0, 0, (rd_lst v i.toNatClampNeg (0, 0, none) 0 0 0 [] []).2.2.2.2.2.1, (rd_lst v i.toNatClampNeg (0, 0, none) 0 0 0 [] []).2.2.2.2.2.2.1, (rd_lst v i.toNatClampNeg (0, 0, none) 0 0 0 [] []).2.2.2.2.1, 0))
      have t2 := (hkk _ t1.1 (by rw [t1.2]; exact (by decide : (8 : Nat) ≠ 16)))
      have e8 := vcO_k T' t2.2 (by rw [t2.1, t1.2]) hw6 (fun _ _ _ => rfl) (fun _ _ => rfl)
      rw [z2, e8, e9]
      exact h4 k hk
    · by_cases hkn : k = nl
      · subst hkn
        have e1 : vU vl k (lNw v i) k = lNw v i := if_pos rfl
        have e3 : (ω li ++ [res]).getD k 0 = res := by rw [← h3]; exact getD_end
        rw [e1, z1, e3]
        have e8 := vlO_k T' hK.1 (by rw [hK.2]) hw6 (fun _ _ _ => rfl) (fun _ _ => rfl)
        rw [e8]
        unfold vlO lNw
        rw [hw8_of hhs, nuR_at, hK.2, w9]
        show _ = (_, _, _, slO _ sg9 (κ' sg9).2.1, (κ' sg9).2.1)
        rw [ks9.2]
        show _ = (_, _, _, slO _ sg9 ((rd_lst v i.toNatClampNeg (0, 0, none) 0 0 0 [] []).2.2.2.1.2 - (rd_lst v i.toNatClampNeg (0, 0, none) 0 0 0 [] []).2.2.2.1.1), (rd_lst v i.toNatClampNeg (0, 0, none) 0 0 0 [] []).2.2.2.1.2 - (rd_lst v i.toNatClampNeg (0, 0, none) 0 0 0 [] []).2.2.2.1.1)
        rw [os9]
      · have hk2' : k < nl := by omega
        have e1 : vU vl nl (lNw v i) k = vl k := if_neg hkn
        obtain ⟨p1, t1⟩ := li_en T kli (k := k) (by omega)
        have e9 := vlO_k T t1.1 (by rw [t1.2]) hwK hk2 (hnO (0, 0, 0, 0, 0, 0, 0, 0, 0, (rd_lst v i.toNatClampNeg (0, 0, none) 0 0 0 [] []).2.2.2.2.2.1, (rd_lst v i.toNatClampNeg (0, 0, none) 0 0 0 [] []).2.2.2.2.2.2.1, (rd_lst v i.toNatClampNeg (0, 0, none) 0 0 0 [] []).2.2.2.2.1, 0))
        have t2 := (hkk _ t1.1 (by rw [t1.2]; exact (by decide : (9 : Nat) ≠ 16)))
        have e8 := vlO_k T' t2.2 (by rw [t2.1, t1.2]) hw6 (fun _ _ _ => rfl) (fun _ _ => rfl)
        rw [e1, z1, getD_app (by omega), e8, e9]
        exact h5 k hk2'
  · have ho9 : ov' = ov := ho9
    subst ho9
    rcases hE with ⟨hu, rfl, hn⟩ | ⟨rfl, hi, hcap, w, hw9, hu⟩
    · obtain ⟨rfl, rfl, rfl, rfl, rfl⟩ := pr5 (show (f', c', p', d', w') = (_, _, _, _, _) from hu)
      exact Or.inr (Or.inl ⟨by rw [hr, if_neg (by decide)], by rw [h3] at hn; exact hn, κ, Ad, ν, ω, fe, ho, ce, li, sh, rs, se, ch, fo, pl, L', o', as', f', c', p', hW', h2, h3, h4, h5, h6, h7⟩)
    · obtain ⟨rfl, rfl, rfl, rfl, rfl⟩ := pr5 (show (f', c', p', d', w') = (_, _, _, _, _) from hu)
      exact Or.inr (Or.inr ⟨by rw [hr, if_pos rfl], ⟨hi, by rw [h3] at hcap; exact hcap⟩, w, hw9, κ, Ad, ν, ω, fe, ho, ce, li, sh, rs, se, ch, fo, pl, L', o', as', f', c', p', hW', h2, h3, h4, h5, Nat.zero_le _, h7⟩)
set_option maxHeartbeats 4000000 in
theorem ci_certificate_b (l : Launch) (hl0 : l.stackTraces = false) (dC : Nat → ClassId) (dI : Nat → Nat → Nat) (sb : sB) (γ : cG) (q0 ou : Nat) (fu : Nat → Nat) (fd : Nat) (wr : Int32) (nc nl : Nat) (vc : Nat → vC) (vl : Nat → vL) (ov : Nat → Int64) (G : va_W) (i tr : Int32) (sz : Nat) (h : CI γ sb q0 ou fu fd wr nc nl vc vl ov G) (hbad : ¬ ((¬ i < 0 ∧ i ≤ 2048 ∧ i ≤ nI fd) ∧ nc < 16)) : CCi l y_TrustChainLaw_certificate w_TrustChainLaw_certificate ({ frames := 14, cells := 1, slots := 6, locals := 444 }) [.ref q0, .int i, .int tr, .ref ou] (dC, dI) sb (ty4 γ) G sz (fun r G' => r = 1 ∧ CI γ sb q0 ou fu fd wr nc nl vc vl ov G') := by
  obtain ⟨κ, Ad, ν, ω, fe, ho, ce, li, sh, rs, se, ch, fo, pl, L, o, as, foS, chS, faP, hLW, h2, h3, h4, h5, h6, h7⟩ := h
  refine cci_of (zl_certificate_b l hl0 dC dI sb γ κ Ad ν ω L G fe ho ce li sh rs se ch fo q0 pl o as foS chS faP (nI fd) wr ou fu ov i tr sz hLW (by rw [h2]; exact hbad)) rfl rfl (fun r u _ hw => ?_)
  obtain ⟨⟨G', L', o', as', f', c', p', d', w'⟩, ov'⟩ := u
  obtain ⟨hW', ⟨-, r9, hf, -⟩ | ⟨E, ⟨hu, hE⟩, hr, ho9⟩⟩ := hw
  · exact hf.elim
  · obtain ⟨rfl, rfl, rfl, rfl, rfl⟩ := pr5 (show (f', c', p', d', w') = (_, _, _, _, _) from hu)
    have ho9 : ov' = ov := ho9
    subst ho9
    exact ⟨by rw [hr]; split <;> rfl, κ, Ad, ν, ω, fe, ho, ce, li, sh, rs, se, ch, fo, pl, L', o', as', f', c', p', hW', h2, h3, h4, h5, h6, h7⟩
set_option maxHeartbeats 4000000 in
theorem ci_list_b (l : Launch) (hl0 : l.stackTraces = false) (dC : Nat → ClassId) (dI : Nat → Nat → Nat) (sb : sB) (γ : cG) (q0 ou : Nat) (fu : Nat → Nat) (fd : Nat) (wr : Int32) (nc nl : Nat) (vc : Nat → vC) (vl : Nat → vL) (ov : Nat → Int64) (G : va_W) (i : Int32) (sz : Nat) (h : CI γ sb q0 ou fu fd wr nc nl vc vl ov G) (hbad : ¬ ((¬ i < 0 ∧ i ≤ 2048 ∧ i ≤ nI fd) ∧ nl < 8)) : CCi l y_TrustChainLaw_list w_TrustChainLaw_list ({ frames := 13, cells := 1, slots := 6, locals := 402 }) [.ref q0, .int i, .ref ou] (dC, dI) sb (ty4 γ) G sz (fun r G' => r = 1 ∧ CI γ sb q0 ou fu fd wr nc nl vc vl ov G') := by
  obtain ⟨κ, Ad, ν, ω, fe, ho, ce, li, sh, rs, se, ch, fo, pl, L, o, as, foS, chS, faP, hLW, h2, h3, h4, h5, h6, h7⟩ := h
  refine cci_of (zl_list_b l hl0 dC dI sb γ κ Ad ν ω L G fe ho ce li sh rs se ch fo q0 pl o as foS chS faP (nI fd) wr ou fu ov i sz hLW (by rw [h3]; exact hbad)) rfl rfl (fun r u _ hw => ?_)
  obtain ⟨⟨G', L', o', as', f', c', p', d', w'⟩, ov'⟩ := u
  obtain ⟨hW', ⟨-, r9, hf, -⟩ | ⟨E, ⟨hu, hE⟩, hr, ho9⟩⟩ := hw
  · exact hf.elim
  · obtain ⟨rfl, rfl, rfl, rfl, rfl⟩ := pr5 (show (f', c', p', d', w') = (_, _, _, _, _) from hu)
    have ho9 : ov' = ov := ho9
    subst ho9
    exact ⟨by rw [hr]; split <;> rfl, κ, Ad, ν, ω, fe, ho, ce, li, sh, rs, se, ch, fo, pl, L', o', as', f', c', p', hW', h2, h3, h4, h5, h6, h7⟩
theorem in3 {G R9 : va_W} {x y z q : Nat × va_E} (hp : G.Perm ([x, y, z] ++ R9)) (h : q ∈ G) (h1 : q ≠ x) (h2 : q ≠ y) (h3 : q ≠ z) : q ∈ R9 := by
  rcases List.mem_append.mp (hp.subset h) with e | e
  · rcases List.mem_cons.mp e with e | e
    · exact absurd e h1
    · rcases List.mem_cons.mp e with e | e
      · exact absurd e h2
      · exact absurd (List.mem_singleton.mp e) h3
  · exact e
/-- the class' own three cells anew -/
theorem LWx.cells {γ : cG} {sb : sB} {κ : kE} {Ad : List Nat} {ν : Nat → cN} {ω : Nat → List Nat} {fe ho ce li sh rs se ch fo q0 pl ou L : Nat} {fu fu' : Nat → Nat} {ov ov' : Nat → Int64} {o : alD} {as : List Nat} {foS chS faP feS wr feS' wr' : Int32} {G R9 : va_W} {A : Nat → Prop}
    (h : LWx γ sb κ Ad ν ω fe ho ce li sh rs se ch fo q0 pl ou fu ov (G, L, o, as, foS, chS, faP, feS, wr))
    (hp : G.Perm (([(q0, .inr (10, [.ref fe, .ref ho, .ref ce, .ref li, .ref sh, .ref rs, .ref se, .ref ch, .ref fo, .int foS, .int chS, .int faP, .int feS, .int wr])), (fe, .inl (γ.1, 2060, .inl (tx fu))), (ou, .inl (γ.2.2.1, 1, .inr (.inl ov)))] : va_W) ++ R9))
    (hD : va_D A (([(q0, .inr (10, [.ref fe, .ref ho, .ref ce, .ref li, .ref sh, .ref rs, .ref se, .ref ch, .ref fo, .int foS, .int chS, .int faP, .int feS', .int wr'])), (fe, .inl (γ.1, 2060, .inl (tx fu'))), (ou, .inl (γ.2.2.1, 1, .inr (.inl ov')))] : va_W) ++ R9)) :
    LWx γ sb κ Ad ν ω fe ho ce li sh rs se ch fo q0 pl ou fu' ov' (([(q0, .inr (10, [.ref fe, .ref ho, .ref ce, .ref li, .ref sh, .ref rs, .ref se, .ref ch, .ref fo, .int foS, .int chS, .int faP, .int feS', .int wr'])), (fe, .inl (γ.1, 2060, .inl (tx fu'))), (ou, .inl (γ.2.2.1, 1, .inr (.inl ov')))] : va_W) ++ R9, L, o, as, foS, chS, faP, feS', wr') := by
  obtain ⟨hC, ⟨hTy, hL, kq0, kpl, h16⟩, kfe, kou, hfq, hfp, hoq, hop⟩ := h
  dsimp only at hTy hL kq0 kpl h16 kfe kou
  have hin : ∀ q : Nat × va_E, q.1 ∈ Ad → q ∈ G → q ∈ R9 := fun q ha hq => in3 hp hq (fun e => kq0.1 (by rw [e] at ha; exact ha)) (fun e => kfe.1 (by rw [e] at ha; exact ha)) (fun e => kou.1 (by rw [e] at ha; exact ha))
  refine ⟨hC, ⟨TY.keep hTy hD (fun q ha hq => List.mem_append_right _ (hin q ha hq)), hL, ⟨kq0.1, List.mem_append_left _ List.mem_cons_self⟩, ?_, h16⟩, ⟨kfe.1, List.mem_append_left _ (List.mem_cons_of_mem _ List.mem_cons_self)⟩, ⟨kou.1, List.mem_append_left _ (List.mem_cons_of_mem _ (List.mem_cons_of_mem _ List.mem_cons_self))⟩, hfq, hfp, hoq, hop⟩
  obtain ⟨g1, ⟨m, g2⟩, g3, g4⟩ := kpl
  have hqp := hC.2.2.2.2.1
  refine ⟨g1, ⟨m, List.mem_append_right _ (in3 hp g2 (fun e => hqp (congrArg Prod.fst e).symm) (fun e => hfp (congrArg Prod.fst e).symm) (fun e => hop (congrArg Prod.fst e).symm))⟩, fun q hq => ⟨List.mem_append_right _ (in3 hp (g3 q hq).1 (fun e => ?_) (fun e => ?_) (fun e => ?_)), (g3 q hq).2⟩, g4⟩
  · cases o with
    | none => cases hq
    | some d => rw [List.mem_singleton.mp hq] at e; cases e
  · cases o with
    | none => cases hq
    | some d => rw [List.mem_singleton.mp hq] at e; exact arI_ne (congrArg Prod.snd e).symm
  · cases o with
    | none => cases hq
    | some d => rw [List.mem_singleton.mp hq] at e; exact arJ_ne (congrArg Prod.snd e).symm
set_option maxHeartbeats 4000000 in
theorem ci_feed (l : Launch) (hl0 : l.stackTraces = false) (dC : Nat → ClassId) (dI : Nat → Nat → Nat) (sb : sB) (γ : cG) (q0 ou : Nat) (fu : Nat → Nat) (fd : Nat) (wr : Int32) (nc nl : Nat) (vc : Nat → vC) (vl : Nat → vL) (ov : Nat → Int64) (G : va_W) (x0 x1 x2 x3 x4 : Int32) (sz : Nat) (h : CI γ sb q0 ou fu fd wr nc nl vc vl ov G) : CCi l y_TrustChainLaw_feed w_TrustChainLaw_feed ({ frames := 7, cells := 1, slots := 6, locals := 140 }) [.ref q0, .int x0, .int x1, .int x2, .int x3, .int x4, .ref ou] (dC, dI) sb (ty4 γ) G sz (fun r G' => (r = 0 ∧ fd ≤ 2040 ∧ CI γ sb q0 ou (fw20 fu fd x0 x1 x2 x3 x4) (fd + 20) wr nc nl vc vl (vp_updL ov 0 (nI (fd + 20)).toInt64) G') ∨ (r = 1 ∧ 2040 < fd ∧ CI γ sb q0 ou fu fd wr nc nl vc vl ov G')) := by
  obtain ⟨κ, Ad, ν, ω, fe, ho, ce, li, sh, rs, se, ch, fo, pl, L, o, as, foS, chS, faP, hLW, h2, h3, h4, h5, h6, h7⟩ := h
  refine cci_D (fun A9 hD9 => ?_)
  have kq := hLW.2.1.2.2.1
  have kf := hLW.2.2.1
  have ko := hLW.2.2.2.1
  dsimp only at kq kf ko
  have hfo : fe ≠ ou := fun e => by
    rw [← e] at ko
    exact arI_ne (hD9.un kf.2 ko.2)
  obtain ⟨R9, hp⟩ := pickL (l := ([(q0, .inr (10, [.ref fe, .ref ho, .ref ce, .ref li, .ref sh, .ref rs, .ref se, .ref ch, .ref fo, .int foS, .int chS, .int faP, .int (nI fd), .int wr])), (fe, .inl (γ.1, 2060, .inl (tx fu))), (ou, .inl (γ.2.2.1, 1, .inr (.inl ov)))] : va_W)) (G := G) (fun c hc => by
    rcases List.mem_cons.mp hc with e | e
    · rw [e]; exact kq.2
    · rcases List.mem_cons.mp e with e | e
      · rw [e]; exact kf.2
      · rw [List.mem_singleton.mp e]; exact ko.2) (by
    have a1 := hLW.2.2.2.2.1
    have a2 := hLW.2.2.2.2.2.2.1
    show [q0, fe, ou].Nodup
    refine List.nodup_cons.mpr ⟨fun hm => ?_, List.nodup_cons.mpr ⟨fun hm => hfo (List.mem_singleton.mp hm), List.nodup_cons.mpr ⟨fun hm => (by cases hm), List.nodup_nil⟩⟩⟩
    rcases List.mem_cons.mp hm with e | e
    · exact a1 e.symm
    · exact a2 (List.mem_singleton.mp e).symm)
  refine cci_sub (c_TrustChainLaw_feed l hl0 dC dI sb q0 fe ho ce li sh rs se ch fo foS chS faP wr γ.1 (tx fu) fd x0 x1 x2 x3 x4 ou γ.2.2.1 ov sz h6) rfl rfl hp [0, 2] rfl (fun r u hD' hw => ?_)
  rcases hw with ⟨rfl, hr, hk⟩ | ⟨rfl, hr, hk⟩
  · refine Or.inl ⟨hr, hk, ?_⟩
    have hD' := hD'
    dsimp only [cond] at hD' ⊢
    rw [fed_tx] at hD' ⊢
    exact ⟨κ, Ad, ν, ω, fe, ho, ce, li, sh, rs, se, ch, fo, pl, L, o, as, foS, chS, faP, LWx.cells hLW hp hD', h2, h3, h4, h5, by omega, fw20_lt h7.1 _ _ _ _ _ _, h7.2⟩
  · refine Or.inr ⟨hr, hk, ?_⟩
    exact ⟨κ, Ad, ν, ω, fe, ho, ce, li, sh, rs, se, ch, fo, pl, L, o, as, foS, chS, faP, LWx.cells hLW hp hD', h2, h3, h4, h5, h6, h7⟩
