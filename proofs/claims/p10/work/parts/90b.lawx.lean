/-! The law's context. -/
def zN (x : Int32) : Int32 := if x = 0 then 0 else 1
theorem zN_b (x : Int32) : b01 (zN x) := by
  unfold zN b01
  split
  · exact Or.inl rfl
  · exact Or.inr rfl
theorem zN_bz (x : Int32) : bz (zN x) (zN x = 1) := by
  rcases zN_b x with e | e
  · exact Or.inr ⟨e, by rw [e]; decide⟩
  · exact Or.inl ⟨e, e⟩
theorem vi_in0 {i L : Nat} (h : i < L) (hL : L ≤ 5120) : vp_in (nI i) L := by
  unfold vp_in
  rintro (h1 | h1)
  · have h2 : nI i < nI 0 := h1
    rw [nI_ltI (by omega) (by omega)] at h2
    omega
  · rw [nI_clamp (by omega)] at h1
    omega
theorem vi_in {i L : Nat} (j : Nat) (h : i + j < L) (hL : L ≤ 5120) : vp_in (nI i + nI j) L := by
  rw [nI_add]
  exact vi_in0 h hL
theorem RI.nb {γ : cG} {gT : ClassId} {mo : Nat} {fu : Nat → Nat} {fd : Nat} {wr : Int32} {nc nl : Nat} {xc xl : Nat → TD} {wx : Nat → Nat} {er : Int32} {G : va_W} (h : RI γ gT mo fu fd wr nc nl xc xl wx er G) : nc ≤ 16 ∧ nl ≤ 8 ∧ fd ≤ 2060 ∧ (∀ j, fu j < 256) ∧ (∀ j, wx j < 256) ∧ ∃ fs, (mo, .inr (12, fs)) ∈ G := by
  obtain ⟨κ, Ad, τ, a, sp, x, fS, fV, fm, fr, fw, cz, mqs, msz, mch, mft, mpt, mdp, mvd, mmk, nw, hTy, kmo, kb, hn, kt, hst, hrv, hb, hxc, hxl, hij⟩ := h
  exact ⟨hb.1, hb.2.1, hb.2.2.2, kb.2.2.2.2.2.2.2.2.2.2, kb.2.2.2.2.2.2.2.2.2.1, _, kmo.2⟩
theorem nI_rng {k n : Nat} (h : k < n) (hn : n < 2 ^ 31) : ¬ nI k < 0 ∧ nI k < nI n := ⟨fun q => by
  have q2 : nI k < nI 0 := q
  rw [nI_ltI (by omega) (by omega)] at q2
  omega, by rw [nI_ltI (by omega) hn]; exact h⟩
theorem nC_le {i : Int32} {fd k c : Nat} (h : (¬ i < 0 ∧ i ≤ 2048 ∧ i ≤ nI fd) ∧ k < c) : i.toNatClampNeg ≤ 2048 := by
  obtain ⟨n, hn, rfl⟩ := nI_of h.1.1
  have h8 : ¬ nI 2048 < nI n := Int32.not_lt.mpr h.1.2.1
  rw [nI_ltI (by decide) hn] at h8
  rw [nI_clamp hn]
  omega
theorem CI.q0 {γ : cG} {sb : sB} {q0 ou : Nat} {fu : Nat → Nat} {fd : Nat} {wr : Int32} {nc nl : Nat} {vc : Nat → vC} {vl : Nat → vL} {ov : Nat → Int64} {G : va_W} (h : CI γ sb q0 ou fu fd wr nc nl vc vl ov G) : ∃ (fe ho ce li sh rs se ch fo : Nat) (foS chS faP : Int32), (q0, .inr (10, [.ref fe, .ref ho, .ref ce, .ref li, .ref sh, .ref rs, .ref se, .ref ch, .ref fo, .int foS, .int chS, .int faP, .int (nI fd), .int wr])) ∈ G := by
  obtain ⟨κ, Ad, ν, ω, fe, ho, ce, li, sh, rs, se, ch, fo, pl, L, o, as, foS, chS, faP, hLW, -⟩ := h
  exact ⟨fe, ho, ce, li, sh, rs, se, ch, fo, foS, chS, faP, hLW.2.1.2.2.1.2⟩
theorem RI.cell {γ : cG} {gT : ClassId} {mo : Nat} {fu : Nat → Nat} {fd : Nat} {wr : Int32} {nc nl : Nat} {xc xl : Nat → TD} {wx : Nat → Nat} {er : Int32} {G : va_W} (h : RI γ gT mo fu fd wr nc nl xc xl wx er G) : ∃ (oc so rv sp rz bl ww hs fi pm mx my mm mq mz wy fn : Nat) (qs si cs cn fa pu de ve mk : Int32) (nw : Int64), (mo, .inr (12, (.int er :: .int (nI fd) :: .int wr :: .int (nI nc) :: .int (nI nl) :: .ref oc :: .ref so :: .ref rv :: .ref sp :: .int qs :: .ref rz :: .ref bl :: .ref ww :: .ref hs :: .ref fi :: .ref pm :: .ref mx :: .ref my :: .ref mm :: .ref mq :: .ref mz :: .ref wy :: .ref fn :: .int si :: .int cs :: .int cn :: .int fa :: .int pu :: .int de :: .int ve :: .long nw :: .int mk :: []))) ∈ G := by
  obtain ⟨κ, Ad, τ, a, sp, x, fS, fV, fm, fr, fw, cz, mqs, msz, mch, mft, mpt, mdp, mvd, mmk, nw, hTy, kmo, -⟩ := h
  exact ⟨_, _, _, _, _, _, _, _, _, _, _, _, _, _, _, _, _, _, _, _, _, _, _, _, _, _, _, kmo.2⟩
theorem CI.ou {γ : cG} {sb : sB} {q0 ou : Nat} {fu : Nat → Nat} {fd : Nat} {wr : Int32} {nc nl : Nat} {vc : Nat → vC} {vl : Nat → vL} {ov : Nat → Int64} {G : va_W} (h : CI γ sb q0 ou fu fd wr nc nl vc vl ov G) : (ou, .inl (γ.2.2.1, 1, .inr (.inl ov))) ∈ G := by
  obtain ⟨κ, Ad, ν, ω, fe, ho, ce, li, sh, rs, se, ch, fo, pl, L, o, as, foS, chS, faP, hLW, -⟩ := h
  exact hLW.2.2.2.1.2
def lwX (p : Program) (s : State) (m : MethodId) (c : Code) (b L : Nat) (xs : Nat → Int32) (dC : Nat → ClassId) (dI : Nat → Nat → Nat) (γ : cG) (gT : ClassId) (sb : sB) (A : Nat → Prop) : Prop :=
  p.tables.exec = Jvm.exec ∧ c.code = code ∧ c.maxLocals = 8 ∧ s.vm.findClass R_law = some m.cls ∧ (∀ w ∈ tb, w.before #[Value.ref b] s = true) ∧ va_K (dC, dI) classes (ty5 γ gT) s ∧ nwOK sb s ∧ stOK sb s s.heap ∧ thOK sb s s.heap ∧ sb.1 ≤ s.heap.size ∧ (∀ q : Nat, s.heap.size ≤ q → A q) ∧ (∀ q : Nat, A q → sb.1 ≤ q) ∧ va_X b L xs s s.heap ∧ b < s.heap.size ∧ ¬ A b ∧ L ≤ 5120
/-- what a signature is made of is the same on both sides -/
def sgc (v : vC) (x : TD) : Prop := (∀ m, m < 8 → v.2.2.2.1 m = hsV x.u x.tb x.te m) ∧ v.2.2.2.2.1 = ocE x.u (x.mo, x.me) ∧ v.2.2.2.2.2.1 = x.me - x.mo ∧ v.2.2.2.2.2.2.1 = ocE x.u (x.sg, x.se) ∧ v.2.2.2.2.2.2.2 = x.se - x.sg ∧ v.1.2.2.1.toNatClampNeg = x.ex
def sgl (v : vL) (x : TD) : Prop := (∀ m, m < 8 → v.2.2.1 m = hsV x.u x.tb x.te m) ∧ v.2.2.2.1 = ocE x.u (x.sg, x.se) ∧ v.2.2.2.2 = x.se - x.sg
def SGl (nc nl : Nat) (vc : Nat → vC) (vl : Nat → vL) (xc xl : Nat → TD) : Prop := (∀ k, k < nc → sgc (vc k) (xc k)) ∧ ∀ k, k < nl → sgl (vl k) (xl k)
theorem SGl.tr {nc nl : Nat} {vc : Nat → vC} {vl : Nat → vL} {xc xl : Nat → TD} (h : SGl nc nl vc vl xc xl) (k : Nat) {v : Int32} : SGl nc nl (vT vc k v) vl (vU xc k (tUp (xc k) v)) xl := ⟨fun z hz => by
  by_cases e : z = k
  · subst e
    have e1 : vT vc z v z = _ := if_pos rfl
    have e2 : vU xc z (tUp (xc z) v) z = _ := if_pos rfl
    rw [e1, e2]
    exact h.1 z hz
  · have e1 : vT vc k v z = vc z := if_neg e
    have e2 : vU xc k (tUp (xc k) v) z = xc z := if_neg e
    rw [e1, e2]
    exact h.1 z hz, h.2⟩
theorem SGl.addC {nc nl : Nat} {vc : Nat → vC} {vl : Nat → vL} {xc xl : Nat → TD} (h : SGl nc nl vc vl xc xl) {n : vC} {xm : TD} (h1 : sgc n xm) : SGl (nc + 1) nl (vU vc nc n) vl (vU xc nc xm) xl := ⟨fun z hz => by
  by_cases e : z = nc
  · subst e
    have e1 : vU vc z n z = _ := if_pos rfl
    have e2 : vU xc z xm z = _ := if_pos rfl
    rw [e1, e2]
    exact h1
  · have e1 : vU vc nc n z = vc z := if_neg e
    have e2 : vU xc nc xm z = xc z := if_neg e
    rw [e1, e2]
    exact h.1 z (by omega), h.2⟩
theorem SGl.addL {nc nl : Nat} {vc : Nat → vC} {vl : Nat → vL} {xc xl : Nat → TD} (h : SGl nc nl vc vl xc xl) {n : vL} {xm : TD} (h1 : sgl n xm) : SGl nc (nl + 1) vc (vU vl nl n) xc (vU xl nl xm) := ⟨h.1, fun z hz => by
  by_cases e : z = nl
  · subst e
    have e1 : vU vl z n z = _ := if_pos rfl
    have e2 : vU xl z xm z = _ := if_pos rfl
    rw [e1, e2]
    exact h1
  · have e1 : vU vl nl n z = vl z := if_neg e
    have e2 : vU xl nl xm z = xl z := if_neg e
    rw [e1, e2]
    exact h.2 z (by omega)⟩
theorem cX_sg {v : Nat → Nat} {n : Nat} {tr tr' : Int32} {xm : TD} (hv : ∀ j, v j < 256) (hn : n ≤ 2048) (h : cX v n tr' xm) {i : Int32} (hi : i.toNatClampNeg = n) (nc : Nat) : sgc (cNw v i tr nc) xm := by
  obtain ⟨d, y, z, ka, kb, hz, hxm, -⟩ := h
  have hq := cert_q hv (n := n) (s := 0) (ok := (0, 0)) (ik := (0, 0)) (f1 := ka) (f2 := kb) (D2 := []) (D3 := []) (D4 := []) (D5 := []) (D6 := []) (D7 := []) hn
  rw [hz] at hq
  obtain ⟨-, -, hV⟩ := hq
  unfold cNw
  rw [hi]
  generalize rd_cert v n (0, 0, none) 0 0 (0, 0) (0, 0) 0 (-1) (-1) [] [] [] [] [] [] [] = C at hV ⊢
  have e4 := hV.2.1
  have e5 := hV.2.2.1
  have e6 := hV.2.2.2.1
  have e7 := hV.2.2.2.2.2.2.1
  subst hxm
  refine ⟨fun m hm => ?_, ?_, ?_, ?_, ?_, ?_⟩
  · show hw8 (hsV v C.2.2.2.2.2.1.1 C.2.2.2.2.2.1.2) m = _
    rw [e5]
    exact if_pos hm
  · show ocE v C.2.2.2.2.1 = _
    rw [e4]
    rfl
  · show C.2.2.2.2.1.2 - C.2.2.2.2.1.1 = _
    rw [e4]
    rfl
  · show ocE v C.2.2.2.2.2.2.1 = _
    rw [e6]
    rfl
  · show C.2.2.2.2.2.2.1.2 - C.2.2.2.2.2.2.1.1 = _
    rw [e6]
    rfl
  · show C.2.2.2.2.2.2.2.2.2.2.2.1.toNatClampNeg = _
    rw [e7]
    rfl
theorem lX_sg {v : Nat → Nat} {n : Nat} {tr' : Int32} {xm : TD} (hv : ∀ j, v j < 256) (hn : n ≤ 2048) (h : lX v n tr' xm) {i : Int32} (hi : i.toNatClampNeg = n) : sgl (lNw v i) xm := by
  obtain ⟨d, y, z, ka, kb, hz, hxm, -⟩ := h
  have hq := lst_q hv (n := n) (s := 0) (ie := 0) (f1 := ka) (f2 := kb) (D7 := []) (ex := 0) hn
  rw [hz] at hq
  obtain ⟨-, -, hV⟩ := hq
  unfold lNw
  rw [hi]
  generalize rd_lst v n (0, 0, none) 0 0 0 [] [] = C at hV ⊢
  have e5 := hV.1
  have e6 := hV.2.1
  subst hxm
  refine ⟨fun m hm => ?_, ?_, ?_⟩
  · show hw8 (hsV v C.2.2.1.1 C.2.2.1.2) m = _
    rw [e5]
    exact if_pos hm
  · show ocE v C.2.2.2.1 = _
    rw [e6]
    rfl
  · show C.2.2.2.1.2 - C.2.2.2.1.1 = _
    rw [e6]
    rfl
/-- the room that is used, with what the fed octets may still cost -/
def LNm (i cells slots fd : Nat) : Prop := ∃ k, i = 10 * k ∧ cells + 8 * fd ≤ 400 + 300 * k ∧ slots + 405 * fd ≤ 40000 + 12000 * k
def LJ (γ : cG) (sb : sB) (gT : ClassId) (q0 ou mo i cells slots : Nat) (GC GR : va_W) : Prop := ∃ (fu : Nat → Nat) (fd : Nat) (wr : Int32) (nc nl : Nat) (vc : Nat → vC) (vl : Nat → vL) (ov : Nat → Int64) (xc xl : Nat → TD) (wx : Nat → Nat) (er : Int32), CI γ sb q0 ou fu fd wr nc nl vc vl ov GC ∧ RI γ gT mo fu fd wr nc nl xc xl wx er GR ∧ LNm i cells slots fd ∧ SGl nc nl vc vl xc xl
theorem LNm.next {i cells slots fd cells' slots' fd' : Nat} (h : LNm i cells slots fd) (h1 : cells' + 8 * fd' ≤ cells + 8 * fd + 300) (h2 : slots' + 405 * fd' ≤ slots + 405 * fd + 12000) : LNm (i + 10) cells' slots' fd' := by
  obtain ⟨k, e, a1, a2⟩ := h
  have e1 : i + 10 = 10 * (k + 1) := by omega
  have e2 : cells' + 8 * fd' ≤ 400 + 300 * (k + 1) := Nat.le_trans h1 (Nat.le_trans (Nat.add_le_add_right a1 300) (Nat.le_of_eq (by rw [Nat.mul_add, Nat.add_assoc])))
  have e3 : slots' + 405 * fd' ≤ 40000 + 12000 * (k + 1) := Nat.le_trans h2 (Nat.le_trans (Nat.add_le_add_right a2 12000) (Nat.le_of_eq (by rw [Nat.mul_add, Nat.add_assoc])))
  exact ⟨k + 1, e1, e2, e3⟩
theorem LNm.room {i cells slots fd L : Nat} (h : LNm i cells slots fd) (hi : i + 10 ≤ L) (hL : L ≤ 5120) : cells + 8 * fd ≤ 154000 ∧ slots + 405 * fd ≤ 6184000 := by
  obtain ⟨k, e, a1, a2⟩ := h
  exact ⟨by omega, by omega⟩
