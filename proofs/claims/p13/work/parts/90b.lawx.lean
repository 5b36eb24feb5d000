/-! The law's context. -/
def zN (x : Int32) : Int32 := if x = 0 then 0 else 1
theorem zN_b (x : Int32) : b01 (zN x) := by
  unfold zN b01
  split
  · exact Or.inl rfl
  · exact Or.inr rfl
theorem zN_bz (x : Int32) : bz (zN x) (zN x = 1) := by
  rcases zN_b x with e | e
  · exact Or.inr ⟨e, by rw [e]; decide⟩
  · exact Or.inl ⟨e, e⟩
theorem vi_in0 {i L : Nat} (h : i < L) (hL : L ≤ 5120) : vp_in (nI i) L := by
  unfold vp_in
  rintro (h1 | h1)
  · have h2 : nI i < nI 0 := h1
    rw [nI_ltI (by omega) (by omega)] at h2
    omega
  · rw [nI_clamp (by omega)] at h1
    omega
theorem vi_in {i L : Nat} (j : Nat) (h : i + j < L) (hL : L ≤ 5120) : vp_in (nI i + nI j) L := by
  rw [nI_add]
  exact vi_in0 h hL
theorem RI.nb {γ : cG} {gT : ClassId} {mo : Nat} {fu : Nat → Nat} {fd : Nat} {wr : Int32} {nc nl : Nat} {xc xl : Nat → TD} {wx : Nat → Nat} {vs : sS} {er : Int32} {G : va_W} (h : RI γ gT mo fu fd wr nc nl xc xl wx vs er G) : nc ≤ 16 ∧ nl ≤ 8 ∧ fd ≤ 2060 ∧ (∀ j, fu j < 256) ∧ (∀ j, wx j < 256) ∧ ∃ fs, (mo, .inr (12, fs)) ∈ G := by
  obtain ⟨κ, Ad, τ, a, sp, x, fS, fV, fm, fr, fw, ff, cz, mqs, msz, mch, mft, mpt, mdp, mvd, mmk, nw, hTy, kmo, kb, hn, kt, hst, hrv, hb, hxc, hxl, hij⟩ := h
  exact ⟨hb.1, hb.2.1, hb.2.2.2.1, kb.2.2.2.2.2.2.2.2.2.2.2, kb.2.2.2.2.2.2.2.2.2.2.1, _, kmo.2⟩
theorem nI_rng {k n : Nat} (h : k < n) (hn : n < 2 ^ 31) : ¬ nI k < 0 ∧ nI k < nI n := ⟨fun q => by
  have q2 : nI k < nI 0 := q
  rw [nI_ltI (by omega) (by omega)] at q2
  omega, by rw [nI_ltI (by omega) hn]; exact h⟩
theorem nC_le {i : Int32} {fd k c : Nat} (h : (¬ i < 0 ∧ i ≤ 2048 ∧ i ≤ nI fd) ∧ k < c) : i.toNatClampNeg ≤ 2048 := by
  obtain ⟨n, hn, rfl⟩ := nI_of h.1.1
  have h8 : ¬ nI 2048 < nI n := Int32.not_lt.mpr h.1.2.1
  rw [nI_ltI (by decide) hn] at h8
  rw [nI_clamp hn]
  omega
theorem CI.q0 {γ : cG} {sb : sB} {q0 ou : Nat} {fu : Nat → Nat} {fd : Nat} {wr : Int32} {nc nl : Nat} {vc : Nat → vC} {vl : Nat → vL} {cc : Nat → cQ} {cl : Nat → lQ} {vs : sS} {ov : Nat → Int64} {G : va_W} (h : CI γ sb q0 ou fu fd wr nc nl vc vl cc cl vs ov G) : ∃ (fe ho ce li sh rs se ch fo : Nat) (foS chS faP : Int32), (q0, .inr (10, [.ref fe, .ref ho, .ref ce, .ref li, .ref sh, .ref rs, .ref se, .ref ch, .ref fo, .int foS, .int chS, .int faP, .int (nI fd), .int wr])) ∈ G := by
  obtain ⟨κ, Ad, ν, ω, fe, ho, ce, li, sh, rs, se, ch, fo, pl, L, o, as, foS, chS, faP, hLW, -⟩ := h
  exact ⟨fe, ho, ce, li, sh, rs, se, ch, fo, foS, chS, faP, hLW.2.1.2.2.1.2⟩
theorem RI.cell {γ : cG} {gT : ClassId} {mo : Nat} {fu : Nat → Nat} {fd : Nat} {wr : Int32} {nc nl : Nat} {xc xl : Nat → TD} {wx : Nat → Nat} {vs : sS} {er : Int32} {G : va_W} (h : RI γ gT mo fu fd wr nc nl xc xl wx vs er G) : ∃ (oc so rv sp rz bl ww hs fi pm mx my mm mq mz wy fn : Nat) (qs si cs cn fa pu de ve mk : Int32) (nw : Int64), (mo, .inr (12, (.int er :: .int (nI fd) :: .int wr :: .int (nI nc) :: .int (nI nl) :: .ref oc :: .ref so :: .ref rv :: .ref sp :: .int qs :: .ref rz :: .ref bl :: .ref ww :: .ref hs :: .ref fi :: .ref pm :: .ref mx :: .ref my :: .ref mm :: .ref mq :: .ref mz :: .ref wy :: .ref fn :: .int si :: .int cs :: .int cn :: .int fa :: .int pu :: .int de :: .int ve :: .long nw :: .int mk :: []))) ∈ G := by
  obtain ⟨κ, Ad, τ, a, sp, x, fS, fV, fm, fr, fw, ff, cz, mqs, msz, mch, mft, mpt, mdp, mvd, mmk, nw, hTy, kmo, -⟩ := h
  exact ⟨_, _, _, _, _, _, _, _, _, _, _, _, _, _, _, _, _, _, _, _, _, _, _, _, _, _, _, kmo.2⟩
theorem CI.ou {γ : cG} {sb : sB} {q0 ou : Nat} {fu : Nat → Nat} {fd : Nat} {wr : Int32} {nc nl : Nat} {vc : Nat → vC} {vl : Nat → vL} {cc : Nat → cQ} {cl : Nat → lQ} {vs : sS} {ov : Nat → Int64} {G : va_W} (h : CI γ sb q0 ou fu fd wr nc nl vc vl cc cl vs ov G) : (ou, .inl (γ.2.2.1, 1, .inr (.inl ov))) ∈ G := by
  obtain ⟨κ, Ad, ν, ω, fe, ho, ce, li, sh, rs, se, ch, fo, pl, L, o, as, foS, chS, faP, hLW, -⟩ := h
  exact hLW.2.2.2.1.2
def lwX (p : Program) (s : State) (m : MethodId) (c : Code) (b L : Nat) (xs : Nat → Int32) (dC : Nat → ClassId) (dI : Nat → Nat → Nat) (γ : cG) (gT : ClassId) (sb : sB) (A : Nat → Prop) : Prop :=
  p.tables.exec = Jvm.exec ∧ c.code = code ∧ c.maxLocals = 8 ∧ s.vm.findClass R_law = some m.cls ∧ (∀ w ∈ tb, w.before #[Value.ref b] s = true) ∧ va_K (dC, dI) classes (ty5 γ gT) s ∧ nwOK sb s ∧ stOK sb s s.heap ∧ thOK sb s s.heap ∧ sb.1 ≤ s.heap.size ∧ (∀ q : Nat, s.heap.size ≤ q → A q) ∧ (∀ q : Nat, A q → sb.1 ≤ q) ∧ va_X b L xs s s.heap ∧ b < s.heap.size ∧ ¬ A b ∧ L ≤ 5120
/-- what a signature is made of is the same on both sides -/
def sgc (v : vC) (x : TD) : Prop := (∀ m, m < 8 → v.2.2.2.1 m = hsV x.u x.tb x.te m) ∧ v.2.2.2.2.1 = ocE x.u (x.mo, x.me) ∧ v.2.2.2.2.2.1 = x.me - x.mo ∧ v.2.2.2.2.2.2.1 = ocE x.u (x.sg, x.se) ∧ v.2.2.2.2.2.2.2 = x.se - x.sg ∧ v.1.2.2.1.toNatClampNeg = x.ex
def sgl (v : vL) (x : TD) : Prop := (∀ m, m < 8 → v.2.2.1 m = hsV x.u x.tb x.te m) ∧ v.2.2.2.1 = ocE x.u (x.sg, x.se) ∧ v.2.2.2.2 = x.se - x.sg
def SGl (nc nl : Nat) (vc : Nat → vC) (vl : Nat → vL) (xc xl : Nat → TD) : Prop := (∀ k, k < nc → sgc (vc k) (xc k)) ∧ ∀ k, k < nl → sgl (vl k) (xl k)
theorem sgc_T {v v2 : vC} {x x2 : TD} (h : sgc v x) (h2 : sgc v2 x2) : sgV v.2.2.2.1 v2.2.2.2.2.1 v2.2.2.2.2.2.1 v.2.2.2.2.2.2.1 v.2.2.2.2.2.2.2 v2.1.2.2.1.toNatClampNeg ↔ sgT x x2 := by
  unfold sgT
  rw [h2.2.1, h2.2.2.1, h.2.2.2.1, h.2.2.2.2.1, h2.2.2.2.2.2]
  exact sgV_h h.1
theorem sgl_T {v : vL} {v2 : vC} {x x2 : TD} (h : sgl v x) (h2 : sgc v2 x2) : sgV v.2.2.1 v2.2.2.2.2.1 v2.2.2.2.2.2.1 v.2.2.2.1 v.2.2.2.2 v2.1.2.2.1.toNatClampNeg ↔ sgT x x2 := by
  unfold sgT
  rw [h2.2.1, h2.2.2.1, h.2.1, h.2.2, h2.2.2.2.2.2]
  exact sgV_h h.1
theorem SGl.tr {nc nl : Nat} {vc : Nat → vC} {vl : Nat → vL} {xc xl : Nat → TD} (h : SGl nc nl vc vl xc xl) (k : Nat) {v : Int32} : SGl nc nl (vT vc k v) vl (vU xc k (tUp (xc k) v)) xl := ⟨fun z hz => by
  by_cases e : z = k
  · subst e
    have e1 : vT vc z v z = _ := if_pos rfl
    have e2 : vU xc z (tUp (xc z) v) z = _ := if_pos rfl
    rw [e1, e2]
    exact h.1 z hz
  · have e1 : vT vc k v z = vc z := if_neg e
    have e2 : vU xc k (tUp (xc k) v) z = xc z := if_neg e
    rw [e1, e2]
    exact h.1 z hz, h.2⟩
theorem SGl.addC {nc nl : Nat} {vc : Nat → vC} {vl : Nat → vL} {xc xl : Nat → TD} (h : SGl nc nl vc vl xc xl) {n : vC} {xm : TD} (h1 : sgc n xm) : SGl (nc + 1) nl (vU vc nc n) vl (vU xc nc xm) xl := ⟨fun z hz => by
  by_cases e : z = nc
  · subst e
    have e1 : vU vc z n z = _ := if_pos rfl
    have e2 : vU xc z xm z = _ := if_pos rfl
    rw [e1, e2]
    exact h1
  · have e1 : vU vc nc n z = vc z := if_neg e
    have e2 : vU xc nc xm z = xc z := if_neg e
    rw [e1, e2]
    exact h.1 z (by omega), h.2⟩
theorem SGl.addL {nc nl : Nat} {vc : Nat → vC} {vl : Nat → vL} {xc xl : Nat → TD} (h : SGl nc nl vc vl xc xl) {n : vL} {xm : TD} (h1 : sgl n xm) : SGl nc (nl + 1) vc (vU vl nl n) xc (vU xl nl xm) := ⟨h.1, fun z hz => by
  by_cases e : z = nl
  · subst e
    have e1 : vU vl z n z = _ := if_pos rfl
    have e2 : vU xl z xm z = _ := if_pos rfl
    rw [e1, e2]
    exact h1
  · have e1 : vU vl nl n z = vl z := if_neg e
    have e2 : vU xl nl xm z = xl z := if_neg e
    rw [e1, e2]
    exact h.2 z (by omega)⟩
theorem cX_sg {v : Nat → Nat} {n : Nat} {tr tr' : Int32} {xm : TD} (hv : ∀ j, v j < 256) (hn : n ≤ 2048) (h : cX v n tr' xm) {i : Int32} (hi : i.toNatClampNeg = n) (nc : Nat) : sgc (cNw v i tr nc) xm := by
  obtain ⟨d, y, z, ka, kb, hz, hxm, -⟩ := h
  have hq := cert_q hv (n := n) (s := 0) (ok := (0, 0)) (ik := (0, 0)) (f1 := ka) (f2 := kb) (D2 := []) (D3 := []) (D4 := []) (D5 := []) (D6 := []) (D7 := []) hn
  rw [hz] at hq
  obtain ⟨-, -, hV⟩ := hq
  unfold cNw
  rw [hi]
  generalize rd_cert v n (0, 0, none) 0 0 (0, 0) (0, 0) 0 (-1) (-1) [] [] [] [] [] [] [] = C at hV ⊢
  have e4 := hV.2.1
  have e5 := hV.2.2.1
  have e6 := hV.2.2.2.1
  have e7 := hV.2.2.2.2.2.2.1
  subst hxm
  refine ⟨fun m hm => ?_, ?_, ?_, ?_, ?_, ?_⟩
  · show hw8 (hsV v C.2.2.2.2.2.1.1 C.2.2.2.2.2.1.2) m = _
    rw [e5]
    exact if_pos hm
  · show ocE v C.2.2.2.2.1 = _
    rw [e4]
    rfl
  · show C.2.2.2.2.1.2 - C.2.2.2.2.1.1 = _
    rw [e4]
    rfl
  · show ocE v C.2.2.2.2.2.2.1 = _
    rw [e6]
    rfl
  · show C.2.2.2.2.2.2.1.2 - C.2.2.2.2.2.2.1.1 = _
    rw [e6]
    rfl
  · show C.2.2.2.2.2.2.2.2.2.2.2.1.toNatClampNeg = _
    rw [e7]
    rfl
theorem lX_sg {v : Nat → Nat} {n : Nat} {tr' : Int32} {xm : TD} (hv : ∀ j, v j < 256) (hn : n ≤ 2048) (h : lX v n tr' xm) {i : Int32} (hi : i.toNatClampNeg = n) : sgl (lNw v i) xm := by
  obtain ⟨d, y, z, ka, kb, hz, hxm, -⟩ := h
  have hq := lst_q hv (n := n) (s := 0) (ie := 0) (f1 := ka) (f2 := kb) (D7 := []) (ex := 0) hn
  rw [hz] at hq
  obtain ⟨-, -, hV⟩ := hq
  unfold lNw
  rw [hi]
  generalize rd_lst v n (0, 0, none) 0 0 0 [] [] = C at hV ⊢
  have e5 := hV.1
  have e6 := hV.2.1
  subst hxm
  refine ⟨fun m hm => ?_, ?_, ?_⟩
  · show hw8 (hsV v C.2.2.1.1 C.2.2.1.2) m = _
    rw [e5]
    exact if_pos hm
  · show ocE v C.2.2.2.1 = _
    rw [e6]
    rfl
  · show C.2.2.2.1.2 - C.2.2.2.1.1 = _
    rw [e6]
    rfl
/-! What is stored is the same on both sides, up to headers (p11 to p13; draft; behind 95b, 89c, 89d). -/
def kyS (a b : List Nat) : Prop := (a = [] ∧ b = []) ∨ (a ≠ [] ∧ b = 1 :: a)
theorem kyS.nil {a b : List Nat} (h : kyS a b) : a = [] ↔ b = [] := by
  rcases h with ⟨h1, h2⟩ | ⟨h1, h2⟩
  · exact ⟨fun _ => h2, fun _ => h1⟩
  · exact ⟨fun e => absurd e h1, fun e => by rw [h2] at e; cases e⟩
theorem kyS.eq {a b a' b' : List Nat} (h : kyS a b) (h' : kyS a' b') : a = a' ↔ b = b' := by
  rcases h with ⟨h1, h2⟩ | ⟨h1, h2⟩ <;> rcases h' with ⟨g1, g2⟩ | ⟨g1, g2⟩
  · rw [h1, h2, g1, g2]
  · rw [h1, h2, g2]
    exact ⟨fun e => absurd e.symm g1, fun e => by cases e⟩
  · rw [h2, g1, g2]
    exact ⟨fun e => absurd e h1, fun e => by cases e⟩
  · rw [h2, g2]
    exact ⟨fun e => by rw [e], fun e => (List.cons.inj e).2⟩
/-- a stored certificate, a stored list -/
def cqr (c : cQ) (x : TD) : Prop := (∀ j, x.u j < 256) ∧ (hdK x.u x.is x.ie ∧ hdK x.u x.su x.ue) ∧ (c.is = rgM x.u (hdr x.u x.is) (x.ie - hdr x.u x.is) ∧ c.su = rgM x.u (hdr x.u x.su) (x.ue - hdr x.u x.su)) ∧ (kyS c.ok (cT x).ok ∧ kyS c.ik (cT x).ik) ∧ eqR c (cT x)
def lqr (c : lQ) (x : TD) : Prop := (∀ j, x.u j < 256) ∧ hdK x.u x.is x.ie ∧ c.is = rgM x.u (hdr x.u x.is) (x.ie - hdr x.u x.is) ∧ (c.en = (lTx x).en ∧ c.fi = (lTx x).fi ∧ c.la = (lTx x).la ∧ c.ma = (lTx x).ma) ∧ ¬ x.I 30 < 0
theorem sim_of {nc nl : Nat} {cc : Nat → cQ} {cl : Nat → lQ} {xc xl : Nat → TD} (hc : ∀ k, k < nc → cqr (cc k) (xc k)) (hl : ∀ k, k < nl → lqr (cl k) (xl k)) : simQ cc (fun k => cT (xc k)) cl (fun l => lTx (xl l)) nc nl := by
  have hsu : ∀ a b, a < nc → b < nc → ((cc a).su = (cc b).is ↔ (cT (xc a)).su = (cT (xc b)).is) := fun a b ha hb => by
    have A := hc a ha
    have B := hc b hb
    rw [A.2.2.1.2, B.2.2.1.1]
    exact (hdK_eq A.1 B.1 A.2.1.2 B.2.1.1).symm
  refine ⟨⟨fun a b ha hb => ?_, fun a ha => hsu a a ha ha⟩, fun l a h9 ha => ?_, fun a ha => (hc a ha).2.2.2.2, fun l h9 => (hl l h9).2.2.2.1⟩
  · show ((cc a).su = (cc b).is ∧ ((cc a).ok = [] ∨ (cc b).ik = [] ∨ (cc a).ok = (cc b).ik)) ↔ _
    rw [hsu a b ha hb, (hc a ha).2.2.2.1.1.nil, (hc b hb).2.2.2.1.2.nil, (hc a ha).2.2.2.1.1.eq (hc b hb).2.2.2.1.2]
    exact Iff.rfl
  · show (cl l).is = (cc a).is ↔ (lTx (xl l)).is = (cT (xc a)).is
    rw [(hl l h9).2.2.1, (hc a ha).2.2.1.1]
    exact (hdK_eq (hl l h9).1 (hc a ha).1 (hl l h9).2.1 (hc a ha).2.1.1).symm
/-- the relation that the loop carries -/
def VLl (nc nl : Nat) (vc : Nat → vC) (vl : Nat → vL) (cc : Nat → cQ) (cl : Nat → lQ) (xc xl : Nat → TD) : Prop := SGl nc nl vc vl xc xl ∧ (∀ k, k < nc → (vc k).1.2.2.2.2.2.2.2.2.1 = (xc k).I 42 ∧ cqr (cc k) (xc k)) ∧ ∀ k, k < nl → lqr (cl k) (xl k)
theorem VLl.val {nc nl : Nat} {vc : Nat → vC} {vl : Nat → vL} {cc : Nat → cQ} {cl : Nat → lQ} {xc xl : Nat → TD} (h : VLl nc nl vc vl cc cl xc xl) {tm : Int64} {kn : Int32} {k D : Nat} (hk : k < nc) : valV nc nl vc vl cc cl tm kn k D = valT nc nl xc xl tm kn k D :=
  valQ_s (sim_of (fun k hk => (h.2.1 k hk).2) h.2.2) (fun a b ha hb => sgc_T (h.1.1 a ha) (h.1.1 b hb)) (fun a b ha hb => sgl_T (h.1.2 a ha) (h.1.1 b hb)) (fun c hc => by
    show ¬ (vc c).1.2.2.2.2.2.2.2.2.1 = 0 ↔ ¬ (xc c).I 42 = 0
    rw [(h.2.1 c hc).1]) hk
theorem cT_tUp (x : TD) (v : Int32) : cT (tUp x v) = cT x := rfl
theorem cqr_tUp {c : cQ} {x : TD} (h : cqr c x) (v : Int32) : cqr c (tUp x v) := by
  unfold cqr
  rw [cT_tUp]
  exact h
theorem VLl.tr {nc nl : Nat} {vc : Nat → vC} {vl : Nat → vL} {cc : Nat → cQ} {cl : Nat → lQ} {xc xl : Nat → TD} (h : VLl nc nl vc vl cc cl xc xl) (k : Nat) {v : Int32} : VLl nc nl (vT vc k v) vl cc cl (vU xc k (tUp (xc k) v)) xl := ⟨h.1.tr k, fun z hz => by
  by_cases e : z = k
  · subst e
    have e1 : vT vc z v z = _ := if_pos rfl
    have e2 : vU xc z (tUp (xc z) v) z = _ := if_pos rfl
    rw [e1, e2]
    exact ⟨rfl, cqr_tUp (h.2.1 z hz).2 v⟩
  · have e1 : vT vc k v z = vc z := if_neg e
    have e2 : vU xc k (tUp (xc k) v) z = xc z := if_neg e
    rw [e1, e2]
    exact h.2.1 z hz, h.2.2⟩
theorem VLl.addC {nc nl : Nat} {vc : Nat → vC} {vl : Nat → vL} {cc : Nat → cQ} {cl : Nat → lQ} {xc xl : Nat → TD} (h : VLl nc nl vc vl cc cl xc xl) {n : vC} {c : cQ} {xm : TD} (h1 : sgc n xm) (h2 : n.1.2.2.2.2.2.2.2.2.1 = xm.I 42) (h3 : cqr c xm) : VLl (nc + 1) nl (vU vc nc n) vl (vU cc nc c) cl (vU xc nc xm) xl := ⟨h.1.addC h1, fun z hz => by
  by_cases e : z = nc
  · subst e
    have e1 : vU vc z n z = _ := if_pos rfl
    have e2 : vU xc z xm z = _ := if_pos rfl
    have e3 : vU cc z c z = _ := if_pos rfl
    rw [e1, e2, e3]
    exact ⟨h2, h3⟩
  · have e1 : vU vc nc n z = vc z := if_neg e
    have e2 : vU xc nc xm z = xc z := if_neg e
    have e3 : vU cc nc c z = cc z := if_neg e
    rw [e1, e2, e3]
    exact h.2.1 z (by omega), h.2.2⟩
theorem VLl.addL {nc nl : Nat} {vc : Nat → vC} {vl : Nat → vL} {cc : Nat → cQ} {cl : Nat → lQ} {xc xl : Nat → TD} (h : VLl nc nl vc vl cc cl xc xl) {n : vL} {c : lQ} {xm : TD} (h1 : sgl n xm) (h3 : lqr c xm) : VLl nc (nl + 1) vc (vU vl nl n) cc (vU cl nl c) xc (vU xl nl xm) := ⟨h.1.addL h1, h.2.1, fun z hz => by
  by_cases e : z = nl
  · subst e
    have e2 : vU xl z xm z = _ := if_pos rfl
    have e3 : vU cl z c z = _ := if_pos rfl
    rw [e2, e3]
    exact h3
  · have e2 : vU xl nl xm z = xl z := if_neg e
    have e3 : vU cl nl c z = cl z := if_neg e
    rw [e2, e3]
    exact h.2.2 z (by omega)⟩
/-! What was read. -/
theorem rg_map {α β : Type} (d0 : α) (f : α → β) (D : List α) : (List.range D.length).map (fun i => f (D.getD i d0)) = D.map f := by
  apply List.ext_getElem?
  intro i
  rw [List.getElem?_map, List.getElem?_map]
  by_cases h : i < D.length
  · rw [List.getElem?_range h, List.getElem?_eq_getElem h]
    show some (f (D.getD i d0)) = some (f D[i])
    rw [List.getD_eq_getElem?_getD, List.getElem?_eq_getElem h]
    rfl
  · rw [List.getElem?_eq_none (by rw [List.length_range]; omega), List.getElem?_eq_none (by omega)]
    rfl
theorem rg_fil {α β : Type} (d0 : α) (q : α → Bool) (f : α → β) (D : List α) : ((List.range D.length).filter (fun i => q (D.getD i d0))).map (fun i => f (D.getD i d0)) = (D.filter q).map f := by
  have e : (List.range D.length).map (fun i => D.getD i d0) = D := (rg_map d0 id D).trans (List.map_id D)
  have h : ((List.range D.length).map (fun i => D.getD i d0)).filter q = ((List.range D.length).filter (q ∘ fun i => D.getD i d0)).map (fun i => D.getD i d0) := List.filter_map
  rw [e] at h
  (rw [h, List.map_map]) <;> rfl
theorem tk_m {x : TD} {i m : Nat} (hm : m ≤ 3) (e : x.D 7 i = nI m) : tkS x i 0 false = (m == 0) ∧ tkS x i 1 false = (m == 1) ∧ tkS x i 0 true = (m == 2) ∧ tkS x i 1 true = (m == 3) := by
  unfold tkS
  rw [e]
  rcases (show m = 0 ∨ m = 1 ∨ m = 2 ∨ m = 3 by omega) with rfl | rfl | rfl | rfl <;> decide
section TRE
variable {x : TD} {T : List (Nat × Nat × Nat)}
theorem tr_one (h1 : x.nt = T.length) {k : Int32} {h : Bool} {kk : Nat} (hq : ∀ i, i < T.length → tkS x i k h = ((T.getD i (0, 0, 0)).2.2 == kk)) (f : Nat × Nat × Nat → List Nat) : ((List.range x.nt).filter (fun i => tkS x i k h)).map (fun i => f (T.getD i (0, 0, 0))) = (T.filter (fun d => d.2.2 == kk)).map f := by
  rw [h1, show (List.range T.length).filter (fun i => tkS x i k h) = (List.range T.length).filter (fun i => ((T.getD i (0, 0, 0)).2.2 == kk)) from List.filter_congr (fun i hi => hq i (List.mem_range.mp hi))]
  exact rg_fil (0, 0, 0) (fun d => d.2.2 == kk) f T
theorem tr_eq (h1 : x.nt = T.length) (h2 : ∀ i, x.ta i = (T.getD i (0, 0, 0)).1) (h3 : ∀ i, x.tz i = (T.getD i (0, 0, 0)).2.1) (h4 : ∀ i, i < T.length → x.D 7 i = nI (T.getD i (0, 0, 0)).2.2) (h5 : ∀ d, d ∈ T → d.2.2 ≤ 3) :
    ((trD 0 T).map (fun d => rgM x.u d.1 (d.2 - d.1)) = trT x 0 false ∧ (trR x.u 1 T).map (fun d => rgM x.u d.1 (d.2 - d.1)) = trH x 1 false) ∧ (trD 2 T).map (fun d => rgM x.u d.1 (d.2 - d.1)) = trT x 0 true ∧ (trR x.u 3 T).map (fun d => rgM x.u d.1 (d.2 - d.1)) = trH x 1 true := by
  have hm : ∀ i, i < T.length → (T.getD i (0, 0, 0)).2.2 ≤ 3 := fun i hi => h5 _ (by rw [List.getD_eq_getElem?_getD, List.getElem?_eq_getElem hi]; exact List.getElem_mem hi)
  have q := fun i hi => tk_m (hm i hi) (h4 i hi)
  unfold trD trR trT trH
  simp only [h2, h3, List.map_map]
  refine ⟨⟨?_, ?_⟩, ?_, ?_⟩
  · exact (tr_one h1 (fun i hi => (q i hi).1) (fun d => rgM x.u d.1 (d.2.1 - d.1))).symm
  · exact (tr_one h1 (fun i hi => (q i hi).2.1) (fun d => rgM x.u (hdr x.u d.1) (d.2.1 - hdr x.u d.1))).symm
  · exact (tr_one h1 (fun i hi => (q i hi).2.2.1) (fun d => rgM x.u d.1 (d.2.1 - d.1))).symm
  · exact (tr_one h1 (fun i hi => (q i hi).2.2.2) (fun d => rgM x.u (hdr x.u d.1) (d.2.1 - hdr x.u d.1))).symm
end TRE
theorem kyR_S {v : Nat → Nat} {o : Nat × Nat} {a b : Int32} (h : kyR o a b) : kyS (rgS v o) (kyT v a b) := by
  rcases h with ⟨h1, h2⟩ | ⟨x, y, h1, h2, h3, h4, h5⟩
  · refine Or.inl ⟨?_, if_pos h1⟩
    unfold rgS
    rw [h2, Nat.sub_self]
    rfl
  · subst h3 h4 h5
    refine Or.inr ⟨fun e => ?_, ?_⟩
    · have e9 := congrArg List.length e
      unfold rgS rgM at e9
      rw [List.length_map, List.length_range] at e9
      have e8 : y - x = 0 := e9
      omega
    · unfold kyT
      rw [if_neg (nI_pos (by omega)), nI_clamp (by omega), nI_clamp (by omega)]
      rfl
theorem cX_cq {v : Nat → Nat} {n : Nat} {tr : Int32} {xm : TD} (hv : ∀ j, v j < 256) (hn : n ≤ 2048) (h : cX v n tr xm) {i : Int32} (hi : i.toNatClampNeg = n) : cqr (cqN v i) xm := by
  obtain ⟨d, y, z, ka, kb, hz, hxm, hH⟩ := h
  have hq := cert_q2 hv (n := n) (s := 0) (ok := (0, 0)) (ik := (0, 0)) (f1 := ka) (f2 := kb) (D2 := []) (D3 := []) (D4 := []) (D5 := []) (D6 := []) (D7 := []) hn ⟨Or.inl ⟨by decide, rfl⟩, Or.inl ⟨by decide, rfl⟩, rfl, rfl, rfl, rfl, rfl, fun d hd => by cases hd⟩
  rw [hz] at hq
  obtain ⟨-, -, hV, hX⟩ := hq
  unfold cqN
  rw [hi]
  generalize rd_cert v n (0, 0, none) 0 0 (0, 0) (0, 0) 0 (-1) (-1) [] [] [] [] [] [] [] = C at hV hX ⊢
  obtain ⟨e1, -, -, -, e9, -, -, e12, e13, e14, -, e17, e20, e18, e19⟩ := hV
  obtain ⟨x1, x2, ⟨k1, k2, d2, d3, d4, d5, d6, hb⟩, hk1, hk2⟩ := hX
  rcases hH with ⟨z', v9, h1, -, h3, hr⟩ | ⟨w9, v9, h1, -⟩
  · obtain rfl : z' = z := Sum.inr.inj (h1.symm.trans hz)
    have a3 := hr.2.2.2.2.2.2.2.2.2.2.2.2.2.2.2
    have tq := tr_eq (x := mkC (d 0) (d 1) (d 2) (d 3) (d 4) (d 5) (d 6) (d 7) (d 8) (d 9) (d 10) (d 11) v n tr y z') (T := z'.2.2.2.2.2.2.2.2.2.2.2.2.2.2.2.2.2.2.2.2.2.2.2.2.2.2.2) rfl (fun _ => rfl) (fun _ => rfl) (fun i9 h9 => (a3 i9 h9).2.2.1) hb
    subst h3
    subst hxm
    refine ⟨hv, ⟨hk1, hk2⟩, ⟨?_, ?_⟩, ⟨kyR_S k1, kyR_S k2⟩, ?_, trivial, ⟨?_, ?_⟩, ⟨?_, ?_⟩, ⟨?_, ?_⟩, ⟨e18, e19⟩, ⟨e17, e12, e13, e14, e9⟩, ?_⟩
    · show rgS v C.2.2.1 = _
      rw [x1]
      rfl
    · show rgS v C.2.2.2.1 = _
      rw [x2]
      rfl
    · show rgS v C.2.1 = _
      rw [e1]
      rfl
    · show C.2.2.2.2.2.2.2.2.2.2.2.2.2.2.2.2.2.2.2.2.1.map (fun d => rgM v d.1 (d.2 - d.1)) = _
      rw [e20]
      exact (rg_map (0, 0) (fun d : Nat × Nat => rgM v d.1 (d.2 - d.1)) _).symm
    · show C.2.2.2.2.2.2.2.2.2.2.2.2.2.2.2.2.2.2.2.2.2.1.map (fun d => rgM v d.1 (d.2 - d.1)) = _
      rw [d2]
      unfold hdM
      rw [List.map_map]
      exact (rg_map (0, 0) (fun d : Nat × Nat => rgM v (hdr v d.1) (d.2 - hdr v d.1)) _).symm
    · show C.2.2.2.2.2.2.2.2.2.2.2.2.2.2.2.2.2.2.2.2.2.2.1.map (fun d => rgM v d.1 (d.2 - d.1)) = _
      rw [d3]
      exact tq.1.1
    · show C.2.2.2.2.2.2.2.2.2.2.2.2.2.2.2.2.2.2.2.2.2.2.2.1.map (fun d => rgM v d.1 (d.2 - d.1)) = _
      rw [d4]
      exact tq.1.2
    · show C.2.2.2.2.2.2.2.2.2.2.2.2.2.2.2.2.2.2.2.2.2.2.2.2.1.map (fun d => rgM v d.1 (d.2 - d.1)) = _
      rw [d5]
      exact tq.2.1
    · show C.2.2.2.2.2.2.2.2.2.2.2.2.2.2.2.2.2.2.2.2.2.2.2.2.2.1.map (fun d => rgM v d.1 (d.2 - d.1)) = _
      rw [d6]
      exact tq.2.2
    · show rgS v C.2.2.2.1 = _
      rw [x2]
      rfl
  · exact absurd (h1.symm.trans hz) (by intro e; cases e)
/-! What doesn't matter is counted from 0. -/
def mB (k : Nat) (x : Int32) : Prop := ∃ m, m ≤ k ∧ x = nI m
theorem mB.up {k k' : Nat} {x : Int32} (h : mB k x) (hk : k ≤ k') : mB k' x := by
  obtain ⟨m, h1, h2⟩ := h
  exact ⟨m, by omega, h2⟩
theorem mB.s {k : Nat} {x : Int32} (h : mB k x) : mB (k + 1) (x + 1) := by
  obtain ⟨m, h1, rfl⟩ := h
  exact ⟨m + 1, by omega, nI_add m 1⟩
theorem mB.z {k : Nat} {x : Int32} (h : mB k x) : mB (k + 1) (x + 0) := by
  rw [Int32.add_zero]
  exact h.up (by omega)
theorem loopF_mB {σ : Type} {B : σ → σ} {M : σ → Prop} {g : σ → Int32} {c : Nat} (hB : ∀ k s, mB k (g s) → mB (k + c) (g (B s))) : ∀ (f : Nat) (b : Bool) (s : σ) (k : Nat), mB k (g s) → mB (k + f * c) (g (loopF B M f b s))
  | 0, _, s, k, h => h.up (Nat.le_add_right _ _)
  | f + 1, b, s, k, h => by
    show mB _ (g (@ite _ (b = true ∨ M s) (Classical.propDecidable _) (loopF B M f false (B s)) s))
    by_cases q : b = true ∨ M s
    · rw [if_pos q]
      exact (loopF_mB hB f false (B s) (k + c) (hB k s h)).up (by rw [Nat.succ_mul]; omega)
    · rw [if_neg q]
      exact h.up (Nat.le_add_right _ _)
theorem rbL_mB (u : Nat → Nat) (n : Nat) (ie : Int32) (e k : Nat) (s : rS × Int32 × Int32 × (List (Nat × Nat))) (h : mB k s.2.1) : mB (k + 1) (rb_extL u n ie e s).2.1 := by
  unfold rb_extL
  dsimp only
  repeat' split
  all_goals first | exact h.s | exact h.z | exact h.up (by omega)
theorem extL_mB (u : Nat → Nat) (n : Nat) (ie : Int32) (x : rS) (en k : Nat) (ma ex : Int32) (h : mB k ma) : mB (k + 2048) (rd_extL u n ie x en ma ex).2.1 := by
  unfold rd_extL
  exact loopF_mB (g := fun s : rS × Int32 × Int32 × (List (Nat × Nat)) => s.2.1) (c := 1) (fun k s h => rbL_mB u n ie _ k s h) 2048 true _ k h
theorem ent_mB (u : Nat → Nat) (n e k : Nat) (s : rS × Int32 × Int32 × Int32 × (List (Nat × Nat)) × (List (Nat × Nat))) (h : mB k s.2.2.1) : mB (k + 2048) (rb_ent u n e s).2.2.1 := by
  unfold rb_ent
  dsimp only
  split
  · exact extL_mB u n _ _ _ k _ _ h
  · exact h.up (by omega)
theorem ents_mB (u : Nat → Nat) (n e k : Nat) (x : rS) (ie ma ex : Int32) (De D7 : List (Nat × Nat)) (h : mB k ma) : mB (k + 4194304) (rd_ents u n e x ie ma ex De D7).2.2.1 := by
  unfold rd_ents
  exact loopF_mB (g := fun s : rS × Int32 × Int32 × Int32 × (List (Nat × Nat)) × (List (Nat × Nat)) => s.2.2.1) (c := 2048) (fun k s h => ent_mB u n e k s h) 2048 false _ k h
theorem lst_ma (u : Nat → Nat) (n : Nat) (x : rS) (ie ex : Int32) (De D7 : List (Nat × Nat)) : ¬ (rd_lst u n x ie 0 ex De D7).2.2.2.2.1 < 0 := by
  have h0 : mB 0 0 := ⟨0, Nat.le_refl _, rfl⟩
  have h : mB 4196352 (rd_lst u n x ie 0 ex De D7).2.2.2.2.1 := by
    unfold rd_lst
    dsimp only
    split
    · split
      · exact extL_mB u n _ _ _ 4194304 _ _ (ents_mB u n _ 0 _ _ _ _ _ _ h0)
      · exact (ents_mB u n _ 0 _ _ _ _ _ _ h0).up (by decide)
    · split
      · exact (extL_mB u n _ _ _ 0 _ _ h0).up (by decide)
      · exact h0.up (by decide)
  obtain ⟨m, h1, h2⟩ := h
  rw [h2]
  exact nI_pos (by omega)
theorem lX_cq {v : Nat → Nat} {n : Nat} {tr : Int32} {xm : TD} (hv : ∀ j, v j < 256) (hn : n ≤ 2048) (h : lX v n tr xm) {i : Int32} (hi : i.toNatClampNeg = n) : lqr (lqN v i) xm := by
  obtain ⟨d, y, z, ka, kb, hz, hxm, hH⟩ := h
  have hq := lst_q2 hv (n := n) (s := 0) (ie := 0) (f1 := ka) (f2 := kb) (D7 := []) (ex := 0) hn
  rw [hz] at hq
  obtain ⟨-, -, hV, hX, hk⟩ := hq
  have hma := lst_ma v n (0, 0, none) 0 0 [] []
  unfold lqN
  rw [hi]
  generalize rd_lst v n (0, 0, none) 0 0 0 [] [] = C at hV hX hma ⊢
  obtain ⟨-, -, e5, e6, e7, e8⟩ := hV
  rcases hH with ⟨z', v9, h1, -, h3, -⟩ | ⟨w9, v9, h1, -⟩
  · obtain rfl : z' = z := Sum.inr.inj (h1.symm.trans hz)
    subst h3
    subst hxm
    refine ⟨hv, hk, ?_, ⟨?_, e7, e8, e5⟩, ?_⟩
    · show rgS v C.2.1 = _
      rw [hX]
      rfl
    · show C.2.2.2.2.2.2.2.1.map (fun d => rgM v d.1 (d.2 - d.1)) = _
      rw [e6]
      exact (rg_map (0, 0) (fun d : Nat × Nat => rgM v d.1 (d.2 - d.1)) _).symm
    · rw [e5] at hma
      exact hma
  · exact absurd (h1.symm.trans hz) (by intro e; cases e)
theorem cX_I {v : Nat → Nat} {n : Nat} {tr : Int32} {xm : TD} (h : cX v n tr xm) : xm.I 42 = tr := by
  obtain ⟨d, y, z, ka, kb, h1, h2, h3⟩ := h
  rw [h2]
  rfl
theorem RI.vl {γ : cG} {gT : ClassId} {mo : Nat} {fu : Nat → Nat} {fd : Nat} {wr : Int32} {nc nl : Nat} {xc xl : Nat → TD} {wx : Nat → Nat} {vs : sS} {er : Int32} {G : va_W} (h : RI γ gT mo fu fd wr nc nl xc xl wx vs er G) : vs.2.2.1.length ≤ 16 := by
  obtain ⟨κ, Ad, τ, a, sp, x, fS, fV, fm, fr, fw, ff, cz, mqs, msz, mch, mft, mpt, mdp, mvd, mmk, nw, hTy, kmo, kb, hn, kt, hst, hrv, hb, hxc, hxl, hij⟩ := h
  exact hb.2.2.2.2.2.1
theorem nI_dpn {D : Nat} (h1 : 1 ≤ D) (h2 : D ≤ 16) : ¬ (nI D < 1 ∨ 16 < nI D) := by
  rintro (h | h)
  · have h3 : nI D < nI 1 := h
    rw [nI_ltI (by omega) (by omega)] at h3
    omega
  · have h3 : nI 16 < nI D := h
    rw [nI_ltI (by omega) (by omega)] at h3
    omega
/-- the room that is used, with what the fed octets may still cost -/
def LNm (i cells slots fd : Nat) : Prop := ∃ k, i = 10 * k ∧ cells + 8 * fd ≤ 400 + 300 * k ∧ slots + 405 * fd ≤ 40000 + 12000 * k
def LJ (γ : cG) (sb : sB) (gT : ClassId) (q0 ou mo i cells slots : Nat) (GC GR : va_W) : Prop := ∃ (fu : Nat → Nat) (fd : Nat) (wr : Int32) (nc nl : Nat) (vc : Nat → vC) (vl : Nat → vL) (cc : Nat → cQ) (cl : Nat → lQ) (vs : sS) (ov : Nat → Int64) (xc xl : Nat → TD) (wx : Nat → Nat) (er : Int32), CI γ sb q0 ou fu fd wr nc nl vc vl cc cl vs ov GC ∧ RI γ gT mo fu fd wr nc nl xc xl wx vs er GR ∧ LNm i cells slots fd ∧ VLl nc nl vc vl cc cl xc xl
theorem LNm.next {i cells slots fd cells' slots' fd' : Nat} (h : LNm i cells slots fd) (h1 : cells' + 8 * fd' ≤ cells + 8 * fd + 300) (h2 : slots' + 405 * fd' ≤ slots + 405 * fd + 12000) : LNm (i + 10) cells' slots' fd' := by
  obtain ⟨k, e, a1, a2⟩ := h
  have e1 : i + 10 = 10 * (k + 1) := by omega
  have e2 : cells' + 8 * fd' ≤ 400 + 300 * (k + 1) := Nat.le_trans h1 (Nat.le_trans (Nat.add_le_add_right a1 300) (Nat.le_of_eq (by rw [Nat.mul_add, Nat.add_assoc])))
  have e3 : slots' + 405 * fd' ≤ 40000 + 12000 * (k + 1) := Nat.le_trans h2 (Nat.le_trans (Nat.add_le_add_right a2 12000) (Nat.le_of_eq (by rw [Nat.mul_add, Nat.add_assoc])))
  exact ⟨k + 1, e1, e2, e3⟩
theorem LNm.room {i cells slots fd L : Nat} (h : LNm i cells slots fd) (hi : i + 10 ≤ L) (hL : L ≤ 5120) : cells + 8 * fd ≤ 154000 ∧ slots + 405 * fd ≤ 6184000 := by
  obtain ⟨k, e, a1, a2⟩ := h
  exact ⟨by omega, by omega⟩
