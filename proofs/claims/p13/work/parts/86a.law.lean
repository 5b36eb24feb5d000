/-! The law's own methods over the whole world. -/
/-- the class' part of the law's state: the world, the fed octets, the law's own row -/
def LWx (γ : cG) (sb : sB) (κ : kE) (Ad : List Nat) (ν : Nat → cN) (ω : Nat → List Nat) (fe ho ce li sh rs se ch fo q0 pl ou : Nat) (fu : Nat → Nat) (ov : Nat → Int64) (u : cU) : Prop := CKx sb κ Ad ω ho ce li sh rs se ch fo q0 pl ∧ CWx γ sb κ Ad ν ω fe ho ce li sh rs se ch fo q0 pl u ∧ Xc Ad fe (.inl (γ.1, 2060, .inl (tx fu))) u.1 ∧ Xc Ad ou (.inl (γ.2.2.1, 1, .inr (.inl ov))) u.1 ∧ fe ≠ q0 ∧ fe ≠ pl ∧ ou ≠ q0 ∧ ou ≠ pl
theorem arI_ne {a b : ClassId} {n m : Nat} {f : Nat → Int32} {g : (Nat → Int64) ⊕ (Nat → UInt32) ⊕ (Nat → UInt64) ⊕ (Nat → Option Nat)} : (.inl (a, n, .inl f) : va_E) ≠ .inl (b, m, .inr g) := fun e => by
  injection e with e
  injection e with e1 e2
  injection e2 with e3 e4
  cases e4
theorem arJ_ne {a b : ClassId} {n m : Nat} {f : Nat → Int64} {g : (Nat → UInt32) ⊕ (Nat → UInt64) ⊕ (Nat → Option Nat)} : (.inl (a, n, .inr (.inl f)) : va_E) ≠ .inl (b, m, .inr (.inr g)) := fun e => by
  injection e with e
  injection e with e1 e2
  injection e2 with e3 e4
  injection e4 with e4
  cases e4
theorem PLx.setA {γ : cG} {sb : sB} {κ : kE} {Ad : List Nat} {l a i n : Nat} {c9 : ClassId} {f : Nat → Int64} {o : alD} {as : List Nat} {G : va_W} {c' : va_E} (h : PLx γ sb κ Ad 8 l o as G) (hg : G[i]? = some (a, .inl (c9, n, .inr (.inl f)))) : PLx γ sb κ Ad 8 l o as (G.set i (a, c')) := by
  obtain ⟨h1, ⟨m, h2⟩, h3, h4⟩ := h
  refine ⟨h1, ⟨m, mem_setX hg h2 (fun e => by cases e)⟩, fun q hq => ⟨mem_setX hg (h3 q hq).1 (fun e => ?_), (h3 q hq).2⟩, h4⟩
  cases o with
  | none => cases hq
  | some d =>
    rw [List.mem_singleton.mp hq] at e
    cases e
set_option maxHeartbeats 4000000 in
set_option maxRecDepth 100000 in
theorem zl_digest (l : Launch) (hl0 : l.stackTraces = false) (dC : Nat → ClassId) (dI : Nat → Nat → Nat) (sb : sB) (γ : cG) (κ : kE) (Ad : List Nat) (ν : Nat → cN) (ω : Nat → List Nat) (L : Nat) (G : va_W) (fe ho ce li sh rs se ch fo q0 pl : Nat) (o : alD) (as : List Nat) (foS chS faP feS wrP : Int32) (ou : Nat) (fu : Nat → Nat) (ov : Nat → Int64) (i j : Int32) (sz : Nat) (hLW : LWx γ sb κ Ad ν ω fe ho ce li sh rs se ch fo q0 pl ou fu ov (G, L, o, as, foS, chS, faP, feS, wrP))  : vx_Met l y_TrustChainLaw_digest w_TrustChainLaw_digest ({ frames := 8, cells := 1, slots := 6, locals := 150 }) (mx_P [.ref q0, .int i, .int j, .ref ou] (dC, dI) sb G [(γ.1, .byte), (γ.2.1, .int), (γ.2.2.1, .long), (γ.2.2.2, .object "java/lang/Object")] sz) (va_Qi (fun r (u' : cU × (Nat → Int64)) => LWx γ sb κ Ad ν ω fe ho ce li sh rs se ch fo q0 pl ou fu u'.2 u'.1 ∧ ((r = 0 ∧ ∃ r9 : Int32, (u'.1.2.2.2.2 = (foS, chS, faP, feS, wrP) ∧ (¬ i < 0 ∧ i < nI (ω ce).length) ∧ ¬ j < 0 ∧ j < 8 ∧ ∃ k m, k < (ω ce).length ∧ i = nI k ∧ m < 8 ∧ j = nI m ∧ r9 = wN (ν ((ω ((ω ce).getD k 0)).getD 0 0)) m) ∧ u'.2 = vp_updL ov 0 r9.toInt64) ∨ (∃ E : String, (u'.1.2.2.2.2 = (foS, chS, faP, feS, wrP) ∧ E = "java/lang/IndexOutOfBoundsException" ∧ ¬ ((¬ i < 0 ∧ i < nI (ω ce).length) ∧ ¬ j < 0 ∧ j < 8)) ∧ r = (if E = "java/lang/IllegalArgumentException" then 1 else 1) ∧ u'.2 = ov))) (mu_B (dC, dI) [(γ.1, .byte), (γ.2.1, .int), (γ.2.2.1, .long), (γ.2.2.2, .object "java/lang/Object")] (va_A G sz) (fun u' : cU × (Nat → Int64) => u'.1.1)) (va_A G sz)) (mx_X (fun (E : String) (u' : cU × (Nat → Int64)) => False) (dC, dI) [(γ.1, .byte), (γ.2.1, .int), (γ.2.2.1, .long), (γ.2.2.2, .object "java/lang/Object")] (va_A G sz) (fun u' : cU × (Nat → Int64) => u'.1.1)) 1 6 (va_A G sz) := by
  refine vx_ofWH (cc := b_TrustChainLaw_digest) (maxL := 5) (ret := (some FieldType.int)) (by decide) rfl ?_
  intro p e s m args below meth c s₁ B hml hv
  obtain ⟨rfl, hsz, hB0, hP, hK, hD0, hN, hT0, hTh⟩ := hv
  have hx := B.exec
  have hb := B.bytes
  have hr := B.returns
  have hts := atoms_spec (ws := w_TrustChainLaw_digest) B.pre
  have htab : c.exceptionTable.toList = tableOf [(0, 10, 13, 13)] := vx_table (x := y_TrustChainLaw_digest) B (hts _ List.mem_cons_self)
  have tbin : ∀ w ∈ tb, w ∈ w_TrustChainLaw_digest := fun w h => List.mem_cons_of_mem _ h
  have htb : ∀ w ∈ tb, w.before _ s = true := fun w h => hts w (tbin w h)
  have hown : s.vm.findClass "TrustChainLaw" = some m.cls := findClass_of_methodNamed B.named
  have hlocks := B.notSynchronized
  subst hsz
  have hD := hD0.self (sz := s.heap.size)
  generalize hAe : va_A G s.heap.size = A at hD ⊢
  have hA : ∀ q : Nat, s.heap.size ≤ q → A q := fun q h => by rw [← hAe]; exact Or.inr h
  have hAs : ∀ q : Nat, A q → sb.1 ≤ q := fun q h => by
    rw [← hAe] at h
    rcases h with ⟨k, e, h⟩ | h
    · exact hD0.2 k _ h
    · exact Nat.le_trans hB0 h
  have hS : va_S A s.heap s.heap [] := va_S.rf
  have hcs : 1 ≤ (headSpec w_TrustChainLaw_digest ({ frames := 8, cells := 1, slots := 6, locals := 150 })).room.cells ∧ 6 ≤ (headSpec w_TrustChainLaw_digest ({ frames := 8, cells := 1, slots := 6, locals := 150 })).room.slots := ⟨Nat.le_refl _, Nat.le_refl _⟩
  have hP : va_P (dC, dI) classes G s.heap := hP
  obtain ⟨hC, hW0, kfe, kou, hfq, hfp, hoq, hop⟩ := hLW
  dsimp only at kfe kou
  have kq0 := hW0.2.2.1
  dsimp only at kq0
  have hl := lv_entry ([.ref q0, .int i, .int j, .ref ou]) (n := 5) (Nat.le_of_ble_eq_true rfl)
  rw [lg_entry_eq]
  generalize (lg_sl ([.ref q0, .int i, .int j, .ref ou]) ++ List.replicate (5 - (lg_sl ([.ref q0, .int i, .int j, .ref ou])).length) Slot.unset).toArray = ls at hl ⊢
  have hl : lv_has ls 5 [(0, .ref q0), (1, .int i), (2, .int j), (3, .ref ou)] := hl
  refine lv_aload_n hx hb d_TrustChainLaw_digest_0 rfl (lv_at hl 3 rfl) ?_
  refine lv_iconst (v := 0) hx hb d_TrustChainLaw_digest_1 (by decide) ?_
  refine lv_aload_n hx hb d_TrustChainLaw_digest_2 rfl (lv_at hl 0 rfl) ?_
  refine lv_iload_n hx hb d_TrustChainLaw_digest_3 rfl (lv_at hl 1 rfl) ?_
  refine lv_iload_n hx hb d_TrustChainLaw_digest_4 rfl (lv_at hl 2 rfl) ?_
  obtain ⟨i_1, hg_1⟩ := List.getElem?_of_mem kq0.2
  have hFc := va_free (wc := G) hD hS hA (List.range G.length) (rg_is _)
  refine vx_calli (mx_runV (As := [.int i, .int j]) (rest := [.int 0, .ref ou]) ⟨hx, hb, hml, hown, hts⟩ tbin (z_Trust_digest l hl0 dC dI sb γ κ Ad ν ω L G fe ho ce li sh rs se ch fo q0 pl o as foS chS faP feS wrP i j  s.heap.size hC hW0 ) q5_226 q5_227 q5_228 q1_1 q5_229 (n := 2) (by decide +kernel) rfl ⟨rfl, rfl⟩ ⟨Nat.le_of_ble_eq_true rfl, Nat.le_of_ble_eq_true rfl⟩ ⟨Nat.le_of_ble_eq_true rfl, Nat.le_of_ble_eq_true rfl⟩ (hTh.keep hS hAs) hN (hT0.keep hS hAs) hAs (Nat.le_trans hB0 hS.1) hK hP hD (List.range G.length) (rg_nd _) (rg_is _) [0, 1, 2, 3] rfl i_1 10 hg_1 rfl rfl hl.1 rfl (Nat.le_of_ble_eq_true rfl) d_TrustChainLaw_digest_5) hS (fun q _ h => hFc q h) hFc (fun q _ h => hFc q h) (fun E cx9 q9 uX tX HX locs ht hvm hpx hBX hz1 hk1 hS hce hcv hcl => ?_) (fun r9 uN tS H5 locs ht hvm hw9 hB hz1 hk1 hS => ?_)
  · obtain ⟨⟨hCW, hF9, hpx9⟩, hB⟩ := hBX
    obtain ⟨hP1, hK1, hD1⟩ := hB
    rw [ht] at hP1
    have hP : va_P (dC, dI) classes uX.1 HX := hP1
    have hD : va_D A uX.1 := hD1.weaken (fun _ _ _ h => hFc _ h)
    have kfe : Xc Ad fe _ uX.1 := ⟨kfe.1, hF9 _ kfe.1 hfq hfp (fun _ _ => arI_ne) kfe.2⟩
    have kou : Xc Ad ou _ uX.1 := ⟨kou.1, hF9 _ kou.1 hoq hop (fun _ _ => arJ_ne) kou.2⟩
    have hE : E = "java/lang/IndexOutOfBoundsException" := hpx9.2.1
    subst hE
    refine vx_catch hown [] ⟨0, 10, 13, 13⟩ [] htab (fun z h => nomatch h) (by decide) (by decide) (htb _ q1_206) (va_Nw.use rfl (hN.1 _ qn1_213)) hce hcv hcl ?_
    refine lv_astore (lv' := [(4, .ref q9), (0, .ref q0), (1, .int i), (2, .int j), (3, .ref ou)]) hx hb d_TrustChainLaw_digest_13 hl (by decide) rfl (fun ls hl => ?_)
    refine lv_iconst (v := 1) hx hb d_TrustChainLaw_digest_15 (by decide) ?_
    exact vx_ret (x_wide 1 6 (Nat.le_of_ble_eq_true rfl) (Nat.le_of_ble_eq_true rfl) (W.iret (v := 1) hx hb hr (fun t ht hW => ⟨⟨_, (uX, ov), rfl, ⟨⟨hC, hCW, kfe, kou, hfq, hfp, hoq, hop⟩, Or.inr ⟨_, hpx9, (if_neg (by decide)).symm, rfl⟩⟩, ⟨by rw [ht]; exact hP, va_K.moved hW.alike hK, hD⟩⟩, hS.F ht⟩) hS.2.2 d_TrustChainLaw_digest_16))
  · obtain ⟨hP1, hK1, hD1⟩ := hB
    rw [ht] at hP1
    have hP : va_P (dC, dI) classes uN.1 H5 := hP1
    have hD : va_D A uN.1 := hD1.weaken (fun _ _ _ h => hFc _ h)
    obtain ⟨hCW, hF9, hQ9⟩ := hw9
    have kfe : Xc Ad fe _ uN.1 := ⟨kfe.1, hF9 _ kfe.1 hfq hfp (fun _ _ => arI_ne) kfe.2⟩
    have kou : Xc Ad ou _ uN.1 := ⟨kou.1, hF9 _ kou.1 hoq hop (fun _ _ => arJ_ne) kou.2⟩
    obtain ⟨G9, L9, o9, as9, f1, f2, f3, f4, f5⟩ := uN
    obtain ⟨hTy, hL, kq0, kpl, h16⟩ := hCW
    dsimp only at hTy hL kq0 kpl h16 hP hD kfe kou hQ9
    refine lv_i2l (v := r9.toInt64) hx hb d_TrustChainLaw_digest_8 rfl ?_
    obtain ⟨io, hgo⟩ := List.getElem?_of_mem kou.2
    refine va_last hx hb hK hP hD hS io 2 hgo rfl (by unfold vp_in; decide) d_TrustChainLaw_digest_9 (fun H9 locs hP hD2 hS => ?_)
    have hP : va_P (dC, dI) classes (G9.set io (ou, .inl (γ.2.2.1, 1, .inr (.inl (vp_updL ov (0 : Int32).toNatClampNeg r9.toInt64))))) H9 := hP
    have hD : va_D A (G9.set io (ou, .inl (γ.2.2.1, 1, .inr (.inl (vp_updL ov (0 : Int32).toNatClampNeg r9.toInt64))))) := hD2
    have hTy := TY.setX (c' := .inl (γ.2.2.1, 1, .inr (.inl (vp_updL ov (0 : Int32).toNatClampNeg r9.toInt64)))) hTy hgo kou.1
    have kpl := PLx.setA (c' := .inl (γ.2.2.1, 1, .inr (.inl (vp_updL ov (0 : Int32).toNatClampNeg r9.toInt64)))) kpl hgo
    have kq0 := Xc.setX (c' := .inl (γ.2.2.1, 1, .inr (.inl (vp_updL ov (0 : Int32).toNatClampNeg r9.toInt64)))) kq0 hgo (fun e => by cases e)
    have kfe := Xc.setX (c' := .inl (γ.2.2.1, 1, .inr (.inl (vp_updL ov (0 : Int32).toNatClampNeg r9.toInt64)))) kfe hgo (fun e => arI_ne (congrArg Prod.snd e))
    have kou : Xc Ad ou (.inl (γ.2.2.1, 1, .inr (.inl (vp_updL ov (0 : Int32).toNatClampNeg r9.toInt64)))) (G9.set io (ou, .inl (γ.2.2.1, 1, .inr (.inl (vp_updL ov (0 : Int32).toNatClampNeg r9.toInt64))))) := ⟨kou.1, List.mem_of_getElem? (set_here hgo)⟩
    refine lv_goto (tgt := 17) hx hb d_TrustChainLaw_digest_10 (by decide) ?_
    refine lv_iconst (v := 0) hx hb d_TrustChainLaw_digest_17 (by decide) ?_
    exact vx_ret (x_wide 1 6 (Nat.le_of_ble_eq_true rfl) (Nat.le_of_ble_eq_true rfl) (W.iret (v := 0) hx hb hr (fun t ht hW => ⟨⟨_, ((G9.set io (ou, .inl (γ.2.2.1, 1, .inr (.inl (vp_updL ov (0 : Int32).toNatClampNeg r9.toInt64)))), L9, o9, as9, f1, f2, f3, f4, f5), (vp_updL ov (0 : Int32).toNatClampNeg r9.toInt64)), rfl, ⟨⟨hC, ⟨hTy, hL, kq0, kpl, h16⟩, kfe, kou, hfq, hfp, hoq, hop⟩, Or.inl ⟨rfl, r9, hQ9, rfl⟩⟩, ⟨by rw [ht]; exact hP, va_K.moved hW.alike hK, hD⟩⟩, hS.F ht⟩) hS.2.2 d_TrustChainLaw_digest_18))
set_option maxHeartbeats 4000000 in
set_option maxRecDepth 100000 in
theorem zl_part (l : Launch) (hl0 : l.stackTraces = false) (dC : Nat → ClassId) (dI : Nat → Nat → Nat) (sb : sB) (γ : cG) (κ : kE) (Ad : List Nat) (ν : Nat → cN) (ω : Nat → List Nat) (L : Nat) (G : va_W) (fe ho ce li sh rs se ch fo q0 pl : Nat) (o : alD) (as : List Nat) (foS chS faP feS wrP : Int32) (ou : Nat) (fu : Nat → Nat) (ov : Nat → Int64) (i j : Int32) (sz : Nat) (hLW : LWx γ sb κ Ad ν ω fe ho ce li sh rs se ch fo q0 pl ou fu ov (G, L, o, as, foS, chS, faP, feS, wrP))  : vx_Met l y_TrustChainLaw_part w_TrustChainLaw_part ({ frames := 8, cells := 1, slots := 6, locals := 150 }) (mx_P [.ref q0, .int i, .int j, .ref ou] (dC, dI) sb G [(γ.1, .byte), (γ.2.1, .int), (γ.2.2.1, .long), (γ.2.2.2, .object "java/lang/Object")] sz) (va_Qi (fun r (u' : cU × (Nat → Int64)) => LWx γ sb κ Ad ν ω fe ho ce li sh rs se ch fo q0 pl ou fu u'.2 u'.1 ∧ ((r = 0 ∧ ∃ r9 : Int64, (u'.1.2.2.2.2 = (foS, chS, faP, feS, wrP) ∧ ¬ (j < 0 ∨ 11 < j) ∧ ∃ k, k < (ω ce).length ∧ i = nI k ∧ ∃ K len, κ ((ω ce).getD k 0) = (8, K, len) ∧ r9 = tellV (ν ((ω ce).getD k 0)) K len j) ∧ u'.2 = vp_updL ov 0 r9) ∨ (∃ E : String, (u'.1.2.2.2.2 = (foS, chS, faP, feS, wrP) ∧ ((E = "java/lang/IllegalArgumentException" ∧ (j < 0 ∨ 11 < j)) ∨ (E = "java/lang/IndexOutOfBoundsException" ∧ ¬ (j < 0 ∨ 11 < j) ∧ ¬ (¬ i < 0 ∧ i < nI (ω ce).length)))) ∧ r = (if E = "java/lang/IllegalArgumentException" then 1 else 2) ∧ u'.2 = ov))) (mu_B (dC, dI) [(γ.1, .byte), (γ.2.1, .int), (γ.2.2.1, .long), (γ.2.2.2, .object "java/lang/Object")] (va_A G sz) (fun u' : cU × (Nat → Int64) => u'.1.1)) (va_A G sz)) (mx_X (fun (E : String) (u' : cU × (Nat → Int64)) => False) (dC, dI) [(γ.1, .byte), (γ.2.1, .int), (γ.2.2.1, .long), (γ.2.2.2, .object "java/lang/Object")] (va_A G sz) (fun u' : cU × (Nat → Int64) => u'.1.1)) 1 6 (va_A G sz) := by
  refine vx_ofWH (cc := b_TrustChainLaw_part) (maxL := 5) (ret := (some FieldType.int)) (by decide) rfl ?_
  intro p e s m args below meth c s₁ B hml hv
  obtain ⟨rfl, hsz, hB0, hP, hK, hD0, hN, hT0, hTh⟩ := hv
  have hx := B.exec
  have hb := B.bytes
  have hr := B.returns
  have hts := atoms_spec (ws := w_TrustChainLaw_part) B.pre
  have htab : c.exceptionTable.toList = tableOf [(0, 9, 12, 19), (0, 9, 16, 13)] := vx_table (x := y_TrustChainLaw_part) B (hts _ List.mem_cons_self)
  have tbin : ∀ w ∈ tb, w ∈ w_TrustChainLaw_part := fun w h => List.mem_cons_of_mem _ h
  have htb : ∀ w ∈ tb, w.before _ s = true := fun w h => hts w (tbin w h)
  have hown : s.vm.findClass "TrustChainLaw" = some m.cls := findClass_of_methodNamed B.named
  have hlocks := B.notSynchronized
  subst hsz
  have hD := hD0.self (sz := s.heap.size)
  generalize hAe : va_A G s.heap.size = A at hD ⊢
  have hA : ∀ q : Nat, s.heap.size ≤ q → A q := fun q h => by rw [← hAe]; exact Or.inr h
  have hAs : ∀ q : Nat, A q → sb.1 ≤ q := fun q h => by
    rw [← hAe] at h
    rcases h with ⟨k, e, h⟩ | h
    · exact hD0.2 k _ h
    · exact Nat.le_trans hB0 h
  have hS : va_S A s.heap s.heap [] := va_S.rf
  have hcs : 1 ≤ (headSpec w_TrustChainLaw_part ({ frames := 8, cells := 1, slots := 6, locals := 150 })).room.cells ∧ 6 ≤ (headSpec w_TrustChainLaw_part ({ frames := 8, cells := 1, slots := 6, locals := 150 })).room.slots := ⟨Nat.le_refl _, Nat.le_refl _⟩
  have hP : va_P (dC, dI) classes G s.heap := hP
  obtain ⟨hC, hW0, kfe, kou, hfq, hfp, hoq, hop⟩ := hLW
  dsimp only at kfe kou
  have kq0 := hW0.2.2.1
  dsimp only at kq0
  have hl := lv_entry ([.ref q0, .int i, .int j, .ref ou]) (n := 5) (Nat.le_of_ble_eq_true rfl)
  rw [lg_entry_eq]
  generalize (lg_sl ([.ref q0, .int i, .int j, .ref ou]) ++ List.replicate (5 - (lg_sl ([.ref q0, .int i, .int j, .ref ou])).length) Slot.unset).toArray = ls at hl ⊢
  have hl : lv_has ls 5 [(0, .ref q0), (1, .int i), (2, .int j), (3, .ref ou)] := hl
  refine lv_aload_n hx hb d_TrustChainLaw_part_0 rfl (lv_at hl 3 rfl) ?_
  refine lv_iconst (v := 0) hx hb d_TrustChainLaw_part_1 (by decide) ?_
  refine lv_aload_n hx hb d_TrustChainLaw_part_2 rfl (lv_at hl 0 rfl) ?_
  refine lv_iload_n hx hb d_TrustChainLaw_part_3 rfl (lv_at hl 1 rfl) ?_
  refine lv_iload_n hx hb d_TrustChainLaw_part_4 rfl (lv_at hl 2 rfl) ?_
  obtain ⟨i_1, hg_1⟩ := List.getElem?_of_mem kq0.2
  have hFc := va_free (wc := G) hD hS hA (List.range G.length) (rg_is _)
  refine vx_calll (mx_runV (As := [.int i, .int j]) (rest := [.int 0, .ref ou]) ⟨hx, hb, hml, hown, hts⟩ tbin (z_Trust_part l hl0 dC dI sb γ κ Ad ν ω L G fe ho ce li sh rs se ch fo q0 pl o as foS chS faP feS wrP i j  s.heap.size hC hW0 ) q5_145 q5_146 q5_147 q1_1 q5_148 (n := 2) (by decide +kernel) rfl ⟨rfl, rfl⟩ ⟨Nat.le_of_ble_eq_true rfl, Nat.le_of_ble_eq_true rfl⟩ ⟨Nat.le_of_ble_eq_true rfl, Nat.le_of_ble_eq_true rfl⟩ (hTh.keep hS hAs) hN (hT0.keep hS hAs) hAs (Nat.le_trans hB0 hS.1) hK hP hD (List.range G.length) (rg_nd _) (rg_is _) [0, 1, 2, 3] rfl i_1 10 hg_1 rfl rfl hl.1 rfl (Nat.le_of_ble_eq_true rfl) d_TrustChainLaw_part_5) hS (fun q _ h => hFc q h) hFc (fun q _ h => hFc q h) (fun E cx9 q9 uX tX HX locs ht hvm hpx hBX hz1 hk1 hS hce hcv hcl => ?_) (fun r9 uN tS H5 locs ht hvm hw9 hB hz1 hk1 hS => ?_)
  · obtain ⟨⟨hCW, hF9, hpx9⟩, hB⟩ := hBX
    obtain ⟨hP1, hK1, hD1⟩ := hB
    rw [ht] at hP1
    have hP : va_P (dC, dI) classes uX.1 HX := hP1
    have hD : va_D A uX.1 := hD1.weaken (fun _ _ _ h => hFc _ h)
    have kfe : Xc Ad fe _ uX.1 := ⟨kfe.1, hF9 _ kfe.1 hfq hfp (fun _ _ => arI_ne) kfe.2⟩
    have kou : Xc Ad ou _ uX.1 := ⟨kou.1, hF9 _ kou.1 hoq hop (fun _ _ => arJ_ne) kou.2⟩
    have hEs : E = "java/lang/IllegalArgumentException" ∨ E = "java/lang/IndexOutOfBoundsException" := hpx9.2.elim (fun h => Or.inl h.1) (fun h => Or.inr h.1)
    rcases hEs with hE | hE
    · subst hE
      refine vx_catch hown [] ⟨0, 9, 12, 19⟩ [⟨0, 9, 16, 13⟩] htab (fun z h => nomatch h) (by decide) (by decide) (htb _ q2_44) (va_Nw.use rfl (hN.1 _ qn4_235)) hce hcv hcl ?_
      refine lv_astore (lv' := [(4, .ref q9), (0, .ref q0), (1, .int i), (2, .int j), (3, .ref ou)]) hx hb d_TrustChainLaw_part_12 hl (by decide) rfl (fun ls hl => ?_)
      refine lv_iconst (v := 1) hx hb d_TrustChainLaw_part_14 (by decide) ?_
      exact vx_ret (x_wide 1 6 (Nat.le_of_ble_eq_true rfl) (Nat.le_of_ble_eq_true rfl) (W.iret (v := 1) hx hb hr (fun t ht hW => ⟨⟨_, (uX, ov), rfl, ⟨⟨hC, hCW, kfe, kou, hfq, hfp, hoq, hop⟩, Or.inr ⟨_, hpx9, (if_pos rfl).symm, rfl⟩⟩, ⟨by rw [ht]; exact hP, va_K.moved hW.alike hK, hD⟩⟩, hS.F ht⟩) hS.2.2 d_TrustChainLaw_part_15))
    · subst hE
      refine vx_catch hown [⟨0, 9, 12, 19⟩] ⟨0, 9, 16, 13⟩ [] htab (fun z h => by rw [List.mem_singleton.mp h]; exact Or.inr ⟨by decide, _, htb _ q2_44, hTh.2.2.2.2⟩) (by decide) (by decide) (htb _ q1_206) (va_Nw.use rfl (hN.1 _ qn1_213)) hce hcv hcl ?_
      refine lv_astore (lv' := [(4, .ref q9), (0, .ref q0), (1, .int i), (2, .int j), (3, .ref ou)]) hx hb d_TrustChainLaw_part_16 hl (by decide) rfl (fun ls hl => ?_)
      refine lv_iconst (v := 2) hx hb d_TrustChainLaw_part_18 (by decide) ?_
      exact vx_ret (x_wide 1 6 (Nat.le_of_ble_eq_true rfl) (Nat.le_of_ble_eq_true rfl) (W.iret (v := 2) hx hb hr (fun t ht hW => ⟨⟨_, (uX, ov), rfl, ⟨⟨hC, hCW, kfe, kou, hfq, hfp, hoq, hop⟩, Or.inr ⟨_, hpx9, (if_neg (by decide)).symm, rfl⟩⟩, ⟨by rw [ht]; exact hP, va_K.moved hW.alike hK, hD⟩⟩, hS.F ht⟩) hS.2.2 d_TrustChainLaw_part_19))
  · obtain ⟨hP1, hK1, hD1⟩ := hB
    rw [ht] at hP1
    have hP : va_P (dC, dI) classes uN.1 H5 := hP1
    have hD : va_D A uN.1 := hD1.weaken (fun _ _ _ h => hFc _ h)
    obtain ⟨hCW, hF9, hQ9⟩ := hw9
    have kfe : Xc Ad fe _ uN.1 := ⟨kfe.1, hF9 _ kfe.1 hfq hfp (fun _ _ => arI_ne) kfe.2⟩
    have kou : Xc Ad ou _ uN.1 := ⟨kou.1, hF9 _ kou.1 hoq hop (fun _ _ => arJ_ne) kou.2⟩
    obtain ⟨G9, L9, o9, as9, f1, f2, f3, f4, f5⟩ := uN
    obtain ⟨hTy, hL, kq0, kpl, h16⟩ := hCW
    dsimp only at hTy hL kq0 kpl h16 hP hD kfe kou hQ9
    obtain ⟨io, hgo⟩ := List.getElem?_of_mem kou.2
    refine va_last hx hb hK hP hD hS io 2 hgo rfl (by unfold vp_in; decide) d_TrustChainLaw_part_8 (fun H8 locs hP hD2 hS => ?_)
    have hP : va_P (dC, dI) classes (G9.set io (ou, .inl (γ.2.2.1, 1, .inr (.inl (vp_updL ov (0 : Int32).toNatClampNeg r9))))) H8 := hP
    have hD : va_D A (G9.set io (ou, .inl (γ.2.2.1, 1, .inr (.inl (vp_updL ov (0 : Int32).toNatClampNeg r9))))) := hD2
    have hTy := TY.setX (c' := .inl (γ.2.2.1, 1, .inr (.inl (vp_updL ov (0 : Int32).toNatClampNeg r9)))) hTy hgo kou.1
    have kpl := PLx.setA (c' := .inl (γ.2.2.1, 1, .inr (.inl (vp_updL ov (0 : Int32).toNatClampNeg r9)))) kpl hgo
    have kq0 := Xc.setX (c' := .inl (γ.2.2.1, 1, .inr (.inl (vp_updL ov (0 : Int32).toNatClampNeg r9)))) kq0 hgo (fun e => by cases e)
    have kfe := Xc.setX (c' := .inl (γ.2.2.1, 1, .inr (.inl (vp_updL ov (0 : Int32).toNatClampNeg r9)))) kfe hgo (fun e => arI_ne (congrArg Prod.snd e))
    have kou : Xc Ad ou (.inl (γ.2.2.1, 1, .inr (.inl (vp_updL ov (0 : Int32).toNatClampNeg r9)))) (G9.set io (ou, .inl (γ.2.2.1, 1, .inr (.inl (vp_updL ov (0 : Int32).toNatClampNeg r9))))) := ⟨kou.1, List.mem_of_getElem? (set_here hgo)⟩
    refine lv_goto (tgt := 20) hx hb d_TrustChainLaw_part_9 (by decide) ?_
    refine lv_iconst (v := 0) hx hb d_TrustChainLaw_part_20 (by decide) ?_
    exact vx_ret (x_wide 1 6 (Nat.le_of_ble_eq_true rfl) (Nat.le_of_ble_eq_true rfl) (W.iret (v := 0) hx hb hr (fun t ht hW => ⟨⟨_, ((G9.set io (ou, .inl (γ.2.2.1, 1, .inr (.inl (vp_updL ov (0 : Int32).toNatClampNeg r9)))), L9, o9, as9, f1, f2, f3, f4, f5), (vp_updL ov (0 : Int32).toNatClampNeg r9)), rfl, ⟨⟨hC, ⟨hTy, hL, kq0, kpl, h16⟩, kfe, kou, hfq, hfp, hoq, hop⟩, Or.inl ⟨rfl, r9, hQ9, rfl⟩⟩, ⟨by rw [ht]; exact hP, va_K.moved hW.alike hK, hD⟩⟩, hS.F ht⟩) hS.2.2 d_TrustChainLaw_part_21))
set_option maxHeartbeats 4000000 in
set_option maxRecDepth 100000 in
theorem zl_listPart (l : Launch) (hl0 : l.stackTraces = false) (dC : Nat → ClassId) (dI : Nat → Nat → Nat) (sb : sB) (γ : cG) (κ : kE) (Ad : List Nat) (ν : Nat → cN) (ω : Nat → List Nat) (L : Nat) (G : va_W) (fe ho ce li sh rs se ch fo q0 pl : Nat) (o : alD) (as : List Nat) (foS chS faP feS wrP : Int32) (ou : Nat) (fu : Nat → Nat) (ov : Nat → Int64) (i j : Int32) (sz : Nat) (hLW : LWx γ sb κ Ad ν ω fe ho ce li sh rs se ch fo q0 pl ou fu ov (G, L, o, as, foS, chS, faP, feS, wrP))  : vx_Met l y_TrustChainLaw_listPart w_TrustChainLaw_listPart ({ frames := 8, cells := 1, slots := 6, locals := 150 }) (mx_P [.ref q0, .int i, .int j, .ref ou] (dC, dI) sb G [(γ.1, .byte), (γ.2.1, .int), (γ.2.2.1, .long), (γ.2.2.2, .object "java/lang/Object")] sz) (va_Qi (fun r (u' : cU × (Nat → Int64)) => LWx γ sb κ Ad ν ω fe ho ce li sh rs se ch fo q0 pl ou fu u'.2 u'.1 ∧ ((r = 0 ∧ ∃ r9 : Int64, (u'.1.2.2.2.2 = (foS, chS, faP, feS, wrP) ∧ ¬ (j < 0 ∨ 3 < j) ∧ ∃ k, k < (ω li).length ∧ i = nI k ∧ ∃ K, κ ((ω li).getD k 0) = (9, K, 0) ∧ r9 = ltellV (ν ((ω li).getD k 0)) K j) ∧ u'.2 = vp_updL ov 0 r9) ∨ (∃ E : String, (u'.1.2.2.2.2 = (foS, chS, faP, feS, wrP) ∧ ((E = "java/lang/IllegalArgumentException" ∧ (j < 0 ∨ 3 < j)) ∨ (E = "java/lang/IndexOutOfBoundsException" ∧ ¬ (j < 0 ∨ 3 < j) ∧ ¬ (¬ i < 0 ∧ i < nI (ω li).length)))) ∧ r = (if E = "java/lang/IllegalArgumentException" then 1 else 2) ∧ u'.2 = ov))) (mu_B (dC, dI) [(γ.1, .byte), (γ.2.1, .int), (γ.2.2.1, .long), (γ.2.2.2, .object "java/lang/Object")] (va_A G sz) (fun u' : cU × (Nat → Int64) => u'.1.1)) (va_A G sz)) (mx_X (fun (E : String) (u' : cU × (Nat → Int64)) => False) (dC, dI) [(γ.1, .byte), (γ.2.1, .int), (γ.2.2.1, .long), (γ.2.2.2, .object "java/lang/Object")] (va_A G sz) (fun u' : cU × (Nat → Int64) => u'.1.1)) 1 6 (va_A G sz) := by
  refine vx_ofWH (cc := b_TrustChainLaw_listPart) (maxL := 5) (ret := (some FieldType.int)) (by decide) rfl ?_
  intro p e s m args below meth c s₁ B hml hv
  obtain ⟨rfl, hsz, hB0, hP, hK, hD0, hN, hT0, hTh⟩ := hv
  have hx := B.exec
  have hb := B.bytes
  have hr := B.returns
  have hts := atoms_spec (ws := w_TrustChainLaw_listPart) B.pre
  have htab : c.exceptionTable.toList = tableOf [(0, 9, 12, 19), (0, 9, 16, 13)] := vx_table (x := y_TrustChainLaw_listPart) B (hts _ List.mem_cons_self)
  have tbin : ∀ w ∈ tb, w ∈ w_TrustChainLaw_listPart := fun w h => List.mem_cons_of_mem _ h
  have htb : ∀ w ∈ tb, w.before _ s = true := fun w h => hts w (tbin w h)
  have hown : s.vm.findClass "TrustChainLaw" = some m.cls := findClass_of_methodNamed B.named
  have hlocks := B.notSynchronized
  subst hsz
  have hD := hD0.self (sz := s.heap.size)
  generalize hAe : va_A G s.heap.size = A at hD ⊢
  have hA : ∀ q : Nat, s.heap.size ≤ q → A q := fun q h => by rw [← hAe]; exact Or.inr h
  have hAs : ∀ q : Nat, A q → sb.1 ≤ q := fun q h => by
    rw [← hAe] at h
    rcases h with ⟨k, e, h⟩ | h
    · exact hD0.2 k _ h
    · exact Nat.le_trans hB0 h
  have hS : va_S A s.heap s.heap [] := va_S.rf
  have hcs : 1 ≤ (headSpec w_TrustChainLaw_listPart ({ frames := 8, cells := 1, slots := 6, locals := 150 })).room.cells ∧ 6 ≤ (headSpec w_TrustChainLaw_listPart ({ frames := 8, cells := 1, slots := 6, locals := 150 })).room.slots := ⟨Nat.le_refl _, Nat.le_refl _⟩
  have hP : va_P (dC, dI) classes G s.heap := hP
  obtain ⟨hC, hW0, kfe, kou, hfq, hfp, hoq, hop⟩ := hLW
  dsimp only at kfe kou
  have kq0 := hW0.2.2.1
  dsimp only at kq0
  have hl := lv_entry ([.ref q0, .int i, .int j, .ref ou]) (n := 5) (Nat.le_of_ble_eq_true rfl)
  rw [lg_entry_eq]
  generalize (lg_sl ([.ref q0, .int i, .int j, .ref ou]) ++ List.replicate (5 - (lg_sl ([.ref q0, .int i, .int j, .ref ou])).length) Slot.unset).toArray = ls at hl ⊢
  have hl : lv_has ls 5 [(0, .ref q0), (1, .int i), (2, .int j), (3, .ref ou)] := hl
  refine lv_aload_n hx hb d_TrustChainLaw_listPart_0 rfl (lv_at hl 3 rfl) ?_
  refine lv_iconst (v := 0) hx hb d_TrustChainLaw_listPart_1 (by decide) ?_
  refine lv_aload_n hx hb d_TrustChainLaw_listPart_2 rfl (lv_at hl 0 rfl) ?_
  refine lv_iload_n hx hb d_TrustChainLaw_listPart_3 rfl (lv_at hl 1 rfl) ?_
  refine lv_iload_n hx hb d_TrustChainLaw_listPart_4 rfl (lv_at hl 2 rfl) ?_
  obtain ⟨i_1, hg_1⟩ := List.getElem?_of_mem kq0.2
  have hFc := va_free (wc := G) hD hS hA (List.range G.length) (rg_is _)
  refine vx_calll (mx_runV (As := [.int i, .int j]) (rest := [.int 0, .ref ou]) ⟨hx, hb, hml, hown, hts⟩ tbin (z_Trust_listPart l hl0 dC dI sb γ κ Ad ν ω L G fe ho ce li sh rs se ch fo q0 pl o as foS chS faP feS wrP i j  s.heap.size hC hW0 ) q5_158 q5_159 q5_160 q1_1 q5_161 (n := 2) (by decide +kernel) rfl ⟨rfl, rfl⟩ ⟨Nat.le_of_ble_eq_true rfl, Nat.le_of_ble_eq_true rfl⟩ ⟨Nat.le_of_ble_eq_true rfl, Nat.le_of_ble_eq_true rfl⟩ (hTh.keep hS hAs) hN (hT0.keep hS hAs) hAs (Nat.le_trans hB0 hS.1) hK hP hD (List.range G.length) (rg_nd _) (rg_is _) [0, 1, 2, 3] rfl i_1 10 hg_1 rfl rfl hl.1 rfl (Nat.le_of_ble_eq_true rfl) d_TrustChainLaw_listPart_5) hS (fun q _ h => hFc q h) hFc (fun q _ h => hFc q h) (fun E cx9 q9 uX tX HX locs ht hvm hpx hBX hz1 hk1 hS hce hcv hcl => ?_) (fun r9 uN tS H5 locs ht hvm hw9 hB hz1 hk1 hS => ?_)
  · obtain ⟨⟨hCW, hF9, hpx9⟩, hB⟩ := hBX
    obtain ⟨hP1, hK1, hD1⟩ := hB
    rw [ht] at hP1
    have hP : va_P (dC, dI) classes uX.1 HX := hP1
    have hD : va_D A uX.1 := hD1.weaken (fun _ _ _ h => hFc _ h)
    have kfe : Xc Ad fe _ uX.1 := ⟨kfe.1, hF9 _ kfe.1 hfq hfp (fun _ _ => arI_ne) kfe.2⟩
    have kou : Xc Ad ou _ uX.1 := ⟨kou.1, hF9 _ kou.1 hoq hop (fun _ _ => arJ_ne) kou.2⟩
    have hEs : E = "java/lang/IllegalArgumentException" ∨ E = "java/lang/IndexOutOfBoundsException" := hpx9.2.elim (fun h => Or.inl h.1) (fun h => Or.inr h.1)
    rcases hEs with hE | hE
    · subst hE
      refine vx_catch hown [] ⟨0, 9, 12, 19⟩ [⟨0, 9, 16, 13⟩] htab (fun z h => nomatch h) (by decide) (by decide) (htb _ q2_44) (va_Nw.use rfl (hN.1 _ qn4_235)) hce hcv hcl ?_
      refine lv_astore (lv' := [(4, .ref q9), (0, .ref q0), (1, .int i), (2, .int j), (3, .ref ou)]) hx hb d_TrustChainLaw_listPart_12 hl (by decide) rfl (fun ls hl => ?_)
      refine lv_iconst (v := 1) hx hb d_TrustChainLaw_listPart_14 (by decide) ?_
      exact vx_ret (x_wide 1 6 (Nat.le_of_ble_eq_true rfl) (Nat.le_of_ble_eq_true rfl) (W.iret (v := 1) hx hb hr (fun t ht hW => ⟨⟨_, (uX, ov), rfl, ⟨⟨hC, hCW, kfe, kou, hfq, hfp, hoq, hop⟩, Or.inr ⟨_, hpx9, (if_pos rfl).symm, rfl⟩⟩, ⟨by rw [ht]; exact hP, va_K.moved hW.alike hK, hD⟩⟩, hS.F ht⟩) hS.2.2 d_TrustChainLaw_listPart_15))
    · subst hE
      refine vx_catch hown [⟨0, 9, 12, 19⟩] ⟨0, 9, 16, 13⟩ [] htab (fun z h => by rw [List.mem_singleton.mp h]; exact Or.inr ⟨by decide, _, htb _ q2_44, hTh.2.2.2.2⟩) (by decide) (by decide) (htb _ q1_206) (va_Nw.use rfl (hN.1 _ qn1_213)) hce hcv hcl ?_
      refine lv_astore (lv' := [(4, .ref q9), (0, .ref q0), (1, .int i), (2, .int j), (3, .ref ou)]) hx hb d_TrustChainLaw_listPart_16 hl (by decide) rfl (fun ls hl => ?_)
      refine lv_iconst (v := 2) hx hb d_TrustChainLaw_listPart_18 (by decide) ?_
      exact vx_ret (x_wide 1 6 (Nat.le_of_ble_eq_true rfl) (Nat.le_of_ble_eq_true rfl) (W.iret (v := 2) hx hb hr (fun t ht hW => ⟨⟨_, (uX, ov), rfl, ⟨⟨hC, hCW, kfe, kou, hfq, hfp, hoq, hop⟩, Or.inr ⟨_, hpx9, (if_neg (by decide)).symm, rfl⟩⟩, ⟨by rw [ht]; exact hP, va_K.moved hW.alike hK, hD⟩⟩, hS.F ht⟩) hS.2.2 d_TrustChainLaw_listPart_19))
  · obtain ⟨hP1, hK1, hD1⟩ := hB
    rw [ht] at hP1
    have hP : va_P (dC, dI) classes uN.1 H5 := hP1
    have hD : va_D A uN.1 := hD1.weaken (fun _ _ _ h => hFc _ h)
    obtain ⟨hCW, hF9, hQ9⟩ := hw9
    have kfe : Xc Ad fe _ uN.1 := ⟨kfe.1, hF9 _ kfe.1 hfq hfp (fun _ _ => arI_ne) kfe.2⟩
    have kou : Xc Ad ou _ uN.1 := ⟨kou.1, hF9 _ kou.1 hoq hop (fun _ _ => arJ_ne) kou.2⟩
    obtain ⟨G9, L9, o9, as9, f1, f2, f3, f4, f5⟩ := uN
    obtain ⟨hTy, hL, kq0, kpl, h16⟩ := hCW
    dsimp only at hTy hL kq0 kpl h16 hP hD kfe kou hQ9
    obtain ⟨io, hgo⟩ := List.getElem?_of_mem kou.2
    refine va_last hx hb hK hP hD hS io 2 hgo rfl (by unfold vp_in; decide) d_TrustChainLaw_listPart_8 (fun H8 locs hP hD2 hS => ?_)
    have hP : va_P (dC, dI) classes (G9.set io (ou, .inl (γ.2.2.1, 1, .inr (.inl (vp_updL ov (0 : Int32).toNatClampNeg r9))))) H8 := hP
    have hD : va_D A (G9.set io (ou, .inl (γ.2.2.1, 1, .inr (.inl (vp_updL ov (0 : Int32).toNatClampNeg r9))))) := hD2
    have hTy := TY.setX (c' := .inl (γ.2.2.1, 1, .inr (.inl (vp_updL ov (0 : Int32).toNatClampNeg r9)))) hTy hgo kou.1
    have kpl := PLx.setA (c' := .inl (γ.2.2.1, 1, .inr (.inl (vp_updL ov (0 : Int32).toNatClampNeg r9)))) kpl hgo
    have kq0 := Xc.setX (c' := .inl (γ.2.2.1, 1, .inr (.inl (vp_updL ov (0 : Int32).toNatClampNeg r9)))) kq0 hgo (fun e => by cases e)
    have kfe := Xc.setX (c' := .inl (γ.2.2.1, 1, .inr (.inl (vp_updL ov (0 : Int32).toNatClampNeg r9)))) kfe hgo (fun e => arI_ne (congrArg Prod.snd e))
    have kou : Xc Ad ou (.inl (γ.2.2.1, 1, .inr (.inl (vp_updL ov (0 : Int32).toNatClampNeg r9)))) (G9.set io (ou, .inl (γ.2.2.1, 1, .inr (.inl (vp_updL ov (0 : Int32).toNatClampNeg r9))))) := ⟨kou.1, List.mem_of_getElem? (set_here hgo)⟩
    refine lv_goto (tgt := 20) hx hb d_TrustChainLaw_listPart_9 (by decide) ?_
    refine lv_iconst (v := 0) hx hb d_TrustChainLaw_listPart_20 (by decide) ?_
    exact vx_ret (x_wide 1 6 (Nat.le_of_ble_eq_true rfl) (Nat.le_of_ble_eq_true rfl) (W.iret (v := 0) hx hb hr (fun t ht hW => ⟨⟨_, ((G9.set io (ou, .inl (γ.2.2.1, 1, .inr (.inl (vp_updL ov (0 : Int32).toNatClampNeg r9)))), L9, o9, as9, f1, f2, f3, f4, f5), (vp_updL ov (0 : Int32).toNatClampNeg r9)), rfl, ⟨⟨hC, ⟨hTy, hL, kq0, kpl, h16⟩, kfe, kou, hfq, hfp, hoq, hop⟩, Or.inl ⟨rfl, r9, hQ9, rfl⟩⟩, ⟨by rw [ht]; exact hP, va_K.moved hW.alike hK, hD⟩⟩, hS.F ht⟩) hS.2.2 d_TrustChainLaw_listPart_21))
set_option maxHeartbeats 4000000 in
set_option maxRecDepth 100000 in
theorem zl_chain (l : Launch) (hl0 : l.stackTraces = false) (dC : Nat → ClassId) (dI : Nat → Nat → Nat) (sb : sB) (γ : cG) (κ : kE) (Ad : List Nat) (ν : Nat → cN) (ω : Nat → List Nat) (L : Nat) (G : va_W) (fe ho ce li sh rs se ch fo q0 pl : Nat) (o : alD) (as : List Nat) (foS chS faP feS wrP : Int32) (ou : Nat) (fu : Nat → Nat) (ov : Nat → Int64) (i : Int32) (sz : Nat) (hLW : LWx γ sb κ Ad ν ω fe ho ce li sh rs se ch fo q0 pl ou fu ov (G, L, o, as, foS, chS, faP, feS, wrP))  : vx_Met l y_TrustChainLaw_chain w_TrustChainLaw_chain ({ frames := 8, cells := 1, slots := 6, locals := 150 }) (mx_P [.ref q0, .int i, .ref ou] (dC, dI) sb G [(γ.1, .byte), (γ.2.1, .int), (γ.2.2.1, .long), (γ.2.2.2, .object "java/lang/Object")] sz) (va_Qi (fun r (u' : cU × (Nat → Int64)) => LWx γ sb κ Ad ν ω fe ho ce li sh rs se ch fo q0 pl ou fu u'.2 u'.1 ∧ ((r = 0 ∧ ∃ r9 : Int32, (u'.1.2.2.2.2 = (foS, chS, faP, feS, wrP) ∧ ((¬ i < 0 ∧ i < foS ∧ i < 16) ∧ ∃ k9, k9 < 16 ∧ i = nI k9 ∧ r9 = nI ((ω fo).getD k9 0))) ∧ u'.2 = vp_updL ov 0 r9.toInt64) ∨ (∃ E : String, (u'.1.2.2.2.2 = (foS, chS, faP, feS, wrP) ∧ E = "java/lang/IndexOutOfBoundsException" ∧ ¬ (¬ i < 0 ∧ i < foS ∧ i < 16)) ∧ r = (if E = "java/lang/IllegalArgumentException" then 1 else 1) ∧ u'.2 = ov))) (mu_B (dC, dI) [(γ.1, .byte), (γ.2.1, .int), (γ.2.2.1, .long), (γ.2.2.2, .object "java/lang/Object")] (va_A G sz) (fun u' : cU × (Nat → Int64) => u'.1.1)) (va_A G sz)) (mx_X (fun (E : String) (u' : cU × (Nat → Int64)) => False) (dC, dI) [(γ.1, .byte), (γ.2.1, .int), (γ.2.2.1, .long), (γ.2.2.2, .object "java/lang/Object")] (va_A G sz) (fun u' : cU × (Nat → Int64) => u'.1.1)) 1 6 (va_A G sz) := by
  refine vx_ofWH (cc := b_TrustChainLaw_chain) (maxL := 4) (ret := (some FieldType.int)) (by decide) rfl ?_
  intro p e s m args below meth c s₁ B hml hv
  obtain ⟨rfl, hsz, hB0, hP, hK, hD0, hN, hT0, hTh⟩ := hv
  have hx := B.exec
  have hb := B.bytes
  have hr := B.returns
  have hts := atoms_spec (ws := w_TrustChainLaw_chain) B.pre
  have htab : c.exceptionTable.toList = tableOf [(0, 9, 12, 13)] := vx_table (x := y_TrustChainLaw_chain) B (hts _ List.mem_cons_self)
  have tbin : ∀ w ∈ tb, w ∈ w_TrustChainLaw_chain := fun w h => List.mem_cons_of_mem _ h
  have htb : ∀ w ∈ tb, w.before _ s = true := fun w h => hts w (tbin w h)
  have hown : s.vm.findClass "TrustChainLaw" = some m.cls := findClass_of_methodNamed B.named
  have hlocks := B.notSynchronized
  subst hsz
  have hD := hD0.self (sz := s.heap.size)
  generalize hAe : va_A G s.heap.size = A at hD ⊢
  have hA : ∀ q : Nat, s.heap.size ≤ q → A q := fun q h => by rw [← hAe]; exact Or.inr h
  have hAs : ∀ q : Nat, A q → sb.1 ≤ q := fun q h => by
    rw [← hAe] at h
    rcases h with ⟨k, e, h⟩ | h
    · exact hD0.2 k _ h
    · exact Nat.le_trans hB0 h
  have hS : va_S A s.heap s.heap [] := va_S.rf
  have hcs : 1 ≤ (headSpec w_TrustChainLaw_chain ({ frames := 8, cells := 1, slots := 6, locals := 150 })).room.cells ∧ 6 ≤ (headSpec w_TrustChainLaw_chain ({ frames := 8, cells := 1, slots := 6, locals := 150 })).room.slots := ⟨Nat.le_refl _, Nat.le_refl _⟩
  have hP : va_P (dC, dI) classes G s.heap := hP
  obtain ⟨hC, hW0, kfe, kou, hfq, hfp, hoq, hop⟩ := hLW
  dsimp only at kfe kou
  have kq0 := hW0.2.2.1
  dsimp only at kq0
  have hl := lv_entry ([.ref q0, .int i, .ref ou]) (n := 4) (Nat.le_of_ble_eq_true rfl)
  rw [lg_entry_eq]
  generalize (lg_sl ([.ref q0, .int i, .ref ou]) ++ List.replicate (4 - (lg_sl ([.ref q0, .int i, .ref ou])).length) Slot.unset).toArray = ls at hl ⊢
  have hl : lv_has ls 4 [(0, .ref q0), (1, .int i), (2, .ref ou)] := hl
  refine lv_aload_n hx hb d_TrustChainLaw_chain_0 rfl (lv_at hl 2 rfl) ?_
  refine lv_iconst (v := 0) hx hb d_TrustChainLaw_chain_1 (by decide) ?_
  refine lv_aload_n hx hb d_TrustChainLaw_chain_2 rfl (lv_at hl 0 rfl) ?_
  refine lv_iload_n hx hb d_TrustChainLaw_chain_3 rfl (lv_at hl 1 rfl) ?_
  obtain ⟨i_1, hg_1⟩ := List.getElem?_of_mem kq0.2
  have hFc := va_free (wc := G) hD hS hA (List.range G.length) (rg_is _)
  refine vx_calli (mx_runV (As := [.int i]) (rest := [.int 0, .ref ou]) ⟨hx, hb, hml, hown, hts⟩ tbin (z_Trust_chain l hl0 dC dI sb γ κ Ad ν ω L G fe ho ce li sh rs se ch fo q0 pl o as foS chS faP feS wrP i  s.heap.size hC hW0 ) q6_131 q6_132 q6_133 q1_1 q6_134 (n := 1) (by decide +kernel) rfl ⟨rfl, rfl⟩ ⟨Nat.le_of_ble_eq_true rfl, Nat.le_of_ble_eq_true rfl⟩ ⟨Nat.le_of_ble_eq_true rfl, Nat.le_of_ble_eq_true rfl⟩ (hTh.keep hS hAs) hN (hT0.keep hS hAs) hAs (Nat.le_trans hB0 hS.1) hK hP hD (List.range G.length) (rg_nd _) (rg_is _) [0, 1, 2, 3] rfl i_1 10 hg_1 rfl rfl hl.1 rfl (Nat.le_of_ble_eq_true rfl) d_TrustChainLaw_chain_4) hS (fun q _ h => hFc q h) hFc (fun q _ h => hFc q h) (fun E cx9 q9 uX tX HX locs ht hvm hpx hBX hz1 hk1 hS hce hcv hcl => ?_) (fun r9 uN tS H4 locs ht hvm hw9 hB hz1 hk1 hS => ?_)
  · obtain ⟨⟨hCW, hF9, hpx9⟩, hB⟩ := hBX
    obtain ⟨hP1, hK1, hD1⟩ := hB
    rw [ht] at hP1
    have hP : va_P (dC, dI) classes uX.1 HX := hP1
    have hD : va_D A uX.1 := hD1.weaken (fun _ _ _ h => hFc _ h)
    have kfe : Xc Ad fe _ uX.1 := ⟨kfe.1, hF9 _ kfe.1 hfq hfp (fun _ _ => arI_ne) kfe.2⟩
    have kou : Xc Ad ou _ uX.1 := ⟨kou.1, hF9 _ kou.1 hoq hop (fun _ _ => arJ_ne) kou.2⟩
    have hE : E = "java/lang/IndexOutOfBoundsException" := hpx9.2.1
    subst hE
    refine vx_catch hown [] ⟨0, 9, 12, 13⟩ [] htab (fun z h => nomatch h) (by decide) (by decide) (htb _ q1_206) (va_Nw.use rfl (hN.1 _ qn1_213)) hce hcv hcl ?_
    refine lv_astore_n (lv' := [(3, .ref q9), (0, .ref q0), (1, .int i), (2, .ref ou)]) hx hb d_TrustChainLaw_chain_12 rfl hl (by decide) rfl (fun ls hl => ?_)
    refine lv_iconst (v := 1) hx hb d_TrustChainLaw_chain_13 (by decide) ?_
    exact vx_ret (x_wide 1 6 (Nat.le_of_ble_eq_true rfl) (Nat.le_of_ble_eq_true rfl) (W.iret (v := 1) hx hb hr (fun t ht hW => ⟨⟨_, (uX, ov), rfl, ⟨⟨hC, hCW, kfe, kou, hfq, hfp, hoq, hop⟩, Or.inr ⟨_, hpx9, (if_neg (by decide)).symm, rfl⟩⟩, ⟨by rw [ht]; exact hP, va_K.moved hW.alike hK, hD⟩⟩, hS.F ht⟩) hS.2.2 d_TrustChainLaw_chain_14))
  · obtain ⟨hP1, hK1, hD1⟩ := hB
    rw [ht] at hP1
    have hP : va_P (dC, dI) classes uN.1 H4 := hP1
    have hD : va_D A uN.1 := hD1.weaken (fun _ _ _ h => hFc _ h)
    obtain ⟨hCW, hF9, hQ9⟩ := hw9
    have kfe : Xc Ad fe _ uN.1 := ⟨kfe.1, hF9 _ kfe.1 hfq hfp (fun _ _ => arI_ne) kfe.2⟩
    have kou : Xc Ad ou _ uN.1 := ⟨kou.1, hF9 _ kou.1 hoq hop (fun _ _ => arJ_ne) kou.2⟩
    obtain ⟨G9, L9, o9, as9, f1, f2, f3, f4, f5⟩ := uN
    obtain ⟨hTy, hL, kq0, kpl, h16⟩ := hCW
    dsimp only at hTy hL kq0 kpl h16 hP hD kfe kou hQ9
    refine lv_i2l (v := r9.toInt64) hx hb d_TrustChainLaw_chain_7 rfl ?_
    obtain ⟨io, hgo⟩ := List.getElem?_of_mem kou.2
    refine va_last hx hb hK hP hD hS io 2 hgo rfl (by unfold vp_in; decide) d_TrustChainLaw_chain_8 (fun H8 locs hP hD2 hS => ?_)
    have hP : va_P (dC, dI) classes (G9.set io (ou, .inl (γ.2.2.1, 1, .inr (.inl (vp_updL ov (0 : Int32).toNatClampNeg r9.toInt64))))) H8 := hP
    have hD : va_D A (G9.set io (ou, .inl (γ.2.2.1, 1, .inr (.inl (vp_updL ov (0 : Int32).toNatClampNeg r9.toInt64))))) := hD2
    have hTy := TY.setX (c' := .inl (γ.2.2.1, 1, .inr (.inl (vp_updL ov (0 : Int32).toNatClampNeg r9.toInt64)))) hTy hgo kou.1
    have kpl := PLx.setA (c' := .inl (γ.2.2.1, 1, .inr (.inl (vp_updL ov (0 : Int32).toNatClampNeg r9.toInt64)))) kpl hgo
    have kq0 := Xc.setX (c' := .inl (γ.2.2.1, 1, .inr (.inl (vp_updL ov (0 : Int32).toNatClampNeg r9.toInt64)))) kq0 hgo (fun e => by cases e)
    have kfe := Xc.setX (c' := .inl (γ.2.2.1, 1, .inr (.inl (vp_updL ov (0 : Int32).toNatClampNeg r9.toInt64)))) kfe hgo (fun e => arI_ne (congrArg Prod.snd e))
    have kou : Xc Ad ou (.inl (γ.2.2.1, 1, .inr (.inl (vp_updL ov (0 : Int32).toNatClampNeg r9.toInt64)))) (G9.set io (ou, .inl (γ.2.2.1, 1, .inr (.inl (vp_updL ov (0 : Int32).toNatClampNeg r9.toInt64))))) := ⟨kou.1, List.mem_of_getElem? (set_here hgo)⟩
    refine lv_goto (tgt := 15) hx hb d_TrustChainLaw_chain_9 (by decide) ?_
    refine lv_iconst (v := 0) hx hb d_TrustChainLaw_chain_15 (by decide) ?_
    exact vx_ret (x_wide 1 6 (Nat.le_of_ble_eq_true rfl) (Nat.le_of_ble_eq_true rfl) (W.iret (v := 0) hx hb hr (fun t ht hW => ⟨⟨_, ((G9.set io (ou, .inl (γ.2.2.1, 1, .inr (.inl (vp_updL ov (0 : Int32).toNatClampNeg r9.toInt64)))), L9, o9, as9, f1, f2, f3, f4, f5), (vp_updL ov (0 : Int32).toNatClampNeg r9.toInt64)), rfl, ⟨⟨hC, ⟨hTy, hL, kq0, kpl, h16⟩, kfe, kou, hfq, hfp, hoq, hop⟩, Or.inl ⟨rfl, r9, hQ9, rfl⟩⟩, ⟨by rw [ht]; exact hP, va_K.moved hW.alike hK, hD⟩⟩, hS.F ht⟩) hS.2.2 d_TrustChainLaw_chain_16))
set_option maxHeartbeats 4000000 in
set_option maxRecDepth 100000 in
theorem zl_count (l : Launch) (hl0 : l.stackTraces = false) (dC : Nat → ClassId) (dI : Nat → Nat → Nat) (sb : sB) (γ : cG) (κ : kE) (Ad : List Nat) (ν : Nat → cN) (ω : Nat → List Nat) (L : Nat) (G : va_W) (fe ho ce li sh rs se ch fo q0 pl : Nat) (o : alD) (as : List Nat) (foS chS faP feS wrP : Int32) (ou : Nat) (fu : Nat → Nat) (ov : Nat → Int64) (i : Int32) (sz : Nat) (hLW : LWx γ sb κ Ad ν ω fe ho ce li sh rs se ch fo q0 pl ou fu ov (G, L, o, as, foS, chS, faP, feS, wrP))  : vx_Met l y_TrustChainLaw_count w_TrustChainLaw_count ({ frames := 8, cells := 1, slots := 6, locals := 150 }) (mx_P [.ref q0, .int i, .ref ou] (dC, dI) sb G [(γ.1, .byte), (γ.2.1, .int), (γ.2.2.1, .long), (γ.2.2.2, .object "java/lang/Object")] sz) (va_Qi (fun r (u' : cU × (Nat → Int64)) => LWx γ sb κ Ad ν ω fe ho ce li sh rs se ch fo q0 pl ou fu u'.2 u'.1 ∧ ((r = 0 ∧ ∃ r9 : Int32, (u'.1.2.2.2.2 = (foS, chS, faP, feS, wrP) ∧ cntI (ω ce).length (ω li).length chS faP feS i = some r9) ∧ u'.2 = vp_updL ov 0 r9.toInt64) ∨ (∃ E : String, (u'.1.2.2.2.2 = (foS, chS, faP, feS, wrP) ∧ E = "java/lang/IllegalArgumentException" ∧ cntI (ω ce).length (ω li).length chS faP feS i = none) ∧ r = (if E = "java/lang/IllegalArgumentException" then 1 else 1) ∧ u'.2 = ov))) (mu_B (dC, dI) [(γ.1, .byte), (γ.2.1, .int), (γ.2.2.1, .long), (γ.2.2.2, .object "java/lang/Object")] (va_A G sz) (fun u' : cU × (Nat → Int64) => u'.1.1)) (va_A G sz)) (mx_X (fun (E : String) (u' : cU × (Nat → Int64)) => False) (dC, dI) [(γ.1, .byte), (γ.2.1, .int), (γ.2.2.1, .long), (γ.2.2.2, .object "java/lang/Object")] (va_A G sz) (fun u' : cU × (Nat → Int64) => u'.1.1)) 1 6 (va_A G sz) := by
  refine vx_ofWH (cc := b_TrustChainLaw_count) (maxL := 4) (ret := (some FieldType.int)) (by decide) rfl ?_
  intro p e s m args below meth c s₁ B hml hv
  obtain ⟨rfl, hsz, hB0, hP, hK, hD0, hN, hT0, hTh⟩ := hv
  have hx := B.exec
  have hb := B.bytes
  have hr := B.returns
  have hts := atoms_spec (ws := w_TrustChainLaw_count) B.pre
  have htab : c.exceptionTable.toList = tableOf [(0, 9, 12, 19)] := vx_table (x := y_TrustChainLaw_count) B (hts _ List.mem_cons_self)
  have tbin : ∀ w ∈ tb, w ∈ w_TrustChainLaw_count := fun w h => List.mem_cons_of_mem _ h
  have htb : ∀ w ∈ tb, w.before _ s = true := fun w h => hts w (tbin w h)
  have hown : s.vm.findClass "TrustChainLaw" = some m.cls := findClass_of_methodNamed B.named
  have hlocks := B.notSynchronized
  subst hsz
  have hD := hD0.self (sz := s.heap.size)
  generalize hAe : va_A G s.heap.size = A at hD ⊢
  have hA : ∀ q : Nat, s.heap.size ≤ q → A q := fun q h => by rw [← hAe]; exact Or.inr h
  have hAs : ∀ q : Nat, A q → sb.1 ≤ q := fun q h => by
    rw [← hAe] at h
    rcases h with ⟨k, e, h⟩ | h
    · exact hD0.2 k _ h
    · exact Nat.le_trans hB0 h
  have hS : va_S A s.heap s.heap [] := va_S.rf
  have hcs : 1 ≤ (headSpec w_TrustChainLaw_count ({ frames := 8, cells := 1, slots := 6, locals := 150 })).room.cells ∧ 6 ≤ (headSpec w_TrustChainLaw_count ({ frames := 8, cells := 1, slots := 6, locals := 150 })).room.slots := ⟨Nat.le_refl _, Nat.le_refl _⟩
  have hP : va_P (dC, dI) classes G s.heap := hP
  obtain ⟨hC, hW0, kfe, kou, hfq, hfp, hoq, hop⟩ := hLW
  dsimp only at kfe kou
  have kq0 := hW0.2.2.1
  dsimp only at kq0
  have hl := lv_entry ([.ref q0, .int i, .ref ou]) (n := 4) (Nat.le_of_ble_eq_true rfl)
  rw [lg_entry_eq]
  generalize (lg_sl ([.ref q0, .int i, .ref ou]) ++ List.replicate (4 - (lg_sl ([.ref q0, .int i, .ref ou])).length) Slot.unset).toArray = ls at hl ⊢
  have hl : lv_has ls 4 [(0, .ref q0), (1, .int i), (2, .ref ou)] := hl
  refine lv_aload_n hx hb d_TrustChainLaw_count_0 rfl (lv_at hl 2 rfl) ?_
  refine lv_iconst (v := 0) hx hb d_TrustChainLaw_count_1 (by decide) ?_
  refine lv_aload_n hx hb d_TrustChainLaw_count_2 rfl (lv_at hl 0 rfl) ?_
  refine lv_iload_n hx hb d_TrustChainLaw_count_3 rfl (lv_at hl 1 rfl) ?_
  obtain ⟨i_1, hg_1⟩ := List.getElem?_of_mem kq0.2
  have hFc := va_free (wc := G) hD hS hA (List.range G.length) (rg_is _)
  refine vx_calli (mx_runV (As := [.int i]) (rest := [.int 0, .ref ou]) ⟨hx, hb, hml, hown, hts⟩ tbin (z_Trust_count l hl0 dC dI sb γ κ Ad ν ω L G fe ho ce li sh rs se ch fo q0 pl o as foS chS faP feS wrP i  s.heap.size hC hW0 ) q6_139 q6_140 q6_141 q1_1 q6_142 (n := 1) (by decide +kernel) rfl ⟨rfl, rfl⟩ ⟨Nat.le_of_ble_eq_true rfl, Nat.le_of_ble_eq_true rfl⟩ ⟨Nat.le_of_ble_eq_true rfl, Nat.le_of_ble_eq_true rfl⟩ (hTh.keep hS hAs) hN (hT0.keep hS hAs) hAs (Nat.le_trans hB0 hS.1) hK hP hD (List.range G.length) (rg_nd _) (rg_is _) [0, 1, 2, 3] rfl i_1 10 hg_1 rfl rfl hl.1 rfl (Nat.le_of_ble_eq_true rfl) d_TrustChainLaw_count_4) hS (fun q _ h => hFc q h) hFc (fun q _ h => hFc q h) (fun E cx9 q9 uX tX HX locs ht hvm hpx hBX hz1 hk1 hS hce hcv hcl => ?_) (fun r9 uN tS H4 locs ht hvm hw9 hB hz1 hk1 hS => ?_)
  · obtain ⟨⟨hCW, hF9, hpx9⟩, hB⟩ := hBX
    obtain ⟨hP1, hK1, hD1⟩ := hB
    rw [ht] at hP1
    have hP : va_P (dC, dI) classes uX.1 HX := hP1
    have hD : va_D A uX.1 := hD1.weaken (fun _ _ _ h => hFc _ h)
    have kfe : Xc Ad fe _ uX.1 := ⟨kfe.1, hF9 _ kfe.1 hfq hfp (fun _ _ => arI_ne) kfe.2⟩
    have kou : Xc Ad ou _ uX.1 := ⟨kou.1, hF9 _ kou.1 hoq hop (fun _ _ => arJ_ne) kou.2⟩
    have hE : E = "java/lang/IllegalArgumentException" := hpx9.2.1
    subst hE
    refine vx_catch hown [] ⟨0, 9, 12, 19⟩ [] htab (fun z h => nomatch h) (by decide) (by decide) (htb _ q2_44) (va_Nw.use rfl (hN.1 _ qn4_235)) hce hcv hcl ?_
    refine lv_astore_n (lv' := [(3, .ref q9), (0, .ref q0), (1, .int i), (2, .ref ou)]) hx hb d_TrustChainLaw_count_12 rfl hl (by decide) rfl (fun ls hl => ?_)
    refine lv_iconst (v := 1) hx hb d_TrustChainLaw_count_13 (by decide) ?_
    exact vx_ret (x_wide 1 6 (Nat.le_of_ble_eq_true rfl) (Nat.le_of_ble_eq_true rfl) (W.iret (v := 1) hx hb hr (fun t ht hW => ⟨⟨_, (uX, ov), rfl, ⟨⟨hC, hCW, kfe, kou, hfq, hfp, hoq, hop⟩, Or.inr ⟨_, hpx9, (if_pos rfl).symm, rfl⟩⟩, ⟨by rw [ht]; exact hP, va_K.moved hW.alike hK, hD⟩⟩, hS.F ht⟩) hS.2.2 d_TrustChainLaw_count_14))
  · obtain ⟨hP1, hK1, hD1⟩ := hB
    rw [ht] at hP1
    have hP : va_P (dC, dI) classes uN.1 H4 := hP1
    have hD : va_D A uN.1 := hD1.weaken (fun _ _ _ h => hFc _ h)
    obtain ⟨hCW, hF9, hQ9⟩ := hw9
    have kfe : Xc Ad fe _ uN.1 := ⟨kfe.1, hF9 _ kfe.1 hfq hfp (fun _ _ => arI_ne) kfe.2⟩
    have kou : Xc Ad ou _ uN.1 := ⟨kou.1, hF9 _ kou.1 hoq hop (fun _ _ => arJ_ne) kou.2⟩
    obtain ⟨G9, L9, o9, as9, f1, f2, f3, f4, f5⟩ := uN
    obtain ⟨hTy, hL, kq0, kpl, h16⟩ := hCW
    dsimp only at hTy hL kq0 kpl h16 hP hD kfe kou hQ9
    refine lv_i2l (v := r9.toInt64) hx hb d_TrustChainLaw_count_7 rfl ?_
    obtain ⟨io, hgo⟩ := List.getElem?_of_mem kou.2
    refine va_last hx hb hK hP hD hS io 2 hgo rfl (by unfold vp_in; decide) d_TrustChainLaw_count_8 (fun H8 locs hP hD2 hS => ?_)
    have hP : va_P (dC, dI) classes (G9.set io (ou, .inl (γ.2.2.1, 1, .inr (.inl (vp_updL ov (0 : Int32).toNatClampNeg r9.toInt64))))) H8 := hP
    have hD : va_D A (G9.set io (ou, .inl (γ.2.2.1, 1, .inr (.inl (vp_updL ov (0 : Int32).toNatClampNeg r9.toInt64))))) := hD2
    have hTy := TY.setX (c' := .inl (γ.2.2.1, 1, .inr (.inl (vp_updL ov (0 : Int32).toNatClampNeg r9.toInt64)))) hTy hgo kou.1
    have kpl := PLx.setA (c' := .inl (γ.2.2.1, 1, .inr (.inl (vp_updL ov (0 : Int32).toNatClampNeg r9.toInt64)))) kpl hgo
    have kq0 := Xc.setX (c' := .inl (γ.2.2.1, 1, .inr (.inl (vp_updL ov (0 : Int32).toNatClampNeg r9.toInt64)))) kq0 hgo (fun e => by cases e)
    have kfe := Xc.setX (c' := .inl (γ.2.2.1, 1, .inr (.inl (vp_updL ov (0 : Int32).toNatClampNeg r9.toInt64)))) kfe hgo (fun e => arI_ne (congrArg Prod.snd e))
    have kou : Xc Ad ou (.inl (γ.2.2.1, 1, .inr (.inl (vp_updL ov (0 : Int32).toNatClampNeg r9.toInt64)))) (G9.set io (ou, .inl (γ.2.2.1, 1, .inr (.inl (vp_updL ov (0 : Int32).toNatClampNeg r9.toInt64))))) := ⟨kou.1, List.mem_of_getElem? (set_here hgo)⟩
    refine lv_goto (tgt := 15) hx hb d_TrustChainLaw_count_9 (by decide) ?_
    refine lv_iconst (v := 0) hx hb d_TrustChainLaw_count_15 (by decide) ?_
    exact vx_ret (x_wide 1 6 (Nat.le_of_ble_eq_true rfl) (Nat.le_of_ble_eq_true rfl) (W.iret (v := 0) hx hb hr (fun t ht hW => ⟨⟨_, ((G9.set io (ou, .inl (γ.2.2.1, 1, .inr (.inl (vp_updL ov (0 : Int32).toNatClampNeg r9.toInt64)))), L9, o9, as9, f1, f2, f3, f4, f5), (vp_updL ov (0 : Int32).toNatClampNeg r9.toInt64)), rfl, ⟨⟨hC, ⟨hTy, hL, kq0, kpl, h16⟩, kfe, kou, hfq, hfp, hoq, hop⟩, Or.inl ⟨rfl, r9, hQ9, rfl⟩⟩, ⟨by rw [ht]; exact hP, va_K.moved hW.alike hK, hD⟩⟩, hS.F ht⟩) hS.2.2 d_TrustChainLaw_count_16))
set_option maxHeartbeats 4000000 in
set_option maxRecDepth 100000 in
theorem zl_signed (l : Launch) (hl0 : l.stackTraces = false) (dC : Nat → ClassId) (dI : Nat → Nat → Nat) (sb : sB) (γ : cG) (κ : kE) (Ad : List Nat) (ν : Nat → cN) (ω : Nat → List Nat) (L : Nat) (G : va_W) (fe ho ce li sh rs se ch fo q0 pl : Nat) (o : alD) (as : List Nat) (foS chS faP feS wrP : Int32) (ou : Nat) (fu : Nat → Nat) (ov : Nat → Int64) (b i j : Int32) (sz : Nat) (hLW : LWx γ sb κ Ad ν ω fe ho ce li sh rs se ch fo q0 pl ou fu ov (G, L, o, as, foS, chS, faP, feS, wrP)) (hX : XC κ Ad ν ω) : vx_Met l y_TrustChainLaw_signed w_TrustChainLaw_signed ({ frames := 8, cells := 1, slots := 6, locals := 150 }) (mx_P [.ref q0, .int b, .int i, .int j, .ref ou] (dC, dI) sb G [(γ.1, .byte), (γ.2.1, .int), (γ.2.2.1, .long), (γ.2.2.2, .object "java/lang/Object")] sz) (va_Qi (fun r (u' : cU × (Nat → Int64)) => LWx γ sb κ Ad ν ω fe ho ce li sh rs se ch fo q0 pl ou fu u'.2 u'.1 ∧ ((r = 0 ∧ ∃ r9 : Int32, (u'.1.2.2.2.2 = (foS, chS, faP, feS, wrP) ∧ ∃ k k2 : Nat, i = nI k ∧ j = nI k2 ∧ k2 < (ω ce).length ∧ ((b = 0 ∧ k < (ω ce).length ∧ bz r9 (SGX κ ν ω ((ω ce).getD k 0) ((ω ce).getD k2 0))) ∨ (¬ b = 0 ∧ k < (ω li).length ∧ bz r9 (SGX κ ν ω ((ω li).getD k 0) ((ω ce).getD k2 0))))) ∧ u'.2 = vp_updL ov 0 (if r9 = 0 then 0 else 1)) ∨ (∃ E : String, (u'.1.2.2.2.2 = (foS, chS, faP, feS, wrP) ∧ E = "java/lang/IndexOutOfBoundsException" ∧ ¬ ((¬ j < 0 ∧ j < nI (ω ce).length) ∧ (¬ b = 0 → (¬ i < 0 ∧ i < nI (ω li).length)) ∧ (b = 0 → (¬ i < 0 ∧ i < nI (ω ce).length)))) ∧ r = (if E = "java/lang/IllegalArgumentException" then 1 else 1) ∧ u'.2 = ov))) (mu_B (dC, dI) [(γ.1, .byte), (γ.2.1, .int), (γ.2.2.1, .long), (γ.2.2.2, .object "java/lang/Object")] (va_A G sz) (fun u' : cU × (Nat → Int64) => u'.1.1)) (va_A G sz)) (mx_X (fun (E : String) (u' : cU × (Nat → Int64)) => False) (dC, dI) [(γ.1, .byte), (γ.2.1, .int), (γ.2.2.1, .long), (γ.2.2.2, .object "java/lang/Object")] (va_A G sz) (fun u' : cU × (Nat → Int64) => u'.1.1)) 1 6 (va_A G sz) := by
  refine vx_ofWH (cc := b_TrustChainLaw_signed) (maxL := 6) (ret := (some FieldType.int)) (by decide) rfl ?_
  intro p e s m args below meth c s₁ B hml hv
  obtain ⟨rfl, hsz, hB0, hP, hK, hD0, hN, hT0, hTh⟩ := hv
  have hx := B.exec
  have hb := B.bytes
  have hr := B.returns
  have hts := atoms_spec (ws := w_TrustChainLaw_signed) B.pre
  have htab : c.exceptionTable.toList = tableOf [(0, 19, 22, 13)] := vx_table (x := y_TrustChainLaw_signed) B (hts _ List.mem_cons_self)
  have tbin : ∀ w ∈ tb, w ∈ w_TrustChainLaw_signed := fun w h => List.mem_cons_of_mem _ h
  have htb : ∀ w ∈ tb, w.before _ s = true := fun w h => hts w (tbin w h)
  have hown : s.vm.findClass "TrustChainLaw" = some m.cls := findClass_of_methodNamed B.named
  have hlocks := B.notSynchronized
  subst hsz
  have hD := hD0.self (sz := s.heap.size)
  generalize hAe : va_A G s.heap.size = A at hD ⊢
  have hA : ∀ q : Nat, s.heap.size ≤ q → A q := fun q h => by rw [← hAe]; exact Or.inr h
  have hAs : ∀ q : Nat, A q → sb.1 ≤ q := fun q h => by
    rw [← hAe] at h
    rcases h with ⟨k, e, h⟩ | h
    · exact hD0.2 k _ h
    · exact Nat.le_trans hB0 h
  have hS : va_S A s.heap s.heap [] := va_S.rf
  have hcs : 1 ≤ (headSpec w_TrustChainLaw_signed ({ frames := 8, cells := 1, slots := 6, locals := 150 })).room.cells ∧ 6 ≤ (headSpec w_TrustChainLaw_signed ({ frames := 8, cells := 1, slots := 6, locals := 150 })).room.slots := ⟨Nat.le_refl _, Nat.le_refl _⟩
  have hP : va_P (dC, dI) classes G s.heap := hP
  obtain ⟨hC, hW0, kfe, kou, hfq, hfp, hoq, hop⟩ := hLW
  dsimp only at kfe kou
  have kq0 := hW0.2.2.1
  dsimp only at kq0
  have hl := lv_entry ([.ref q0, .int b, .int i, .int j, .ref ou]) (n := 6) (Nat.le_of_ble_eq_true rfl)
  rw [lg_entry_eq]
  generalize (lg_sl ([.ref q0, .int b, .int i, .int j, .ref ou]) ++ List.replicate (6 - (lg_sl ([.ref q0, .int b, .int i, .int j, .ref ou])).length) Slot.unset).toArray = ls at hl ⊢
  have hl : lv_has ls 6 [(0, .ref q0), (1, .int b), (2, .int i), (3, .int j), (4, .ref ou)] := hl
  refine lv_aload hx hb d_TrustChainLaw_signed_0 (lv_at hl 4 rfl) ?_
  refine lv_iconst (v := 0) hx hb d_TrustChainLaw_signed_2 (by decide) ?_
  refine lv_aload_n hx hb d_TrustChainLaw_signed_3 rfl (lv_at hl 0 rfl) ?_
  refine lv_iload_n hx hb d_TrustChainLaw_signed_4 rfl (lv_at hl 1 rfl) ?_
  refine lv_iload_n hx hb d_TrustChainLaw_signed_5 rfl (lv_at hl 2 rfl) ?_
  refine lv_iload_n hx hb d_TrustChainLaw_signed_6 rfl (lv_at hl 3 rfl) ?_
  obtain ⟨i_1, hg_1⟩ := List.getElem?_of_mem kq0.2
  have hFc := va_free (wc := G) hD hS hA (List.range G.length) (rg_is _)
  refine vx_calli (mx_runV (As := [.int b, .int i, .int j]) (rest := [.int 0, .ref ou]) ⟨hx, hb, hml, hown, hts⟩ tbin (z_Trust_signed l hl0 dC dI sb γ κ Ad ν ω L G fe ho ce li sh rs se ch fo q0 pl o as foS chS faP feS wrP b i j  s.heap.size hC hW0 hX) q5_171 q5_172 q5_173 q1_1 q5_174 (n := 3) (by decide +kernel) rfl ⟨rfl, rfl⟩ ⟨Nat.le_of_ble_eq_true rfl, Nat.le_of_ble_eq_true rfl⟩ ⟨Nat.le_of_ble_eq_true rfl, Nat.le_of_ble_eq_true rfl⟩ (hTh.keep hS hAs) hN (hT0.keep hS hAs) hAs (Nat.le_trans hB0 hS.1) hK hP hD (List.range G.length) (rg_nd _) (rg_is _) [0, 1, 2, 3] rfl i_1 10 hg_1 rfl rfl hl.1 rfl (Nat.le_of_ble_eq_true rfl) d_TrustChainLaw_signed_7) hS (fun q _ h => hFc q h) hFc (fun q _ h => hFc q h) (fun E cx9 q9 uX tX HX locs ht hvm hpx hBX hz1 hk1 hS hce hcv hcl => ?_) (fun r9 uN tS H7 locs ht hvm hw9 hB hz1 hk1 hS => ?_)
  · obtain ⟨⟨hCW, hF9, hpx9⟩, hB⟩ := hBX
    obtain ⟨hP1, hK1, hD1⟩ := hB
    rw [ht] at hP1
    have hP : va_P (dC, dI) classes uX.1 HX := hP1
    have hD : va_D A uX.1 := hD1.weaken (fun _ _ _ h => hFc _ h)
    have kfe : Xc Ad fe _ uX.1 := ⟨kfe.1, hF9 _ kfe.1 hfq hfp (fun _ _ => arI_ne) kfe.2⟩
    have kou : Xc Ad ou _ uX.1 := ⟨kou.1, hF9 _ kou.1 hoq hop (fun _ _ => arJ_ne) kou.2⟩
    have hE : E = "java/lang/IndexOutOfBoundsException" := hpx9.2.1
    subst hE
    refine vx_catch hown [] ⟨0, 19, 22, 13⟩ [] htab (fun z h => nomatch h) (by decide) (by decide) (htb _ q1_206) (va_Nw.use rfl (hN.1 _ qn1_213)) hce hcv hcl ?_
    refine lv_astore (lv' := [(5, .ref q9), (0, .ref q0), (1, .int b), (2, .int i), (3, .int j), (4, .ref ou)]) hx hb d_TrustChainLaw_signed_22 hl (by decide) rfl (fun ls hl => ?_)
    refine lv_iconst (v := 1) hx hb d_TrustChainLaw_signed_24 (by decide) ?_
    exact vx_ret (x_wide 1 6 (Nat.le_of_ble_eq_true rfl) (Nat.le_of_ble_eq_true rfl) (W.iret (v := 1) hx hb hr (fun t ht hW => ⟨⟨_, (uX, ov), rfl, ⟨⟨hC, hCW, kfe, kou, hfq, hfp, hoq, hop⟩, Or.inr ⟨_, hpx9, (if_neg (by decide)).symm, rfl⟩⟩, ⟨by rw [ht]; exact hP, va_K.moved hW.alike hK, hD⟩⟩, hS.F ht⟩) hS.2.2 d_TrustChainLaw_signed_25))
  · obtain ⟨hP1, hK1, hD1⟩ := hB
    rw [ht] at hP1
    have hP : va_P (dC, dI) classes uN.1 H7 := hP1
    have hD : va_D A uN.1 := hD1.weaken (fun _ _ _ h => hFc _ h)
    obtain ⟨hCW, hF9, hQ9⟩ := hw9
    have kfe : Xc Ad fe _ uN.1 := ⟨kfe.1, hF9 _ kfe.1 hfq hfp (fun _ _ => arI_ne) kfe.2⟩
    have kou : Xc Ad ou _ uN.1 := ⟨kou.1, hF9 _ kou.1 hoq hop (fun _ _ => arJ_ne) kou.2⟩
    obtain ⟨G9, L9, o9, as9, f1, f2, f3, f4, f5⟩ := uN
    obtain ⟨hTy, hL, kq0, kpl, h16⟩ := hCW
    dsimp only at hTy hL kq0 kpl h16 hP hD kfe kou hQ9
    refine lv_if_eq (tgt := 17) hx hb d_TrustChainLaw_signed_10 (by decide) (fun c10 => ?_) (fun c10 => ?_)
    · have p10 : r9 = (0 : Int32) := c10
      refine lv_lconst (v := 0) hx hb d_TrustChainLaw_signed_17 (by decide) ?_
      obtain ⟨io, hgo⟩ := List.getElem?_of_mem kou.2
      refine va_last hx hb hK hP hD hS io 2 hgo rfl (by unfold vp_in; decide) d_TrustChainLaw_signed_18 (fun H18 locs hP hD2 hS => ?_)
      have hP : va_P (dC, dI) classes (G9.set io (ou, .inl (γ.2.2.1, 1, .inr (.inl (vp_updL ov (0 : Int32).toNatClampNeg (0 : Int64)))))) H18 := hP
      have hD : va_D A (G9.set io (ou, .inl (γ.2.2.1, 1, .inr (.inl (vp_updL ov (0 : Int32).toNatClampNeg (0 : Int64)))))) := hD2
      have hTy := TY.setX (c' := .inl (γ.2.2.1, 1, .inr (.inl (vp_updL ov (0 : Int32).toNatClampNeg (0 : Int64))))) hTy hgo kou.1
      have kpl := PLx.setA (c' := .inl (γ.2.2.1, 1, .inr (.inl (vp_updL ov (0 : Int32).toNatClampNeg (0 : Int64))))) kpl hgo
      have kq0 := Xc.setX (c' := .inl (γ.2.2.1, 1, .inr (.inl (vp_updL ov (0 : Int32).toNatClampNeg (0 : Int64))))) kq0 hgo (fun e => by cases e)
      have kfe := Xc.setX (c' := .inl (γ.2.2.1, 1, .inr (.inl (vp_updL ov (0 : Int32).toNatClampNeg (0 : Int64))))) kfe hgo (fun e => arI_ne (congrArg Prod.snd e))
      have kou : Xc Ad ou (.inl (γ.2.2.1, 1, .inr (.inl (vp_updL ov (0 : Int32).toNatClampNeg (0 : Int64))))) (G9.set io (ou, .inl (γ.2.2.1, 1, .inr (.inl (vp_updL ov (0 : Int32).toNatClampNeg (0 : Int64)))))) := ⟨kou.1, List.mem_of_getElem? (set_here hgo)⟩
      refine lv_goto (tgt := 26) hx hb d_TrustChainLaw_signed_19 (by decide) ?_
      refine lv_iconst (v := 0) hx hb d_TrustChainLaw_signed_26 (by decide) ?_
      exact vx_ret (x_wide 1 6 (Nat.le_of_ble_eq_true rfl) (Nat.le_of_ble_eq_true rfl) (W.iret (v := 0) hx hb hr (fun t ht hW => ⟨⟨_, ((G9.set io (ou, .inl (γ.2.2.1, 1, .inr (.inl (vp_updL ov (0 : Int32).toNatClampNeg (0 : Int64))))), L9, o9, as9, f1, f2, f3, f4, f5), (vp_updL ov (0 : Int32).toNatClampNeg (0 : Int64))), rfl, ⟨⟨hC, ⟨hTy, hL, kq0, kpl, h16⟩, kfe, kou, hfq, hfp, hoq, hop⟩, Or.inl ⟨rfl, r9, hQ9, by rw [if_pos p10]; rfl⟩⟩, ⟨by rw [ht]; exact hP, va_K.moved hW.alike hK, hD⟩⟩, hS.F ht⟩) hS.2.2 d_TrustChainLaw_signed_27))
    · have p10 : ¬ (r9 = (0 : Int32)) := c10
      refine lv_lconst (v := 1) hx hb d_TrustChainLaw_signed_13 (by decide) ?_
      refine lv_goto (tgt := 18) hx hb d_TrustChainLaw_signed_14 (by decide) ?_
      obtain ⟨io, hgo⟩ := List.getElem?_of_mem kou.2
      refine va_last hx hb hK hP hD hS io 2 hgo rfl (by unfold vp_in; decide) d_TrustChainLaw_signed_18 (fun H18 locs hP hD2 hS => ?_)
      have hP : va_P (dC, dI) classes (G9.set io (ou, .inl (γ.2.2.1, 1, .inr (.inl (vp_updL ov (0 : Int32).toNatClampNeg (1 : Int64)))))) H18 := hP
      have hD : va_D A (G9.set io (ou, .inl (γ.2.2.1, 1, .inr (.inl (vp_updL ov (0 : Int32).toNatClampNeg (1 : Int64)))))) := hD2
      have hTy := TY.setX (c' := .inl (γ.2.2.1, 1, .inr (.inl (vp_updL ov (0 : Int32).toNatClampNeg (1 : Int64))))) hTy hgo kou.1
      have kpl := PLx.setA (c' := .inl (γ.2.2.1, 1, .inr (.inl (vp_updL ov (0 : Int32).toNatClampNeg (1 : Int64))))) kpl hgo
      have kq0 := Xc.setX (c' := .inl (γ.2.2.1, 1, .inr (.inl (vp_updL ov (0 : Int32).toNatClampNeg (1 : Int64))))) kq0 hgo (fun e => by cases e)
      have kfe := Xc.setX (c' := .inl (γ.2.2.1, 1, .inr (.inl (vp_updL ov (0 : Int32).toNatClampNeg (1 : Int64))))) kfe hgo (fun e => arI_ne (congrArg Prod.snd e))
      have kou : Xc Ad ou (.inl (γ.2.2.1, 1, .inr (.inl (vp_updL ov (0 : Int32).toNatClampNeg (1 : Int64))))) (G9.set io (ou, .inl (γ.2.2.1, 1, .inr (.inl (vp_updL ov (0 : Int32).toNatClampNeg (1 : Int64)))))) := ⟨kou.1, List.mem_of_getElem? (set_here hgo)⟩
      refine lv_goto (tgt := 26) hx hb d_TrustChainLaw_signed_19 (by decide) ?_
      refine lv_iconst (v := 0) hx hb d_TrustChainLaw_signed_26 (by decide) ?_
      exact vx_ret (x_wide 1 6 (Nat.le_of_ble_eq_true rfl) (Nat.le_of_ble_eq_true rfl) (W.iret (v := 0) hx hb hr (fun t ht hW => ⟨⟨_, ((G9.set io (ou, .inl (γ.2.2.1, 1, .inr (.inl (vp_updL ov (0 : Int32).toNatClampNeg (1 : Int64))))), L9, o9, as9, f1, f2, f3, f4, f5), (vp_updL ov (0 : Int32).toNatClampNeg (1 : Int64))), rfl, ⟨⟨hC, ⟨hTy, hL, kq0, kpl, h16⟩, kfe, kou, hfq, hfp, hoq, hop⟩, Or.inl ⟨rfl, r9, hQ9, by rw [if_neg p10]; rfl⟩⟩, ⟨by rw [ht]; exact hP, va_K.moved hW.alike hK, hD⟩⟩, hS.F ht⟩) hS.2.2 d_TrustChainLaw_signed_27))
set_option maxHeartbeats 4000000 in
set_option maxRecDepth 100000 in
theorem zl_covers (l : Launch) (hl0 : l.stackTraces = false) (dC : Nat → ClassId) (dI : Nat → Nat → Nat) (sb : sB) (γ : cG) (κ : kE) (Ad : List Nat) (ν : Nat → cN) (ω : Nat → List Nat) (L : Nat) (G : va_W) (fe ho ce li sh rs se ch fo q0 pl : Nat) (o : alD) (as : List Nat) (foS chS faP feS wrP : Int32) (ou : Nat) (fu : Nat → Nat) (ov : Nat → Int64) (i : Int32) (x0 x1 x2 x3 : Int64) (sz : Nat) (hLW : LWx γ sb κ Ad ν ω fe ho ce li sh rs se ch fo q0 pl ou fu ov (G, L, o, as, foS, chS, faP, feS, wrP))  : vx_Met l y_TrustChainLaw_covers w_TrustChainLaw_covers ({ frames := 8, cells := 1, slots := 6, locals := 150 }) (mx_P [.ref q0, .int i, .long x0, .long x1, .long x2, .long x3, .ref ou] (dC, dI) sb G [(γ.1, .byte), (γ.2.1, .int), (γ.2.2.1, .long), (γ.2.2.2, .object "java/lang/Object")] sz) (va_Qi (fun r (u' : cU × (Nat → Int64)) => LWx γ sb κ Ad ν ω fe ho ce li sh rs se ch fo q0 pl ou fu u'.2 u'.1 ∧ ((r = 0 ∧ ∃ r9 : Int32, (u'.1.2.2.2.2 = (foS, chS, faP, feS, wrP) ∧ bz r9 (r9 = 1) ∧ ¬ i < 0 ∧ i < nI (ω ce).length) ∧ u'.2 = vp_updL ov 0 (if r9 = 0 then 0 else 1)) ∨ (∃ E : String, (u'.1.2.2.2.2 = (foS, chS, faP, feS, wrP) ∧ E = "java/lang/IndexOutOfBoundsException" ∧ ¬ (¬ i < 0 ∧ i < nI (ω ce).length)) ∧ r = (if E = "java/lang/IllegalArgumentException" then 1 else 1) ∧ u'.2 = ov))) (mu_B (dC, dI) [(γ.1, .byte), (γ.2.1, .int), (γ.2.2.1, .long), (γ.2.2.2, .object "java/lang/Object")] (va_A G sz) (fun u' : cU × (Nat → Int64) => u'.1.1)) (va_A G sz)) (mx_X (fun (E : String) (u' : cU × (Nat → Int64)) => False) (dC, dI) [(γ.1, .byte), (γ.2.1, .int), (γ.2.2.1, .long), (γ.2.2.2, .object "java/lang/Object")] (va_A G sz) (fun u' : cU × (Nat → Int64) => u'.1.1)) 1 6 (va_A G sz) := by
  refine vx_ofWH (cc := b_TrustChainLaw_covers) (maxL := 12) (ret := (some FieldType.int)) (by decide) rfl ?_
  intro p e s m args below meth c s₁ B hml hv
  obtain ⟨rfl, hsz, hB0, hP, hK, hD0, hN, hT0, hTh⟩ := hv
  have hx := B.exec
  have hb := B.bytes
  have hr := B.returns
  have hts := atoms_spec (ws := w_TrustChainLaw_covers) B.pre
  have htab : c.exceptionTable.toList = tableOf [(0, 24, 27, 13)] := vx_table (x := y_TrustChainLaw_covers) B (hts _ List.mem_cons_self)
  have tbin : ∀ w ∈ tb, w ∈ w_TrustChainLaw_covers := fun w h => List.mem_cons_of_mem _ h
  have htb : ∀ w ∈ tb, w.before _ s = true := fun w h => hts w (tbin w h)
  have hown : s.vm.findClass "TrustChainLaw" = some m.cls := findClass_of_methodNamed B.named
  have hlocks := B.notSynchronized
  subst hsz
  have hD := hD0.self (sz := s.heap.size)
  generalize hAe : va_A G s.heap.size = A at hD ⊢
  have hA : ∀ q : Nat, s.heap.size ≤ q → A q := fun q h => by rw [← hAe]; exact Or.inr h
  have hAs : ∀ q : Nat, A q → sb.1 ≤ q := fun q h => by
    rw [← hAe] at h
    rcases h with ⟨k, e, h⟩ | h
    · exact hD0.2 k _ h
    · exact Nat.le_trans hB0 h
  have hS : va_S A s.heap s.heap [] := va_S.rf
  have hcs : 1 ≤ (headSpec w_TrustChainLaw_covers ({ frames := 8, cells := 1, slots := 6, locals := 150 })).room.cells ∧ 6 ≤ (headSpec w_TrustChainLaw_covers ({ frames := 8, cells := 1, slots := 6, locals := 150 })).room.slots := ⟨Nat.le_refl _, Nat.le_refl _⟩
  have hP : va_P (dC, dI) classes G s.heap := hP
  obtain ⟨hC, hW0, kfe, kou, hfq, hfp, hoq, hop⟩ := hLW
  dsimp only at kfe kou
  have kq0 := hW0.2.2.1
  dsimp only at kq0
  have hl := lv_entry ([.ref q0, .int i, .long x0, .long x1, .long x2, .long x3, .ref ou]) (n := 12) (Nat.le_of_ble_eq_true rfl)
  rw [lg_entry_eq]
  generalize (lg_sl ([.ref q0, .int i, .long x0, .long x1, .long x2, .long x3, .ref ou]) ++ List.replicate (12 - (lg_sl ([.ref q0, .int i, .long x0, .long x1, .long x2, .long x3, .ref ou])).length) Slot.unset).toArray = ls at hl ⊢
  have hl : lv_has ls 12 [(0, .ref q0), (1, .int i), (2, .long x0), (4, .long x1), (6, .long x2), (8, .long x3), (10, .ref ou)] := hl
  refine lv_aload hx hb d_TrustChainLaw_covers_0 (lv_at hl 6 rfl) ?_
  refine lv_iconst (v := 0) hx hb d_TrustChainLaw_covers_2 (by decide) ?_
  refine lv_aload_n hx hb d_TrustChainLaw_covers_3 rfl (lv_at hl 0 rfl) ?_
  refine lv_iload_n hx hb d_TrustChainLaw_covers_4 rfl (lv_at hl 1 rfl) ?_
  refine lv_lload_n hx hb d_TrustChainLaw_covers_5 rfl (lv_at hl 2 rfl) ?_
  refine lv_lload hx hb d_TrustChainLaw_covers_6 (lv_at hl 3 rfl) ?_
  refine lv_lload hx hb d_TrustChainLaw_covers_8 (lv_at hl 4 rfl) ?_
  refine lv_lload hx hb d_TrustChainLaw_covers_10 (lv_at hl 5 rfl) ?_
  obtain ⟨i_1, hg_1⟩ := List.getElem?_of_mem kq0.2
  have hFc := va_free (wc := G) hD hS hA (List.range G.length) (rg_is _)
  refine vx_calli (mx_runV (As := [.int i, .long x0, .long x1, .long x2, .long x3]) (rest := [.int 0, .ref ou]) ⟨hx, hb, hml, hown, hts⟩ tbin (z_Trust_covers l hl0 dC dI sb γ κ Ad ν ω L G fe ho ce li sh rs se ch fo q0 pl o as foS chS faP feS wrP i x0 x1 x2 x3  s.heap.size hC hW0 ) q6_147 q6_148 q6_149 q1_1 q6_150 (n := 5) (by decide +kernel) rfl ⟨rfl, rfl⟩ ⟨Nat.le_of_ble_eq_true rfl, Nat.le_of_ble_eq_true rfl⟩ ⟨Nat.le_of_ble_eq_true rfl, Nat.le_of_ble_eq_true rfl⟩ (hTh.keep hS hAs) hN (hT0.keep hS hAs) hAs (Nat.le_trans hB0 hS.1) hK hP hD (List.range G.length) (rg_nd _) (rg_is _) [0, 1, 2, 3] rfl i_1 10 hg_1 rfl rfl hl.1 rfl (Nat.le_of_ble_eq_true rfl) d_TrustChainLaw_covers_12) hS (fun q _ h => hFc q h) hFc (fun q _ h => hFc q h) (fun E cx9 q9 uX tX HX locs ht hvm hpx hBX hz1 hk1 hS hce hcv hcl => ?_) (fun r9 uN tS H12 locs ht hvm hw9 hB hz1 hk1 hS => ?_)
  · obtain ⟨⟨hCW, hF9, hpx9⟩, hB⟩ := hBX
    obtain ⟨hP1, hK1, hD1⟩ := hB
    rw [ht] at hP1
    have hP : va_P (dC, dI) classes uX.1 HX := hP1
    have hD : va_D A uX.1 := hD1.weaken (fun _ _ _ h => hFc _ h)
    have kfe : Xc Ad fe _ uX.1 := ⟨kfe.1, hF9 _ kfe.1 hfq hfp (fun _ _ => arI_ne) kfe.2⟩
    have kou : Xc Ad ou _ uX.1 := ⟨kou.1, hF9 _ kou.1 hoq hop (fun _ _ => arJ_ne) kou.2⟩
    have hE : E = "java/lang/IndexOutOfBoundsException" := hpx9.2.1
    subst hE
    refine vx_catch hown [] ⟨0, 24, 27, 13⟩ [] htab (fun z h => nomatch h) (by decide) (by decide) (htb _ q1_206) (va_Nw.use rfl (hN.1 _ qn1_213)) hce hcv hcl ?_
    refine lv_astore (lv' := [(11, .ref q9), (0, .ref q0), (1, .int i), (2, .long x0), (4, .long x1), (6, .long x2), (8, .long x3), (10, .ref ou)]) hx hb d_TrustChainLaw_covers_27 hl (by decide) rfl (fun ls hl => ?_)
    refine lv_iconst (v := 1) hx hb d_TrustChainLaw_covers_29 (by decide) ?_
    exact vx_ret (x_wide 1 6 (Nat.le_of_ble_eq_true rfl) (Nat.le_of_ble_eq_true rfl) (W.iret (v := 1) hx hb hr (fun t ht hW => ⟨⟨_, (uX, ov), rfl, ⟨⟨hC, hCW, kfe, kou, hfq, hfp, hoq, hop⟩, Or.inr ⟨_, hpx9, (if_neg (by decide)).symm, rfl⟩⟩, ⟨by rw [ht]; exact hP, va_K.moved hW.alike hK, hD⟩⟩, hS.F ht⟩) hS.2.2 d_TrustChainLaw_covers_30))
  · obtain ⟨hP1, hK1, hD1⟩ := hB
    rw [ht] at hP1
    have hP : va_P (dC, dI) classes uN.1 H12 := hP1
    have hD : va_D A uN.1 := hD1.weaken (fun _ _ _ h => hFc _ h)
    obtain ⟨hCW, hF9, hQ9⟩ := hw9
    have kfe : Xc Ad fe _ uN.1 := ⟨kfe.1, hF9 _ kfe.1 hfq hfp (fun _ _ => arI_ne) kfe.2⟩
    have kou : Xc Ad ou _ uN.1 := ⟨kou.1, hF9 _ kou.1 hoq hop (fun _ _ => arJ_ne) kou.2⟩
    obtain ⟨G9, L9, o9, as9, f1, f2, f3, f4, f5⟩ := uN
    obtain ⟨hTy, hL, kq0, kpl, h16⟩ := hCW
    dsimp only at hTy hL kq0 kpl h16 hP hD kfe kou hQ9
    refine lv_if_eq (tgt := 22) hx hb d_TrustChainLaw_covers_15 (by decide) (fun c15 => ?_) (fun c15 => ?_)
    · have p15 : r9 = (0 : Int32) := c15
      refine lv_lconst (v := 0) hx hb d_TrustChainLaw_covers_22 (by decide) ?_
      obtain ⟨io, hgo⟩ := List.getElem?_of_mem kou.2
      refine va_last hx hb hK hP hD hS io 2 hgo rfl (by unfold vp_in; decide) d_TrustChainLaw_covers_23 (fun H23 locs hP hD2 hS => ?_)
      have hP : va_P (dC, dI) classes (G9.set io (ou, .inl (γ.2.2.1, 1, .inr (.inl (vp_updL ov (0 : Int32).toNatClampNeg (0 : Int64)))))) H23 := hP
      have hD : va_D A (G9.set io (ou, .inl (γ.2.2.1, 1, .inr (.inl (vp_updL ov (0 : Int32).toNatClampNeg (0 : Int64)))))) := hD2
      have hTy := TY.setX (c' := .inl (γ.2.2.1, 1, .inr (.inl (vp_updL ov (0 : Int32).toNatClampNeg (0 : Int64))))) hTy hgo kou.1
      have kpl := PLx.setA (c' := .inl (γ.2.2.1, 1, .inr (.inl (vp_updL ov (0 : Int32).toNatClampNeg (0 : Int64))))) kpl hgo
      have kq0 := Xc.setX (c' := .inl (γ.2.2.1, 1, .inr (.inl (vp_updL ov (0 : Int32).toNatClampNeg (0 : Int64))))) kq0 hgo (fun e => by cases e)
      have kfe := Xc.setX (c' := .inl (γ.2.2.1, 1, .inr (.inl (vp_updL ov (0 : Int32).toNatClampNeg (0 : Int64))))) kfe hgo (fun e => arI_ne (congrArg Prod.snd e))
      have kou : Xc Ad ou (.inl (γ.2.2.1, 1, .inr (.inl (vp_updL ov (0 : Int32).toNatClampNeg (0 : Int64))))) (G9.set io (ou, .inl (γ.2.2.1, 1, .inr (.inl (vp_updL ov (0 : Int32).toNatClampNeg (0 : Int64)))))) := ⟨kou.1, List.mem_of_getElem? (set_here hgo)⟩
      refine lv_goto (tgt := 31) hx hb d_TrustChainLaw_covers_24 (by decide) ?_
      refine lv_iconst (v := 0) hx hb d_TrustChainLaw_covers_31 (by decide) ?_
      exact vx_ret (x_wide 1 6 (Nat.le_of_ble_eq_true rfl) (Nat.le_of_ble_eq_true rfl) (W.iret (v := 0) hx hb hr (fun t ht hW => ⟨⟨_, ((G9.set io (ou, .inl (γ.2.2.1, 1, .inr (.inl (vp_updL ov (0 : Int32).toNatClampNeg (0 : Int64))))), L9, o9, as9, f1, f2, f3, f4, f5), (vp_updL ov (0 : Int32).toNatClampNeg (0 : Int64))), rfl, ⟨⟨hC, ⟨hTy, hL, kq0, kpl, h16⟩, kfe, kou, hfq, hfp, hoq, hop⟩, Or.inl ⟨rfl, r9, hQ9, by rw [if_pos p15]; rfl⟩⟩, ⟨by rw [ht]; exact hP, va_K.moved hW.alike hK, hD⟩⟩, hS.F ht⟩) hS.2.2 d_TrustChainLaw_covers_32))
    · have p15 : ¬ (r9 = (0 : Int32)) := c15
      refine lv_lconst (v := 1) hx hb d_TrustChainLaw_covers_18 (by decide) ?_
      refine lv_goto (tgt := 23) hx hb d_TrustChainLaw_covers_19 (by decide) ?_
      obtain ⟨io, hgo⟩ := List.getElem?_of_mem kou.2
      refine va_last hx hb hK hP hD hS io 2 hgo rfl (by unfold vp_in; decide) d_TrustChainLaw_covers_23 (fun H23 locs hP hD2 hS => ?_)
      have hP : va_P (dC, dI) classes (G9.set io (ou, .inl (γ.2.2.1, 1, .inr (.inl (vp_updL ov (0 : Int32).toNatClampNeg (1 : Int64)))))) H23 := hP
      have hD : va_D A (G9.set io (ou, .inl (γ.2.2.1, 1, .inr (.inl (vp_updL ov (0 : Int32).toNatClampNeg (1 : Int64)))))) := hD2
      have hTy := TY.setX (c' := .inl (γ.2.2.1, 1, .inr (.inl (vp_updL ov (0 : Int32).toNatClampNeg (1 : Int64))))) hTy hgo kou.1
      have kpl := PLx.setA (c' := .inl (γ.2.2.1, 1, .inr (.inl (vp_updL ov (0 : Int32).toNatClampNeg (1 : Int64))))) kpl hgo
      have kq0 := Xc.setX (c' := .inl (γ.2.2.1, 1, .inr (.inl (vp_updL ov (0 : Int32).toNatClampNeg (1 : Int64))))) kq0 hgo (fun e => by cases e)
      have kfe := Xc.setX (c' := .inl (γ.2.2.1, 1, .inr (.inl (vp_updL ov (0 : Int32).toNatClampNeg (1 : Int64))))) kfe hgo (fun e => arI_ne (congrArg Prod.snd e))
      have kou : Xc Ad ou (.inl (γ.2.2.1, 1, .inr (.inl (vp_updL ov (0 : Int32).toNatClampNeg (1 : Int64))))) (G9.set io (ou, .inl (γ.2.2.1, 1, .inr (.inl (vp_updL ov (0 : Int32).toNatClampNeg (1 : Int64)))))) := ⟨kou.1, List.mem_of_getElem? (set_here hgo)⟩
      refine lv_goto (tgt := 31) hx hb d_TrustChainLaw_covers_24 (by decide) ?_
      refine lv_iconst (v := 0) hx hb d_TrustChainLaw_covers_31 (by decide) ?_
      exact vx_ret (x_wide 1 6 (Nat.le_of_ble_eq_true rfl) (Nat.le_of_ble_eq_true rfl) (W.iret (v := 0) hx hb hr (fun t ht hW => ⟨⟨_, ((G9.set io (ou, .inl (γ.2.2.1, 1, .inr (.inl (vp_updL ov (0 : Int32).toNatClampNeg (1 : Int64))))), L9, o9, as9, f1, f2, f3, f4, f5), (vp_updL ov (0 : Int32).toNatClampNeg (1 : Int64))), rfl, ⟨⟨hC, ⟨hTy, hL, kq0, kpl, h16⟩, kfe, kou, hfq, hfp, hoq, hop⟩, Or.inl ⟨rfl, r9, hQ9, by rw [if_neg p15]; rfl⟩⟩, ⟨by rw [ht]; exact hP, va_K.moved hW.alike hK, hD⟩⟩, hS.F ht⟩) hS.2.2 d_TrustChainLaw_covers_32))
set_option maxHeartbeats 4000000 in
set_option maxRecDepth 100000 in
theorem zl_validate (l : Launch) (hl0 : l.stackTraces = false) (dC : Nat → ClassId) (dI : Nat → Nat → Nat) (sb : sB) (γ : cG) (κ : kE) (Ad : List Nat) (ν : Nat → cN) (ω : Nat → List Nat) (L : Nat) (G : va_W) (fe ho ce li sh rs se ch fo q0 pl : Nat) (o : alD) (as : List Nat) (foS chS faP feS wrP : Int32) (ou : Nat) (fu : Nat → Nat) (ov : Nat → Int64) (i j kn : Int32) (tm : Int64) (sz : Nat) (hLW : LWx γ sb κ Ad ν ω fe ho ce li sh rs se ch fo q0 pl ou fu ov (G, L, o, as, foS, chS, faP, feS, wrP)) (hkn : bz kn (kn = 1)) (hX : XC κ Ad ν ω) (hY : YC κ Ad ν ω) (hnb : ∀ k9, k9 < (ω ce).length → (ν ((ω ce).getD k9 0)).2.2.2.2.2.2.2.2.2.2.2.2 = nI k9) (hbi : ∀ d9, d9 < (ω ce).length → ∀ k9, k9 < 16 → (bJ (nI ((ω ((ω ((ω ce).getD d9 0)).getD 12 0)).getD 1 0)) k9 = true ↔ k9 < (ω ce).length ∧ vFO κ ν ω ce d9 k9)) (hfn : fo ≠ (ω se).getD 0 0) : vx_Met l y_TrustChainLaw_validate w_TrustChainLaw_validate ({ frames := 13, cells := 3, slots := 47, locals := 392 }) (mx_P [.ref q0, .int i, .long tm, .int j, .int kn, .ref ou] (dC, dI) sb G [(γ.1, .byte), (γ.2.1, .int), (γ.2.2.1, .long), (γ.2.2.2, .object "java/lang/Object")] sz) (va_Qi (fun r (u' : cU × (Nat → Int64)) => (r = 0 ∧ ∃ (ν' : Nat → cN) (ω' : Nat → List Nat) (k D : Nat) (r9 : Int32), VE ν ν' ω ω' se ch ((ω se).getD 0 0) fo ∧ LWx γ sb κ Ad ν' ω' fe ho ce li sh rs se ch fo q0 pl ou fu u'.2 u'.1 ∧ (i = nI k ∧ k < (ω ce).length ∧ j = nI D ∧ 1 ≤ D ∧ D ≤ 16) ∧ u'.1.2.2.2.2 = (nI (vVQ κ ν ω ce li tm kn k D).2.2.1.length, nI (vVQ κ ν ω ce li tm kn k D).2.1, (vVQ κ ν ω ce li tm kn k D).2.2.2.2, feS, wrP) ∧ ((vVQ κ ν ω ce li tm kn k D).2.2.1.length ≤ 16 ∧ ∀ j9, j9 < (vVQ κ ν ω ce li tm kn k D).2.2.1.length → nI ((ω' fo).getD j9 0) = nI ((vVQ κ ν ω ce li tm kn k D).2.2.1.reverse.getD j9 0)) ∧ r9 = (vVQ κ ν ω ce li tm kn k D).2.2.2.1 ∧ u'.2 = vp_updL ov 0 r9.toInt64) ∨ (LWx γ sb κ Ad ν ω fe ho ce li sh rs se ch fo q0 pl ou fu u'.2 u'.1 ∧ ∃ E : String, (u'.1.2.2.2.2 = (foS, chS, faP, feS, wrP) ∧ ((E = "java/lang/IllegalArgumentException" ∧ (j < 1 ∨ 16 < j)) ∨ (E = "java/lang/IndexOutOfBoundsException" ∧ ¬ (j < 1 ∨ 16 < j) ∧ ¬ (¬ i < 0 ∧ i < nI (ω ce).length)))) ∧ r = (if E = "java/lang/IllegalArgumentException" then 1 else 2) ∧ u'.2 = ov)) (mu_B (dC, dI) [(γ.1, .byte), (γ.2.1, .int), (γ.2.2.1, .long), (γ.2.2.2, .object "java/lang/Object")] (va_A G sz) (fun u' : cU × (Nat → Int64) => u'.1.1)) (va_A G sz)) (mx_X (fun (E : String) (u' : cU × (Nat → Int64)) => False) (dC, dI) [(γ.1, .byte), (γ.2.1, .int), (γ.2.2.1, .long), (γ.2.2.2, .object "java/lang/Object")] (va_A G sz) (fun u' : cU × (Nat → Int64) => u'.1.1)) 3 47 (va_A G sz) := by
  refine vx_ofWH (cc := b_TrustChainLaw_validate) (maxL := 8) (ret := (some FieldType.int)) (by decide) rfl ?_
  intro p e s m args below meth c s₁ B hml hv
  obtain ⟨rfl, hsz, hB0, hP, hK, hD0, hN, hT0, hTh⟩ := hv
  have hx := B.exec
  have hb := B.bytes
  have hr := B.returns
  have hts := atoms_spec (ws := w_TrustChainLaw_validate) B.pre
  have htab : c.exceptionTable.toList = tableOf [(0, 15, 18, 19), (0, 15, 22, 13)] := vx_table (x := y_TrustChainLaw_validate) B (hts _ List.mem_cons_self)
  have tbin : ∀ w ∈ tb, w ∈ w_TrustChainLaw_validate := fun w h => List.mem_cons_of_mem _ h
  have htb : ∀ w ∈ tb, w.before _ s = true := fun w h => hts w (tbin w h)
  have hown : s.vm.findClass "TrustChainLaw" = some m.cls := findClass_of_methodNamed B.named
  have hlocks := B.notSynchronized
  subst hsz
  have hD := hD0.self (sz := s.heap.size)
  generalize hAe : va_A G s.heap.size = A at hD ⊢
  have hA : ∀ q : Nat, s.heap.size ≤ q → A q := fun q h => by rw [← hAe]; exact Or.inr h
  have hAs : ∀ q : Nat, A q → sb.1 ≤ q := fun q h => by
    rw [← hAe] at h
    rcases h with ⟨k, e, h⟩ | h
    · exact hD0.2 k _ h
    · exact Nat.le_trans hB0 h
  have hS : va_S A s.heap s.heap [] := va_S.rf
  have hcs : 3 ≤ (headSpec w_TrustChainLaw_validate ({ frames := 13, cells := 3, slots := 47, locals := 392 })).room.cells ∧ 47 ≤ (headSpec w_TrustChainLaw_validate ({ frames := 13, cells := 3, slots := 47, locals := 392 })).room.slots := ⟨Nat.le_refl _, Nat.le_refl _⟩
  have hP : va_P (dC, dI) classes G s.heap := hP
  obtain ⟨hC, hW0, kfe, kou, hfq, hfp, hoq, hop⟩ := hLW
  dsimp only at kfe kou
  have kq0 := hW0.2.2.1
  dsimp only at kq0
  have hl := lv_entry ([.ref q0, .int i, .long tm, .int j, .int kn, .ref ou]) (n := 8) (Nat.le_of_ble_eq_true rfl)
  rw [lg_entry_eq]
  generalize (lg_sl ([.ref q0, .int i, .long tm, .int j, .int kn, .ref ou]) ++ List.replicate (8 - (lg_sl ([.ref q0, .int i, .long tm, .int j, .int kn, .ref ou])).length) Slot.unset).toArray = ls at hl ⊢
  have hl : lv_has ls 8 [(0, .ref q0), (1, .int i), (2, .long tm), (4, .int j), (5, .int kn), (6, .ref ou)] := hl
  refine lv_aload hx hb d_TrustChainLaw_validate_0 (lv_at hl 5 rfl) ?_
  refine lv_iconst (v := 0) hx hb d_TrustChainLaw_validate_2 (by decide) ?_
  refine lv_aload_n hx hb d_TrustChainLaw_validate_3 rfl (lv_at hl 0 rfl) ?_
  refine lv_iload_n hx hb d_TrustChainLaw_validate_4 rfl (lv_at hl 1 rfl) ?_
  refine lv_lload_n hx hb d_TrustChainLaw_validate_5 rfl (lv_at hl 2 rfl) ?_
  refine lv_iload hx hb d_TrustChainLaw_validate_6 (lv_at hl 3 rfl) ?_
  refine lv_iload hx hb d_TrustChainLaw_validate_8 (lv_at hl 4 rfl) ?_
  obtain ⟨i_1, hg_1⟩ := List.getElem?_of_mem kq0.2
  have hFc := va_free (wc := G) hD hS hA (List.range G.length) (rg_is _)
  refine vx_calli (mx_runV (As := [.int i, .long tm, .int j, .int kn]) (rest := [.int 0, .ref ou]) ⟨hx, hb, hml, hown, hts⟩ tbin (z_Trust_validate l hl0 dC dI sb γ κ Ad ν ω L G fe ho ce li sh rs se ch fo q0 pl o as foS chS faP feS wrP i j kn tm  s.heap.size hC hW0 hkn hX hY hnb hbi hfn) q5_234 q5_235 q5_236 q1_1 q5_237 (n := 4) (by decide +kernel) rfl ⟨rfl, rfl⟩ ⟨Nat.le_of_ble_eq_true rfl, Nat.le_of_ble_eq_true rfl⟩ ⟨Nat.le_of_ble_eq_true rfl, Nat.le_of_ble_eq_true rfl⟩ (hTh.keep hS hAs) hN (hT0.keep hS hAs) hAs (Nat.le_trans hB0 hS.1) hK hP hD (List.range G.length) (rg_nd _) (rg_is _) [0, 1, 2, 3] rfl i_1 10 hg_1 rfl rfl hl.1 rfl (Nat.le_of_ble_eq_true rfl) d_TrustChainLaw_validate_10) hS (fun q _ h => hFc q h) hFc (fun q _ h => hFc q h) (fun E cx9 q9 uX tX HX locs ht hvm hpx hBX hz1 hk1 hS hce hcv hcl => ?_) (fun r9 uN tS H10 locs ht hvm hw9 hB hz1 hk1 hS => ?_)
  · obtain ⟨⟨hCW, hF9, hpx9⟩, hB⟩ := hBX
    obtain ⟨hP1, hK1, hD1⟩ := hB
    rw [ht] at hP1
    have hP : va_P (dC, dI) classes uX.1 HX := hP1
    have hD : va_D A uX.1 := hD1.weaken (fun _ _ _ h => hFc _ h)
    have kfe : Xc Ad fe _ uX.1 := ⟨kfe.1, hF9 _ kfe.1 hfq hfp (fun _ _ => arI_ne) kfe.2⟩
    have kou : Xc Ad ou _ uX.1 := ⟨kou.1, hF9 _ kou.1 hoq hop (fun _ _ => arJ_ne) kou.2⟩
    have hEs : E = "java/lang/IllegalArgumentException" ∨ E = "java/lang/IndexOutOfBoundsException" := hpx9.2.elim (fun h => Or.inl h.1) (fun h => Or.inr h.1)
    rcases hEs with hE | hE
    · subst hE
      refine vx_catch hown [] ⟨0, 15, 18, 19⟩ [⟨0, 15, 22, 13⟩] htab (fun z h => nomatch h) (by decide) (by decide) (htb _ q2_44) (va_Nw.use rfl (hN.1 _ qn4_235)) hce hcv hcl ?_
      refine lv_astore (lv' := [(7, .ref q9), (0, .ref q0), (1, .int i), (2, .long tm), (4, .int j), (5, .int kn), (6, .ref ou)]) hx hb d_TrustChainLaw_validate_18 hl (by decide) rfl (fun ls hl => ?_)
      refine lv_iconst (v := 1) hx hb d_TrustChainLaw_validate_20 (by decide) ?_
      exact vx_ret (x_wide 3 47 (Nat.le_of_ble_eq_true rfl) (Nat.le_of_ble_eq_true rfl) (W.iret (v := 1) hx hb hr (fun t ht hW => ⟨⟨_, (uX, ov), rfl, Or.inr ⟨⟨hC, hCW, kfe, kou, hfq, hfp, hoq, hop⟩, _, hpx9, (if_pos rfl).symm, rfl⟩, ⟨by rw [ht]; exact hP, va_K.moved hW.alike hK, hD⟩⟩, hS.F ht⟩) hS.2.2 d_TrustChainLaw_validate_21))
    · subst hE
      refine vx_catch hown [⟨0, 15, 18, 19⟩] ⟨0, 15, 22, 13⟩ [] htab (fun z h => by rw [List.mem_singleton.mp h]; exact Or.inr ⟨by decide, _, htb _ q2_44, hTh.2.2.2.2⟩) (by decide) (by decide) (htb _ q1_206) (va_Nw.use rfl (hN.1 _ qn1_213)) hce hcv hcl ?_
      refine lv_astore (lv' := [(7, .ref q9), (0, .ref q0), (1, .int i), (2, .long tm), (4, .int j), (5, .int kn), (6, .ref ou)]) hx hb d_TrustChainLaw_validate_22 hl (by decide) rfl (fun ls hl => ?_)
      refine lv_iconst (v := 2) hx hb d_TrustChainLaw_validate_24 (by decide) ?_
      exact vx_ret (x_wide 3 47 (Nat.le_of_ble_eq_true rfl) (Nat.le_of_ble_eq_true rfl) (W.iret (v := 2) hx hb hr (fun t ht hW => ⟨⟨_, (uX, ov), rfl, Or.inr ⟨⟨hC, hCW, kfe, kou, hfq, hfp, hoq, hop⟩, _, hpx9, (if_neg (by decide)).symm, rfl⟩, ⟨by rw [ht]; exact hP, va_K.moved hW.alike hK, hD⟩⟩, hS.F ht⟩) hS.2.2 d_TrustChainLaw_validate_25))
  · obtain ⟨hP1, hK1, hD1⟩ := hB
    rw [ht] at hP1
    have hP : va_P (dC, dI) classes uN.1 H10 := hP1
    have hD : va_D A uN.1 := hD1.weaken (fun _ _ _ h => hFc _ h)
    have hVK := CK_vk hC hW0.1
    obtain ⟨ν', ω', k, D, hVE, hCW, hF9, hkd9, hU9, hrow9, hr9⟩ := hw9
    have hC9 := CK_ve hC hVK hVE
    have kfe : Xc Ad fe _ uN.1 := ⟨kfe.1, hF9 _ kfe.1 hfq hfp (fun _ _ => arI_ne) kfe.2⟩
    have kou : Xc Ad ou _ uN.1 := ⟨kou.1, hF9 _ kou.1 hoq hop (fun _ _ => arJ_ne) kou.2⟩
    obtain ⟨G9, L9, o9, as9, f1, f2, f3, f4, f5⟩ := uN
    obtain ⟨hTy, hL, kq0, kpl, h16⟩ := hCW
    dsimp only at hTy hL kq0 kpl h16 hP hD kfe kou
    refine lv_i2l (v := r9.toInt64) hx hb d_TrustChainLaw_validate_13 rfl ?_
    obtain ⟨io, hgo⟩ := List.getElem?_of_mem kou.2
    refine va_last hx hb hK hP hD hS io 2 hgo rfl (by unfold vp_in; decide) d_TrustChainLaw_validate_14 (fun H14 locs hP hD2 hS => ?_)
    have hP : va_P (dC, dI) classes (G9.set io (ou, .inl (γ.2.2.1, 1, .inr (.inl (vp_updL ov (0 : Int32).toNatClampNeg r9.toInt64))))) H14 := hP
    have hD : va_D A (G9.set io (ou, .inl (γ.2.2.1, 1, .inr (.inl (vp_updL ov (0 : Int32).toNatClampNeg r9.toInt64))))) := hD2
    have hTy := TY.setX (c' := .inl (γ.2.2.1, 1, .inr (.inl (vp_updL ov (0 : Int32).toNatClampNeg r9.toInt64)))) hTy hgo kou.1
    have kpl := PLx.setA (c' := .inl (γ.2.2.1, 1, .inr (.inl (vp_updL ov (0 : Int32).toNatClampNeg r9.toInt64)))) kpl hgo
    have kq0 := Xc.setX (c' := .inl (γ.2.2.1, 1, .inr (.inl (vp_updL ov (0 : Int32).toNatClampNeg r9.toInt64)))) kq0 hgo (fun e => by cases e)
    have kfe := Xc.setX (c' := .inl (γ.2.2.1, 1, .inr (.inl (vp_updL ov (0 : Int32).toNatClampNeg r9.toInt64)))) kfe hgo (fun e => arI_ne (congrArg Prod.snd e))
    have kou : Xc Ad ou (.inl (γ.2.2.1, 1, .inr (.inl (vp_updL ov (0 : Int32).toNatClampNeg r9.toInt64)))) (G9.set io (ou, .inl (γ.2.2.1, 1, .inr (.inl (vp_updL ov (0 : Int32).toNatClampNeg r9.toInt64))))) := ⟨kou.1, List.mem_of_getElem? (set_here hgo)⟩
    refine lv_goto (tgt := 26) hx hb d_TrustChainLaw_validate_15 (by decide) ?_
    refine lv_iconst (v := 0) hx hb d_TrustChainLaw_validate_26 (by decide) ?_
    exact vx_ret (x_wide 3 47 (Nat.le_of_ble_eq_true rfl) (Nat.le_of_ble_eq_true rfl) (W.iret (v := 0) hx hb hr (fun t ht hW => ⟨⟨_, ((G9.set io (ou, .inl (γ.2.2.1, 1, .inr (.inl (vp_updL ov (0 : Int32).toNatClampNeg r9.toInt64)))), L9, o9, as9, f1, f2, f3, f4, f5), (vp_updL ov (0 : Int32).toNatClampNeg r9.toInt64)), rfl, Or.inl ⟨rfl, ν', ω', k, D, r9, hVE, ⟨hC9, ⟨hTy, hL, kq0, kpl, h16⟩, kfe, kou, hfq, hfp, hoq, hop⟩, hkd9, hU9, hrow9, hr9, rfl⟩, ⟨by rw [ht]; exact hP, va_K.moved hW.alike hK, hD⟩⟩, hS.F ht⟩) hS.2.2 d_TrustChainLaw_validate_27))
set_option maxHeartbeats 4000000 in
set_option maxRecDepth 100000 in
theorem zl_trust (l : Launch) (hl0 : l.stackTraces = false) (dC : Nat → ClassId) (dI : Nat → Nat → Nat) (sb : sB) (γ : cG) (κ : kE) (Ad : List Nat) (ν : Nat → cN) (ω : Nat → List Nat) (L : Nat) (G : va_W) (fe ho ce li sh rs se ch fo q0 pl : Nat) (o : alD) (as : List Nat) (foS chS faP feS wrP : Int32) (ou : Nat) (fu : Nat → Nat) (ov : Nat → Int64) (i j : Int32) (sz : Nat) (hLW : LWx γ sb κ Ad ν ω fe ho ce li sh rs se ch fo q0 pl ou fu ov (G, L, o, as, foS, chS, faP, feS, wrP)) (hj : b01 j) : vx_Met l y_TrustChainLaw_trust w_TrustChainLaw_trust ({ frames := 8, cells := 1, slots := 6, locals := 150 }) (mx_P [.ref q0, .int i, .int j, .ref ou] (dC, dI) sb G [(γ.1, .byte), (γ.2.1, .int), (γ.2.2.1, .long), (γ.2.2.2, .object "java/lang/Object")] sz) (va_Qi (fun r (u' : cU × (Nat → Int64)) => (r = 0 ∧ ∃ k, k < (ω ce).length ∧ i = nI k ∧ LWx γ sb κ Ad (nuT ν ((ω ce).getD k 0) j) ω fe ho ce li sh rs se ch fo q0 pl ou fu u'.2 u'.1 ∧ u'.1.2.2.2.2 = (foS, chS, faP, feS, wrP) ∧ u'.2 = vp_updL ov 0 (if (ν ((ω ce).getD k 0)).2.2.2.2.2.2.2.2.1 = 0 then 0 else 1)) ∨ (LWx γ sb κ Ad ν ω fe ho ce li sh rs se ch fo q0 pl ou fu u'.2 u'.1 ∧ ∃ E : String, (u'.1.2.2.2.2 = (foS, chS, faP, feS, wrP) ∧ E = "java/lang/IndexOutOfBoundsException" ∧ ¬ (¬ i < 0 ∧ i < nI (ω ce).length)) ∧ r = 1 ∧ u'.2 = ov)) (mu_B (dC, dI) [(γ.1, .byte), (γ.2.1, .int), (γ.2.2.1, .long), (γ.2.2.2, .object "java/lang/Object")] (va_A G sz) (fun u' : cU × (Nat → Int64) => u'.1.1)) (va_A G sz)) (mx_X (fun (E : String) (u' : cU × (Nat → Int64)) => False) (dC, dI) [(γ.1, .byte), (γ.2.1, .int), (γ.2.2.1, .long), (γ.2.2.2, .object "java/lang/Object")] (va_A G sz) (fun u' : cU × (Nat → Int64) => u'.1.1)) 1 6 (va_A G sz) := by
  refine vx_ofWH (cc := b_TrustChainLaw_trust) (maxL := 5) (ret := (some FieldType.int)) (by decide) rfl ?_
  intro p e s m args below meth c s₁ B hml hv
  obtain ⟨rfl, hsz, hB0, hP, hK, hD0, hN, hT0, hTh⟩ := hv
  have hx := B.exec
  have hb := B.bytes
  have hr := B.returns
  have hts := atoms_spec (ws := w_TrustChainLaw_trust) B.pre
  have htab : c.exceptionTable.toList = tableOf [(0, 17, 20, 13)] := vx_table (x := y_TrustChainLaw_trust) B (hts _ List.mem_cons_self)
  have tbin : ∀ w ∈ tb, w ∈ w_TrustChainLaw_trust := fun w h => List.mem_cons_of_mem _ h
  have htb : ∀ w ∈ tb, w.before _ s = true := fun w h => hts w (tbin w h)
  have hown : s.vm.findClass "TrustChainLaw" = some m.cls := findClass_of_methodNamed B.named
  have hlocks := B.notSynchronized
  subst hsz
  have hD := hD0.self (sz := s.heap.size)
  generalize hAe : va_A G s.heap.size = A at hD ⊢
  have hA : ∀ q : Nat, s.heap.size ≤ q → A q := fun q h => by rw [← hAe]; exact Or.inr h
  have hAs : ∀ q : Nat, A q → sb.1 ≤ q := fun q h => by
    rw [← hAe] at h
    rcases h with ⟨k, e, h⟩ | h
    · exact hD0.2 k _ h
    · exact Nat.le_trans hB0 h
  have hS : va_S A s.heap s.heap [] := va_S.rf
  have hcs : 1 ≤ (headSpec w_TrustChainLaw_trust ({ frames := 8, cells := 1, slots := 6, locals := 150 })).room.cells ∧ 6 ≤ (headSpec w_TrustChainLaw_trust ({ frames := 8, cells := 1, slots := 6, locals := 150 })).room.slots := ⟨Nat.le_refl _, Nat.le_refl _⟩
  have hP : va_P (dC, dI) classes G s.heap := hP
  obtain ⟨hC, hW0, kfe, kou, hfq, hfp, hoq, hop⟩ := hLW
  dsimp only at kfe kou
  have kq0 := hW0.2.2.1
  dsimp only at kq0
  have hl := lv_entry ([.ref q0, .int i, .int j, .ref ou]) (n := 5) (Nat.le_of_ble_eq_true rfl)
  rw [lg_entry_eq]
  generalize (lg_sl ([.ref q0, .int i, .int j, .ref ou]) ++ List.replicate (5 - (lg_sl ([.ref q0, .int i, .int j, .ref ou])).length) Slot.unset).toArray = ls at hl ⊢
  have hl : lv_has ls 5 [(0, .ref q0), (1, .int i), (2, .int j), (3, .ref ou)] := hl
  refine lv_aload_n hx hb d_TrustChainLaw_trust_0 rfl (lv_at hl 3 rfl) ?_
  refine lv_iconst (v := 0) hx hb d_TrustChainLaw_trust_1 (by decide) ?_
  refine lv_aload_n hx hb d_TrustChainLaw_trust_2 rfl (lv_at hl 0 rfl) ?_
  refine lv_iload_n hx hb d_TrustChainLaw_trust_3 rfl (lv_at hl 1 rfl) ?_
  refine lv_iload_n hx hb d_TrustChainLaw_trust_4 rfl (lv_at hl 2 rfl) ?_
  obtain ⟨i_1, hg_1⟩ := List.getElem?_of_mem kq0.2
  have hFc := va_free (wc := G) hD hS hA (List.range G.length) (rg_is _)
  refine vx_calli (mx_runV (As := [.int i, .int j]) (rest := [.int 0, .ref ou]) ⟨hx, hb, hml, hown, hts⟩ tbin (z_Trust_trust l hl0 dC dI sb γ κ Ad ν ω L G fe ho ce li sh rs se ch fo q0 pl o as foS chS faP feS wrP i j  s.heap.size hC hW0 hj) q5_133 q5_134 q5_135 q1_1 q5_136 (n := 2) (by decide +kernel) rfl ⟨rfl, rfl⟩ ⟨Nat.le_of_ble_eq_true rfl, Nat.le_of_ble_eq_true rfl⟩ ⟨Nat.le_of_ble_eq_true rfl, Nat.le_of_ble_eq_true rfl⟩ (hTh.keep hS hAs) hN (hT0.keep hS hAs) hAs (Nat.le_trans hB0 hS.1) hK hP hD (List.range G.length) (rg_nd _) (rg_is _) [0, 1, 2, 3] rfl i_1 10 hg_1 rfl rfl hl.1 rfl (Nat.le_of_ble_eq_true rfl) d_TrustChainLaw_trust_5) hS (fun q _ h => hFc q h) hFc (fun q _ h => hFc q h) (fun E cx9 q9 uX tX HX locs ht hvm hpx hBX hz1 hk1 hS hce hcv hcl => ?_) (fun r9 uN tS H5 locs ht hvm hw9 hB hz1 hk1 hS => ?_)
  · obtain ⟨⟨hCW, hF9, hpx9⟩, hB⟩ := hBX
    obtain ⟨hP1, hK1, hD1⟩ := hB
    rw [ht] at hP1
    have hP : va_P (dC, dI) classes uX.1 HX := hP1
    have hD : va_D A uX.1 := hD1.weaken (fun _ _ _ h => hFc _ h)
    have kfe : Xc Ad fe _ uX.1 := ⟨kfe.1, hF9 _ kfe.1 hfq hfp (fun _ _ => arI_ne) kfe.2⟩
    have kou : Xc Ad ou _ uX.1 := ⟨kou.1, hF9 _ kou.1 hoq hop (fun _ _ => arJ_ne) kou.2⟩
    have hE : E = "java/lang/IndexOutOfBoundsException" := hpx9.2.1
    subst hE
    refine vx_catch hown [] ⟨0, 17, 20, 13⟩ [] htab (fun z h => nomatch h) (by decide) (by decide) (htb _ q1_206) (va_Nw.use rfl (hN.1 _ qn1_213)) hce hcv hcl ?_
    refine lv_astore (lv' := [(4, .ref q9), (0, .ref q0), (1, .int i), (2, .int j), (3, .ref ou)]) hx hb d_TrustChainLaw_trust_20 hl (by decide) rfl (fun ls hl => ?_)
    refine lv_iconst (v := 1) hx hb d_TrustChainLaw_trust_22 (by decide) ?_
    exact vx_ret (x_wide 1 6 (Nat.le_of_ble_eq_true rfl) (Nat.le_of_ble_eq_true rfl) (W.iret (v := 1) hx hb hr (fun t ht hW => ⟨⟨_, (uX, ov), rfl, Or.inr ⟨⟨hC, hCW, kfe, kou, hfq, hfp, hoq, hop⟩, _, hpx9, rfl, rfl⟩, ⟨by rw [ht]; exact hP, va_K.moved hW.alike hK, hD⟩⟩, hS.F ht⟩) hS.2.2 d_TrustChainLaw_trust_23))
  · obtain ⟨hP1, hK1, hD1⟩ := hB
    rw [ht] at hP1
    have hP : va_P (dC, dI) classes uN.1 H5 := hP1
    have hD : va_D A uN.1 := hD1.weaken (fun _ _ _ h => hFc _ h)
    obtain ⟨k, hk, hik, hCW, hF9, hU9, hr9⟩ := hw9
    have kfe : Xc Ad fe _ uN.1 := ⟨kfe.1, hF9 _ kfe.1 hfq hfp (fun _ _ => arI_ne) kfe.2⟩
    have kou : Xc Ad ou _ uN.1 := ⟨kou.1, hF9 _ kou.1 hoq hop (fun _ _ => arJ_ne) kou.2⟩
    obtain ⟨G9, L9, o9, as9, f1, f2, f3, f4, f5⟩ := uN
    obtain ⟨hTy, hL, kq0, kpl, h16⟩ := hCW
    dsimp only at hTy hL kq0 kpl h16 hP hD kfe kou
    refine lv_if_eq (tgt := 15) hx hb d_TrustChainLaw_trust_8 (by decide) (fun c8 => ?_) (fun c8 => ?_)
    · have p8 : r9 = (0 : Int32) := c8
      refine lv_lconst (v := 0) hx hb d_TrustChainLaw_trust_15 (by decide) ?_
      obtain ⟨io, hgo⟩ := List.getElem?_of_mem kou.2
      refine va_last hx hb hK hP hD hS io 2 hgo rfl (by unfold vp_in; decide) d_TrustChainLaw_trust_16 (fun H16 locs hP hD2 hS => ?_)
      have hP : va_P (dC, dI) classes (G9.set io (ou, .inl (γ.2.2.1, 1, .inr (.inl (vp_updL ov (0 : Int32).toNatClampNeg (0 : Int64)))))) H16 := hP
      have hD : va_D A (G9.set io (ou, .inl (γ.2.2.1, 1, .inr (.inl (vp_updL ov (0 : Int32).toNatClampNeg (0 : Int64)))))) := hD2
      have hTy := TY.setX (c' := .inl (γ.2.2.1, 1, .inr (.inl (vp_updL ov (0 : Int32).toNatClampNeg (0 : Int64))))) hTy hgo kou.1
      have kpl := PLx.setA (c' := .inl (γ.2.2.1, 1, .inr (.inl (vp_updL ov (0 : Int32).toNatClampNeg (0 : Int64))))) kpl hgo
      have kq0 := Xc.setX (c' := .inl (γ.2.2.1, 1, .inr (.inl (vp_updL ov (0 : Int32).toNatClampNeg (0 : Int64))))) kq0 hgo (fun e => by cases e)
      have kfe := Xc.setX (c' := .inl (γ.2.2.1, 1, .inr (.inl (vp_updL ov (0 : Int32).toNatClampNeg (0 : Int64))))) kfe hgo (fun e => arI_ne (congrArg Prod.snd e))
      have kou : Xc Ad ou (.inl (γ.2.2.1, 1, .inr (.inl (vp_updL ov (0 : Int32).toNatClampNeg (0 : Int64))))) (G9.set io (ou, .inl (γ.2.2.1, 1, .inr (.inl (vp_updL ov (0 : Int32).toNatClampNeg (0 : Int64)))))) := ⟨kou.1, List.mem_of_getElem? (set_here hgo)⟩
      refine lv_goto (tgt := 24) hx hb d_TrustChainLaw_trust_17 (by decide) ?_
      refine lv_iconst (v := 0) hx hb d_TrustChainLaw_trust_24 (by decide) ?_
      exact vx_ret (x_wide 1 6 (Nat.le_of_ble_eq_true rfl) (Nat.le_of_ble_eq_true rfl) (W.iret (v := 0) hx hb hr (fun t ht hW => ⟨⟨_, ((G9.set io (ou, .inl (γ.2.2.1, 1, .inr (.inl (vp_updL ov (0 : Int32).toNatClampNeg (0 : Int64))))), L9, o9, as9, f1, f2, f3, f4, f5), (vp_updL ov (0 : Int32).toNatClampNeg (0 : Int64))), rfl, Or.inl ⟨rfl, k, hk, hik, ⟨hC, ⟨hTy, hL, kq0, kpl, h16⟩, kfe, kou, hfq, hfp, hoq, hop⟩, hU9, by rw [← hr9, if_pos p8]; rfl⟩, ⟨by rw [ht]; exact hP, va_K.moved hW.alike hK, hD⟩⟩, hS.F ht⟩) hS.2.2 d_TrustChainLaw_trust_25))
    · have p8 : ¬ (r9 = (0 : Int32)) := c8
      refine lv_lconst (v := 1) hx hb d_TrustChainLaw_trust_11 (by decide) ?_
      refine lv_goto (tgt := 16) hx hb d_TrustChainLaw_trust_12 (by decide) ?_
      obtain ⟨io, hgo⟩ := List.getElem?_of_mem kou.2
      refine va_last hx hb hK hP hD hS io 2 hgo rfl (by unfold vp_in; decide) d_TrustChainLaw_trust_16 (fun H16 locs hP hD2 hS => ?_)
      have hP : va_P (dC, dI) classes (G9.set io (ou, .inl (γ.2.2.1, 1, .inr (.inl (vp_updL ov (0 : Int32).toNatClampNeg (1 : Int64)))))) H16 := hP
      have hD : va_D A (G9.set io (ou, .inl (γ.2.2.1, 1, .inr (.inl (vp_updL ov (0 : Int32).toNatClampNeg (1 : Int64)))))) := hD2
      have hTy := TY.setX (c' := .inl (γ.2.2.1, 1, .inr (.inl (vp_updL ov (0 : Int32).toNatClampNeg (1 : Int64))))) hTy hgo kou.1
      have kpl := PLx.setA (c' := .inl (γ.2.2.1, 1, .inr (.inl (vp_updL ov (0 : Int32).toNatClampNeg (1 : Int64))))) kpl hgo
      have kq0 := Xc.setX (c' := .inl (γ.2.2.1, 1, .inr (.inl (vp_updL ov (0 : Int32).toNatClampNeg (1 : Int64))))) kq0 hgo (fun e => by cases e)
      have kfe := Xc.setX (c' := .inl (γ.2.2.1, 1, .inr (.inl (vp_updL ov (0 : Int32).toNatClampNeg (1 : Int64))))) kfe hgo (fun e => arI_ne (congrArg Prod.snd e))
      have kou : Xc Ad ou (.inl (γ.2.2.1, 1, .inr (.inl (vp_updL ov (0 : Int32).toNatClampNeg (1 : Int64))))) (G9.set io (ou, .inl (γ.2.2.1, 1, .inr (.inl (vp_updL ov (0 : Int32).toNatClampNeg (1 : Int64)))))) := ⟨kou.1, List.mem_of_getElem? (set_here hgo)⟩
      refine lv_goto (tgt := 24) hx hb d_TrustChainLaw_trust_17 (by decide) ?_
      refine lv_iconst (v := 0) hx hb d_TrustChainLaw_trust_24 (by decide) ?_
      exact vx_ret (x_wide 1 6 (Nat.le_of_ble_eq_true rfl) (Nat.le_of_ble_eq_true rfl) (W.iret (v := 0) hx hb hr (fun t ht hW => ⟨⟨_, ((G9.set io (ou, .inl (γ.2.2.1, 1, .inr (.inl (vp_updL ov (0 : Int32).toNatClampNeg (1 : Int64))))), L9, o9, as9, f1, f2, f3, f4, f5), (vp_updL ov (0 : Int32).toNatClampNeg (1 : Int64))), rfl, Or.inl ⟨rfl, k, hk, hik, ⟨hC, ⟨hTy, hL, kq0, kpl, h16⟩, kfe, kou, hfq, hfp, hoq, hop⟩, hU9, by rw [← hr9, if_neg p8]; rfl⟩, ⟨by rw [ht]; exact hP, va_K.moved hW.alike hK, hD⟩⟩, hS.F ht⟩) hS.2.2 d_TrustChainLaw_trust_25))
set_option maxHeartbeats 4000000 in
set_option maxRecDepth 100000 in
theorem zl_certificate (l : Launch) (hl0 : l.stackTraces = false) (dC : Nat → ClassId) (dI : Nat → Nat → Nat) (sb : sB) (γ : cG) (κ : kE) (Ad : List Nat) (ν : Nat → cN) (ω : Nat → List Nat) (L : Nat) (G : va_W) (fe ho ce li sh rs se ch fo q0 pl : Nat) (o : alD) (as : List Nat) (foS chS faP feS wrP : Int32) (ou : Nat) (fu : Nat → Nat) (ov : Nat → Int64) (i tr : Int32) (v : Nat → Nat) (fk : Nat) (sz : Nat) (hLW : LWx γ sb κ Ad ν ω fe ho ce li sh rs se ch fo q0 pl ou fu ov (G, L, o, as, foS, chS, faP, feS, wrP)) (hj : b01 tr) (hvb : ∀ j, v j < 256) (hv : ∀ j, j < i.toNatClampNeg → v j = fu j) (hfk : feS = nI fk) (hfk2 : fk ≤ 2060) (hnb : ∀ k9, k9 < (ω ce).length → (ν ((ω ce).getD k9 0)).2.2.2.2.2.2.2.2.2.2.2.2 = nI k9) : vx_Met l y_TrustChainLaw_certificate w_TrustChainLaw_certificate ({ frames := 14, cells := (8 * fk + 100), slots := (405 * fk + 2700), locals := 444 }) (mx_P [.ref q0, .int i, .int tr, .ref ou] (dC, dI) sb G [(γ.1, .byte), (γ.2.1, .int), (γ.2.2.1, .long), (γ.2.2.2, .object "java/lang/Object")] sz) (va_Qi (fun r (u' : cU × (Nat → Int64)) => (r = 0 ∧ ∃ (κ' : kE) (Ad' : List Nat) (res : Nat) (ω1 : Nat → List Nat) (ν2 : Nat → cN) (Ω : Nat → List Nat), res ∉ Ad ∧ (∀ b, b ∈ Ad → (κ b).1 ≠ 14 → κ' b = κ b ∧ b ∈ Ad') ∧ LWx γ sb κ' Ad' (nuR ν2 res ((rd_cert v i.toNatClampNeg (0, 0, none) 0 0 (0, 0) (0, 0) 0 (-1) (-1) [] [] [] [] [] [] []).2.2.2.2.2.2.2.2.2.1, (rd_cert v i.toNatClampNeg (0, 0, none) 0 0 (0, 0) (0, 0) 0 (-1) (-1) [] [] [] [] [] [] []).2.2.2.2.2.2.2.2.2.2.1, (rd_cert v i.toNatClampNeg (0, 0, none) 0 0 (0, 0) (0, 0) 0 (-1) (-1) [] [] [] [] [] [] []).2.2.2.2.2.2.2.2.2.2.2.1, (rd_cert v i.toNatClampNeg (0, 0, none) 0 0 (0, 0) (0, 0) 0 (-1) (-1) [] [] [] [] [] [] []).2.2.2.2.2.2.2.2.2.2.2.2.1, (rd_cert v i.toNatClampNeg (0, 0, none) 0 0 (0, 0) (0, 0) 0 (-1) (-1) [] [] [] [] [] [] []).2.2.2.2.2.2.2.2.2.2.2.2.2.1, (rd_cert v i.toNatClampNeg (0, 0, none) 0 0 (0, 0) (0, 0) 0 (-1) (-1) [] [] [] [] [] [] []).2.2.2.2.2.2.2.2.2.2.2.2.2.2.1, (rd_cert v i.toNatClampNeg (0, 0, none) 0 0 (0, 0) (0, 0) 0 (-1) (-1) [] [] [] [] [] [] []).2.2.2.2.2.2.2.2.2.2.2.2.2.2.2.1, (rd_cert v i.toNatClampNeg (0, 0, none) 0 0 (0, 0) (0, 0) 0 (-1) (-1) [] [] [] [] [] [] []).2.2.2.2.2.2.2.2.2.2.2.2.2.2.2.2.1, tr, (rd_cert v i.toNatClampNeg (0, 0, none) 0 0 (0, 0) (0, 0) 0 (-1) (-1) [] [] [] [] [] [] []).2.2.2.2.2.2.2.2.2.2.2.2.2.2.2.2.2.2.1, (rd_cert v i.toNatClampNeg (0, 0, none) 0 0 (0, 0) (0, 0) 0 (-1) (-1) [] [] [] [] [] [] []).2.2.2.2.2.2.2.2.2.2.2.2.2.2.2.2.2.2.2.1, (rd_cert v i.toNatClampNeg (0, 0, none) 0 0 (0, 0) (0, 0) 0 (-1) (-1) [] [] [] [] [] [] []).2.2.2.2.2.2.2.2.2.2.2.2.2.2.2.2.2.1, (nI (ω ce).length))) Ω fe ho ce li sh rs se ch fo q0 pl ou fu u'.2 u'.1 ∧ tK κ' Ad' res (8, (rd_cert v i.toNatClampNeg (0, 0, none) 0 0 (0, 0) (0, 0) 0 (-1) (-1) [] [] [] [] [] [] []).2.2.2.2.2.2.2.2.2.2.2.2.2.2.2.2.2.2.2.2.1.length, (rd_cert v i.toNatClampNeg (0, 0, none) 0 0 (0, 0) (0, 0) 0 (-1) (-1) [] [] [] [] [] [] []).2.1.2 - (rd_cert v i.toNatClampNeg (0, 0, none) 0 0 (0, 0) (0, 0) 0 (-1) (-1) [] [] [] [] [] [] []).2.1.1) ∧ u'.1.2.2.2.2 = (foS, chS, faP, 0, -1) ∧ (¬ i < 0 ∧ i ≤ 2048 ∧ i ≤ feS) ∧ (ω ce).length < 16 ∧ (rd_cert v i.toNatClampNeg (0, 0, none) 0 0 (0, 0) (0, 0) 0 (-1) (-1) [] [] [] [] [] [] []).1.2.2 = none ∧ u'.2 = vp_updL ov 0 (nI (ω ce).length).toInt64 ∧ (∀ b, b ∈ Ad → ω1 b = ω b) ∧ (∀ b, b ∈ Ad → ν2 b = ν b) ∧ ((∀ b, (κ' b).1 ≠ 4 → Ω b = wU ω1 ce res b) ∧ (∀ b, (Ω b).getD 0 0 = (wU ω1 ce res b).getD 0 0)) ∧ (∀ d9, d9 < ((wU ω1 ce res) ce).length → ∀ k9, k9 < 16 → (bJ (nI ((Ω (((wU ω1 ce res) (((wU ω1 ce res) ce).getD d9 0)).getD 12 0)).getD 1 0)) k9 = true ↔ lkP (fun d8 k8 => bJ (nI (((wU ω1 ce res) (((wU ω1 ce res) (((wU ω1 ce res) ce).getD d8 0)).getD 12 0)).getD 1 0)) k8 = true) (fun k8 d8 => folQ (cO κ' (nuR ν2 res ((rd_cert v i.toNatClampNeg (0, 0, none) 0 0 (0, 0) (0, 0) 0 (-1) (-1) [] [] [] [] [] [] []).2.2.2.2.2.2.2.2.2.1, (rd_cert v i.toNatClampNeg (0, 0, none) 0 0 (0, 0) (0, 0) 0 (-1) (-1) [] [] [] [] [] [] []).2.2.2.2.2.2.2.2.2.2.1, (rd_cert v i.toNatClampNeg (0, 0, none) 0 0 (0, 0) (0, 0) 0 (-1) (-1) [] [] [] [] [] [] []).2.2.2.2.2.2.2.2.2.2.2.1, (rd_cert v i.toNatClampNeg (0, 0, none) 0 0 (0, 0) (0, 0) 0 (-1) (-1) [] [] [] [] [] [] []).2.2.2.2.2.2.2.2.2.2.2.2.1, (rd_cert v i.toNatClampNeg (0, 0, none) 0 0 (0, 0) (0, 0) 0 (-1) (-1) [] [] [] [] [] [] []).2.2.2.2.2.2.2.2.2.2.2.2.2.1, (rd_cert v i.toNatClampNeg (0, 0, none) 0 0 (0, 0) (0, 0) 0 (-1) (-1) [] [] [] [] [] [] []).2.2.2.2.2.2.2.2.2.2.2.2.2.2.1, (rd_cert v i.toNatClampNeg (0, 0, none) 0 0 (0, 0) (0, 0) 0 (-1) (-1) [] [] [] [] [] [] []).2.2.2.2.2.2.2.2.2.2.2.2.2.2.2.1, (rd_cert v i.toNatClampNeg (0, 0, none) 0 0 (0, 0) (0, 0) 0 (-1) (-1) [] [] [] [] [] [] []).2.2.2.2.2.2.2.2.2.2.2.2.2.2.2.2.1, tr, (rd_cert v i.toNatClampNeg (0, 0, none) 0 0 (0, 0) (0, 0) 0 (-1) (-1) [] [] [] [] [] [] []).2.2.2.2.2.2.2.2.2.2.2.2.2.2.2.2.2.2.1, (rd_cert v i.toNatClampNeg (0, 0, none) 0 0 (0, 0) (0, 0) 0 (-1) (-1) [] [] [] [] [] [] []).2.2.2.2.2.2.2.2.2.2.2.2.2.2.2.2.2.2.2.1, (rd_cert v i.toNatClampNeg (0, 0, none) 0 0 (0, 0) (0, 0) 0 (-1) (-1) [] [] [] [] [] [] []).2.2.2.2.2.2.2.2.2.2.2.2.2.2.2.2.2.1, (nI (ω ce).length))) (wU ω1 ce res) (((wU ω1 ce res) ce).getD k8 0)) (cO κ' (nuR ν2 res ((rd_cert v i.toNatClampNeg (0, 0, none) 0 0 (0, 0) (0, 0) 0 (-1) (-1) [] [] [] [] [] [] []).2.2.2.2.2.2.2.2.2.1, (rd_cert v i.toNatClampNeg (0, 0, none) 0 0 (0, 0) (0, 0) 0 (-1) (-1) [] [] [] [] [] [] []).2.2.2.2.2.2.2.2.2.2.1, (rd_cert v i.toNatClampNeg (0, 0, none) 0 0 (0, 0) (0, 0) 0 (-1) (-1) [] [] [] [] [] [] []).2.2.2.2.2.2.2.2.2.2.2.1, (rd_cert v i.toNatClampNeg (0, 0, none) 0 0 (0, 0) (0, 0) 0 (-1) (-1) [] [] [] [] [] [] []).2.2.2.2.2.2.2.2.2.2.2.2.1, (rd_cert v i.toNatClampNeg (0, 0, none) 0 0 (0, 0) (0, 0) 0 (-1) (-1) [] [] [] [] [] [] []).2.2.2.2.2.2.2.2.2.2.2.2.2.1, (rd_cert v i.toNatClampNeg (0, 0, none) 0 0 (0, 0) (0, 0) 0 (-1) (-1) [] [] [] [] [] [] []).2.2.2.2.2.2.2.2.2.2.2.2.2.2.1, (rd_cert v i.toNatClampNeg (0, 0, none) 0 0 (0, 0) (0, 0) 0 (-1) (-1) [] [] [] [] [] [] []).2.2.2.2.2.2.2.2.2.2.2.2.2.2.2.1, (rd_cert v i.toNatClampNeg (0, 0, none) 0 0 (0, 0) (0, 0) 0 (-1) (-1) [] [] [] [] [] [] []).2.2.2.2.2.2.2.2.2.2.2.2.2.2.2.2.1, tr, (rd_cert v i.toNatClampNeg (0, 0, none) 0 0 (0, 0) (0, 0) 0 (-1) (-1) [] [] [] [] [] [] []).2.2.2.2.2.2.2.2.2.2.2.2.2.2.2.2.2.2.1, (rd_cert v i.toNatClampNeg (0, 0, none) 0 0 (0, 0) (0, 0) 0 (-1) (-1) [] [] [] [] [] [] []).2.2.2.2.2.2.2.2.2.2.2.2.2.2.2.2.2.2.2.1, (rd_cert v i.toNatClampNeg (0, 0, none) 0 0 (0, 0) (0, 0) 0 (-1) (-1) [] [] [] [] [] [] []).2.2.2.2.2.2.2.2.2.2.2.2.2.2.2.2.2.1, (nI (ω ce).length))) (wU ω1 ce res) (((wU ω1 ce res) ce).getD d8 0))) (ω ce).length ((wU ω1 ce res) ce).length d9 k9)) ∧ cO κ' (nuR ν2 res ((rd_cert v i.toNatClampNeg (0, 0, none) 0 0 (0, 0) (0, 0) 0 (-1) (-1) [] [] [] [] [] [] []).2.2.2.2.2.2.2.2.2.1, (rd_cert v i.toNatClampNeg (0, 0, none) 0 0 (0, 0) (0, 0) 0 (-1) (-1) [] [] [] [] [] [] []).2.2.2.2.2.2.2.2.2.2.1, (rd_cert v i.toNatClampNeg (0, 0, none) 0 0 (0, 0) (0, 0) 0 (-1) (-1) [] [] [] [] [] [] []).2.2.2.2.2.2.2.2.2.2.2.1, (rd_cert v i.toNatClampNeg (0, 0, none) 0 0 (0, 0) (0, 0) 0 (-1) (-1) [] [] [] [] [] [] []).2.2.2.2.2.2.2.2.2.2.2.2.1, (rd_cert v i.toNatClampNeg (0, 0, none) 0 0 (0, 0) (0, 0) 0 (-1) (-1) [] [] [] [] [] [] []).2.2.2.2.2.2.2.2.2.2.2.2.2.1, (rd_cert v i.toNatClampNeg (0, 0, none) 0 0 (0, 0) (0, 0) 0 (-1) (-1) [] [] [] [] [] [] []).2.2.2.2.2.2.2.2.2.2.2.2.2.2.1, (rd_cert v i.toNatClampNeg (0, 0, none) 0 0 (0, 0) (0, 0) 0 (-1) (-1) [] [] [] [] [] [] []).2.2.2.2.2.2.2.2.2.2.2.2.2.2.2.1, (rd_cert v i.toNatClampNeg (0, 0, none) 0 0 (0, 0) (0, 0) 0 (-1) (-1) [] [] [] [] [] [] []).2.2.2.2.2.2.2.2.2.2.2.2.2.2.2.2.1, tr, (rd_cert v i.toNatClampNeg (0, 0, none) 0 0 (0, 0) (0, 0) 0 (-1) (-1) [] [] [] [] [] [] []).2.2.2.2.2.2.2.2.2.2.2.2.2.2.2.2.2.2.1, (rd_cert v i.toNatClampNeg (0, 0, none) 0 0 (0, 0) (0, 0) 0 (-1) (-1) [] [] [] [] [] [] []).2.2.2.2.2.2.2.2.2.2.2.2.2.2.2.2.2.2.2.1, (rd_cert v i.toNatClampNeg (0, 0, none) 0 0 (0, 0) (0, 0) 0 (-1) (-1) [] [] [] [] [] [] []).2.2.2.2.2.2.2.2.2.2.2.2.2.2.2.2.2.1, (nI (ω ce).length))) (wU ω1 ce res) res = cQm v (rd_cert v i.toNatClampNeg (0, 0, none) 0 0 (0, 0) (0, 0) 0 (-1) (-1) [] [] [] [] [] [] []).2.2.1 (rd_cert v i.toNatClampNeg (0, 0, none) 0 0 (0, 0) (0, 0) 0 (-1) (-1) [] [] [] [] [] [] []).2.2.2.1 (rd_cert v i.toNatClampNeg (0, 0, none) 0 0 (0, 0) (0, 0) 0 (-1) (-1) [] [] [] [] [] [] []).2.1 (rd_cert v i.toNatClampNeg (0, 0, none) 0 0 (0, 0) (0, 0) 0 (-1) (-1) [] [] [] [] [] [] []).2.2.2.2.2.2.2.1 (rd_cert v i.toNatClampNeg (0, 0, none) 0 0 (0, 0) (0, 0) 0 (-1) (-1) [] [] [] [] [] [] []).2.2.2.2.2.2.2.2.1 (rd_cert v i.toNatClampNeg (0, 0, none) 0 0 (0, 0) (0, 0) 0 (-1) (-1) [] [] [] [] [] [] []).2.2.2.2.2.2.2.2.2.2.2.2.2.2.2.2.2.2.2.2.1 (rd_cert v i.toNatClampNeg (0, 0, none) 0 0 (0, 0) (0, 0) 0 (-1) (-1) [] [] [] [] [] [] []).2.2.2.2.2.2.2.2.2.2.2.2.2.2.2.2.2.2.2.2.2.1 (rd_cert v i.toNatClampNeg (0, 0, none) 0 0 (0, 0) (0, 0) 0 (-1) (-1) [] [] [] [] [] [] []).2.2.2.2.2.2.2.2.2.2.2.2.2.2.2.2.2.2.2.2.2.2.1 (rd_cert v i.toNatClampNeg (0, 0, none) 0 0 (0, 0) (0, 0) 0 (-1) (-1) [] [] [] [] [] [] []).2.2.2.2.2.2.2.2.2.2.2.2.2.2.2.2.2.2.2.2.2.2.2.1 (rd_cert v i.toNatClampNeg (0, 0, none) 0 0 (0, 0) (0, 0) 0 (-1) (-1) [] [] [] [] [] [] []).2.2.2.2.2.2.2.2.2.2.2.2.2.2.2.2.2.2.2.2.2.2.2.2.1 (rd_cert v i.toNatClampNeg (0, 0, none) 0 0 (0, 0) (0, 0) 0 (-1) (-1) [] [] [] [] [] [] []).2.2.2.2.2.2.2.2.2.2.2.2.2.2.2.2.2.2.2.2.2.2.2.2.2.1 (rd_cert v i.toNatClampNeg (0, 0, none) 0 0 (0, 0) (0, 0) 0 (-1) (-1) [] [] [] [] [] [] []).2.2.2.2.2.2.2.2.2.2.2.2.2.2.2.2.2.2.1 (rd_cert v i.toNatClampNeg (0, 0, none) 0 0 (0, 0) (0, 0) 0 (-1) (-1) [] [] [] [] [] [] []).2.2.2.2.2.2.2.2.2.2.2.2.2.2.2.2.2.2.2.1 (rd_cert v i.toNatClampNeg (0, 0, none) 0 0 (0, 0) (0, 0) 0 (-1) (-1) [] [] [] [] [] [] []).2.2.2.2.2.2.2.2.2.2.2.2.2.2.2.2.2.1 (rd_cert v i.toNatClampNeg (0, 0, none) 0 0 (0, 0) (0, 0) 0 (-1) (-1) [] [] [] [] [] [] []).2.2.2.2.2.2.2.2.2.2.2.2.1 (rd_cert v i.toNatClampNeg (0, 0, none) 0 0 (0, 0) (0, 0) 0 (-1) (-1) [] [] [] [] [] [] []).2.2.2.2.2.2.2.2.2.2.2.2.2.1 (rd_cert v i.toNatClampNeg (0, 0, none) 0 0 (0, 0) (0, 0) 0 (-1) (-1) [] [] [] [] [] [] []).2.2.2.2.2.2.2.2.2.2.2.2.2.2.1 (rd_cert v i.toNatClampNeg (0, 0, none) 0 0 (0, 0) (0, 0) 0 (-1) (-1) [] [] [] [] [] [] []).2.2.2.2.2.2.2.2.2.1 ∧ (∀ j, j < 8 → wN (nuR ν2 res ((rd_cert v i.toNatClampNeg (0, 0, none) 0 0 (0, 0) (0, 0) 0 (-1) (-1) [] [] [] [] [] [] []).2.2.2.2.2.2.2.2.2.1, (rd_cert v i.toNatClampNeg (0, 0, none) 0 0 (0, 0) (0, 0) 0 (-1) (-1) [] [] [] [] [] [] []).2.2.2.2.2.2.2.2.2.2.1, (rd_cert v i.toNatClampNeg (0, 0, none) 0 0 (0, 0) (0, 0) 0 (-1) (-1) [] [] [] [] [] [] []).2.2.2.2.2.2.2.2.2.2.2.1, (rd_cert v i.toNatClampNeg (0, 0, none) 0 0 (0, 0) (0, 0) 0 (-1) (-1) [] [] [] [] [] [] []).2.2.2.2.2.2.2.2.2.2.2.2.1, (rd_cert v i.toNatClampNeg (0, 0, none) 0 0 (0, 0) (0, 0) 0 (-1) (-1) [] [] [] [] [] [] []).2.2.2.2.2.2.2.2.2.2.2.2.2.1, (rd_cert v i.toNatClampNeg (0, 0, none) 0 0 (0, 0) (0, 0) 0 (-1) (-1) [] [] [] [] [] [] []).2.2.2.2.2.2.2.2.2.2.2.2.2.2.1, (rd_cert v i.toNatClampNeg (0, 0, none) 0 0 (0, 0) (0, 0) 0 (-1) (-1) [] [] [] [] [] [] []).2.2.2.2.2.2.2.2.2.2.2.2.2.2.2.1, (rd_cert v i.toNatClampNeg (0, 0, none) 0 0 (0, 0) (0, 0) 0 (-1) (-1) [] [] [] [] [] [] []).2.2.2.2.2.2.2.2.2.2.2.2.2.2.2.2.1, tr, (rd_cert v i.toNatClampNeg (0, 0, none) 0 0 (0, 0) (0, 0) 0 (-1) (-1) [] [] [] [] [] [] []).2.2.2.2.2.2.2.2.2.2.2.2.2.2.2.2.2.2.1, (rd_cert v i.toNatClampNeg (0, 0, none) 0 0 (0, 0) (0, 0) 0 (-1) (-1) [] [] [] [] [] [] []).2.2.2.2.2.2.2.2.2.2.2.2.2.2.2.2.2.2.2.1, (rd_cert v i.toNatClampNeg (0, 0, none) 0 0 (0, 0) (0, 0) 0 (-1) (-1) [] [] [] [] [] [] []).2.2.2.2.2.2.2.2.2.2.2.2.2.2.2.2.2.1, (nI (ω ce).length)) ((wU ω1 ce res res).getD 0 0)) j = hsV v (rd_cert v i.toNatClampNeg (0, 0, none) 0 0 (0, 0) (0, 0) 0 (-1) (-1) [] [] [] [] [] [] []).2.2.2.2.2.1.1 (rd_cert v i.toNatClampNeg (0, 0, none) 0 0 (0, 0) (0, 0) 0 (-1) (-1) [] [] [] [] [] [] []).2.2.2.2.2.1.2 j) ∧ ∃ (ha si mo sg : Nat) (rs9 : List Nat), wU ω1 ce res res = ha :: si :: mo :: sg :: rs9 ∧ (wU ω1 ce res ((wU ω1 ce res res).getD 12 0)).getD 1 0 = 0 ∧ wU ω1 ce res si = [] ∧ tK κ' Ad' mo (2, (rd_cert v i.toNatClampNeg (0, 0, none) 0 0 (0, 0) (0, 0) 0 (-1) (-1) [] [] [] [] [] [] []).2.2.2.2.1.2 - (rd_cert v i.toNatClampNeg (0, 0, none) 0 0 (0, 0) (0, 0) 0 (-1) (-1) [] [] [] [] [] [] []).2.2.2.2.1.1, 1) ∧ tK κ' Ad' sg (2, (rd_cert v i.toNatClampNeg (0, 0, none) 0 0 (0, 0) (0, 0) 0 (-1) (-1) [] [] [] [] [] [] []).2.2.2.2.2.2.1.2 - (rd_cert v i.toNatClampNeg (0, 0, none) 0 0 (0, 0) (0, 0) 0 (-1) (-1) [] [] [] [] [] [] []).2.2.2.2.2.2.1.1, 1) ∧ slO (wU ω1 ce res) mo ((rd_cert v i.toNatClampNeg (0, 0, none) 0 0 (0, 0) (0, 0) 0 (-1) (-1) [] [] [] [] [] [] []).2.2.2.2.1.2 - (rd_cert v i.toNatClampNeg (0, 0, none) 0 0 (0, 0) (0, 0) 0 (-1) (-1) [] [] [] [] [] [] []).2.2.2.2.1.1) = ocE v (rd_cert v i.toNatClampNeg (0, 0, none) 0 0 (0, 0) (0, 0) 0 (-1) (-1) [] [] [] [] [] [] []).2.2.2.2.1 ∧ slO (wU ω1 ce res) sg ((rd_cert v i.toNatClampNeg (0, 0, none) 0 0 (0, 0) (0, 0) 0 (-1) (-1) [] [] [] [] [] [] []).2.2.2.2.2.2.1.2 - (rd_cert v i.toNatClampNeg (0, 0, none) 0 0 (0, 0) (0, 0) 0 (-1) (-1) [] [] [] [] [] [] []).2.2.2.2.2.2.1.1) = ocE v (rd_cert v i.toNatClampNeg (0, 0, none) 0 0 (0, 0) (0, 0) 0 (-1) (-1) [] [] [] [] [] [] []).2.2.2.2.2.2.1 ∧ ∀ b, b ∈ Ad' → (κ' b).1 = 8 ∨ (κ' b).1 = 9 → (b ∈ Ad ∧ κ' b = κ b) ∨ b = res) ∨ (LWx γ sb κ Ad ν ω fe ho ce li sh rs se ch fo q0 pl ou fu u'.2 u'.1 ∧ ∃ E : String, ((u'.1.2.2.2.2 = (foS, chS, faP, feS, wrP) ∧ E = "java/lang/IndexOutOfBoundsException" ∧ ¬ ((¬ i < 0 ∧ i ≤ 2048 ∧ i ≤ feS) ∧ (ω ce).length < 16)) ∨ (E = "java/lang/IllegalArgumentException" ∧ (¬ i < 0 ∧ i ≤ 2048 ∧ i ≤ feS) ∧ (ω ce).length < 16 ∧ ∃ w, (rd_cert v i.toNatClampNeg (0, 0, none) 0 0 (0, 0) (0, 0) 0 (-1) (-1) [] [] [] [] [] [] []).1.2.2 = some w ∧ u'.1.2.2.2.2 = (foS, chS, faP, 0, nI w))) ∧ r = (if E = "java/lang/IllegalArgumentException" then 2 else 1) ∧ u'.2 = ov)) (mu_B (dC, dI) [(γ.1, .byte), (γ.2.1, .int), (γ.2.2.1, .long), (γ.2.2.2, .object "java/lang/Object")] (va_A G sz) (fun u' : cU × (Nat → Int64) => u'.1.1)) (va_A G sz)) (mx_X (fun (E : String) (u' : cU × (Nat → Int64)) => False) (dC, dI) [(γ.1, .byte), (γ.2.1, .int), (γ.2.2.1, .long), (γ.2.2.2, .object "java/lang/Object")] (va_A G sz) (fun u' : cU × (Nat → Int64) => u'.1.1)) (8 * fk + 100) (405 * fk + 2700) (va_A G sz) := by
  refine vx_ofWH (cc := b_TrustChainLaw_certificate) (maxL := 5) (ret := (some FieldType.int)) (by decide) rfl ?_
  intro p e s m args below meth c s₁ B hml hv
  obtain ⟨rfl, hsz, hB0, hP, hK, hD0, hN, hT0, hTh⟩ := hv
  have hx := B.exec
  have hb := B.bytes
  have hr := B.returns
  have hts := atoms_spec (ws := w_TrustChainLaw_certificate) B.pre
  have htab : c.exceptionTable.toList = tableOf [(0, 10, 13, 13), (0, 10, 17, 19)] := vx_table (x := y_TrustChainLaw_certificate) B (hts _ List.mem_cons_self)
  have tbin : ∀ w ∈ tb, w ∈ w_TrustChainLaw_certificate := fun w h => List.mem_cons_of_mem _ h
  have htb : ∀ w ∈ tb, w.before _ s = true := fun w h => hts w (tbin w h)
  have hown : s.vm.findClass "TrustChainLaw" = some m.cls := findClass_of_methodNamed B.named
  have hlocks := B.notSynchronized
  subst hsz
  have hD := hD0.self (sz := s.heap.size)
  generalize hAe : va_A G s.heap.size = A at hD ⊢
  have hA : ∀ q : Nat, s.heap.size ≤ q → A q := fun q h => by rw [← hAe]; exact Or.inr h
  have hAs : ∀ q : Nat, A q → sb.1 ≤ q := fun q h => by
    rw [← hAe] at h
    rcases h with ⟨k, e, h⟩ | h
    · exact hD0.2 k _ h
    · exact Nat.le_trans hB0 h
  have hS : va_S A s.heap s.heap [] := va_S.rf
  have hcs : (8 * fk + 100) ≤ (headSpec w_TrustChainLaw_certificate ({ frames := 14, cells := (8 * fk + 100), slots := (405 * fk + 2700), locals := 444 })).room.cells ∧ (405 * fk + 2700) ≤ (headSpec w_TrustChainLaw_certificate ({ frames := 14, cells := (8 * fk + 100), slots := (405 * fk + 2700), locals := 444 })).room.slots := ⟨Nat.le_refl _, Nat.le_refl _⟩
  have hP : va_P (dC, dI) classes G s.heap := hP
  obtain ⟨hC, hW0, kfe, kou, hfq, hfp, hoq, hop⟩ := hLW
  dsimp only at kfe kou
  have kq0 := hW0.2.2.1
  dsimp only at kq0
  have hl := lv_entry ([.ref q0, .int i, .int tr, .ref ou]) (n := 5) (Nat.le_of_ble_eq_true rfl)
  rw [lg_entry_eq]
  generalize (lg_sl ([.ref q0, .int i, .int tr, .ref ou]) ++ List.replicate (5 - (lg_sl ([.ref q0, .int i, .int tr, .ref ou])).length) Slot.unset).toArray = ls at hl ⊢
  have hl : lv_has ls 5 [(0, .ref q0), (1, .int i), (2, .int tr), (3, .ref ou)] := hl
  refine lv_aload_n hx hb d_TrustChainLaw_certificate_0 rfl (lv_at hl 3 rfl) ?_
  refine lv_iconst (v := 0) hx hb d_TrustChainLaw_certificate_1 (by decide) ?_
  refine lv_aload_n hx hb d_TrustChainLaw_certificate_2 rfl (lv_at hl 0 rfl) ?_
  refine lv_iload_n hx hb d_TrustChainLaw_certificate_3 rfl (lv_at hl 1 rfl) ?_
  refine lv_iload_n hx hb d_TrustChainLaw_certificate_4 rfl (lv_at hl 2 rfl) ?_
  obtain ⟨i_1, hg_1⟩ := List.getElem?_of_mem kq0.2
  have hFc := va_free (wc := G) hD hS hA (List.range G.length) (rg_is _)
  refine vx_calli (mx_runV (As := [.int i, .int tr]) (rest := [.int 0, .ref ou]) ⟨hx, hb, hml, hown, hts⟩ tbin (z_Trust_certificate l hl0 dC dI sb γ κ Ad ν ω L G fe ho ce li sh rs se ch fo q0 pl o as foS chS faP feS wrP i tr fu v fk s.heap.size hC hW0 hj kfe hvb hv hfk hfk2 hnb) q2_45 q2_46 q2_47 q1_1 q2_48 (n := 2) (by decide +kernel) rfl ⟨rfl, rfl⟩ ⟨Nat.le_of_ble_eq_true rfl, Nat.le_of_ble_eq_true rfl⟩ ⟨(by omega), (by omega)⟩ (hTh.keep hS hAs) hN (hT0.keep hS hAs) hAs (Nat.le_trans hB0 hS.1) hK hP hD (List.range G.length) (rg_nd _) (rg_is _) [0, 1, 2, 3] rfl i_1 10 hg_1 rfl rfl hl.1 rfl (Nat.le_of_ble_eq_true rfl) d_TrustChainLaw_certificate_5) hS (fun q _ h => hFc q h) hFc (fun q _ h => hFc q h) (fun E cx9 q9 uX tX HX locs ht hvm hpx hBX hz1 hk1 hS hce hcv hcl => ?_) (fun r9 uN tS H5 locs ht hvm hw9 hB hz1 hk1 hS => ?_)
  · obtain ⟨⟨hCW, hF9, hpx9⟩, hB⟩ := hBX
    obtain ⟨hP1, hK1, hD1⟩ := hB
    rw [ht] at hP1
    have hP : va_P (dC, dI) classes uX.1 HX := hP1
    have hD : va_D A uX.1 := hD1.weaken (fun _ _ _ h => hFc _ h)
    have kfe : Xc Ad fe _ uX.1 := ⟨kfe.1, hF9 _ kfe.1 hfq hfp (fun _ _ => arI_ne) kfe.2⟩
    have kou : Xc Ad ou _ uX.1 := ⟨kou.1, hF9 _ kou.1 hoq hop (fun _ _ => arJ_ne) kou.2⟩
    have hEs : E = "java/lang/IndexOutOfBoundsException" ∨ E = "java/lang/IllegalArgumentException" := hpx9.elim (fun h => Or.inl h.2.1) (fun h => Or.inr h.1)
    rcases hEs with hE | hE
    · subst hE
      refine vx_catch hown [] ⟨0, 10, 13, 13⟩ [⟨0, 10, 17, 19⟩] htab (fun z h => nomatch h) (by decide) (by decide) (htb _ q1_206) (va_Nw.use rfl (hN.1 _ qn1_213)) hce hcv hcl ?_
      refine lv_astore (lv' := [(4, .ref q9), (0, .ref q0), (1, .int i), (2, .int tr), (3, .ref ou)]) hx hb d_TrustChainLaw_certificate_13 hl (by decide) rfl (fun ls hl => ?_)
      refine lv_iconst (v := 1) hx hb d_TrustChainLaw_certificate_15 (by decide) ?_
      exact vx_ret (x_wide (8 * fk + 100) (405 * fk + 2700) (by omega) (by omega) (W.iret (v := 1) hx hb hr (fun t ht hW => ⟨⟨_, (uX, ov), rfl, Or.inr ⟨⟨hC, hCW, kfe, kou, hfq, hfp, hoq, hop⟩, _, hpx9, (if_neg (by decide)).symm, rfl⟩, ⟨by rw [ht]; exact hP, va_K.moved hW.alike hK, hD⟩⟩, hS.F ht⟩) hS.2.2 d_TrustChainLaw_certificate_16))
    · subst hE
      refine vx_catch hown [⟨0, 10, 13, 13⟩] ⟨0, 10, 17, 19⟩ [] htab (fun z h => by rw [List.mem_singleton.mp h]; exact Or.inr ⟨by decide, _, htb _ q1_206, hTh.2.2.2.1⟩) (by decide) (by decide) (htb _ q2_44) (va_Nw.use rfl (hN.1 _ qn4_235)) hce hcv hcl ?_
      refine lv_astore (lv' := [(4, .ref q9), (0, .ref q0), (1, .int i), (2, .int tr), (3, .ref ou)]) hx hb d_TrustChainLaw_certificate_17 hl (by decide) rfl (fun ls hl => ?_)
      refine lv_iconst (v := 2) hx hb d_TrustChainLaw_certificate_19 (by decide) ?_
      exact vx_ret (x_wide (8 * fk + 100) (405 * fk + 2700) (by omega) (by omega) (W.iret (v := 2) hx hb hr (fun t ht hW => ⟨⟨_, (uX, ov), rfl, Or.inr ⟨⟨hC, hCW, kfe, kou, hfq, hfp, hoq, hop⟩, _, hpx9, (if_pos rfl).symm, rfl⟩, ⟨by rw [ht]; exact hP, va_K.moved hW.alike hK, hD⟩⟩, hS.F ht⟩) hS.2.2 d_TrustChainLaw_certificate_20))
  · obtain ⟨hP1, hK1, hD1⟩ := hB
    rw [ht] at hP1
    have hP : va_P (dC, dI) classes uN.1 H5 := hP1
    have hD : va_D A uN.1 := hD1.weaken (fun _ _ _ h => hFc _ h)
    obtain ⟨κ', Ad', res, ω1, ν2, Ω, hrn, hext, hC9, hCW, kres, hF9, hfr9, hU9, hfd, hln, hno, hr9, hω1, hν2, hhs⟩ := hw9
    have kfe : Xc Ad' fe _ uN.1 := ⟨hfr9 _ kfe.1 hfq hfp (fun _ _ => arI_ne) kfe.2, hF9 _ kfe.1 hfq hfp (fun _ _ => arI_ne) kfe.2⟩
    have kou : Xc Ad' ou _ uN.1 := ⟨hfr9 _ kou.1 hoq hop (fun _ _ => arJ_ne) kou.2, hF9 _ kou.1 hoq hop (fun _ _ => arJ_ne) kou.2⟩
    obtain ⟨G9, L9, o9, as9, f1, f2, f3, f4, f5⟩ := uN
    obtain ⟨hTy, hL, kq0, kpl, h16⟩ := hCW
    dsimp only at hTy hL kq0 kpl h16 hP hD kfe kou
    refine lv_i2l (v := r9.toInt64) hx hb d_TrustChainLaw_certificate_8 rfl ?_
    obtain ⟨io, hgo⟩ := List.getElem?_of_mem kou.2
    refine va_last hx hb hK hP hD hS io 2 hgo rfl (by unfold vp_in; decide) d_TrustChainLaw_certificate_9 (fun H9 locs hP hD2 hS => ?_)
    have hP : va_P (dC, dI) classes (G9.set io (ou, .inl (γ.2.2.1, 1, .inr (.inl (vp_updL ov (0 : Int32).toNatClampNeg r9.toInt64))))) H9 := hP
    have hD : va_D A (G9.set io (ou, .inl (γ.2.2.1, 1, .inr (.inl (vp_updL ov (0 : Int32).toNatClampNeg r9.toInt64))))) := hD2
    have hTy := TY.setX (c' := .inl (γ.2.2.1, 1, .inr (.inl (vp_updL ov (0 : Int32).toNatClampNeg r9.toInt64)))) hTy hgo kou.1
    have kpl := PLx.setA (c' := .inl (γ.2.2.1, 1, .inr (.inl (vp_updL ov (0 : Int32).toNatClampNeg r9.toInt64)))) kpl hgo
    have kq0 := Xc.setX (c' := .inl (γ.2.2.1, 1, .inr (.inl (vp_updL ov (0 : Int32).toNatClampNeg r9.toInt64)))) kq0 hgo (fun e => by cases e)
    have kfe := Xc.setX (c' := .inl (γ.2.2.1, 1, .inr (.inl (vp_updL ov (0 : Int32).toNatClampNeg r9.toInt64)))) kfe hgo (fun e => arI_ne (congrArg Prod.snd e))
    have kou : Xc Ad' ou (.inl (γ.2.2.1, 1, .inr (.inl (vp_updL ov (0 : Int32).toNatClampNeg r9.toInt64)))) (G9.set io (ou, .inl (γ.2.2.1, 1, .inr (.inl (vp_updL ov (0 : Int32).toNatClampNeg r9.toInt64))))) := ⟨kou.1, List.mem_of_getElem? (set_here hgo)⟩
    refine lv_goto (tgt := 21) hx hb d_TrustChainLaw_certificate_10 (by decide) ?_
    refine lv_iconst (v := 0) hx hb d_TrustChainLaw_certificate_21 (by decide) ?_
    exact vx_ret (x_wide (8 * fk + 100) (405 * fk + 2700) (by omega) (by omega) (W.iret (v := 0) hx hb hr (fun t ht hW => ⟨⟨_, ((G9.set io (ou, .inl (γ.2.2.1, 1, .inr (.inl (vp_updL ov (0 : Int32).toNatClampNeg r9.toInt64)))), L9, o9, as9, f1, f2, f3, f4, f5), (vp_updL ov (0 : Int32).toNatClampNeg r9.toInt64)), rfl, Or.inl ⟨rfl, κ', Ad', res, ω1, ν2, Ω, hrn, hext, ⟨hC9, ⟨hTy, hL, kq0, kpl, h16⟩, kfe, kou, hfq, hfp, hoq, hop⟩, kres, hU9, hfd, hln, hno, by rw [hr9]; rfl, hω1, hν2, hhs⟩, ⟨by rw [ht]; exact hP, va_K.moved hW.alike hK, hD⟩⟩, hS.F ht⟩) hS.2.2 d_TrustChainLaw_certificate_22))
set_option maxHeartbeats 4000000 in
set_option maxRecDepth 100000 in
theorem zl_list (l : Launch) (hl0 : l.stackTraces = false) (dC : Nat → ClassId) (dI : Nat → Nat → Nat) (sb : sB) (γ : cG) (κ : kE) (Ad : List Nat) (ν : Nat → cN) (ω : Nat → List Nat) (L : Nat) (G : va_W) (fe ho ce li sh rs se ch fo q0 pl : Nat) (o : alD) (as : List Nat) (foS chS faP feS wrP : Int32) (ou : Nat) (fu : Nat → Nat) (ov : Nat → Int64) (i : Int32) (v : Nat → Nat) (fk : Nat) (sz : Nat) (hLW : LWx γ sb κ Ad ν ω fe ho ce li sh rs se ch fo q0 pl ou fu ov (G, L, o, as, foS, chS, faP, feS, wrP)) (hvb : ∀ j, v j < 256) (hv : ∀ j, j < i.toNatClampNeg → v j = fu j) (hfk : feS = nI fk) (hfk2 : fk ≤ 2060) : vx_Met l y_TrustChainLaw_list w_TrustChainLaw_list ({ frames := 13, cells := (8 * fk + 100), slots := (405 * fk + 2700), locals := 402 }) (mx_P [.ref q0, .int i, .ref ou] (dC, dI) sb G [(γ.1, .byte), (γ.2.1, .int), (γ.2.2.1, .long), (γ.2.2.2, .object "java/lang/Object")] sz) (va_Qi (fun r (u' : cU × (Nat → Int64)) => (r = 0 ∧ ∃ (κ' : kE) (Ad' : List Nat) (res : Nat) (ω1 : Nat → List Nat) (ν2 : Nat → cN), res ∉ Ad ∧ (∀ b, b ∈ Ad → (κ b).1 ≠ 16 → κ' b = κ b ∧ b ∈ Ad') ∧ LWx γ sb κ' Ad' (nuR ν2 res (0, 0, 0, 0, 0, 0, 0, 0, 0, (rd_lst v i.toNatClampNeg (0, 0, none) 0 0 0 [] []).2.2.2.2.2.1, (rd_lst v i.toNatClampNeg (0, 0, none) 0 0 0 [] []).2.2.2.2.2.2.1, (rd_lst v i.toNatClampNeg (0, 0, none) 0 0 0 [] []).2.2.2.2.1, 0)) (wU ω1 li res) fe ho ce li sh rs se ch fo q0 pl ou fu u'.2 u'.1 ∧ tK κ' Ad' res (9, (rd_lst v i.toNatClampNeg (0, 0, none) 0 0 0 [] []).2.2.2.2.2.2.2.1.length, 0) ∧ u'.1.2.2.2.2 = (foS, chS, faP, 0, -1) ∧ (¬ i < 0 ∧ i ≤ 2048 ∧ i ≤ feS) ∧ (ω li).length < 8 ∧ (rd_lst v i.toNatClampNeg (0, 0, none) 0 0 0 [] []).1.2.2 = none ∧ u'.2 = vp_updL ov 0 (nI (ω li).length).toInt64 ∧ (∀ b, b ∈ Ad → ω1 b = ω b) ∧ (∀ b, b ∈ Ad → ν2 b = ν b) ∧ qO κ' (nuR ν2 res (0, 0, 0, 0, 0, 0, 0, 0, 0, (rd_lst v i.toNatClampNeg (0, 0, none) 0 0 0 [] []).2.2.2.2.2.1, (rd_lst v i.toNatClampNeg (0, 0, none) 0 0 0 [] []).2.2.2.2.2.2.1, (rd_lst v i.toNatClampNeg (0, 0, none) 0 0 0 [] []).2.2.2.2.1, 0)) (wU ω1 li res) res = lQm v (rd_lst v i.toNatClampNeg (0, 0, none) 0 0 0 [] []).2.1 (rd_lst v i.toNatClampNeg (0, 0, none) 0 0 0 [] []).2.2.2.2.2.2.2.1 (rd_lst v i.toNatClampNeg (0, 0, none) 0 0 0 [] []).2.2.2.2.2.1 (rd_lst v i.toNatClampNeg (0, 0, none) 0 0 0 [] []).2.2.2.2.2.2.1 (rd_lst v i.toNatClampNeg (0, 0, none) 0 0 0 [] []).2.2.2.2.1 ∧ (∀ j, j < 8 → wN (nuR ν2 res (0, 0, 0, 0, 0, 0, 0, 0, 0, (rd_lst v i.toNatClampNeg (0, 0, none) 0 0 0 [] []).2.2.2.2.2.1, (rd_lst v i.toNatClampNeg (0, 0, none) 0 0 0 [] []).2.2.2.2.2.2.1, (rd_lst v i.toNatClampNeg (0, 0, none) 0 0 0 [] []).2.2.2.2.1, 0) ((wU ω1 li res res).getD 0 0)) j = hsV v (rd_lst v i.toNatClampNeg (0, 0, none) 0 0 0 [] []).2.2.1.1 (rd_lst v i.toNatClampNeg (0, 0, none) 0 0 0 [] []).2.2.1.2 j) ∧ ∃ (ha si sg : Nat) (rs9 : List Nat), wU ω1 li res res = ha :: si :: 0 :: sg :: rs9 ∧ wU ω1 li res si = [] ∧ tK κ' Ad' sg (2, (rd_lst v i.toNatClampNeg (0, 0, none) 0 0 0 [] []).2.2.2.1.2 - (rd_lst v i.toNatClampNeg (0, 0, none) 0 0 0 [] []).2.2.2.1.1, 1) ∧ slO (wU ω1 li res) sg ((rd_lst v i.toNatClampNeg (0, 0, none) 0 0 0 [] []).2.2.2.1.2 - (rd_lst v i.toNatClampNeg (0, 0, none) 0 0 0 [] []).2.2.2.1.1) = ocE v (rd_lst v i.toNatClampNeg (0, 0, none) 0 0 0 [] []).2.2.2.1 ∧ ∀ b, b ∈ Ad' → (κ' b).1 = 8 ∨ (κ' b).1 = 9 → (b ∈ Ad ∧ κ' b = κ b) ∨ b = res) ∨ (LWx γ sb κ Ad ν ω fe ho ce li sh rs se ch fo q0 pl ou fu u'.2 u'.1 ∧ ∃ E : String, ((u'.1.2.2.2.2 = (foS, chS, faP, feS, wrP) ∧ E = "java/lang/IndexOutOfBoundsException" ∧ ¬ ((¬ i < 0 ∧ i ≤ 2048 ∧ i ≤ feS) ∧ (ω li).length < 8)) ∨ (E = "java/lang/IllegalArgumentException" ∧ (¬ i < 0 ∧ i ≤ 2048 ∧ i ≤ feS) ∧ (ω li).length < 8 ∧ ∃ w, (rd_lst v i.toNatClampNeg (0, 0, none) 0 0 0 [] []).1.2.2 = some w ∧ u'.1.2.2.2.2 = (foS, chS, faP, 0, nI w))) ∧ r = (if E = "java/lang/IllegalArgumentException" then 2 else 1) ∧ u'.2 = ov)) (mu_B (dC, dI) [(γ.1, .byte), (γ.2.1, .int), (γ.2.2.1, .long), (γ.2.2.2, .object "java/lang/Object")] (va_A G sz) (fun u' : cU × (Nat → Int64) => u'.1.1)) (va_A G sz)) (mx_X (fun (E : String) (u' : cU × (Nat → Int64)) => False) (dC, dI) [(γ.1, .byte), (γ.2.1, .int), (γ.2.2.1, .long), (γ.2.2.2, .object "java/lang/Object")] (va_A G sz) (fun u' : cU × (Nat → Int64) => u'.1.1)) (8 * fk + 100) (405 * fk + 2700) (va_A G sz) := by
  refine vx_ofWH (cc := b_TrustChainLaw_list) (maxL := 4) (ret := (some FieldType.int)) (by decide) rfl ?_
  intro p e s m args below meth c s₁ B hml hv
  obtain ⟨rfl, hsz, hB0, hP, hK, hD0, hN, hT0, hTh⟩ := hv
  have hx := B.exec
  have hb := B.bytes
  have hr := B.returns
  have hts := atoms_spec (ws := w_TrustChainLaw_list) B.pre
  have htab : c.exceptionTable.toList = tableOf [(0, 9, 12, 13), (0, 9, 15, 19)] := vx_table (x := y_TrustChainLaw_list) B (hts _ List.mem_cons_self)
  have tbin : ∀ w ∈ tb, w ∈ w_TrustChainLaw_list := fun w h => List.mem_cons_of_mem _ h
  have htb : ∀ w ∈ tb, w.before _ s = true := fun w h => hts w (tbin w h)
  have hown : s.vm.findClass "TrustChainLaw" = some m.cls := findClass_of_methodNamed B.named
  have hlocks := B.notSynchronized
  subst hsz
  have hD := hD0.self (sz := s.heap.size)
  generalize hAe : va_A G s.heap.size = A at hD ⊢
  have hA : ∀ q : Nat, s.heap.size ≤ q → A q := fun q h => by rw [← hAe]; exact Or.inr h
  have hAs : ∀ q : Nat, A q → sb.1 ≤ q := fun q h => by
    rw [← hAe] at h
    rcases h with ⟨k, e, h⟩ | h
    · exact hD0.2 k _ h
    · exact Nat.le_trans hB0 h
  have hS : va_S A s.heap s.heap [] := va_S.rf
  have hcs : (8 * fk + 100) ≤ (headSpec w_TrustChainLaw_list ({ frames := 13, cells := (8 * fk + 100), slots := (405 * fk + 2700), locals := 402 })).room.cells ∧ (405 * fk + 2700) ≤ (headSpec w_TrustChainLaw_list ({ frames := 13, cells := (8 * fk + 100), slots := (405 * fk + 2700), locals := 402 })).room.slots := ⟨Nat.le_refl _, Nat.le_refl _⟩
  have hP : va_P (dC, dI) classes G s.heap := hP
  obtain ⟨hC, hW0, kfe, kou, hfq, hfp, hoq, hop⟩ := hLW
  dsimp only at kfe kou
  have kq0 := hW0.2.2.1
  dsimp only at kq0
  have hl := lv_entry ([.ref q0, .int i, .ref ou]) (n := 4) (Nat.le_of_ble_eq_true rfl)
  rw [lg_entry_eq]
  generalize (lg_sl ([.ref q0, .int i, .ref ou]) ++ List.replicate (4 - (lg_sl ([.ref q0, .int i, .ref ou])).length) Slot.unset).toArray = ls at hl ⊢
  have hl : lv_has ls 4 [(0, .ref q0), (1, .int i), (2, .ref ou)] := hl
  refine lv_aload_n hx hb d_TrustChainLaw_list_0 rfl (lv_at hl 2 rfl) ?_
  refine lv_iconst (v := 0) hx hb d_TrustChainLaw_list_1 (by decide) ?_
  refine lv_aload_n hx hb d_TrustChainLaw_list_2 rfl (lv_at hl 0 rfl) ?_
  refine lv_iload_n hx hb d_TrustChainLaw_list_3 rfl (lv_at hl 1 rfl) ?_
  obtain ⟨i_1, hg_1⟩ := List.getElem?_of_mem kq0.2
  have hFc := va_free (wc := G) hD hS hA (List.range G.length) (rg_is _)
  refine vx_calli (mx_runV (As := [.int i]) (rest := [.int 0, .ref ou]) ⟨hx, hb, hml, hown, hts⟩ tbin (z_Trust_list l hl0 dC dI sb γ κ Ad ν ω L G fe ho ce li sh rs se ch fo q0 pl o as foS chS faP feS wrP i fu v fk s.heap.size hC hW0 kfe hvb hv hfk hfk2) q5_50 q5_51 q5_52 q1_1 q5_53 (n := 1) (by decide +kernel) rfl ⟨rfl, rfl⟩ ⟨Nat.le_of_ble_eq_true rfl, Nat.le_of_ble_eq_true rfl⟩ ⟨(by omega), (by omega)⟩ (hTh.keep hS hAs) hN (hT0.keep hS hAs) hAs (Nat.le_trans hB0 hS.1) hK hP hD (List.range G.length) (rg_nd _) (rg_is _) [0, 1, 2, 3] rfl i_1 10 hg_1 rfl rfl hl.1 rfl (Nat.le_of_ble_eq_true rfl) d_TrustChainLaw_list_4) hS (fun q _ h => hFc q h) hFc (fun q _ h => hFc q h) (fun E cx9 q9 uX tX HX locs ht hvm hpx hBX hz1 hk1 hS hce hcv hcl => ?_) (fun r9 uN tS H4 locs ht hvm hw9 hB hz1 hk1 hS => ?_)
  · obtain ⟨⟨hCW, hF9, hpx9⟩, hB⟩ := hBX
    obtain ⟨hP1, hK1, hD1⟩ := hB
    rw [ht] at hP1
    have hP : va_P (dC, dI) classes uX.1 HX := hP1
    have hD : va_D A uX.1 := hD1.weaken (fun _ _ _ h => hFc _ h)
    have kfe : Xc Ad fe _ uX.1 := ⟨kfe.1, hF9 _ kfe.1 hfq hfp (fun _ _ => arI_ne) kfe.2⟩
    have kou : Xc Ad ou _ uX.1 := ⟨kou.1, hF9 _ kou.1 hoq hop (fun _ _ => arJ_ne) kou.2⟩
    have hEs : E = "java/lang/IndexOutOfBoundsException" ∨ E = "java/lang/IllegalArgumentException" := hpx9.elim (fun h => Or.inl h.2.1) (fun h => Or.inr h.1)
    rcases hEs with hE | hE
    · subst hE
      refine vx_catch hown [] ⟨0, 9, 12, 13⟩ [⟨0, 9, 15, 19⟩] htab (fun z h => nomatch h) (by decide) (by decide) (htb _ q1_206) (va_Nw.use rfl (hN.1 _ qn1_213)) hce hcv hcl ?_
      refine lv_astore_n (lv' := [(3, .ref q9), (0, .ref q0), (1, .int i), (2, .ref ou)]) hx hb d_TrustChainLaw_list_12 rfl hl (by decide) rfl (fun ls hl => ?_)
      refine lv_iconst (v := 1) hx hb d_TrustChainLaw_list_13 (by decide) ?_
      exact vx_ret (x_wide (8 * fk + 100) (405 * fk + 2700) (by omega) (by omega) (W.iret (v := 1) hx hb hr (fun t ht hW => ⟨⟨_, (uX, ov), rfl, Or.inr ⟨⟨hC, hCW, kfe, kou, hfq, hfp, hoq, hop⟩, _, hpx9, (if_neg (by decide)).symm, rfl⟩, ⟨by rw [ht]; exact hP, va_K.moved hW.alike hK, hD⟩⟩, hS.F ht⟩) hS.2.2 d_TrustChainLaw_list_14))
    · subst hE
      refine vx_catch hown [⟨0, 9, 12, 13⟩] ⟨0, 9, 15, 19⟩ [] htab (fun z h => by rw [List.mem_singleton.mp h]; exact Or.inr ⟨by decide, _, htb _ q1_206, hTh.2.2.2.1⟩) (by decide) (by decide) (htb _ q2_44) (va_Nw.use rfl (hN.1 _ qn4_235)) hce hcv hcl ?_
      refine lv_astore_n (lv' := [(3, .ref q9), (0, .ref q0), (1, .int i), (2, .ref ou)]) hx hb d_TrustChainLaw_list_15 rfl hl (by decide) rfl (fun ls hl => ?_)
      refine lv_iconst (v := 2) hx hb d_TrustChainLaw_list_16 (by decide) ?_
      exact vx_ret (x_wide (8 * fk + 100) (405 * fk + 2700) (by omega) (by omega) (W.iret (v := 2) hx hb hr (fun t ht hW => ⟨⟨_, (uX, ov), rfl, Or.inr ⟨⟨hC, hCW, kfe, kou, hfq, hfp, hoq, hop⟩, _, hpx9, (if_pos rfl).symm, rfl⟩, ⟨by rw [ht]; exact hP, va_K.moved hW.alike hK, hD⟩⟩, hS.F ht⟩) hS.2.2 d_TrustChainLaw_list_17))
  · obtain ⟨hP1, hK1, hD1⟩ := hB
    rw [ht] at hP1
    have hP : va_P (dC, dI) classes uN.1 H4 := hP1
    have hD : va_D A uN.1 := hD1.weaken (fun _ _ _ h => hFc _ h)
    obtain ⟨κ', Ad', res, ω1, ν2, hrn, hext, hC9, hCW, kres, hF9, hfr9, hU9, hfd, hln, hno, hr9, hω1, hν2, hhs⟩ := hw9
    have kfe : Xc Ad' fe _ uN.1 := ⟨hfr9 _ kfe.1 hfq hfp (fun _ _ => arI_ne) kfe.2, hF9 _ kfe.1 hfq hfp (fun _ _ => arI_ne) kfe.2⟩
    have kou : Xc Ad' ou _ uN.1 := ⟨hfr9 _ kou.1 hoq hop (fun _ _ => arJ_ne) kou.2, hF9 _ kou.1 hoq hop (fun _ _ => arJ_ne) kou.2⟩
    obtain ⟨G9, L9, o9, as9, f1, f2, f3, f4, f5⟩ := uN
    obtain ⟨hTy, hL, kq0, kpl, h16⟩ := hCW
    dsimp only at hTy hL kq0 kpl h16 hP hD kfe kou
    refine lv_i2l (v := r9.toInt64) hx hb d_TrustChainLaw_list_7 rfl ?_
    obtain ⟨io, hgo⟩ := List.getElem?_of_mem kou.2
    refine va_last hx hb hK hP hD hS io 2 hgo rfl (by unfold vp_in; decide) d_TrustChainLaw_list_8 (fun H8 locs hP hD2 hS => ?_)
    have hP : va_P (dC, dI) classes (G9.set io (ou, .inl (γ.2.2.1, 1, .inr (.inl (vp_updL ov (0 : Int32).toNatClampNeg r9.toInt64))))) H8 := hP
    have hD : va_D A (G9.set io (ou, .inl (γ.2.2.1, 1, .inr (.inl (vp_updL ov (0 : Int32).toNatClampNeg r9.toInt64))))) := hD2
    have hTy := TY.setX (c' := .inl (γ.2.2.1, 1, .inr (.inl (vp_updL ov (0 : Int32).toNatClampNeg r9.toInt64)))) hTy hgo kou.1
    have kpl := PLx.setA (c' := .inl (γ.2.2.1, 1, .inr (.inl (vp_updL ov (0 : Int32).toNatClampNeg r9.toInt64)))) kpl hgo
    have kq0 := Xc.setX (c' := .inl (γ.2.2.1, 1, .inr (.inl (vp_updL ov (0 : Int32).toNatClampNeg r9.toInt64)))) kq0 hgo (fun e => by cases e)
    have kfe := Xc.setX (c' := .inl (γ.2.2.1, 1, .inr (.inl (vp_updL ov (0 : Int32).toNatClampNeg r9.toInt64)))) kfe hgo (fun e => arI_ne (congrArg Prod.snd e))
    have kou : Xc Ad' ou (.inl (γ.2.2.1, 1, .inr (.inl (vp_updL ov (0 : Int32).toNatClampNeg r9.toInt64)))) (G9.set io (ou, .inl (γ.2.2.1, 1, .inr (.inl (vp_updL ov (0 : Int32).toNatClampNeg r9.toInt64))))) := ⟨kou.1, List.mem_of_getElem? (set_here hgo)⟩
    refine lv_goto (tgt := 18) hx hb d_TrustChainLaw_list_9 (by decide) ?_
    refine lv_iconst (v := 0) hx hb d_TrustChainLaw_list_18 (by decide) ?_
    exact vx_ret (x_wide (8 * fk + 100) (405 * fk + 2700) (by omega) (by omega) (W.iret (v := 0) hx hb hr (fun t ht hW => ⟨⟨_, ((G9.set io (ou, .inl (γ.2.2.1, 1, .inr (.inl (vp_updL ov (0 : Int32).toNatClampNeg r9.toInt64)))), L9, o9, as9, f1, f2, f3, f4, f5), (vp_updL ov (0 : Int32).toNatClampNeg r9.toInt64)), rfl, Or.inl ⟨rfl, κ', Ad', res, ω1, ν2, hrn, hext, ⟨hC9, ⟨hTy, hL, kq0, kpl, h16⟩, kfe, kou, hfq, hfp, hoq, hop⟩, kres, hU9, hfd, hln, hno, by rw [hr9]; rfl, hω1, hν2, hhs⟩, ⟨by rw [ht]; exact hP, va_K.moved hW.alike hK, hD⟩⟩, hS.F ht⟩) hS.2.2 d_TrustChainLaw_list_19))
