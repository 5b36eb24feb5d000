/-! Refused calls of certificate and list. -/
set_option maxHeartbeats 4000000 in
set_option maxRecDepth 100000 in
theorem z_Trust_certificate_b (l : Launch) (hl0 : l.stackTraces = false) (dC : Nat → ClassId) (dI : Nat → Nat → Nat) (sb : sB) (γ : cG) (κ : kE) (Ad : List Nat) (ν : Nat → cN) (ω : Nat → List Nat) (L : Nat) (G : va_W) (fe ho ce li sh rs se ch fo q0 pl : Nat) (o : alD) (as : List Nat) (foS chS faP feS wrP : Int32) (i tr : Int32) (sz : Nat) (hC : CKx sb κ Ad ω ho ce li sh rs se ch fo q0 pl) (hW0 : CWx γ sb κ Ad ν ω fe ho ce li sh rs se ch fo q0 pl (G, L, o, as, foS, chS, faP, feS, wrP))  (hbad : ¬ ((¬ i < 0 ∧ i ≤ 2048 ∧ i ≤ feS) ∧ (ω ce).length < 16)) : vx_Met l y_Trust_certificate w_Trust_certificate ({ frames := 13, cells := 1, slots := 6, locals := 420 }) (mx_P [.ref q0, .int i, .int tr] (dC, dI) sb G [(γ.1, .byte), (γ.2.1, .int), (γ.2.2.1, .long), (γ.2.2.2, .object "java/lang/Object")] sz) (va_Qi (fun r (u' : cU) => CWx γ sb κ Ad ν ω fe ho ce li sh rs se ch fo q0 pl u' ∧ FRq γ Ad q0 pl G u'.1 ∧ (False)) (mu_B (dC, dI) [(γ.1, .byte), (γ.2.1, .int), (γ.2.2.1, .long), (γ.2.2.2, .object "java/lang/Object")] (va_A G sz) (fun u' : cU => u'.1)) (va_A G sz)) (mx_X (fun (E : String) (u' : cU) => CWx γ sb κ Ad ν ω fe ho ce li sh rs se ch fo q0 pl u' ∧ FRq γ Ad q0 pl G u'.1 ∧ (u'.2.2.2.2 = (foS, chS, faP, feS, wrP) ∧ E = "java/lang/IndexOutOfBoundsException")) (dC, dI) [(γ.1, .byte), (γ.2.1, .int), (γ.2.2.1, .long), (γ.2.2.2, .object "java/lang/Object")] (va_A G sz) (fun u' : cU => u'.1)) 1 6 (va_A G sz) := by
  refine vx_ofW (cc := b_Trust_certificate) (maxL := 5) (ret := (some FieldType.int)) (by decide) rfl ?_
  intro p e s m args below meth c s₁ B hml hnoh hv
  obtain ⟨rfl, hsz, hB0, hP, hK, hD0, hN, hT0, hTh⟩ := hv
  have hx := B.exec
  have hb := B.bytes
  have hr := B.returns
  have hts := atoms_spec (ws := w_Trust_certificate) B.pre
  have tbin : ∀ w ∈ tb, w ∈ w_Trust_certificate := fun w h => List.mem_cons_of_mem _ h
  have htb : ∀ w ∈ tb, w.before _ s = true := fun w h => hts w (tbin w h)
  have hown : s.vm.findClass "TrustChain" = some m.cls := findClass_of_methodNamed B.named
  have hlocks := B.notSynchronized
  subst hsz
  have hD := hD0.self (sz := s.heap.size)
  generalize hAe : va_A G s.heap.size = A at hD ⊢
  have hA : ∀ q : Nat, s.heap.size ≤ q → A q := fun q h => by rw [← hAe]; exact Or.inr h
  have hAs : ∀ q : Nat, A q → sb.1 ≤ q := fun q h => by
    rw [← hAe] at h
    rcases h with ⟨k, e, h⟩ | h
    · exact hD0.2 k _ h
    · exact Nat.le_trans hB0 h
  have hS : va_S A s.heap s.heap [] := va_S.rf
  have hFR := FRq.rf γ Ad q0 pl G
  have hcs : 1 ≤ (headSpec w_Trust_certificate ({ frames := 13, cells := 1, slots := 6, locals := 420 })).room.cells ∧ 6 ≤ (headSpec w_Trust_certificate ({ frames := 13, cells := 1, slots := 6, locals := 420 })).room.slots := ⟨Nat.le_refl _, Nat.le_refl _⟩
  have hP : va_P (dC, dI) classes G s.heap := hP
  have hC0 := hC
  obtain ⟨⟨kho, kce, kli, ksh, krs, kse, kch, kfo⟩, h1, hce9, hli9, hqp, hN14, hN16⟩ := hC
  obtain ⟨hTy, hL, kq0, kpl, h16⟩ := hW0
  dsimp only at hTy hL kq0 kpl h16
  have hl := lv_entry ([.ref q0, .int i, .int tr]) (n := 5) (Nat.le_of_ble_eq_true rfl)
  rw [lg_entry_eq]
  generalize (lg_sl ([.ref q0, .int i, .int tr]) ++ List.replicate (5 - (lg_sl ([.ref q0, .int i, .int tr])).length) Slot.unset).toArray = ls at hl ⊢
  have hl : lv_has ls 5 [(0, .ref q0), (1, .int i), (2, .int tr)] := hl
  refine lv_aload_n hx hb d_Trust_certificate_0 rfl (lv_at hl 0 rfl) ?_
  refine lv_iload_n hx hb d_Trust_certificate_1 rfl (lv_at hl 1 rfl) ?_
  obtain ⟨i_1, hg_1⟩ := List.getElem?_of_mem kq0.2
  refine vp_callSi (pu_callV (As := [.int i]) (rest := []) ⟨hx, hb, hml, hown, hts⟩ tbin (c_Trust_isFed l dC dI sb q0 fe ho ce li sh rs se ch fo foS chS faP feS wrP i) q2_49 q2_51 qp_2 q1_1 q2_52 (n := 1) (by decide +kernel) rfl ⟨rfl, rfl⟩ ⟨Nat.le_of_ble_eq_true rfl, Nat.le_of_ble_eq_true rfl⟩ ⟨Nat.le_of_ble_eq_true rfl, Nat.le_of_ble_eq_true rfl⟩ hN (hT0.keep hS hAs) hK hP [i_1] (by simp only [List.filterMap_cons, List.filterMap_nil, hg_1]) [] rfl i_1 10 hg_1 rfl rfl hl.1 rfl (Nat.le_of_ble_eq_true rfl) d_Trust_certificate_2) (fun r2 hr2 => ?_)
  obtain rfl := Eq.symm (bz_zP hr2)
  refine lv_if_eq (tgt := 20) hx hb d_Trust_certificate_5 (by decide) (fun c5 => ?_) (fun c5 => ?_)
  · have p5 : ¬ (¬ i < 0 ∧ i ≤ 2048 ∧ i ≤ feS) := (zP_0.mp c5)
    obtain ⟨sa, hsa⟩ := hTh.2.2.1 (93, "no such text, or no room") (by decide)
    exact vx_throwS (own := "TrustChain") (cls := "java/lang/IndexOutOfBoundsException") (text := "no such text, or no room") (names := xUp) (ik := 74) (is := 93) (ic := 78) (sa := sa) (A := A) hx hb hl0 hown (by decide) (by decide) (htb _ q1_211) (htb _ q1_14) hsa (x_hat x_ot78 x_gd78 x_nw78 htb hN) x_ot78 (hTh.1.narrow hAs) (hTh.2.1.narrow hAs) hS (hl.1.trans hml.symm) d_Trust_certificate_20 d_Trust_certificate_23 d_Trust_certificate_24 d_Trust_certificate_26 d_Trust_certificate_29 (fun x h => (hnoh x h).elim) (Nat.le_of_ble_eq_true rfl) (Nat.le_of_ble_eq_true rfl) (Nat.le_of_ble_eq_true rfl) (Nat.le_of_ble_eq_true rfl) hlocks (x_end (G, L, o, as, foS, chS, faP, feS, wrP) ⟨⟨hTy, hL, kq0, kpl, h16⟩, hFR, ⟨rfl, rfl⟩⟩ hP hK hD hS) hS.2.2 (Nat.le_of_ble_eq_true rfl) (Nat.le_of_ble_eq_true rfl)
  · have p5 : ¬ i < 0 ∧ i ≤ 2048 ∧ i ≤ feS := (zP_1 c5)
    refine lv_aload_n hx hb d_Trust_certificate_8 rfl (lv_at hl 0 rfl) ?_
    refine va_get (v := .ref ce) hx hb htb i_Trust hown hK hP i_1 hg_1 rfl 2 (by decide) (htb _ q1_158) (fun _ h9 => h9) rfl d_Trust_certificate_9 ?_
    obtain ⟨i_2, q_2, m_2, hK_2, he_2, hg_2⟩ := ty_15 hTy kce
    refine vp_callSi (pu_callV (As := []) (rest := []) ⟨hx, hb, hml, hown, hts⟩ tbin (c_AL_size l dC dI sb ce q_2 ((ω ce).length) m_2) q2_53 q2_54 q2_55 q1_4 q2_56 (n := 0) (by decide +kernel) rfl ⟨rfl, rfl⟩ ⟨Nat.le_of_ble_eq_true rfl, Nat.le_of_ble_eq_true rfl⟩ ⟨Nat.le_of_ble_eq_true rfl, Nat.le_of_ble_eq_true rfl⟩ hN (hT0.keep hS hAs) hK hP [i_2] (by simp only [List.filterMap_cons, List.filterMap_nil, hg_2]) [] rfl i_2 11 hg_2 rfl rfl hl.1 rfl (Nat.le_of_ble_eq_true rfl) d_Trust_certificate_12) (fun r12 hr12 => ?_)
    subst hr12
    refine lv_bipush (v := 16) hx hb d_Trust_certificate_15 (by decide) ?_
    refine lv_icmp_lt (tgt := 30) hx hb d_Trust_certificate_17 (by decide) (fun c17 => ?_) (fun c17 => ?_)
    · have p17 : ((ω ce).length) < 16 := ((nI_ltI (a := ((ω ce).length)) (b := 16) (by omega) (by omega)).mp c17)
      exact absurd ⟨p5, p17⟩ hbad
    · have p17 : ¬ (((ω ce).length) < 16) := (fun q9 => c17 ((nI_ltI (a := ((ω ce).length)) (b := 16) (by omega) (by omega)).mpr q9))
      obtain ⟨sa, hsa⟩ := hTh.2.2.1 (93, "no such text, or no room") (by decide)
      exact vx_throwS (own := "TrustChain") (cls := "java/lang/IndexOutOfBoundsException") (text := "no such text, or no room") (names := xUp) (ik := 74) (is := 93) (ic := 78) (sa := sa) (A := A) hx hb hl0 hown (by decide) (by decide) (htb _ q1_211) (htb _ q1_14) hsa (x_hat x_ot78 x_gd78 x_nw78 htb hN) x_ot78 (hTh.1.narrow hAs) (hTh.2.1.narrow hAs) hS (hl.1.trans hml.symm) d_Trust_certificate_20 d_Trust_certificate_23 d_Trust_certificate_24 d_Trust_certificate_26 d_Trust_certificate_29 (fun x h => (hnoh x h).elim) (Nat.le_of_ble_eq_true rfl) (Nat.le_of_ble_eq_true rfl) (Nat.le_of_ble_eq_true rfl) (Nat.le_of_ble_eq_true rfl) hlocks (x_end (G, L, o, as, foS, chS, faP, feS, wrP) ⟨⟨hTy, hL, kq0, kpl, h16⟩, hFR, ⟨rfl, rfl⟩⟩ hP hK hD hS) hS.2.2 (Nat.le_of_ble_eq_true rfl) (Nat.le_of_ble_eq_true rfl)
set_option maxHeartbeats 4000000 in
set_option maxRecDepth 100000 in
theorem zl_certificate_b (l : Launch) (hl0 : l.stackTraces = false) (dC : Nat → ClassId) (dI : Nat → Nat → Nat) (sb : sB) (γ : cG) (κ : kE) (Ad : List Nat) (ν : Nat → cN) (ω : Nat → List Nat) (L : Nat) (G : va_W) (fe ho ce li sh rs se ch fo q0 pl : Nat) (o : alD) (as : List Nat) (foS chS faP feS wrP : Int32) (ou : Nat) (fu : Nat → Nat) (ov : Nat → Int64) (i tr : Int32) (sz : Nat) (hLW : LWx γ sb κ Ad ν ω fe ho ce li sh rs se ch fo q0 pl ou fu ov (G, L, o, as, foS, chS, faP, feS, wrP)) (hbad : ¬ ((¬ i < 0 ∧ i ≤ 2048 ∧ i ≤ feS) ∧ (ω ce).length < 16)) : vx_Met l y_TrustChainLaw_certificate w_TrustChainLaw_certificate ({ frames := 14, cells := 1, slots := 6, locals := 444 }) (mx_P [.ref q0, .int i, .int tr, .ref ou] (dC, dI) sb G [(γ.1, .byte), (γ.2.1, .int), (γ.2.2.1, .long), (γ.2.2.2, .object "java/lang/Object")] sz) (va_Qi (fun r (u' : cU × (Nat → Int64)) => LWx γ sb κ Ad ν ω fe ho ce li sh rs se ch fo q0 pl ou fu u'.2 u'.1 ∧ ((r = 0 ∧ ∃ r9 : Int32, (False) ∧ u'.2 = vp_updL ov 0 r9.toInt64) ∨ (∃ E : String, (u'.1.2.2.2.2 = (foS, chS, faP, feS, wrP) ∧ E = "java/lang/IndexOutOfBoundsException") ∧ r = (if E = "java/lang/IllegalArgumentException" then 1 else 1) ∧ u'.2 = ov))) (mu_B (dC, dI) [(γ.1, .byte), (γ.2.1, .int), (γ.2.2.1, .long), (γ.2.2.2, .object "java/lang/Object")] (va_A G sz) (fun u' : cU × (Nat → Int64) => u'.1.1)) (va_A G sz)) (mx_X (fun (E : String) (u' : cU × (Nat → Int64)) => False) (dC, dI) [(γ.1, .byte), (γ.2.1, .int), (γ.2.2.1, .long), (γ.2.2.2, .object "java/lang/Object")] (va_A G sz) (fun u' : cU × (Nat → Int64) => u'.1.1)) 1 6 (va_A G sz) := by
  refine vx_ofWH (cc := b_TrustChainLaw_certificate) (maxL := 5) (ret := (some FieldType.int)) (by decide) rfl ?_
  intro p e s m args below meth c s₁ B hml hv
  obtain ⟨rfl, hsz, hB0, hP, hK, hD0, hN, hT0, hTh⟩ := hv
  have hx := B.exec
  have hb := B.bytes
  have hr := B.returns
  have hts := atoms_spec (ws := w_TrustChainLaw_certificate) B.pre
  have htab : c.exceptionTable.toList = tableOf [(0, 10, 13, 13), (0, 10, 17, 19)] := vx_table (x := y_TrustChainLaw_certificate) B (hts _ List.mem_cons_self)
  have tbin : ∀ w ∈ tb, w ∈ w_TrustChainLaw_certificate := fun w h => List.mem_cons_of_mem _ h
  have htb : ∀ w ∈ tb, w.before _ s = true := fun w h => hts w (tbin w h)
  have hown : s.vm.findClass "TrustChainLaw" = some m.cls := findClass_of_methodNamed B.named
  have hlocks := B.notSynchronized
  subst hsz
  have hD := hD0.self (sz := s.heap.size)
  generalize hAe : va_A G s.heap.size = A at hD ⊢
  have hA : ∀ q : Nat, s.heap.size ≤ q → A q := fun q h => by rw [← hAe]; exact Or.inr h
  have hAs : ∀ q : Nat, A q → sb.1 ≤ q := fun q h => by
    rw [← hAe] at h
    rcases h with ⟨k, e, h⟩ | h
    · exact hD0.2 k _ h
    · exact Nat.le_trans hB0 h
  have hS : va_S A s.heap s.heap [] := va_S.rf
  have hcs : 1 ≤ (headSpec w_TrustChainLaw_certificate ({ frames := 14, cells := 1, slots := 6, locals := 444 })).room.cells ∧ 6 ≤ (headSpec w_TrustChainLaw_certificate ({ frames := 14, cells := 1, slots := 6, locals := 444 })).room.slots := ⟨Nat.le_refl _, Nat.le_refl _⟩
  have hP : va_P (dC, dI) classes G s.heap := hP
  obtain ⟨hC, hW0, kfe, kou, hfq, hfp, hoq, hop⟩ := hLW
  dsimp only at kfe kou
  have kq0 := hW0.2.2.1
  dsimp only at kq0
  have hl := lv_entry ([.ref q0, .int i, .int tr, .ref ou]) (n := 5) (Nat.le_of_ble_eq_true rfl)
  rw [lg_entry_eq]
  generalize (lg_sl ([.ref q0, .int i, .int tr, .ref ou]) ++ List.replicate (5 - (lg_sl ([.ref q0, .int i, .int tr, .ref ou])).length) Slot.unset).toArray = ls at hl ⊢
  have hl : lv_has ls 5 [(0, .ref q0), (1, .int i), (2, .int tr), (3, .ref ou)] := hl
  refine lv_aload_n hx hb d_TrustChainLaw_certificate_0 rfl (lv_at hl 3 rfl) ?_
  refine lv_iconst (v := 0) hx hb d_TrustChainLaw_certificate_1 (by decide) ?_
  refine lv_aload_n hx hb d_TrustChainLaw_certificate_2 rfl (lv_at hl 0 rfl) ?_
  refine lv_iload_n hx hb d_TrustChainLaw_certificate_3 rfl (lv_at hl 1 rfl) ?_
  refine lv_iload_n hx hb d_TrustChainLaw_certificate_4 rfl (lv_at hl 2 rfl) ?_
  obtain ⟨i_1, hg_1⟩ := List.getElem?_of_mem kq0.2
  have hFc := va_free (wc := G) hD hS hA (List.range G.length) (rg_is _)
  refine vx_calli (mx_runV (As := [.int i, .int tr]) (rest := [.int 0, .ref ou]) ⟨hx, hb, hml, hown, hts⟩ tbin (z_Trust_certificate_b l hl0 dC dI sb γ κ Ad ν ω L G fe ho ce li sh rs se ch fo q0 pl o as foS chS faP feS wrP i tr  s.heap.size hC hW0 hbad) q2_45 q2_46 q2_47 q1_1 q2_48 (n := 2) (by decide +kernel) rfl ⟨rfl, rfl⟩ ⟨Nat.le_of_ble_eq_true rfl, Nat.le_of_ble_eq_true rfl⟩ ⟨Nat.le_of_ble_eq_true rfl, Nat.le_of_ble_eq_true rfl⟩ (hTh.keep hS hAs) hN (hT0.keep hS hAs) hAs (Nat.le_trans hB0 hS.1) hK hP hD (List.range G.length) (rg_nd _) (rg_is _) [0, 1, 2, 3] rfl i_1 10 hg_1 rfl rfl hl.1 rfl (Nat.le_of_ble_eq_true rfl) d_TrustChainLaw_certificate_5) hS (fun q _ h => hFc q h) hFc (fun q _ h => hFc q h) (fun E cx9 q9 uX tX HX locs ht hvm hpx hBX hz1 hk1 hS hce hcv hcl => ?_) (fun r9 uN tS H5 locs ht hvm hw9 hB hz1 hk1 hS => ?_)
  · obtain ⟨⟨hCW, hF9, hpx9⟩, hB⟩ := hBX
    obtain ⟨hP1, hK1, hD1⟩ := hB
    rw [ht] at hP1
    have hP : va_P (dC, dI) classes uX.1 HX := hP1
    have hD : va_D A uX.1 := hD1.weaken (fun _ _ _ h => hFc _ h)
    have kfe : Xc Ad fe _ uX.1 := ⟨kfe.1, hF9 _ kfe.1 hfq hfp (fun _ _ => arI_ne) kfe.2⟩
    have kou : Xc Ad ou _ uX.1 := ⟨kou.1, hF9 _ kou.1 hoq hop (fun _ _ => arJ_ne) kou.2⟩
    have hE : E = "java/lang/IndexOutOfBoundsException" := hpx9.2
    subst hE
    refine vx_catch hown [] ⟨0, 10, 13, 13⟩ [⟨0, 10, 17, 19⟩] htab (fun z h => nomatch h) (by decide) (by decide) (htb _ q1_206) (va_Nw.use rfl (hN.1 _ qn1_213)) hce hcv hcl ?_
    refine lv_astore (lv' := [(4, .ref q9), (0, .ref q0), (1, .int i), (2, .int tr), (3, .ref ou)]) hx hb d_TrustChainLaw_certificate_13 hl (by decide) rfl (fun ls hl => ?_)
    refine lv_iconst (v := 1) hx hb d_TrustChainLaw_certificate_15 (by decide) ?_
    exact vx_ret (x_wide 1 6 (Nat.le_of_ble_eq_true rfl) (Nat.le_of_ble_eq_true rfl) (W.iret (v := 1) hx hb hr (fun t ht hW => ⟨⟨_, (uX, ov), rfl, ⟨⟨hC, hCW, kfe, kou, hfq, hfp, hoq, hop⟩, Or.inr ⟨_, hpx9, (if_neg (by decide)).symm, rfl⟩⟩, ⟨by rw [ht]; exact hP, va_K.moved hW.alike hK, hD⟩⟩, hS.F ht⟩) hS.2.2 d_TrustChainLaw_certificate_16))
  · obtain ⟨hP1, hK1, hD1⟩ := hB
    rw [ht] at hP1
    have hP : va_P (dC, dI) classes uN.1 H5 := hP1
    have hD : va_D A uN.1 := hD1.weaken (fun _ _ _ h => hFc _ h)
    obtain ⟨hCW, hF9, hQ9⟩ := hw9
    exact hQ9.elim
set_option maxHeartbeats 4000000 in
set_option maxRecDepth 100000 in
theorem z_Trust_list_b (l : Launch) (hl0 : l.stackTraces = false) (dC : Nat → ClassId) (dI : Nat → Nat → Nat) (sb : sB) (γ : cG) (κ : kE) (Ad : List Nat) (ν : Nat → cN) (ω : Nat → List Nat) (L : Nat) (G : va_W) (fe ho ce li sh rs se ch fo q0 pl : Nat) (o : alD) (as : List Nat) (foS chS faP feS wrP : Int32) (i : Int32) (sz : Nat) (hC : CKx sb κ Ad ω ho ce li sh rs se ch fo q0 pl) (hW0 : CWx γ sb κ Ad ν ω fe ho ce li sh rs se ch fo q0 pl (G, L, o, as, foS, chS, faP, feS, wrP))  (hbad : ¬ ((¬ i < 0 ∧ i ≤ 2048 ∧ i ≤ feS) ∧ (ω li).length < 8)) : vx_Met l y_Trust_list w_Trust_list ({ frames := 12, cells := 1, slots := 6, locals := 380 }) (mx_P [.ref q0, .int i] (dC, dI) sb G [(γ.1, .byte), (γ.2.1, .int), (γ.2.2.1, .long), (γ.2.2.2, .object "java/lang/Object")] sz) (va_Qi (fun r (u' : cU) => CWx γ sb κ Ad ν ω fe ho ce li sh rs se ch fo q0 pl u' ∧ FRq γ Ad q0 pl G u'.1 ∧ (False)) (mu_B (dC, dI) [(γ.1, .byte), (γ.2.1, .int), (γ.2.2.1, .long), (γ.2.2.2, .object "java/lang/Object")] (va_A G sz) (fun u' : cU => u'.1)) (va_A G sz)) (mx_X (fun (E : String) (u' : cU) => CWx γ sb κ Ad ν ω fe ho ce li sh rs se ch fo q0 pl u' ∧ FRq γ Ad q0 pl G u'.1 ∧ (u'.2.2.2.2 = (foS, chS, faP, feS, wrP) ∧ E = "java/lang/IndexOutOfBoundsException")) (dC, dI) [(γ.1, .byte), (γ.2.1, .int), (γ.2.2.1, .long), (γ.2.2.2, .object "java/lang/Object")] (va_A G sz) (fun u' : cU => u'.1)) 1 6 (va_A G sz) := by
  refine vx_ofW (cc := b_Trust_list) (maxL := 3) (ret := (some FieldType.int)) (by decide) rfl ?_
  intro p e s m args below meth c s₁ B hml hnoh hv
  obtain ⟨rfl, hsz, hB0, hP, hK, hD0, hN, hT0, hTh⟩ := hv
  have hx := B.exec
  have hb := B.bytes
  have hr := B.returns
  have hts := atoms_spec (ws := w_Trust_list) B.pre
  have tbin : ∀ w ∈ tb, w ∈ w_Trust_list := fun w h => List.mem_cons_of_mem _ h
  have htb : ∀ w ∈ tb, w.before _ s = true := fun w h => hts w (tbin w h)
  have hown : s.vm.findClass "TrustChain" = some m.cls := findClass_of_methodNamed B.named
  have hlocks := B.notSynchronized
  subst hsz
  have hD := hD0.self (sz := s.heap.size)
  generalize hAe : va_A G s.heap.size = A at hD ⊢
  have hA : ∀ q : Nat, s.heap.size ≤ q → A q := fun q h => by rw [← hAe]; exact Or.inr h
  have hAs : ∀ q : Nat, A q → sb.1 ≤ q := fun q h => by
    rw [← hAe] at h
    rcases h with ⟨k, e, h⟩ | h
    · exact hD0.2 k _ h
    · exact Nat.le_trans hB0 h
  have hS : va_S A s.heap s.heap [] := va_S.rf
  have hFR := FRq.rf γ Ad q0 pl G
  have hcs : 1 ≤ (headSpec w_Trust_list ({ frames := 12, cells := 1, slots := 6, locals := 380 })).room.cells ∧ 6 ≤ (headSpec w_Trust_list ({ frames := 12, cells := 1, slots := 6, locals := 380 })).room.slots := ⟨Nat.le_refl _, Nat.le_refl _⟩
  have hP : va_P (dC, dI) classes G s.heap := hP
  have hC0 := hC
  obtain ⟨⟨kho, kce, kli, ksh, krs, kse, kch, kfo⟩, h1, hce9, hli9, hqp, hN14, hN16⟩ := hC
  obtain ⟨hTy, hL, kq0, kpl, h16⟩ := hW0
  dsimp only at hTy hL kq0 kpl h16
  have hl := lv_entry ([.ref q0, .int i]) (n := 3) (Nat.le_of_ble_eq_true rfl)
  rw [lg_entry_eq]
  generalize (lg_sl ([.ref q0, .int i]) ++ List.replicate (3 - (lg_sl ([.ref q0, .int i])).length) Slot.unset).toArray = ls at hl ⊢
  have hl : lv_has ls 3 [(0, .ref q0), (1, .int i)] := hl
  refine lv_aload_n hx hb d_Trust_list_0 rfl (lv_at hl 0 rfl) ?_
  refine lv_iload_n hx hb d_Trust_list_1 rfl (lv_at hl 1 rfl) ?_
  obtain ⟨i_1, hg_1⟩ := List.getElem?_of_mem kq0.2
  refine vp_callSi (pu_callV (As := [.int i]) (rest := []) ⟨hx, hb, hml, hown, hts⟩ tbin (c_Trust_isFed l dC dI sb q0 fe ho ce li sh rs se ch fo foS chS faP feS wrP i) q2_49 q2_51 qp_2 q1_1 q2_52 (n := 1) (by decide +kernel) rfl ⟨rfl, rfl⟩ ⟨Nat.le_of_ble_eq_true rfl, Nat.le_of_ble_eq_true rfl⟩ ⟨Nat.le_of_ble_eq_true rfl, Nat.le_of_ble_eq_true rfl⟩ hN (hT0.keep hS hAs) hK hP [i_1] (by simp only [List.filterMap_cons, List.filterMap_nil, hg_1]) [] rfl i_1 10 hg_1 rfl rfl hl.1 rfl (Nat.le_of_ble_eq_true rfl) d_Trust_list_2) (fun r2 hr2 => ?_)
  obtain rfl := Eq.symm (bz_zP hr2)
  refine lv_if_eq (tgt := 20) hx hb d_Trust_list_5 (by decide) (fun c5 => ?_) (fun c5 => ?_)
  · have p5 : ¬ (¬ i < 0 ∧ i ≤ 2048 ∧ i ≤ feS) := (zP_0.mp c5)
    obtain ⟨sa, hsa⟩ := hTh.2.2.1 (93, "no such text, or no room") (by decide)
    exact vx_throwS (own := "TrustChain") (cls := "java/lang/IndexOutOfBoundsException") (text := "no such text, or no room") (names := xUp) (ik := 74) (is := 93) (ic := 78) (sa := sa) (A := A) hx hb hl0 hown (by decide) (by decide) (htb _ q1_211) (htb _ q1_14) hsa (x_hat x_ot78 x_gd78 x_nw78 htb hN) x_ot78 (hTh.1.narrow hAs) (hTh.2.1.narrow hAs) hS (hl.1.trans hml.symm) d_Trust_list_20 d_Trust_list_23 d_Trust_list_24 d_Trust_list_26 d_Trust_list_29 (fun x h => (hnoh x h).elim) (Nat.le_of_ble_eq_true rfl) (Nat.le_of_ble_eq_true rfl) (Nat.le_of_ble_eq_true rfl) (Nat.le_of_ble_eq_true rfl) hlocks (x_end (G, L, o, as, foS, chS, faP, feS, wrP) ⟨⟨hTy, hL, kq0, kpl, h16⟩, hFR, ⟨rfl, rfl⟩⟩ hP hK hD hS) hS.2.2 (Nat.le_of_ble_eq_true rfl) (Nat.le_of_ble_eq_true rfl)
  · have p5 : ¬ i < 0 ∧ i ≤ 2048 ∧ i ≤ feS := (zP_1 c5)
    refine lv_aload_n hx hb d_Trust_list_8 rfl (lv_at hl 0 rfl) ?_
    refine va_get (v := .ref li) hx hb htb i_Trust hown hK hP i_1 hg_1 rfl 3 (by decide) (htb _ q1_159) (fun _ h9 => h9) rfl d_Trust_list_9 ?_
    obtain ⟨i_2, q_2, m_2, hK_2, he_2, hg_2⟩ := ty_17 hTy kli
    refine vp_callSi (pu_callV (As := []) (rest := []) ⟨hx, hb, hml, hown, hts⟩ tbin (c_AL_size l dC dI sb li q_2 ((ω li).length) m_2) q2_53 q2_54 q2_55 q1_4 q2_56 (n := 0) (by decide +kernel) rfl ⟨rfl, rfl⟩ ⟨Nat.le_of_ble_eq_true rfl, Nat.le_of_ble_eq_true rfl⟩ ⟨Nat.le_of_ble_eq_true rfl, Nat.le_of_ble_eq_true rfl⟩ hN (hT0.keep hS hAs) hK hP [i_2] (by simp only [List.filterMap_cons, List.filterMap_nil, hg_2]) [] rfl i_2 11 hg_2 rfl rfl hl.1 rfl (Nat.le_of_ble_eq_true rfl) d_Trust_list_12) (fun r12 hr12 => ?_)
    subst hr12
    refine lv_bipush (v := 8) hx hb d_Trust_list_15 (by decide) ?_
    refine lv_icmp_lt (tgt := 30) hx hb d_Trust_list_17 (by decide) (fun c17 => ?_) (fun c17 => ?_)
    · have p17 : ((ω li).length) < 8 := ((nI_ltI (a := ((ω li).length)) (b := 8) (by omega) (by omega)).mp c17)
      exact absurd ⟨p5, p17⟩ hbad
    · have p17 : ¬ (((ω li).length) < 8) := (fun q9 => c17 ((nI_ltI (a := ((ω li).length)) (b := 8) (by omega) (by omega)).mpr q9))
      obtain ⟨sa, hsa⟩ := hTh.2.2.1 (93, "no such text, or no room") (by decide)
      exact vx_throwS (own := "TrustChain") (cls := "java/lang/IndexOutOfBoundsException") (text := "no such text, or no room") (names := xUp) (ik := 74) (is := 93) (ic := 78) (sa := sa) (A := A) hx hb hl0 hown (by decide) (by decide) (htb _ q1_211) (htb _ q1_14) hsa (x_hat x_ot78 x_gd78 x_nw78 htb hN) x_ot78 (hTh.1.narrow hAs) (hTh.2.1.narrow hAs) hS (hl.1.trans hml.symm) d_Trust_list_20 d_Trust_list_23 d_Trust_list_24 d_Trust_list_26 d_Trust_list_29 (fun x h => (hnoh x h).elim) (Nat.le_of_ble_eq_true rfl) (Nat.le_of_ble_eq_true rfl) (Nat.le_of_ble_eq_true rfl) (Nat.le_of_ble_eq_true rfl) hlocks (x_end (G, L, o, as, foS, chS, faP, feS, wrP) ⟨⟨hTy, hL, kq0, kpl, h16⟩, hFR, ⟨rfl, rfl⟩⟩ hP hK hD hS) hS.2.2 (Nat.le_of_ble_eq_true rfl) (Nat.le_of_ble_eq_true rfl)
set_option maxHeartbeats 4000000 in
set_option maxRecDepth 100000 in
theorem zl_list_b (l : Launch) (hl0 : l.stackTraces = false) (dC : Nat → ClassId) (dI : Nat → Nat → Nat) (sb : sB) (γ : cG) (κ : kE) (Ad : List Nat) (ν : Nat → cN) (ω : Nat → List Nat) (L : Nat) (G : va_W) (fe ho ce li sh rs se ch fo q0 pl : Nat) (o : alD) (as : List Nat) (foS chS faP feS wrP : Int32) (ou : Nat) (fu : Nat → Nat) (ov : Nat → Int64) (i : Int32) (sz : Nat) (hLW : LWx γ sb κ Ad ν ω fe ho ce li sh rs se ch fo q0 pl ou fu ov (G, L, o, as, foS, chS, faP, feS, wrP)) (hbad : ¬ ((¬ i < 0 ∧ i ≤ 2048 ∧ i ≤ feS) ∧ (ω li).length < 8)) : vx_Met l y_TrustChainLaw_list w_TrustChainLaw_list ({ frames := 13, cells := 1, slots := 6, locals := 402 }) (mx_P [.ref q0, .int i, .ref ou] (dC, dI) sb G [(γ.1, .byte), (γ.2.1, .int), (γ.2.2.1, .long), (γ.2.2.2, .object "java/lang/Object")] sz) (va_Qi (fun r (u' : cU × (Nat → Int64)) => LWx γ sb κ Ad ν ω fe ho ce li sh rs se ch fo q0 pl ou fu u'.2 u'.1 ∧ ((r = 0 ∧ ∃ r9 : Int32, (False) ∧ u'.2 = vp_updL ov 0 r9.toInt64) ∨ (∃ E : String, (u'.1.2.2.2.2 = (foS, chS, faP, feS, wrP) ∧ E = "java/lang/IndexOutOfBoundsException") ∧ r = (if E = "java/lang/IllegalArgumentException" then 1 else 1) ∧ u'.2 = ov))) (mu_B (dC, dI) [(γ.1, .byte), (γ.2.1, .int), (γ.2.2.1, .long), (γ.2.2.2, .object "java/lang/Object")] (va_A G sz) (fun u' : cU × (Nat → Int64) => u'.1.1)) (va_A G sz)) (mx_X (fun (E : String) (u' : cU × (Nat → Int64)) => False) (dC, dI) [(γ.1, .byte), (γ.2.1, .int), (γ.2.2.1, .long), (γ.2.2.2, .object "java/lang/Object")] (va_A G sz) (fun u' : cU × (Nat → Int64) => u'.1.1)) 1 6 (va_A G sz) := by
  refine vx_ofWH (cc := b_TrustChainLaw_list) (maxL := 4) (ret := (some FieldType.int)) (by decide) rfl ?_
  intro p e s m args below meth c s₁ B hml hv
  obtain ⟨rfl, hsz, hB0, hP, hK, hD0, hN, hT0, hTh⟩ := hv
  have hx := B.exec
  have hb := B.bytes
  have hr := B.returns
  have hts := atoms_spec (ws := w_TrustChainLaw_list) B.pre
  have htab : c.exceptionTable.toList = tableOf [(0, 9, 12, 13), (0, 9, 15, 19)] := vx_table (x := y_TrustChainLaw_list) B (hts _ List.mem_cons_self)
  have tbin : ∀ w ∈ tb, w ∈ w_TrustChainLaw_list := fun w h => List.mem_cons_of_mem _ h
  have htb : ∀ w ∈ tb, w.before _ s = true := fun w h => hts w (tbin w h)
  have hown : s.vm.findClass "TrustChainLaw" = some m.cls := findClass_of_methodNamed B.named
  have hlocks := B.notSynchronized
  subst hsz
  have hD := hD0.self (sz := s.heap.size)
  generalize hAe : va_A G s.heap.size = A at hD ⊢
  have hA : ∀ q : Nat, s.heap.size ≤ q → A q := fun q h => by rw [← hAe]; exact Or.inr h
  have hAs : ∀ q : Nat, A q → sb.1 ≤ q := fun q h => by
    rw [← hAe] at h
    rcases h with ⟨k, e, h⟩ | h
    · exact hD0.2 k _ h
    · exact Nat.le_trans hB0 h
  have hS : va_S A s.heap s.heap [] := va_S.rf
  have hcs : 1 ≤ (headSpec w_TrustChainLaw_list ({ frames := 13, cells := 1, slots := 6, locals := 402 })).room.cells ∧ 6 ≤ (headSpec w_TrustChainLaw_list ({ frames := 13, cells := 1, slots := 6, locals := 402 })).room.slots := ⟨Nat.le_refl _, Nat.le_refl _⟩
  have hP : va_P (dC, dI) classes G s.heap := hP
  obtain ⟨hC, hW0, kfe, kou, hfq, hfp, hoq, hop⟩ := hLW
  dsimp only at kfe kou
  have kq0 := hW0.2.2.1
  dsimp only at kq0
  have hl := lv_entry ([.ref q0, .int i, .ref ou]) (n := 4) (Nat.le_of_ble_eq_true rfl)
  rw [lg_entry_eq]
  generalize (lg_sl ([.ref q0, .int i, .ref ou]) ++ List.replicate (4 - (lg_sl ([.ref q0, .int i, .ref ou])).length) Slot.unset).toArray = ls at hl ⊢
  have hl : lv_has ls 4 [(0, .ref q0), (1, .int i), (2, .ref ou)] := hl
  refine lv_aload_n hx hb d_TrustChainLaw_list_0 rfl (lv_at hl 2 rfl) ?_
  refine lv_iconst (v := 0) hx hb d_TrustChainLaw_list_1 (by decide) ?_
  refine lv_aload_n hx hb d_TrustChainLaw_list_2 rfl (lv_at hl 0 rfl) ?_
  refine lv_iload_n hx hb d_TrustChainLaw_list_3 rfl (lv_at hl 1 rfl) ?_
  obtain ⟨i_1, hg_1⟩ := List.getElem?_of_mem kq0.2
  have hFc := va_free (wc := G) hD hS hA (List.range G.length) (rg_is _)
  refine vx_calli (mx_runV (As := [.int i]) (rest := [.int 0, .ref ou]) ⟨hx, hb, hml, hown, hts⟩ tbin (z_Trust_list_b l hl0 dC dI sb γ κ Ad ν ω L G fe ho ce li sh rs se ch fo q0 pl o as foS chS faP feS wrP i  s.heap.size hC hW0 hbad) q5_50 q5_51 q5_52 q1_1 q5_53 (n := 1) (by decide +kernel) rfl ⟨rfl, rfl⟩ ⟨Nat.le_of_ble_eq_true rfl, Nat.le_of_ble_eq_true rfl⟩ ⟨Nat.le_of_ble_eq_true rfl, Nat.le_of_ble_eq_true rfl⟩ (hTh.keep hS hAs) hN (hT0.keep hS hAs) hAs (Nat.le_trans hB0 hS.1) hK hP hD (List.range G.length) (rg_nd _) (rg_is _) [0, 1, 2, 3] rfl i_1 10 hg_1 rfl rfl hl.1 rfl (Nat.le_of_ble_eq_true rfl) d_TrustChainLaw_list_4) hS (fun q _ h => hFc q h) hFc (fun q _ h => hFc q h) (fun E cx9 q9 uX tX HX locs ht hvm hpx hBX hz1 hk1 hS hce hcv hcl => ?_) (fun r9 uN tS H4 locs ht hvm hw9 hB hz1 hk1 hS => ?_)
  · obtain ⟨⟨hCW, hF9, hpx9⟩, hB⟩ := hBX
    obtain ⟨hP1, hK1, hD1⟩ := hB
    rw [ht] at hP1
    have hP : va_P (dC, dI) classes uX.1 HX := hP1
    have hD : va_D A uX.1 := hD1.weaken (fun _ _ _ h => hFc _ h)
    have kfe : Xc Ad fe _ uX.1 := ⟨kfe.1, hF9 _ kfe.1 hfq hfp (fun _ _ => arI_ne) kfe.2⟩
    have kou : Xc Ad ou _ uX.1 := ⟨kou.1, hF9 _ kou.1 hoq hop (fun _ _ => arJ_ne) kou.2⟩
    have hE : E = "java/lang/IndexOutOfBoundsException" := hpx9.2
    subst hE
    refine vx_catch hown [] ⟨0, 9, 12, 13⟩ [⟨0, 9, 15, 19⟩] htab (fun z h => nomatch h) (by decide) (by decide) (htb _ q1_206) (va_Nw.use rfl (hN.1 _ qn1_213)) hce hcv hcl ?_
    refine lv_astore_n (lv' := [(3, .ref q9), (0, .ref q0), (1, .int i), (2, .ref ou)]) hx hb d_TrustChainLaw_list_12 rfl hl (by decide) rfl (fun ls hl => ?_)
    refine lv_iconst (v := 1) hx hb d_TrustChainLaw_list_13 (by decide) ?_
    exact vx_ret (x_wide 1 6 (Nat.le_of_ble_eq_true rfl) (Nat.le_of_ble_eq_true rfl) (W.iret (v := 1) hx hb hr (fun t ht hW => ⟨⟨_, (uX, ov), rfl, ⟨⟨hC, hCW, kfe, kou, hfq, hfp, hoq, hop⟩, Or.inr ⟨_, hpx9, (if_neg (by decide)).symm, rfl⟩⟩, ⟨by rw [ht]; exact hP, va_K.moved hW.alike hK, hD⟩⟩, hS.F ht⟩) hS.2.2 d_TrustChainLaw_list_14))
  · obtain ⟨hP1, hK1, hD1⟩ := hB
    rw [ht] at hP1
    have hP : va_P (dC, dI) classes uN.1 H4 := hP1
    have hD : va_D A uN.1 := hD1.weaken (fun _ _ _ h => hFc _ h)
    obtain ⟨hCW, hF9, hQ9⟩ := hw9
    exact hQ9.elim
