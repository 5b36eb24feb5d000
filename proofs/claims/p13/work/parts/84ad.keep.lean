/-! keepPath, chain, validate: what they do. -/
def y_Trust_keepPath : MethodName := ⟨"TrustChain", "keepPath", "()V"⟩
abbrev b_Trust_keepPath : ByteArray := prog_1_method_22_code
def w_Trust_keepPath : List Cond := Cond.code y_Trust_keepPath b_Trust_keepPath 2 (none) :: tb
theorem d_Trust_keepPath_0 : decode b_Trust_keepPath 0 = .ok (.aload_n 0, 1) := by decide +kernel
theorem d_Trust_keepPath_1 : decode b_Trust_keepPath 1 = .ok (.aload_n 0, 1) := by decide +kernel
theorem d_Trust_keepPath_2 : decode b_Trust_keepPath 2 = .ok (.getfield 43, 3) := by decide +kernel
theorem d_Trust_keepPath_5 : decode b_Trust_keepPath 5 = .ok (.getfield 210, 3) := by decide +kernel
theorem d_Trust_keepPath_8 : decode b_Trust_keepPath 8 = .ok (.invokevirtual 89, 3) := by decide +kernel
theorem d_Trust_keepPath_11 : decode b_Trust_keepPath 11 = .ok (.bipush 16, 2) := by decide +kernel
theorem d_Trust_keepPath_13 : decode b_Trust_keepPath 13 = .ok (.invokestatic 261, 3) := by decide +kernel
theorem d_Trust_keepPath_16 : decode b_Trust_keepPath 16 = .ok (.putfield 58, 3) := by decide +kernel
theorem d_Trust_keepPath_19 : decode b_Trust_keepPath 19 = .ok (.iconst 0, 1) := by decide +kernel
theorem d_Trust_keepPath_20 : decode b_Trust_keepPath 20 = .ok (.istore_n 1, 1) := by decide +kernel
theorem d_Trust_keepPath_21 : decode b_Trust_keepPath 21 = .ok (.iload_n 1, 1) := by decide +kernel
theorem d_Trust_keepPath_22 : decode b_Trust_keepPath 22 = .ok (.aload_n 0, 1) := by decide +kernel
theorem d_Trust_keepPath_23 : decode b_Trust_keepPath 23 = .ok (.getfield 58, 3) := by decide +kernel
theorem d_Trust_keepPath_26 : decode b_Trust_keepPath 26 = .ok (.if_icmp .ge 32, 3) := by decide +kernel
theorem d_Trust_keepPath_29 : decode b_Trust_keepPath 29 = .ok (.aload_n 0, 1) := by decide +kernel
theorem d_Trust_keepPath_30 : decode b_Trust_keepPath 30 = .ok (.getfield 54, 3) := by decide +kernel
theorem d_Trust_keepPath_33 : decode b_Trust_keepPath 33 = .ok (.iload_n 1, 1) := by decide +kernel
theorem d_Trust_keepPath_34 : decode b_Trust_keepPath 34 = .ok (.aload_n 0, 1) := by decide +kernel
theorem d_Trust_keepPath_35 : decode b_Trust_keepPath 35 = .ok (.getfield 43, 3) := by decide +kernel
theorem d_Trust_keepPath_38 : decode b_Trust_keepPath 38 = .ok (.getfield 210, 3) := by decide +kernel
theorem d_Trust_keepPath_41 : decode b_Trust_keepPath 41 = .ok (.iload_n 1, 1) := by decide +kernel
theorem d_Trust_keepPath_42 : decode b_Trust_keepPath 42 = .ok (.invokevirtual 165, 3) := by decide +kernel
theorem d_Trust_keepPath_45 : decode b_Trust_keepPath 45 = .ok (.checkcast 120, 3) := by decide +kernel
theorem d_Trust_keepPath_48 : decode b_Trust_keepPath 48 = .ok (.getfield 135, 3) := by decide +kernel
theorem d_Trust_keepPath_51 : decode b_Trust_keepPath 51 = .ok (.iastore, 1) := by decide +kernel
theorem d_Trust_keepPath_52 : decode b_Trust_keepPath 52 = .ok (.iinc 1 1, 3) := by decide +kernel
theorem d_Trust_keepPath_55 : decode b_Trust_keepPath 55 = .ok (.goto (-34), 3) := by decide +kernel
theorem d_Trust_keepPath_58 : decode b_Trust_keepPath 58 = .ok (.return_, 1) := by decide +kernel
set_option maxHeartbeats 4000000 in
set_option maxRecDepth 100000 in
theorem z_Trust_keepPath (l : Launch) (dC : Nat → ClassId) (dI : Nat → Nat → Nat) (sb : sB) (γ : cG) (κ : kE) (Ad : List Nat) (ν : Nat → cN) (ω : Nat → List Nat) (L : Nat) (G : va_W) (fe ho ce li sh rs se ch fo q0 pl : Nat) (o : alD) (as : List Nat) (foS chS faP feS wrP : Int32)  (sz : Nat) (hC : CKx sb κ Ad ω ho ce li sh rs se ch fo q0 pl) (hW0 : CWx γ sb κ Ad ν ω fe ho ce li sh rs se ch fo q0 pl (G, L, o, as, foS, chS, faP, feS, wrP))   : Met l y_Trust_keepPath w_Trust_keepPath ({ frames := 3, cells := 0, slots := 0, locals := 64 }) (mu_P [.ref q0] (dC, dI) sb G [(γ.1, .byte), (γ.2.1, .int), (γ.2.2.1, .long), (γ.2.2.2, .object "java/lang/Object")] sz) (va_Qv (fun (u' : cU) => ∃ ω' : Nat → List Nat, (∀ b, b ≠ fo → ω' b = ω b) ∧ (∀ j9, j9 < as.length → nI ((ω' fo).getD j9 0) = (ν (as.getD j9 0)).2.2.2.2.2.2.2.2.2.2.2.2) ∧ CWx γ sb κ Ad ν ω' fe ho ce li sh rs se ch fo q0 pl u' ∧ FRq γ Ad q0 pl G u'.1 ∧ u'.2.1 = L ∧ u'.2.2.1 = o ∧ u'.2.2.2.1 = as ∧ u'.2.2.2.2 = (nI as.length, chS, faP, feS, wrP)) (mu_B (dC, dI) [(γ.1, .byte), (γ.2.1, .int), (γ.2.2.1, .long), (γ.2.2.2, .object "java/lang/Object")] (va_A G sz) (fun u' : cU => u'.1)) (va_A G sz)) 0 0 (va_A G sz) := by
  refine Met.ofW (cc := b_Trust_keepPath) (maxL := 2) (ret := none) (by decide) rfl ?_
  intro p e s m args below meth c s₁ B hml hv
  obtain ⟨rfl, hsz, hB0, hP, hK, hD0, hN, hT0⟩ := hv
  have hx := B.exec
  have hb := B.bytes
  have hr := B.returns
  have hts := atoms_spec (ws := w_Trust_keepPath) B.pre
  have tbin : ∀ w ∈ tb, w ∈ w_Trust_keepPath := fun w h => List.mem_cons_of_mem _ h
  have htb : ∀ w ∈ tb, w.before _ s = true := fun w h => hts w (tbin w h)
  have hown : s.vm.findClass "TrustChain" = some m.cls := findClass_of_methodNamed B.named
  have hlocks := B.notSynchronized
  subst hsz
  have hD := hD0.self (sz := s.heap.size)
  generalize hAe : va_A G s.heap.size = A at hD ⊢
  have hA : ∀ q : Nat, s.heap.size ≤ q → A q := fun q h => by rw [← hAe]; exact Or.inr h
  have hAs : ∀ q : Nat, A q → sb.1 ≤ q := fun q h => by
    rw [← hAe] at h
    rcases h with ⟨k, e, h⟩ | h
    · exact hD0.2 k _ h
    · exact Nat.le_trans hB0 h
  have hS : va_S A s.heap s.heap [] := va_S.rf
  have hFR := FRq.rf γ Ad q0 pl G
  have hcs : 0 ≤ (headSpec w_Trust_keepPath ({ frames := 3, cells := 0, slots := 0, locals := 64 })).room.cells ∧ 0 ≤ (headSpec w_Trust_keepPath ({ frames := 3, cells := 0, slots := 0, locals := 64 })).room.slots := ⟨Nat.le_refl _, Nat.le_refl _⟩
  have hP : va_P (dC, dI) classes G s.heap := hP
  have hC0 := hC
  obtain ⟨⟨kho, kce, kli, ksh, krs, kse, kch, kfo⟩, h1, hce9, hli9, hqp, hN14, hN16⟩ := hC
  obtain ⟨hTy, hL, kq0, kpl, h16⟩ := hW0
  dsimp only at hTy hL kq0 kpl h16
  have hl := lv_entry ([.ref q0]) (n := 2) (Nat.le_of_ble_eq_true rfl)
  rw [lg_entry_eq]
  generalize (lg_sl ([.ref q0]) ++ List.replicate (2 - (lg_sl ([.ref q0])).length) Slot.unset).toArray = ls at hl ⊢
  have hl : lv_has ls 2 [(0, .ref q0)] := hl
  have hNL : ∀ a, (κ a).1 = 6 → ∀ b, b ∈ Ad → (κ b).1 = 14 ∨ (κ b).1 = 16 → (κ b).2.2 ≠ a := fun a ha b hb hk e => by
    rcases hk with hk | hk
    · rw [← e, (hN14 b hb hk).1, kce.2] at ha
      exact absurd ha (by decide : ¬ (15 : Nat) = 6)
    · rw [← e, (hN16 b hb hk).1, kli.2] at ha
      exact absurd ha (by decide : ¬ (17 : Nat) = 6)
  refine lv_aload_n hx hb d_Trust_keepPath_0 rfl (lv_at hl 0 rfl) ?_
  refine lv_aload_n hx hb d_Trust_keepPath_1 rfl (lv_at hl 0 rfl) ?_
  obtain ⟨i_1, hg_1⟩ := List.getElem?_of_mem kq0.2
  refine va_get (v := .ref se) hx hb htb i_Trust hown hK hP i_1 hg_1 rfl 6 (by decide) (htb _ q1_162) (fun _ h9 => h9) rfl d_Trust_keepPath_2 ?_
  obtain ⟨i_2, nx_2, ⟨knx_2, enx_2⟩, hg_2⟩ := ty_13 hTy kse
  refine va_get (v := .ref pl) hx hb htb i_Search hown hK hP i_2 hg_2 rfl 0 (by decide) (htb _ q1_120) (fun _ h9 => h9) rfl d_Trust_keepPath_5 ?_
  obtain ⟨i_3, m_3, hK_3, hg_3⟩ := pl_size kpl
  refine vp_callSi (pu_callV (As := []) (rest := [.ref q0]) ⟨hx, hb, hml, hown, hts⟩ tbin (c_AL_size l dC dI sb pl (alO sb o) as.length m_3) q2_53 q2_54 q2_55 q1_4 q2_56 (n := 0) (by decide +kernel) rfl ⟨rfl, rfl⟩ ⟨Nat.le_of_ble_eq_true rfl, Nat.le_of_ble_eq_true rfl⟩ ⟨Nat.le_of_ble_eq_true rfl, Nat.le_of_ble_eq_true rfl⟩ hN (hT0.keep hS hAs) hK hP [i_3] (by simp only [List.filterMap_cons, List.filterMap_nil, hg_3]) [] rfl i_3 11 hg_3 rfl rfl hl.1 rfl (Nat.le_of_ble_eq_true rfl) d_Trust_keepPath_8) (fun r8 hr8 => ?_)
  subst hr8
  refine lv_bipush (v := 16) hx hb d_Trust_keepPath_11 (by decide) ?_
  refine va_mmin hx hb (by rw [hml]; exact hl.1.symm) hown (htb _ q6_126) (htb _ q2_75) (htb _ q1_18) (htb _ q2_76) (Nat.le_of_ble_eq_true rfl) (Nat.le_of_ble_eq_true rfl) (Nat.le_of_ble_eq_true rfl) (Nat.le_of_ble_eq_true rfl) d_Trust_keepPath_13 ?_
  refine lv_topi (fun r13 hr13 => ?_)
  rw [if_neg (by rw [show (16 : Int32) = nI 16 from rfl, nI_ltI (by omega) (by omega)]; omega)] at hr13
  subst hr13
  refine va_put (v := .int (nI as.length)) (ty := .int) hx hb htb i_Trust t_Trust t_Trust_ok n_Trust hown hK hP hD hS i_1 hg_1 rfl 9 (by decide) (htb _ q1_165) (fun _ h9 => h9) rfl (by decide +kernel) rfl rfl (Nat.le_of_ble_eq_true rfl) d_Trust_keepPath_16 (fun H16 locs hP hD2 hS => ?_)
  have hP : va_P (dC, dI) classes (G.set i_1 (q0, .inr (10, [.ref fe, .ref ho, .ref ce, .ref li, .ref sh, .ref rs, .ref se, .ref ch, .ref fo, .int (nI as.length), .int chS, .int faP, .int feS, .int wrP]))) H16 := hP
  have hD3 : va_D A (G.set i_1 (q0, .inr (10, [.ref fe, .ref ho, .ref ce, .ref li, .ref sh, .ref rs, .ref se, .ref ch, .ref fo, .int (nI as.length), .int chS, .int faP, .int feS, .int wrP]))) := hD2
  have hTy := TY.setX (c' := .inr (10, [.ref fe, .ref ho, .ref ce, .ref li, .ref sh, .ref rs, .ref se, .ref ch, .ref fo, .int (nI as.length), .int chS, .int faP, .int feS, .int wrP])) hTy hg_1 kq0.1
  have kpl := PLx.setX (c' := .inr (10, [.ref fe, .ref ho, .ref ce, .ref li, .ref sh, .ref rs, .ref se, .ref ch, .ref fo, .int (nI as.length), .int chS, .int faP, .int feS, .int wrP])) kpl hg_1 (by decide)
  have hFR := hFR.tr (FX.set (Ad := Ad) (c' := .inr (10, [.ref fe, .ref ho, .ref ce, .ref li, .ref sh, .ref rs, .ref se, .ref ch, .ref fo, .int (nI as.length), .int chS, .int faP, .int feS, .int wrP])) hg_1).q
  have hg_1 := set_here (c' := .inr (10, [.ref fe, .ref ho, .ref ce, .ref li, .ref sh, .ref rs, .ref se, .ref ch, .ref fo, .int (nI as.length), .int chS, .int faP, .int feS, .int wrP])) hg_1
  have kq0 : Xc Ad q0 (.inr (10, [.ref fe, .ref ho, .ref ce, .ref li, .ref sh, .ref rs, .ref se, .ref ch, .ref fo, .int (nI as.length), .int chS, .int faP, .int feS, .int wrP])) (G.set i_1 (q0, .inr (10, [.ref fe, .ref ho, .ref ce, .ref li, .ref sh, .ref rs, .ref se, .ref ch, .ref fo, .int (nI as.length), .int chS, .int faP, .int feS, .int wrP]))) := ⟨kq0.1, List.mem_of_getElem? hg_1⟩
  have hD := hD3
  clear hD3 hD2
  generalize G.set i_1 (q0, .inr (10, [.ref fe, .ref ho, .ref ce, .ref li, .ref sh, .ref rs, .ref se, .ref ch, .ref fo, .int (nI as.length), .int chS, .int faP, .int feS, .int wrP])) = G_4 at hP hD hTy hFR kpl kq0 hg_1
  refine lv_iconst (v := 0) hx hb d_Trust_keepPath_19 (by decide) ?_
  refine lv_istore_n (lv' := [(1, .int 0), (0, .ref q0)]) hx hb d_Trust_keepPath_20 rfl hl (by decide) rfl (fun ls hl => ?_)
  refine w_loopW (α := Nat × va_W) (fun a9 => a9.1 ≤ as.length ∧ (∃ ω' : Nat → List Nat, (∀ b, b ≠ fo → ω' b = ω b) ∧ (∀ j9, j9 < a9.1 → nI ((ω' fo).getD j9 0) = (ν (as.getD j9 0)).2.2.2.2.2.2.2.2.2.2.2.2) ∧ TY γ κ Ad ν ω' L a9.2) ∧ FRq γ Ad q0 pl G a9.2 ∧ PLx γ sb κ Ad 8 pl o as a9.2 ∧ Xc Ad q0 (.inr (10, [.ref fe, .ref ho, .ref ce, .ref li, .ref sh, .ref rs, .ref se, .ref ch, .ref fo, .int (nI as.length), .int chS, .int faP, .int feS, .int wrP])) a9.2) (fun a9 => as.length - a9.1) (fun a9 => [(1, .int (nI a9.1)), (0, .ref q0)]) (fun _ => []) (fun a9 => a9.2) 2 21 (fun a9 HL21 locs ls hJ hP hD hS hl ih21 => ?_) (0, G_4) _ _ ls ⟨Nat.zero_le _, ⟨ω, fun _ _ => rfl, fun j9 h9 => absurd h9 (Nat.not_lt_zero j9), hTy⟩, hFR, kpl, kq0⟩ hP hD hS (lv_sub hl [0, 1] rfl)
  obtain ⟨z21, G21⟩ := a9
  obtain ⟨hz21, ⟨ω21, hω21, hr21, hTy⟩, hFR, kpl, kq0⟩ := hJ
  dsimp only at hz21 hr21 hTy hFR kpl kq0 hP hD hl ih21
  refine lv_iload_n hx hb d_Trust_keepPath_21 rfl (lv_at hl 0 rfl) ?_
  refine lv_aload_n hx hb d_Trust_keepPath_22 rfl (lv_at hl 1 rfl) ?_
  obtain ⟨i_5, hg_5⟩ := List.getElem?_of_mem kq0.2
  refine va_get (v := .int (nI as.length)) hx hb htb i_Trust hown hK hP i_5 hg_5 rfl 9 (by decide) (htb _ q1_165) (fun _ h9 => h9) rfl d_Trust_keepPath_23 ?_
  refine lv_icmp_ge (tgt := 58) hx hb d_Trust_keepPath_26 (by decide) (fun c26 => ?_) (fun c26 => ?_)
  · have p26 : as.length ≤ z21 := ((nI_leI (a := as.length) (b := z21) (by omega) (by omega)).mp c26)
    exact W.vret hx hb hr (fun t ht hW => ⟨⟨(G21, L, o, as, nI as.length, chS, faP, feS, wrP), rfl, ⟨ω21, hω21, fun j9 h9 => hr21 j9 (by omega), ⟨hTy, hL, kq0, kpl, h16⟩, hFR, rfl, rfl, rfl, rfl⟩, ⟨by rw [ht]; exact hP, va_K.moved hW.alike hK, hD⟩⟩, hS.F ht⟩) hS.2.2 d_Trust_keepPath_58
  · have p26 : ¬ (as.length ≤ z21) := (fun q9 => c26 ((nI_leI (a := as.length) (b := z21) (by omega) (by omega)).mpr q9))
    refine lv_aload_n hx hb d_Trust_keepPath_29 rfl (lv_at hl 1 rfl) ?_
    refine va_get (v := .ref fo) hx hb htb i_Trust hown hK hP i_5 hg_5 rfl 8 (by decide) (htb _ q1_164) (fun _ h9 => h9) rfl d_Trust_keepPath_30 ?_
    refine lv_iload_n hx hb d_Trust_keepPath_33 rfl (lv_at hl 0 rfl) ?_
    refine lv_aload_n hx hb d_Trust_keepPath_34 rfl (lv_at hl 1 rfl) ?_
    refine va_get (v := .ref se) hx hb htb i_Trust hown hK hP i_5 hg_5 rfl 6 (by decide) (htb _ q1_162) (fun _ h9 => h9) rfl d_Trust_keepPath_35 ?_
    obtain ⟨i_6, nx_6, ⟨knx_6, enx_6⟩, hg_6⟩ := ty_13 hTy kse
    refine va_get (v := .ref pl) hx hb htb i_Search hown hK hP i_6 hg_6 rfl 0 (by decide) (htb _ q1_120) (fun _ h9 => h9) rfl d_Trust_keepPath_38 ?_
    refine lv_iload_n hx hb d_Trust_keepPath_41 rfl (lv_at hl 0 rfl) ?_
    obtain ⟨i_7, m_7, hK_7, hg_7⟩ := pl_size kpl
    obtain ⟨j_8, cap_8, f_8, p_8, q_8, hK_8, hc_8, hf_8, ks_8, h9_8, hq_8⟩ := pl_get kpl (j := z21) (by omega)
    refine va_csr (pu_callV (As := [.int (nI z21)]) (rest := [.int (nI z21), .ref fo]) ⟨hx, hb, hml, hown, hts⟩ tbin (c_AL_get l dC dI sb pl (alO sb o) as.length cap_8 z21 (as.getD z21 0) m_7 γ.2.2.2 f_8 (by omega) hK_8 (by omega) hf_8) q5_39 q4_210 q4_211 q1_4 q4_212 (n := 1) (by decide +kernel) rfl ⟨rfl, rfl⟩ ⟨Nat.le_of_ble_eq_true rfl, Nat.le_of_ble_eq_true rfl⟩ ⟨Nat.le_of_ble_eq_true rfl, Nat.le_of_ble_eq_true rfl⟩ hN (hT0.keep hS hAs) hK hP [i_7, j_8] (by simp only [List.filterMap_cons, List.filterMap_nil, hg_7, hq_8]) [3] rfl i_7 11 hg_7 rfl rfl hl.1 rfl (Nat.le_of_ble_eq_true rfl) d_Trust_keepPath_42) (fun r42 hr42 => ?_)
    obtain rfl := Eq.symm hr42
    obtain ⟨i_9, bo_9, K_9, B_9, kbo_9, wl_9, hg_9⟩ := ty_8x hTy ks_8
    obtain ⟨⟨A_9, knm_9⟩, kpe_9, kec_9, kse_9, ksu_9, kmo_9, kok_9, kik_9, kha_9, ksi_9, ken_9, ksg_9, kis_9⟩ := K_9
    have knm_9 := tK.fiv ⟨_, _, knm_9⟩
    have kpe_9 := tK.fiv kpe_9
    have kec_9 := tK.fiv kec_9
    have ksu_9 := tK.two ksu_9
    have kmo_9 := tK.two kmo_9
    have kok_9 := tK.two kok_9
    have kik_9 := tK.two kik_9
    have ksg_9 := tK.two ksg_9
    have kis_9 := tK.two kis_9
    refine va_castY (C := "TrustChain$Certificate") hx hb hown (htb _ q5_40) (hN.1 _ qn9_223) (va_recv (ci := 3) hK hP rfl hg_9) d_Trust_keepPath_45 ?_
    refine va_get (v := .int ((ν (as.getD z21 0)).2.2.2.2.2.2.2.2.2.2.2.2)) hx hb htb i_Certificate hown hK hP i_9 hg_9 rfl 17 (by decide) (htb _ q2_187) (fun _ h9 => h9) rfl d_Trust_keepPath_48 ?_
    obtain ⟨i_10, f_10, hr_10, hg_10⟩ := ty_6r hTy kfo
    have h51 : vp_in (nI z21) 16 := vp_in_nI (by omega) (by omega)
    refine va_iast hx hb hK hP hD hS i_10 1 hg_10 rfl h51 d_Trust_keepPath_51 (fun H51 locs hP hD2 hS => ?_)
    have hP : va_P (dC, dI) classes (G21.set i_10 (fo, .inl (γ.2.1, 16, .inl (upd f_10 (nI z21).toNatClampNeg ((ν (as.getD z21 0)).2.2.2.2.2.2.2.2.2.2.2.2))))) H51 := hP
    have hD3 : va_D A (G21.set i_10 (fo, .inl (γ.2.1, 16, .inl (upd f_10 (nI z21).toNatClampNeg ((ν (as.getD z21 0)).2.2.2.2.2.2.2.2.2.2.2.2))))) := hD2
    obtain ⟨ω51_11, hω51_11, eω51_11⟩ : ∃ z : Nat → List Nat, (∀ b, b ≠ fo → z b = ω21 b) ∧ z fo = setL (ω21 fo) z21 (((ν (as.getD z21 0)).2.2.2.2.2.2.2.2.2.2.2.2).toBitVec.toNat) := ⟨fun b => if b = fo then setL (ω21 fo) z21 (((ν (as.getD z21 0)).2.2.2.2.2.2.2.2.2.2.2.2).toBitVec.toNat) else ω21 b, fun b hb => if_neg hb, if_pos rfl⟩
    have hF1 := FR.set (c' := .inl (γ.2.1, 16, .inl (upd f_10 (nI z21).toNatClampNeg ((ν (as.getD z21 0)).2.2.2.2.2.2.2.2.2.2.2.2)))) hg_10 kfo.1
    have kpl := kpl.fr hF1
    have kq0 := kq0.fr hF1
    have hFR := hFR.tr hF1.q
    clear hF1
    have hTy := TY.setom (ω' := ω51_11) (c' := .inl (γ.2.1, 16, .inl (upd f_10 (nI z21).toNatClampNeg ((ν (as.getD z21 0)).2.2.2.2.2.2.2.2.2.2.2.2)))) hTy hD hg_10 hω51_11 (by rw [kfo.2]) (hNL fo (by rw [kfo.2])) (ok_6r kfo (by rw [eω51_11]; exact st_16 hr_10 (nI_bv ((ν (as.getD z21 0)).2.2.2.2.2.2.2.2.2.2.2.2)).symm (nI_clamp (by omega))))
    have hD := hD3
    have hWω51_11 : ∀ b, b ≠ fo → ω51_11 b = ω b := fun b hb => (hω51_11 b hb).trans (hω21 b hb)
    clear hD3 hD2
    generalize G21.set i_10 (fo, .inl (γ.2.1, 16, .inl (upd f_10 (nI z21).toNatClampNeg ((ν (as.getD z21 0)).2.2.2.2.2.2.2.2.2.2.2.2)))) = G_11 at hP hD hTy hFR kpl kq0
    refine lv_iinc (v := nI (z21 + 1)) (lv' := [(1, .int (nI (z21 + 1))), (0, .ref q0)]) hx hb d_Trust_keepPath_52 hl (k := 0) rfl (nI_1 _) (by decide) rfl (fun ls hl => ?_)
    refine lv_goto (tgt := 21) hx hb d_Trust_keepPath_55 (by decide) ?_
    exact ih21 (z21 + 1, G_11) _ _ ls (by dsimp only; omega) ⟨by dsimp only; omega, ⟨ω51_11, hWω51_11, fun j9 h9 => by rw [eω51_11]; exact setL_n (f := fun j9 => (ν (as.getD j9 0)).2.2.2.2.2.2.2.2.2.2.2.2) hr21 rfl (by omega) j9 h9, hTy⟩, hFR, kpl, kq0⟩ hP hD hS (lv_sub hl [0, 1] rfl)
