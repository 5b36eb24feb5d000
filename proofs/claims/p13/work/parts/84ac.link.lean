/-! linkIssuers: who may follow whom. -/
def y_Trust_linkIssuers : MethodName := ⟨"TrustChain", "linkIssuers", "(LTrustChain$Certificate;)V"⟩
abbrev b_Trust_linkIssuers : ByteArray := prog_1_method_21_code
def w_Trust_linkIssuers : List Cond := Cond.code y_Trust_linkIssuers b_Trust_linkIssuers 4 (none) :: tb
theorem d_Trust_linkIssuers_0 : decode b_Trust_linkIssuers 0 = .ok (.iconst 0, 1) := by decide +kernel
theorem d_Trust_linkIssuers_1 : decode b_Trust_linkIssuers 1 = .ok (.istore_n 2, 1) := by decide +kernel
theorem d_Trust_linkIssuers_2 : decode b_Trust_linkIssuers 2 = .ok (.iload_n 2, 1) := by decide +kernel
theorem d_Trust_linkIssuers_3 : decode b_Trust_linkIssuers 3 = .ok (.aload_n 0, 1) := by decide +kernel
theorem d_Trust_linkIssuers_4 : decode b_Trust_linkIssuers 4 = .ok (.getfield 19, 3) := by decide +kernel
theorem d_Trust_linkIssuers_7 : decode b_Trust_linkIssuers 7 = .ok (.invokevirtual 89, 3) := by decide +kernel
theorem d_Trust_linkIssuers_10 : decode b_Trust_linkIssuers 10 = .ok (.if_icmp .ge 67, 3) := by decide +kernel
theorem d_Trust_linkIssuers_13 : decode b_Trust_linkIssuers 13 = .ok (.aload_n 0, 1) := by decide +kernel
theorem d_Trust_linkIssuers_14 : decode b_Trust_linkIssuers 14 = .ok (.getfield 19, 3) := by decide +kernel
theorem d_Trust_linkIssuers_17 : decode b_Trust_linkIssuers 17 = .ok (.iload_n 2, 1) := by decide +kernel
theorem d_Trust_linkIssuers_18 : decode b_Trust_linkIssuers 18 = .ok (.invokevirtual 165, 3) := by decide +kernel
theorem d_Trust_linkIssuers_21 : decode b_Trust_linkIssuers 21 = .ok (.checkcast 120, 3) := by decide +kernel
theorem d_Trust_linkIssuers_24 : decode b_Trust_linkIssuers 24 = .ok (.astore_n 3, 1) := by decide +kernel
theorem d_Trust_linkIssuers_25 : decode b_Trust_linkIssuers 25 = .ok (.aload_n 1, 1) := by decide +kernel
theorem d_Trust_linkIssuers_26 : decode b_Trust_linkIssuers 26 = .ok (.aload_n 3, 1) := by decide +kernel
theorem d_Trust_linkIssuers_27 : decode b_Trust_linkIssuers 27 = .ok (.invokevirtual 254, 3) := by decide +kernel
theorem d_Trust_linkIssuers_30 : decode b_Trust_linkIssuers 30 = .ok (.ifCond .eq 18, 3) := by decide +kernel
theorem d_Trust_linkIssuers_33 : decode b_Trust_linkIssuers 33 = .ok (.aload_n 3, 1) := by decide +kernel
theorem d_Trust_linkIssuers_34 : decode b_Trust_linkIssuers 34 = .ok (.dup, 1) := by decide +kernel
theorem d_Trust_linkIssuers_35 : decode b_Trust_linkIssuers 35 = .ok (.getfield 258, 3) := by decide +kernel
theorem d_Trust_linkIssuers_38 : decode b_Trust_linkIssuers 38 = .ok (.iconst 1, 1) := by decide +kernel
theorem d_Trust_linkIssuers_39 : decode b_Trust_linkIssuers 39 = .ok (.aload_n 1, 1) := by decide +kernel
theorem d_Trust_linkIssuers_40 : decode b_Trust_linkIssuers 40 = .ok (.getfield 135, 3) := by decide +kernel
theorem d_Trust_linkIssuers_43 : decode b_Trust_linkIssuers 43 = .ok (.ishl, 1) := by decide +kernel
theorem d_Trust_linkIssuers_44 : decode b_Trust_linkIssuers 44 = .ok (.ior, 1) := by decide +kernel
theorem d_Trust_linkIssuers_45 : decode b_Trust_linkIssuers 45 = .ok (.putfield 258, 3) := by decide +kernel
theorem d_Trust_linkIssuers_48 : decode b_Trust_linkIssuers 48 = .ok (.aload_n 3, 1) := by decide +kernel
theorem d_Trust_linkIssuers_49 : decode b_Trust_linkIssuers 49 = .ok (.aload_n 1, 1) := by decide +kernel
theorem d_Trust_linkIssuers_50 : decode b_Trust_linkIssuers 50 = .ok (.invokevirtual 254, 3) := by decide +kernel
theorem d_Trust_linkIssuers_53 : decode b_Trust_linkIssuers 53 = .ok (.ifCond .eq 18, 3) := by decide +kernel
theorem d_Trust_linkIssuers_56 : decode b_Trust_linkIssuers 56 = .ok (.aload_n 1, 1) := by decide +kernel
theorem d_Trust_linkIssuers_57 : decode b_Trust_linkIssuers 57 = .ok (.dup, 1) := by decide +kernel
theorem d_Trust_linkIssuers_58 : decode b_Trust_linkIssuers 58 = .ok (.getfield 258, 3) := by decide +kernel
theorem d_Trust_linkIssuers_61 : decode b_Trust_linkIssuers 61 = .ok (.iconst 1, 1) := by decide +kernel
theorem d_Trust_linkIssuers_62 : decode b_Trust_linkIssuers 62 = .ok (.aload_n 3, 1) := by decide +kernel
theorem d_Trust_linkIssuers_63 : decode b_Trust_linkIssuers 63 = .ok (.getfield 135, 3) := by decide +kernel
theorem d_Trust_linkIssuers_66 : decode b_Trust_linkIssuers 66 = .ok (.ishl, 1) := by decide +kernel
theorem d_Trust_linkIssuers_67 : decode b_Trust_linkIssuers 67 = .ok (.ior, 1) := by decide +kernel
theorem d_Trust_linkIssuers_68 : decode b_Trust_linkIssuers 68 = .ok (.putfield 258, 3) := by decide +kernel
theorem d_Trust_linkIssuers_71 : decode b_Trust_linkIssuers 71 = .ok (.iinc 2 1, 3) := by decide +kernel
theorem d_Trust_linkIssuers_74 : decode b_Trust_linkIssuers 74 = .ok (.goto (-72), 3) := by decide +kernel
theorem d_Trust_linkIssuers_77 : decode b_Trust_linkIssuers 77 = .ok (.return_, 1) := by decide +kernel
set_option maxHeartbeats 4000000 in
set_option maxRecDepth 100000 in
theorem m_Trust_linkIssuers (l : Launch) (dC : Nat → ClassId) (dI : Nat → Nat → Nat) (sb : sB) (γ : cG) (κ : kE) (Ad : List Nat) (ν : Nat → cN) (ω : Nat → List Nat) (L : Nat) (G : va_W) (q0 c9 : Nat) (fe ho ce li sh rs se ch fo : Nat) (foS chS faP feS wrP : Int32) (p1 p2 mz : Nat) (sz : Nat) (hTy : TY γ κ Ad ν ω L G) (kq0 : Xc Ad q0 (.inr (10, [.ref fe, .ref ho, .ref ce, .ref li, .ref sh, .ref rs, .ref se, .ref ch, .ref fo, .int foS, .int chS, .int faP, .int feS, .int wrP])) G) (kc9 : tK κ Ad c9 (8, p1, p2)) (kce : tK κ Ad ce (15, (sb.2 5), 0)) (hc9 : c9 = (ω ce).getD mz 0) (hm : mz < (ω ce).length) (h16 : (ω ce).length ≤ 16) (hnum : ∀ k9, k9 < (ω ce).length → (ν ((ω ce).getD k9 0)).2.2.2.2.2.2.2.2.2.2.2.2 = nI k9) (hNL4 : ∀ b, b ∈ Ad → (κ b).1 = 14 ∨ (κ b).1 = 16 → (κ (κ b).2.2).1 ≠ 4) (hk8 : ∀ k9, k9 < (ω ce).length → ∃ p q, tK κ Ad ((ω ce).getD k9 0) (8, p, q)) : Met l y_Trust_linkIssuers w_Trust_linkIssuers ({ frames := 4, cells := 0, slots := 0, locals := 87 }) (mu_P [.ref q0, .ref c9] (dC, dI) sb G [(γ.1, .byte), (γ.2.1, .int), (γ.2.2.1, .long), (γ.2.2.2, .object "java/lang/Object")] sz) (va_Qv (fun (G' : va_W) => ∃ ω' : Nat → List Nat, (((∀ b, (κ b).1 ≠ 4 → ω' b = ω b) ∧ (∀ b, (ω' b).getD 0 0 = (ω b).getD 0 0)) ∧ (∀ d9, d9 < (ω ce).length → ∀ k9, k9 < 16 → (bJ (nI ((ω' ((ω ((ω ce).getD d9 0)).getD 12 0)).getD 1 0)) k9 = true ↔ lkP (fun d8 k8 => bJ (nI ((ω ((ω ((ω ce).getD d8 0)).getD 12 0)).getD 1 0)) k8 = true) (fun k8 d8 => folQ (cO κ ν ω ((ω ce).getD k8 0)) (cO κ ν ω ((ω ce).getD d8 0))) mz (ω ce).length d9 k9))) ∧ TY γ κ Ad ν ω' L G' ∧ FR Ad G G') (mu_B (dC, dI) [(γ.1, .byte), (γ.2.1, .int), (γ.2.2.1, .long), (γ.2.2.2, .object "java/lang/Object")] (va_A G sz) (fun G' : va_W => G')) (va_A G sz)) 0 0 (va_A G sz) := by
  refine Met.ofW (cc := b_Trust_linkIssuers) (maxL := 4) (ret := none) (by decide) rfl ?_
  intro p e s m args below meth c s₁ B hml hv
  obtain ⟨rfl, hsz, hB0, hP, hK, hD0, hN, hT0⟩ := hv
  have hx := B.exec
  have hb := B.bytes
  have hr := B.returns
  have hts := atoms_spec (ws := w_Trust_linkIssuers) B.pre
  have tbin : ∀ w ∈ tb, w ∈ w_Trust_linkIssuers := fun w h => List.mem_cons_of_mem _ h
  have htb : ∀ w ∈ tb, w.before _ s = true := fun w h => hts w (tbin w h)
  have hown : s.vm.findClass "TrustChain" = some m.cls := findClass_of_methodNamed B.named
  have hlocks := B.notSynchronized
  subst hsz
  have hD := hD0.self (sz := s.heap.size)
  generalize hAe : va_A G s.heap.size = A at hD ⊢
  have hA : ∀ q : Nat, s.heap.size ≤ q → A q := fun q h => by rw [← hAe]; exact Or.inr h
  have hAs : ∀ q : Nat, A q → sb.1 ≤ q := fun q h => by
    rw [← hAe] at h
    rcases h with ⟨k, e, h⟩ | h
    · exact hD0.2 k _ h
    · exact Nat.le_trans hB0 h
  have hS : va_S A s.heap s.heap [] := va_S.rf
  have hFR := FR.rf Ad G
  have hcs : 0 ≤ (headSpec w_Trust_linkIssuers ({ frames := 4, cells := 0, slots := 0, locals := 87 })).room.cells ∧ 0 ≤ (headSpec w_Trust_linkIssuers ({ frames := 4, cells := 0, slots := 0, locals := 87 })).room.slots := ⟨Nat.le_refl _, Nat.le_refl _⟩
  have hP : va_P (dC, dI) classes G s.heap := hP
  have hl := lv_entry ([.ref q0, .ref c9]) (n := 4) (Nat.le_of_ble_eq_true rfl)
  rw [lg_entry_eq]
  generalize (lg_sl ([.ref q0, .ref c9]) ++ List.replicate (4 - (lg_sl ([.ref q0, .ref c9])).length) Slot.unset).toArray = ls at hl ⊢
  have hl : lv_has ls 4 [(0, .ref q0), (1, .ref c9)] := hl
  have kq0_0 := kq0
  have hTy0 := hTy
  have hnum_mz : (ν c9).2.2.2.2.2.2.2.2.2.2.2.2 = nI mz := by rw [hc9]; exact hnum mz hm
  have hk4 : ∀ d9, d9 < (ω ce).length → (κ ((ω ((ω ce).getD d9 0)).getD 12 0)).1 = 4 := fun d9 h9 => by
    obtain ⟨p8, q8, k8⟩ := hk8 d9 h9
    rw [(en_k hTy0 k8.1 (by rw [k8.2])).2]
  have hinj : ∀ d8 d9, d8 < (ω ce).length → d9 < (ω ce).length → ((ω ((ω ce).getD d8 0)).getD 12 0) = ((ω ((ω ce).getD d9 0)).getD 12 0) → d8 = d9 := fun d8 d9 h8 h9 e9 => by
    obtain ⟨p8, q8, k8⟩ := hk8 d8 h8
    obtain ⟨p9, q9, k9⟩ := hk8 d9 h9
    have e8 := en_inj hTy0 k8.1 (by rw [k8.2]) k9.1 (by rw [k9.2]) e9
    have n8 := hnum d8 h8
    rw [e8, hnum d9 h9] at n8
    exact ((nI_eq (by omega) (by omega)).mp n8).symm
  refine lv_iconst (v := 0) hx hb d_Trust_linkIssuers_0 (by decide) ?_
  refine lv_istore_n (lv' := [(2, .int 0), (0, .ref q0), (1, .ref c9)]) hx hb d_Trust_linkIssuers_1 rfl hl (by decide) rfl (fun ls hl => ?_)
  have hce4 : (κ ce).1 ≠ 4 := by rw [kce.2]; exact (by decide : (15 : Nat) ≠ 4)
  refine w_loopW (α := Nat × va_W) (fun a9 => a9.1 ≤ (ω ce).length ∧ (∃ ω' : Nat → List Nat, ((∀ b, (κ b).1 ≠ 4 → ω' b = ω b) ∧ (∀ b, (ω' b).getD 0 0 = (ω b).getD 0 0)) ∧ (∀ d9, d9 < (ω ce).length → ∀ k9, k9 < 16 → (bJ (nI ((ω' ((ω ((ω ce).getD d9 0)).getD 12 0)).getD 1 0)) k9 = true ↔ lkP (fun d8 k8 => bJ (nI ((ω ((ω ((ω ce).getD d8 0)).getD 12 0)).getD 1 0)) k8 = true) (fun k8 d8 => folQ (cO κ ν ω ((ω ce).getD k8 0)) (cO κ ν ω ((ω ce).getD d8 0))) mz a9.1 d9 k9)) ∧ TY γ κ Ad ν ω' L a9.2) ∧ FR Ad G a9.2) (fun a9 => (ω ce).length - a9.1) (fun a9 => [(2, .int (nI a9.1)), (0, .ref q0), (1, .ref c9)]) (fun _ => []) (fun a9 => a9.2) 4 2 (fun a9 HL2 locs ls hJ hP hD hS hl ih2 => ?_) (0, G) _ _ ls ⟨Nat.zero_le _, ⟨ω, ⟨fun _ _ => rfl, fun _ => rfl⟩, fun d9 h9 k9 h8 => (lkP_0 (B := fun d8 k8 => bJ (nI ((ω ((ω ((ω ce).getD d8 0)).getD 12 0)).getD 1 0)) k8 = true) (fo := fun k8 d8 => folQ (cO κ ν ω ((ω ce).getD k8 0)) (cO κ ν ω ((ω ce).getD d8 0))) (m := mz) (d := d9) (k := k9)).symm, hTy⟩, hFR⟩ hP hD hS (lv_sub hl [0, 1, 2] rfl)
  obtain ⟨z2, G2⟩ := a9
  obtain ⟨hz2, ⟨ω2, hO2, hB2, hTy⟩, hFR⟩ := hJ
  dsimp only at hz2 hB2 hTy hFR hP hD hl ih2
  have kq0 := kq0_0.fr hFR
  refine lv_iload_n hx hb d_Trust_linkIssuers_2 rfl (lv_at hl 0 rfl) ?_
  refine lv_aload_n hx hb d_Trust_linkIssuers_3 rfl (lv_at hl 1 rfl) ?_
  obtain ⟨i_1, hg_1⟩ := List.getElem?_of_mem kq0.2
  refine va_get (v := .ref ce) hx hb htb i_Trust hown hK hP i_1 hg_1 rfl 2 (by decide) (htb _ q1_158) (fun _ h9 => h9) rfl d_Trust_linkIssuers_4 ?_
  obtain ⟨i_2, q_2, m_2, hK_2, he_2, hg_2⟩ := ty_15 hTy kce
  try rw [show ω2 ce = ω ce from (fun b hb => hO2.1 b hb) _ hce4] at hK_2
  try rw [show ω2 ce = ω ce from (fun b hb => hO2.1 b hb) _ hce4] at he_2
  try rw [show ω2 ce = ω ce from (fun b hb => hO2.1 b hb) _ hce4] at hg_2
  refine vp_callSi (pu_callV (As := []) (rest := [.int (nI z2)]) ⟨hx, hb, hml, hown, hts⟩ tbin (c_AL_size l dC dI sb ce q_2 ((ω ce).length) m_2) q2_53 q2_54 q2_55 q1_4 q2_56 (n := 0) (by decide +kernel) rfl ⟨rfl, rfl⟩ ⟨Nat.le_of_ble_eq_true rfl, Nat.le_of_ble_eq_true rfl⟩ ⟨Nat.le_of_ble_eq_true rfl, Nat.le_of_ble_eq_true rfl⟩ hN (hT0.keep hS hAs) hK hP [i_2] (by simp only [List.filterMap_cons, List.filterMap_nil, hg_2]) [] rfl i_2 11 hg_2 rfl rfl hl.1 rfl (Nat.le_of_ble_eq_true rfl) d_Trust_linkIssuers_7) (fun r7 hr7 => ?_)
  subst hr7
  refine lv_icmp_ge (tgt := 77) hx hb d_Trust_linkIssuers_10 (by decide) (fun c10 => ?_) (fun c10 => ?_)
  · have p10 : ((ω ce).length) ≤ z2 := ((nI_leI (a := ((ω ce).length)) (b := z2) (by omega) (by omega)).mp c10)
    have ez2 : z2 = (ω ce).length := by omega
    rw [ez2] at hB2
    exact W.vret hx hb hr (fun t ht hW => ⟨⟨G2, rfl, ⟨ω2, ⟨hO2, hB2⟩, hTy, hFR⟩, by rw [ht]; exact hP, va_K.moved hW.alike hK, hD⟩, hS.F ht⟩) hS.2.2 d_Trust_linkIssuers_77
  · have p10 : ¬ (((ω ce).length) ≤ z2) := (fun q9 => c10 ((nI_leI (a := ((ω ce).length)) (b := z2) (by omega) (by omega)).mpr q9))
    refine lv_aload_n hx hb d_Trust_linkIssuers_13 rfl (lv_at hl 1 rfl) ?_
    refine va_get (v := .ref ce) hx hb htb i_Trust hown hK hP i_1 hg_1 rfl 2 (by decide) (htb _ q1_158) (fun _ h9 => h9) rfl d_Trust_linkIssuers_14 ?_
    refine lv_iload_n hx hb d_Trust_linkIssuers_17 rfl (lv_at hl 0 rfl) ?_
    obtain ⟨cap_3, kq_3⟩ := he_2 (by omega)
    obtain ⟨i_4, f_4, hK_4, hc_4, he_4, hg_4⟩ := ty_14 hTy kq_3
    try rw [show ω2 ce = ω ce from (fun b hb => hO2.1 b hb) _ hce4] at hK_4
    try rw [show ω2 ce = ω ce from (fun b hb => hO2.1 b hb) _ hce4] at he_4
    try rw [show ω2 ce = ω ce from (fun b hb => hO2.1 b hb) _ hce4] at hg_4
    obtain ⟨hf_3, p_3, q_3, ks_3⟩ := he_4 z2 (by omega)
    refine va_csr (pu_callV (As := [.int (nI z2)]) (rest := []) ⟨hx, hb, hml, hown, hts⟩ tbin (c_AL_get l dC dI sb ce q_2 ((ω ce).length) cap_3 z2 ((ω ce).getD z2 0) m_2 γ.2.2.2 f_4 (by omega) hK_4 (by omega) hf_3) q5_39 q4_210 q4_211 q1_4 q4_212 (n := 1) (by decide +kernel) rfl ⟨rfl, rfl⟩ ⟨Nat.le_of_ble_eq_true rfl, Nat.le_of_ble_eq_true rfl⟩ ⟨Nat.le_of_ble_eq_true rfl, Nat.le_of_ble_eq_true rfl⟩ hN (hT0.keep hS hAs) hK hP [i_2, i_4] (by simp only [List.filterMap_cons, List.filterMap_nil, hg_2, hg_4]) [3] rfl i_2 11 hg_2 rfl rfl hl.1 rfl (Nat.le_of_ble_eq_true rfl) d_Trust_linkIssuers_18) (fun r18 hr18 => ?_)
    obtain rfl := Eq.symm hr18
    obtain ⟨i_5, bo_5, K_5, B_5, kbo_5, wl_5, hg_5⟩ := ty_8x hTy ks_3
    obtain ⟨⟨A_5, knm_5⟩, kpe_5, kec_5, kse_5, ksu_5, kmo_5, kok_5, kik_5, kha_5, ksi_5, ken_5, ksg_5, kis_5⟩ := K_5
    have knm_5 := tK.fiv ⟨_, _, knm_5⟩
    have kpe_5 := tK.fiv kpe_5
    have kec_5 := tK.fiv kec_5
    have ksu_5 := tK.two ksu_5
    have kmo_5 := tK.two kmo_5
    have kok_5 := tK.two kok_5
    have kik_5 := tK.two kik_5
    have ksg_5 := tK.two ksg_5
    have kis_5 := tK.two kis_5
    refine va_castY (C := "TrustChain$Certificate") hx hb hown (htb _ q5_40) (hN.1 _ qn9_223) (va_recv (ci := 3) hK hP rfl hg_5) d_Trust_linkIssuers_21 ?_
    refine lv_astore_n (lv' := [(3, .ref ((ω ce).getD z2 0)), (2, .int (nI z2)), (0, .ref q0), (1, .ref c9)]) hx hb d_Trust_linkIssuers_24 rfl hl (by decide) rfl (fun ls hl => ?_)
    have hnum_z2 := hnum z2 (by omega)
    refine lv_aload_n hx hb d_Trust_linkIssuers_25 rfl (lv_at hl 3 rfl) ?_
    refine lv_aload_n hx hb d_Trust_linkIssuers_26 rfl (lv_at hl 0 rfl) ?_
    obtain ⟨i_6, bo_6, K_6, B_6, kbo_6, wl_6, hg_6⟩ := ty_8x hTy kc9
    obtain ⟨⟨A_6, knm_6⟩, kpe_6, kec_6, kse_6, ksu_6, kmo_6, kok_6, kik_6, kha_6, ksi_6, ken_6, ksg_6, kis_6⟩ := K_6
    have knm_6 := tK.fiv ⟨_, _, knm_6⟩
    have kpe_6 := tK.fiv kpe_6
    have kec_6 := tK.fiv kec_6
    have ksu_6 := tK.two ksu_6
    have kmo_6 := tK.two kmo_6
    have kok_6 := tK.two kok_6
    have kik_6 := tK.two kik_6
    have ksg_6 := tK.two ksg_6
    have kis_6 := tK.two kis_6
    refine vp_callSi (pu_callV (As := [.ref ((ω ce).getD z2 0)]) (rest := []) ⟨hx, hb, hml, hown, hts⟩ tbin (p_Certificate_mayFollow l dC dI sb γ κ Ad ν ω2 L G2 c9 ((ω ce).getD z2 0) _ _ _ _ hTy kc9 ks_3 ) q5_41 q5_42 q5_43 q1_21 q5_44 (n := 1) (by decide +kernel) rfl ⟨rfl, rfl⟩ ⟨Nat.le_of_ble_eq_true rfl, Nat.le_of_ble_eq_true rfl⟩ ⟨Nat.le_of_ble_eq_true rfl, Nat.le_of_ble_eq_true rfl⟩ hN (hT0.keep hS hAs) hK hP (List.range G2.length) (rg_all G2) [0, 1, 2, 3] rfl i_6 3 hg_6 rfl rfl hl.1 rfl (Nat.le_of_ble_eq_true rfl) d_Trust_linkIssuers_27) (fun r27 hr27 => ?_)
    obtain rfl : r27 = zP (folQ (cO κ ν ω ((ω ce).getD mz 0)) (cO κ ν ω ((ω ce).getD z2 0))) := by rw [hr27, cO_k hTy0 kc9 (okw_k hO2) (kK4.rf κ Ad) rfl, cO_k hTy0 ks_3 (okw_k hO2) (kK4.rf κ Ad) rfl, hc9]
    refine lv_if_eq (tgt := 48) hx hb d_Trust_linkIssuers_30 (by decide) (fun c30 => ?_) (fun c30 => ?_)
    · have p30 : ¬ (folQ (cO κ ν ω ((ω ce).getD mz 0)) (cO κ ν ω ((ω ce).getD z2 0))) := (zP_0.mp c30)
      refine lv_aload_n hx hb d_Trust_linkIssuers_48 rfl (lv_at hl 0 rfl) ?_
      refine lv_aload_n hx hb d_Trust_linkIssuers_49 rfl (lv_at hl 3 rfl) ?_
      refine vp_callSi (pu_callV (As := [.ref c9]) (rest := []) ⟨hx, hb, hml, hown, hts⟩ tbin (p_Certificate_mayFollow l dC dI sb γ κ Ad ν ω2 L G2 ((ω ce).getD z2 0) c9 _ _ _ _ hTy ks_3 kc9 ) q5_41 q5_42 q5_43 q1_21 q5_44 (n := 1) (by decide +kernel) rfl ⟨rfl, rfl⟩ ⟨Nat.le_of_ble_eq_true rfl, Nat.le_of_ble_eq_true rfl⟩ ⟨Nat.le_of_ble_eq_true rfl, Nat.le_of_ble_eq_true rfl⟩ hN (hT0.keep hS hAs) hK hP (List.range G2.length) (rg_all G2) [0, 1, 2, 3] rfl i_5 3 hg_5 rfl rfl hl.1 rfl (Nat.le_of_ble_eq_true rfl) d_Trust_linkIssuers_50) (fun r50 hr50 => ?_)
      obtain rfl : r50 = zP (folQ (cO κ ν ω ((ω ce).getD z2 0)) (cO κ ν ω ((ω ce).getD mz 0))) := by rw [hr50, cO_k hTy0 ks_3 (okw_k hO2) (kK4.rf κ Ad) rfl, cO_k hTy0 kc9 (okw_k hO2) (kK4.rf κ Ad) rfl, hc9]
      refine lv_if_eq (tgt := 71) hx hb d_Trust_linkIssuers_53 (by decide) (fun c53 => ?_) (fun c53 => ?_)
      · have p53 : ¬ (folQ (cO κ ν ω ((ω ce).getD z2 0)) (cO κ ν ω ((ω ce).getD mz 0))) := (zP_0.mp c53)
        refine lv_iinc (v := nI (z2 + 1)) (lv' := [(2, .int (nI (z2 + 1))), (3, .ref ((ω ce).getD z2 0)), (0, .ref q0), (1, .ref c9)]) hx hb d_Trust_linkIssuers_71 hl (k := 1) rfl (nI_1 _) (by decide) rfl (fun ls hl => ?_)
        refine lv_goto (tgt := 2) hx hb d_Trust_linkIssuers_74 (by decide) ?_
        exact ih2 (z2 + 1, G2) _ _ ls (by dsimp only; omega) ⟨by dsimp only; omega, ⟨ω2, hO2, fun d9 h9 k9 h8 => (hB2 d9 h9 k9 h8).trans (lk_nn p30 p53), hTy⟩, hFR⟩ hP hD hS (lv_sub hl [0, 2, 3] rfl)
      · have p53 : folQ (cO κ ν ω ((ω ce).getD z2 0)) (cO κ ν ω ((ω ce).getD mz 0)) := (zP_1 c53)
        refine lv_aload_n hx hb d_Trust_linkIssuers_56 rfl (lv_at hl 3 rfl) ?_
        refine lv_dup hx hb d_Trust_linkIssuers_57 rfl ?_
        refine va_get (v := .int (nI ((ω2 ((ω2 c9).getD 12 0)).getD 1 0))) hx hb htb i_Certificate hown hK hP i_6 hg_6 rfl 18 (by decide) (htb _ q2_191) (fun _ h9 => h9) rfl d_Trust_linkIssuers_58 ?_
        refine lv_iconst (v := 1) hx hb d_Trust_linkIssuers_61 (by decide) ?_
        refine lv_aload_n hx hb d_Trust_linkIssuers_62 rfl (lv_at hl 0 rfl) ?_
        refine va_get (v := .int ((ν ((ω ce).getD z2 0)).2.2.2.2.2.2.2.2.2.2.2.2)) hx hb htb i_Certificate hown hK hP i_5 hg_5 rfl 17 (by decide) (htb _ q2_187) (fun _ h9 => h9) rfl d_Trust_linkIssuers_63 ?_
        refine lv_ishl hx hb d_Trust_linkIssuers_66 ?_
        refine lv_ior hx hb d_Trust_linkIssuers_67 ?_
        obtain ⟨i_7, nm_7, pe_7, ec_7, se_7, su_7, mo_7, ok_7, ik_7, ha_7, si_7, en_7, bo_7, sg_7, is_7, iu_7, K_7, B_7, hg_7⟩ := ty_8 hTy kc9
        refine va_put (v := .int ((nI ((ω2 ((ω2 c9).getD 12 0)).getD 1 0)) ||| ((1 : Int32) <<< (((ν ((ω ce).getD z2 0)).2.2.2.2.2.2.2.2.2.2.2.2) &&& 31)))) (ty := .int) hx hb htb i_Certificate t_Certificate t_Certificate_ok n_Certificate hown hK hP hD hS i_7 hg_7 rfl 18 (by decide) (htb _ q2_191) (fun _ h9 => h9) rfl (by decide +kernel) rfl rfl (Nat.le_of_ble_eq_true rfl) d_Trust_linkIssuers_68 (fun H68 locs hP hD2 hS => ?_)
        have hP : va_P (dC, dI) classes (G2.set i_7 (c9, .inr (3, [.ref nm_7, .ref pe_7, .ref ec_7, .ref se_7, .ref su_7, .ref mo_7, .ref ok_7, .ref ik_7, .int ((ν c9).1), .int ((ν c9).2.1), .int ((ν c9).2.2.1), .int ((ν c9).2.2.2.1), .int ((ν c9).2.2.2.2.1), .int ((ν c9).2.2.2.2.2.1), .int ((ν c9).2.2.2.2.2.2.1), .int ((ν c9).2.2.2.2.2.2.2.1), .int ((ν c9).2.2.2.2.2.2.2.2.1), .int ((ν c9).2.2.2.2.2.2.2.2.2.2.2.2), .int ((nI ((ω2 ((ω2 c9).getD 12 0)).getD 1 0)) ||| ((1 : Int32) <<< (((ν ((ω ce).getD z2 0)).2.2.2.2.2.2.2.2.2.2.2.2) &&& 31))), .ref ha_7, .ref si_7, .ref en_7, .ref bo_7, .ref sg_7, .ref is_7, .long ((ν c9).2.2.2.2.2.2.2.2.2.1), .long ((ν c9).2.2.2.2.2.2.2.2.2.2.1), .int ((ν c9).2.2.2.2.2.2.2.2.2.2.2.1)]))) H68 := hP
        have hD3 : va_D A (G2.set i_7 (c9, .inr (3, [.ref nm_7, .ref pe_7, .ref ec_7, .ref se_7, .ref su_7, .ref mo_7, .ref ok_7, .ref ik_7, .int ((ν c9).1), .int ((ν c9).2.1), .int ((ν c9).2.2.1), .int ((ν c9).2.2.2.1), .int ((ν c9).2.2.2.2.1), .int ((ν c9).2.2.2.2.2.1), .int ((ν c9).2.2.2.2.2.2.1), .int ((ν c9).2.2.2.2.2.2.2.1), .int ((ν c9).2.2.2.2.2.2.2.2.1), .int ((ν c9).2.2.2.2.2.2.2.2.2.2.2.2), .int ((nI ((ω2 ((ω2 c9).getD 12 0)).getD 1 0)) ||| ((1 : Int32) <<< (((ν ((ω ce).getD z2 0)).2.2.2.2.2.2.2.2.2.2.2.2) &&& 31))), .ref ha_7, .ref si_7, .ref en_7, .ref bo_7, .ref sg_7, .ref is_7, .long ((ν c9).2.2.2.2.2.2.2.2.2.1), .long ((ν c9).2.2.2.2.2.2.2.2.2.2.1), .int ((ν c9).2.2.2.2.2.2.2.2.2.2.2.1)]))) := hD2
        obtain ⟨ω68_8, hω68_8, eω68_8⟩ : ∃ z : Nat → List Nat, (∀ b, b ≠ ((ω2 c9).getD 12 0) → z b = ω2 b) ∧ z ((ω2 c9).getD 12 0) = [(ω2 ((ω2 c9).getD 12 0)).getD 0 0, ((nI ((ω2 ((ω2 c9).getD 12 0)).getD 1 0)) ||| ((1 : Int32) <<< (((ν ((ω ce).getD z2 0)).2.2.2.2.2.2.2.2.2.2.2.2) &&& 31))).toBitVec.toNat] := ⟨fun b => if b = ((ω2 c9).getD 12 0) then [(ω2 ((ω2 c9).getD 12 0)).getD 0 0, ((nI ((ω2 ((ω2 c9).getD 12 0)).getD 1 0)) ||| ((1 : Int32) <<< (((ν ((ω ce).getD z2 0)).2.2.2.2.2.2.2.2.2.2.2.2) &&& 31))).toBitVec.toNat] else ω2 b, fun b hb => if_neg hb, if_pos rfl⟩
        have hFR := hFR.tr (FR.set (c' := .inr (3, [.ref nm_7, .ref pe_7, .ref ec_7, .ref se_7, .ref su_7, .ref mo_7, .ref ok_7, .ref ik_7, .int ((ν c9).1), .int ((ν c9).2.1), .int ((ν c9).2.2.1), .int ((ν c9).2.2.2.1), .int ((ν c9).2.2.2.2.1), .int ((ν c9).2.2.2.2.2.1), .int ((ν c9).2.2.2.2.2.2.1), .int ((ν c9).2.2.2.2.2.2.2.1), .int ((ν c9).2.2.2.2.2.2.2.2.1), .int ((ν c9).2.2.2.2.2.2.2.2.2.2.2.2), .int ((nI ((ω2 ((ω2 c9).getD 12 0)).getD 1 0)) ||| ((1 : Int32) <<< (((ν ((ω ce).getD z2 0)).2.2.2.2.2.2.2.2.2.2.2.2) &&& 31))), .ref ha_7, .ref si_7, .ref en_7, .ref bo_7, .ref sg_7, .ref is_7, .long ((ν c9).2.2.2.2.2.2.2.2.2.1), .long ((ν c9).2.2.2.2.2.2.2.2.2.2.1), .int ((ν c9).2.2.2.2.2.2.2.2.2.2.2.1)])) hg_7 kc9.1)
        have hea_7 : c9 ≠ ((ω2 c9).getD 12 0) := q_nek kc9 (en_k hTy kc9.1 (by rw [kc9.2])) (by simp)
        have hen_7 : ((ω2 c9).getD 12 0) = en_7 := by rw [B_7.2.2.2.1]; rfl
        have hTy := TY.setiu (Ω := ω68_8) (c' := .inr (3, [.ref nm_7, .ref pe_7, .ref ec_7, .ref se_7, .ref su_7, .ref mo_7, .ref ok_7, .ref ik_7, .int ((ν c9).1), .int ((ν c9).2.1), .int ((ν c9).2.2.1), .int ((ν c9).2.2.2.1), .int ((ν c9).2.2.2.2.1), .int ((ν c9).2.2.2.2.2.1), .int ((ν c9).2.2.2.2.2.2.1), .int ((ν c9).2.2.2.2.2.2.2.1), .int ((ν c9).2.2.2.2.2.2.2.2.1), .int ((ν c9).2.2.2.2.2.2.2.2.2.2.2.2), .int ((nI ((ω2 ((ω2 c9).getD 12 0)).getD 1 0)) ||| ((1 : Int32) <<< (((ν ((ω ce).getD z2 0)).2.2.2.2.2.2.2.2.2.2.2.2) &&& 31))), .ref ha_7, .ref si_7, .ref en_7, .ref bo_7, .ref sg_7, .ref is_7, .long ((ν c9).2.2.2.2.2.2.2.2.2.1), .long ((ν c9).2.2.2.2.2.2.2.2.2.2.1), .int ((ν c9).2.2.2.2.2.2.2.2.2.2.2.1)])) hTy hD hg_7 kc9 hω68_8 (by rw [eω68_8]; rfl) hNL4 (ok_8 (ω := ω68_8) kc9 K_7 ⟨B_7.1, B_7.2.1, B_7.2.2.1, (hω68_8 _ hea_7).trans B_7.2.2.2.1, by rw [← hen_7, eω68_8]; exact (nI_bv _).symm⟩)
        have hD := hD3
        clear hD3 hD2
        generalize G2.set i_7 (c9, .inr (3, [.ref nm_7, .ref pe_7, .ref ec_7, .ref se_7, .ref su_7, .ref mo_7, .ref ok_7, .ref ik_7, .int ((ν c9).1), .int ((ν c9).2.1), .int ((ν c9).2.2.1), .int ((ν c9).2.2.2.1), .int ((ν c9).2.2.2.2.1), .int ((ν c9).2.2.2.2.2.1), .int ((ν c9).2.2.2.2.2.2.1), .int ((ν c9).2.2.2.2.2.2.2.1), .int ((ν c9).2.2.2.2.2.2.2.2.1), .int ((ν c9).2.2.2.2.2.2.2.2.2.2.2.2), .int ((nI ((ω2 ((ω2 c9).getD 12 0)).getD 1 0)) ||| ((1 : Int32) <<< (((ν ((ω ce).getD z2 0)).2.2.2.2.2.2.2.2.2.2.2.2) &&& 31))), .ref ha_7, .ref si_7, .ref en_7, .ref bo_7, .ref sg_7, .ref is_7, .long ((ν c9).2.2.2.2.2.2.2.2.2.1), .long ((ν c9).2.2.2.2.2.2.2.2.2.2.1), .int ((ν c9).2.2.2.2.2.2.2.2.2.2.2.1)])) = G_8 at hP hD hTy hFR
        have hen_68 : ((ω2 c9).getD 12 0) = ((ω ((ω ce).getD mz 0)).getD 12 0) := by rw [hO2.1 c9 (by rw [kc9.2]; exact (by decide : (8 : Nat) ≠ 4)), hc9]
        have hOω68_8 : (∀ b, (κ b).1 ≠ 4 → ω68_8 b = ω b) ∧ (∀ b, (ω68_8 b).getD 0 0 = (ω b).getD 0 0) := okw_up hO2 hω68_8 (by rw [eω68_8]; rfl) (by rw [hen_68]; exact hk4 _ (by omega))
        have kq0 := kq0_0.fr hFR
        refine lv_iinc (v := nI (z2 + 1)) (lv' := [(2, .int (nI (z2 + 1))), (3, .ref ((ω ce).getD z2 0)), (0, .ref q0), (1, .ref c9)]) hx hb d_Trust_linkIssuers_71 hl (k := 1) rfl (nI_1 _) (by decide) rfl (fun ls hl => ?_)
        refine lv_goto (tgt := 2) hx hb d_Trust_linkIssuers_74 (by decide) ?_
        have hv_68 : (nI ((ω2 ((ω2 c9).getD 12 0)).getD 1 0)) ||| ((1 : Int32) <<< (((ν ((ω ce).getD z2 0)).2.2.2.2.2.2.2.2.2.2.2.2) &&& 31)) = (nI ((ω2 ((ω ((ω ce).getD mz 0)).getD 12 0)).getD 1 0)) ||| ((1 : Int32) <<< (nI z2 &&& 31)) := by rw [hnum_z2, hen_68]
        have hB68 := bits_up (f := fun d8 => (nI ((ω2 ((ω ((ω ce).getD d8 0)).getD 12 0)).getD 1 0))) (f' := fun d8 => (nI ((ω68_8 ((ω ((ω ce).getD d8 0)).getD 12 0)).getD 1 0))) (d0 := mz) (j := z2) (v := (nI ((ω2 ((ω2 c9).getD 12 0)).getD 1 0)) ||| ((1 : Int32) <<< (((ν ((ω ce).getD z2 0)).2.2.2.2.2.2.2.2.2.2.2.2) &&& 31))) (by omega) hB2 (by show nI ((ω68_8 ((ω ((ω ce).getD mz 0)).getD 12 0)).getD 1 0) = (nI ((ω2 ((ω2 c9).getD 12 0)).getD 1 0)) ||| ((1 : Int32) <<< (((ν ((ω ce).getD z2 0)).2.2.2.2.2.2.2.2.2.2.2.2) &&& 31)); rw [← hen_68, eω68_8]; exact nI_bv _) hv_68 (fun d8 h8 h9 => congrArg (fun x9 : List Nat => nI (List.getD x9 1 0)) (hω68_8 _ (fun e9 => h9 (hinj _ _ h8 (by omega) (e9.trans hen_68))))) (by omega)
        exact ih2 (z2 + 1, G_8) _ _ ls (by dsimp only; omega) ⟨by dsimp only; omega, ⟨ω68_8, hOω68_8, fun d9 h9 k9 h8 => (hB68 d9 h9 k9 h8).trans (lk_ny p30 p53), hTy⟩, hFR⟩ hP hD hS (lv_sub hl [0, 2, 3] rfl)
    · have p30 : folQ (cO κ ν ω ((ω ce).getD mz 0)) (cO κ ν ω ((ω ce).getD z2 0)) := (zP_1 c30)
      refine lv_aload_n hx hb d_Trust_linkIssuers_33 rfl (lv_at hl 0 rfl) ?_
      refine lv_dup hx hb d_Trust_linkIssuers_34 rfl ?_
      refine va_get (v := .int (nI ((ω2 ((ω2 ((ω ce).getD z2 0)).getD 12 0)).getD 1 0))) hx hb htb i_Certificate hown hK hP i_5 hg_5 rfl 18 (by decide) (htb _ q2_191) (fun _ h9 => h9) rfl d_Trust_linkIssuers_35 ?_
      refine lv_iconst (v := 1) hx hb d_Trust_linkIssuers_38 (by decide) ?_
      refine lv_aload_n hx hb d_Trust_linkIssuers_39 rfl (lv_at hl 3 rfl) ?_
      refine va_get (v := .int ((ν c9).2.2.2.2.2.2.2.2.2.2.2.2)) hx hb htb i_Certificate hown hK hP i_6 hg_6 rfl 17 (by decide) (htb _ q2_187) (fun _ h9 => h9) rfl d_Trust_linkIssuers_40 ?_
      refine lv_ishl hx hb d_Trust_linkIssuers_43 ?_
      refine lv_ior hx hb d_Trust_linkIssuers_44 ?_
      obtain ⟨i_9, nm_9, pe_9, ec_9, se_9, su_9, mo_9, ok_9, ik_9, ha_9, si_9, en_9, bo_9, sg_9, is_9, iu_9, K_9, B_9, hg_9⟩ := ty_8 hTy ks_3
      refine va_put (v := .int ((nI ((ω2 ((ω2 ((ω ce).getD z2 0)).getD 12 0)).getD 1 0)) ||| ((1 : Int32) <<< (((ν c9).2.2.2.2.2.2.2.2.2.2.2.2) &&& 31)))) (ty := .int) hx hb htb i_Certificate t_Certificate t_Certificate_ok n_Certificate hown hK hP hD hS i_9 hg_9 rfl 18 (by decide) (htb _ q2_191) (fun _ h9 => h9) rfl (by decide +kernel) rfl rfl (Nat.le_of_ble_eq_true rfl) d_Trust_linkIssuers_45 (fun H45 locs hP hD2 hS => ?_)
      have hP : va_P (dC, dI) classes (G2.set i_9 (((ω ce).getD z2 0), .inr (3, [.ref nm_9, .ref pe_9, .ref ec_9, .ref se_9, .ref su_9, .ref mo_9, .ref ok_9, .ref ik_9, .int ((ν ((ω ce).getD z2 0)).1), .int ((ν ((ω ce).getD z2 0)).2.1), .int ((ν ((ω ce).getD z2 0)).2.2.1), .int ((ν ((ω ce).getD z2 0)).2.2.2.1), .int ((ν ((ω ce).getD z2 0)).2.2.2.2.1), .int ((ν ((ω ce).getD z2 0)).2.2.2.2.2.1), .int ((ν ((ω ce).getD z2 0)).2.2.2.2.2.2.1), .int ((ν ((ω ce).getD z2 0)).2.2.2.2.2.2.2.1), .int ((ν ((ω ce).getD z2 0)).2.2.2.2.2.2.2.2.1), .int ((ν ((ω ce).getD z2 0)).2.2.2.2.2.2.2.2.2.2.2.2), .int ((nI ((ω2 ((ω2 ((ω ce).getD z2 0)).getD 12 0)).getD 1 0)) ||| ((1 : Int32) <<< (((ν c9).2.2.2.2.2.2.2.2.2.2.2.2) &&& 31))), .ref ha_9, .ref si_9, .ref en_9, .ref bo_9, .ref sg_9, .ref is_9, .long ((ν ((ω ce).getD z2 0)).2.2.2.2.2.2.2.2.2.1), .long ((ν ((ω ce).getD z2 0)).2.2.2.2.2.2.2.2.2.2.1), .int ((ν ((ω ce).getD z2 0)).2.2.2.2.2.2.2.2.2.2.2.1)]))) H45 := hP
      have hD3 : va_D A (G2.set i_9 (((ω ce).getD z2 0), .inr (3, [.ref nm_9, .ref pe_9, .ref ec_9, .ref se_9, .ref su_9, .ref mo_9, .ref ok_9, .ref ik_9, .int ((ν ((ω ce).getD z2 0)).1), .int ((ν ((ω ce).getD z2 0)).2.1), .int ((ν ((ω ce).getD z2 0)).2.2.1), .int ((ν ((ω ce).getD z2 0)).2.2.2.1), .int ((ν ((ω ce).getD z2 0)).2.2.2.2.1), .int ((ν ((ω ce).getD z2 0)).2.2.2.2.2.1), .int ((ν ((ω ce).getD z2 0)).2.2.2.2.2.2.1), .int ((ν ((ω ce).getD z2 0)).2.2.2.2.2.2.2.1), .int ((ν ((ω ce).getD z2 0)).2.2.2.2.2.2.2.2.1), .int ((ν ((ω ce).getD z2 0)).2.2.2.2.2.2.2.2.2.2.2.2), .int ((nI ((ω2 ((ω2 ((ω ce).getD z2 0)).getD 12 0)).getD 1 0)) ||| ((1 : Int32) <<< (((ν c9).2.2.2.2.2.2.2.2.2.2.2.2) &&& 31))), .ref ha_9, .ref si_9, .ref en_9, .ref bo_9, .ref sg_9, .ref is_9, .long ((ν ((ω ce).getD z2 0)).2.2.2.2.2.2.2.2.2.1), .long ((ν ((ω ce).getD z2 0)).2.2.2.2.2.2.2.2.2.2.1), .int ((ν ((ω ce).getD z2 0)).2.2.2.2.2.2.2.2.2.2.2.1)]))) := hD2
      obtain ⟨ω45_10, hω45_10, eω45_10⟩ : ∃ z : Nat → List Nat, (∀ b, b ≠ ((ω2 ((ω ce).getD z2 0)).getD 12 0) → z b = ω2 b) ∧ z ((ω2 ((ω ce).getD z2 0)).getD 12 0) = [(ω2 ((ω2 ((ω ce).getD z2 0)).getD 12 0)).getD 0 0, ((nI ((ω2 ((ω2 ((ω ce).getD z2 0)).getD 12 0)).getD 1 0)) ||| ((1 : Int32) <<< (((ν c9).2.2.2.2.2.2.2.2.2.2.2.2) &&& 31))).toBitVec.toNat] := ⟨fun b => if b = ((ω2 ((ω ce).getD z2 0)).getD 12 0) then [(ω2 ((ω2 ((ω ce).getD z2 0)).getD 12 0)).getD 0 0, ((nI ((ω2 ((ω2 ((ω ce).getD z2 0)).getD 12 0)).getD 1 0)) ||| ((1 : Int32) <<< (((ν c9).2.2.2.2.2.2.2.2.2.2.2.2) &&& 31))).toBitVec.toNat] else ω2 b, fun b hb => if_neg hb, if_pos rfl⟩
      have hFR := hFR.tr (FR.set (c' := .inr (3, [.ref nm_9, .ref pe_9, .ref ec_9, .ref se_9, .ref su_9, .ref mo_9, .ref ok_9, .ref ik_9, .int ((ν ((ω ce).getD z2 0)).1), .int ((ν ((ω ce).getD z2 0)).2.1), .int ((ν ((ω ce).getD z2 0)).2.2.1), .int ((ν ((ω ce).getD z2 0)).2.2.2.1), .int ((ν ((ω ce).getD z2 0)).2.2.2.2.1), .int ((ν ((ω ce).getD z2 0)).2.2.2.2.2.1), .int ((ν ((ω ce).getD z2 0)).2.2.2.2.2.2.1), .int ((ν ((ω ce).getD z2 0)).2.2.2.2.2.2.2.1), .int ((ν ((ω ce).getD z2 0)).2.2.2.2.2.2.2.2.1), .int ((ν ((ω ce).getD z2 0)).2.2.2.2.2.2.2.2.2.2.2.2), .int ((nI ((ω2 ((ω2 ((ω ce).getD z2 0)).getD 12 0)).getD 1 0)) ||| ((1 : Int32) <<< (((ν c9).2.2.2.2.2.2.2.2.2.2.2.2) &&& 31))), .ref ha_9, .ref si_9, .ref en_9, .ref bo_9, .ref sg_9, .ref is_9, .long ((ν ((ω ce).getD z2 0)).2.2.2.2.2.2.2.2.2.1), .long ((ν ((ω ce).getD z2 0)).2.2.2.2.2.2.2.2.2.2.1), .int ((ν ((ω ce).getD z2 0)).2.2.2.2.2.2.2.2.2.2.2.1)])) hg_9 ks_3.1)
      have hea_9 : ((ω ce).getD z2 0) ≠ ((ω2 ((ω ce).getD z2 0)).getD 12 0) := q_nek ks_3 (en_k hTy ks_3.1 (by rw [ks_3.2])) (by simp)
      have hen_9 : ((ω2 ((ω ce).getD z2 0)).getD 12 0) = en_9 := by rw [B_9.2.2.2.1]; rfl
      have hTy := TY.setiu (Ω := ω45_10) (c' := .inr (3, [.ref nm_9, .ref pe_9, .ref ec_9, .ref se_9, .ref su_9, .ref mo_9, .ref ok_9, .ref ik_9, .int ((ν ((ω ce).getD z2 0)).1), .int ((ν ((ω ce).getD z2 0)).2.1), .int ((ν ((ω ce).getD z2 0)).2.2.1), .int ((ν ((ω ce).getD z2 0)).2.2.2.1), .int ((ν ((ω ce).getD z2 0)).2.2.2.2.1), .int ((ν ((ω ce).getD z2 0)).2.2.2.2.2.1), .int ((ν ((ω ce).getD z2 0)).2.2.2.2.2.2.1), .int ((ν ((ω ce).getD z2 0)).2.2.2.2.2.2.2.1), .int ((ν ((ω ce).getD z2 0)).2.2.2.2.2.2.2.2.1), .int ((ν ((ω ce).getD z2 0)).2.2.2.2.2.2.2.2.2.2.2.2), .int ((nI ((ω2 ((ω2 ((ω ce).getD z2 0)).getD 12 0)).getD 1 0)) ||| ((1 : Int32) <<< (((ν c9).2.2.2.2.2.2.2.2.2.2.2.2) &&& 31))), .ref ha_9, .ref si_9, .ref en_9, .ref bo_9, .ref sg_9, .ref is_9, .long ((ν ((ω ce).getD z2 0)).2.2.2.2.2.2.2.2.2.1), .long ((ν ((ω ce).getD z2 0)).2.2.2.2.2.2.2.2.2.2.1), .int ((ν ((ω ce).getD z2 0)).2.2.2.2.2.2.2.2.2.2.2.1)])) hTy hD hg_9 ks_3 hω45_10 (by rw [eω45_10]; rfl) hNL4 (ok_8 (ω := ω45_10) ks_3 K_9 ⟨B_9.1, B_9.2.1, B_9.2.2.1, (hω45_10 _ hea_9).trans B_9.2.2.2.1, by rw [← hen_9, eω45_10]; exact (nI_bv _).symm⟩)
      have hD := hD3
      clear hD3 hD2
      generalize G2.set i_9 (((ω ce).getD z2 0), .inr (3, [.ref nm_9, .ref pe_9, .ref ec_9, .ref se_9, .ref su_9, .ref mo_9, .ref ok_9, .ref ik_9, .int ((ν ((ω ce).getD z2 0)).1), .int ((ν ((ω ce).getD z2 0)).2.1), .int ((ν ((ω ce).getD z2 0)).2.2.1), .int ((ν ((ω ce).getD z2 0)).2.2.2.1), .int ((ν ((ω ce).getD z2 0)).2.2.2.2.1), .int ((ν ((ω ce).getD z2 0)).2.2.2.2.2.1), .int ((ν ((ω ce).getD z2 0)).2.2.2.2.2.2.1), .int ((ν ((ω ce).getD z2 0)).2.2.2.2.2.2.2.1), .int ((ν ((ω ce).getD z2 0)).2.2.2.2.2.2.2.2.1), .int ((ν ((ω ce).getD z2 0)).2.2.2.2.2.2.2.2.2.2.2.2), .int ((nI ((ω2 ((ω2 ((ω ce).getD z2 0)).getD 12 0)).getD 1 0)) ||| ((1 : Int32) <<< (((ν c9).2.2.2.2.2.2.2.2.2.2.2.2) &&& 31))), .ref ha_9, .ref si_9, .ref en_9, .ref bo_9, .ref sg_9, .ref is_9, .long ((ν ((ω ce).getD z2 0)).2.2.2.2.2.2.2.2.2.1), .long ((ν ((ω ce).getD z2 0)).2.2.2.2.2.2.2.2.2.2.1), .int ((ν ((ω ce).getD z2 0)).2.2.2.2.2.2.2.2.2.2.2.1)])) = G_10 at hP hD hTy hFR
      have hen_45 : ((ω2 ((ω ce).getD z2 0)).getD 12 0) = ((ω ((ω ce).getD z2 0)).getD 12 0) := by rw [hO2.1 ((ω ce).getD z2 0) (by rw [ks_3.2]; exact (by decide : (8 : Nat) ≠ 4))]
      have hOω45_10 : (∀ b, (κ b).1 ≠ 4 → ω45_10 b = ω b) ∧ (∀ b, (ω45_10 b).getD 0 0 = (ω b).getD 0 0) := okw_up hO2 hω45_10 (by rw [eω45_10]; rfl) (by rw [hen_45]; exact hk4 _ (by omega))
      have kq0 := kq0_0.fr hFR
      refine lv_aload_n hx hb d_Trust_linkIssuers_48 rfl (lv_at hl 0 rfl) ?_
      refine lv_aload_n hx hb d_Trust_linkIssuers_49 rfl (lv_at hl 3 rfl) ?_
      obtain ⟨i_11, bo_11, K_11, B_11, kbo_11, wl_11, hg_11⟩ := ty_8x hTy ks_3
      obtain ⟨⟨A_11, knm_11⟩, kpe_11, kec_11, kse_11, ksu_11, kmo_11, kok_11, kik_11, kha_11, ksi_11, ken_11, ksg_11, kis_11⟩ := K_11
      have knm_11 := tK.fiv ⟨_, _, knm_11⟩
      have kpe_11 := tK.fiv kpe_11
      have kec_11 := tK.fiv kec_11
      have ksu_11 := tK.two ksu_11
      have kmo_11 := tK.two kmo_11
      have kok_11 := tK.two kok_11
      have kik_11 := tK.two kik_11
      have ksg_11 := tK.two ksg_11
      have kis_11 := tK.two kis_11
      refine vp_callSi (pu_callV (As := [.ref c9]) (rest := []) ⟨hx, hb, hml, hown, hts⟩ tbin (p_Certificate_mayFollow l dC dI sb γ κ Ad ν ω45_10 L G_10 ((ω ce).getD z2 0) c9 _ _ _ _ hTy ks_3 kc9 ) q5_41 q5_42 q5_43 q1_21 q5_44 (n := 1) (by decide +kernel) rfl ⟨rfl, rfl⟩ ⟨Nat.le_of_ble_eq_true rfl, Nat.le_of_ble_eq_true rfl⟩ ⟨Nat.le_of_ble_eq_true rfl, Nat.le_of_ble_eq_true rfl⟩ hN (hT0.keep hS hAs) hK hP (List.range G_10.length) (rg_all G_10) [0, 1, 2, 3] rfl i_11 3 hg_11 rfl rfl hl.1 rfl (Nat.le_of_ble_eq_true rfl) d_Trust_linkIssuers_50) (fun r50 hr50 => ?_)
      obtain rfl : r50 = zP (folQ (cO κ ν ω ((ω ce).getD z2 0)) (cO κ ν ω ((ω ce).getD mz 0))) := by rw [hr50, cO_k hTy0 ks_3 (okw_k hOω45_10) (kK4.rf κ Ad) rfl, cO_k hTy0 kc9 (okw_k hOω45_10) (kK4.rf κ Ad) rfl, hc9]
      refine lv_if_eq (tgt := 71) hx hb d_Trust_linkIssuers_53 (by decide) (fun c53 => ?_) (fun c53 => ?_)
      · have p53 : ¬ (folQ (cO κ ν ω ((ω ce).getD z2 0)) (cO κ ν ω ((ω ce).getD mz 0))) := (zP_0.mp c53)
        refine lv_iinc (v := nI (z2 + 1)) (lv' := [(2, .int (nI (z2 + 1))), (3, .ref ((ω ce).getD z2 0)), (0, .ref q0), (1, .ref c9)]) hx hb d_Trust_linkIssuers_71 hl (k := 1) rfl (nI_1 _) (by decide) rfl (fun ls hl => ?_)
        refine lv_goto (tgt := 2) hx hb d_Trust_linkIssuers_74 (by decide) ?_
        have hv_45 : (nI ((ω2 ((ω2 ((ω ce).getD z2 0)).getD 12 0)).getD 1 0)) ||| ((1 : Int32) <<< (((ν c9).2.2.2.2.2.2.2.2.2.2.2.2) &&& 31)) = (nI ((ω2 ((ω ((ω ce).getD z2 0)).getD 12 0)).getD 1 0)) ||| ((1 : Int32) <<< (nI mz &&& 31)) := by rw [hnum_mz, hen_45]
        have hB45 := bits_up (f := fun d8 => (nI ((ω2 ((ω ((ω ce).getD d8 0)).getD 12 0)).getD 1 0))) (f' := fun d8 => (nI ((ω45_10 ((ω ((ω ce).getD d8 0)).getD 12 0)).getD 1 0))) (d0 := z2) (j := mz) (v := (nI ((ω2 ((ω2 ((ω ce).getD z2 0)).getD 12 0)).getD 1 0)) ||| ((1 : Int32) <<< (((ν c9).2.2.2.2.2.2.2.2.2.2.2.2) &&& 31))) (by omega) hB2 (by show nI ((ω45_10 ((ω ((ω ce).getD z2 0)).getD 12 0)).getD 1 0) = (nI ((ω2 ((ω2 ((ω ce).getD z2 0)).getD 12 0)).getD 1 0)) ||| ((1 : Int32) <<< (((ν c9).2.2.2.2.2.2.2.2.2.2.2.2) &&& 31)); rw [← hen_45, eω45_10]; exact nI_bv _) hv_45 (fun d8 h8 h9 => congrArg (fun x9 : List Nat => nI (List.getD x9 1 0)) (hω45_10 _ (fun e9 => h9 (hinj _ _ h8 (by omega) (e9.trans hen_45))))) (by omega)
        exact ih2 (z2 + 1, G_10) _ _ ls (by dsimp only; omega) ⟨by dsimp only; omega, ⟨ω45_10, hOω45_10, fun d9 h9 k9 h8 => (hB45 d9 h9 k9 h8).trans (lk_yn p30 p53), hTy⟩, hFR⟩ hP hD hS (lv_sub hl [0, 2, 3] rfl)
      · have p53 : folQ (cO κ ν ω ((ω ce).getD z2 0)) (cO κ ν ω ((ω ce).getD mz 0)) := (zP_1 c53)
        refine lv_aload_n hx hb d_Trust_linkIssuers_56 rfl (lv_at hl 3 rfl) ?_
        refine lv_dup hx hb d_Trust_linkIssuers_57 rfl ?_
        obtain ⟨i_12, bo_12, K_12, B_12, kbo_12, wl_12, hg_12⟩ := ty_8x hTy kc9
        obtain ⟨⟨A_12, knm_12⟩, kpe_12, kec_12, kse_12, ksu_12, kmo_12, kok_12, kik_12, kha_12, ksi_12, ken_12, ksg_12, kis_12⟩ := K_12
        have knm_12 := tK.fiv ⟨_, _, knm_12⟩
        have kpe_12 := tK.fiv kpe_12
        have kec_12 := tK.fiv kec_12
        have ksu_12 := tK.two ksu_12
        have kmo_12 := tK.two kmo_12
        have kok_12 := tK.two kok_12
        have kik_12 := tK.two kik_12
        have ksg_12 := tK.two ksg_12
        have kis_12 := tK.two kis_12
        refine va_get (v := .int (nI ((ω45_10 ((ω45_10 c9).getD 12 0)).getD 1 0))) hx hb htb i_Certificate hown hK hP i_12 hg_12 rfl 18 (by decide) (htb _ q2_191) (fun _ h9 => h9) rfl d_Trust_linkIssuers_58 ?_
        refine lv_iconst (v := 1) hx hb d_Trust_linkIssuers_61 (by decide) ?_
        refine lv_aload_n hx hb d_Trust_linkIssuers_62 rfl (lv_at hl 0 rfl) ?_
        refine va_get (v := .int ((ν ((ω ce).getD z2 0)).2.2.2.2.2.2.2.2.2.2.2.2)) hx hb htb i_Certificate hown hK hP i_11 hg_11 rfl 17 (by decide) (htb _ q2_187) (fun _ h9 => h9) rfl d_Trust_linkIssuers_63 ?_
        refine lv_ishl hx hb d_Trust_linkIssuers_66 ?_
        refine lv_ior hx hb d_Trust_linkIssuers_67 ?_
        obtain ⟨i_13, nm_13, pe_13, ec_13, se_13, su_13, mo_13, ok_13, ik_13, ha_13, si_13, en_13, bo_13, sg_13, is_13, iu_13, K_13, B_13, hg_13⟩ := ty_8 hTy kc9
        refine va_put (v := .int ((nI ((ω45_10 ((ω45_10 c9).getD 12 0)).getD 1 0)) ||| ((1 : Int32) <<< (((ν ((ω ce).getD z2 0)).2.2.2.2.2.2.2.2.2.2.2.2) &&& 31)))) (ty := .int) hx hb htb i_Certificate t_Certificate t_Certificate_ok n_Certificate hown hK hP hD hS i_13 hg_13 rfl 18 (by decide) (htb _ q2_191) (fun _ h9 => h9) rfl (by decide +kernel) rfl rfl (Nat.le_of_ble_eq_true rfl) d_Trust_linkIssuers_68 (fun H68 locs hP hD2 hS => ?_)
        have hP : va_P (dC, dI) classes (G_10.set i_13 (c9, .inr (3, [.ref nm_13, .ref pe_13, .ref ec_13, .ref se_13, .ref su_13, .ref mo_13, .ref ok_13, .ref ik_13, .int ((ν c9).1), .int ((ν c9).2.1), .int ((ν c9).2.2.1), .int ((ν c9).2.2.2.1), .int ((ν c9).2.2.2.2.1), .int ((ν c9).2.2.2.2.2.1), .int ((ν c9).2.2.2.2.2.2.1), .int ((ν c9).2.2.2.2.2.2.2.1), .int ((ν c9).2.2.2.2.2.2.2.2.1), .int ((ν c9).2.2.2.2.2.2.2.2.2.2.2.2), .int ((nI ((ω45_10 ((ω45_10 c9).getD 12 0)).getD 1 0)) ||| ((1 : Int32) <<< (((ν ((ω ce).getD z2 0)).2.2.2.2.2.2.2.2.2.2.2.2) &&& 31))), .ref ha_13, .ref si_13, .ref en_13, .ref bo_13, .ref sg_13, .ref is_13, .long ((ν c9).2.2.2.2.2.2.2.2.2.1), .long ((ν c9).2.2.2.2.2.2.2.2.2.2.1), .int ((ν c9).2.2.2.2.2.2.2.2.2.2.2.1)]))) H68 := hP
        have hD3 : va_D A (G_10.set i_13 (c9, .inr (3, [.ref nm_13, .ref pe_13, .ref ec_13, .ref se_13, .ref su_13, .ref mo_13, .ref ok_13, .ref ik_13, .int ((ν c9).1), .int ((ν c9).2.1), .int ((ν c9).2.2.1), .int ((ν c9).2.2.2.1), .int ((ν c9).2.2.2.2.1), .int ((ν c9).2.2.2.2.2.1), .int ((ν c9).2.2.2.2.2.2.1), .int ((ν c9).2.2.2.2.2.2.2.1), .int ((ν c9).2.2.2.2.2.2.2.2.1), .int ((ν c9).2.2.2.2.2.2.2.2.2.2.2.2), .int ((nI ((ω45_10 ((ω45_10 c9).getD 12 0)).getD 1 0)) ||| ((1 : Int32) <<< (((ν ((ω ce).getD z2 0)).2.2.2.2.2.2.2.2.2.2.2.2) &&& 31))), .ref ha_13, .ref si_13, .ref en_13, .ref bo_13, .ref sg_13, .ref is_13, .long ((ν c9).2.2.2.2.2.2.2.2.2.1), .long ((ν c9).2.2.2.2.2.2.2.2.2.2.1), .int ((ν c9).2.2.2.2.2.2.2.2.2.2.2.1)]))) := hD2
        obtain ⟨ω68_14, hω68_14, eω68_14⟩ : ∃ z : Nat → List Nat, (∀ b, b ≠ ((ω45_10 c9).getD 12 0) → z b = ω45_10 b) ∧ z ((ω45_10 c9).getD 12 0) = [(ω45_10 ((ω45_10 c9).getD 12 0)).getD 0 0, ((nI ((ω45_10 ((ω45_10 c9).getD 12 0)).getD 1 0)) ||| ((1 : Int32) <<< (((ν ((ω ce).getD z2 0)).2.2.2.2.2.2.2.2.2.2.2.2) &&& 31))).toBitVec.toNat] := ⟨fun b => if b = ((ω45_10 c9).getD 12 0) then [(ω45_10 ((ω45_10 c9).getD 12 0)).getD 0 0, ((nI ((ω45_10 ((ω45_10 c9).getD 12 0)).getD 1 0)) ||| ((1 : Int32) <<< (((ν ((ω ce).getD z2 0)).2.2.2.2.2.2.2.2.2.2.2.2) &&& 31))).toBitVec.toNat] else ω45_10 b, fun b hb => if_neg hb, if_pos rfl⟩
        have hFR := hFR.tr (FR.set (c' := .inr (3, [.ref nm_13, .ref pe_13, .ref ec_13, .ref se_13, .ref su_13, .ref mo_13, .ref ok_13, .ref ik_13, .int ((ν c9).1), .int ((ν c9).2.1), .int ((ν c9).2.2.1), .int ((ν c9).2.2.2.1), .int ((ν c9).2.2.2.2.1), .int ((ν c9).2.2.2.2.2.1), .int ((ν c9).2.2.2.2.2.2.1), .int ((ν c9).2.2.2.2.2.2.2.1), .int ((ν c9).2.2.2.2.2.2.2.2.1), .int ((ν c9).2.2.2.2.2.2.2.2.2.2.2.2), .int ((nI ((ω45_10 ((ω45_10 c9).getD 12 0)).getD 1 0)) ||| ((1 : Int32) <<< (((ν ((ω ce).getD z2 0)).2.2.2.2.2.2.2.2.2.2.2.2) &&& 31))), .ref ha_13, .ref si_13, .ref en_13, .ref bo_13, .ref sg_13, .ref is_13, .long ((ν c9).2.2.2.2.2.2.2.2.2.1), .long ((ν c9).2.2.2.2.2.2.2.2.2.2.1), .int ((ν c9).2.2.2.2.2.2.2.2.2.2.2.1)])) hg_13 kc9.1)
        have hea_13 : c9 ≠ ((ω45_10 c9).getD 12 0) := q_nek kc9 (en_k hTy kc9.1 (by rw [kc9.2])) (by simp)
        have hen_13 : ((ω45_10 c9).getD 12 0) = en_13 := by rw [B_13.2.2.2.1]; rfl
        have hTy := TY.setiu (Ω := ω68_14) (c' := .inr (3, [.ref nm_13, .ref pe_13, .ref ec_13, .ref se_13, .ref su_13, .ref mo_13, .ref ok_13, .ref ik_13, .int ((ν c9).1), .int ((ν c9).2.1), .int ((ν c9).2.2.1), .int ((ν c9).2.2.2.1), .int ((ν c9).2.2.2.2.1), .int ((ν c9).2.2.2.2.2.1), .int ((ν c9).2.2.2.2.2.2.1), .int ((ν c9).2.2.2.2.2.2.2.1), .int ((ν c9).2.2.2.2.2.2.2.2.1), .int ((ν c9).2.2.2.2.2.2.2.2.2.2.2.2), .int ((nI ((ω45_10 ((ω45_10 c9).getD 12 0)).getD 1 0)) ||| ((1 : Int32) <<< (((ν ((ω ce).getD z2 0)).2.2.2.2.2.2.2.2.2.2.2.2) &&& 31))), .ref ha_13, .ref si_13, .ref en_13, .ref bo_13, .ref sg_13, .ref is_13, .long ((ν c9).2.2.2.2.2.2.2.2.2.1), .long ((ν c9).2.2.2.2.2.2.2.2.2.2.1), .int ((ν c9).2.2.2.2.2.2.2.2.2.2.2.1)])) hTy hD hg_13 kc9 hω68_14 (by rw [eω68_14]; rfl) hNL4 (ok_8 (ω := ω68_14) kc9 K_13 ⟨B_13.1, B_13.2.1, B_13.2.2.1, (hω68_14 _ hea_13).trans B_13.2.2.2.1, by rw [← hen_13, eω68_14]; exact (nI_bv _).symm⟩)
        have hD := hD3
        clear hD3 hD2
        generalize G_10.set i_13 (c9, .inr (3, [.ref nm_13, .ref pe_13, .ref ec_13, .ref se_13, .ref su_13, .ref mo_13, .ref ok_13, .ref ik_13, .int ((ν c9).1), .int ((ν c9).2.1), .int ((ν c9).2.2.1), .int ((ν c9).2.2.2.1), .int ((ν c9).2.2.2.2.1), .int ((ν c9).2.2.2.2.2.1), .int ((ν c9).2.2.2.2.2.2.1), .int ((ν c9).2.2.2.2.2.2.2.1), .int ((ν c9).2.2.2.2.2.2.2.2.1), .int ((ν c9).2.2.2.2.2.2.2.2.2.2.2.2), .int ((nI ((ω45_10 ((ω45_10 c9).getD 12 0)).getD 1 0)) ||| ((1 : Int32) <<< (((ν ((ω ce).getD z2 0)).2.2.2.2.2.2.2.2.2.2.2.2) &&& 31))), .ref ha_13, .ref si_13, .ref en_13, .ref bo_13, .ref sg_13, .ref is_13, .long ((ν c9).2.2.2.2.2.2.2.2.2.1), .long ((ν c9).2.2.2.2.2.2.2.2.2.2.1), .int ((ν c9).2.2.2.2.2.2.2.2.2.2.2.1)])) = G_14 at hP hD hTy hFR
        have hen_68 : ((ω45_10 c9).getD 12 0) = ((ω ((ω ce).getD mz 0)).getD 12 0) := by rw [hOω45_10.1 c9 (by rw [kc9.2]; exact (by decide : (8 : Nat) ≠ 4)), hc9]
        have hOω68_14 : (∀ b, (κ b).1 ≠ 4 → ω68_14 b = ω b) ∧ (∀ b, (ω68_14 b).getD 0 0 = (ω b).getD 0 0) := okw_up hOω45_10 hω68_14 (by rw [eω68_14]; rfl) (by rw [hen_68]; exact hk4 _ (by omega))
        have kq0 := kq0_0.fr hFR
        refine lv_iinc (v := nI (z2 + 1)) (lv' := [(2, .int (nI (z2 + 1))), (3, .ref ((ω ce).getD z2 0)), (0, .ref q0), (1, .ref c9)]) hx hb d_Trust_linkIssuers_71 hl (k := 1) rfl (nI_1 _) (by decide) rfl (fun ls hl => ?_)
        refine lv_goto (tgt := 2) hx hb d_Trust_linkIssuers_74 (by decide) ?_
        have hv_45 : (nI ((ω2 ((ω2 ((ω ce).getD z2 0)).getD 12 0)).getD 1 0)) ||| ((1 : Int32) <<< (((ν c9).2.2.2.2.2.2.2.2.2.2.2.2) &&& 31)) = (nI ((ω2 ((ω ((ω ce).getD z2 0)).getD 12 0)).getD 1 0)) ||| ((1 : Int32) <<< (nI mz &&& 31)) := by rw [hnum_mz, hen_45]
        have hB45 := bits_up (f := fun d8 => (nI ((ω2 ((ω ((ω ce).getD d8 0)).getD 12 0)).getD 1 0))) (f' := fun d8 => (nI ((ω45_10 ((ω ((ω ce).getD d8 0)).getD 12 0)).getD 1 0))) (d0 := z2) (j := mz) (v := (nI ((ω2 ((ω2 ((ω ce).getD z2 0)).getD 12 0)).getD 1 0)) ||| ((1 : Int32) <<< (((ν c9).2.2.2.2.2.2.2.2.2.2.2.2) &&& 31))) (by omega) hB2 (by show nI ((ω45_10 ((ω ((ω ce).getD z2 0)).getD 12 0)).getD 1 0) = (nI ((ω2 ((ω2 ((ω ce).getD z2 0)).getD 12 0)).getD 1 0)) ||| ((1 : Int32) <<< (((ν c9).2.2.2.2.2.2.2.2.2.2.2.2) &&& 31)); rw [← hen_45, eω45_10]; exact nI_bv _) hv_45 (fun d8 h8 h9 => congrArg (fun x9 : List Nat => nI (List.getD x9 1 0)) (hω45_10 _ (fun e9 => h9 (hinj _ _ h8 (by omega) (e9.trans hen_45))))) (by omega)
        have hv_68 : (nI ((ω45_10 ((ω45_10 c9).getD 12 0)).getD 1 0)) ||| ((1 : Int32) <<< (((ν ((ω ce).getD z2 0)).2.2.2.2.2.2.2.2.2.2.2.2) &&& 31)) = (nI ((ω45_10 ((ω ((ω ce).getD mz 0)).getD 12 0)).getD 1 0)) ||| ((1 : Int32) <<< (nI z2 &&& 31)) := by rw [hnum_z2, hen_68]
        have hB68 := bits_up (f := fun d8 => (nI ((ω45_10 ((ω ((ω ce).getD d8 0)).getD 12 0)).getD 1 0))) (f' := fun d8 => (nI ((ω68_14 ((ω ((ω ce).getD d8 0)).getD 12 0)).getD 1 0))) (d0 := mz) (j := z2) (v := (nI ((ω45_10 ((ω45_10 c9).getD 12 0)).getD 1 0)) ||| ((1 : Int32) <<< (((ν ((ω ce).getD z2 0)).2.2.2.2.2.2.2.2.2.2.2.2) &&& 31))) (by omega) hB45 (by show nI ((ω68_14 ((ω ((ω ce).getD mz 0)).getD 12 0)).getD 1 0) = (nI ((ω45_10 ((ω45_10 c9).getD 12 0)).getD 1 0)) ||| ((1 : Int32) <<< (((ν ((ω ce).getD z2 0)).2.2.2.2.2.2.2.2.2.2.2.2) &&& 31)); rw [← hen_68, eω68_14]; exact nI_bv _) hv_68 (fun d8 h8 h9 => congrArg (fun x9 : List Nat => nI (List.getD x9 1 0)) (hω68_14 _ (fun e9 => h9 (hinj _ _ h8 (by omega) (e9.trans hen_68))))) (by omega)
        exact ih2 (z2 + 1, G_14) _ _ ls (by dsimp only; omega) ⟨by dsimp only; omega, ⟨ω68_14, hOω68_14, fun d9 h9 k9 h8 => (hB68 d9 h9 k9 h8).trans (lk_yy p30 p53), hTy⟩, hFR⟩ hP hD hS (lv_sub hl [0, 2, 3] rfl)
