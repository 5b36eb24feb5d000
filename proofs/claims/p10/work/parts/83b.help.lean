/-! TrustChain's private helpers return. -/
def y_Trust_linkIssuers : MethodName := ⟨"TrustChain", "linkIssuers", "(LTrustChain$Certificate;)V"⟩
abbrev b_Trust_linkIssuers : ByteArray := prog_1_method_21_code
def w_Trust_linkIssuers : List Cond := Cond.code y_Trust_linkIssuers b_Trust_linkIssuers 4 (none) :: tb
theorem d_Trust_linkIssuers_0 : decode b_Trust_linkIssuers 0 = .ok (.iconst 0, 1) := by decide +kernel
theorem d_Trust_linkIssuers_1 : decode b_Trust_linkIssuers 1 = .ok (.istore_n 2, 1) := by decide +kernel
theorem d_Trust_linkIssuers_2 : decode b_Trust_linkIssuers 2 = .ok (.iload_n 2, 1) := by decide +kernel
theorem d_Trust_linkIssuers_3 : decode b_Trust_linkIssuers 3 = .ok (.aload_n 0, 1) := by decide +kernel
theorem d_Trust_linkIssuers_4 : decode b_Trust_linkIssuers 4 = .ok (.getfield 19, 3) := by decide +kernel
theorem d_Trust_linkIssuers_7 : decode b_Trust_linkIssuers 7 = .ok (.invokevirtual 89, 3) := by decide +kernel
theorem d_Trust_linkIssuers_10 : decode b_Trust_linkIssuers 10 = .ok (.if_icmp .ge 67, 3) := by decide +kernel
theorem d_Trust_linkIssuers_13 : decode b_Trust_linkIssuers 13 = .ok (.aload_n 0, 1) := by decide +kernel
theorem d_Trust_linkIssuers_14 : decode b_Trust_linkIssuers 14 = .ok (.getfield 19, 3) := by decide +kernel
theorem d_Trust_linkIssuers_17 : decode b_Trust_linkIssuers 17 = .ok (.iload_n 2, 1) := by decide +kernel
theorem d_Trust_linkIssuers_18 : decode b_Trust_linkIssuers 18 = .ok (.invokevirtual 165, 3) := by decide +kernel
theorem d_Trust_linkIssuers_21 : decode b_Trust_linkIssuers 21 = .ok (.checkcast 120, 3) := by decide +kernel
theorem d_Trust_linkIssuers_24 : decode b_Trust_linkIssuers 24 = .ok (.astore_n 3, 1) := by decide +kernel
theorem d_Trust_linkIssuers_25 : decode b_Trust_linkIssuers 25 = .ok (.aload_n 1, 1) := by decide +kernel
theorem d_Trust_linkIssuers_26 : decode b_Trust_linkIssuers 26 = .ok (.aload_n 3, 1) := by decide +kernel
theorem d_Trust_linkIssuers_27 : decode b_Trust_linkIssuers 27 = .ok (.invokevirtual 254, 3) := by decide +kernel
theorem d_Trust_linkIssuers_30 : decode b_Trust_linkIssuers 30 = .ok (.ifCond .eq 18, 3) := by decide +kernel
theorem d_Trust_linkIssuers_33 : decode b_Trust_linkIssuers 33 = .ok (.aload_n 3, 1) := by decide +kernel
theorem d_Trust_linkIssuers_34 : decode b_Trust_linkIssuers 34 = .ok (.dup, 1) := by decide +kernel
theorem d_Trust_linkIssuers_35 : decode b_Trust_linkIssuers 35 = .ok (.getfield 258, 3) := by decide +kernel
theorem d_Trust_linkIssuers_38 : decode b_Trust_linkIssuers 38 = .ok (.iconst 1, 1) := by decide +kernel
theorem d_Trust_linkIssuers_39 : decode b_Trust_linkIssuers 39 = .ok (.aload_n 1, 1) := by decide +kernel
theorem d_Trust_linkIssuers_40 : decode b_Trust_linkIssuers 40 = .ok (.getfield 135, 3) := by decide +kernel
theorem d_Trust_linkIssuers_43 : decode b_Trust_linkIssuers 43 = .ok (.ishl, 1) := by decide +kernel
theorem d_Trust_linkIssuers_44 : decode b_Trust_linkIssuers 44 = .ok (.ior, 1) := by decide +kernel
theorem d_Trust_linkIssuers_45 : decode b_Trust_linkIssuers 45 = .ok (.putfield 258, 3) := by decide +kernel
theorem d_Trust_linkIssuers_48 : decode b_Trust_linkIssuers 48 = .ok (.aload_n 3, 1) := by decide +kernel
theorem d_Trust_linkIssuers_49 : decode b_Trust_linkIssuers 49 = .ok (.aload_n 1, 1) := by decide +kernel
theorem d_Trust_linkIssuers_50 : decode b_Trust_linkIssuers 50 = .ok (.invokevirtual 254, 3) := by decide +kernel
theorem d_Trust_linkIssuers_53 : decode b_Trust_linkIssuers 53 = .ok (.ifCond .eq 18, 3) := by decide +kernel
theorem d_Trust_linkIssuers_56 : decode b_Trust_linkIssuers 56 = .ok (.aload_n 1, 1) := by decide +kernel
theorem d_Trust_linkIssuers_57 : decode b_Trust_linkIssuers 57 = .ok (.dup, 1) := by decide +kernel
theorem d_Trust_linkIssuers_58 : decode b_Trust_linkIssuers 58 = .ok (.getfield 258, 3) := by decide +kernel
theorem d_Trust_linkIssuers_61 : decode b_Trust_linkIssuers 61 = .ok (.iconst 1, 1) := by decide +kernel
theorem d_Trust_linkIssuers_62 : decode b_Trust_linkIssuers 62 = .ok (.aload_n 3, 1) := by decide +kernel
theorem d_Trust_linkIssuers_63 : decode b_Trust_linkIssuers 63 = .ok (.getfield 135, 3) := by decide +kernel
theorem d_Trust_linkIssuers_66 : decode b_Trust_linkIssuers 66 = .ok (.ishl, 1) := by decide +kernel
theorem d_Trust_linkIssuers_67 : decode b_Trust_linkIssuers 67 = .ok (.ior, 1) := by decide +kernel
theorem d_Trust_linkIssuers_68 : decode b_Trust_linkIssuers 68 = .ok (.putfield 258, 3) := by decide +kernel
theorem d_Trust_linkIssuers_71 : decode b_Trust_linkIssuers 71 = .ok (.iinc 2 1, 3) := by decide +kernel
theorem d_Trust_linkIssuers_74 : decode b_Trust_linkIssuers 74 = .ok (.goto (-72), 3) := by decide +kernel
theorem d_Trust_linkIssuers_77 : decode b_Trust_linkIssuers 77 = .ok (.return_, 1) := by decide +kernel
set_option maxHeartbeats 4000000 in
set_option maxRecDepth 100000 in
theorem m_Trust_linkIssuers (l : Launch) (dC : Nat → ClassId) (dI : Nat → Nat → Nat) (sb : sB) (γ : cG) (κ : kE) (Ad : List Nat) (ν : Nat → cN) (ω : Nat → List Nat) (L : Nat) (G : va_W) (q0 c9 : Nat) (fe ho ce li sh rs se ch fo : Nat) (foS chS faP feS wrP : Int32) (p1 p2 : Nat) (sz : Nat) (hTy : TY γ κ Ad ν ω L G) (kq0 : Xc Ad q0 (.inr (10, [.ref fe, .ref ho, .ref ce, .ref li, .ref sh, .ref rs, .ref se, .ref ch, .ref fo, .int foS, .int chS, .int faP, .int feS, .int wrP])) G) (kc9 : tK κ Ad c9 (8, p1, p2)) (kce : tK κ Ad ce (15, (sb.2 5), 0)) : Met l y_Trust_linkIssuers w_Trust_linkIssuers ({ frames := 4, cells := 0, slots := 0, locals := 87 }) (mu_P [.ref q0, .ref c9] (dC, dI) sb G [(γ.1, .byte), (γ.2.1, .int), (γ.2.2.1, .long), (γ.2.2.2, .object "java/lang/Object")] sz) (va_Qv (fun (G' : va_W) => TY γ κ Ad ν ω L G' ∧ FR Ad G G' ∧ (True)) (mu_B (dC, dI) [(γ.1, .byte), (γ.2.1, .int), (γ.2.2.1, .long), (γ.2.2.2, .object "java/lang/Object")] (va_A G sz) (fun G' : va_W => G')) (va_A G sz)) 0 0 (va_A G sz) := by
  refine Met.ofW (cc := b_Trust_linkIssuers) (maxL := 4) (ret := none) (by decide) rfl ?_
  intro p e s m args below meth c s₁ B hml hv
  obtain ⟨rfl, hsz, hB0, hP, hK, hD0, hN, hT0⟩ := hv
  have hx := B.exec
  have hb := B.bytes
  have hr := B.returns
  have hts := atoms_spec (ws := w_Trust_linkIssuers) B.pre
  have tbin : ∀ w ∈ tb, w ∈ w_Trust_linkIssuers := fun w h => List.mem_cons_of_mem _ h
  have htb : ∀ w ∈ tb, w.before _ s = true := fun w h => hts w (tbin w h)
  have hown : s.vm.findClass "TrustChain" = some m.cls := findClass_of_methodNamed B.named
  have hlocks := B.notSynchronized
  subst hsz
  have hD := hD0.self (sz := s.heap.size)
  generalize hAe : va_A G s.heap.size = A at hD ⊢
  have hA : ∀ q : Nat, s.heap.size ≤ q → A q := fun q h => by rw [← hAe]; exact Or.inr h
  have hAs : ∀ q : Nat, A q → sb.1 ≤ q := fun q h => by
    rw [← hAe] at h
    rcases h with ⟨k, e, h⟩ | h
    · exact hD0.2 k _ h
    · exact Nat.le_trans hB0 h
  have hS : va_S A s.heap s.heap [] := va_S.rf
  have hFR := FR.rf Ad G
  have hcs : 0 ≤ (headSpec w_Trust_linkIssuers ({ frames := 4, cells := 0, slots := 0, locals := 87 })).room.cells ∧ 0 ≤ (headSpec w_Trust_linkIssuers ({ frames := 4, cells := 0, slots := 0, locals := 87 })).room.slots := ⟨Nat.le_refl _, Nat.le_refl _⟩
  have hP : va_P (dC, dI) classes G s.heap := hP
  have hl := lv_entry ([.ref q0, .ref c9]) (n := 4) (Nat.le_of_ble_eq_true rfl)
  rw [lg_entry_eq]
  generalize (lg_sl ([.ref q0, .ref c9]) ++ List.replicate (4 - (lg_sl ([.ref q0, .ref c9])).length) Slot.unset).toArray = ls at hl ⊢
  have hl : lv_has ls 4 [(0, .ref q0), (1, .ref c9)] := hl
  have kq0_0 := kq0
  refine lv_iconst (v := 0) hx hb d_Trust_linkIssuers_0 (by decide) ?_
  refine lv_istore_n (lv' := [(2, .int 0), (0, .ref q0), (1, .ref c9)]) hx hb d_Trust_linkIssuers_1 rfl hl (by decide) rfl (fun ls hl => ?_)
  refine w_loopW (α := Nat × va_W) (fun a9 => a9.1 ≤ ((ω ce).length) ∧ TY γ κ Ad ν ω L a9.2 ∧ FR Ad G a9.2) (fun a9 => ((ω ce).length) - a9.1) (fun a9 => [(2, .int (nI a9.1)), (0, .ref q0), (1, .ref c9)]) (fun _ => []) (fun a9 => a9.2) 4 2 (fun a9 HL2 locs ls hJ hP hD hS hl ih2 => ?_) (0, G) _ _ ls ⟨by omega, hTy, hFR⟩ hP hD hS (lv_sub hl [0, 1, 2] rfl)
  obtain ⟨z2, G2⟩ := a9
  obtain ⟨hz2, hTy, hFR⟩ := hJ
  dsimp only at hz2 hTy hFR hP hD hl ih2
  have kq0 := kq0_0.fr hFR
  refine lv_iload_n hx hb d_Trust_linkIssuers_2 rfl (lv_at hl 0 rfl) ?_
  refine lv_aload_n hx hb d_Trust_linkIssuers_3 rfl (lv_at hl 1 rfl) ?_
  obtain ⟨i_1, hg_1⟩ := List.getElem?_of_mem kq0.2
  refine va_get (v := .ref ce) hx hb htb i_Trust hown hK hP i_1 hg_1 rfl 2 (by decide) (htb _ q1_158) (fun _ h9 => h9) rfl d_Trust_linkIssuers_4 ?_
  obtain ⟨i_2, q_2, m_2, hK_2, he_2, hg_2⟩ := ty_15 hTy kce
  refine vp_callSi (pu_callV (As := []) (rest := [.int (nI z2)]) ⟨hx, hb, hml, hown, hts⟩ tbin (c_AL_size l dC dI sb ce q_2 ((ω ce).length) m_2) q2_53 q2_54 q2_55 q1_4 q2_56 (n := 0) (by decide +kernel) rfl ⟨rfl, rfl⟩ ⟨Nat.le_of_ble_eq_true rfl, Nat.le_of_ble_eq_true rfl⟩ ⟨Nat.le_of_ble_eq_true rfl, Nat.le_of_ble_eq_true rfl⟩ hN (hT0.keep hS hAs) hK hP [i_2] (by simp only [List.filterMap_cons, List.filterMap_nil, hg_2]) [] rfl i_2 11 hg_2 rfl rfl hl.1 rfl (Nat.le_of_ble_eq_true rfl) d_Trust_linkIssuers_7) (fun r7 hr7 => ?_)
  subst hr7
  refine lv_icmp_ge (tgt := 77) hx hb d_Trust_linkIssuers_10 (by decide) (fun c10 => ?_) (fun c10 => ?_)
  · have p10 : ((ω ce).length) ≤ z2 := ((nI_leI (a := ((ω ce).length)) (b := z2) (by omega) (by omega)).mp c10)
    exact W.vret hx hb hr (fun t ht hW => ⟨⟨G2, rfl, ⟨hTy, hFR, trivial⟩, by rw [ht]; exact hP, va_K.moved hW.alike hK, hD⟩, hS.F ht⟩) hS.2.2 d_Trust_linkIssuers_77
  · have p10 : ¬ (((ω ce).length) ≤ z2) := (fun q9 => c10 ((nI_leI (a := ((ω ce).length)) (b := z2) (by omega) (by omega)).mpr q9))
    refine lv_aload_n hx hb d_Trust_linkIssuers_13 rfl (lv_at hl 1 rfl) ?_
    refine va_get (v := .ref ce) hx hb htb i_Trust hown hK hP i_1 hg_1 rfl 2 (by decide) (htb _ q1_158) (fun _ h9 => h9) rfl d_Trust_linkIssuers_14 ?_
    refine lv_iload_n hx hb d_Trust_linkIssuers_17 rfl (lv_at hl 0 rfl) ?_
    obtain ⟨cap_3, kq_3⟩ := he_2 (by omega)
    obtain ⟨i_4, f_4, hK_4, hc_4, he_4, hg_4⟩ := ty_14 hTy kq_3
    obtain ⟨hf_3, p_3, q_3, ks_3⟩ := he_4 z2 (by omega)
    obtain ⟨s_3, es_3⟩ : ∃ z, z = (ω ce).getD z2 0 := ⟨_, rfl⟩
    rw [← es_3] at hf_3 ks_3
    refine va_csr (pu_callV (As := [.int (nI z2)]) (rest := []) ⟨hx, hb, hml, hown, hts⟩ tbin (c_AL_get l dC dI sb ce q_2 ((ω ce).length) cap_3 z2 s_3 m_2 γ.2.2.2 f_4 (by omega) hK_4 (by omega) hf_3) q5_39 q4_210 q4_211 q1_4 q4_212 (n := 1) (by decide +kernel) rfl ⟨rfl, rfl⟩ ⟨Nat.le_of_ble_eq_true rfl, Nat.le_of_ble_eq_true rfl⟩ ⟨Nat.le_of_ble_eq_true rfl, Nat.le_of_ble_eq_true rfl⟩ hN (hT0.keep hS hAs) hK hP [i_2, i_4] (by simp only [List.filterMap_cons, List.filterMap_nil, hg_2, hg_4]) [3] rfl i_2 11 hg_2 rfl rfl hl.1 rfl (Nat.le_of_ble_eq_true rfl) d_Trust_linkIssuers_18) (fun r18 hr18 => ?_)
    obtain rfl := Eq.symm hr18
    obtain ⟨i_5, nm_5, pe_5, ec_5, se_5, su_5, mo_5, ok_5, ik_5, ha_5, si_5, en_5, bo_5, sg_5, is_5, iu_5, K_5, B_5, hg_5⟩ := ty_8 hTy ks_3
    have KK_5 := K_5
    obtain ⟨⟨A_5, knm_5⟩, ⟨B1_5, B2_5, kpe_5⟩, ⟨C1_5, C2_5, kec_5⟩, kse_5, ⟨z1_5, ksu_5⟩, ⟨z2_5, kmo_5⟩, ⟨z3_5, kok_5⟩, ⟨z4_5, kik_5⟩, kha_5, ksi_5, ken_5, ⟨z5_5, kbo_5⟩, ⟨z6_5, ksg_5⟩, ⟨z7_5, kis_5⟩⟩ := K_5
    refine va_castY (C := "TrustChain$Certificate") hx hb hown (htb _ q5_40) (hN.1 _ qn9_223) (va_recv (ci := 3) hK hP rfl hg_5) d_Trust_linkIssuers_21 ?_
    refine lv_astore_n (lv' := [(3, .ref s_3), (2, .int (nI z2)), (0, .ref q0), (1, .ref c9)]) hx hb d_Trust_linkIssuers_24 rfl hl (by decide) rfl (fun ls hl => ?_)
    refine lv_aload_n hx hb d_Trust_linkIssuers_25 rfl (lv_at hl 3 rfl) ?_
    refine lv_aload_n hx hb d_Trust_linkIssuers_26 rfl (lv_at hl 0 rfl) ?_
    obtain ⟨i_6, nm_6, pe_6, ec_6, se_6, su_6, mo_6, ok_6, ik_6, ha_6, si_6, en_6, bo_6, sg_6, is_6, iu_6, K_6, B_6, hg_6⟩ := ty_8 hTy kc9
    have KK_6 := K_6
    obtain ⟨⟨A_6, knm_6⟩, ⟨B1_6, B2_6, kpe_6⟩, ⟨C1_6, C2_6, kec_6⟩, kse_6, ⟨z1_6, ksu_6⟩, ⟨z2_6, kmo_6⟩, ⟨z3_6, kok_6⟩, ⟨z4_6, kik_6⟩, kha_6, ksi_6, ken_6, ⟨z5_6, kbo_6⟩, ⟨z6_6, ksg_6⟩, ⟨z7_6, kis_6⟩⟩ := K_6
    refine vp_callSi (pu_callV (As := [.ref s_3]) (rest := []) ⟨hx, hb, hml, hown, hts⟩ tbin (p_Certificate_mayFollow l dC dI sb γ κ Ad ν ω L G2 c9 s_3 _ _ _ _ hTy kc9 ks_3 ) q5_41 q5_42 q5_43 q1_21 q5_44 (n := 1) (by decide +kernel) rfl ⟨rfl, rfl⟩ ⟨Nat.le_of_ble_eq_true rfl, Nat.le_of_ble_eq_true rfl⟩ ⟨Nat.le_of_ble_eq_true rfl, Nat.le_of_ble_eq_true rfl⟩ hN (hT0.keep hS hAs) hK hP (List.range G2.length) (rg_all G2) [0, 1, 2, 3] rfl i_6 3 hg_6 rfl rfl hl.1 rfl (Nat.le_of_ble_eq_true rfl) d_Trust_linkIssuers_27) (fun r27 hr27 => ?_)
    refine lv_if_eq (tgt := 48) hx hb d_Trust_linkIssuers_30 (by decide) (fun c30 => ?_) (fun c30 => ?_)
    · have p30 : r27 = (0 : Int32) := c30
      refine lv_aload_n hx hb d_Trust_linkIssuers_48 rfl (lv_at hl 0 rfl) ?_
      refine lv_aload_n hx hb d_Trust_linkIssuers_49 rfl (lv_at hl 3 rfl) ?_
      refine vp_callSi (pu_callV (As := [.ref c9]) (rest := []) ⟨hx, hb, hml, hown, hts⟩ tbin (p_Certificate_mayFollow l dC dI sb γ κ Ad ν ω L G2 s_3 c9 _ _ _ _ hTy ks_3 kc9 ) q5_41 q5_42 q5_43 q1_21 q5_44 (n := 1) (by decide +kernel) rfl ⟨rfl, rfl⟩ ⟨Nat.le_of_ble_eq_true rfl, Nat.le_of_ble_eq_true rfl⟩ ⟨Nat.le_of_ble_eq_true rfl, Nat.le_of_ble_eq_true rfl⟩ hN (hT0.keep hS hAs) hK hP (List.range G2.length) (rg_all G2) [0, 1, 2, 3] rfl i_5 3 hg_5 rfl rfl hl.1 rfl (Nat.le_of_ble_eq_true rfl) d_Trust_linkIssuers_50) (fun r50 hr50 => ?_)
      refine lv_if_eq (tgt := 71) hx hb d_Trust_linkIssuers_53 (by decide) (fun c53 => ?_) (fun c53 => ?_)
      · have p53 : r50 = (0 : Int32) := c53
        refine lv_iinc (v := nI (z2 + 1)) (lv' := [(2, .int (nI (z2 + 1))), (3, .ref s_3), (0, .ref q0), (1, .ref c9)]) hx hb d_Trust_linkIssuers_71 hl (k := 1) rfl (nI_1 _) (by decide) rfl (fun ls hl => ?_)
        refine lv_goto (tgt := 2) hx hb d_Trust_linkIssuers_74 (by decide) ?_
        exact ih2 (z2 + 1, G2) _ _ ls (by dsimp only; omega) ⟨by dsimp only; omega, hTy, hFR⟩ hP hD hS (lv_sub hl [0, 2, 3] rfl)
      · have p53 : ¬ (r50 = (0 : Int32)) := c53
        refine lv_aload_n hx hb d_Trust_linkIssuers_56 rfl (lv_at hl 3 rfl) ?_
        refine lv_dup hx hb d_Trust_linkIssuers_57 rfl ?_
        refine va_get (v := .int iu_6) hx hb htb i_Certificate hown hK hP i_6 hg_6 rfl 18 (by decide) (htb _ q2_191) (fun _ h9 => h9) rfl d_Trust_linkIssuers_58 ?_
        refine lv_iconst (v := 1) hx hb d_Trust_linkIssuers_61 (by decide) ?_
        refine lv_aload_n hx hb d_Trust_linkIssuers_62 rfl (lv_at hl 0 rfl) ?_
        refine va_get (v := .int ((ν s_3).2.2.2.2.2.2.2.2.2.2.2.2)) hx hb htb i_Certificate hown hK hP i_5 hg_5 rfl 17 (by decide) (htb _ q2_187) (fun _ h9 => h9) rfl d_Trust_linkIssuers_63 ?_
        refine lv_ishl hx hb d_Trust_linkIssuers_66 ?_
        refine lv_ior hx hb d_Trust_linkIssuers_67 ?_
        refine lv_topi (fun v68 ev68 => ?_)
        refine va_put (v := .int v68) (ty := .int) hx hb htb i_Certificate t_Certificate t_Certificate_ok n_Certificate hown hK hP hD hS i_6 hg_6 rfl 18 (by decide) (htb _ q2_191) (fun _ h9 => h9) rfl (by decide +kernel) rfl rfl (Nat.le_of_ble_eq_true rfl) d_Trust_linkIssuers_68 (fun H68 locs hP hD2 hS => ?_)
        have hP : va_P (dC, dI) classes (G2.set i_6 (c9, .inr (3, [.ref nm_6, .ref pe_6, .ref ec_6, .ref se_6, .ref su_6, .ref mo_6, .ref ok_6, .ref ik_6, .int ((ν c9).1), .int ((ν c9).2.1), .int ((ν c9).2.2.1), .int ((ν c9).2.2.2.1), .int ((ν c9).2.2.2.2.1), .int ((ν c9).2.2.2.2.2.1), .int ((ν c9).2.2.2.2.2.2.1), .int ((ν c9).2.2.2.2.2.2.2.1), .int ((ν c9).2.2.2.2.2.2.2.2.1), .int ((ν c9).2.2.2.2.2.2.2.2.2.2.2.2), .int v68, .ref ha_6, .ref si_6, .ref en_6, .ref bo_6, .ref sg_6, .ref is_6, .long ((ν c9).2.2.2.2.2.2.2.2.2.1), .long ((ν c9).2.2.2.2.2.2.2.2.2.2.1), .int ((ν c9).2.2.2.2.2.2.2.2.2.2.2.1)]))) H68 := hP
        have hD3 : va_D A (G2.set i_6 (c9, .inr (3, [.ref nm_6, .ref pe_6, .ref ec_6, .ref se_6, .ref su_6, .ref mo_6, .ref ok_6, .ref ik_6, .int ((ν c9).1), .int ((ν c9).2.1), .int ((ν c9).2.2.1), .int ((ν c9).2.2.2.1), .int ((ν c9).2.2.2.2.1), .int ((ν c9).2.2.2.2.2.1), .int ((ν c9).2.2.2.2.2.2.1), .int ((ν c9).2.2.2.2.2.2.2.1), .int ((ν c9).2.2.2.2.2.2.2.2.1), .int ((ν c9).2.2.2.2.2.2.2.2.2.2.2.2), .int v68, .ref ha_6, .ref si_6, .ref en_6, .ref bo_6, .ref sg_6, .ref is_6, .long ((ν c9).2.2.2.2.2.2.2.2.2.1), .long ((ν c9).2.2.2.2.2.2.2.2.2.2.1), .int ((ν c9).2.2.2.2.2.2.2.2.2.2.2.1)]))) := hD2
        have hFR := hFR.tr (FR.set (c' := .inr (3, [.ref nm_6, .ref pe_6, .ref ec_6, .ref se_6, .ref su_6, .ref mo_6, .ref ok_6, .ref ik_6, .int ((ν c9).1), .int ((ν c9).2.1), .int ((ν c9).2.2.1), .int ((ν c9).2.2.2.1), .int ((ν c9).2.2.2.2.1), .int ((ν c9).2.2.2.2.2.1), .int ((ν c9).2.2.2.2.2.2.1), .int ((ν c9).2.2.2.2.2.2.2.1), .int ((ν c9).2.2.2.2.2.2.2.2.1), .int ((ν c9).2.2.2.2.2.2.2.2.2.2.2.2), .int v68, .ref ha_6, .ref si_6, .ref en_6, .ref bo_6, .ref sg_6, .ref is_6, .long ((ν c9).2.2.2.2.2.2.2.2.2.1), .long ((ν c9).2.2.2.2.2.2.2.2.2.2.1), .int ((ν c9).2.2.2.2.2.2.2.2.2.2.2.1)])) hg_6 kc9.1)
        have hTy := TY.set (c' := .inr (3, [.ref nm_6, .ref pe_6, .ref ec_6, .ref se_6, .ref su_6, .ref mo_6, .ref ok_6, .ref ik_6, .int ((ν c9).1), .int ((ν c9).2.1), .int ((ν c9).2.2.1), .int ((ν c9).2.2.2.1), .int ((ν c9).2.2.2.2.1), .int ((ν c9).2.2.2.2.2.1), .int ((ν c9).2.2.2.2.2.2.1), .int ((ν c9).2.2.2.2.2.2.2.1), .int ((ν c9).2.2.2.2.2.2.2.2.1), .int ((ν c9).2.2.2.2.2.2.2.2.2.2.2.2), .int v68, .ref ha_6, .ref si_6, .ref en_6, .ref bo_6, .ref sg_6, .ref is_6, .long ((ν c9).2.2.2.2.2.2.2.2.2.1), .long ((ν c9).2.2.2.2.2.2.2.2.2.2.1), .int ((ν c9).2.2.2.2.2.2.2.2.2.2.2.1)])) hTy hg_6 (ok_8 kc9 KK_6 B_6)
        have hD := hD3
        have hg_2 := set_keep (c' := .inr (3, [.ref nm_6, .ref pe_6, .ref ec_6, .ref se_6, .ref su_6, .ref mo_6, .ref ok_6, .ref ik_6, .int ((ν c9).1), .int ((ν c9).2.1), .int ((ν c9).2.2.1), .int ((ν c9).2.2.2.1), .int ((ν c9).2.2.2.2.1), .int ((ν c9).2.2.2.2.2.1), .int ((ν c9).2.2.2.2.2.2.1), .int ((ν c9).2.2.2.2.2.2.2.1), .int ((ν c9).2.2.2.2.2.2.2.2.1), .int ((ν c9).2.2.2.2.2.2.2.2.2.2.2.2), .int v68, .ref ha_6, .ref si_6, .ref en_6, .ref bo_6, .ref sg_6, .ref is_6, .long ((ν c9).2.2.2.2.2.2.2.2.2.1), .long ((ν c9).2.2.2.2.2.2.2.2.2.2.1), .int ((ν c9).2.2.2.2.2.2.2.2.2.2.2.1)])) hg_6 hg_2 (tK.ne kc9 kce (show (8 : Nat) ≠ 15 by decide))
        have hg_4 := set_keep (c' := .inr (3, [.ref nm_6, .ref pe_6, .ref ec_6, .ref se_6, .ref su_6, .ref mo_6, .ref ok_6, .ref ik_6, .int ((ν c9).1), .int ((ν c9).2.1), .int ((ν c9).2.2.1), .int ((ν c9).2.2.2.1), .int ((ν c9).2.2.2.2.1), .int ((ν c9).2.2.2.2.2.1), .int ((ν c9).2.2.2.2.2.2.1), .int ((ν c9).2.2.2.2.2.2.2.1), .int ((ν c9).2.2.2.2.2.2.2.2.1), .int ((ν c9).2.2.2.2.2.2.2.2.2.2.2.2), .int v68, .ref ha_6, .ref si_6, .ref en_6, .ref bo_6, .ref sg_6, .ref is_6, .long ((ν c9).2.2.2.2.2.2.2.2.2.1), .long ((ν c9).2.2.2.2.2.2.2.2.2.2.1), .int ((ν c9).2.2.2.2.2.2.2.2.2.2.2.1)])) hg_6 hg_4 (tK.ne kc9 kq_3 (show (8 : Nat) ≠ 14 by decide))
        have hg_6 := set_here (c' := .inr (3, [.ref nm_6, .ref pe_6, .ref ec_6, .ref se_6, .ref su_6, .ref mo_6, .ref ok_6, .ref ik_6, .int ((ν c9).1), .int ((ν c9).2.1), .int ((ν c9).2.2.1), .int ((ν c9).2.2.2.1), .int ((ν c9).2.2.2.2.1), .int ((ν c9).2.2.2.2.2.1), .int ((ν c9).2.2.2.2.2.2.1), .int ((ν c9).2.2.2.2.2.2.2.1), .int ((ν c9).2.2.2.2.2.2.2.2.1), .int ((ν c9).2.2.2.2.2.2.2.2.2.2.2.2), .int v68, .ref ha_6, .ref si_6, .ref en_6, .ref bo_6, .ref sg_6, .ref is_6, .long ((ν c9).2.2.2.2.2.2.2.2.2.1), .long ((ν c9).2.2.2.2.2.2.2.2.2.2.1), .int ((ν c9).2.2.2.2.2.2.2.2.2.2.2.1)])) hg_6
        clear hD3 hD2
        generalize G2.set i_6 (c9, .inr (3, [.ref nm_6, .ref pe_6, .ref ec_6, .ref se_6, .ref su_6, .ref mo_6, .ref ok_6, .ref ik_6, .int ((ν c9).1), .int ((ν c9).2.1), .int ((ν c9).2.2.1), .int ((ν c9).2.2.2.1), .int ((ν c9).2.2.2.2.1), .int ((ν c9).2.2.2.2.2.1), .int ((ν c9).2.2.2.2.2.2.1), .int ((ν c9).2.2.2.2.2.2.2.1), .int ((ν c9).2.2.2.2.2.2.2.2.1), .int ((ν c9).2.2.2.2.2.2.2.2.2.2.2.2), .int v68, .ref ha_6, .ref si_6, .ref en_6, .ref bo_6, .ref sg_6, .ref is_6, .long ((ν c9).2.2.2.2.2.2.2.2.2.1), .long ((ν c9).2.2.2.2.2.2.2.2.2.2.1), .int ((ν c9).2.2.2.2.2.2.2.2.2.2.2.1)])) = G_7 at hP hD hTy hFR hg_2 hg_4 hg_6
        have kq0 := kq0_0.fr hFR
        refine lv_iinc (v := nI (z2 + 1)) (lv' := [(2, .int (nI (z2 + 1))), (3, .ref s_3), (0, .ref q0), (1, .ref c9)]) hx hb d_Trust_linkIssuers_71 hl (k := 1) rfl (nI_1 _) (by decide) rfl (fun ls hl => ?_)
        refine lv_goto (tgt := 2) hx hb d_Trust_linkIssuers_74 (by decide) ?_
        exact ih2 (z2 + 1, G_7) _ _ ls (by dsimp only; omega) ⟨by dsimp only; omega, hTy, hFR⟩ hP hD hS (lv_sub hl [0, 2, 3] rfl)
    · have p30 : ¬ (r27 = (0 : Int32)) := c30
      refine lv_aload_n hx hb d_Trust_linkIssuers_33 rfl (lv_at hl 0 rfl) ?_
      refine lv_dup hx hb d_Trust_linkIssuers_34 rfl ?_
      refine va_get (v := .int iu_5) hx hb htb i_Certificate hown hK hP i_5 hg_5 rfl 18 (by decide) (htb _ q2_191) (fun _ h9 => h9) rfl d_Trust_linkIssuers_35 ?_
      refine lv_iconst (v := 1) hx hb d_Trust_linkIssuers_38 (by decide) ?_
      refine lv_aload_n hx hb d_Trust_linkIssuers_39 rfl (lv_at hl 3 rfl) ?_
      refine va_get (v := .int ((ν c9).2.2.2.2.2.2.2.2.2.2.2.2)) hx hb htb i_Certificate hown hK hP i_6 hg_6 rfl 17 (by decide) (htb _ q2_187) (fun _ h9 => h9) rfl d_Trust_linkIssuers_40 ?_
      refine lv_ishl hx hb d_Trust_linkIssuers_43 ?_
      refine lv_ior hx hb d_Trust_linkIssuers_44 ?_
      refine lv_topi (fun v45 ev45 => ?_)
      refine va_put (v := .int v45) (ty := .int) hx hb htb i_Certificate t_Certificate t_Certificate_ok n_Certificate hown hK hP hD hS i_5 hg_5 rfl 18 (by decide) (htb _ q2_191) (fun _ h9 => h9) rfl (by decide +kernel) rfl rfl (Nat.le_of_ble_eq_true rfl) d_Trust_linkIssuers_45 (fun H45 locs hP hD2 hS => ?_)
      have hP : va_P (dC, dI) classes (G2.set i_5 (s_3, .inr (3, [.ref nm_5, .ref pe_5, .ref ec_5, .ref se_5, .ref su_5, .ref mo_5, .ref ok_5, .ref ik_5, .int ((ν s_3).1), .int ((ν s_3).2.1), .int ((ν s_3).2.2.1), .int ((ν s_3).2.2.2.1), .int ((ν s_3).2.2.2.2.1), .int ((ν s_3).2.2.2.2.2.1), .int ((ν s_3).2.2.2.2.2.2.1), .int ((ν s_3).2.2.2.2.2.2.2.1), .int ((ν s_3).2.2.2.2.2.2.2.2.1), .int ((ν s_3).2.2.2.2.2.2.2.2.2.2.2.2), .int v45, .ref ha_5, .ref si_5, .ref en_5, .ref bo_5, .ref sg_5, .ref is_5, .long ((ν s_3).2.2.2.2.2.2.2.2.2.1), .long ((ν s_3).2.2.2.2.2.2.2.2.2.2.1), .int ((ν s_3).2.2.2.2.2.2.2.2.2.2.2.1)]))) H45 := hP
      have hD3 : va_D A (G2.set i_5 (s_3, .inr (3, [.ref nm_5, .ref pe_5, .ref ec_5, .ref se_5, .ref su_5, .ref mo_5, .ref ok_5, .ref ik_5, .int ((ν s_3).1), .int ((ν s_3).2.1), .int ((ν s_3).2.2.1), .int ((ν s_3).2.2.2.1), .int ((ν s_3).2.2.2.2.1), .int ((ν s_3).2.2.2.2.2.1), .int ((ν s_3).2.2.2.2.2.2.1), .int ((ν s_3).2.2.2.2.2.2.2.1), .int ((ν s_3).2.2.2.2.2.2.2.2.1), .int ((ν s_3).2.2.2.2.2.2.2.2.2.2.2.2), .int v45, .ref ha_5, .ref si_5, .ref en_5, .ref bo_5, .ref sg_5, .ref is_5, .long ((ν s_3).2.2.2.2.2.2.2.2.2.1), .long ((ν s_3).2.2.2.2.2.2.2.2.2.2.1), .int ((ν s_3).2.2.2.2.2.2.2.2.2.2.2.1)]))) := hD2
      have hFR := hFR.tr (FR.set (c' := .inr (3, [.ref nm_5, .ref pe_5, .ref ec_5, .ref se_5, .ref su_5, .ref mo_5, .ref ok_5, .ref ik_5, .int ((ν s_3).1), .int ((ν s_3).2.1), .int ((ν s_3).2.2.1), .int ((ν s_3).2.2.2.1), .int ((ν s_3).2.2.2.2.1), .int ((ν s_3).2.2.2.2.2.1), .int ((ν s_3).2.2.2.2.2.2.1), .int ((ν s_3).2.2.2.2.2.2.2.1), .int ((ν s_3).2.2.2.2.2.2.2.2.1), .int ((ν s_3).2.2.2.2.2.2.2.2.2.2.2.2), .int v45, .ref ha_5, .ref si_5, .ref en_5, .ref bo_5, .ref sg_5, .ref is_5, .long ((ν s_3).2.2.2.2.2.2.2.2.2.1), .long ((ν s_3).2.2.2.2.2.2.2.2.2.2.1), .int ((ν s_3).2.2.2.2.2.2.2.2.2.2.2.1)])) hg_5 ks_3.1)
      have hTy := TY.set (c' := .inr (3, [.ref nm_5, .ref pe_5, .ref ec_5, .ref se_5, .ref su_5, .ref mo_5, .ref ok_5, .ref ik_5, .int ((ν s_3).1), .int ((ν s_3).2.1), .int ((ν s_3).2.2.1), .int ((ν s_3).2.2.2.1), .int ((ν s_3).2.2.2.2.1), .int ((ν s_3).2.2.2.2.2.1), .int ((ν s_3).2.2.2.2.2.2.1), .int ((ν s_3).2.2.2.2.2.2.2.1), .int ((ν s_3).2.2.2.2.2.2.2.2.1), .int ((ν s_3).2.2.2.2.2.2.2.2.2.2.2.2), .int v45, .ref ha_5, .ref si_5, .ref en_5, .ref bo_5, .ref sg_5, .ref is_5, .long ((ν s_3).2.2.2.2.2.2.2.2.2.1), .long ((ν s_3).2.2.2.2.2.2.2.2.2.2.1), .int ((ν s_3).2.2.2.2.2.2.2.2.2.2.2.1)])) hTy hg_5 (ok_8 ks_3 KK_5 B_5)
      have hD := hD3
      have hg_2 := set_keep (c' := .inr (3, [.ref nm_5, .ref pe_5, .ref ec_5, .ref se_5, .ref su_5, .ref mo_5, .ref ok_5, .ref ik_5, .int ((ν s_3).1), .int ((ν s_3).2.1), .int ((ν s_3).2.2.1), .int ((ν s_3).2.2.2.1), .int ((ν s_3).2.2.2.2.1), .int ((ν s_3).2.2.2.2.2.1), .int ((ν s_3).2.2.2.2.2.2.1), .int ((ν s_3).2.2.2.2.2.2.2.1), .int ((ν s_3).2.2.2.2.2.2.2.2.1), .int ((ν s_3).2.2.2.2.2.2.2.2.2.2.2.2), .int v45, .ref ha_5, .ref si_5, .ref en_5, .ref bo_5, .ref sg_5, .ref is_5, .long ((ν s_3).2.2.2.2.2.2.2.2.2.1), .long ((ν s_3).2.2.2.2.2.2.2.2.2.2.1), .int ((ν s_3).2.2.2.2.2.2.2.2.2.2.2.1)])) hg_5 hg_2 (tK.ne ks_3 kce (show (8 : Nat) ≠ 15 by decide))
      have hg_4 := set_keep (c' := .inr (3, [.ref nm_5, .ref pe_5, .ref ec_5, .ref se_5, .ref su_5, .ref mo_5, .ref ok_5, .ref ik_5, .int ((ν s_3).1), .int ((ν s_3).2.1), .int ((ν s_3).2.2.1), .int ((ν s_3).2.2.2.1), .int ((ν s_3).2.2.2.2.1), .int ((ν s_3).2.2.2.2.2.1), .int ((ν s_3).2.2.2.2.2.2.1), .int ((ν s_3).2.2.2.2.2.2.2.1), .int ((ν s_3).2.2.2.2.2.2.2.2.1), .int ((ν s_3).2.2.2.2.2.2.2.2.2.2.2.2), .int v45, .ref ha_5, .ref si_5, .ref en_5, .ref bo_5, .ref sg_5, .ref is_5, .long ((ν s_3).2.2.2.2.2.2.2.2.2.1), .long ((ν s_3).2.2.2.2.2.2.2.2.2.2.1), .int ((ν s_3).2.2.2.2.2.2.2.2.2.2.2.1)])) hg_5 hg_4 (tK.ne ks_3 kq_3 (show (8 : Nat) ≠ 14 by decide))
      have hg_5 := set_here (c' := .inr (3, [.ref nm_5, .ref pe_5, .ref ec_5, .ref se_5, .ref su_5, .ref mo_5, .ref ok_5, .ref ik_5, .int ((ν s_3).1), .int ((ν s_3).2.1), .int ((ν s_3).2.2.1), .int ((ν s_3).2.2.2.1), .int ((ν s_3).2.2.2.2.1), .int ((ν s_3).2.2.2.2.2.1), .int ((ν s_3).2.2.2.2.2.2.1), .int ((ν s_3).2.2.2.2.2.2.2.1), .int ((ν s_3).2.2.2.2.2.2.2.2.1), .int ((ν s_3).2.2.2.2.2.2.2.2.2.2.2.2), .int v45, .ref ha_5, .ref si_5, .ref en_5, .ref bo_5, .ref sg_5, .ref is_5, .long ((ν s_3).2.2.2.2.2.2.2.2.2.1), .long ((ν s_3).2.2.2.2.2.2.2.2.2.2.1), .int ((ν s_3).2.2.2.2.2.2.2.2.2.2.2.1)])) hg_5
      clear hD3 hD2
      generalize G2.set i_5 (s_3, .inr (3, [.ref nm_5, .ref pe_5, .ref ec_5, .ref se_5, .ref su_5, .ref mo_5, .ref ok_5, .ref ik_5, .int ((ν s_3).1), .int ((ν s_3).2.1), .int ((ν s_3).2.2.1), .int ((ν s_3).2.2.2.1), .int ((ν s_3).2.2.2.2.1), .int ((ν s_3).2.2.2.2.2.1), .int ((ν s_3).2.2.2.2.2.2.1), .int ((ν s_3).2.2.2.2.2.2.2.1), .int ((ν s_3).2.2.2.2.2.2.2.2.1), .int ((ν s_3).2.2.2.2.2.2.2.2.2.2.2.2), .int v45, .ref ha_5, .ref si_5, .ref en_5, .ref bo_5, .ref sg_5, .ref is_5, .long ((ν s_3).2.2.2.2.2.2.2.2.2.1), .long ((ν s_3).2.2.2.2.2.2.2.2.2.2.1), .int ((ν s_3).2.2.2.2.2.2.2.2.2.2.2.1)])) = G_8 at hP hD hTy hFR hg_2 hg_4 hg_5
      have kq0 := kq0_0.fr hFR
      refine lv_aload_n hx hb d_Trust_linkIssuers_48 rfl (lv_at hl 0 rfl) ?_
      refine lv_aload_n hx hb d_Trust_linkIssuers_49 rfl (lv_at hl 3 rfl) ?_
      refine vp_callSi (pu_callV (As := [.ref c9]) (rest := []) ⟨hx, hb, hml, hown, hts⟩ tbin (p_Certificate_mayFollow l dC dI sb γ κ Ad ν ω L G_8 s_3 c9 _ _ _ _ hTy ks_3 kc9 ) q5_41 q5_42 q5_43 q1_21 q5_44 (n := 1) (by decide +kernel) rfl ⟨rfl, rfl⟩ ⟨Nat.le_of_ble_eq_true rfl, Nat.le_of_ble_eq_true rfl⟩ ⟨Nat.le_of_ble_eq_true rfl, Nat.le_of_ble_eq_true rfl⟩ hN (hT0.keep hS hAs) hK hP (List.range G_8.length) (rg_all G_8) [0, 1, 2, 3] rfl i_5 3 hg_5 rfl rfl hl.1 rfl (Nat.le_of_ble_eq_true rfl) d_Trust_linkIssuers_50) (fun r50 hr50 => ?_)
      refine lv_if_eq (tgt := 71) hx hb d_Trust_linkIssuers_53 (by decide) (fun c53 => ?_) (fun c53 => ?_)
      · have p53 : r50 = (0 : Int32) := c53
        refine lv_iinc (v := nI (z2 + 1)) (lv' := [(2, .int (nI (z2 + 1))), (3, .ref s_3), (0, .ref q0), (1, .ref c9)]) hx hb d_Trust_linkIssuers_71 hl (k := 1) rfl (nI_1 _) (by decide) rfl (fun ls hl => ?_)
        refine lv_goto (tgt := 2) hx hb d_Trust_linkIssuers_74 (by decide) ?_
        exact ih2 (z2 + 1, G_8) _ _ ls (by dsimp only; omega) ⟨by dsimp only; omega, hTy, hFR⟩ hP hD hS (lv_sub hl [0, 2, 3] rfl)
      · have p53 : ¬ (r50 = (0 : Int32)) := c53
        refine lv_aload_n hx hb d_Trust_linkIssuers_56 rfl (lv_at hl 3 rfl) ?_
        refine lv_dup hx hb d_Trust_linkIssuers_57 rfl ?_
        obtain ⟨i_9, nm_9, pe_9, ec_9, se_9, su_9, mo_9, ok_9, ik_9, ha_9, si_9, en_9, bo_9, sg_9, is_9, iu_9, K_9, B_9, hg_9⟩ := ty_8 hTy kc9
        have KK_9 := K_9
        obtain ⟨⟨A_9, knm_9⟩, ⟨B1_9, B2_9, kpe_9⟩, ⟨C1_9, C2_9, kec_9⟩, kse_9, ⟨z1_9, ksu_9⟩, ⟨z2_9, kmo_9⟩, ⟨z3_9, kok_9⟩, ⟨z4_9, kik_9⟩, kha_9, ksi_9, ken_9, ⟨z5_9, kbo_9⟩, ⟨z6_9, ksg_9⟩, ⟨z7_9, kis_9⟩⟩ := K_9
        refine va_get (v := .int iu_9) hx hb htb i_Certificate hown hK hP i_9 hg_9 rfl 18 (by decide) (htb _ q2_191) (fun _ h9 => h9) rfl d_Trust_linkIssuers_58 ?_
        refine lv_iconst (v := 1) hx hb d_Trust_linkIssuers_61 (by decide) ?_
        refine lv_aload_n hx hb d_Trust_linkIssuers_62 rfl (lv_at hl 0 rfl) ?_
        refine va_get (v := .int ((ν s_3).2.2.2.2.2.2.2.2.2.2.2.2)) hx hb htb i_Certificate hown hK hP i_5 hg_5 rfl 17 (by decide) (htb _ q2_187) (fun _ h9 => h9) rfl d_Trust_linkIssuers_63 ?_
        refine lv_ishl hx hb d_Trust_linkIssuers_66 ?_
        refine lv_ior hx hb d_Trust_linkIssuers_67 ?_
        refine lv_topi (fun v68 ev68 => ?_)
        refine va_put (v := .int v68) (ty := .int) hx hb htb i_Certificate t_Certificate t_Certificate_ok n_Certificate hown hK hP hD hS i_9 hg_9 rfl 18 (by decide) (htb _ q2_191) (fun _ h9 => h9) rfl (by decide +kernel) rfl rfl (Nat.le_of_ble_eq_true rfl) d_Trust_linkIssuers_68 (fun H68 locs hP hD2 hS => ?_)
        have hP : va_P (dC, dI) classes (G_8.set i_9 (c9, .inr (3, [.ref nm_9, .ref pe_9, .ref ec_9, .ref se_9, .ref su_9, .ref mo_9, .ref ok_9, .ref ik_9, .int ((ν c9).1), .int ((ν c9).2.1), .int ((ν c9).2.2.1), .int ((ν c9).2.2.2.1), .int ((ν c9).2.2.2.2.1), .int ((ν c9).2.2.2.2.2.1), .int ((ν c9).2.2.2.2.2.2.1), .int ((ν c9).2.2.2.2.2.2.2.1), .int ((ν c9).2.2.2.2.2.2.2.2.1), .int ((ν c9).2.2.2.2.2.2.2.2.2.2.2.2), .int v68, .ref ha_9, .ref si_9, .ref en_9, .ref bo_9, .ref sg_9, .ref is_9, .long ((ν c9).2.2.2.2.2.2.2.2.2.1), .long ((ν c9).2.2.2.2.2.2.2.2.2.2.1), .int ((ν c9).2.2.2.2.2.2.2.2.2.2.2.1)]))) H68 := hP
        have hD3 : va_D A (G_8.set i_9 (c9, .inr (3, [.ref nm_9, .ref pe_9, .ref ec_9, .ref se_9, .ref su_9, .ref mo_9, .ref ok_9, .ref ik_9, .int ((ν c9).1), .int ((ν c9).2.1), .int ((ν c9).2.2.1), .int ((ν c9).2.2.2.1), .int ((ν c9).2.2.2.2.1), .int ((ν c9).2.2.2.2.2.1), .int ((ν c9).2.2.2.2.2.2.1), .int ((ν c9).2.2.2.2.2.2.2.1), .int ((ν c9).2.2.2.2.2.2.2.2.1), .int ((ν c9).2.2.2.2.2.2.2.2.2.2.2.2), .int v68, .ref ha_9, .ref si_9, .ref en_9, .ref bo_9, .ref sg_9, .ref is_9, .long ((ν c9).2.2.2.2.2.2.2.2.2.1), .long ((ν c9).2.2.2.2.2.2.2.2.2.2.1), .int ((ν c9).2.2.2.2.2.2.2.2.2.2.2.1)]))) := hD2
        have hFR := hFR.tr (FR.set (c' := .inr (3, [.ref nm_9, .ref pe_9, .ref ec_9, .ref se_9, .ref su_9, .ref mo_9, .ref ok_9, .ref ik_9, .int ((ν c9).1), .int ((ν c9).2.1), .int ((ν c9).2.2.1), .int ((ν c9).2.2.2.1), .int ((ν c9).2.2.2.2.1), .int ((ν c9).2.2.2.2.2.1), .int ((ν c9).2.2.2.2.2.2.1), .int ((ν c9).2.2.2.2.2.2.2.1), .int ((ν c9).2.2.2.2.2.2.2.2.1), .int ((ν c9).2.2.2.2.2.2.2.2.2.2.2.2), .int v68, .ref ha_9, .ref si_9, .ref en_9, .ref bo_9, .ref sg_9, .ref is_9, .long ((ν c9).2.2.2.2.2.2.2.2.2.1), .long ((ν c9).2.2.2.2.2.2.2.2.2.2.1), .int ((ν c9).2.2.2.2.2.2.2.2.2.2.2.1)])) hg_9 kc9.1)
        have hTy := TY.set (c' := .inr (3, [.ref nm_9, .ref pe_9, .ref ec_9, .ref se_9, .ref su_9, .ref mo_9, .ref ok_9, .ref ik_9, .int ((ν c9).1), .int ((ν c9).2.1), .int ((ν c9).2.2.1), .int ((ν c9).2.2.2.1), .int ((ν c9).2.2.2.2.1), .int ((ν c9).2.2.2.2.2.1), .int ((ν c9).2.2.2.2.2.2.1), .int ((ν c9).2.2.2.2.2.2.2.1), .int ((ν c9).2.2.2.2.2.2.2.2.1), .int ((ν c9).2.2.2.2.2.2.2.2.2.2.2.2), .int v68, .ref ha_9, .ref si_9, .ref en_9, .ref bo_9, .ref sg_9, .ref is_9, .long ((ν c9).2.2.2.2.2.2.2.2.2.1), .long ((ν c9).2.2.2.2.2.2.2.2.2.2.1), .int ((ν c9).2.2.2.2.2.2.2.2.2.2.2.1)])) hTy hg_9 (ok_8 kc9 KK_9 B_9)
        have hD := hD3
        have hg_2 := set_keep (c' := .inr (3, [.ref nm_9, .ref pe_9, .ref ec_9, .ref se_9, .ref su_9, .ref mo_9, .ref ok_9, .ref ik_9, .int ((ν c9).1), .int ((ν c9).2.1), .int ((ν c9).2.2.1), .int ((ν c9).2.2.2.1), .int ((ν c9).2.2.2.2.1), .int ((ν c9).2.2.2.2.2.1), .int ((ν c9).2.2.2.2.2.2.1), .int ((ν c9).2.2.2.2.2.2.2.1), .int ((ν c9).2.2.2.2.2.2.2.2.1), .int ((ν c9).2.2.2.2.2.2.2.2.2.2.2.2), .int v68, .ref ha_9, .ref si_9, .ref en_9, .ref bo_9, .ref sg_9, .ref is_9, .long ((ν c9).2.2.2.2.2.2.2.2.2.1), .long ((ν c9).2.2.2.2.2.2.2.2.2.2.1), .int ((ν c9).2.2.2.2.2.2.2.2.2.2.2.1)])) hg_9 hg_2 (tK.ne kc9 kce (show (8 : Nat) ≠ 15 by decide))
        have hg_4 := set_keep (c' := .inr (3, [.ref nm_9, .ref pe_9, .ref ec_9, .ref se_9, .ref su_9, .ref mo_9, .ref ok_9, .ref ik_9, .int ((ν c9).1), .int ((ν c9).2.1), .int ((ν c9).2.2.1), .int ((ν c9).2.2.2.1), .int ((ν c9).2.2.2.2.1), .int ((ν c9).2.2.2.2.2.1), .int ((ν c9).2.2.2.2.2.2.1), .int ((ν c9).2.2.2.2.2.2.2.1), .int ((ν c9).2.2.2.2.2.2.2.2.1), .int ((ν c9).2.2.2.2.2.2.2.2.2.2.2.2), .int v68, .ref ha_9, .ref si_9, .ref en_9, .ref bo_9, .ref sg_9, .ref is_9, .long ((ν c9).2.2.2.2.2.2.2.2.2.1), .long ((ν c9).2.2.2.2.2.2.2.2.2.2.1), .int ((ν c9).2.2.2.2.2.2.2.2.2.2.2.1)])) hg_9 hg_4 (tK.ne kc9 kq_3 (show (8 : Nat) ≠ 14 by decide))
        have hg_9 := set_here (c' := .inr (3, [.ref nm_9, .ref pe_9, .ref ec_9, .ref se_9, .ref su_9, .ref mo_9, .ref ok_9, .ref ik_9, .int ((ν c9).1), .int ((ν c9).2.1), .int ((ν c9).2.2.1), .int ((ν c9).2.2.2.1), .int ((ν c9).2.2.2.2.1), .int ((ν c9).2.2.2.2.2.1), .int ((ν c9).2.2.2.2.2.2.1), .int ((ν c9).2.2.2.2.2.2.2.1), .int ((ν c9).2.2.2.2.2.2.2.2.1), .int ((ν c9).2.2.2.2.2.2.2.2.2.2.2.2), .int v68, .ref ha_9, .ref si_9, .ref en_9, .ref bo_9, .ref sg_9, .ref is_9, .long ((ν c9).2.2.2.2.2.2.2.2.2.1), .long ((ν c9).2.2.2.2.2.2.2.2.2.2.1), .int ((ν c9).2.2.2.2.2.2.2.2.2.2.2.1)])) hg_9
        clear hD3 hD2
        generalize G_8.set i_9 (c9, .inr (3, [.ref nm_9, .ref pe_9, .ref ec_9, .ref se_9, .ref su_9, .ref mo_9, .ref ok_9, .ref ik_9, .int ((ν c9).1), .int ((ν c9).2.1), .int ((ν c9).2.2.1), .int ((ν c9).2.2.2.1), .int ((ν c9).2.2.2.2.1), .int ((ν c9).2.2.2.2.2.1), .int ((ν c9).2.2.2.2.2.2.1), .int ((ν c9).2.2.2.2.2.2.2.1), .int ((ν c9).2.2.2.2.2.2.2.2.1), .int ((ν c9).2.2.2.2.2.2.2.2.2.2.2.2), .int v68, .ref ha_9, .ref si_9, .ref en_9, .ref bo_9, .ref sg_9, .ref is_9, .long ((ν c9).2.2.2.2.2.2.2.2.2.1), .long ((ν c9).2.2.2.2.2.2.2.2.2.2.1), .int ((ν c9).2.2.2.2.2.2.2.2.2.2.2.1)])) = G_10 at hP hD hTy hFR hg_2 hg_4 hg_9
        have kq0 := kq0_0.fr hFR
        refine lv_iinc (v := nI (z2 + 1)) (lv' := [(2, .int (nI (z2 + 1))), (3, .ref s_3), (0, .ref q0), (1, .ref c9)]) hx hb d_Trust_linkIssuers_71 hl (k := 1) rfl (nI_1 _) (by decide) rfl (fun ls hl => ?_)
        refine lv_goto (tgt := 2) hx hb d_Trust_linkIssuers_74 (by decide) ?_
        exact ih2 (z2 + 1, G_10) _ _ ls (by dsimp only; omega) ⟨by dsimp only; omega, hTy, hFR⟩ hP hD hS (lv_sub hl [0, 2, 3] rfl)
def y_Trust_takeHost : MethodName := ⟨"TrustChain", "takeHost", "(IJ)V"⟩
abbrev b_Trust_takeHost : ByteArray := prog_1_method_16_code
def w_Trust_takeHost : List Cond := Cond.code y_Trust_takeHost b_Trust_takeHost 5 (none) :: tb
theorem d_Trust_takeHost_0 : decode b_Trust_takeHost 0 = .ok (.iconst 0, 1) := by decide +kernel
theorem d_Trust_takeHost_1 : decode b_Trust_takeHost 1 = .ok (.istore 4, 2) := by decide +kernel
theorem d_Trust_takeHost_3 : decode b_Trust_takeHost 3 = .ok (.iload 4, 2) := by decide +kernel
theorem d_Trust_takeHost_5 : decode b_Trust_takeHost 5 = .ok (.bipush 8, 2) := by decide +kernel
theorem d_Trust_takeHost_7 : decode b_Trust_takeHost 7 = .ok (.if_icmp .ge 39, 3) := by decide +kernel
theorem d_Trust_takeHost_10 : decode b_Trust_takeHost 10 = .ok (.iload_n 1, 1) := by decide +kernel
theorem d_Trust_takeHost_11 : decode b_Trust_takeHost 11 = .ok (.iload 4, 2) := by decide +kernel
theorem d_Trust_takeHost_13 : decode b_Trust_takeHost 13 = .ok (.iadd, 1) := by decide +kernel
theorem d_Trust_takeHost_14 : decode b_Trust_takeHost 14 = .ok (.bipush 32, 2) := by decide +kernel
theorem d_Trust_takeHost_16 : decode b_Trust_takeHost 16 = .ok (.if_icmp .ge 30, 3) := by decide +kernel
theorem d_Trust_takeHost_19 : decode b_Trust_takeHost 19 = .ok (.aload_n 0, 1) := by decide +kernel
theorem d_Trust_takeHost_20 : decode b_Trust_takeHost 20 = .ok (.getfield 13, 3) := by decide +kernel
theorem d_Trust_takeHost_23 : decode b_Trust_takeHost 23 = .ok (.iload_n 1, 1) := by decide +kernel
theorem d_Trust_takeHost_24 : decode b_Trust_takeHost 24 = .ok (.iload 4, 2) := by decide +kernel
theorem d_Trust_takeHost_26 : decode b_Trust_takeHost 26 = .ok (.iadd, 1) := by decide +kernel
theorem d_Trust_takeHost_27 : decode b_Trust_takeHost 27 = .ok (.lload_n 2, 1) := by decide +kernel
theorem d_Trust_takeHost_28 : decode b_Trust_takeHost 28 = .ok (.bipush 56, 2) := by decide +kernel
theorem d_Trust_takeHost_30 : decode b_Trust_takeHost 30 = .ok (.bipush 8, 2) := by decide +kernel
theorem d_Trust_takeHost_32 : decode b_Trust_takeHost 32 = .ok (.iload 4, 2) := by decide +kernel
theorem d_Trust_takeHost_34 : decode b_Trust_takeHost 34 = .ok (.imul, 1) := by decide +kernel
theorem d_Trust_takeHost_35 : decode b_Trust_takeHost 35 = .ok (.isub, 1) := by decide +kernel
theorem d_Trust_takeHost_36 : decode b_Trust_takeHost 36 = .ok (.lushr, 1) := by decide +kernel
theorem d_Trust_takeHost_37 : decode b_Trust_takeHost 37 = .ok (.l2i, 1) := by decide +kernel
theorem d_Trust_takeHost_38 : decode b_Trust_takeHost 38 = .ok (.i2b, 1) := by decide +kernel
theorem d_Trust_takeHost_39 : decode b_Trust_takeHost 39 = .ok (.bastore, 1) := by decide +kernel
theorem d_Trust_takeHost_40 : decode b_Trust_takeHost 40 = .ok (.iinc 4 1, 3) := by decide +kernel
theorem d_Trust_takeHost_43 : decode b_Trust_takeHost 43 = .ok (.goto (-40), 3) := by decide +kernel
theorem d_Trust_takeHost_46 : decode b_Trust_takeHost 46 = .ok (.return_, 1) := by decide +kernel
set_option maxHeartbeats 4000000 in
set_option maxRecDepth 100000 in
theorem m_Trust_takeHost (l : Launch) (dC : Nat → ClassId) (dI : Nat → Nat → Nat) (sb : sB) (γ : cG) (κ : kE) (Ad : List Nat) (ν : Nat → cN) (ω : Nat → List Nat) (L : Nat) (G : va_W) (q0 : Nat) (fe ho ce li sh rs se ch fo : Nat) (foS chS faP feS wrP : Int32) (b9 : Nat) (x9 : Int64) (sz : Nat) (hTy : TY γ κ Ad ν ω L G) (kq0 : Xc Ad q0 (.inr (10, [.ref fe, .ref ho, .ref ce, .ref li, .ref sh, .ref rs, .ref se, .ref ch, .ref fo, .int foS, .int chS, .int faP, .int feS, .int wrP])) G) (kho : tK κ Ad ho (1, 32, 0)) (hb9 : b9 ≤ 24) : Met l y_Trust_takeHost w_Trust_takeHost ({ frames := 0, cells := 0, slots := 0, locals := 0 }) (mu_P [.ref q0, .int (nI b9), .long x9] (dC, dI) sb G [(γ.1, .byte), (γ.2.1, .int), (γ.2.2.1, .long), (γ.2.2.2, .object "java/lang/Object")] sz) (va_Qv (fun (G' : va_W) => TY γ κ Ad ν ω L G' ∧ FR Ad G G' ∧ (True)) (mu_B (dC, dI) [(γ.1, .byte), (γ.2.1, .int), (γ.2.2.1, .long), (γ.2.2.2, .object "java/lang/Object")] (va_A G sz) (fun G' : va_W => G')) (va_A G sz)) 0 0 (va_A G sz) := by
  refine Met.ofW (cc := b_Trust_takeHost) (maxL := 5) (ret := none) (by decide) rfl ?_
  intro p e s m args below meth c s₁ B hml hv
  obtain ⟨rfl, hsz, hB0, hP, hK, hD0, hN, hT0⟩ := hv
  have hx := B.exec
  have hb := B.bytes
  have hr := B.returns
  have hts := atoms_spec (ws := w_Trust_takeHost) B.pre
  have tbin : ∀ w ∈ tb, w ∈ w_Trust_takeHost := fun w h => List.mem_cons_of_mem _ h
  have htb : ∀ w ∈ tb, w.before _ s = true := fun w h => hts w (tbin w h)
  have hown : s.vm.findClass "TrustChain" = some m.cls := findClass_of_methodNamed B.named
  have hlocks := B.notSynchronized
  subst hsz
  have hD := hD0.self (sz := s.heap.size)
  generalize hAe : va_A G s.heap.size = A at hD ⊢
  have hA : ∀ q : Nat, s.heap.size ≤ q → A q := fun q h => by rw [← hAe]; exact Or.inr h
  have hAs : ∀ q : Nat, A q → sb.1 ≤ q := fun q h => by
    rw [← hAe] at h
    rcases h with ⟨k, e, h⟩ | h
    · exact hD0.2 k _ h
    · exact Nat.le_trans hB0 h
  have hS : va_S A s.heap s.heap [] := va_S.rf
  have hFR := FR.rf Ad G
  have hcs : 0 ≤ (headSpec w_Trust_takeHost ({ frames := 0, cells := 0, slots := 0, locals := 0 })).room.cells ∧ 0 ≤ (headSpec w_Trust_takeHost ({ frames := 0, cells := 0, slots := 0, locals := 0 })).room.slots := ⟨Nat.le_refl _, Nat.le_refl _⟩
  have hP : va_P (dC, dI) classes G s.heap := hP
  have hl := lv_entry ([.ref q0, .int (nI b9), .long x9]) (n := 5) (Nat.le_of_ble_eq_true rfl)
  rw [lg_entry_eq]
  generalize (lg_sl ([.ref q0, .int (nI b9), .long x9]) ++ List.replicate (5 - (lg_sl ([.ref q0, .int (nI b9), .long x9])).length) Slot.unset).toArray = ls at hl ⊢
  have hl : lv_has ls 5 [(0, .ref q0), (1, .int (nI b9)), (2, .long x9)] := hl
  have kq0_0 := kq0
  refine lv_iconst (v := 0) hx hb d_Trust_takeHost_0 (by decide) ?_
  refine lv_istore (lv' := [(4, .int 0), (0, .ref q0), (1, .int (nI b9)), (2, .long x9)]) hx hb d_Trust_takeHost_1 hl (by decide) rfl (fun ls hl => ?_)
  refine w_loopW (α := Nat × va_W) (fun a9 => a9.1 ≤ 8 ∧ TY γ κ Ad ν ω L a9.2 ∧ FR Ad G a9.2) (fun a9 => 8 - a9.1) (fun a9 => [(4, .int (nI a9.1)), (0, .ref q0), (1, .int (nI b9)), (2, .long x9)]) (fun _ => []) (fun a9 => a9.2) 5 3 (fun a9 HL3 locs ls hJ hP hD hS hl ih3 => ?_) (0, G) _ _ ls ⟨by omega, hTy, hFR⟩ hP hD hS (lv_sub hl [0, 1, 2, 3] rfl)
  obtain ⟨z3, G3⟩ := a9
  obtain ⟨hz3, hTy, hFR⟩ := hJ
  dsimp only at hz3 hTy hFR hP hD hl ih3
  have kq0 := kq0_0.fr hFR
  refine lv_iload hx hb d_Trust_takeHost_3 (lv_at hl 0 rfl) ?_
  refine lv_bipush (v := 8) hx hb d_Trust_takeHost_5 (by decide) ?_
  refine lv_icmp_ge (tgt := 46) hx hb d_Trust_takeHost_7 (by decide) (fun c7 => ?_) (fun c7 => ?_)
  · have p7 : 8 ≤ z3 := ((nI_leI (a := 8) (b := z3) (by omega) (by omega)).mp c7)
    exact W.vret hx hb hr (fun t ht hW => ⟨⟨G3, rfl, ⟨hTy, hFR, trivial⟩, by rw [ht]; exact hP, va_K.moved hW.alike hK, hD⟩, hS.F ht⟩) hS.2.2 d_Trust_takeHost_46
  · have p7 : ¬ (8 ≤ z3) := (fun q9 => c7 ((nI_leI (a := 8) (b := z3) (by omega) (by omega)).mpr q9))
    refine lv_iload_n hx hb d_Trust_takeHost_10 rfl (lv_at hl 2 rfl) ?_
    refine lv_iload hx hb d_Trust_takeHost_11 (lv_at hl 0 rfl) ?_
    refine lv_iadd hx hb d_Trust_takeHost_13 ?_
    rw [show ((nI b9) + (nI z3) : Int32) = nI (b9 + z3) from nI_add b9 z3]
    refine lv_bipush (v := 32) hx hb d_Trust_takeHost_14 (by decide) ?_
    refine lv_icmp_ge (tgt := 46) hx hb d_Trust_takeHost_16 (by decide) (fun c16 => ?_) (fun c16 => ?_)
    · have p16 : 32 ≤ (b9 + z3) := ((nI_leI (a := 32) (b := (b9 + z3)) (by omega) (by omega)).mp c16)
      exact W.vret hx hb hr (fun t ht hW => ⟨⟨G3, rfl, ⟨hTy, hFR, trivial⟩, by rw [ht]; exact hP, va_K.moved hW.alike hK, hD⟩, hS.F ht⟩) hS.2.2 d_Trust_takeHost_46
    · have p16 : ¬ (32 ≤ (b9 + z3)) := (fun q9 => c16 ((nI_leI (a := 32) (b := (b9 + z3)) (by omega) (by omega)).mpr q9))
      refine lv_aload_n hx hb d_Trust_takeHost_19 rfl (lv_at hl 1 rfl) ?_
      obtain ⟨i_1, hg_1⟩ := List.getElem?_of_mem kq0.2
      refine va_get (v := .ref ho) hx hb htb i_Trust hown hK hP i_1 hg_1 rfl 1 (by decide) (htb _ q1_157) (fun _ h9 => h9) rfl d_Trust_takeHost_20 ?_
      refine lv_iload_n hx hb d_Trust_takeHost_23 rfl (lv_at hl 2 rfl) ?_
      refine lv_iload hx hb d_Trust_takeHost_24 (lv_at hl 0 rfl) ?_
      refine lv_iadd hx hb d_Trust_takeHost_26 ?_
      rw [show ((nI b9) + (nI z3) : Int32) = nI (b9 + z3) from nI_add b9 z3]
      refine lv_lload_n hx hb d_Trust_takeHost_27 rfl (lv_at hl 3 rfl) ?_
      refine lv_bipush (v := 56) hx hb d_Trust_takeHost_28 (by decide) ?_
      refine lv_bipush (v := 8) hx hb d_Trust_takeHost_30 (by decide) ?_
      refine lv_iload hx hb d_Trust_takeHost_32 (lv_at hl 0 rfl) ?_
      refine lv_imul hx hb d_Trust_takeHost_34 ?_
      rw [show (8 * (nI z3) : Int32) = nI (8 * z3) from nI_mul 8 z3]
      refine lv_isub hx hb d_Trust_takeHost_35 ?_
      rw [show (56 - (nI (8 * z3)) : Int32) = nI (56 - (8 * z3)) from pk_sub (a := 56) (b := (8 * z3)) (by omega)]
      refine lv_lushr (v := (x9.toUInt64 >>> ((nI (56 - (8 * z3))).toInt64.toUInt64 &&& Int64.toUInt64 63)).toInt64) hx hb d_Trust_takeHost_36 rfl ?_
      refine lv_l2i (v := ((x9.toUInt64 >>> ((nI (56 - (8 * z3))).toInt64.toUInt64 &&& Int64.toUInt64 63)).toInt64).toInt32) hx hb d_Trust_takeHost_37 rfl ?_
      refine lv_i2b (v := (((x9.toUInt64 >>> ((nI (56 - (8 * z3))).toInt64.toUInt64 &&& Int64.toUInt64 63)).toInt64).toInt32).toInt8.toInt32) hx hb d_Trust_takeHost_38 rfl ?_
      obtain ⟨i_2, u_2, hu_2, hn_2, hg_2⟩ := ty_1 hTy kho
      have h39 : vp_in (nI (b9 + z3)) 32 := vp_in_nI (by omega) (by omega)
      obtain ⟨u39, hu39, eu39⟩ := tx_upd hu_2 (nI (b9 + z3)).toNatClampNeg ((((x9.toUInt64 >>> ((nI (56 - (8 * z3))).toInt64.toUInt64 &&& Int64.toUInt64 63)).toInt64).toInt32).toInt8.toInt32)
      refine va_bast hx hb hK hP hD hS i_2 0 hg_2 rfl h39 d_Trust_takeHost_39 (fun H39 locs hP hD2 hS => ?_)
      rw [nar_byte, eu39] at hP hD2
      have hP : va_P (dC, dI) classes (G3.set i_2 (ho, .inl (γ.1, 32, .inl (tx u39)))) H39 := hP
      have hD3 : va_D A (G3.set i_2 (ho, .inl (γ.1, 32, .inl (tx u39)))) := hD2
      have hFR := hFR.tr (FR.set (c' := .inl (γ.1, 32, .inl (tx u39))) hg_2 kho.1)
      have hTy := TY.set (c' := .inl (γ.1, 32, .inl (tx u39))) hTy hg_2 (ok_1 kho (by decide) hu39)
      have hD := hD3
      clear hD3 hD2
      generalize G3.set i_2 (ho, .inl (γ.1, 32, .inl (tx u39))) = G_3 at hP hD hTy hFR 
      have kq0 := kq0_0.fr hFR
      refine lv_iinc (v := nI (z3 + 1)) (lv' := [(4, .int (nI (z3 + 1))), (0, .ref q0), (1, .int (nI b9)), (2, .long x9)]) hx hb d_Trust_takeHost_40 hl (k := 0) rfl (nI_1 _) (by decide) rfl (fun ls hl => ?_)
      refine lv_goto (tgt := 3) hx hb d_Trust_takeHost_43 (by decide) ?_
      exact ih3 (z3 + 1, G_3) _ _ ls (by dsimp only; omega) ⟨by dsimp only; omega, hTy, hFR⟩ hP hD hS (lv_sub hl [0, 1, 2, 3] rfl)
