/-! TrustChain: signed, covers, validate. -/
theorem d_Trust_signed_41 : decode b_Trust_signed 41 = .ok (.iload_n 1, 1) := by decide +kernel
theorem d_Trust_signed_42 : decode b_Trust_signed 42 = .ok (.ifCond .eq 17, 3) := by decide +kernel
theorem d_Trust_signed_45 : decode b_Trust_signed 45 = .ok (.aload_n 0, 1) := by decide +kernel
theorem d_Trust_signed_46 : decode b_Trust_signed 46 = .ok (.getfield 23, 3) := by decide +kernel
theorem d_Trust_signed_49 : decode b_Trust_signed 49 = .ok (.iload_n 2, 1) := by decide +kernel
theorem d_Trust_signed_50 : decode b_Trust_signed 50 = .ok (.invokevirtual 165, 3) := by decide +kernel
theorem d_Trust_signed_53 : decode b_Trust_signed 53 = .ok (.checkcast 157, 3) := by decide +kernel
theorem d_Trust_signed_56 : decode b_Trust_signed 56 = .ok (.goto 14, 3) := by decide +kernel
theorem d_Trust_signed_59 : decode b_Trust_signed 59 = .ok (.aload_n 0, 1) := by decide +kernel
theorem d_Trust_signed_60 : decode b_Trust_signed 60 = .ok (.getfield 19, 3) := by decide +kernel
theorem d_Trust_signed_63 : decode b_Trust_signed 63 = .ok (.iload_n 2, 1) := by decide +kernel
theorem d_Trust_signed_64 : decode b_Trust_signed 64 = .ok (.invokevirtual 165, 3) := by decide +kernel
theorem d_Trust_signed_67 : decode b_Trust_signed 67 = .ok (.checkcast 157, 3) := by decide +kernel
theorem d_Trust_signed_70 : decode b_Trust_signed 70 = .ok (.astore 4, 2) := by decide +kernel
theorem d_Trust_signed_72 : decode b_Trust_signed 72 = .ok (.aload_n 0, 1) := by decide +kernel
theorem d_Trust_signed_73 : decode b_Trust_signed 73 = .ok (.getfield 36, 3) := by decide +kernel
theorem d_Trust_signed_76 : decode b_Trust_signed 76 = .ok (.aload 4, 2) := by decide +kernel
theorem d_Trust_signed_78 : decode b_Trust_signed 78 = .ok (.aload_n 0, 1) := by decide +kernel
theorem d_Trust_signed_79 : decode b_Trust_signed 79 = .ok (.getfield 19, 3) := by decide +kernel
theorem d_Trust_signed_82 : decode b_Trust_signed 82 = .ok (.iload_n 3, 1) := by decide +kernel
theorem d_Trust_signed_83 : decode b_Trust_signed 83 = .ok (.invokevirtual 165, 3) := by decide +kernel
theorem d_Trust_signed_86 : decode b_Trust_signed 86 = .ok (.checkcast 120, 3) := by decide +kernel
theorem d_Trust_signed_89 : decode b_Trust_signed 89 = .ok (.invokevirtual 195, 3) := by decide +kernel
theorem d_Trust_signed_92 : decode b_Trust_signed 92 = .ok (.ireturn, 1) := by decide +kernel
set_option maxHeartbeats 4000000 in
set_option maxRecDepth 100000 in
theorem z_Trust_signed (l : Launch) (hl0 : l.stackTraces = false) (dC : Nat → ClassId) (dI : Nat → Nat → Nat) (sb : sB) (γ : cG) (κ : kE) (Ad : List Nat) (ν : Nat → cN) (ω : Nat → List Nat) (L : Nat) (G : va_W) (fe ho ce li sh rs se ch fo q0 pl : Nat) (o : alD) (as : List Nat) (foS chS faP feS wrP : Int32) (b i j : Int32) (sz : Nat) (hC : CKx sb κ Ad ω ho ce li sh rs se ch fo q0 pl) (hW0 : CWx γ sb κ Ad ν ω fe ho ce li sh rs se ch fo q0 pl (G, L, o, as, foS, chS, faP, feS, wrP))  (hX : XC κ Ad ν ω) : vx_Met l y_Trust_signed w_Trust_signed ({ frames := 6, cells := 1, slots := 6, locals := 109 }) (mx_P [.ref q0, .int b, .int i, .int j] (dC, dI) sb G [(γ.1, .byte), (γ.2.1, .int), (γ.2.2.1, .long), (γ.2.2.2, .object "java/lang/Object")] sz) (va_Qi (fun r (u' : cU) => CWx γ sb κ Ad ν ω fe ho ce li sh rs se ch fo q0 pl u' ∧ FRq γ Ad q0 pl G u'.1 ∧ (u'.2.2.2.2 = (foS, chS, faP, feS, wrP) ∧ ∃ k k2 : Nat, i = nI k ∧ j = nI k2 ∧ k2 < (ω ce).length ∧ ((b = 0 ∧ k < (ω ce).length ∧ bz r (SGX κ ν ω ((ω ce).getD k 0) ((ω ce).getD k2 0))) ∨ (¬ b = 0 ∧ k < (ω li).length ∧ bz r (SGX κ ν ω ((ω li).getD k 0) ((ω ce).getD k2 0)))))) (mu_B (dC, dI) [(γ.1, .byte), (γ.2.1, .int), (γ.2.2.1, .long), (γ.2.2.2, .object "java/lang/Object")] (va_A G sz) (fun u' : cU => u'.1)) (va_A G sz)) (mx_X (fun (E : String) (u' : cU) => CWx γ sb κ Ad ν ω fe ho ce li sh rs se ch fo q0 pl u' ∧ FRq γ Ad q0 pl G u'.1 ∧ (u'.2.2.2.2 = (foS, chS, faP, feS, wrP) ∧ E = "java/lang/IndexOutOfBoundsException" ∧ ¬ ((¬ j < 0 ∧ j < nI (ω ce).length) ∧ (¬ b = 0 → (¬ i < 0 ∧ i < nI (ω li).length)) ∧ (b = 0 → (¬ i < 0 ∧ i < nI (ω ce).length))))) (dC, dI) [(γ.1, .byte), (γ.2.1, .int), (γ.2.2.1, .long), (γ.2.2.2, .object "java/lang/Object")] (va_A G sz) (fun u' : cU => u'.1)) 1 6 (va_A G sz) := by
  refine vx_ofW (cc := b_Trust_signed) (maxL := 5) (ret := (some FieldType.boolean)) (by decide) rfl ?_
  intro p e s m args below meth c s₁ B hml hnoh hv
  obtain ⟨rfl, hsz, hB0, hP, hK, hD0, hN, hT0, hTh⟩ := hv
  have hx := B.exec
  have hb := B.bytes
  have hr := B.returns
  have hts := atoms_spec (ws := w_Trust_signed) B.pre
  have tbin : ∀ w ∈ tb, w ∈ w_Trust_signed := fun w h => List.mem_cons_of_mem _ h
  have htb : ∀ w ∈ tb, w.before _ s = true := fun w h => hts w (tbin w h)
  have hown : s.vm.findClass "TrustChain" = some m.cls := findClass_of_methodNamed B.named
  have hlocks := B.notSynchronized
  subst hsz
  have hD := hD0.self (sz := s.heap.size)
  generalize hAe : va_A G s.heap.size = A at hD ⊢
  have hA : ∀ q : Nat, s.heap.size ≤ q → A q := fun q h => by rw [← hAe]; exact Or.inr h
  have hAs : ∀ q : Nat, A q → sb.1 ≤ q := fun q h => by
    rw [← hAe] at h
    rcases h with ⟨k, e, h⟩ | h
    · exact hD0.2 k _ h
    · exact Nat.le_trans hB0 h
  have hS : va_S A s.heap s.heap [] := va_S.rf
  have hFR := FRq.rf γ Ad q0 pl G
  have hcs : 1 ≤ (headSpec w_Trust_signed ({ frames := 6, cells := 1, slots := 6, locals := 109 })).room.cells ∧ 6 ≤ (headSpec w_Trust_signed ({ frames := 6, cells := 1, slots := 6, locals := 109 })).room.slots := ⟨Nat.le_refl _, Nat.le_refl _⟩
  have hP : va_P (dC, dI) classes G s.heap := hP
  have hC0 := hC
  obtain ⟨⟨kho, kce, kli, ksh, krs, kse, kch, kfo⟩, h1, hce9, hli9, hqp, hN14, hN16⟩ := hC
  obtain ⟨hTy, hL, kq0, kpl, h16⟩ := hW0
  dsimp only at hTy hL kq0 kpl h16
  have hl := lv_entry ([.ref q0, .int b, .int i, .int j]) (n := 5) (Nat.le_of_ble_eq_true rfl)
  rw [lg_entry_eq]
  generalize (lg_sl ([.ref q0, .int b, .int i, .int j]) ++ List.replicate (5 - (lg_sl ([.ref q0, .int b, .int i, .int j])).length) Slot.unset).toArray = ls at hl ⊢
  have hl : lv_has ls 5 [(0, .ref q0), (1, .int b), (2, .int i), (3, .int j)] := hl
  refine lv_aload_n hx hb d_Trust_signed_0 rfl (lv_at hl 0 rfl) ?_
  refine lv_iload_n hx hb d_Trust_signed_1 rfl (lv_at hl 3 rfl) ?_
  obtain ⟨i_1, hg_1⟩ := List.getElem?_of_mem kq0.2
  obtain ⟨i_2, q_2, m_2, hK_2, he_2, hg_2⟩ := ty_15 hTy kce
  refine vp_callSi (pu_callV (As := [.int j]) (rest := []) ⟨hx, hb, hml, hown, hts⟩ tbin (c_Trust_isStored l dC dI sb q0 fe ho ce li sh rs se ch fo foS chS faP feS wrP q_2 (ω ce).length m_2 j) q5_137 q5_139 qp_18 q1_1 q5_140 (n := 1) (by decide +kernel) rfl ⟨rfl, rfl⟩ ⟨Nat.le_of_ble_eq_true rfl, Nat.le_of_ble_eq_true rfl⟩ ⟨Nat.le_of_ble_eq_true rfl, Nat.le_of_ble_eq_true rfl⟩ hN (hT0.keep hS hAs) hK hP [i_1, i_2] (by simp only [List.filterMap_cons, List.filterMap_nil, hg_1, hg_2]) [] rfl i_1 10 hg_1 rfl rfl hl.1 rfl (Nat.le_of_ble_eq_true rfl) d_Trust_signed_2) (fun r2 hr2 => ?_)
  obtain rfl := Eq.symm (bz_zP hr2)
  refine lv_if_eq (tgt := 31) hx hb d_Trust_signed_5 (by decide) (fun c5 => ?_) (fun c5 => ?_)
  · have p5 : ¬ (¬ j < 0 ∧ j < nI (ω ce).length) := (zP_0.mp c5)
    obtain ⟨sa, hsa⟩ := hTh.2.2.1 (193, "no such certificate or list") (by decide)
    exact vx_throwS (own := "TrustChain") (cls := "java/lang/IndexOutOfBoundsException") (text := "no such certificate or list") (names := xUp) (ik := 74) (is := 193) (ic := 78) (sa := sa) (A := A) hx hb hl0 hown (by decide) (by decide) (htb _ q1_211) (htb _ q1_14) hsa (x_hat x_ot78 x_gd78 x_nw78 htb hN) x_ot78 (hTh.1.narrow hAs) (hTh.2.1.narrow hAs) hS (hl.1.trans hml.symm) d_Trust_signed_31 d_Trust_signed_34 d_Trust_signed_35 d_Trust_signed_37 d_Trust_signed_40 (fun x h => (hnoh x h).elim) (Nat.le_of_ble_eq_true rfl) (Nat.le_of_ble_eq_true rfl) (Nat.le_of_ble_eq_true rfl) (Nat.le_of_ble_eq_true rfl) hlocks (x_end (G, L, o, as, foS, chS, faP, feS, wrP) ⟨⟨hTy, hL, kq0, kpl, h16⟩, hFR, rfl, rfl, fun q => p5 q.1⟩ hP hK hD hS) hS.2.2 (Nat.le_of_ble_eq_true rfl) (Nat.le_of_ble_eq_true rfl)
  · have p5 : ¬ j < 0 ∧ j < nI (ω ce).length := (zP_1 c5)
    refine lv_iload_n hx hb d_Trust_signed_8 rfl (lv_at hl 1 rfl) ?_
    refine lv_if_eq (tgt := 23) hx hb d_Trust_signed_9 (by decide) (fun c9 => ?_) (fun c9 => ?_)
    · have p9 : b = (0 : Int32) := c9
      refine lv_aload_n hx hb d_Trust_signed_23 rfl (lv_at hl 0 rfl) ?_
      refine lv_iload_n hx hb d_Trust_signed_24 rfl (lv_at hl 2 rfl) ?_
      refine vp_callSi (pu_callV (As := [.int i]) (rest := []) ⟨hx, hb, hml, hown, hts⟩ tbin (c_Trust_isStored l dC dI sb q0 fe ho ce li sh rs se ch fo foS chS faP feS wrP q_2 (ω ce).length m_2 i) q5_137 q5_139 qp_18 q1_1 q5_140 (n := 1) (by decide +kernel) rfl ⟨rfl, rfl⟩ ⟨Nat.le_of_ble_eq_true rfl, Nat.le_of_ble_eq_true rfl⟩ ⟨Nat.le_of_ble_eq_true rfl, Nat.le_of_ble_eq_true rfl⟩ hN (hT0.keep hS hAs) hK hP [i_1, i_2] (by simp only [List.filterMap_cons, List.filterMap_nil, hg_1, hg_2]) [] rfl i_1 10 hg_1 rfl rfl hl.1 rfl (Nat.le_of_ble_eq_true rfl) d_Trust_signed_25) (fun r25 hr25 => ?_)
      obtain rfl := Eq.symm (bz_zP hr25)
      refine lv_if_ne (tgt := 41) hx hb d_Trust_signed_28 (by decide) (fun c28 => ?_) (fun c28 => ?_)
      · have p28 : ¬ i < 0 ∧ i < nI (ω ce).length := (zP_1 c28)
        refine lv_iload_n hx hb d_Trust_signed_41 rfl (lv_at hl 1 rfl) ?_
        refine lv_if_eq (tgt := 59) hx hb d_Trust_signed_42 (by decide) (fun c42 => ?_) (fun c42 => ?_)
        rotate_left
        · exact absurd c42 (fun q => q p9)
        obtain ⟨k, hk, ek⟩ := nI_at9 p28.1 p28.2 (by omega)
        subst ek
        refine lv_aload_n hx hb d_Trust_signed_59 rfl (lv_at hl 0 rfl) ?_
        refine va_get (v := .ref ce) hx hb htb i_Trust hown hK hP i_1 hg_1 rfl 2 (by decide) (htb _ q1_158) (fun _ h9 => h9) rfl d_Trust_signed_60 ?_
        refine lv_iload_n hx hb d_Trust_signed_63 rfl (lv_at hl 2 rfl) ?_
        obtain ⟨cap_3, kq_3⟩ := he_2 (by omega)
        obtain ⟨i_4, f_4, hK_4, hc_4, he_4, hg_4⟩ := ty_14 hTy kq_3
        obtain ⟨hf_3, p_3, q_3, ks_3⟩ := he_4 k (by omega)
        obtain ⟨s_3, es_3⟩ : ∃ z, z = (ω ce).getD k 0 := ⟨_, rfl⟩
        rw [← es_3] at hf_3 ks_3
        refine va_csr (pu_callV (As := [.int (nI k)]) (rest := []) ⟨hx, hb, hml, hown, hts⟩ tbin (c_AL_get l dC dI sb ce q_2 ((ω ce).length) cap_3 k s_3 m_2 γ.2.2.2 f_4 (by omega) hK_4 (by omega) hf_3) q5_39 q4_210 q4_211 q1_4 q4_212 (n := 1) (by decide +kernel) rfl ⟨rfl, rfl⟩ ⟨Nat.le_of_ble_eq_true rfl, Nat.le_of_ble_eq_true rfl⟩ ⟨Nat.le_of_ble_eq_true rfl, Nat.le_of_ble_eq_true rfl⟩ hN (hT0.keep hS hAs) hK hP [i_2, i_4] (by simp only [List.filterMap_cons, List.filterMap_nil, hg_2, hg_4]) [3] rfl i_2 11 hg_2 rfl rfl hl.1 rfl (Nat.le_of_ble_eq_true rfl) d_Trust_signed_64) (fun r64 hr64 => ?_)
        obtain rfl := Eq.symm hr64
        obtain ⟨i_5, nm_5, pe_5, ec_5, se_5, su_5, mo_5, ok_5, ik_5, ha_5, si_5, en_5, bo_5, sg_5, is_5, iu_5, K_5, B_5, hg_5⟩ := ty_8 hTy ks_3
        obtain ⟨⟨A_5, knm_5⟩, ⟨B1_5, B2_5, kpe_5⟩, ⟨C1_5, C2_5, kec_5⟩, kse_5, ⟨z1_5, ksu_5⟩, ⟨z2_5, kmo_5⟩, ⟨z3_5, kok_5⟩, ⟨z4_5, kik_5⟩, kha_5, ksi_5, ken_5, ⟨z5_5, kbo_5⟩, ⟨z6_5, ksg_5⟩, ⟨z7_5, kis_5⟩⟩ := K_5
        refine va_castY (C := "TrustChain$Certificate") hx hb hown (htb _ q5_167) (hN.1 _ qn9_224) (va_recv (ci := 3) hK hP rfl hg_5) d_Trust_signed_67 ?_
        refine lv_astore (lv' := [(4, .ref s_3), (0, .ref q0), (1, .int b), (2, .int (nI k)), (3, .int j)]) hx hb d_Trust_signed_70 hl (by decide) rfl (fun ls hl => ?_)
        obtain ⟨k2, hk2, ek2⟩ := nI_at9 p5.1 p5.2 (by omega)
        subst ek2
        refine lv_aload_n hx hb d_Trust_signed_72 rfl (lv_at hl 1 rfl) ?_
        refine va_get (v := .ref rs) hx hb htb i_Trust hown hK hP i_1 hg_1 rfl 5 (by decide) (htb _ q1_161) (fun _ h9 => h9) rfl d_Trust_signed_73 ?_
        refine lv_aload hx hb d_Trust_signed_76 (lv_at hl 0 rfl) ?_
        refine lv_aload_n hx hb d_Trust_signed_78 rfl (lv_at hl 1 rfl) ?_
        refine va_get (v := .ref ce) hx hb htb i_Trust hown hK hP i_1 hg_1 rfl 2 (by decide) (htb _ q1_158) (fun _ h9 => h9) rfl d_Trust_signed_79 ?_
        refine lv_iload_n hx hb d_Trust_signed_82 rfl (lv_at hl 4 rfl) ?_
        obtain ⟨hf_6, p_6, q_6, ks_6⟩ := he_4 k2 (by omega)
        obtain ⟨s_6, es_6⟩ : ∃ z, z = (ω ce).getD k2 0 := ⟨_, rfl⟩
        rw [← es_6] at hf_6 ks_6
        refine va_csr (pu_callV (As := [.int (nI k2)]) (rest := [.ref s_3, .ref rs]) ⟨hx, hb, hml, hown, hts⟩ tbin (c_AL_get l dC dI sb ce q_2 ((ω ce).length) cap_3 k2 s_6 m_2 γ.2.2.2 f_4 (by omega) hK_4 (by omega) hf_6) q5_39 q4_210 q4_211 q1_4 q4_212 (n := 1) (by decide +kernel) rfl ⟨rfl, rfl⟩ ⟨Nat.le_of_ble_eq_true rfl, Nat.le_of_ble_eq_true rfl⟩ ⟨Nat.le_of_ble_eq_true rfl, Nat.le_of_ble_eq_true rfl⟩ hN (hT0.keep hS hAs) hK hP [i_2, i_4] (by simp only [List.filterMap_cons, List.filterMap_nil, hg_2, hg_4]) [3] rfl i_2 11 hg_2 rfl rfl hl.1 rfl (Nat.le_of_ble_eq_true rfl) d_Trust_signed_83) (fun r83 hr83 => ?_)
        obtain rfl := Eq.symm hr83
        obtain ⟨i_7, nm_7, pe_7, ec_7, se_7, su_7, mo_7, ok_7, ik_7, ha_7, si_7, en_7, bo_7, sg_7, is_7, iu_7, K_7, B_7, hg_7⟩ := ty_8 hTy ks_6
        obtain ⟨⟨A_7, knm_7⟩, ⟨B1_7, B2_7, kpe_7⟩, ⟨C1_7, C2_7, kec_7⟩, kse_7, ⟨z1_7, ksu_7⟩, ⟨z2_7, kmo_7⟩, ⟨z3_7, kok_7⟩, ⟨z4_7, kik_7⟩, kha_7, ksi_7, ken_7, ⟨z5_7, kbo_7⟩, ⟨z6_7, ksg_7⟩, ⟨z7_7, kis_7⟩⟩ := K_7
        refine va_castY (C := "TrustChain$Certificate") hx hb hown (htb _ q5_40) (hN.1 _ qn9_223) (va_recv (ci := 3) hK hP rfl hg_7) d_Trust_signed_86 ?_
        have hFc := va_free (wc := G) hD hS hA (List.range G.length) (rg_is _)
        obtain ⟨i_9, mo_9, sq_9, ba_9, po_9, un_9, su_9, iv_9, kmo_9, ksq_9, kba_9, kpo_9, kun_9, ksu_9, hg_9⟩ := ty_10 hTy krs
        refine va_calli (mu_runV (As := [.ref s_3, .ref s_6]) (rest := []) ⟨hx, hb, hml, hown, hts⟩ tbin (m_isSignedC l dC dI sb γ κ Ad ν ω L G rs s_3 s_6 _ _ _ _ s.heap.size hTy krs ks_3 ks_6 hL h1 hX) q5_176 q5_177 q5_178 q1_6 q5_179 (n := 2) (by decide +kernel) rfl ⟨rfl, rfl⟩ ⟨Nat.le_of_ble_eq_true rfl, Nat.le_of_ble_eq_true rfl⟩ ⟨Nat.le_of_ble_eq_true rfl, Nat.le_of_ble_eq_true rfl⟩ hN (hT0.keep hS hAs) hAs (Nat.le_trans hB0 hS.1) hK hP hD (List.range G.length) (rg_nd _) (rg_is _) [0, 1, 2, 3] rfl i_9 7 hg_9 rfl rfl hl.1 rfl (Nat.le_of_ble_eq_true rfl) d_Trust_signed_89) hS (fun q _ h => hFc q h) hFc (fun r89 G_8 tS H89 locs ht hvm hw89 hB hz1 hk1 hS => ?_)
        obtain ⟨⟨L89, hL89, hTy⟩, hF9, hr89⟩ := hw89
        have kpl := kpl.fr hF9
        have kq0 := kq0.fr hF9
        have hFR := hFR.tr hF9.q
        obtain ⟨hP1, hK1, hD1⟩ := hB
        rw [ht] at hP1
        have hP : va_P (dC, dI) classes G_8 H89 := hP1
        have hD : va_D A G_8 := hD1.weaken (fun _ _ _ h => hFc _ h)
        exact vx_ret (x_wide 1 6 (Nat.le_of_ble_eq_true rfl) (Nat.le_of_ble_eq_true rfl) (W.zret (v := r89) hx hb hr (bz_n hr89) (fun t ht hW => ⟨⟨_, (G_8, L89, o, as, foS, chS, faP, feS, wrP), rfl, ⟨⟨hTy, hL89, kq0, kpl, h16⟩, hFR, rfl, k, k2, rfl, rfl, hk2, Or.inl ⟨p9, hk, by rw [← es_3, ← es_6]; exact hr89⟩⟩, ⟨by rw [ht]; exact hP, va_K.moved hW.alike hK, hD⟩⟩, hS.F ht⟩) hS.2.2 d_Trust_signed_92))
      · have p28 : ¬ (¬ i < 0 ∧ i < nI (ω ce).length) := (zP_0.mp c28)
        obtain ⟨sa, hsa⟩ := hTh.2.2.1 (193, "no such certificate or list") (by decide)
        exact vx_throwS (own := "TrustChain") (cls := "java/lang/IndexOutOfBoundsException") (text := "no such certificate or list") (names := xUp) (ik := 74) (is := 193) (ic := 78) (sa := sa) (A := A) hx hb hl0 hown (by decide) (by decide) (htb _ q1_211) (htb _ q1_14) hsa (x_hat x_ot78 x_gd78 x_nw78 htb hN) x_ot78 (hTh.1.narrow hAs) (hTh.2.1.narrow hAs) hS (hl.1.trans hml.symm) d_Trust_signed_31 d_Trust_signed_34 d_Trust_signed_35 d_Trust_signed_37 d_Trust_signed_40 (fun x h => (hnoh x h).elim) (Nat.le_of_ble_eq_true rfl) (Nat.le_of_ble_eq_true rfl) (Nat.le_of_ble_eq_true rfl) (Nat.le_of_ble_eq_true rfl) hlocks (x_end (G, L, o, as, foS, chS, faP, feS, wrP) ⟨⟨hTy, hL, kq0, kpl, h16⟩, hFR, rfl, rfl, fun q => p28 (q.2.2 p9)⟩ hP hK hD hS) hS.2.2 (Nat.le_of_ble_eq_true rfl) (Nat.le_of_ble_eq_true rfl)
    · have p9 : ¬ (b = (0 : Int32)) := c9
      refine lv_aload_n hx hb d_Trust_signed_12 rfl (lv_at hl 0 rfl) ?_
      refine lv_iload_n hx hb d_Trust_signed_13 rfl (lv_at hl 2 rfl) ?_
      obtain ⟨i_10, q_10, m_10, hK_10, he_10, hg_10⟩ := ty_17 hTy kli
      refine vp_callSi (pu_callV (As := [.int i]) (rest := []) ⟨hx, hb, hml, hown, hts⟩ tbin (c_Trust_isListed l dC dI sb q0 fe ho ce li sh rs se ch fo foS chS faP feS wrP q_10 (ω li).length m_10 i) q5_162 q5_164 qp_19 q1_1 q5_165 (n := 1) (by decide +kernel) rfl ⟨rfl, rfl⟩ ⟨Nat.le_of_ble_eq_true rfl, Nat.le_of_ble_eq_true rfl⟩ ⟨Nat.le_of_ble_eq_true rfl, Nat.le_of_ble_eq_true rfl⟩ hN (hT0.keep hS hAs) hK hP [i_1, i_10] (by simp only [List.filterMap_cons, List.filterMap_nil, hg_1, hg_10]) [] rfl i_1 10 hg_1 rfl rfl hl.1 rfl (Nat.le_of_ble_eq_true rfl) d_Trust_signed_14) (fun r14 hr14 => ?_)
      obtain rfl := Eq.symm (bz_zP hr14)
      refine lv_if_ne (tgt := 41) hx hb d_Trust_signed_17 (by decide) (fun c17 => ?_) (fun c17 => ?_)
      · have p17 : ¬ i < 0 ∧ i < nI (ω li).length := (zP_1 c17)
        refine lv_iload_n hx hb d_Trust_signed_41 rfl (lv_at hl 1 rfl) ?_
        refine lv_if_eq (tgt := 59) hx hb d_Trust_signed_42 (by decide) (fun c42 => ?_) (fun c42 => ?_)
        · exact absurd c42 p9
        obtain ⟨k, hk, ek⟩ := nI_at9 p17.1 p17.2 (by omega)
        subst ek
        refine lv_aload_n hx hb d_Trust_signed_45 rfl (lv_at hl 0 rfl) ?_
        refine va_get (v := .ref li) hx hb htb i_Trust hown hK hP i_1 hg_1 rfl 3 (by decide) (htb _ q1_159) (fun _ h9 => h9) rfl d_Trust_signed_46 ?_
        refine lv_iload_n hx hb d_Trust_signed_49 rfl (lv_at hl 2 rfl) ?_
        obtain ⟨cap_11, kq_11⟩ := he_10 (by omega)
        obtain ⟨i_12, f_12, hK_12, hc_12, he_12, hg_12⟩ := ty_16 hTy kq_11
        obtain ⟨hf_11, p_11, ks_11⟩ := he_12 k (by omega)
        obtain ⟨s_11, es_11⟩ : ∃ z, z = (ω li).getD k 0 := ⟨_, rfl⟩
        rw [← es_11] at hf_11 ks_11
        refine va_csr (pu_callV (As := [.int (nI k)]) (rest := []) ⟨hx, hb, hml, hown, hts⟩ tbin (c_AL_get l dC dI sb li q_10 ((ω li).length) cap_11 k s_11 m_10 γ.2.2.2 f_12 (by omega) hK_12 (by omega) hf_11) q5_39 q4_210 q4_211 q1_4 q4_212 (n := 1) (by decide +kernel) rfl ⟨rfl, rfl⟩ ⟨Nat.le_of_ble_eq_true rfl, Nat.le_of_ble_eq_true rfl⟩ ⟨Nat.le_of_ble_eq_true rfl, Nat.le_of_ble_eq_true rfl⟩ hN (hT0.keep hS hAs) hK hP [i_10, i_12] (by simp only [List.filterMap_cons, List.filterMap_nil, hg_10, hg_12]) [3] rfl i_10 11 hg_10 rfl rfl hl.1 rfl (Nat.le_of_ble_eq_true rfl) d_Trust_signed_50) (fun r50 hr50 => ?_)
        obtain rfl := Eq.symm hr50
        obtain ⟨i_13, ha_13, si_13, en_13, bo_13, sg_13, is_13, kha_13, ksi_13, ken_13, ⟨z5_13, kbo_13⟩, ⟨z6_13, ksg_13⟩, ⟨z7_13, kis_13⟩, hw_13, hg_13⟩ := ty_9 hTy ks_11
        refine va_castY (C := "TrustChain$Paper") hx hb hown (htb _ q5_167) (hN.1 _ qn9_225) (va_recv (ci := 2) hK hP rfl hg_13) d_Trust_signed_53 ?_
        refine lv_goto (tgt := 70) hx hb d_Trust_signed_56 (by decide) ?_
        refine lv_astore (lv' := [(4, .ref s_11), (0, .ref q0), (1, .int b), (2, .int (nI k)), (3, .int j)]) hx hb d_Trust_signed_70 hl (by decide) rfl (fun ls hl => ?_)
        obtain ⟨k2, hk2, ek2⟩ := nI_at9 p5.1 p5.2 (by omega)
        subst ek2
        refine lv_aload_n hx hb d_Trust_signed_72 rfl (lv_at hl 1 rfl) ?_
        refine va_get (v := .ref rs) hx hb htb i_Trust hown hK hP i_1 hg_1 rfl 5 (by decide) (htb _ q1_161) (fun _ h9 => h9) rfl d_Trust_signed_73 ?_
        refine lv_aload hx hb d_Trust_signed_76 (lv_at hl 0 rfl) ?_
        refine lv_aload_n hx hb d_Trust_signed_78 rfl (lv_at hl 1 rfl) ?_
        refine va_get (v := .ref ce) hx hb htb i_Trust hown hK hP i_1 hg_1 rfl 2 (by decide) (htb _ q1_158) (fun _ h9 => h9) rfl d_Trust_signed_79 ?_
        refine lv_iload_n hx hb d_Trust_signed_82 rfl (lv_at hl 4 rfl) ?_
        obtain ⟨cap_14, kq_14⟩ := he_2 (by omega)
        obtain ⟨i_15, f_15, hK_15, hc_15, he_15, hg_15⟩ := ty_14 hTy kq_14
        obtain ⟨hf_14, p_14, q_14, ks_14⟩ := he_15 k2 (by omega)
        obtain ⟨s_14, es_14⟩ : ∃ z, z = (ω ce).getD k2 0 := ⟨_, rfl⟩
        rw [← es_14] at hf_14 ks_14
        refine va_csr (pu_callV (As := [.int (nI k2)]) (rest := [.ref s_11, .ref rs]) ⟨hx, hb, hml, hown, hts⟩ tbin (c_AL_get l dC dI sb ce q_2 ((ω ce).length) cap_14 k2 s_14 m_2 γ.2.2.2 f_15 (by omega) hK_15 (by omega) hf_14) q5_39 q4_210 q4_211 q1_4 q4_212 (n := 1) (by decide +kernel) rfl ⟨rfl, rfl⟩ ⟨Nat.le_of_ble_eq_true rfl, Nat.le_of_ble_eq_true rfl⟩ ⟨Nat.le_of_ble_eq_true rfl, Nat.le_of_ble_eq_true rfl⟩ hN (hT0.keep hS hAs) hK hP [i_2, i_15] (by simp only [List.filterMap_cons, List.filterMap_nil, hg_2, hg_15]) [3] rfl i_2 11 hg_2 rfl rfl hl.1 rfl (Nat.le_of_ble_eq_true rfl) d_Trust_signed_83) (fun r83 hr83 => ?_)
        obtain rfl := Eq.symm hr83
        obtain ⟨i_16, nm_16, pe_16, ec_16, se_16, su_16, mo_16, ok_16, ik_16, ha_16, si_16, en_16, bo_16, sg_16, is_16, iu_16, K_16, B_16, hg_16⟩ := ty_8 hTy ks_14
        obtain ⟨⟨A_16, knm_16⟩, ⟨B1_16, B2_16, kpe_16⟩, ⟨C1_16, C2_16, kec_16⟩, kse_16, ⟨z1_16, ksu_16⟩, ⟨z2_16, kmo_16⟩, ⟨z3_16, kok_16⟩, ⟨z4_16, kik_16⟩, kha_16, ksi_16, ken_16, ⟨z5_16, kbo_16⟩, ⟨z6_16, ksg_16⟩, ⟨z7_16, kis_16⟩⟩ := K_16
        refine va_castY (C := "TrustChain$Certificate") hx hb hown (htb _ q5_40) (hN.1 _ qn9_223) (va_recv (ci := 3) hK hP rfl hg_16) d_Trust_signed_86 ?_
        have hFc := va_free (wc := G) hD hS hA (List.range G.length) (rg_is _)
        obtain ⟨i_18, mo_18, sq_18, ba_18, po_18, un_18, su_18, iv_18, kmo_18, ksq_18, kba_18, kpo_18, kun_18, ksu_18, hg_18⟩ := ty_10 hTy krs
        refine va_calli (mu_runV (As := [.ref s_11, .ref s_14]) (rest := []) ⟨hx, hb, hml, hown, hts⟩ tbin (m_isSignedP l dC dI sb γ κ Ad ν ω L G rs s_11 s_14 _ _ _ s.heap.size hTy krs ks_11 ks_14 hL h1 hX) q5_176 q5_177 q5_178 q1_6 q5_179 (n := 2) (by decide +kernel) rfl ⟨rfl, rfl⟩ ⟨Nat.le_of_ble_eq_true rfl, Nat.le_of_ble_eq_true rfl⟩ ⟨Nat.le_of_ble_eq_true rfl, Nat.le_of_ble_eq_true rfl⟩ hN (hT0.keep hS hAs) hAs (Nat.le_trans hB0 hS.1) hK hP hD (List.range G.length) (rg_nd _) (rg_is _) [0, 1, 2, 3] rfl i_18 7 hg_18 rfl rfl hl.1 rfl (Nat.le_of_ble_eq_true rfl) d_Trust_signed_89) hS (fun q _ h => hFc q h) hFc (fun r89 G_17 tS H89 locs ht hvm hw89 hB hz1 hk1 hS => ?_)
        obtain ⟨⟨L89, hL89, hTy⟩, hF9, hr89⟩ := hw89
        have kpl := kpl.fr hF9
        have kq0 := kq0.fr hF9
        have hFR := hFR.tr hF9.q
        obtain ⟨hP1, hK1, hD1⟩ := hB
        rw [ht] at hP1
        have hP : va_P (dC, dI) classes G_17 H89 := hP1
        have hD : va_D A G_17 := hD1.weaken (fun _ _ _ h => hFc _ h)
        exact vx_ret (x_wide 1 6 (Nat.le_of_ble_eq_true rfl) (Nat.le_of_ble_eq_true rfl) (W.zret (v := r89) hx hb hr (bz_n hr89) (fun t ht hW => ⟨⟨_, (G_17, L89, o, as, foS, chS, faP, feS, wrP), rfl, ⟨⟨hTy, hL89, kq0, kpl, h16⟩, hFR, rfl, k, k2, rfl, rfl, hk2, Or.inr ⟨p9, hk, by rw [← es_11, ← es_14]; exact hr89⟩⟩, ⟨by rw [ht]; exact hP, va_K.moved hW.alike hK, hD⟩⟩, hS.F ht⟩) hS.2.2 d_Trust_signed_92))
      · have p17 : ¬ (¬ i < 0 ∧ i < nI (ω li).length) := (zP_0.mp c17)
        refine lv_goto (tgt := 31) hx hb d_Trust_signed_20 (by decide) ?_
        obtain ⟨sa, hsa⟩ := hTh.2.2.1 (193, "no such certificate or list") (by decide)
        exact vx_throwS (own := "TrustChain") (cls := "java/lang/IndexOutOfBoundsException") (text := "no such certificate or list") (names := xUp) (ik := 74) (is := 193) (ic := 78) (sa := sa) (A := A) hx hb hl0 hown (by decide) (by decide) (htb _ q1_211) (htb _ q1_14) hsa (x_hat x_ot78 x_gd78 x_nw78 htb hN) x_ot78 (hTh.1.narrow hAs) (hTh.2.1.narrow hAs) hS (hl.1.trans hml.symm) d_Trust_signed_31 d_Trust_signed_34 d_Trust_signed_35 d_Trust_signed_37 d_Trust_signed_40 (fun x h => (hnoh x h).elim) (Nat.le_of_ble_eq_true rfl) (Nat.le_of_ble_eq_true rfl) (Nat.le_of_ble_eq_true rfl) (Nat.le_of_ble_eq_true rfl) hlocks (x_end (G, L, o, as, foS, chS, faP, feS, wrP) ⟨⟨hTy, hL, kq0, kpl, h16⟩, hFR, rfl, rfl, fun q => p17 (q.2.1 p9)⟩ hP hK hD hS) hS.2.2 (Nat.le_of_ble_eq_true rfl) (Nat.le_of_ble_eq_true rfl)
theorem d_Trust_covers_18 : decode b_Trust_covers 18 = .ok (.aload_n 0, 1) := by decide +kernel
theorem d_Trust_covers_19 : decode b_Trust_covers 19 = .ok (.iconst 0, 1) := by decide +kernel
theorem d_Trust_covers_20 : decode b_Trust_covers 20 = .ok (.lload_n 2, 1) := by decide +kernel
theorem d_Trust_covers_21 : decode b_Trust_covers 21 = .ok (.invokevirtual 229, 3) := by decide +kernel
theorem d_Trust_covers_24 : decode b_Trust_covers 24 = .ok (.aload_n 0, 1) := by decide +kernel
theorem d_Trust_covers_25 : decode b_Trust_covers 25 = .ok (.bipush 8, 2) := by decide +kernel
theorem d_Trust_covers_27 : decode b_Trust_covers 27 = .ok (.lload 4, 2) := by decide +kernel
theorem d_Trust_covers_29 : decode b_Trust_covers 29 = .ok (.invokevirtual 229, 3) := by decide +kernel
theorem d_Trust_covers_32 : decode b_Trust_covers 32 = .ok (.aload_n 0, 1) := by decide +kernel
theorem d_Trust_covers_33 : decode b_Trust_covers 33 = .ok (.bipush 16, 2) := by decide +kernel
theorem d_Trust_covers_35 : decode b_Trust_covers 35 = .ok (.lload 6, 2) := by decide +kernel
theorem d_Trust_covers_37 : decode b_Trust_covers 37 = .ok (.invokevirtual 229, 3) := by decide +kernel
theorem d_Trust_covers_40 : decode b_Trust_covers 40 = .ok (.aload_n 0, 1) := by decide +kernel
theorem d_Trust_covers_41 : decode b_Trust_covers 41 = .ok (.bipush 24, 2) := by decide +kernel
theorem d_Trust_covers_43 : decode b_Trust_covers 43 = .ok (.lload 8, 2) := by decide +kernel
theorem d_Trust_covers_45 : decode b_Trust_covers 45 = .ok (.invokevirtual 229, 3) := by decide +kernel
theorem d_Trust_covers_48 : decode b_Trust_covers 48 = .ok (.iconst 0, 1) := by decide +kernel
theorem d_Trust_covers_49 : decode b_Trust_covers 49 = .ok (.istore 10, 2) := by decide +kernel
theorem d_Trust_covers_51 : decode b_Trust_covers 51 = .ok (.iload 10, 2) := by decide +kernel
theorem d_Trust_covers_53 : decode b_Trust_covers 53 = .ok (.bipush 32, 2) := by decide +kernel
theorem d_Trust_covers_55 : decode b_Trust_covers 55 = .ok (.if_icmp .ge 19, 3) := by decide +kernel
theorem d_Trust_covers_58 : decode b_Trust_covers 58 = .ok (.aload_n 0, 1) := by decide +kernel
theorem d_Trust_covers_59 : decode b_Trust_covers 59 = .ok (.getfield 13, 3) := by decide +kernel
theorem d_Trust_covers_62 : decode b_Trust_covers 62 = .ok (.iload 10, 2) := by decide +kernel
theorem d_Trust_covers_64 : decode b_Trust_covers 64 = .ok (.baload, 1) := by decide +kernel
theorem d_Trust_covers_65 : decode b_Trust_covers 65 = .ok (.ifCond .eq 9, 3) := by decide +kernel
theorem d_Trust_covers_68 : decode b_Trust_covers 68 = .ok (.iinc 10 1, 3) := by decide +kernel
theorem d_Trust_covers_71 : decode b_Trust_covers 71 = .ok (.goto (-20), 3) := by decide +kernel
theorem d_Trust_covers_74 : decode b_Trust_covers 74 = .ok (.iload 10, 2) := by decide +kernel
theorem d_Trust_covers_76 : decode b_Trust_covers 76 = .ok (.bipush 32, 2) := by decide +kernel
theorem d_Trust_covers_78 : decode b_Trust_covers 78 = .ok (.if_icmp .ge 41, 3) := by decide +kernel
theorem d_Trust_covers_81 : decode b_Trust_covers 81 = .ok (.aload_n 0, 1) := by decide +kernel
theorem d_Trust_covers_82 : decode b_Trust_covers 82 = .ok (.getfield 19, 3) := by decide +kernel
theorem d_Trust_covers_85 : decode b_Trust_covers 85 = .ok (.iload_n 1, 1) := by decide +kernel
theorem d_Trust_covers_86 : decode b_Trust_covers 86 = .ok (.invokevirtual 165, 3) := by decide +kernel
theorem d_Trust_covers_89 : decode b_Trust_covers 89 = .ok (.checkcast 120, 3) := by decide +kernel
theorem d_Trust_covers_92 : decode b_Trust_covers 92 = .ok (.getfield 233, 3) := by decide +kernel
theorem d_Trust_covers_95 : decode b_Trust_covers 95 = .ok (.new 237, 3) := by decide +kernel
theorem d_Trust_covers_98 : decode b_Trust_covers 98 = .ok (.dup, 1) := by decide +kernel
theorem d_Trust_covers_99 : decode b_Trust_covers 99 = .ok (.aload_n 0, 1) := by decide +kernel
theorem d_Trust_covers_100 : decode b_Trust_covers 100 = .ok (.getfield 13, 3) := by decide +kernel
theorem d_Trust_covers_103 : decode b_Trust_covers 103 = .ok (.iconst 0, 1) := by decide +kernel
theorem d_Trust_covers_104 : decode b_Trust_covers 104 = .ok (.iload 10, 2) := by decide +kernel
theorem d_Trust_covers_106 : decode b_Trust_covers 106 = .ok (.invokespecial 239, 3) := by decide +kernel
theorem d_Trust_covers_109 : decode b_Trust_covers 109 = .ok (.invokevirtual 242, 3) := by decide +kernel
theorem d_Trust_covers_112 : decode b_Trust_covers 112 = .ok (.ifCond .eq 7, 3) := by decide +kernel
theorem d_Trust_covers_115 : decode b_Trust_covers 115 = .ok (.iconst 1, 1) := by decide +kernel
theorem d_Trust_covers_116 : decode b_Trust_covers 116 = .ok (.goto 4, 3) := by decide +kernel
theorem d_Trust_covers_119 : decode b_Trust_covers 119 = .ok (.iconst 0, 1) := by decide +kernel
theorem d_Trust_covers_120 : decode b_Trust_covers 120 = .ok (.ireturn, 1) := by decide +kernel
theorem nw_ne {A : Nat → Prop} {G : va_W} {a : Nat} {c : va_E} {z : Nat × va_E} (hD : va_D A ([(a, c)] ++ G)) (hz : z ∈ G) : z.1 ≠ a := fun e => by
  obtain ⟨j, hj⟩ := List.getElem?_of_mem hz
  have := hD.1 0 (j + 1) _ _ (show _ = some _ from rfl) (show _ = some z from hj) e.symm
  omega
set_option maxHeartbeats 4000000 in
set_option maxRecDepth 100000 in
theorem z_Trust_covers (l : Launch) (hl0 : l.stackTraces = false) (dC : Nat → ClassId) (dI : Nat → Nat → Nat) (sb : sB) (γ : cG) (κ : kE) (Ad : List Nat) (ν : Nat → cN) (ω : Nat → List Nat) (L : Nat) (G : va_W) (fe ho ce li sh rs se ch fo q0 pl : Nat) (o : alD) (as : List Nat) (foS chS faP feS wrP : Int32) (i : Int32) (x0 x1 x2 x3 : Int64) (sz : Nat) (hC : CKx sb κ Ad ω ho ce li sh rs se ch fo q0 pl) (hW0 : CWx γ sb κ Ad ν ω fe ho ce li sh rs se ch fo q0 pl (G, L, o, as, foS, chS, faP, feS, wrP))   : vx_Met l y_Trust_covers w_Trust_covers ({ frames := 6, cells := 1, slots := 6, locals := 104 }) (mx_P [.ref q0, .int i, .long x0, .long x1, .long x2, .long x3] (dC, dI) sb G [(γ.1, .byte), (γ.2.1, .int), (γ.2.2.1, .long), (γ.2.2.2, .object "java/lang/Object")] sz) (va_Qi (fun r (u' : cU) => CWx γ sb κ Ad ν ω fe ho ce li sh rs se ch fo q0 pl u' ∧ FRq γ Ad q0 pl G u'.1 ∧ (u'.2.2.2.2 = (foS, chS, faP, feS, wrP) ∧ bz r (r = 1) ∧ ¬ i < 0 ∧ i < nI (ω ce).length)) (mu_B (dC, dI) [(γ.1, .byte), (γ.2.1, .int), (γ.2.2.1, .long), (γ.2.2.2, .object "java/lang/Object")] (va_A G sz) (fun u' : cU => u'.1)) (va_A G sz)) (mx_X (fun (E : String) (u' : cU) => CWx γ sb κ Ad ν ω fe ho ce li sh rs se ch fo q0 pl u' ∧ FRq γ Ad q0 pl G u'.1 ∧ (u'.2.2.2.2 = (foS, chS, faP, feS, wrP) ∧ E = "java/lang/IndexOutOfBoundsException" ∧ ¬ (¬ i < 0 ∧ i < nI (ω ce).length))) (dC, dI) [(γ.1, .byte), (γ.2.1, .int), (γ.2.2.1, .long), (γ.2.2.2, .object "java/lang/Object")] (va_A G sz) (fun u' : cU => u'.1)) 1 6 (va_A G sz) := by
  refine vx_ofW (cc := b_Trust_covers) (maxL := 11) (ret := (some FieldType.boolean)) (by decide) rfl ?_
  intro p e s m args below meth c s₁ B hml hnoh hv
  obtain ⟨rfl, hsz, hB0, hP, hK, hD0, hN, hT0, hTh⟩ := hv
  have hx := B.exec
  have hb := B.bytes
  have hr := B.returns
  have hts := atoms_spec (ws := w_Trust_covers) B.pre
  have tbin : ∀ w ∈ tb, w ∈ w_Trust_covers := fun w h => List.mem_cons_of_mem _ h
  have htb : ∀ w ∈ tb, w.before _ s = true := fun w h => hts w (tbin w h)
  have hown : s.vm.findClass "TrustChain" = some m.cls := findClass_of_methodNamed B.named
  have hlocks := B.notSynchronized
  subst hsz
  have hD := hD0.self (sz := s.heap.size)
  generalize hAe : va_A G s.heap.size = A at hD ⊢
  have hA : ∀ q : Nat, s.heap.size ≤ q → A q := fun q h => by rw [← hAe]; exact Or.inr h
  have hAs : ∀ q : Nat, A q → sb.1 ≤ q := fun q h => by
    rw [← hAe] at h
    rcases h with ⟨k, e, h⟩ | h
    · exact hD0.2 k _ h
    · exact Nat.le_trans hB0 h
  have hS : va_S A s.heap s.heap [] := va_S.rf
  have hFR := FRq.rf γ Ad q0 pl G
  have hcs : 1 ≤ (headSpec w_Trust_covers ({ frames := 6, cells := 1, slots := 6, locals := 104 })).room.cells ∧ 6 ≤ (headSpec w_Trust_covers ({ frames := 6, cells := 1, slots := 6, locals := 104 })).room.slots := ⟨Nat.le_refl _, Nat.le_refl _⟩
  have hP : va_P (dC, dI) classes G s.heap := hP
  have hC0 := hC
  obtain ⟨⟨kho, kce, kli, ksh, krs, kse, kch, kfo⟩, h1, hce9, hli9, hqp, hN14, hN16⟩ := hC
  obtain ⟨hTy, hL, kq0, kpl, h16⟩ := hW0
  dsimp only at hTy hL kq0 kpl h16
  have hl := lv_entry ([.ref q0, .int i, .long x0, .long x1, .long x2, .long x3]) (n := 11) (Nat.le_of_ble_eq_true rfl)
  rw [lg_entry_eq]
  generalize (lg_sl ([.ref q0, .int i, .long x0, .long x1, .long x2, .long x3]) ++ List.replicate (11 - (lg_sl ([.ref q0, .int i, .long x0, .long x1, .long x2, .long x3])).length) Slot.unset).toArray = ls at hl ⊢
  have hl : lv_has ls 11 [(0, .ref q0), (1, .int i), (2, .long x0), (4, .long x1), (6, .long x2), (8, .long x3)] := hl
  refine lv_aload_n hx hb d_Trust_covers_0 rfl (lv_at hl 0 rfl) ?_
  refine lv_iload_n hx hb d_Trust_covers_1 rfl (lv_at hl 1 rfl) ?_
  obtain ⟨i_1, hg_1⟩ := List.getElem?_of_mem kq0.2
  obtain ⟨i_2, q_2, m_2, hK_2, he_2, hg_2⟩ := ty_15 hTy kce
  refine vp_callSi (pu_callV (As := [.int i]) (rest := []) ⟨hx, hb, hml, hown, hts⟩ tbin (c_Trust_isStored l dC dI sb q0 fe ho ce li sh rs se ch fo foS chS faP feS wrP q_2 (ω ce).length m_2 i) q5_137 q5_139 qp_18 q1_1 q5_140 (n := 1) (by decide +kernel) rfl ⟨rfl, rfl⟩ ⟨Nat.le_of_ble_eq_true rfl, Nat.le_of_ble_eq_true rfl⟩ ⟨Nat.le_of_ble_eq_true rfl, Nat.le_of_ble_eq_true rfl⟩ hN (hT0.keep hS hAs) hK hP [i_1, i_2] (by simp only [List.filterMap_cons, List.filterMap_nil, hg_1, hg_2]) [] rfl i_1 10 hg_1 rfl rfl hl.1 rfl (Nat.le_of_ble_eq_true rfl) d_Trust_covers_2) (fun r2 hr2 => ?_)
  obtain rfl := Eq.symm (bz_zP hr2)
  refine lv_if_ne (tgt := 18) hx hb d_Trust_covers_5 (by decide) (fun c5 => ?_) (fun c5 => ?_)
  · have p5 : ¬ i < 0 ∧ i < nI (ω ce).length := (zP_1 c5)
    obtain ⟨k, hk, ek⟩ := nI_at9 p5.1 p5.2 (by omega)
    subst ek
    refine lv_aload_n hx hb d_Trust_covers_18 rfl (lv_at hl 0 rfl) ?_
    refine lv_iconst (v := 0) hx hb d_Trust_covers_19 (by decide) ?_
    refine lv_lload_n hx hb d_Trust_covers_20 rfl (lv_at hl 2 rfl) ?_
    have hFc := va_free (wc := G) hD hS hA (List.range G.length) (rg_is _)
    refine va_callv (mu_runV (As := [.int 0, .long x0]) (rest := []) ⟨hx, hb, hml, hown, hts⟩ tbin (m_Trust_takeHost l dC dI sb γ κ Ad ν ω L G q0 _ _ _ _ _ _ _ _ _ _ _ _ _ _ 0 _ s.heap.size hTy kq0 kho (by omega)) q6_151 q6_153 qp_35 q1_1 q6_154 (n := 2) (by decide +kernel) rfl ⟨rfl, rfl⟩ ⟨Nat.le_of_ble_eq_true rfl, Nat.le_of_ble_eq_true rfl⟩ ⟨Nat.le_of_ble_eq_true rfl, Nat.le_of_ble_eq_true rfl⟩ hN (hT0.keep hS hAs) hAs (Nat.le_trans hB0 hS.1) hK hP hD (List.range G.length) (rg_nd _) (rg_is _) [0, 1, 2, 3] rfl i_1 10 hg_1 rfl rfl hl.1 rfl (Nat.le_of_ble_eq_true rfl) d_Trust_covers_21) hS (fun q _ h => hFc q h) hFc (fun G_3 tS H21 locs ht hvm hw21 hB hz1 hk1 hS => ?_)
    obtain ⟨hTy, hF9, hr21⟩ := hw21
    have kpl := kpl.fr hF9
    have kq0 := kq0.fr hF9
    have hFR := hFR.tr hF9.q
    obtain ⟨hP1, hK1, hD1⟩ := hB
    rw [ht] at hP1
    have hP : va_P (dC, dI) classes G_3 H21 := hP1
    have hD : va_D A G_3 := hD1.weaken (fun _ _ _ h => hFc _ h)
    refine lv_aload_n hx hb d_Trust_covers_24 rfl (lv_at hl 0 rfl) ?_
    refine lv_bipush (v := 8) hx hb d_Trust_covers_25 (by decide) ?_
    refine lv_lload hx hb d_Trust_covers_27 (lv_at hl 3 rfl) ?_
    have hFc := va_free (wc := G_3) hD hS hA (List.range G_3.length) (rg_is _)
    obtain ⟨i_5, hg_5⟩ := List.getElem?_of_mem kq0.2
    refine va_callv (mu_runV (As := [.int 8, .long x1]) (rest := []) ⟨hx, hb, hml, hown, hts⟩ tbin (m_Trust_takeHost l dC dI sb γ κ Ad ν ω L G_3 q0 _ _ _ _ _ _ _ _ _ _ _ _ _ _ 8 _ H21.size hTy kq0 kho (by omega)) q6_151 q6_153 qp_35 q1_1 q6_154 (n := 2) (by decide +kernel) rfl ⟨rfl, rfl⟩ ⟨Nat.le_of_ble_eq_true rfl, Nat.le_of_ble_eq_true rfl⟩ ⟨Nat.le_of_ble_eq_true rfl, Nat.le_of_ble_eq_true rfl⟩ hN (hT0.keep hS hAs) hAs (Nat.le_trans hB0 hS.1) hK hP hD (List.range G_3.length) (rg_nd _) (rg_is _) [0, 1, 2, 3] rfl i_5 10 hg_5 rfl rfl hl.1 rfl (Nat.le_of_ble_eq_true rfl) d_Trust_covers_29) hS (fun q _ h => hFc q h) hFc (fun G_4 tS H29 locs ht hvm hw29 hB hz1 hk1 hS => ?_)
    obtain ⟨hTy, hF9, hr29⟩ := hw29
    have kpl := kpl.fr hF9
    have kq0 := kq0.fr hF9
    have hFR := hFR.tr hF9.q
    obtain ⟨hP1, hK1, hD1⟩ := hB
    rw [ht] at hP1
    have hP : va_P (dC, dI) classes G_4 H29 := hP1
    have hD : va_D A G_4 := hD1.weaken (fun _ _ _ h => hFc _ h)
    refine lv_aload_n hx hb d_Trust_covers_32 rfl (lv_at hl 0 rfl) ?_
    refine lv_bipush (v := 16) hx hb d_Trust_covers_33 (by decide) ?_
    refine lv_lload hx hb d_Trust_covers_35 (lv_at hl 4 rfl) ?_
    have hFc := va_free (wc := G_4) hD hS hA (List.range G_4.length) (rg_is _)
    obtain ⟨i_7, hg_7⟩ := List.getElem?_of_mem kq0.2
    refine va_callv (mu_runV (As := [.int 16, .long x2]) (rest := []) ⟨hx, hb, hml, hown, hts⟩ tbin (m_Trust_takeHost l dC dI sb γ κ Ad ν ω L G_4 q0 _ _ _ _ _ _ _ _ _ _ _ _ _ _ 16 _ H29.size hTy kq0 kho (by omega)) q6_151 q6_153 qp_35 q1_1 q6_154 (n := 2) (by decide +kernel) rfl ⟨rfl, rfl⟩ ⟨Nat.le_of_ble_eq_true rfl, Nat.le_of_ble_eq_true rfl⟩ ⟨Nat.le_of_ble_eq_true rfl, Nat.le_of_ble_eq_true rfl⟩ hN (hT0.keep hS hAs) hAs (Nat.le_trans hB0 hS.1) hK hP hD (List.range G_4.length) (rg_nd _) (rg_is _) [0, 1, 2, 3] rfl i_7 10 hg_7 rfl rfl hl.1 rfl (Nat.le_of_ble_eq_true rfl) d_Trust_covers_37) hS (fun q _ h => hFc q h) hFc (fun G_6 tS H37 locs ht hvm hw37 hB hz1 hk1 hS => ?_)
    obtain ⟨hTy, hF9, hr37⟩ := hw37
    have kpl := kpl.fr hF9
    have kq0 := kq0.fr hF9
    have hFR := hFR.tr hF9.q
    obtain ⟨hP1, hK1, hD1⟩ := hB
    rw [ht] at hP1
    have hP : va_P (dC, dI) classes G_6 H37 := hP1
    have hD : va_D A G_6 := hD1.weaken (fun _ _ _ h => hFc _ h)
    refine lv_aload_n hx hb d_Trust_covers_40 rfl (lv_at hl 0 rfl) ?_
    refine lv_bipush (v := 24) hx hb d_Trust_covers_41 (by decide) ?_
    refine lv_lload hx hb d_Trust_covers_43 (lv_at hl 5 rfl) ?_
    have hFc := va_free (wc := G_6) hD hS hA (List.range G_6.length) (rg_is _)
    obtain ⟨i_9, hg_9⟩ := List.getElem?_of_mem kq0.2
    refine va_callv (mu_runV (As := [.int 24, .long x3]) (rest := []) ⟨hx, hb, hml, hown, hts⟩ tbin (m_Trust_takeHost l dC dI sb γ κ Ad ν ω L G_6 q0 _ _ _ _ _ _ _ _ _ _ _ _ _ _ 24 _ H37.size hTy kq0 kho (by omega)) q6_151 q6_153 qp_35 q1_1 q6_154 (n := 2) (by decide +kernel) rfl ⟨rfl, rfl⟩ ⟨Nat.le_of_ble_eq_true rfl, Nat.le_of_ble_eq_true rfl⟩ ⟨Nat.le_of_ble_eq_true rfl, Nat.le_of_ble_eq_true rfl⟩ hN (hT0.keep hS hAs) hAs (Nat.le_trans hB0 hS.1) hK hP hD (List.range G_6.length) (rg_nd _) (rg_is _) [0, 1, 2, 3] rfl i_9 10 hg_9 rfl rfl hl.1 rfl (Nat.le_of_ble_eq_true rfl) d_Trust_covers_45) hS (fun q _ h => hFc q h) hFc (fun G_8 tS H45 locs ht hvm hw45 hB hz1 hk1 hS => ?_)
    obtain ⟨hTy, hF9, hr45⟩ := hw45
    have kpl := kpl.fr hF9
    have kq0 := kq0.fr hF9
    have hFR := hFR.tr hF9.q
    obtain ⟨hP1, hK1, hD1⟩ := hB
    rw [ht] at hP1
    have hP : va_P (dC, dI) classes G_8 H45 := hP1
    have hD : va_D A G_8 := hD1.weaken (fun _ _ _ h => hFc _ h)
    refine lv_iconst (v := 0) hx hb d_Trust_covers_48 (by decide) ?_
    refine lv_istore (lv' := [(10, .int 0), (0, .ref q0), (1, .int (nI k)), (2, .long x0), (4, .long x1), (6, .long x2), (8, .long x3)]) hx hb d_Trust_covers_49 hl (by decide) rfl (fun ls hl => ?_)
    refine w_loop (α := Nat) (fun z9 => z9 ≤ 32) (fun z9 => 32 - z9) (fun z9 => [(10, .int (nI z9)), (0, .ref q0), (1, .int (nI k)), (2, .long x0), (4, .long x1), (6, .long x2), (8, .long x3)]) (fun _ => []) 11 51 (fun z9 ls hJ hl ih => ?_) 0 ls (by omega) (lv_sub hl [0, 1, 2, 3, 4, 5, 6] rfl)
    refine lv_iload hx hb d_Trust_covers_51 (lv_at hl 0 rfl) ?_
    refine lv_bipush (v := 32) hx hb d_Trust_covers_53 (by decide) ?_
    refine lv_icmp_ge (tgt := 74) hx hb d_Trust_covers_55 (by decide) (fun c55 => ?_) (fun c55 => ?_)
    · have p55 : 32 ≤ z9 := ((nI_leI (a := 32) (b := z9) (by omega) (by omega)).mp c55)
      refine lv_iload hx hb d_Trust_covers_74 (lv_at hl 0 rfl) ?_
      refine lv_bipush (v := 32) hx hb d_Trust_covers_76 (by decide) ?_
      refine lv_icmp_ge (tgt := 119) hx hb d_Trust_covers_78 (by decide) (fun c78 => ?_) (fun c78 => ?_)
      · have p78 : 32 ≤ z9 := ((nI_leI (a := 32) (b := z9) (by omega) (by omega)).mp c78)
        refine lv_iconst (v := 0) hx hb d_Trust_covers_119 (by decide) ?_
        exact vx_ret (x_wide 1 6 (Nat.le_of_ble_eq_true rfl) (Nat.le_of_ble_eq_true rfl) (W.zret (v := 0) hx hb hr rfl (fun t ht hW => ⟨⟨_, (G_8, L, o, as, foS, chS, faP, feS, wrP), rfl, ⟨⟨hTy, hL, kq0, kpl, h16⟩, hFR, rfl, bz_f (by decide), p5⟩, ⟨by rw [ht]; exact hP, va_K.moved hW.alike hK, hD⟩⟩, hS.F ht⟩) hS.2.2 d_Trust_covers_120))
      · have p78 : ¬ (32 ≤ z9) := (fun q9 => c78 ((nI_leI (a := 32) (b := z9) (by omega) (by omega)).mpr q9))
        refine lv_aload_n hx hb d_Trust_covers_81 rfl (lv_at hl 1 rfl) ?_
        obtain ⟨i_10, hg_10⟩ := List.getElem?_of_mem kq0.2
        refine va_get (v := .ref ce) hx hb htb i_Trust hown hK hP i_10 hg_10 rfl 2 (by decide) (htb _ q1_158) (fun _ h9 => h9) rfl d_Trust_covers_82 ?_
        refine lv_iload_n hx hb d_Trust_covers_85 rfl (lv_at hl 2 rfl) ?_
        obtain ⟨i_11, q_11, m_11, hK_11, he_11, hg_11⟩ := ty_15 hTy kce
        obtain ⟨cap_12, kq_12⟩ := he_11 (by omega)
        obtain ⟨i_13, f_13, hK_13, hc_13, he_13, hg_13⟩ := ty_14 hTy kq_12
        obtain ⟨hf_12, p_12, q_12, ks_12⟩ := he_13 k (by omega)
        obtain ⟨s_12, es_12⟩ : ∃ z, z = (ω ce).getD k 0 := ⟨_, rfl⟩
        rw [← es_12] at hf_12 ks_12
        refine va_csr (pu_callV (As := [.int (nI k)]) (rest := []) ⟨hx, hb, hml, hown, hts⟩ tbin (c_AL_get l dC dI sb ce q_11 ((ω ce).length) cap_12 k s_12 m_11 γ.2.2.2 f_13 (by omega) hK_13 (by omega) hf_12) q5_39 q4_210 q4_211 q1_4 q4_212 (n := 1) (by decide +kernel) rfl ⟨rfl, rfl⟩ ⟨Nat.le_of_ble_eq_true rfl, Nat.le_of_ble_eq_true rfl⟩ ⟨Nat.le_of_ble_eq_true rfl, Nat.le_of_ble_eq_true rfl⟩ hN (hT0.keep hS hAs) hK hP [i_11, i_13] (by simp only [List.filterMap_cons, List.filterMap_nil, hg_11, hg_13]) [3] rfl i_11 11 hg_11 rfl rfl hl.1 rfl (Nat.le_of_ble_eq_true rfl) d_Trust_covers_86) (fun r86 hr86 => ?_)
        obtain rfl := Eq.symm hr86
        obtain ⟨i_14, nm_14, pe_14, ec_14, se_14, su_14, mo_14, ok_14, ik_14, ha_14, si_14, en_14, bo_14, sg_14, is_14, iu_14, K_14, B_14, hg_14⟩ := ty_8 hTy ks_12
        obtain ⟨⟨A_14, knm_14⟩, ⟨B1_14, B2_14, kpe_14⟩, ⟨C1_14, C2_14, kec_14⟩, kse_14, ⟨z1_14, ksu_14⟩, ⟨z2_14, kmo_14⟩, ⟨z3_14, kok_14⟩, ⟨z4_14, kik_14⟩, kha_14, ksi_14, ken_14, ⟨z5_14, kbo_14⟩, ⟨z6_14, ksg_14⟩, ⟨z7_14, kis_14⟩⟩ := K_14
        refine va_castY (C := "TrustChain$Certificate") hx hb hown (htb _ q5_40) (hN.1 _ qn9_223) (va_recv (ci := 3) hK hP rfl hg_14) d_Trust_covers_89 ?_
        refine va_get (v := .ref nm_14) hx hb htb i_Certificate hown hK hP i_14 hg_14 rfl 0 (by decide) (htb _ q2_142) (fun _ h9 => h9) rfl d_Trust_covers_92 ?_
        refine va_new (ci := 0) (fs := [.null, .int 0, .int 0]) hx hb htb i_Slice t_Slice t_Slice_ok hown (htb _ q6_155) (htb _ q2_92) (htb _ q1_22) hK hP hD hS hA rfl (fun j hj => by rcases (show j = 0 ∨ j = 1 ∨ j = 2 by omega) with rfl | rfl | rfl <;> rfl) (Nat.le_of_ble_eq_true rfl) (Nat.le_of_ble_eq_true rfl) d_Trust_covers_95 (fun q95 H95 hP hD hS => ?_)
        have hP : va_P (dC, dI) classes ([(q95, .inr (0, [.null, .int 0, .int 0]))] ++ G_8) H95 := hP.perm List.perm_append_comm
        have hD : va_D A ([(q95, .inr (0, [.null, .int 0, .int 0]))] ++ G_8) := hD.perm List.perm_append_comm
        have hn95 := nin_new hD hTy
        have hFN95 : ∀ z : Nat × va_E, z.1 ∉ Ad → z.1 ≠ q0 → z.1 ≠ pl → (∀ y f, z.2 ≠ .inl (γ.2.2.2, y, .inr (.inr (.inr (.inr f))))) → z ∈ G → z ∈ ([(q95, .inr (0, [.null, .int 0, .int 0]))] ++ G_8 : va_W) ∧ z.1 ≠ q95 := fun z h2 h3 h4 h5 h6 => ⟨List.mem_append_right _ (hFR z h2 h3 h4 h5 h6), nw_ne hD (hFR z h2 h3 h4 h5 h6)⟩
        have hTy := hTy.consX (c := .inr (0, [.null, .int 0, .int 0])) hn95
        have kpl := kpl.consX (a := q95) (c := .inr (0, [.null, .int 0, .int 0]))
        have kq0 := kq0.consX (a := q95) (c := .inr (0, [.null, .int 0, .int 0]))
        have kq95 : Xc Ad q95 (.inr (0, [.null, .int 0, .int 0])) ([(q95, .inr (0, [.null, .int 0, .int 0]))] ++ G_8) := ⟨hn95, List.mem_cons_self⟩
        clear hFR
        generalize ([(q95, .inr (0, [.null, .int 0, .int 0]))] ++ G_8 : va_W) = G_15 at hP hD hTy kpl kq0 hFN95 kq95
        refine lv_dup hx hb d_Trust_covers_98 rfl ?_
        refine lv_aload_n hx hb d_Trust_covers_99 rfl (lv_at hl 1 rfl) ?_
        obtain ⟨i_16, hg_16⟩ := List.getElem?_of_mem kq0.2
        refine va_get (v := .ref ho) hx hb htb i_Trust hown hK hP i_16 hg_16 rfl 1 (by decide) (htb _ q1_157) (fun _ h9 => h9) rfl d_Trust_covers_100 ?_
        refine lv_iconst (v := 0) hx hb d_Trust_covers_103 (by decide) ?_
        refine lv_iload hx hb d_Trust_covers_104 (lv_at hl 0 rfl) ?_
        obtain ⟨i_17, hg_17⟩ := List.getElem?_of_mem kq95.2
        have hFc := va_free (wc := [(q95, .inr (0, [.null, .int 0, .int 0]))]) hD hS hA [i_17] (by simp only [List.map_cons, List.map_nil, hg_17])
        refine va_callv (mu_runI (As := [.ref ho, .int 0, .int (nI z9)]) (rest := [.ref q95, .ref nm_14]) ⟨hx, hb, hml, hown, hts⟩ tbin (c_Slice_init l dC dI sb q95 ho (0) (nI z9) H95.size) q6_156 q2_94 q1_22 q2_95 rfl (n := 3) (by decide +kernel) rfl ⟨rfl, rfl⟩ ⟨Nat.le_of_ble_eq_true rfl, Nat.le_of_ble_eq_true rfl⟩ ⟨Nat.le_of_ble_eq_true rfl, Nat.le_of_ble_eq_true rfl⟩ hN (hT0.keep hS hAs) hAs (Nat.le_trans hB0 hS.1) hK hP hD [i_17] (by simp [va_nd]) (by simp only [List.map_cons, List.map_nil, hg_17]) [] rfl hl.1 rfl (Nat.le_of_ble_eq_true rfl) d_Trust_covers_106) hS (fun q _ h => hFc q h) hFc (fun u106 tS H106 locs ht hvm hw106 hB hz1 hk1 hS => ?_)
        obtain ⟨hP1, hK1, hD1⟩ := hB
        rw [ht] at hP1
        obtain ⟨hP, hD⟩ := va_joinX (c' := .inr (0, [.ref ho, .int 0, .int (nI z9)])) hP hD hg_17 hk1 hFc hP1 hD1
        have hTy := TY.setX (c' := .inr (0, [.ref ho, .int 0, .int (nI z9)])) hTy hg_17 kq95.1
        have kpl := PLx.setX (c' := .inr (0, [.ref ho, .int 0, .int (nI z9)])) kpl hg_17 (by decide)
        have kq0 := Xc.setX (c' := .inr (0, [.ref ho, .int 0, .int (nI z9)])) kq0 hg_17 (fun e => by cases e)
        have hFR : FRq γ Ad q0 pl G (G_15.set i_17 (q95, .inr (0, [.ref ho, .int 0, .int (nI z9)]))) := fun z h2 h3 h4 h5 h6 => mem_setX hg_17 (hFN95 z h2 h3 h4 h5 h6).1 (fun e => (hFN95 z h2 h3 h4 h5 h6).2 (by rw [e]))
        have hg_17 := set_here (c' := .inr (0, [.ref ho, .int 0, .int (nI z9)])) hg_17
        clear hFN95
        generalize G_15.set i_17 (q95, .inr (0, [.ref ho, .int 0, .int (nI z9)])) = G_18 at hP hD hTy kpl kq0 hFR hg_17
        have koq95 : tOK γ (kU κ q95 (2, z9, 0)) (q95 :: Ad) ν ω L q95 (.inr (0, [.ref ho, .int 0, .int (nI z9)])) := by
          unfold tOK
          rw [kU_at]
          exact ⟨ho, 32, 0, 0, tK.up (kU_in kq95.1) (fun b hb => List.mem_cons_of_mem _ hb) kho, by omega, by decide, fun e => absurd e (by decide), by rw [Nat.zero_add]; rfl⟩
        have hTy9 := TY.new hTy hD hg_17 kq95.1 koq95
        have ksq95 : tK (kU κ q95 (2, z9, 0)) (q95 :: Ad) q95 (2, z9, 0) := ⟨List.mem_cons_self, kU_at⟩
        have k9nm_14 : tK (kU κ q95 (2, z9, 0)) (q95 :: Ad) nm_14 (5, p_12, A_14) := tK.up (kU_in kq95.1) (fun b hb => List.mem_cons_of_mem _ hb) knm_14
        have hTyO := hTy
        have hTy := hTy9
        obtain ⟨i_19, l_19, d_19, kl_19, kd_19, hw_19, hg_19⟩ := ty_5 hTy k9nm_14
        refine vp_callSi (pu_callV (As := [.ref q95]) (rest := []) ⟨hx, hb, hml, hown, hts⟩ tbin (p_NameSet_holdsHost l dC dI sb γ (kU κ q95 (2, z9, 0)) (q95 :: Ad) ν ω L G_18 nm_14 q95 _ _ _ hTy k9nm_14 ksq95 ) q6_157 q6_158 q6_159 q1_23 q6_160 (n := 1) (by decide +kernel) rfl ⟨rfl, rfl⟩ ⟨Nat.le_of_ble_eq_true rfl, Nat.le_of_ble_eq_true rfl⟩ ⟨Nat.le_of_ble_eq_true rfl, Nat.le_of_ble_eq_true rfl⟩ hN (hT0.keep hS hAs) hK hP (List.range G_18.length) (rg_all G_18) [0, 1, 2, 3] rfl i_19 1 hg_19 rfl rfl hl.1 rfl (Nat.le_of_ble_eq_true rfl) d_Trust_covers_109) (fun r109 hr109 => ?_)
        have hTy := hTyO
        refine w_join (J := fun jv112 => bz jv112 (jv112 = 1)) (pc := 120) (ls := ls) (rest := []) (fun jv112 hjv112 => ?_) (fun k120 => ?_)
        · skip
          exact vx_ret (x_wide 1 6 (Nat.le_of_ble_eq_true rfl) (Nat.le_of_ble_eq_true rfl) (W.zret (v := jv112) hx hb hr (bz_n hjv112) (fun t ht hW => ⟨⟨_, (G_18, L, o, as, foS, chS, faP, feS, wrP), rfl, ⟨⟨hTy, hL, kq0, kpl, h16⟩, hFR, rfl, hjv112, p5⟩, ⟨by rw [ht]; exact hP, va_K.moved hW.alike hK, hD⟩⟩, hS.F ht⟩) hS.2.2 d_Trust_covers_120))
        · skip
          refine lv_if_eq (tgt := 119) hx hb d_Trust_covers_112 (by decide) (fun c112 => ?_) (fun c112 => ?_)
          · have p112 : r109 = (0 : Int32) := c112
            refine lv_iconst (v := 0) hx hb d_Trust_covers_119 (by decide) ?_
            exact k120 _ (bz_f (by decide))
          · have p112 : ¬ (r109 = (0 : Int32)) := c112
            refine lv_iconst (v := 1) hx hb d_Trust_covers_115 (by decide) ?_
            refine lv_goto (tgt := 120) hx hb d_Trust_covers_116 (by decide) ?_
            exact k120 _ (bz_t rfl)
    · have p55 : ¬ (32 ≤ z9) := (fun q9 => c55 ((nI_leI (a := 32) (b := z9) (by omega) (by omega)).mpr q9))
      refine lv_aload_n hx hb d_Trust_covers_58 rfl (lv_at hl 1 rfl) ?_
      obtain ⟨i_20, hg_20⟩ := List.getElem?_of_mem kq0.2
      refine va_get (v := .ref ho) hx hb htb i_Trust hown hK hP i_20 hg_20 rfl 1 (by decide) (htb _ q1_157) (fun _ h9 => h9) rfl d_Trust_covers_59 ?_
      refine lv_iload hx hb d_Trust_covers_62 (lv_at hl 0 rfl) ?_
      obtain ⟨i_21, u_21, hu_21, hn_21, hg_21⟩ := ty_1 hTy kho
      have h64 : vp_in (nI z9) 32 := vp_in_nI (by omega) (by omega)
      refine va_bald hx hb hK hP i_21 0 hg_21 rfl h64 d_Trust_covers_64 ?_
      refine lv_topi (fun e64 he64 => ?_)
      refine lv_if_eq (tgt := 74) hx hb d_Trust_covers_65 (by decide) (fun c65 => ?_) (fun c65 => ?_)
      · have p65 : e64 = (0 : Int32) := c65
        refine lv_iload hx hb d_Trust_covers_74 (lv_at hl 0 rfl) ?_
        refine lv_bipush (v := 32) hx hb d_Trust_covers_76 (by decide) ?_
        refine lv_icmp_ge (tgt := 119) hx hb d_Trust_covers_78 (by decide) (fun c78 => ?_) (fun c78 => ?_)
        · have p78 : 32 ≤ z9 := ((nI_leI (a := 32) (b := z9) (by omega) (by omega)).mp c78)
          refine lv_iconst (v := 0) hx hb d_Trust_covers_119 (by decide) ?_
          exact vx_ret (x_wide 1 6 (Nat.le_of_ble_eq_true rfl) (Nat.le_of_ble_eq_true rfl) (W.zret (v := 0) hx hb hr rfl (fun t ht hW => ⟨⟨_, (G_8, L, o, as, foS, chS, faP, feS, wrP), rfl, ⟨⟨hTy, hL, kq0, kpl, h16⟩, hFR, rfl, bz_f (by decide), p5⟩, ⟨by rw [ht]; exact hP, va_K.moved hW.alike hK, hD⟩⟩, hS.F ht⟩) hS.2.2 d_Trust_covers_120))
        · have p78 : ¬ (32 ≤ z9) := (fun q9 => c78 ((nI_leI (a := 32) (b := z9) (by omega) (by omega)).mpr q9))
          refine lv_aload_n hx hb d_Trust_covers_81 rfl (lv_at hl 1 rfl) ?_
          refine va_get (v := .ref ce) hx hb htb i_Trust hown hK hP i_20 hg_20 rfl 2 (by decide) (htb _ q1_158) (fun _ h9 => h9) rfl d_Trust_covers_82 ?_
          refine lv_iload_n hx hb d_Trust_covers_85 rfl (lv_at hl 2 rfl) ?_
          obtain ⟨i_22, q_22, m_22, hK_22, he_22, hg_22⟩ := ty_15 hTy kce
          obtain ⟨cap_23, kq_23⟩ := he_22 (by omega)
          obtain ⟨i_24, f_24, hK_24, hc_24, he_24, hg_24⟩ := ty_14 hTy kq_23
          obtain ⟨hf_23, p_23, q_23, ks_23⟩ := he_24 k (by omega)
          obtain ⟨s_23, es_23⟩ : ∃ z, z = (ω ce).getD k 0 := ⟨_, rfl⟩
          rw [← es_23] at hf_23 ks_23
          refine va_csr (pu_callV (As := [.int (nI k)]) (rest := []) ⟨hx, hb, hml, hown, hts⟩ tbin (c_AL_get l dC dI sb ce q_22 ((ω ce).length) cap_23 k s_23 m_22 γ.2.2.2 f_24 (by omega) hK_24 (by omega) hf_23) q5_39 q4_210 q4_211 q1_4 q4_212 (n := 1) (by decide +kernel) rfl ⟨rfl, rfl⟩ ⟨Nat.le_of_ble_eq_true rfl, Nat.le_of_ble_eq_true rfl⟩ ⟨Nat.le_of_ble_eq_true rfl, Nat.le_of_ble_eq_true rfl⟩ hN (hT0.keep hS hAs) hK hP [i_22, i_24] (by simp only [List.filterMap_cons, List.filterMap_nil, hg_22, hg_24]) [3] rfl i_22 11 hg_22 rfl rfl hl.1 rfl (Nat.le_of_ble_eq_true rfl) d_Trust_covers_86) (fun r86 hr86 => ?_)
          obtain rfl := Eq.symm hr86
          obtain ⟨i_25, nm_25, pe_25, ec_25, se_25, su_25, mo_25, ok_25, ik_25, ha_25, si_25, en_25, bo_25, sg_25, is_25, iu_25, K_25, B_25, hg_25⟩ := ty_8 hTy ks_23
          obtain ⟨⟨A_25, knm_25⟩, ⟨B1_25, B2_25, kpe_25⟩, ⟨C1_25, C2_25, kec_25⟩, kse_25, ⟨z1_25, ksu_25⟩, ⟨z2_25, kmo_25⟩, ⟨z3_25, kok_25⟩, ⟨z4_25, kik_25⟩, kha_25, ksi_25, ken_25, ⟨z5_25, kbo_25⟩, ⟨z6_25, ksg_25⟩, ⟨z7_25, kis_25⟩⟩ := K_25
          refine va_castY (C := "TrustChain$Certificate") hx hb hown (htb _ q5_40) (hN.1 _ qn9_223) (va_recv (ci := 3) hK hP rfl hg_25) d_Trust_covers_89 ?_
          refine va_get (v := .ref nm_25) hx hb htb i_Certificate hown hK hP i_25 hg_25 rfl 0 (by decide) (htb _ q2_142) (fun _ h9 => h9) rfl d_Trust_covers_92 ?_
          refine va_new (ci := 0) (fs := [.null, .int 0, .int 0]) hx hb htb i_Slice t_Slice t_Slice_ok hown (htb _ q6_155) (htb _ q2_92) (htb _ q1_22) hK hP hD hS hA rfl (fun j hj => by rcases (show j = 0 ∨ j = 1 ∨ j = 2 by omega) with rfl | rfl | rfl <;> rfl) (Nat.le_of_ble_eq_true rfl) (Nat.le_of_ble_eq_true rfl) d_Trust_covers_95 (fun q95 H95 hP hD hS => ?_)
          have hP : va_P (dC, dI) classes ([(q95, .inr (0, [.null, .int 0, .int 0]))] ++ G_8) H95 := hP.perm List.perm_append_comm
          have hD : va_D A ([(q95, .inr (0, [.null, .int 0, .int 0]))] ++ G_8) := hD.perm List.perm_append_comm
          have hn95 := nin_new hD hTy
          have hFN95 : ∀ z : Nat × va_E, z.1 ∉ Ad → z.1 ≠ q0 → z.1 ≠ pl → (∀ y f, z.2 ≠ .inl (γ.2.2.2, y, .inr (.inr (.inr (.inr f))))) → z ∈ G → z ∈ ([(q95, .inr (0, [.null, .int 0, .int 0]))] ++ G_8 : va_W) ∧ z.1 ≠ q95 := fun z h2 h3 h4 h5 h6 => ⟨List.mem_append_right _ (hFR z h2 h3 h4 h5 h6), nw_ne hD (hFR z h2 h3 h4 h5 h6)⟩
          have hTy := hTy.consX (c := .inr (0, [.null, .int 0, .int 0])) hn95
          have kpl := kpl.consX (a := q95) (c := .inr (0, [.null, .int 0, .int 0]))
          have kq0 := kq0.consX (a := q95) (c := .inr (0, [.null, .int 0, .int 0]))
          have kq95 : Xc Ad q95 (.inr (0, [.null, .int 0, .int 0])) ([(q95, .inr (0, [.null, .int 0, .int 0]))] ++ G_8) := ⟨hn95, List.mem_cons_self⟩
          clear hFR
          generalize ([(q95, .inr (0, [.null, .int 0, .int 0]))] ++ G_8 : va_W) = G_26 at hP hD hTy kpl kq0 hFN95 kq95
          refine lv_dup hx hb d_Trust_covers_98 rfl ?_
          refine lv_aload_n hx hb d_Trust_covers_99 rfl (lv_at hl 1 rfl) ?_
          obtain ⟨i_27, hg_27⟩ := List.getElem?_of_mem kq0.2
          refine va_get (v := .ref ho) hx hb htb i_Trust hown hK hP i_27 hg_27 rfl 1 (by decide) (htb _ q1_157) (fun _ h9 => h9) rfl d_Trust_covers_100 ?_
          refine lv_iconst (v := 0) hx hb d_Trust_covers_103 (by decide) ?_
          refine lv_iload hx hb d_Trust_covers_104 (lv_at hl 0 rfl) ?_
          obtain ⟨i_28, hg_28⟩ := List.getElem?_of_mem kq95.2
          have hFc := va_free (wc := [(q95, .inr (0, [.null, .int 0, .int 0]))]) hD hS hA [i_28] (by simp only [List.map_cons, List.map_nil, hg_28])
          refine va_callv (mu_runI (As := [.ref ho, .int 0, .int (nI z9)]) (rest := [.ref q95, .ref nm_25]) ⟨hx, hb, hml, hown, hts⟩ tbin (c_Slice_init l dC dI sb q95 ho (0) (nI z9) H95.size) q6_156 q2_94 q1_22 q2_95 rfl (n := 3) (by decide +kernel) rfl ⟨rfl, rfl⟩ ⟨Nat.le_of_ble_eq_true rfl, Nat.le_of_ble_eq_true rfl⟩ ⟨Nat.le_of_ble_eq_true rfl, Nat.le_of_ble_eq_true rfl⟩ hN (hT0.keep hS hAs) hAs (Nat.le_trans hB0 hS.1) hK hP hD [i_28] (by simp [va_nd]) (by simp only [List.map_cons, List.map_nil, hg_28]) [] rfl hl.1 rfl (Nat.le_of_ble_eq_true rfl) d_Trust_covers_106) hS (fun q _ h => hFc q h) hFc (fun u106 tS H106 locs ht hvm hw106 hB hz1 hk1 hS => ?_)
          obtain ⟨hP1, hK1, hD1⟩ := hB
          rw [ht] at hP1
          obtain ⟨hP, hD⟩ := va_joinX (c' := .inr (0, [.ref ho, .int 0, .int (nI z9)])) hP hD hg_28 hk1 hFc hP1 hD1
          have hTy := TY.setX (c' := .inr (0, [.ref ho, .int 0, .int (nI z9)])) hTy hg_28 kq95.1
          have kpl := PLx.setX (c' := .inr (0, [.ref ho, .int 0, .int (nI z9)])) kpl hg_28 (by decide)
          have kq0 := Xc.setX (c' := .inr (0, [.ref ho, .int 0, .int (nI z9)])) kq0 hg_28 (fun e => by cases e)
          have hFR : FRq γ Ad q0 pl G (G_26.set i_28 (q95, .inr (0, [.ref ho, .int 0, .int (nI z9)]))) := fun z h2 h3 h4 h5 h6 => mem_setX hg_28 (hFN95 z h2 h3 h4 h5 h6).1 (fun e => (hFN95 z h2 h3 h4 h5 h6).2 (by rw [e]))
          have hg_28 := set_here (c' := .inr (0, [.ref ho, .int 0, .int (nI z9)])) hg_28
          clear hFN95
          generalize G_26.set i_28 (q95, .inr (0, [.ref ho, .int 0, .int (nI z9)])) = G_29 at hP hD hTy kpl kq0 hFR hg_28
          have koq95 : tOK γ (kU κ q95 (2, z9, 0)) (q95 :: Ad) ν ω L q95 (.inr (0, [.ref ho, .int 0, .int (nI z9)])) := by
            unfold tOK
            rw [kU_at]
            exact ⟨ho, 32, 0, 0, tK.up (kU_in kq95.1) (fun b hb => List.mem_cons_of_mem _ hb) kho, by omega, by decide, fun e => absurd e (by decide), by rw [Nat.zero_add]; rfl⟩
          have hTy9 := TY.new hTy hD hg_28 kq95.1 koq95
          have ksq95 : tK (kU κ q95 (2, z9, 0)) (q95 :: Ad) q95 (2, z9, 0) := ⟨List.mem_cons_self, kU_at⟩
          have k9nm_25 : tK (kU κ q95 (2, z9, 0)) (q95 :: Ad) nm_25 (5, p_23, A_25) := tK.up (kU_in kq95.1) (fun b hb => List.mem_cons_of_mem _ hb) knm_25
          have hTyO := hTy
          have hTy := hTy9
          obtain ⟨i_30, l_30, d_30, kl_30, kd_30, hw_30, hg_30⟩ := ty_5 hTy k9nm_25
          refine vp_callSi (pu_callV (As := [.ref q95]) (rest := []) ⟨hx, hb, hml, hown, hts⟩ tbin (p_NameSet_holdsHost l dC dI sb γ (kU κ q95 (2, z9, 0)) (q95 :: Ad) ν ω L G_29 nm_25 q95 _ _ _ hTy k9nm_25 ksq95 ) q6_157 q6_158 q6_159 q1_23 q6_160 (n := 1) (by decide +kernel) rfl ⟨rfl, rfl⟩ ⟨Nat.le_of_ble_eq_true rfl, Nat.le_of_ble_eq_true rfl⟩ ⟨Nat.le_of_ble_eq_true rfl, Nat.le_of_ble_eq_true rfl⟩ hN (hT0.keep hS hAs) hK hP (List.range G_29.length) (rg_all G_29) [0, 1, 2, 3] rfl i_30 1 hg_30 rfl rfl hl.1 rfl (Nat.le_of_ble_eq_true rfl) d_Trust_covers_109) (fun r109 hr109 => ?_)
          have hTy := hTyO
          refine w_join (J := fun jv112 => bz jv112 (jv112 = 1)) (pc := 120) (ls := ls) (rest := []) (fun jv112 hjv112 => ?_) (fun k120 => ?_)
          · skip
            exact vx_ret (x_wide 1 6 (Nat.le_of_ble_eq_true rfl) (Nat.le_of_ble_eq_true rfl) (W.zret (v := jv112) hx hb hr (bz_n hjv112) (fun t ht hW => ⟨⟨_, (G_29, L, o, as, foS, chS, faP, feS, wrP), rfl, ⟨⟨hTy, hL, kq0, kpl, h16⟩, hFR, rfl, hjv112, p5⟩, ⟨by rw [ht]; exact hP, va_K.moved hW.alike hK, hD⟩⟩, hS.F ht⟩) hS.2.2 d_Trust_covers_120))
          · skip
            refine lv_if_eq (tgt := 119) hx hb d_Trust_covers_112 (by decide) (fun c112 => ?_) (fun c112 => ?_)
            · have p112 : r109 = (0 : Int32) := c112
              refine lv_iconst (v := 0) hx hb d_Trust_covers_119 (by decide) ?_
              exact k120 _ (bz_f (by decide))
            · have p112 : ¬ (r109 = (0 : Int32)) := c112
              refine lv_iconst (v := 1) hx hb d_Trust_covers_115 (by decide) ?_
              refine lv_goto (tgt := 120) hx hb d_Trust_covers_116 (by decide) ?_
              exact k120 _ (bz_t rfl)
      · have p65 : ¬ (e64 = (0 : Int32)) := c65
        refine lv_iinc (v := nI (z9 + 1)) (lv' := [(10, .int (nI (z9 + 1))), (0, .ref q0), (1, .int (nI k)), (2, .long x0), (4, .long x1), (6, .long x2), (8, .long x3)]) hx hb d_Trust_covers_68 hl (k := 0) rfl (nI_1 _) (by decide) rfl (fun ls hl => ?_)
        refine lv_goto (tgt := 51) hx hb d_Trust_covers_71 (by decide) ?_
        exact ih (z9 + 1) ls (by omega) (by omega) (lv_sub hl [0, 1, 2, 3, 4, 5, 6] rfl)
  · have p5 : ¬ (¬ i < 0 ∧ i < nI (ω ce).length) := (zP_0.mp c5)
    obtain ⟨sa, hsa⟩ := hTh.2.2.1 (163, "no such certificate") (by decide)
    exact vx_throwS (own := "TrustChain") (cls := "java/lang/IndexOutOfBoundsException") (text := "no such certificate") (names := xUp) (ik := 74) (is := 163) (ic := 78) (sa := sa) (A := A) hx hb hl0 hown (by decide) (by decide) (htb _ q1_211) (htb _ q1_14) hsa (x_hat x_ot78 x_gd78 x_nw78 htb hN) x_ot78 (hTh.1.narrow hAs) (hTh.2.1.narrow hAs) hS (hl.1.trans hml.symm) d_Trust_covers_8 d_Trust_covers_11 d_Trust_covers_12 d_Trust_covers_14 d_Trust_covers_17 (fun x h => (hnoh x h).elim) (Nat.le_of_ble_eq_true rfl) (Nat.le_of_ble_eq_true rfl) (Nat.le_of_ble_eq_true rfl) (Nat.le_of_ble_eq_true rfl) hlocks (x_end (G, L, o, as, foS, chS, faP, feS, wrP) ⟨⟨hTy, hL, kq0, kpl, h16⟩, hFR, rfl, rfl, p5⟩ hP hK hD hS) hS.2.2 (Nat.le_of_ble_eq_true rfl) (Nat.le_of_ble_eq_true rfl)
