/-! Search.begin. -/
def y_Search_begin : MethodName := ⟨"TrustChain$Search", "begin", "(Ljava/util/ArrayList;LTrustChain$Certificate;I)Z"⟩
abbrev b_Search_begin : ByteArray := prog_10_method_2_code
def w_Search_begin : List Cond := Cond.code y_Search_begin b_Search_begin 4 ((some FieldType.boolean)) :: tb
theorem d_Search_begin_0 : decode b_Search_begin 0 = .ok (.aload_n 0, 1) := by decide +kernel
theorem d_Search_begin_1 : decode b_Search_begin 1 = .ok (.getfield 12, 3) := by decide +kernel
theorem d_Search_begin_4 : decode b_Search_begin 4 = .ok (.invokevirtual 32, 3) := by decide +kernel
theorem d_Search_begin_7 : decode b_Search_begin 7 = .ok (.aload_n 0, 1) := by decide +kernel
theorem d_Search_begin_8 : decode b_Search_begin 8 = .ok (.iconst 0, 1) := by decide +kernel
theorem d_Search_begin_9 : decode b_Search_begin 9 = .ok (.putfield 29, 3) := by decide +kernel
theorem d_Search_begin_12 : decode b_Search_begin 12 = .ok (.aload_n 0, 1) := by decide +kernel
theorem d_Search_begin_13 : decode b_Search_begin 13 = .ok (.iload_n 3, 1) := by decide +kernel
theorem d_Search_begin_14 : decode b_Search_begin 14 = .ok (.bipush 16, 2) := by decide +kernel
theorem d_Search_begin_16 : decode b_Search_begin 16 = .ok (.invokestatic 35, 3) := by decide +kernel
theorem d_Search_begin_19 : decode b_Search_begin 19 = .ok (.putfield 22, 3) := by decide +kernel
theorem d_Search_begin_22 : decode b_Search_begin 22 = .ok (.aload_n 0, 1) := by decide +kernel
theorem d_Search_begin_23 : decode b_Search_begin 23 = .ok (.iconst 0, 1) := by decide +kernel
theorem d_Search_begin_24 : decode b_Search_begin 24 = .ok (.putfield 26, 3) := by decide +kernel
theorem d_Search_begin_27 : decode b_Search_begin 27 = .ok (.aload_n 0, 1) := by decide +kernel
theorem d_Search_begin_28 : decode b_Search_begin 28 = .ok (.aload_n 2, 1) := by decide +kernel
theorem d_Search_begin_29 : decode b_Search_begin 29 = .ok (.invokevirtual 41, 3) := by decide +kernel
theorem d_Search_begin_32 : decode b_Search_begin 32 = .ok (.aload_n 2, 1) := by decide +kernel
theorem d_Search_begin_33 : decode b_Search_begin 33 = .ok (.getfield 45, 3) := by decide +kernel
theorem d_Search_begin_36 : decode b_Search_begin 36 = .ok (.ifCond .ne 11, 3) := by decide +kernel
theorem d_Search_begin_39 : decode b_Search_begin 39 = .ok (.aload_n 0, 1) := by decide +kernel
theorem d_Search_begin_40 : decode b_Search_begin 40 = .ok (.aload_n 1, 1) := by decide +kernel
theorem d_Search_begin_41 : decode b_Search_begin 41 = .ok (.invokevirtual 51, 3) := by decide +kernel
theorem d_Search_begin_44 : decode b_Search_begin 44 = .ok (.ifCond .eq 7, 3) := by decide +kernel
theorem d_Search_begin_47 : decode b_Search_begin 47 = .ok (.iconst 1, 1) := by decide +kernel
theorem d_Search_begin_48 : decode b_Search_begin 48 = .ok (.goto 4, 3) := by decide +kernel
theorem d_Search_begin_51 : decode b_Search_begin 51 = .ok (.iconst 0, 1) := by decide +kernel
theorem d_Search_begin_52 : decode b_Search_begin 52 = .ok (.ireturn, 1) := by decide +kernel
set_option maxHeartbeats 4000000 in
set_option maxRecDepth 100000 in
theorem m_Search_begin (l : Launch) (dC : Nat → ClassId) (dI : Nat → Nat → Nat) (sb : sB) (γ : cG) (κ : kE) (Ad : List Nat) (ν : Nat → cN) (ω : Nat → List Nat) (L : Nat) (G : va_W) (h cs c9 pl : Nat) (p1 p2 : Nat) (x9 : Int32) (o : alD) (as : List Nat) (sz : Nat) (sl : Nat) (hTy : TY γ κ Ad ν ω L G) (kh : tK κ Ad h (13, pl, 0)) (kcs : tK κ Ad cs (15, (sb.2 5), 0)) (kc9 : tK κ Ad c9 (8, p1, p2)) (kpl : PLx γ sb κ Ad 8 pl o as G) (hcs9 : (ω cs).length < 2 ^ 20) : Met l y_Search_begin w_Search_begin ({ frames := 11, cells := (fC o), slots := (fS o), locals := 340 }) (mz_P sl [.ref h, .ref cs, .ref c9, .int x9] (dC, dI) sb G [(γ.1, .byte), (γ.2.1, .int), (γ.2.2.1, .long), (γ.2.2.2, .object "java/lang/Object")] sz) (va_Qi (fun r (u' : va_W × alD × List Nat) => TY γ κ Ad ν ω L u'.1 ∧ PLx γ sb κ Ad 8 pl u'.2.1 u'.2.2 u'.1 ∧ FRs γ Ad pl G u'.1 ∧ (bz r (r = 1) ∧ u'.2.2.length ≤ 16 ∧ (r = 1 → 1 ≤ u'.2.2.length) ∧ fC u'.2.1 ≤ fC o ∧ fS u'.2.1 ≤ fS o)) (mz_B (dC, dI) [(γ.1, .byte), (γ.2.1, .int), (γ.2.2.1, .long), (γ.2.2.2, .object "java/lang/Object")] G sz sl o) (va_A G sz)) (fC o) (fS o) (va_A G sz) := by
  refine Met.ofW (cc := b_Search_begin) (maxL := 4) (ret := (some FieldType.boolean)) (by decide) rfl ?_
  intro p e s m args below meth c s₁ B hml hv
  obtain ⟨⟨rfl, hsz, hB0, hP, hK, hD0, hN, hT0⟩, hsl⟩ := hv
  have hx := B.exec
  have hb := B.bytes
  have hr := B.returns
  have hts := atoms_spec (ws := w_Search_begin) B.pre
  have tbin : ∀ w ∈ tb, w ∈ w_Search_begin := fun w h => List.mem_cons_of_mem _ h
  have htb : ∀ w ∈ tb, w.before _ s = true := fun w h => hts w (tbin w h)
  have hown : s.vm.findClass "TrustChain$Search" = some m.cls := findClass_of_methodNamed B.named
  have hlocks := B.notSynchronized
  subst hsz
  have hD := hD0.self (sz := s.heap.size)
  subst hsl
  unfold mz_B
  generalize hAe : va_A G s.heap.size = A at hD ⊢
  have hA : ∀ q : Nat, s.heap.size ≤ q → A q := fun q h => by rw [← hAe]; exact Or.inr h
  have hAs : ∀ q : Nat, A q → sb.1 ≤ q := fun q h => by
    rw [← hAe] at h
    rcases h with ⟨k, e, h⟩ | h
    · exact hD0.2 k _ h
    · exact Nat.le_trans hB0 h
  have hS : va_S A s.heap s.heap [] := va_S.rf
  have hFR := FRs.rf γ Ad pl G
  have hcs : (fC o) ≤ (headSpec w_Search_begin ({ frames := 11, cells := (fC o), slots := (fS o), locals := 340 })).room.cells ∧ (fS o) ≤ (headSpec w_Search_begin ({ frames := 11, cells := (fC o), slots := (fS o), locals := 340 })).room.slots := ⟨Nat.le_refl _, Nat.le_refl _⟩
  have hP : va_P (dC, dI) classes G s.heap := hP
  have hl := lv_entry ([.ref h, .ref cs, .ref c9, .int x9]) (n := 4) (Nat.le_of_ble_eq_true rfl)
  rw [lg_entry_eq]
  generalize (lg_sl ([.ref h, .ref cs, .ref c9, .int x9]) ++ List.replicate (4 - (lg_sl ([.ref h, .ref cs, .ref c9, .int x9])).length) Slot.unset).toArray = ls at hl ⊢
  have hl : lv_has ls 4 [(0, .ref h), (1, .ref cs), (2, .ref c9), (3, .int x9)] := hl
  refine lv_aload_n hx hb d_Search_begin_0 rfl (lv_at hl 0 rfl) ?_
  obtain ⟨i_1, nx_1, de_1, pu_1, op_1, knx_1, hg_1⟩ := ty_13 hTy kh
  refine va_get (v := .ref pl) hx hb htb i_Search hown hK hP i_1 hg_1 rfl 0 (by decide) (htb _ q1_119) (fun _ h9 => h9) rfl d_Search_begin_1 ?_
  obtain ⟨m4, R4, hp4⟩ := pl_split kpl
  have hP := hP.perm hp4
  have hD := hD.perm hp4
  refine al_clear (own := "TrustChain$Search") pl as.length m4 γ.2.2.2 o ⟨hx, hb, hml, hown, hts⟩ tbin q6_7 hN (hT0.keep hS hAs) hAs (Nat.le_trans hB0 hS.1) hA hK 3 rfl hP hD hS kpl.2.2.2.1 (Nat.le_of_ble_eq_true rfl) (Nat.le_of_ble_eq_true rfl) (by omega) (by omega) hl.1 (Nat.le_of_ble_eq_true rfl) d_Search_begin_4 (fun o4 n4 H4 locs hi4 hk4 hP hD hS => ?_)
  obtain ⟨hTy, kpl, hF9⟩ := pl_new (as' := ([] : List Nat)) (z' := 0) hTy kpl hp4 rfl hD hi4 (by omega) (fun i h => absurd h (Nat.not_lt_zero i)) (fun i h => absurd h (Nat.not_lt_zero i))
  have hFR := hFR.tr hF9
  clear hF9
  have hD : va_D A ((pl, .inr (11, [.ref (alO sb o4), .int (nI 0), .int n4])) :: (alC γ.2.2.2 o4 ++ R4)) := hD
  have hP : va_P (dC, dI) classes ((pl, .inr (11, [.ref (alO sb o4), .int (nI 0), .int n4])) :: (alC γ.2.2.2 o4 ++ R4)) H4 := hP
  generalize ((pl, .inr (11, [.ref (alO sb o4), .int (nI 0), .int n4])) :: (alC γ.2.2.2 o4 ++ R4) : va_W) = G_2 at hP hD hTy hFR kpl
  obtain ⟨as4, ea4⟩ : ∃ z, z = ([] : List Nat) := ⟨_, rfl⟩
  rw [← ea4] at kpl
  have hla4 : as4.length = 0 := by rw [ea4]; rfl
  have hfk := fC_at hk4
  have hpl9 := pC_le kpl.2.2.2.1
  have kpl0 := kpl
  refine lv_aload_n hx hb d_Search_begin_7 rfl (lv_at hl 0 rfl) ?_
  refine lv_iconst (v := 0) hx hb d_Search_begin_8 (by decide) ?_
  obtain ⟨i_3, nx_3, de_3, pu_3, op_3, knx_3, hg_3⟩ := ty_13 hTy kh
  refine va_put (v := .int 0) (ty := .int) hx hb htb i_Search t_Search t_Search_ok n_Search hown hK hP hD hS i_3 hg_3 rfl 4 (by decide) (htb _ q1_124) (fun _ h9 => h9) rfl (by decide +kernel) rfl rfl (Nat.le_of_ble_eq_true rfl) d_Search_begin_9 (fun H9 locs hP hD2 hS => ?_)
  have hP : va_P (dC, dI) classes (G_2.set i_3 (h, .inr (8, [.ref pl, .ref nx_3, .int de_3, .int pu_3, .int 0]))) H9 := hP
  have hD3 : va_D A (G_2.set i_3 (h, .inr (8, [.ref pl, .ref nx_3, .int de_3, .int pu_3, .int 0]))) := hD2
  have hF1 := FR.set (c' := .inr (8, [.ref pl, .ref nx_3, .int de_3, .int pu_3, .int 0])) hg_3 kh.1
  have kpl := kpl.fr hF1
  have hFR := hFR.tr hF1.s
  clear hF1
  have hTy := TY.set (c' := .inr (8, [.ref pl, .ref nx_3, .int de_3, .int pu_3, .int 0])) hTy hg_3 (ok_13 kh knx_3 _ _ _)
  have hD := hD3
  have hg_3 := set_here (c' := .inr (8, [.ref pl, .ref nx_3, .int de_3, .int pu_3, .int 0])) hg_3
  clear hD3 hD2
  generalize G_2.set i_3 (h, .inr (8, [.ref pl, .ref nx_3, .int de_3, .int pu_3, .int 0])) = G_4 at hP hD hTy hFR kpl hg_3
  refine lv_aload_n hx hb d_Search_begin_12 rfl (lv_at hl 0 rfl) ?_
  refine lv_iload_n hx hb d_Search_begin_13 rfl (lv_at hl 3 rfl) ?_
  refine lv_bipush (v := 16) hx hb d_Search_begin_14 (by decide) ?_
  refine va_mmin hx hb (by rw [hml]; exact hl.1.symm) hown (htb _ q6_8) (htb _ q2_75) (htb _ q1_18) (htb _ q2_76) (Nat.le_of_ble_eq_true rfl) (Nat.le_of_ble_eq_true rfl) ((by omega)) ((by omega)) d_Search_begin_16 ?_
  refine lv_topi (fun r16 hr16 => ?_)
  have hr16 := mn_f hr16
  refine va_put (v := .int r16) (ty := .int) hx hb htb i_Search t_Search t_Search_ok n_Search hown hK hP hD hS i_3 hg_3 rfl 2 (by decide) (htb _ q1_122) (fun _ h9 => h9) rfl (by decide +kernel) rfl rfl (Nat.le_of_ble_eq_true rfl) d_Search_begin_19 (fun H19 locs hP hD2 hS => ?_)
  have hP : va_P (dC, dI) classes (G_4.set i_3 (h, .inr (8, [.ref pl, .ref nx_3, .int r16, .int pu_3, .int 0]))) H19 := hP
  have hD3 : va_D A (G_4.set i_3 (h, .inr (8, [.ref pl, .ref nx_3, .int r16, .int pu_3, .int 0]))) := hD2
  have hF1 := FR.set (c' := .inr (8, [.ref pl, .ref nx_3, .int r16, .int pu_3, .int 0])) hg_3 kh.1
  have kpl := kpl.fr hF1
  have hFR := hFR.tr hF1.s
  clear hF1
  have hTy := TY.set (c' := .inr (8, [.ref pl, .ref nx_3, .int r16, .int pu_3, .int 0])) hTy hg_3 (ok_13 kh knx_3 _ _ _)
  have hD := hD3
  have hg_3 := set_here (c' := .inr (8, [.ref pl, .ref nx_3, .int r16, .int pu_3, .int 0])) hg_3
  clear hD3 hD2
  generalize G_4.set i_3 (h, .inr (8, [.ref pl, .ref nx_3, .int r16, .int pu_3, .int 0])) = G_5 at hP hD hTy hFR kpl hg_3
  refine lv_aload_n hx hb d_Search_begin_22 rfl (lv_at hl 0 rfl) ?_
  refine lv_iconst (v := 0) hx hb d_Search_begin_23 (by decide) ?_
  refine va_put (v := .int 0) (ty := .int) hx hb htb i_Search t_Search t_Search_ok n_Search hown hK hP hD hS i_3 hg_3 rfl 3 (by decide) (htb _ q1_123) (fun _ h9 => h9) rfl (by decide +kernel) rfl rfl (Nat.le_of_ble_eq_true rfl) d_Search_begin_24 (fun H24 locs hP hD2 hS => ?_)
  have hP : va_P (dC, dI) classes (G_5.set i_3 (h, .inr (8, [.ref pl, .ref nx_3, .int r16, .int 0, .int 0]))) H24 := hP
  have hD3 : va_D A (G_5.set i_3 (h, .inr (8, [.ref pl, .ref nx_3, .int r16, .int 0, .int 0]))) := hD2
  have hF1 := FR.set (c' := .inr (8, [.ref pl, .ref nx_3, .int r16, .int 0, .int 0])) hg_3 kh.1
  have kpl := kpl.fr hF1
  have hFR := hFR.tr hF1.s
  clear hF1
  have hTy := TY.set (c' := .inr (8, [.ref pl, .ref nx_3, .int r16, .int 0, .int 0])) hTy hg_3 (ok_13 kh knx_3 _ _ _)
  have hD := hD3
  have hg_3 := set_here (c' := .inr (8, [.ref pl, .ref nx_3, .int r16, .int 0, .int 0])) hg_3
  clear hD3 hD2
  generalize G_5.set i_3 (h, .inr (8, [.ref pl, .ref nx_3, .int r16, .int 0, .int 0])) = G_6 at hP hD hTy hFR kpl hg_3
  refine lv_aload_n hx hb d_Search_begin_27 rfl (lv_at hl 0 rfl) ?_
  refine lv_aload_n hx hb d_Search_begin_28 rfl (lv_at hl 2 rfl) ?_
  have hFc := va_free (wc := G_6) hD hS hA (List.range G_6.length) (rg_is _)
  refine va_callv (mu_runV (As := [.ref c9]) (rest := []) ⟨hx, hb, hml, hown, hts⟩ tbin (m_Search_put l dC dI sb γ κ Ad ν ω L G_6 h c9 pl _ _ o4 as4 H24.size hTy kh kc9 kpl (by omega)) q6_9 q6_11 qp_27 q1_7 q6_12 (n := 1) (by decide +kernel) rfl ⟨rfl, rfl⟩ ⟨Nat.le_of_ble_eq_true rfl, Nat.le_of_ble_eq_true rfl⟩ ⟨(by omega), (by omega)⟩ hN (hT0.keep hS hAs) hAs (Nat.le_trans hB0 hS.1) hK hP hD (List.range G_6.length) (rg_nd _) (rg_is _) [0, 1, 2, 3] rfl i_3 8 hg_3 rfl rfl hl.1 rfl (Nat.le_of_ble_eq_true rfl) d_Search_begin_29) hS (fun q _ h => hFc q h) hFc (fun u29 tS H29 locs ht hvm hw29 hB hz1 hk1 hS => ?_)
  obtain ⟨G_7, o29, as29⟩ := u29
  obtain ⟨hTy, kpl, hF9, hr29⟩ := hw29
  dsimp only at hTy kpl hF9 hr29
  have hFR := hFR.tr hF9
  obtain ⟨hP1, hK1, hD1⟩ := hB
  rw [ht] at hP1
  have hP : va_P (dC, dI) classes G_7 H29 := hP1
  have hD : va_D A G_7 := hD1.weaken (fun _ _ _ h => hFc _ h)
  obtain ⟨hk29, h16, hp1_29⟩ := hr29
  have hfc29 := pC_pay kpl0.2.2.2.1 hk29
  refine lv_aload_n hx hb d_Search_begin_32 rfl (lv_at hl 2 rfl) ?_
  obtain ⟨i_8, nm_8, pe_8, ec_8, se_8, su_8, mo_8, ok_8, ik_8, ha_8, si_8, en_8, bo_8, sg_8, is_8, iu_8, K_8, B_8, hg_8⟩ := ty_8 hTy kc9
  obtain ⟨⟨A_8, knm_8⟩, ⟨B1_8, B2_8, kpe_8⟩, ⟨C1_8, C2_8, kec_8⟩, kse_8, ⟨z1_8, ksu_8⟩, ⟨z2_8, kmo_8⟩, ⟨z3_8, kok_8⟩, ⟨z4_8, kik_8⟩, kha_8, ksi_8, ken_8, ⟨z5_8, kbo_8⟩, ⟨z6_8, ksg_8⟩, ⟨z7_8, kis_8⟩⟩ := K_8
  refine va_get (v := .int ((ν c9).2.2.2.2.2.2.2.2.1)) hx hb htb i_Certificate hown hK hP i_8 hg_8 rfl 16 (by decide) (htb _ q2_183) (fun _ h9 => h9) rfl d_Search_begin_33 ?_
  refine lv_if_ne (tgt := 47) hx hb d_Search_begin_36 (by decide) (fun c36 => ?_) (fun c36 => ?_)
  · have p36 : ¬ (((ν c9).2.2.2.2.2.2.2.2.1) = (0 : Int32)) := c36
    refine lv_iconst (v := 1) hx hb d_Search_begin_47 (by decide) ?_
    refine lv_goto (tgt := 52) hx hb d_Search_begin_48 (by decide) ?_
    refine W.size (fun hz9 hy9 => ?_)
    refine W.widen (k := (fC o)) (n := (fS o)) (by omega) (by omega) ?_
    exact W.zret (v := 1) hx hb hr rfl (fun t ht hW => ⟨⟨_, (G_7, o29, as29), rfl, ⟨hTy, kpl, hFR, bz_t rfl, h16, fun _ => by show 1 ≤ as29.length; omega, by show fC o29 ≤ fC o; omega, by show fS o29 ≤ fS o; omega⟩, ⟨⟨by rw [ht]; exact hP, va_K.moved hW.alike hK, hD⟩, by rw [ht]; show H29.size + fC o29 ≤ _; omega, by rw [ht]; show slN H29 + fS o29 ≤ _; omega⟩⟩, hS.F ht⟩) hS.2.2 d_Search_begin_52
  · have p36 : ((ν c9).2.2.2.2.2.2.2.2.1) = (0 : Int32) := c36
    refine lv_aload_n hx hb d_Search_begin_39 rfl (lv_at hl 0 rfl) ?_
    refine lv_aload_n hx hb d_Search_begin_40 rfl (lv_at hl 1 rfl) ?_
    refine W.size (fun hzq41 hyq41 => ?_)
    have hFc := va_free (wc := G_7) hD hS hA (List.range G_7.length) (rg_is _)
    obtain ⟨i_10, nx_10, de_10, pu_10, op_10, knx_10, hg_10⟩ := ty_13 hTy kh
    refine va_calli (mz_runV (As := [.ref cs]) (rest := []) ⟨hx, hb, hml, hown, hts⟩ tbin (m_Search_advance l dC dI sb γ κ Ad ν ω L G_7 h cs pl  o29 as29 H29.size (slN H29) hTy kh kcs kpl h16 hcs9) q6_15 q6_16 q6_17 q1_7 q6_18 (n := 1) (by decide +kernel) rfl ⟨rfl, rfl⟩ ⟨Nat.le_of_ble_eq_true rfl, Nat.le_of_ble_eq_true rfl⟩ ⟨(by omega), (by omega)⟩ hN (hT0.keep hS hAs) hAs (Nat.le_trans hB0 hS.1) hK hP hD (List.range G_7.length) (rg_nd _) (rg_is _) [0, 1, 2, 3] rfl i_10 8 hg_10 rfl rfl hl.1 rfl (Nat.le_of_ble_eq_true rfl) d_Search_begin_41) hS (fun q _ h => hFc q h) hFc (fun r41 u41 tS H41 locs ht hvm hw41 hB hz1 hk1 hS => ?_)
    obtain ⟨G_9, o41, as41⟩ := u41
    obtain ⟨hTy, kpl, hF9, hr41⟩ := hw41
    dsimp only at hTy kpl hF9 hr41
    have hFR := hFR.tr hF9
    obtain ⟨⟨hP1, hK1, hD1⟩, hzB41, hyB41⟩ := hB
    rw [ht] at hP1
    rw [ht] at hzB41 hyB41
    dsimp only at hzB41 hyB41
    have hP : va_P (dC, dI) classes G_9 H41 := hP1
    have hD : va_D A G_9 := hD1.weaken (fun _ _ _ h => hFc _ h)
    obtain ⟨hbr41, h16, hp1_41, hfo41, hgo41⟩ := hr41
    refine W.narrow (k := fC o - fC o41) (n := fS o - fS o41) (by omega) (by omega) ?_
    refine lv_if_eq (tgt := 51) hx hb d_Search_begin_44 (by decide) (fun c44 => ?_) (fun c44 => ?_)
    · have p44 : r41 = (0 : Int32) := c44
      refine lv_iconst (v := 0) hx hb d_Search_begin_51 (by decide) ?_
      refine W.size (fun hz9 hy9 => ?_)
      refine W.widen (k := (fC o)) (n := (fS o)) (by omega) (by omega) ?_
      exact W.zret (v := 0) hx hb hr rfl (fun t ht hW => ⟨⟨_, (G_9, o41, as41), rfl, ⟨hTy, kpl, hFR, bz_f (by decide), h16, fun q => absurd q (by decide), by show fC o41 ≤ fC o; omega, by show fS o41 ≤ fS o; omega⟩, ⟨⟨by rw [ht]; exact hP, va_K.moved hW.alike hK, hD⟩, by rw [ht]; show H41.size + fC o41 ≤ _; omega, by rw [ht]; show slN H41 + fS o41 ≤ _; omega⟩⟩, hS.F ht⟩) hS.2.2 d_Search_begin_52
    · have p44 : ¬ (r41 = (0 : Int32)) := c44
      refine lv_iconst (v := 1) hx hb d_Search_begin_47 (by decide) ?_
      refine lv_goto (tgt := 52) hx hb d_Search_begin_48 (by decide) ?_
      refine W.size (fun hz9 hy9 => ?_)
      refine W.widen (k := (fC o)) (n := (fS o)) (by omega) (by omega) ?_
      exact W.zret (v := 1) hx hb hr rfl (fun t ht hW => ⟨⟨_, (G_9, o41, as41), rfl, ⟨hTy, kpl, hFR, bz_t rfl, h16, fun _ => hp1_41 (bz_1 hbr41 c44), by show fC o41 ≤ fC o; omega, by show fS o41 ≤ fS o; omega⟩, ⟨⟨by rw [ht]; exact hP, va_K.moved hW.alike hK, hD⟩, by rw [ht]; show H41.size + fC o41 ≤ _; omega, by rw [ht]; show slN H41 + fS o41 ≤ _; omega⟩⟩, hS.F ht⟩) hS.2.2 d_Search_begin_52
