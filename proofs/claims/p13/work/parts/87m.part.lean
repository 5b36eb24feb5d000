/-! The reference's part, told exactly. -/
theorem lz_s : ∀ y, y < 256 → 0 < y → (8 - lzD (y / 2)) + 1 = 8 - lzD y := by decide +kernel
theorem lz_0 : 8 - lzD 0 = 0 := by decide
set_option maxHeartbeats 4000000 in
set_option maxRecDepth 100000 in
theorem m_Model_part_ok0 (l : Launch) (dC : Nat → ClassId) (dI : Nat → Nat → Nat) (sb : sB) (γ : cG) (κ : kE) (Ad : List Nat) (τ : Nat → TD) (gT : ClassId) (G : va_W) (mo : Nat) (moc msT mrV msP mrA mbA mwA mhA mfA mpA mxA myA mmA mqA mzA mwy mfd : Nat) (mer mwr mqs msz mch mft mpt mdp mvd mmk : Int32) (mnw : Int64) (K9 KL cz fd : Nat) (k9 : Nat) (fS : Nat → Option Nat) (sz : Nat) (hTy : TR γ κ Ad τ G) (kmo : Xc Ad mo (.inr (12, (.int mer :: .int (nI fd) :: .int mwr :: .int (nI K9) :: .int (nI KL) :: .ref moc :: .ref msT :: .ref mrV :: .ref msP :: .int mqs :: .ref mrA :: .ref mbA :: .ref mwA :: .ref mhA :: .ref mfA :: .ref mpA :: .ref mxA :: .ref myA :: .ref mmA :: .ref mqA :: .ref mzA :: .ref mwy :: .ref mfd :: .int msz :: .int (nI cz) :: .int mch :: .int mft :: .int mpt :: .int mdp :: .int mvd :: .long mnw :: .int mmk :: []))) G) (kmsT : Xc Ad msT (.inl (gT, 16, .inr (.inr (.inr (.inr fS))))) G) (hx_mo_msT : mo ≠ msT) (hst : STc κ Ad τ K9 fS) (hK9 : K9 ≤ 16) (hk9 : k9 < K9) : Met l y_Model_part w_Model_part ({ frames := 2, cells := 0, slots := 0, locals := 44 }) (mu_P [.ref mo, .int (nI k9), .int 0] (dC, dI) sb G [(γ.1, .byte), (γ.2.1, .int), (γ.2.2.1, .long), (γ.2.2.2, .object "java/lang/Object"), (gT, .object "TrustChainModel$Text")] sz) (va_Ql (fun r (G' : va_W) => TR γ κ Ad τ G' ∧ FL Ad [mo] G G' ∧ ((∃ t, fS k9 = some t ∧ r = (τ t).J 7) ∧ Xc Ad mo (.inr (12, (.int 0 :: .int (nI fd) :: .int mwr :: .int (nI K9) :: .int (nI KL) :: .ref moc :: .ref msT :: .ref mrV :: .ref msP :: .int mqs :: .ref mrA :: .ref mbA :: .ref mwA :: .ref mhA :: .ref mfA :: .ref mpA :: .ref mxA :: .ref myA :: .ref mmA :: .ref mqA :: .ref mzA :: .ref mwy :: .ref mfd :: .int msz :: .int (nI cz) :: .int mch :: .int mft :: .int mpt :: .int mdp :: .int mvd :: .long mnw :: .int mmk :: []))) G')) (mu_B (dC, dI) [(γ.1, .byte), (γ.2.1, .int), (γ.2.2.1, .long), (γ.2.2.2, .object "java/lang/Object"), (gT, .object "TrustChainModel$Text")] (va_A G sz) (fun G' : va_W => G')) (va_A G sz)) 0 0 (va_A G sz) := by
  refine Met.ofW (cc := b_Model_part) (maxL := 6) (ret := (some FieldType.long)) (by decide) rfl ?_
  intro p e s m args below meth c s₁ B hml hv
  obtain ⟨rfl, hsz, hB0, hP, hK, hD0, hN, hT0⟩ := hv
  have hx := B.exec
  have hb := B.bytes
  have hr := B.returns
  have hts := atoms_spec (ws := w_Model_part) B.pre
  have tbin : ∀ w ∈ tb, w ∈ w_Model_part := fun w h => List.mem_cons_of_mem _ h
  have htb : ∀ w ∈ tb, w.before _ s = true := fun w h => hts w (tbin w h)
  have hown : s.vm.findClass "TrustChainModel" = some m.cls := findClass_of_methodNamed B.named
  have hlocks := B.notSynchronized
  subst hsz
  have hD := hD0.self (sz := s.heap.size)
  generalize hAe : va_A G s.heap.size = A at hD ⊢
  have hA : ∀ q : Nat, s.heap.size ≤ q → A q := fun q h => by rw [← hAe]; exact Or.inr h
  have hAs : ∀ q : Nat, A q → sb.1 ≤ q := fun q h => by
    rw [← hAe] at h
    rcases h with ⟨k, e, h⟩ | h
    · exact hD0.2 k _ h
    · exact Nat.le_trans hB0 h
  have hS : va_S A s.heap s.heap [] := va_S.rf
  have hFR := FL.rf Ad [mo] G
  have hcs : 0 ≤ (headSpec w_Model_part ({ frames := 2, cells := 0, slots := 0, locals := 44 })).room.cells ∧ 0 ≤ (headSpec w_Model_part ({ frames := 2, cells := 0, slots := 0, locals := 44 })).room.slots := ⟨Nat.le_refl _, Nat.le_refl _⟩
  have hP : va_P (dC, dI) classes G s.heap := hP
  have hl := lv_entry ([.ref mo, .int (nI k9), .int 0]) (n := 6) (Nat.le_of_ble_eq_true rfl)
  rw [lg_entry_eq]
  generalize (lg_sl ([.ref mo, .int (nI k9), .int 0]) ++ List.replicate (6 - (lg_sl ([.ref mo, .int (nI k9), .int 0])).length) Slot.unset).toArray = ls at hl ⊢
  have hl : lv_has ls 6 [(0, .ref mo), (1, .int (nI k9)), (2, .int 0)] := hl
  obtain ⟨cX_mo, eX_mo⟩ : ∃ z : va_E, z = .inr (12, (.int mer :: .int (nI fd) :: .int mwr :: .int (nI K9) :: .int (nI KL) :: .ref moc :: .ref msT :: .ref mrV :: .ref msP :: .int mqs :: .ref mrA :: .ref mbA :: .ref mwA :: .ref mhA :: .ref mfA :: .ref mpA :: .ref mxA :: .ref myA :: .ref mmA :: .ref mqA :: .ref mzA :: .ref mwy :: .ref mfd :: .int msz :: .int (nI cz) :: .int mch :: .int mft :: .int mpt :: .int mdp :: .int mvd :: .long mnw :: .int mmk :: [])) := ⟨_, rfl⟩
  rw [← eX_mo] at kmo
  have hwhat : ¬ (0 : Int32) < 0 ∧ ¬ (11 : Int32) < 0 := by decide
  refine lv_aload_n hx hb d_Model_part_0 rfl (lv_at hl 0 rfl) ?_
  refine lv_iconst (v := 0) hx hb d_Model_part_1 (by decide) ?_
  obtain ⟨i_1, hg_1⟩ := List.getElem?_of_mem kmo.2
  rw [eX_mo] at hg_1
  refine va_put (v := .int 0) (ty := .int) hx hb htb i_Model t_Model t_Model_ok n_Model hown hK hP hD hS i_1 hg_1 rfl 0 (by decide) (htb _ q7_214) (fun _ h9 => h9) rfl (by decide +kernel) rfl rfl (Nat.le_of_ble_eq_true rfl) d_Model_part_2 (fun H2 locs hP hD2 hS => ?_)
  have hP : va_P (dC, dI) classes (G.set i_1 (mo, .inr (12, (.int 0 :: .int (nI fd) :: .int mwr :: .int (nI K9) :: .int (nI KL) :: .ref moc :: .ref msT :: .ref mrV :: .ref msP :: .int mqs :: .ref mrA :: .ref mbA :: .ref mwA :: .ref mhA :: .ref mfA :: .ref mpA :: .ref mxA :: .ref myA :: .ref mmA :: .ref mqA :: .ref mzA :: .ref mwy :: .ref mfd :: .int msz :: .int (nI cz) :: .int mch :: .int mft :: .int mpt :: .int mdp :: .int mvd :: .long mnw :: .int mmk :: [])))) H2 := hP
  have hD3 : va_D A (G.set i_1 (mo, .inr (12, (.int 0 :: .int (nI fd) :: .int mwr :: .int (nI K9) :: .int (nI KL) :: .ref moc :: .ref msT :: .ref mrV :: .ref msP :: .int mqs :: .ref mrA :: .ref mbA :: .ref mwA :: .ref mhA :: .ref mfA :: .ref mpA :: .ref mxA :: .ref myA :: .ref mmA :: .ref mqA :: .ref mzA :: .ref mwy :: .ref mfd :: .int msz :: .int (nI cz) :: .int mch :: .int mft :: .int mpt :: .int mdp :: .int mvd :: .long mnw :: .int mmk :: [])))) := hD2
  have hTy := TR.setX (c' := .inr (12, (.int 0 :: .int (nI fd) :: .int mwr :: .int (nI K9) :: .int (nI KL) :: .ref moc :: .ref msT :: .ref mrV :: .ref msP :: .int mqs :: .ref mrA :: .ref mbA :: .ref mwA :: .ref mhA :: .ref mfA :: .ref mpA :: .ref mxA :: .ref myA :: .ref mmA :: .ref mqA :: .ref mzA :: .ref mwy :: .ref mfd :: .int msz :: .int (nI cz) :: .int mch :: .int mft :: .int mpt :: .int mdp :: .int mvd :: .long mnw :: .int mmk :: []))) hTy hg_1 kmo.1
  have kmsT := Xc.setX (c' := .inr (12, (.int 0 :: .int (nI fd) :: .int mwr :: .int (nI K9) :: .int (nI KL) :: .ref moc :: .ref msT :: .ref mrV :: .ref msP :: .int mqs :: .ref mrA :: .ref mbA :: .ref mwA :: .ref mhA :: .ref mfA :: .ref mpA :: .ref mxA :: .ref myA :: .ref mmA :: .ref mqA :: .ref mzA :: .ref mwy :: .ref mfd :: .int msz :: .int (nI cz) :: .int mch :: .int mft :: .int mpt :: .int mdp :: .int mvd :: .long mnw :: .int mmk :: []))) kmsT hg_1 (fun e => hx_mo_msT.symm (congrArg Prod.fst e))
  have hFR := hFR.tr (FL.set (Ad := Ad) (X := [mo]) (c' := .inr (12, (.int 0 :: .int (nI fd) :: .int mwr :: .int (nI K9) :: .int (nI KL) :: .ref moc :: .ref msT :: .ref mrV :: .ref msP :: .int mqs :: .ref mrA :: .ref mbA :: .ref mwA :: .ref mhA :: .ref mfA :: .ref mpA :: .ref mxA :: .ref myA :: .ref mmA :: .ref mqA :: .ref mzA :: .ref mwy :: .ref mfd :: .int msz :: .int (nI cz) :: .int mch :: .int mft :: .int mpt :: .int mdp :: .int mvd :: .long mnw :: .int mmk :: []))) hg_1 (by simp))
  have hg_1 := set_here (c' := .inr (12, (.int 0 :: .int (nI fd) :: .int mwr :: .int (nI K9) :: .int (nI KL) :: .ref moc :: .ref msT :: .ref mrV :: .ref msP :: .int mqs :: .ref mrA :: .ref mbA :: .ref mwA :: .ref mhA :: .ref mfA :: .ref mpA :: .ref mxA :: .ref myA :: .ref mmA :: .ref mqA :: .ref mzA :: .ref mwy :: .ref mfd :: .int msz :: .int (nI cz) :: .int mch :: .int mft :: .int mpt :: .int mdp :: .int mvd :: .long mnw :: .int mmk :: []))) hg_1
  have kmo : Xc Ad mo (.inr (12, (.int 0 :: .int (nI fd) :: .int mwr :: .int (nI K9) :: .int (nI KL) :: .ref moc :: .ref msT :: .ref mrV :: .ref msP :: .int mqs :: .ref mrA :: .ref mbA :: .ref mwA :: .ref mhA :: .ref mfA :: .ref mpA :: .ref mxA :: .ref myA :: .ref mmA :: .ref mqA :: .ref mzA :: .ref mwy :: .ref mfd :: .int msz :: .int (nI cz) :: .int mch :: .int mft :: .int mpt :: .int mdp :: .int mvd :: .long mnw :: .int mmk :: []))) (G.set i_1 (mo, .inr (12, (.int 0 :: .int (nI fd) :: .int mwr :: .int (nI K9) :: .int (nI KL) :: .ref moc :: .ref msT :: .ref mrV :: .ref msP :: .int mqs :: .ref mrA :: .ref mbA :: .ref mwA :: .ref mhA :: .ref mfA :: .ref mpA :: .ref mxA :: .ref myA :: .ref mmA :: .ref mqA :: .ref mzA :: .ref mwy :: .ref mfd :: .int msz :: .int (nI cz) :: .int mch :: .int mft :: .int mpt :: .int mdp :: .int mvd :: .long mnw :: .int mmk :: [])))) := ⟨kmo.1, List.mem_of_getElem? hg_1⟩
  have hD := hD3
  clear hD3 hD2
  generalize G.set i_1 (mo, .inr (12, (.int 0 :: .int (nI fd) :: .int mwr :: .int (nI K9) :: .int (nI KL) :: .ref moc :: .ref msT :: .ref mrV :: .ref msP :: .int mqs :: .ref mrA :: .ref mbA :: .ref mwA :: .ref mhA :: .ref mfA :: .ref mpA :: .ref mxA :: .ref myA :: .ref mmA :: .ref mqA :: .ref mzA :: .ref mwy :: .ref mfd :: .int msz :: .int (nI cz) :: .int mch :: .int mft :: .int mpt :: .int mdp :: .int mvd :: .long mnw :: .int mmk :: []))) = G_2 at hP hD hTy hFR kmo kmsT hg_1
  obtain ⟨cX_3, eX_3⟩ : ∃ z : va_E, z = .inr (12, (.int 0 :: .int (nI fd) :: .int mwr :: .int (nI K9) :: .int (nI KL) :: .ref moc :: .ref msT :: .ref mrV :: .ref msP :: .int mqs :: .ref mrA :: .ref mbA :: .ref mwA :: .ref mhA :: .ref mfA :: .ref mpA :: .ref mxA :: .ref myA :: .ref mmA :: .ref mqA :: .ref mzA :: .ref mwy :: .ref mfd :: .int msz :: .int (nI cz) :: .int mch :: .int mft :: .int mpt :: .int mdp :: .int mvd :: .long mnw :: .int mmk :: [])) := ⟨_, rfl⟩
  rw [← eX_3] at kmo
  refine lv_aload_n hx hb d_Model_part_5 rfl (lv_at hl 0 rfl) ?_
  refine lv_iload_n hx hb d_Model_part_6 rfl (lv_at hl 2 rfl) ?_
  refine lv_iconst (v := 0) hx hb d_Model_part_7 (by decide) ?_
  refine lv_bipush (v := 11) hx hb d_Model_part_8 (by decide) ?_
  refine vp_callSi (pu_callS (As := [.int 0, .int 0, .int 11]) (rest := [.ref mo]) ⟨hx, hb, hml, hown, hts⟩ tbin (c_Model_in l dC dI sb (0 : Int32) (0 : Int32) (11 : Int32)) q9_68 q8_116 q1_9 q8_117 (n := 3) (by decide +kernel) rfl ⟨rfl, rfl⟩ ⟨Nat.le_of_ble_eq_true rfl, Nat.le_of_ble_eq_true rfl⟩ ⟨Nat.le_of_ble_eq_true rfl, Nat.le_of_ble_eq_true rfl⟩ hN (hT0.keep hS hAs) hK hP [] (by simp only [List.filterMap_cons, List.filterMap_nil]) [] rfl hl.1 rfl (Nat.le_of_ble_eq_true rfl) d_Model_part_10) (fun r10 hr10 => ?_)
  refine lv_if_ne (tgt := 20) hx hb d_Model_part_13 (by decide) (fun c13 => ?_) (fun c13 => ?_)
  · have p13 : ¬ (r10 = (0 : Int32)) := c13
    refine lv_iconst (v := 0) hx hb d_Model_part_20 (by decide) ?_
    refine lv_iconst (v := 1) hx hb d_Model_part_21 (by decide) ?_
    have hFc := va_free (wc := G_2) hD hS hA (List.range G_2.length) (rg_is _)
    refine va_calli (mu_runV (As := [.int 0, .int 1]) (rest := []) ⟨hx, hb, hml, hown, hts⟩ tbin (m_Model_fails_0 l dC dI sb γ κ Ad τ gT G_2 mo _ _ _ _ _ _ _ _ _ _ _ _ _ _ _ _ _ _ _ _ _ _ _ _ _ _ _ _ _ _ _ _ H2.size hTy (by have h9 := kmo; rw [eX_3] at h9; exact h9) ) q8_79 q8_81 qp_36 q1_9 q8_82 (n := 2) (by decide +kernel) rfl ⟨rfl, rfl⟩ ⟨Nat.le_of_ble_eq_true rfl, Nat.le_of_ble_eq_true rfl⟩ ⟨Nat.le_of_ble_eq_true rfl, Nat.le_of_ble_eq_true rfl⟩ hN (hT0.keep hS hAs) hAs (Nat.le_trans hB0 hS.1) hK hP hD (List.range G_2.length) (rg_nd _) (rg_is _) [0, 1, 2, 3, 4] rfl i_1 12 hg_1 rfl rfl hl.1 rfl (Nat.le_of_ble_eq_true rfl) d_Model_part_22) hS (fun q _ h => hFc q h) hFc (fun r22 G_4 tS H22 locs ht hvm hw22 hB hz1 hk1 hS => ?_)
    obtain ⟨hTy, hF9, hr22⟩ := hw22
    have kmo := kmo.fl hF9 (q_nmn)
    have kmsT := kmsT.fl hF9 (q_nmn)
    have hFR := hFR.tr (hF9.up (q_gan))
    obtain ⟨hP1, hK1, hD1⟩ := hB
    rw [ht] at hP1
    have hP : va_P (dC, dI) classes G_4 H22 := hP1
    have hD : va_D A G_4 := hD1.weaken (fun _ _ _ h => hFc _ h)
    subst hr22
    refine lv_if_ne (tgt := 37) hx hb d_Model_part_25 (by decide) (fun c25 => ?_) (fun c25 => ?_)
    · exact absurd c25 (by decide)
    refine lv_aload_n hx hb d_Model_part_28 rfl (lv_at hl 0 rfl) ?_
    refine lv_iload_n hx hb d_Model_part_29 rfl (lv_at hl 1 rfl) ?_
    refine lv_iconst (v := 2) hx hb d_Model_part_30 (by decide) ?_
    have hFc := va_free (wc := G_4) hD hS hA (List.range G_4.length) (rg_is _)
    obtain ⟨i_6, hg_6⟩ := List.getElem?_of_mem kmo.2
    rw [eX_3] at hg_6
    refine va_calli (mu_runV (As := [.int (nI k9), .int 2]) (rest := []) ⟨hx, hb, hml, hown, hts⟩ tbin (m_Model_noc_0 l dC dI sb γ κ Ad τ gT G_4 mo _ _ _ _ _ _ _ _ _ _ _ _ _ _ _ _ _ _ _ _ _ _ _ _ _ _ _ _ _ _ _ _ _ H22.size hTy (by have h9 := kmo; rw [eX_3] at h9; exact h9) hk9 hK9) q9_64 q9_66 qp_39 q1_9 q9_67 (n := 2) (by decide +kernel) rfl ⟨rfl, rfl⟩ ⟨Nat.le_of_ble_eq_true rfl, Nat.le_of_ble_eq_true rfl⟩ ⟨Nat.le_of_ble_eq_true rfl, Nat.le_of_ble_eq_true rfl⟩ hN (hT0.keep hS hAs) hAs (Nat.le_trans hB0 hS.1) hK hP hD (List.range G_4.length) (rg_nd _) (rg_is _) [0, 1, 2, 3, 4] rfl i_6 12 hg_6 rfl rfl hl.1 rfl (Nat.le_of_ble_eq_true rfl) d_Model_part_31) hS (fun q _ h => hFc q h) hFc (fun r31 G_5 tS H31 locs ht hvm hw31 hB hz1 hk1 hS => ?_)
    obtain ⟨hTy, hF9, hr31⟩ := hw31
    have kmo := kmo.fl hF9 (q_nmn)
    have kmsT := kmsT.fl hF9 (q_nmn)
    have hFR := hFR.tr (hF9.up (q_gan))
    obtain ⟨hP1, hK1, hD1⟩ := hB
    rw [ht] at hP1
    have hP : va_P (dC, dI) classes G_5 H31 := hP1
    have hD : va_D A G_5 := hD1.weaken (fun _ _ _ h => hFc _ h)
    subst hr31
    refine lv_if_eq (tgt := 39) hx hb d_Model_part_34 (by decide) (fun c34 => ?_) (fun c34 => ?_)
    rotate_left
    · exact absurd c34 (by decide)
    refine lv_aload_n hx hb d_Model_part_39 rfl (lv_at hl 0 rfl) ?_
    obtain ⟨i_7, hg_7⟩ := List.getElem?_of_mem kmo.2
    rw [eX_3] at hg_7
    refine va_get (v := .ref msT) hx hb htb i_Model hown hK hP i_7 hg_7 rfl 6 (by decide) (htb _ q7_220) (fun _ h9 => h9) rfl d_Model_part_40 ?_
    refine lv_iload_n hx hb d_Model_part_43 rfl (lv_at hl 1 rfl) ?_
    obtain ⟨i_8, hg_8⟩ := List.getElem?_of_mem kmsT.2
    have h44 : vp_in (nI k9) 16 := vp_in_nI (by omega) (by omega)
    refine va_aldq hx hb hK hP i_8 4 hg_8 rfl h44 d_Model_part_44 ?_
    obtain ⟨t44, ft44, kt44, hc_t44⟩ := hst k9 (by omega)
    rw [show va_rf (fS (nI k9).toNatClampNeg) = .ref t44 from by rw [nI_clamp (by omega), ft44]; rfl]
    have b1_t44 := hc_t44.b1
    have b2_t44 := hc_t44.b2
    have b3_t44 := hc_t44.b3
    have b4_t44 := hc_t44.b4
    have b5_t44 := hc_t44.b5
    have b6_t44 := hc_t44.b6
    have b8_t44 := hc_t44.b8
    have b9_t44 := hc_t44.b9
    refine lv_astore_n (lv' := [(3, .ref t44), (0, .ref mo), (1, .int (nI k9)), (2, .int 0)]) hx hb d_Model_part_45 rfl hl (by decide) rfl (fun ls hl => ?_)
    refine lv_iload_n hx hb d_Model_part_46 rfl (lv_at hl 3 rfl) ?_
    have t47 : (0 : Int32).toInt = 0 := by decide
    refine lv_tableIn (tgt := 104) hx hb d_Model_part_47 (by omega) (by omega) (by rw [t47]; rfl) rfl ?_
    refine lv_aload_n hx hb d_Model_part_104 rfl (lv_at hl 0 rfl) ?_
    obtain ⟨i_9, kA_9, hg_9⟩ := tr_20 hTy kt44
    refine va_get (v := .long ((τ t44).J 7)) hx hb htb i_Text hown hK hP i_9 hg_9 rfl 7 (by decide) (htb _ q6_188) (fun _ h9 => h9) rfl d_Model_part_105 ?_
    exact W.lret (v := ((τ t44).J 7)) hx hb hr (fun t ht hW => ⟨⟨_, G_5, rfl, ⟨hTy, hFR, ⟨t44, ft44, rfl⟩, (by rw [eX_3] at kmo; exact kmo)⟩, by rw [ht]; exact hP, va_K.moved hW.alike hK, hD⟩, hS.F ht⟩) hS.2.2 d_Model_part_108
  · have p13 : r10 = (0 : Int32) := c13
    exact absurd hwhat (bz_0 hr10 p13)
set_option maxHeartbeats 4000000 in
set_option maxRecDepth 100000 in
theorem m_Model_part_ok1 (l : Launch) (dC : Nat → ClassId) (dI : Nat → Nat → Nat) (sb : sB) (γ : cG) (κ : kE) (Ad : List Nat) (τ : Nat → TD) (gT : ClassId) (G : va_W) (mo : Nat) (moc msT mrV msP mrA mbA mwA mhA mfA mpA mxA myA mmA mqA mzA mwy mfd : Nat) (mer mwr mqs msz mch mft mpt mdp mvd mmk : Int32) (mnw : Int64) (K9 KL cz fd : Nat) (k9 : Nat) (fS : Nat → Option Nat) (sz : Nat) (hTy : TR γ κ Ad τ G) (kmo : Xc Ad mo (.inr (12, (.int mer :: .int (nI fd) :: .int mwr :: .int (nI K9) :: .int (nI KL) :: .ref moc :: .ref msT :: .ref mrV :: .ref msP :: .int mqs :: .ref mrA :: .ref mbA :: .ref mwA :: .ref mhA :: .ref mfA :: .ref mpA :: .ref mxA :: .ref myA :: .ref mmA :: .ref mqA :: .ref mzA :: .ref mwy :: .ref mfd :: .int msz :: .int (nI cz) :: .int mch :: .int mft :: .int mpt :: .int mdp :: .int mvd :: .long mnw :: .int mmk :: []))) G) (kmsT : Xc Ad msT (.inl (gT, 16, .inr (.inr (.inr (.inr fS))))) G) (hx_mo_msT : mo ≠ msT) (hst : STc κ Ad τ K9 fS) (hK9 : K9 ≤ 16) (hk9 : k9 < K9) : Met l y_Model_part w_Model_part ({ frames := 2, cells := 0, slots := 0, locals := 44 }) (mu_P [.ref mo, .int (nI k9), .int 1] (dC, dI) sb G [(γ.1, .byte), (γ.2.1, .int), (γ.2.2.1, .long), (γ.2.2.2, .object "java/lang/Object"), (gT, .object "TrustChainModel$Text")] sz) (va_Ql (fun r (G' : va_W) => TR γ κ Ad τ G' ∧ FL Ad [mo] G G' ∧ ((∃ t, fS k9 = some t ∧ r = (τ t).J 8) ∧ Xc Ad mo (.inr (12, (.int 0 :: .int (nI fd) :: .int mwr :: .int (nI K9) :: .int (nI KL) :: .ref moc :: .ref msT :: .ref mrV :: .ref msP :: .int mqs :: .ref mrA :: .ref mbA :: .ref mwA :: .ref mhA :: .ref mfA :: .ref mpA :: .ref mxA :: .ref myA :: .ref mmA :: .ref mqA :: .ref mzA :: .ref mwy :: .ref mfd :: .int msz :: .int (nI cz) :: .int mch :: .int mft :: .int mpt :: .int mdp :: .int mvd :: .long mnw :: .int mmk :: []))) G')) (mu_B (dC, dI) [(γ.1, .byte), (γ.2.1, .int), (γ.2.2.1, .long), (γ.2.2.2, .object "java/lang/Object"), (gT, .object "TrustChainModel$Text")] (va_A G sz) (fun G' : va_W => G')) (va_A G sz)) 0 0 (va_A G sz) := by
  refine Met.ofW (cc := b_Model_part) (maxL := 6) (ret := (some FieldType.long)) (by decide) rfl ?_
  intro p e s m args below meth c s₁ B hml hv
  obtain ⟨rfl, hsz, hB0, hP, hK, hD0, hN, hT0⟩ := hv
  have hx := B.exec
  have hb := B.bytes
  have hr := B.returns
  have hts := atoms_spec (ws := w_Model_part) B.pre
  have tbin : ∀ w ∈ tb, w ∈ w_Model_part := fun w h => List.mem_cons_of_mem _ h
  have htb : ∀ w ∈ tb, w.before _ s = true := fun w h => hts w (tbin w h)
  have hown : s.vm.findClass "TrustChainModel" = some m.cls := findClass_of_methodNamed B.named
  have hlocks := B.notSynchronized
  subst hsz
  have hD := hD0.self (sz := s.heap.size)
  generalize hAe : va_A G s.heap.size = A at hD ⊢
  have hA : ∀ q : Nat, s.heap.size ≤ q → A q := fun q h => by rw [← hAe]; exact Or.inr h
  have hAs : ∀ q : Nat, A q → sb.1 ≤ q := fun q h => by
    rw [← hAe] at h
    rcases h with ⟨k, e, h⟩ | h
    · exact hD0.2 k _ h
    · exact Nat.le_trans hB0 h
  have hS : va_S A s.heap s.heap [] := va_S.rf
  have hFR := FL.rf Ad [mo] G
  have hcs : 0 ≤ (headSpec w_Model_part ({ frames := 2, cells := 0, slots := 0, locals := 44 })).room.cells ∧ 0 ≤ (headSpec w_Model_part ({ frames := 2, cells := 0, slots := 0, locals := 44 })).room.slots := ⟨Nat.le_refl _, Nat.le_refl _⟩
  have hP : va_P (dC, dI) classes G s.heap := hP
  have hl := lv_entry ([.ref mo, .int (nI k9), .int 1]) (n := 6) (Nat.le_of_ble_eq_true rfl)
  rw [lg_entry_eq]
  generalize (lg_sl ([.ref mo, .int (nI k9), .int 1]) ++ List.replicate (6 - (lg_sl ([.ref mo, .int (nI k9), .int 1])).length) Slot.unset).toArray = ls at hl ⊢
  have hl : lv_has ls 6 [(0, .ref mo), (1, .int (nI k9)), (2, .int 1)] := hl
  obtain ⟨cX_mo, eX_mo⟩ : ∃ z : va_E, z = .inr (12, (.int mer :: .int (nI fd) :: .int mwr :: .int (nI K9) :: .int (nI KL) :: .ref moc :: .ref msT :: .ref mrV :: .ref msP :: .int mqs :: .ref mrA :: .ref mbA :: .ref mwA :: .ref mhA :: .ref mfA :: .ref mpA :: .ref mxA :: .ref myA :: .ref mmA :: .ref mqA :: .ref mzA :: .ref mwy :: .ref mfd :: .int msz :: .int (nI cz) :: .int mch :: .int mft :: .int mpt :: .int mdp :: .int mvd :: .long mnw :: .int mmk :: [])) := ⟨_, rfl⟩
  rw [← eX_mo] at kmo
  have hwhat : ¬ (1 : Int32) < 0 ∧ ¬ (11 : Int32) < 1 := by decide
  refine lv_aload_n hx hb d_Model_part_0 rfl (lv_at hl 0 rfl) ?_
  refine lv_iconst (v := 0) hx hb d_Model_part_1 (by decide) ?_
  obtain ⟨i_1, hg_1⟩ := List.getElem?_of_mem kmo.2
  rw [eX_mo] at hg_1
  refine va_put (v := .int 0) (ty := .int) hx hb htb i_Model t_Model t_Model_ok n_Model hown hK hP hD hS i_1 hg_1 rfl 0 (by decide) (htb _ q7_214) (fun _ h9 => h9) rfl (by decide +kernel) rfl rfl (Nat.le_of_ble_eq_true rfl) d_Model_part_2 (fun H2 locs hP hD2 hS => ?_)
  have hP : va_P (dC, dI) classes (G.set i_1 (mo, .inr (12, (.int 0 :: .int (nI fd) :: .int mwr :: .int (nI K9) :: .int (nI KL) :: .ref moc :: .ref msT :: .ref mrV :: .ref msP :: .int mqs :: .ref mrA :: .ref mbA :: .ref mwA :: .ref mhA :: .ref mfA :: .ref mpA :: .ref mxA :: .ref myA :: .ref mmA :: .ref mqA :: .ref mzA :: .ref mwy :: .ref mfd :: .int msz :: .int (nI cz) :: .int mch :: .int mft :: .int mpt :: .int mdp :: .int mvd :: .long mnw :: .int mmk :: [])))) H2 := hP
  have hD3 : va_D A (G.set i_1 (mo, .inr (12, (.int 0 :: .int (nI fd) :: .int mwr :: .int (nI K9) :: .int (nI KL) :: .ref moc :: .ref msT :: .ref mrV :: .ref msP :: .int mqs :: .ref mrA :: .ref mbA :: .ref mwA :: .ref mhA :: .ref mfA :: .ref mpA :: .ref mxA :: .ref myA :: .ref mmA :: .ref mqA :: .ref mzA :: .ref mwy :: .ref mfd :: .int msz :: .int (nI cz) :: .int mch :: .int mft :: .int mpt :: .int mdp :: .int mvd :: .long mnw :: .int mmk :: [])))) := hD2
  have hTy := TR.setX (c' := .inr (12, (.int 0 :: .int (nI fd) :: .int mwr :: .int (nI K9) :: .int (nI KL) :: .ref moc :: .ref msT :: .ref mrV :: .ref msP :: .int mqs :: .ref mrA :: .ref mbA :: .ref mwA :: .ref mhA :: .ref mfA :: .ref mpA :: .ref mxA :: .ref myA :: .ref mmA :: .ref mqA :: .ref mzA :: .ref mwy :: .ref mfd :: .int msz :: .int (nI cz) :: .int mch :: .int mft :: .int mpt :: .int mdp :: .int mvd :: .long mnw :: .int mmk :: []))) hTy hg_1 kmo.1
  have kmsT := Xc.setX (c' := .inr (12, (.int 0 :: .int (nI fd) :: .int mwr :: .int (nI K9) :: .int (nI KL) :: .ref moc :: .ref msT :: .ref mrV :: .ref msP :: .int mqs :: .ref mrA :: .ref mbA :: .ref mwA :: .ref mhA :: .ref mfA :: .ref mpA :: .ref mxA :: .ref myA :: .ref mmA :: .ref mqA :: .ref mzA :: .ref mwy :: .ref mfd :: .int msz :: .int (nI cz) :: .int mch :: .int mft :: .int mpt :: .int mdp :: .int mvd :: .long mnw :: .int mmk :: []))) kmsT hg_1 (fun e => hx_mo_msT.symm (congrArg Prod.fst e))
  have hFR := hFR.tr (FL.set (Ad := Ad) (X := [mo]) (c' := .inr (12, (.int 0 :: .int (nI fd) :: .int mwr :: .int (nI K9) :: .int (nI KL) :: .ref moc :: .ref msT :: .ref mrV :: .ref msP :: .int mqs :: .ref mrA :: .ref mbA :: .ref mwA :: .ref mhA :: .ref mfA :: .ref mpA :: .ref mxA :: .ref myA :: .ref mmA :: .ref mqA :: .ref mzA :: .ref mwy :: .ref mfd :: .int msz :: .int (nI cz) :: .int mch :: .int mft :: .int mpt :: .int mdp :: .int mvd :: .long mnw :: .int mmk :: []))) hg_1 (by simp))
  have hg_1 := set_here (c' := .inr (12, (.int 0 :: .int (nI fd) :: .int mwr :: .int (nI K9) :: .int (nI KL) :: .ref moc :: .ref msT :: .ref mrV :: .ref msP :: .int mqs :: .ref mrA :: .ref mbA :: .ref mwA :: .ref mhA :: .ref mfA :: .ref mpA :: .ref mxA :: .ref myA :: .ref mmA :: .ref mqA :: .ref mzA :: .ref mwy :: .ref mfd :: .int msz :: .int (nI cz) :: .int mch :: .int mft :: .int mpt :: .int mdp :: .int mvd :: .long mnw :: .int mmk :: []))) hg_1
  have kmo : Xc Ad mo (.inr (12, (.int 0 :: .int (nI fd) :: .int mwr :: .int (nI K9) :: .int (nI KL) :: .ref moc :: .ref msT :: .ref mrV :: .ref msP :: .int mqs :: .ref mrA :: .ref mbA :: .ref mwA :: .ref mhA :: .ref mfA :: .ref mpA :: .ref mxA :: .ref myA :: .ref mmA :: .ref mqA :: .ref mzA :: .ref mwy :: .ref mfd :: .int msz :: .int (nI cz) :: .int mch :: .int mft :: .int mpt :: .int mdp :: .int mvd :: .long mnw :: .int mmk :: []))) (G.set i_1 (mo, .inr (12, (.int 0 :: .int (nI fd) :: .int mwr :: .int (nI K9) :: .int (nI KL) :: .ref moc :: .ref msT :: .ref mrV :: .ref msP :: .int mqs :: .ref mrA :: .ref mbA :: .ref mwA :: .ref mhA :: .ref mfA :: .ref mpA :: .ref mxA :: .ref myA :: .ref mmA :: .ref mqA :: .ref mzA :: .ref mwy :: .ref mfd :: .int msz :: .int (nI cz) :: .int mch :: .int mft :: .int mpt :: .int mdp :: .int mvd :: .long mnw :: .int mmk :: [])))) := ⟨kmo.1, List.mem_of_getElem? hg_1⟩
  have hD := hD3
  clear hD3 hD2
  generalize G.set i_1 (mo, .inr (12, (.int 0 :: .int (nI fd) :: .int mwr :: .int (nI K9) :: .int (nI KL) :: .ref moc :: .ref msT :: .ref mrV :: .ref msP :: .int mqs :: .ref mrA :: .ref mbA :: .ref mwA :: .ref mhA :: .ref mfA :: .ref mpA :: .ref mxA :: .ref myA :: .ref mmA :: .ref mqA :: .ref mzA :: .ref mwy :: .ref mfd :: .int msz :: .int (nI cz) :: .int mch :: .int mft :: .int mpt :: .int mdp :: .int mvd :: .long mnw :: .int mmk :: []))) = G_2 at hP hD hTy hFR kmo kmsT hg_1
  obtain ⟨cX_3, eX_3⟩ : ∃ z : va_E, z = .inr (12, (.int 0 :: .int (nI fd) :: .int mwr :: .int (nI K9) :: .int (nI KL) :: .ref moc :: .ref msT :: .ref mrV :: .ref msP :: .int mqs :: .ref mrA :: .ref mbA :: .ref mwA :: .ref mhA :: .ref mfA :: .ref mpA :: .ref mxA :: .ref myA :: .ref mmA :: .ref mqA :: .ref mzA :: .ref mwy :: .ref mfd :: .int msz :: .int (nI cz) :: .int mch :: .int mft :: .int mpt :: .int mdp :: .int mvd :: .long mnw :: .int mmk :: [])) := ⟨_, rfl⟩
  rw [← eX_3] at kmo
  refine lv_aload_n hx hb d_Model_part_5 rfl (lv_at hl 0 rfl) ?_
  refine lv_iload_n hx hb d_Model_part_6 rfl (lv_at hl 2 rfl) ?_
  refine lv_iconst (v := 0) hx hb d_Model_part_7 (by decide) ?_
  refine lv_bipush (v := 11) hx hb d_Model_part_8 (by decide) ?_
  refine vp_callSi (pu_callS (As := [.int 1, .int 0, .int 11]) (rest := [.ref mo]) ⟨hx, hb, hml, hown, hts⟩ tbin (c_Model_in l dC dI sb (1 : Int32) (0 : Int32) (11 : Int32)) q9_68 q8_116 q1_9 q8_117 (n := 3) (by decide +kernel) rfl ⟨rfl, rfl⟩ ⟨Nat.le_of_ble_eq_true rfl, Nat.le_of_ble_eq_true rfl⟩ ⟨Nat.le_of_ble_eq_true rfl, Nat.le_of_ble_eq_true rfl⟩ hN (hT0.keep hS hAs) hK hP [] (by simp only [List.filterMap_cons, List.filterMap_nil]) [] rfl hl.1 rfl (Nat.le_of_ble_eq_true rfl) d_Model_part_10) (fun r10 hr10 => ?_)
  refine lv_if_ne (tgt := 20) hx hb d_Model_part_13 (by decide) (fun c13 => ?_) (fun c13 => ?_)
  · have p13 : ¬ (r10 = (0 : Int32)) := c13
    refine lv_iconst (v := 0) hx hb d_Model_part_20 (by decide) ?_
    refine lv_iconst (v := 1) hx hb d_Model_part_21 (by decide) ?_
    have hFc := va_free (wc := G_2) hD hS hA (List.range G_2.length) (rg_is _)
    refine va_calli (mu_runV (As := [.int 0, .int 1]) (rest := []) ⟨hx, hb, hml, hown, hts⟩ tbin (m_Model_fails_0 l dC dI sb γ κ Ad τ gT G_2 mo _ _ _ _ _ _ _ _ _ _ _ _ _ _ _ _ _ _ _ _ _ _ _ _ _ _ _ _ _ _ _ _ H2.size hTy (by have h9 := kmo; rw [eX_3] at h9; exact h9) ) q8_79 q8_81 qp_36 q1_9 q8_82 (n := 2) (by decide +kernel) rfl ⟨rfl, rfl⟩ ⟨Nat.le_of_ble_eq_true rfl, Nat.le_of_ble_eq_true rfl⟩ ⟨Nat.le_of_ble_eq_true rfl, Nat.le_of_ble_eq_true rfl⟩ hN (hT0.keep hS hAs) hAs (Nat.le_trans hB0 hS.1) hK hP hD (List.range G_2.length) (rg_nd _) (rg_is _) [0, 1, 2, 3, 4] rfl i_1 12 hg_1 rfl rfl hl.1 rfl (Nat.le_of_ble_eq_true rfl) d_Model_part_22) hS (fun q _ h => hFc q h) hFc (fun r22 G_4 tS H22 locs ht hvm hw22 hB hz1 hk1 hS => ?_)
    obtain ⟨hTy, hF9, hr22⟩ := hw22
    have kmo := kmo.fl hF9 (q_nmn)
    have kmsT := kmsT.fl hF9 (q_nmn)
    have hFR := hFR.tr (hF9.up (q_gan))
    obtain ⟨hP1, hK1, hD1⟩ := hB
    rw [ht] at hP1
    have hP : va_P (dC, dI) classes G_4 H22 := hP1
    have hD : va_D A G_4 := hD1.weaken (fun _ _ _ h => hFc _ h)
    subst hr22
    refine lv_if_ne (tgt := 37) hx hb d_Model_part_25 (by decide) (fun c25 => ?_) (fun c25 => ?_)
    · exact absurd c25 (by decide)
    refine lv_aload_n hx hb d_Model_part_28 rfl (lv_at hl 0 rfl) ?_
    refine lv_iload_n hx hb d_Model_part_29 rfl (lv_at hl 1 rfl) ?_
    refine lv_iconst (v := 2) hx hb d_Model_part_30 (by decide) ?_
    have hFc := va_free (wc := G_4) hD hS hA (List.range G_4.length) (rg_is _)
    obtain ⟨i_6, hg_6⟩ := List.getElem?_of_mem kmo.2
    rw [eX_3] at hg_6
    refine va_calli (mu_runV (As := [.int (nI k9), .int 2]) (rest := []) ⟨hx, hb, hml, hown, hts⟩ tbin (m_Model_noc_0 l dC dI sb γ κ Ad τ gT G_4 mo _ _ _ _ _ _ _ _ _ _ _ _ _ _ _ _ _ _ _ _ _ _ _ _ _ _ _ _ _ _ _ _ _ H22.size hTy (by have h9 := kmo; rw [eX_3] at h9; exact h9) hk9 hK9) q9_64 q9_66 qp_39 q1_9 q9_67 (n := 2) (by decide +kernel) rfl ⟨rfl, rfl⟩ ⟨Nat.le_of_ble_eq_true rfl, Nat.le_of_ble_eq_true rfl⟩ ⟨Nat.le_of_ble_eq_true rfl, Nat.le_of_ble_eq_true rfl⟩ hN (hT0.keep hS hAs) hAs (Nat.le_trans hB0 hS.1) hK hP hD (List.range G_4.length) (rg_nd _) (rg_is _) [0, 1, 2, 3, 4] rfl i_6 12 hg_6 rfl rfl hl.1 rfl (Nat.le_of_ble_eq_true rfl) d_Model_part_31) hS (fun q _ h => hFc q h) hFc (fun r31 G_5 tS H31 locs ht hvm hw31 hB hz1 hk1 hS => ?_)
    obtain ⟨hTy, hF9, hr31⟩ := hw31
    have kmo := kmo.fl hF9 (q_nmn)
    have kmsT := kmsT.fl hF9 (q_nmn)
    have hFR := hFR.tr (hF9.up (q_gan))
    obtain ⟨hP1, hK1, hD1⟩ := hB
    rw [ht] at hP1
    have hP : va_P (dC, dI) classes G_5 H31 := hP1
    have hD : va_D A G_5 := hD1.weaken (fun _ _ _ h => hFc _ h)
    subst hr31
    refine lv_if_eq (tgt := 39) hx hb d_Model_part_34 (by decide) (fun c34 => ?_) (fun c34 => ?_)
    rotate_left
    · exact absurd c34 (by decide)
    refine lv_aload_n hx hb d_Model_part_39 rfl (lv_at hl 0 rfl) ?_
    obtain ⟨i_7, hg_7⟩ := List.getElem?_of_mem kmo.2
    rw [eX_3] at hg_7
    refine va_get (v := .ref msT) hx hb htb i_Model hown hK hP i_7 hg_7 rfl 6 (by decide) (htb _ q7_220) (fun _ h9 => h9) rfl d_Model_part_40 ?_
    refine lv_iload_n hx hb d_Model_part_43 rfl (lv_at hl 1 rfl) ?_
    obtain ⟨i_8, hg_8⟩ := List.getElem?_of_mem kmsT.2
    have h44 : vp_in (nI k9) 16 := vp_in_nI (by omega) (by omega)
    refine va_aldq hx hb hK hP i_8 4 hg_8 rfl h44 d_Model_part_44 ?_
    obtain ⟨t44, ft44, kt44, hc_t44⟩ := hst k9 (by omega)
    rw [show va_rf (fS (nI k9).toNatClampNeg) = .ref t44 from by rw [nI_clamp (by omega), ft44]; rfl]
    have b1_t44 := hc_t44.b1
    have b2_t44 := hc_t44.b2
    have b3_t44 := hc_t44.b3
    have b4_t44 := hc_t44.b4
    have b5_t44 := hc_t44.b5
    have b6_t44 := hc_t44.b6
    have b8_t44 := hc_t44.b8
    have b9_t44 := hc_t44.b9
    refine lv_astore_n (lv' := [(3, .ref t44), (0, .ref mo), (1, .int (nI k9)), (2, .int 1)]) hx hb d_Model_part_45 rfl hl (by decide) rfl (fun ls hl => ?_)
    refine lv_iload_n hx hb d_Model_part_46 rfl (lv_at hl 3 rfl) ?_
    have t47 : (1 : Int32).toInt = 1 := by decide
    refine lv_tableIn (tgt := 109) hx hb d_Model_part_47 (by omega) (by omega) (by rw [t47]; rfl) rfl ?_
    refine lv_aload_n hx hb d_Model_part_109 rfl (lv_at hl 0 rfl) ?_
    obtain ⟨i_9, kA_9, hg_9⟩ := tr_20 hTy kt44
    refine va_get (v := .long ((τ t44).J 8)) hx hb htb i_Text hown hK hP i_9 hg_9 rfl 8 (by decide) (htb _ q6_190) (fun _ h9 => h9) rfl d_Model_part_110 ?_
    exact W.lret (v := ((τ t44).J 8)) hx hb hr (fun t ht hW => ⟨⟨_, G_5, rfl, ⟨hTy, hFR, ⟨t44, ft44, rfl⟩, (by rw [eX_3] at kmo; exact kmo)⟩, by rw [ht]; exact hP, va_K.moved hW.alike hK, hD⟩, hS.F ht⟩) hS.2.2 d_Model_part_113
  · have p13 : r10 = (0 : Int32) := c13
    exact absurd hwhat (bz_0 hr10 p13)
set_option maxHeartbeats 4000000 in
set_option maxRecDepth 100000 in
theorem m_Model_part_ok2 (l : Launch) (dC : Nat → ClassId) (dI : Nat → Nat → Nat) (sb : sB) (γ : cG) (κ : kE) (Ad : List Nat) (τ : Nat → TD) (gT : ClassId) (G : va_W) (mo : Nat) (moc msT mrV msP mrA mbA mwA mhA mfA mpA mxA myA mmA mqA mzA mwy mfd : Nat) (mer mwr mqs msz mch mft mpt mdp mvd mmk : Int32) (mnw : Int64) (K9 KL cz fd : Nat) (k9 : Nat) (fS : Nat → Option Nat) (sz : Nat) (hTy : TR γ κ Ad τ G) (kmo : Xc Ad mo (.inr (12, (.int mer :: .int (nI fd) :: .int mwr :: .int (nI K9) :: .int (nI KL) :: .ref moc :: .ref msT :: .ref mrV :: .ref msP :: .int mqs :: .ref mrA :: .ref mbA :: .ref mwA :: .ref mhA :: .ref mfA :: .ref mpA :: .ref mxA :: .ref myA :: .ref mmA :: .ref mqA :: .ref mzA :: .ref mwy :: .ref mfd :: .int msz :: .int (nI cz) :: .int mch :: .int mft :: .int mpt :: .int mdp :: .int mvd :: .long mnw :: .int mmk :: []))) G) (kmsT : Xc Ad msT (.inl (gT, 16, .inr (.inr (.inr (.inr fS))))) G) (hx_mo_msT : mo ≠ msT) (hst : STc κ Ad τ K9 fS) (hK9 : K9 ≤ 16) (hk9 : k9 < K9) : Met l y_Model_part w_Model_part ({ frames := 2, cells := 0, slots := 0, locals := 44 }) (mu_P [.ref mo, .int (nI k9), .int 2] (dC, dI) sb G [(γ.1, .byte), (γ.2.1, .int), (γ.2.2.1, .long), (γ.2.2.2, .object "java/lang/Object"), (gT, .object "TrustChainModel$Text")] sz) (va_Ql (fun r (G' : va_W) => TR γ κ Ad τ G' ∧ FL Ad [mo] G G' ∧ ((∃ t, fS k9 = some t ∧ r = (nI (8 * ((τ t).me - (τ t).mo - 1) + (8 - lzD ((τ t).u (τ t).mo)))).toInt64) ∧ Xc Ad mo (.inr (12, (.int 0 :: .int (nI fd) :: .int mwr :: .int (nI K9) :: .int (nI KL) :: .ref moc :: .ref msT :: .ref mrV :: .ref msP :: .int mqs :: .ref mrA :: .ref mbA :: .ref mwA :: .ref mhA :: .ref mfA :: .ref mpA :: .ref mxA :: .ref myA :: .ref mmA :: .ref mqA :: .ref mzA :: .ref mwy :: .ref mfd :: .int msz :: .int (nI cz) :: .int mch :: .int mft :: .int mpt :: .int mdp :: .int mvd :: .long mnw :: .int mmk :: []))) G')) (mu_B (dC, dI) [(γ.1, .byte), (γ.2.1, .int), (γ.2.2.1, .long), (γ.2.2.2, .object "java/lang/Object"), (gT, .object "TrustChainModel$Text")] (va_A G sz) (fun G' : va_W => G')) (va_A G sz)) 0 0 (va_A G sz) := by
  refine Met.ofW (cc := b_Model_part) (maxL := 6) (ret := (some FieldType.long)) (by decide) rfl ?_
  intro p e s m args below meth c s₁ B hml hv
  obtain ⟨rfl, hsz, hB0, hP, hK, hD0, hN, hT0⟩ := hv
  have hx := B.exec
  have hb := B.bytes
  have hr := B.returns
  have hts := atoms_spec (ws := w_Model_part) B.pre
  have tbin : ∀ w ∈ tb, w ∈ w_Model_part := fun w h => List.mem_cons_of_mem _ h
  have htb : ∀ w ∈ tb, w.before _ s = true := fun w h => hts w (tbin w h)
  have hown : s.vm.findClass "TrustChainModel" = some m.cls := findClass_of_methodNamed B.named
  have hlocks := B.notSynchronized
  subst hsz
  have hD := hD0.self (sz := s.heap.size)
  generalize hAe : va_A G s.heap.size = A at hD ⊢
  have hA : ∀ q : Nat, s.heap.size ≤ q → A q := fun q h => by rw [← hAe]; exact Or.inr h
  have hAs : ∀ q : Nat, A q → sb.1 ≤ q := fun q h => by
    rw [← hAe] at h
    rcases h with ⟨k, e, h⟩ | h
    · exact hD0.2 k _ h
    · exact Nat.le_trans hB0 h
  have hS : va_S A s.heap s.heap [] := va_S.rf
  have hFR := FL.rf Ad [mo] G
  have hcs : 0 ≤ (headSpec w_Model_part ({ frames := 2, cells := 0, slots := 0, locals := 44 })).room.cells ∧ 0 ≤ (headSpec w_Model_part ({ frames := 2, cells := 0, slots := 0, locals := 44 })).room.slots := ⟨Nat.le_refl _, Nat.le_refl _⟩
  have hP : va_P (dC, dI) classes G s.heap := hP
  have hl := lv_entry ([.ref mo, .int (nI k9), .int 2]) (n := 6) (Nat.le_of_ble_eq_true rfl)
  rw [lg_entry_eq]
  generalize (lg_sl ([.ref mo, .int (nI k9), .int 2]) ++ List.replicate (6 - (lg_sl ([.ref mo, .int (nI k9), .int 2])).length) Slot.unset).toArray = ls at hl ⊢
  have hl : lv_has ls 6 [(0, .ref mo), (1, .int (nI k9)), (2, .int 2)] := hl
  obtain ⟨cX_mo, eX_mo⟩ : ∃ z : va_E, z = .inr (12, (.int mer :: .int (nI fd) :: .int mwr :: .int (nI K9) :: .int (nI KL) :: .ref moc :: .ref msT :: .ref mrV :: .ref msP :: .int mqs :: .ref mrA :: .ref mbA :: .ref mwA :: .ref mhA :: .ref mfA :: .ref mpA :: .ref mxA :: .ref myA :: .ref mmA :: .ref mqA :: .ref mzA :: .ref mwy :: .ref mfd :: .int msz :: .int (nI cz) :: .int mch :: .int mft :: .int mpt :: .int mdp :: .int mvd :: .long mnw :: .int mmk :: [])) := ⟨_, rfl⟩
  rw [← eX_mo] at kmo
  have hwhat : ¬ (2 : Int32) < 0 ∧ ¬ (11 : Int32) < 2 := by decide
  refine lv_aload_n hx hb d_Model_part_0 rfl (lv_at hl 0 rfl) ?_
  refine lv_iconst (v := 0) hx hb d_Model_part_1 (by decide) ?_
  obtain ⟨i_1, hg_1⟩ := List.getElem?_of_mem kmo.2
  rw [eX_mo] at hg_1
  refine va_put (v := .int 0) (ty := .int) hx hb htb i_Model t_Model t_Model_ok n_Model hown hK hP hD hS i_1 hg_1 rfl 0 (by decide) (htb _ q7_214) (fun _ h9 => h9) rfl (by decide +kernel) rfl rfl (Nat.le_of_ble_eq_true rfl) d_Model_part_2 (fun H2 locs hP hD2 hS => ?_)
  have hP : va_P (dC, dI) classes (G.set i_1 (mo, .inr (12, (.int 0 :: .int (nI fd) :: .int mwr :: .int (nI K9) :: .int (nI KL) :: .ref moc :: .ref msT :: .ref mrV :: .ref msP :: .int mqs :: .ref mrA :: .ref mbA :: .ref mwA :: .ref mhA :: .ref mfA :: .ref mpA :: .ref mxA :: .ref myA :: .ref mmA :: .ref mqA :: .ref mzA :: .ref mwy :: .ref mfd :: .int msz :: .int (nI cz) :: .int mch :: .int mft :: .int mpt :: .int mdp :: .int mvd :: .long mnw :: .int mmk :: [])))) H2 := hP
  have hD3 : va_D A (G.set i_1 (mo, .inr (12, (.int 0 :: .int (nI fd) :: .int mwr :: .int (nI K9) :: .int (nI KL) :: .ref moc :: .ref msT :: .ref mrV :: .ref msP :: .int mqs :: .ref mrA :: .ref mbA :: .ref mwA :: .ref mhA :: .ref mfA :: .ref mpA :: .ref mxA :: .ref myA :: .ref mmA :: .ref mqA :: .ref mzA :: .ref mwy :: .ref mfd :: .int msz :: .int (nI cz) :: .int mch :: .int mft :: .int mpt :: .int mdp :: .int mvd :: .long mnw :: .int mmk :: [])))) := hD2
  have hTy := TR.setX (c' := .inr (12, (.int 0 :: .int (nI fd) :: .int mwr :: .int (nI K9) :: .int (nI KL) :: .ref moc :: .ref msT :: .ref mrV :: .ref msP :: .int mqs :: .ref mrA :: .ref mbA :: .ref mwA :: .ref mhA :: .ref mfA :: .ref mpA :: .ref mxA :: .ref myA :: .ref mmA :: .ref mqA :: .ref mzA :: .ref mwy :: .ref mfd :: .int msz :: .int (nI cz) :: .int mch :: .int mft :: .int mpt :: .int mdp :: .int mvd :: .long mnw :: .int mmk :: []))) hTy hg_1 kmo.1
  have kmsT := Xc.setX (c' := .inr (12, (.int 0 :: .int (nI fd) :: .int mwr :: .int (nI K9) :: .int (nI KL) :: .ref moc :: .ref msT :: .ref mrV :: .ref msP :: .int mqs :: .ref mrA :: .ref mbA :: .ref mwA :: .ref mhA :: .ref mfA :: .ref mpA :: .ref mxA :: .ref myA :: .ref mmA :: .ref mqA :: .ref mzA :: .ref mwy :: .ref mfd :: .int msz :: .int (nI cz) :: .int mch :: .int mft :: .int mpt :: .int mdp :: .int mvd :: .long mnw :: .int mmk :: []))) kmsT hg_1 (fun e => hx_mo_msT.symm (congrArg Prod.fst e))
  have hFR := hFR.tr (FL.set (Ad := Ad) (X := [mo]) (c' := .inr (12, (.int 0 :: .int (nI fd) :: .int mwr :: .int (nI K9) :: .int (nI KL) :: .ref moc :: .ref msT :: .ref mrV :: .ref msP :: .int mqs :: .ref mrA :: .ref mbA :: .ref mwA :: .ref mhA :: .ref mfA :: .ref mpA :: .ref mxA :: .ref myA :: .ref mmA :: .ref mqA :: .ref mzA :: .ref mwy :: .ref mfd :: .int msz :: .int (nI cz) :: .int mch :: .int mft :: .int mpt :: .int mdp :: .int mvd :: .long mnw :: .int mmk :: []))) hg_1 (by simp))
  have hg_1 := set_here (c' := .inr (12, (.int 0 :: .int (nI fd) :: .int mwr :: .int (nI K9) :: .int (nI KL) :: .ref moc :: .ref msT :: .ref mrV :: .ref msP :: .int mqs :: .ref mrA :: .ref mbA :: .ref mwA :: .ref mhA :: .ref mfA :: .ref mpA :: .ref mxA :: .ref myA :: .ref mmA :: .ref mqA :: .ref mzA :: .ref mwy :: .ref mfd :: .int msz :: .int (nI cz) :: .int mch :: .int mft :: .int mpt :: .int mdp :: .int mvd :: .long mnw :: .int mmk :: []))) hg_1
  have kmo : Xc Ad mo (.inr (12, (.int 0 :: .int (nI fd) :: .int mwr :: .int (nI K9) :: .int (nI KL) :: .ref moc :: .ref msT :: .ref mrV :: .ref msP :: .int mqs :: .ref mrA :: .ref mbA :: .ref mwA :: .ref mhA :: .ref mfA :: .ref mpA :: .ref mxA :: .ref myA :: .ref mmA :: .ref mqA :: .ref mzA :: .ref mwy :: .ref mfd :: .int msz :: .int (nI cz) :: .int mch :: .int mft :: .int mpt :: .int mdp :: .int mvd :: .long mnw :: .int mmk :: []))) (G.set i_1 (mo, .inr (12, (.int 0 :: .int (nI fd) :: .int mwr :: .int (nI K9) :: .int (nI KL) :: .ref moc :: .ref msT :: .ref mrV :: .ref msP :: .int mqs :: .ref mrA :: .ref mbA :: .ref mwA :: .ref mhA :: .ref mfA :: .ref mpA :: .ref mxA :: .ref myA :: .ref mmA :: .ref mqA :: .ref mzA :: .ref mwy :: .ref mfd :: .int msz :: .int (nI cz) :: .int mch :: .int mft :: .int mpt :: .int mdp :: .int mvd :: .long mnw :: .int mmk :: [])))) := ⟨kmo.1, List.mem_of_getElem? hg_1⟩
  have hD := hD3
  clear hD3 hD2
  generalize G.set i_1 (mo, .inr (12, (.int 0 :: .int (nI fd) :: .int mwr :: .int (nI K9) :: .int (nI KL) :: .ref moc :: .ref msT :: .ref mrV :: .ref msP :: .int mqs :: .ref mrA :: .ref mbA :: .ref mwA :: .ref mhA :: .ref mfA :: .ref mpA :: .ref mxA :: .ref myA :: .ref mmA :: .ref mqA :: .ref mzA :: .ref mwy :: .ref mfd :: .int msz :: .int (nI cz) :: .int mch :: .int mft :: .int mpt :: .int mdp :: .int mvd :: .long mnw :: .int mmk :: []))) = G_2 at hP hD hTy hFR kmo kmsT hg_1
  obtain ⟨cX_3, eX_3⟩ : ∃ z : va_E, z = .inr (12, (.int 0 :: .int (nI fd) :: .int mwr :: .int (nI K9) :: .int (nI KL) :: .ref moc :: .ref msT :: .ref mrV :: .ref msP :: .int mqs :: .ref mrA :: .ref mbA :: .ref mwA :: .ref mhA :: .ref mfA :: .ref mpA :: .ref mxA :: .ref myA :: .ref mmA :: .ref mqA :: .ref mzA :: .ref mwy :: .ref mfd :: .int msz :: .int (nI cz) :: .int mch :: .int mft :: .int mpt :: .int mdp :: .int mvd :: .long mnw :: .int mmk :: [])) := ⟨_, rfl⟩
  rw [← eX_3] at kmo
  refine lv_aload_n hx hb d_Model_part_5 rfl (lv_at hl 0 rfl) ?_
  refine lv_iload_n hx hb d_Model_part_6 rfl (lv_at hl 2 rfl) ?_
  refine lv_iconst (v := 0) hx hb d_Model_part_7 (by decide) ?_
  refine lv_bipush (v := 11) hx hb d_Model_part_8 (by decide) ?_
  refine vp_callSi (pu_callS (As := [.int 2, .int 0, .int 11]) (rest := [.ref mo]) ⟨hx, hb, hml, hown, hts⟩ tbin (c_Model_in l dC dI sb (2 : Int32) (0 : Int32) (11 : Int32)) q9_68 q8_116 q1_9 q8_117 (n := 3) (by decide +kernel) rfl ⟨rfl, rfl⟩ ⟨Nat.le_of_ble_eq_true rfl, Nat.le_of_ble_eq_true rfl⟩ ⟨Nat.le_of_ble_eq_true rfl, Nat.le_of_ble_eq_true rfl⟩ hN (hT0.keep hS hAs) hK hP [] (by simp only [List.filterMap_cons, List.filterMap_nil]) [] rfl hl.1 rfl (Nat.le_of_ble_eq_true rfl) d_Model_part_10) (fun r10 hr10 => ?_)
  refine lv_if_ne (tgt := 20) hx hb d_Model_part_13 (by decide) (fun c13 => ?_) (fun c13 => ?_)
  · have p13 : ¬ (r10 = (0 : Int32)) := c13
    refine lv_iconst (v := 0) hx hb d_Model_part_20 (by decide) ?_
    refine lv_iconst (v := 1) hx hb d_Model_part_21 (by decide) ?_
    have hFc := va_free (wc := G_2) hD hS hA (List.range G_2.length) (rg_is _)
    refine va_calli (mu_runV (As := [.int 0, .int 1]) (rest := []) ⟨hx, hb, hml, hown, hts⟩ tbin (m_Model_fails_0 l dC dI sb γ κ Ad τ gT G_2 mo _ _ _ _ _ _ _ _ _ _ _ _ _ _ _ _ _ _ _ _ _ _ _ _ _ _ _ _ _ _ _ _ H2.size hTy (by have h9 := kmo; rw [eX_3] at h9; exact h9) ) q8_79 q8_81 qp_36 q1_9 q8_82 (n := 2) (by decide +kernel) rfl ⟨rfl, rfl⟩ ⟨Nat.le_of_ble_eq_true rfl, Nat.le_of_ble_eq_true rfl⟩ ⟨Nat.le_of_ble_eq_true rfl, Nat.le_of_ble_eq_true rfl⟩ hN (hT0.keep hS hAs) hAs (Nat.le_trans hB0 hS.1) hK hP hD (List.range G_2.length) (rg_nd _) (rg_is _) [0, 1, 2, 3, 4] rfl i_1 12 hg_1 rfl rfl hl.1 rfl (Nat.le_of_ble_eq_true rfl) d_Model_part_22) hS (fun q _ h => hFc q h) hFc (fun r22 G_4 tS H22 locs ht hvm hw22 hB hz1 hk1 hS => ?_)
    obtain ⟨hTy, hF9, hr22⟩ := hw22
    have kmo := kmo.fl hF9 (q_nmn)
    have kmsT := kmsT.fl hF9 (q_nmn)
    have hFR := hFR.tr (hF9.up (q_gan))
    obtain ⟨hP1, hK1, hD1⟩ := hB
    rw [ht] at hP1
    have hP : va_P (dC, dI) classes G_4 H22 := hP1
    have hD : va_D A G_4 := hD1.weaken (fun _ _ _ h => hFc _ h)
    subst hr22
    refine lv_if_ne (tgt := 37) hx hb d_Model_part_25 (by decide) (fun c25 => ?_) (fun c25 => ?_)
    · exact absurd c25 (by decide)
    refine lv_aload_n hx hb d_Model_part_28 rfl (lv_at hl 0 rfl) ?_
    refine lv_iload_n hx hb d_Model_part_29 rfl (lv_at hl 1 rfl) ?_
    refine lv_iconst (v := 2) hx hb d_Model_part_30 (by decide) ?_
    have hFc := va_free (wc := G_4) hD hS hA (List.range G_4.length) (rg_is _)
    obtain ⟨i_6, hg_6⟩ := List.getElem?_of_mem kmo.2
    rw [eX_3] at hg_6
    refine va_calli (mu_runV (As := [.int (nI k9), .int 2]) (rest := []) ⟨hx, hb, hml, hown, hts⟩ tbin (m_Model_noc_0 l dC dI sb γ κ Ad τ gT G_4 mo _ _ _ _ _ _ _ _ _ _ _ _ _ _ _ _ _ _ _ _ _ _ _ _ _ _ _ _ _ _ _ _ _ H22.size hTy (by have h9 := kmo; rw [eX_3] at h9; exact h9) hk9 hK9) q9_64 q9_66 qp_39 q1_9 q9_67 (n := 2) (by decide +kernel) rfl ⟨rfl, rfl⟩ ⟨Nat.le_of_ble_eq_true rfl, Nat.le_of_ble_eq_true rfl⟩ ⟨Nat.le_of_ble_eq_true rfl, Nat.le_of_ble_eq_true rfl⟩ hN (hT0.keep hS hAs) hAs (Nat.le_trans hB0 hS.1) hK hP hD (List.range G_4.length) (rg_nd _) (rg_is _) [0, 1, 2, 3, 4] rfl i_6 12 hg_6 rfl rfl hl.1 rfl (Nat.le_of_ble_eq_true rfl) d_Model_part_31) hS (fun q _ h => hFc q h) hFc (fun r31 G_5 tS H31 locs ht hvm hw31 hB hz1 hk1 hS => ?_)
    obtain ⟨hTy, hF9, hr31⟩ := hw31
    have kmo := kmo.fl hF9 (q_nmn)
    have kmsT := kmsT.fl hF9 (q_nmn)
    have hFR := hFR.tr (hF9.up (q_gan))
    obtain ⟨hP1, hK1, hD1⟩ := hB
    rw [ht] at hP1
    have hP : va_P (dC, dI) classes G_5 H31 := hP1
    have hD : va_D A G_5 := hD1.weaken (fun _ _ _ h => hFc _ h)
    subst hr31
    refine lv_if_eq (tgt := 39) hx hb d_Model_part_34 (by decide) (fun c34 => ?_) (fun c34 => ?_)
    rotate_left
    · exact absurd c34 (by decide)
    refine lv_aload_n hx hb d_Model_part_39 rfl (lv_at hl 0 rfl) ?_
    obtain ⟨i_7, hg_7⟩ := List.getElem?_of_mem kmo.2
    rw [eX_3] at hg_7
    refine va_get (v := .ref msT) hx hb htb i_Model hown hK hP i_7 hg_7 rfl 6 (by decide) (htb _ q7_220) (fun _ h9 => h9) rfl d_Model_part_40 ?_
    refine lv_iload_n hx hb d_Model_part_43 rfl (lv_at hl 1 rfl) ?_
    obtain ⟨i_8, hg_8⟩ := List.getElem?_of_mem kmsT.2
    have h44 : vp_in (nI k9) 16 := vp_in_nI (by omega) (by omega)
    refine va_aldq hx hb hK hP i_8 4 hg_8 rfl h44 d_Model_part_44 ?_
    obtain ⟨t44, ft44, kt44, hc_t44⟩ := hst k9 (by omega)
    rw [show va_rf (fS (nI k9).toNatClampNeg) = .ref t44 from by rw [nI_clamp (by omega), ft44]; rfl]
    have b1_t44 := hc_t44.b1
    have b2_t44 := hc_t44.b2
    have b3_t44 := hc_t44.b3
    have b4_t44 := hc_t44.b4
    have b5_t44 := hc_t44.b5
    have b6_t44 := hc_t44.b6
    have b8_t44 := hc_t44.b8
    have b9_t44 := hc_t44.b9
    refine lv_astore_n (lv' := [(3, .ref t44), (0, .ref mo), (1, .int (nI k9)), (2, .int 2)]) hx hb d_Model_part_45 rfl hl (by decide) rfl (fun ls hl => ?_)
    refine lv_iload_n hx hb d_Model_part_46 rfl (lv_at hl 3 rfl) ?_
    have t47 : (2 : Int32).toInt = 2 := by decide
    refine lv_tableIn (tgt := 114) hx hb d_Model_part_47 (by omega) (by omega) (by rw [t47]; rfl) rfl ?_
    refine lv_bipush (v := 8) hx hb d_Model_part_114 (by decide) ?_
    refine lv_aload_n hx hb d_Model_part_116 rfl (lv_at hl 0 rfl) ?_
    obtain ⟨i_9, kA_9, hg_9⟩ := tr_20 hTy kt44
    refine va_get (v := .int ((τ t44).I 19)) hx hb htb i_Text hown hK hP i_9 hg_9 rfl 19 (by decide) (htb _ q6_211) (fun _ h9 => h9) rfl d_Model_part_117 ?_
    rw [hc_t44.e19]
    refine lv_aload_n hx hb d_Model_part_120 rfl (lv_at hl 0 rfl) ?_
    refine va_get (v := .int ((τ t44).I 18)) hx hb htb i_Text hown hK hP i_9 hg_9 rfl 18 (by decide) (htb _ q6_209) (fun _ h9 => h9) rfl d_Model_part_121 ?_
    rw [hc_t44.e18]
    refine lv_isub hx hb d_Model_part_124 ?_
    rw [show ((nI ((τ t44).me)) - (nI ((τ t44).mo)) : Int32) = nI (((τ t44).me) - ((τ t44).mo)) from pk_sub (a := ((τ t44).me)) (b := ((τ t44).mo)) (by omega)]
    refine lv_iconst (v := 1) hx hb d_Model_part_125 (by decide) ?_
    refine lv_isub hx hb d_Model_part_126 ?_
    rw [show ((nI (((τ t44).me) - ((τ t44).mo))) - 1 : Int32) = nI ((((τ t44).me) - ((τ t44).mo)) - 1) from pk_sub (a := (((τ t44).me) - ((τ t44).mo))) (b := 1) (by omega)]
    refine lv_imul hx hb d_Model_part_127 ?_
    rw [show (8 * (nI ((((τ t44).me) - ((τ t44).mo)) - 1)) : Int32) = nI (8 * ((((τ t44).me) - ((τ t44).mo)) - 1)) from nI_mul 8 ((((τ t44).me) - ((τ t44).mo)) - 1)]
    refine lv_istore (lv' := [(4, .int (nI (8 * ((((τ t44).me) - ((τ t44).mo)) - 1)))), (3, .ref t44), (0, .ref mo), (1, .int (nI k9)), (2, .int 2)]) hx hb d_Model_part_128 hl (by decide) rfl (fun ls hl => ?_)
    refine lv_aload_n hx hb d_Model_part_130 rfl (lv_at hl 1 rfl) ?_
    refine va_get (v := .ref ((τ t44).A 0)) hx hb htb i_Text hown hK hP i_9 hg_9 rfl 0 (by decide) (htb _ q6_179) (fun _ h9 => h9) rfl d_Model_part_131 ?_
    refine lv_aload_n hx hb d_Model_part_134 rfl (lv_at hl 1 rfl) ?_
    refine va_get (v := .int ((τ t44).I 18)) hx hb htb i_Text hown hK hP i_9 hg_9 rfl 18 (by decide) (htb _ q6_209) (fun _ h9 => h9) rfl d_Model_part_135 ?_
    rw [hc_t44.e18]
    obtain ⟨i_10, hg_10⟩ := tr_18 hTy (kA_9 0 (by decide))
    have hg_10 : G_5[i_10]? = some (((τ t44).A 0), .inl (γ.2.1, 2048, .inl ((τ t44).D 0))) := hg_10
    have h138 : vp_in (nI ((τ t44).mo)) 2048 := vp_in_nI (by omega) (by omega)
    refine va_iald hx hb hK hP i_10 1 hg_10 rfl h138 d_Model_part_138 ?_
    refine lv_topi (fun e138 he138 => ?_)
    rw [hc_t44.d, nI_clamp (by omega)] at he138
    obtain ⟨b138, hb138, hv138⟩ : ∃ b, b < 256 ∧ b = (τ t44).u ((τ t44).mo) := ⟨_, hc_t44.hu _, rfl⟩
    have he138 : e138 = nI b138 := by rw [he138, hv138]; rfl
    subst he138
    refine lv_istore (lv' := [(5, .int (nI b138)), (4, .int (nI (8 * ((((τ t44).me) - ((τ t44).mo)) - 1)))), (3, .ref t44), (0, .ref mo), (1, .int (nI k9)), (2, .int 2)]) hx hb d_Model_part_139 hl (by decide) rfl (fun ls hl => ?_)
    refine w_loop (α := Nat × Nat) (fun a9 => a9.1 < 256 ∧ a9.2 + (8 - lzD a9.1) = 8 * ((τ t44).me - (τ t44).mo - 1) + (8 - lzD ((τ t44).u (τ t44).mo))) (fun a9 => a9.1) (fun a9 => [(5, .int (nI a9.1)), (4, .int (nI a9.2)), (3, .ref t44), (0, .ref mo), (1, .int (nI k9)), (2, .int 2)]) (fun _ => []) 6 141 (fun a9 ls hJ hl ih141 => ?_) (b138, (8 * ((((τ t44).me) - ((τ t44).mo)) - 1))) ls ⟨hb138, by rw [hv138]⟩ (lv_sub hl [0, 1, 2, 3, 4, 5] rfl)
    obtain ⟨y9, c8⟩ := a9
    obtain ⟨hy9, hc8⟩ := hJ
    dsimp only at hy9 hc8 hl ih141
    refine lv_iload hx hb d_Model_part_141 (lv_at hl 0 rfl) ?_
    refine lv_if_le (tgt := 158) hx hb d_Model_part_143 (by decide) (fun c143 => ?_) (fun c143 => ?_)
    · have p143 : y9 ≤ 0 := ((nI_leI (a := y9) (b := 0) (by omega) (by omega)).mp c143)
      refine lv_iload hx hb d_Model_part_158 (lv_at hl 1 rfl) ?_
      refine lv_i2l (v := (nI c8).toInt64) hx hb d_Model_part_160 rfl ?_
      have ey9 : y9 = 0 := by omega
      rw [ey9, lz_0] at hc8
      exact W.lret (v := (nI c8).toInt64) hx hb hr (fun t ht hW => ⟨⟨_, G_5, rfl, ⟨hTy, hFR, ⟨t44, ft44, (by rw [← hc8, Nat.add_zero])⟩, (by rw [eX_3] at kmo; exact kmo)⟩, by rw [ht]; exact hP, va_K.moved hW.alike hK, hD⟩, hS.F ht⟩) hS.2.2 d_Model_part_161
    · have p143 : ¬ (y9 ≤ 0) := (fun q9 => c143 ((nI_leI (a := y9) (b := 0) (by omega) (by omega)).mpr q9))
      refine lv_iinc (v := nI (c8 + 1)) (lv' := [(4, .int (nI (c8 + 1))), (5, .int (nI y9)), (3, .ref t44), (0, .ref mo), (1, .int (nI k9)), (2, .int 2)]) hx hb d_Model_part_146 hl (k := 1) rfl (nI_1 _) (by decide) rfl (fun ls hl => ?_)
      refine lv_iload hx hb d_Model_part_149 (lv_at hl 1 rfl) ?_
      refine lv_iconst (v := 1) hx hb d_Model_part_151 (by decide) ?_
      refine lv_ishr hx hb d_Model_part_152 ?_
      rw [show ((nI y9) >>> (1 &&& 31) : Int32) = nI (y9 / 2) from shr1_nI (by omega)]
      refine lv_istore (lv' := [(5, .int (nI (y9 / 2))), (4, .int (nI (c8 + 1))), (3, .ref t44), (0, .ref mo), (1, .int (nI k9)), (2, .int 2)]) hx hb d_Model_part_153 hl (by decide) rfl (fun ls hl => ?_)
      refine lv_goto (tgt := 141) hx hb d_Model_part_155 (by decide) ?_
      have hs9 := lz_s y9 hy9 (by omega)
      exact ih141 (y9 / 2, c8 + 1) ls (by dsimp only; omega) ⟨by dsimp only; omega, by dsimp only; omega⟩ (lv_sub hl [0, 1, 2, 3, 4, 5] rfl)
  · have p13 : r10 = (0 : Int32) := c13
    exact absurd hwhat (bz_0 hr10 p13)
set_option maxHeartbeats 4000000 in
set_option maxRecDepth 100000 in
theorem m_Model_part_ok3 (l : Launch) (dC : Nat → ClassId) (dI : Nat → Nat → Nat) (sb : sB) (γ : cG) (κ : kE) (Ad : List Nat) (τ : Nat → TD) (gT : ClassId) (G : va_W) (mo : Nat) (moc msT mrV msP mrA mbA mwA mhA mfA mpA mxA myA mmA mqA mzA mwy mfd : Nat) (mer mwr mqs msz mch mft mpt mdp mvd mmk : Int32) (mnw : Int64) (K9 KL cz fd : Nat) (k9 : Nat) (fS : Nat → Option Nat) (sz : Nat) (hTy : TR γ κ Ad τ G) (kmo : Xc Ad mo (.inr (12, (.int mer :: .int (nI fd) :: .int mwr :: .int (nI K9) :: .int (nI KL) :: .ref moc :: .ref msT :: .ref mrV :: .ref msP :: .int mqs :: .ref mrA :: .ref mbA :: .ref mwA :: .ref mhA :: .ref mfA :: .ref mpA :: .ref mxA :: .ref myA :: .ref mmA :: .ref mqA :: .ref mzA :: .ref mwy :: .ref mfd :: .int msz :: .int (nI cz) :: .int mch :: .int mft :: .int mpt :: .int mdp :: .int mvd :: .long mnw :: .int mmk :: []))) G) (kmsT : Xc Ad msT (.inl (gT, 16, .inr (.inr (.inr (.inr fS))))) G) (hx_mo_msT : mo ≠ msT) (hst : STc κ Ad τ K9 fS) (hK9 : K9 ≤ 16) (hk9 : k9 < K9) : Met l y_Model_part w_Model_part ({ frames := 2, cells := 0, slots := 0, locals := 44 }) (mu_P [.ref mo, .int (nI k9), .int 3] (dC, dI) sb G [(γ.1, .byte), (γ.2.1, .int), (γ.2.2.1, .long), (γ.2.2.2, .object "java/lang/Object"), (gT, .object "TrustChainModel$Text")] sz) (va_Ql (fun r (G' : va_W) => TR γ κ Ad τ G' ∧ FL Ad [mo] G G' ∧ ((∃ t, fS k9 = some t ∧ r = (nI (τ t).ex).toInt64) ∧ Xc Ad mo (.inr (12, (.int 0 :: .int (nI fd) :: .int mwr :: .int (nI K9) :: .int (nI KL) :: .ref moc :: .ref msT :: .ref mrV :: .ref msP :: .int mqs :: .ref mrA :: .ref mbA :: .ref mwA :: .ref mhA :: .ref mfA :: .ref mpA :: .ref mxA :: .ref myA :: .ref mmA :: .ref mqA :: .ref mzA :: .ref mwy :: .ref mfd :: .int msz :: .int (nI cz) :: .int mch :: .int mft :: .int mpt :: .int mdp :: .int mvd :: .long mnw :: .int mmk :: []))) G')) (mu_B (dC, dI) [(γ.1, .byte), (γ.2.1, .int), (γ.2.2.1, .long), (γ.2.2.2, .object "java/lang/Object"), (gT, .object "TrustChainModel$Text")] (va_A G sz) (fun G' : va_W => G')) (va_A G sz)) 0 0 (va_A G sz) := by
  refine Met.ofW (cc := b_Model_part) (maxL := 6) (ret := (some FieldType.long)) (by decide) rfl ?_
  intro p e s m args below meth c s₁ B hml hv
  obtain ⟨rfl, hsz, hB0, hP, hK, hD0, hN, hT0⟩ := hv
  have hx := B.exec
  have hb := B.bytes
  have hr := B.returns
  have hts := atoms_spec (ws := w_Model_part) B.pre
  have tbin : ∀ w ∈ tb, w ∈ w_Model_part := fun w h => List.mem_cons_of_mem _ h
  have htb : ∀ w ∈ tb, w.before _ s = true := fun w h => hts w (tbin w h)
  have hown : s.vm.findClass "TrustChainModel" = some m.cls := findClass_of_methodNamed B.named
  have hlocks := B.notSynchronized
  subst hsz
  have hD := hD0.self (sz := s.heap.size)
  generalize hAe : va_A G s.heap.size = A at hD ⊢
  have hA : ∀ q : Nat, s.heap.size ≤ q → A q := fun q h => by rw [← hAe]; exact Or.inr h
  have hAs : ∀ q : Nat, A q → sb.1 ≤ q := fun q h => by
    rw [← hAe] at h
    rcases h with ⟨k, e, h⟩ | h
    · exact hD0.2 k _ h
    · exact Nat.le_trans hB0 h
  have hS : va_S A s.heap s.heap [] := va_S.rf
  have hFR := FL.rf Ad [mo] G
  have hcs : 0 ≤ (headSpec w_Model_part ({ frames := 2, cells := 0, slots := 0, locals := 44 })).room.cells ∧ 0 ≤ (headSpec w_Model_part ({ frames := 2, cells := 0, slots := 0, locals := 44 })).room.slots := ⟨Nat.le_refl _, Nat.le_refl _⟩
  have hP : va_P (dC, dI) classes G s.heap := hP
  have hl := lv_entry ([.ref mo, .int (nI k9), .int 3]) (n := 6) (Nat.le_of_ble_eq_true rfl)
  rw [lg_entry_eq]
  generalize (lg_sl ([.ref mo, .int (nI k9), .int 3]) ++ List.replicate (6 - (lg_sl ([.ref mo, .int (nI k9), .int 3])).length) Slot.unset).toArray = ls at hl ⊢
  have hl : lv_has ls 6 [(0, .ref mo), (1, .int (nI k9)), (2, .int 3)] := hl
  obtain ⟨cX_mo, eX_mo⟩ : ∃ z : va_E, z = .inr (12, (.int mer :: .int (nI fd) :: .int mwr :: .int (nI K9) :: .int (nI KL) :: .ref moc :: .ref msT :: .ref mrV :: .ref msP :: .int mqs :: .ref mrA :: .ref mbA :: .ref mwA :: .ref mhA :: .ref mfA :: .ref mpA :: .ref mxA :: .ref myA :: .ref mmA :: .ref mqA :: .ref mzA :: .ref mwy :: .ref mfd :: .int msz :: .int (nI cz) :: .int mch :: .int mft :: .int mpt :: .int mdp :: .int mvd :: .long mnw :: .int mmk :: [])) := ⟨_, rfl⟩
  rw [← eX_mo] at kmo
  have hwhat : ¬ (3 : Int32) < 0 ∧ ¬ (11 : Int32) < 3 := by decide
  refine lv_aload_n hx hb d_Model_part_0 rfl (lv_at hl 0 rfl) ?_
  refine lv_iconst (v := 0) hx hb d_Model_part_1 (by decide) ?_
  obtain ⟨i_1, hg_1⟩ := List.getElem?_of_mem kmo.2
  rw [eX_mo] at hg_1
  refine va_put (v := .int 0) (ty := .int) hx hb htb i_Model t_Model t_Model_ok n_Model hown hK hP hD hS i_1 hg_1 rfl 0 (by decide) (htb _ q7_214) (fun _ h9 => h9) rfl (by decide +kernel) rfl rfl (Nat.le_of_ble_eq_true rfl) d_Model_part_2 (fun H2 locs hP hD2 hS => ?_)
  have hP : va_P (dC, dI) classes (G.set i_1 (mo, .inr (12, (.int 0 :: .int (nI fd) :: .int mwr :: .int (nI K9) :: .int (nI KL) :: .ref moc :: .ref msT :: .ref mrV :: .ref msP :: .int mqs :: .ref mrA :: .ref mbA :: .ref mwA :: .ref mhA :: .ref mfA :: .ref mpA :: .ref mxA :: .ref myA :: .ref mmA :: .ref mqA :: .ref mzA :: .ref mwy :: .ref mfd :: .int msz :: .int (nI cz) :: .int mch :: .int mft :: .int mpt :: .int mdp :: .int mvd :: .long mnw :: .int mmk :: [])))) H2 := hP
  have hD3 : va_D A (G.set i_1 (mo, .inr (12, (.int 0 :: .int (nI fd) :: .int mwr :: .int (nI K9) :: .int (nI KL) :: .ref moc :: .ref msT :: .ref mrV :: .ref msP :: .int mqs :: .ref mrA :: .ref mbA :: .ref mwA :: .ref mhA :: .ref mfA :: .ref mpA :: .ref mxA :: .ref myA :: .ref mmA :: .ref mqA :: .ref mzA :: .ref mwy :: .ref mfd :: .int msz :: .int (nI cz) :: .int mch :: .int mft :: .int mpt :: .int mdp :: .int mvd :: .long mnw :: .int mmk :: [])))) := hD2
  have hTy := TR.setX (c' := .inr (12, (.int 0 :: .int (nI fd) :: .int mwr :: .int (nI K9) :: .int (nI KL) :: .ref moc :: .ref msT :: .ref mrV :: .ref msP :: .int mqs :: .ref mrA :: .ref mbA :: .ref mwA :: .ref mhA :: .ref mfA :: .ref mpA :: .ref mxA :: .ref myA :: .ref mmA :: .ref mqA :: .ref mzA :: .ref mwy :: .ref mfd :: .int msz :: .int (nI cz) :: .int mch :: .int mft :: .int mpt :: .int mdp :: .int mvd :: .long mnw :: .int mmk :: []))) hTy hg_1 kmo.1
  have kmsT := Xc.setX (c' := .inr (12, (.int 0 :: .int (nI fd) :: .int mwr :: .int (nI K9) :: .int (nI KL) :: .ref moc :: .ref msT :: .ref mrV :: .ref msP :: .int mqs :: .ref mrA :: .ref mbA :: .ref mwA :: .ref mhA :: .ref mfA :: .ref mpA :: .ref mxA :: .ref myA :: .ref mmA :: .ref mqA :: .ref mzA :: .ref mwy :: .ref mfd :: .int msz :: .int (nI cz) :: .int mch :: .int mft :: .int mpt :: .int mdp :: .int mvd :: .long mnw :: .int mmk :: []))) kmsT hg_1 (fun e => hx_mo_msT.symm (congrArg Prod.fst e))
  have hFR := hFR.tr (FL.set (Ad := Ad) (X := [mo]) (c' := .inr (12, (.int 0 :: .int (nI fd) :: .int mwr :: .int (nI K9) :: .int (nI KL) :: .ref moc :: .ref msT :: .ref mrV :: .ref msP :: .int mqs :: .ref mrA :: .ref mbA :: .ref mwA :: .ref mhA :: .ref mfA :: .ref mpA :: .ref mxA :: .ref myA :: .ref mmA :: .ref mqA :: .ref mzA :: .ref mwy :: .ref mfd :: .int msz :: .int (nI cz) :: .int mch :: .int mft :: .int mpt :: .int mdp :: .int mvd :: .long mnw :: .int mmk :: []))) hg_1 (by simp))
  have hg_1 := set_here (c' := .inr (12, (.int 0 :: .int (nI fd) :: .int mwr :: .int (nI K9) :: .int (nI KL) :: .ref moc :: .ref msT :: .ref mrV :: .ref msP :: .int mqs :: .ref mrA :: .ref mbA :: .ref mwA :: .ref mhA :: .ref mfA :: .ref mpA :: .ref mxA :: .ref myA :: .ref mmA :: .ref mqA :: .ref mzA :: .ref mwy :: .ref mfd :: .int msz :: .int (nI cz) :: .int mch :: .int mft :: .int mpt :: .int mdp :: .int mvd :: .long mnw :: .int mmk :: []))) hg_1
  have kmo : Xc Ad mo (.inr (12, (.int 0 :: .int (nI fd) :: .int mwr :: .int (nI K9) :: .int (nI KL) :: .ref moc :: .ref msT :: .ref mrV :: .ref msP :: .int mqs :: .ref mrA :: .ref mbA :: .ref mwA :: .ref mhA :: .ref mfA :: .ref mpA :: .ref mxA :: .ref myA :: .ref mmA :: .ref mqA :: .ref mzA :: .ref mwy :: .ref mfd :: .int msz :: .int (nI cz) :: .int mch :: .int mft :: .int mpt :: .int mdp :: .int mvd :: .long mnw :: .int mmk :: []))) (G.set i_1 (mo, .inr (12, (.int 0 :: .int (nI fd) :: .int mwr :: .int (nI K9) :: .int (nI KL) :: .ref moc :: .ref msT :: .ref mrV :: .ref msP :: .int mqs :: .ref mrA :: .ref mbA :: .ref mwA :: .ref mhA :: .ref mfA :: .ref mpA :: .ref mxA :: .ref myA :: .ref mmA :: .ref mqA :: .ref mzA :: .ref mwy :: .ref mfd :: .int msz :: .int (nI cz) :: .int mch :: .int mft :: .int mpt :: .int mdp :: .int mvd :: .long mnw :: .int mmk :: [])))) := ⟨kmo.1, List.mem_of_getElem? hg_1⟩
  have hD := hD3
  clear hD3 hD2
  generalize G.set i_1 (mo, .inr (12, (.int 0 :: .int (nI fd) :: .int mwr :: .int (nI K9) :: .int (nI KL) :: .ref moc :: .ref msT :: .ref mrV :: .ref msP :: .int mqs :: .ref mrA :: .ref mbA :: .ref mwA :: .ref mhA :: .ref mfA :: .ref mpA :: .ref mxA :: .ref myA :: .ref mmA :: .ref mqA :: .ref mzA :: .ref mwy :: .ref mfd :: .int msz :: .int (nI cz) :: .int mch :: .int mft :: .int mpt :: .int mdp :: .int mvd :: .long mnw :: .int mmk :: []))) = G_2 at hP hD hTy hFR kmo kmsT hg_1
  obtain ⟨cX_3, eX_3⟩ : ∃ z : va_E, z = .inr (12, (.int 0 :: .int (nI fd) :: .int mwr :: .int (nI K9) :: .int (nI KL) :: .ref moc :: .ref msT :: .ref mrV :: .ref msP :: .int mqs :: .ref mrA :: .ref mbA :: .ref mwA :: .ref mhA :: .ref mfA :: .ref mpA :: .ref mxA :: .ref myA :: .ref mmA :: .ref mqA :: .ref mzA :: .ref mwy :: .ref mfd :: .int msz :: .int (nI cz) :: .int mch :: .int mft :: .int mpt :: .int mdp :: .int mvd :: .long mnw :: .int mmk :: [])) := ⟨_, rfl⟩
  rw [← eX_3] at kmo
  refine lv_aload_n hx hb d_Model_part_5 rfl (lv_at hl 0 rfl) ?_
  refine lv_iload_n hx hb d_Model_part_6 rfl (lv_at hl 2 rfl) ?_
  refine lv_iconst (v := 0) hx hb d_Model_part_7 (by decide) ?_
  refine lv_bipush (v := 11) hx hb d_Model_part_8 (by decide) ?_
  refine vp_callSi (pu_callS (As := [.int 3, .int 0, .int 11]) (rest := [.ref mo]) ⟨hx, hb, hml, hown, hts⟩ tbin (c_Model_in l dC dI sb (3 : Int32) (0 : Int32) (11 : Int32)) q9_68 q8_116 q1_9 q8_117 (n := 3) (by decide +kernel) rfl ⟨rfl, rfl⟩ ⟨Nat.le_of_ble_eq_true rfl, Nat.le_of_ble_eq_true rfl⟩ ⟨Nat.le_of_ble_eq_true rfl, Nat.le_of_ble_eq_true rfl⟩ hN (hT0.keep hS hAs) hK hP [] (by simp only [List.filterMap_cons, List.filterMap_nil]) [] rfl hl.1 rfl (Nat.le_of_ble_eq_true rfl) d_Model_part_10) (fun r10 hr10 => ?_)
  refine lv_if_ne (tgt := 20) hx hb d_Model_part_13 (by decide) (fun c13 => ?_) (fun c13 => ?_)
  · have p13 : ¬ (r10 = (0 : Int32)) := c13
    refine lv_iconst (v := 0) hx hb d_Model_part_20 (by decide) ?_
    refine lv_iconst (v := 1) hx hb d_Model_part_21 (by decide) ?_
    have hFc := va_free (wc := G_2) hD hS hA (List.range G_2.length) (rg_is _)
    refine va_calli (mu_runV (As := [.int 0, .int 1]) (rest := []) ⟨hx, hb, hml, hown, hts⟩ tbin (m_Model_fails_0 l dC dI sb γ κ Ad τ gT G_2 mo _ _ _ _ _ _ _ _ _ _ _ _ _ _ _ _ _ _ _ _ _ _ _ _ _ _ _ _ _ _ _ _ H2.size hTy (by have h9 := kmo; rw [eX_3] at h9; exact h9) ) q8_79 q8_81 qp_36 q1_9 q8_82 (n := 2) (by decide +kernel) rfl ⟨rfl, rfl⟩ ⟨Nat.le_of_ble_eq_true rfl, Nat.le_of_ble_eq_true rfl⟩ ⟨Nat.le_of_ble_eq_true rfl, Nat.le_of_ble_eq_true rfl⟩ hN (hT0.keep hS hAs) hAs (Nat.le_trans hB0 hS.1) hK hP hD (List.range G_2.length) (rg_nd _) (rg_is _) [0, 1, 2, 3, 4] rfl i_1 12 hg_1 rfl rfl hl.1 rfl (Nat.le_of_ble_eq_true rfl) d_Model_part_22) hS (fun q _ h => hFc q h) hFc (fun r22 G_4 tS H22 locs ht hvm hw22 hB hz1 hk1 hS => ?_)
    obtain ⟨hTy, hF9, hr22⟩ := hw22
    have kmo := kmo.fl hF9 (q_nmn)
    have kmsT := kmsT.fl hF9 (q_nmn)
    have hFR := hFR.tr (hF9.up (q_gan))
    obtain ⟨hP1, hK1, hD1⟩ := hB
    rw [ht] at hP1
    have hP : va_P (dC, dI) classes G_4 H22 := hP1
    have hD : va_D A G_4 := hD1.weaken (fun _ _ _ h => hFc _ h)
    subst hr22
    refine lv_if_ne (tgt := 37) hx hb d_Model_part_25 (by decide) (fun c25 => ?_) (fun c25 => ?_)
    · exact absurd c25 (by decide)
    refine lv_aload_n hx hb d_Model_part_28 rfl (lv_at hl 0 rfl) ?_
    refine lv_iload_n hx hb d_Model_part_29 rfl (lv_at hl 1 rfl) ?_
    refine lv_iconst (v := 2) hx hb d_Model_part_30 (by decide) ?_
    have hFc := va_free (wc := G_4) hD hS hA (List.range G_4.length) (rg_is _)
    obtain ⟨i_6, hg_6⟩ := List.getElem?_of_mem kmo.2
    rw [eX_3] at hg_6
    refine va_calli (mu_runV (As := [.int (nI k9), .int 2]) (rest := []) ⟨hx, hb, hml, hown, hts⟩ tbin (m_Model_noc_0 l dC dI sb γ κ Ad τ gT G_4 mo _ _ _ _ _ _ _ _ _ _ _ _ _ _ _ _ _ _ _ _ _ _ _ _ _ _ _ _ _ _ _ _ _ H22.size hTy (by have h9 := kmo; rw [eX_3] at h9; exact h9) hk9 hK9) q9_64 q9_66 qp_39 q1_9 q9_67 (n := 2) (by decide +kernel) rfl ⟨rfl, rfl⟩ ⟨Nat.le_of_ble_eq_true rfl, Nat.le_of_ble_eq_true rfl⟩ ⟨Nat.le_of_ble_eq_true rfl, Nat.le_of_ble_eq_true rfl⟩ hN (hT0.keep hS hAs) hAs (Nat.le_trans hB0 hS.1) hK hP hD (List.range G_4.length) (rg_nd _) (rg_is _) [0, 1, 2, 3, 4] rfl i_6 12 hg_6 rfl rfl hl.1 rfl (Nat.le_of_ble_eq_true rfl) d_Model_part_31) hS (fun q _ h => hFc q h) hFc (fun r31 G_5 tS H31 locs ht hvm hw31 hB hz1 hk1 hS => ?_)
    obtain ⟨hTy, hF9, hr31⟩ := hw31
    have kmo := kmo.fl hF9 (q_nmn)
    have kmsT := kmsT.fl hF9 (q_nmn)
    have hFR := hFR.tr (hF9.up (q_gan))
    obtain ⟨hP1, hK1, hD1⟩ := hB
    rw [ht] at hP1
    have hP : va_P (dC, dI) classes G_5 H31 := hP1
    have hD : va_D A G_5 := hD1.weaken (fun _ _ _ h => hFc _ h)
    subst hr31
    refine lv_if_eq (tgt := 39) hx hb d_Model_part_34 (by decide) (fun c34 => ?_) (fun c34 => ?_)
    rotate_left
    · exact absurd c34 (by decide)
    refine lv_aload_n hx hb d_Model_part_39 rfl (lv_at hl 0 rfl) ?_
    obtain ⟨i_7, hg_7⟩ := List.getElem?_of_mem kmo.2
    rw [eX_3] at hg_7
    refine va_get (v := .ref msT) hx hb htb i_Model hown hK hP i_7 hg_7 rfl 6 (by decide) (htb _ q7_220) (fun _ h9 => h9) rfl d_Model_part_40 ?_
    refine lv_iload_n hx hb d_Model_part_43 rfl (lv_at hl 1 rfl) ?_
    obtain ⟨i_8, hg_8⟩ := List.getElem?_of_mem kmsT.2
    have h44 : vp_in (nI k9) 16 := vp_in_nI (by omega) (by omega)
    refine va_aldq hx hb hK hP i_8 4 hg_8 rfl h44 d_Model_part_44 ?_
    obtain ⟨t44, ft44, kt44, hc_t44⟩ := hst k9 (by omega)
    rw [show va_rf (fS (nI k9).toNatClampNeg) = .ref t44 from by rw [nI_clamp (by omega), ft44]; rfl]
    have b1_t44 := hc_t44.b1
    have b2_t44 := hc_t44.b2
    have b3_t44 := hc_t44.b3
    have b4_t44 := hc_t44.b4
    have b5_t44 := hc_t44.b5
    have b6_t44 := hc_t44.b6
    have b8_t44 := hc_t44.b8
    have b9_t44 := hc_t44.b9
    refine lv_astore_n (lv' := [(3, .ref t44), (0, .ref mo), (1, .int (nI k9)), (2, .int 3)]) hx hb d_Model_part_45 rfl hl (by decide) rfl (fun ls hl => ?_)
    refine lv_iload_n hx hb d_Model_part_46 rfl (lv_at hl 3 rfl) ?_
    have t47 : (3 : Int32).toInt = 3 := by decide
    refine lv_tableIn (tgt := 162) hx hb d_Model_part_47 (by omega) (by omega) (by rw [t47]; rfl) rfl ?_
    refine lv_aload_n hx hb d_Model_part_162 rfl (lv_at hl 0 rfl) ?_
    obtain ⟨i_9, kA_9, hg_9⟩ := tr_20 hTy kt44
    refine va_get (v := .int ((τ t44).I 20)) hx hb htb i_Text hown hK hP i_9 hg_9 rfl 20 (by decide) (htb _ q6_213) (fun _ h9 => h9) rfl d_Model_part_163 ?_
    rw [hc_t44.e20]
    refine lv_i2l (v := (nI ((τ t44).ex)).toInt64) hx hb d_Model_part_166 rfl ?_
    exact W.lret (v := (nI ((τ t44).ex)).toInt64) hx hb hr (fun t ht hW => ⟨⟨_, G_5, rfl, ⟨hTy, hFR, ⟨t44, ft44, rfl⟩, (by rw [eX_3] at kmo; exact kmo)⟩, by rw [ht]; exact hP, va_K.moved hW.alike hK, hD⟩, hS.F ht⟩) hS.2.2 d_Model_part_167
  · have p13 : r10 = (0 : Int32) := c13
    exact absurd hwhat (bz_0 hr10 p13)
set_option maxHeartbeats 4000000 in
set_option maxRecDepth 100000 in
theorem m_Model_part_ok4 (l : Launch) (dC : Nat → ClassId) (dI : Nat → Nat → Nat) (sb : sB) (γ : cG) (κ : kE) (Ad : List Nat) (τ : Nat → TD) (gT : ClassId) (G : va_W) (mo : Nat) (moc msT mrV msP mrA mbA mwA mhA mfA mpA mxA myA mmA mqA mzA mwy mfd : Nat) (mer mwr mqs msz mch mft mpt mdp mvd mmk : Int32) (mnw : Int64) (K9 KL cz fd : Nat) (k9 : Nat) (fS : Nat → Option Nat) (sz : Nat) (hTy : TR γ κ Ad τ G) (kmo : Xc Ad mo (.inr (12, (.int mer :: .int (nI fd) :: .int mwr :: .int (nI K9) :: .int (nI KL) :: .ref moc :: .ref msT :: .ref mrV :: .ref msP :: .int mqs :: .ref mrA :: .ref mbA :: .ref mwA :: .ref mhA :: .ref mfA :: .ref mpA :: .ref mxA :: .ref myA :: .ref mmA :: .ref mqA :: .ref mzA :: .ref mwy :: .ref mfd :: .int msz :: .int (nI cz) :: .int mch :: .int mft :: .int mpt :: .int mdp :: .int mvd :: .long mnw :: .int mmk :: []))) G) (kmsT : Xc Ad msT (.inl (gT, 16, .inr (.inr (.inr (.inr fS))))) G) (hx_mo_msT : mo ≠ msT) (hst : STc κ Ad τ K9 fS) (hK9 : K9 ≤ 16) (hk9 : k9 < K9) : Met l y_Model_part w_Model_part ({ frames := 2, cells := 0, slots := 0, locals := 44 }) (mu_P [.ref mo, .int (nI k9), .int 4] (dC, dI) sb G [(γ.1, .byte), (γ.2.1, .int), (γ.2.2.1, .long), (γ.2.2.2, .object "java/lang/Object"), (gT, .object "TrustChainModel$Text")] sz) (va_Ql (fun r (G' : va_W) => TR γ κ Ad τ G' ∧ FL Ad [mo] G G' ∧ ((∃ t, fS k9 = some t ∧ r = (if (τ t).I 40 = 0 then (0 : Int64) else 1)) ∧ Xc Ad mo (.inr (12, (.int 0 :: .int (nI fd) :: .int mwr :: .int (nI K9) :: .int (nI KL) :: .ref moc :: .ref msT :: .ref mrV :: .ref msP :: .int mqs :: .ref mrA :: .ref mbA :: .ref mwA :: .ref mhA :: .ref mfA :: .ref mpA :: .ref mxA :: .ref myA :: .ref mmA :: .ref mqA :: .ref mzA :: .ref mwy :: .ref mfd :: .int msz :: .int (nI cz) :: .int mch :: .int mft :: .int mpt :: .int mdp :: .int mvd :: .long mnw :: .int mmk :: []))) G')) (mu_B (dC, dI) [(γ.1, .byte), (γ.2.1, .int), (γ.2.2.1, .long), (γ.2.2.2, .object "java/lang/Object"), (gT, .object "TrustChainModel$Text")] (va_A G sz) (fun G' : va_W => G')) (va_A G sz)) 0 0 (va_A G sz) := by
  refine Met.ofW (cc := b_Model_part) (maxL := 6) (ret := (some FieldType.long)) (by decide) rfl ?_
  intro p e s m args below meth c s₁ B hml hv
  obtain ⟨rfl, hsz, hB0, hP, hK, hD0, hN, hT0⟩ := hv
  have hx := B.exec
  have hb := B.bytes
  have hr := B.returns
  have hts := atoms_spec (ws := w_Model_part) B.pre
  have tbin : ∀ w ∈ tb, w ∈ w_Model_part := fun w h => List.mem_cons_of_mem _ h
  have htb : ∀ w ∈ tb, w.before _ s = true := fun w h => hts w (tbin w h)
  have hown : s.vm.findClass "TrustChainModel" = some m.cls := findClass_of_methodNamed B.named
  have hlocks := B.notSynchronized
  subst hsz
  have hD := hD0.self (sz := s.heap.size)
  generalize hAe : va_A G s.heap.size = A at hD ⊢
  have hA : ∀ q : Nat, s.heap.size ≤ q → A q := fun q h => by rw [← hAe]; exact Or.inr h
  have hAs : ∀ q : Nat, A q → sb.1 ≤ q := fun q h => by
    rw [← hAe] at h
    rcases h with ⟨k, e, h⟩ | h
    · exact hD0.2 k _ h
    · exact Nat.le_trans hB0 h
  have hS : va_S A s.heap s.heap [] := va_S.rf
  have hFR := FL.rf Ad [mo] G
  have hcs : 0 ≤ (headSpec w_Model_part ({ frames := 2, cells := 0, slots := 0, locals := 44 })).room.cells ∧ 0 ≤ (headSpec w_Model_part ({ frames := 2, cells := 0, slots := 0, locals := 44 })).room.slots := ⟨Nat.le_refl _, Nat.le_refl _⟩
  have hP : va_P (dC, dI) classes G s.heap := hP
  have hl := lv_entry ([.ref mo, .int (nI k9), .int 4]) (n := 6) (Nat.le_of_ble_eq_true rfl)
  rw [lg_entry_eq]
  generalize (lg_sl ([.ref mo, .int (nI k9), .int 4]) ++ List.replicate (6 - (lg_sl ([.ref mo, .int (nI k9), .int 4])).length) Slot.unset).toArray = ls at hl ⊢
  have hl : lv_has ls 6 [(0, .ref mo), (1, .int (nI k9)), (2, .int 4)] := hl
  obtain ⟨cX_mo, eX_mo⟩ : ∃ z : va_E, z = .inr (12, (.int mer :: .int (nI fd) :: .int mwr :: .int (nI K9) :: .int (nI KL) :: .ref moc :: .ref msT :: .ref mrV :: .ref msP :: .int mqs :: .ref mrA :: .ref mbA :: .ref mwA :: .ref mhA :: .ref mfA :: .ref mpA :: .ref mxA :: .ref myA :: .ref mmA :: .ref mqA :: .ref mzA :: .ref mwy :: .ref mfd :: .int msz :: .int (nI cz) :: .int mch :: .int mft :: .int mpt :: .int mdp :: .int mvd :: .long mnw :: .int mmk :: [])) := ⟨_, rfl⟩
  rw [← eX_mo] at kmo
  have hwhat : ¬ (4 : Int32) < 0 ∧ ¬ (11 : Int32) < 4 := by decide
  refine lv_aload_n hx hb d_Model_part_0 rfl (lv_at hl 0 rfl) ?_
  refine lv_iconst (v := 0) hx hb d_Model_part_1 (by decide) ?_
  obtain ⟨i_1, hg_1⟩ := List.getElem?_of_mem kmo.2
  rw [eX_mo] at hg_1
  refine va_put (v := .int 0) (ty := .int) hx hb htb i_Model t_Model t_Model_ok n_Model hown hK hP hD hS i_1 hg_1 rfl 0 (by decide) (htb _ q7_214) (fun _ h9 => h9) rfl (by decide +kernel) rfl rfl (Nat.le_of_ble_eq_true rfl) d_Model_part_2 (fun H2 locs hP hD2 hS => ?_)
  have hP : va_P (dC, dI) classes (G.set i_1 (mo, .inr (12, (.int 0 :: .int (nI fd) :: .int mwr :: .int (nI K9) :: .int (nI KL) :: .ref moc :: .ref msT :: .ref mrV :: .ref msP :: .int mqs :: .ref mrA :: .ref mbA :: .ref mwA :: .ref mhA :: .ref mfA :: .ref mpA :: .ref mxA :: .ref myA :: .ref mmA :: .ref mqA :: .ref mzA :: .ref mwy :: .ref mfd :: .int msz :: .int (nI cz) :: .int mch :: .int mft :: .int mpt :: .int mdp :: .int mvd :: .long mnw :: .int mmk :: [])))) H2 := hP
  have hD3 : va_D A (G.set i_1 (mo, .inr (12, (.int 0 :: .int (nI fd) :: .int mwr :: .int (nI K9) :: .int (nI KL) :: .ref moc :: .ref msT :: .ref mrV :: .ref msP :: .int mqs :: .ref mrA :: .ref mbA :: .ref mwA :: .ref mhA :: .ref mfA :: .ref mpA :: .ref mxA :: .ref myA :: .ref mmA :: .ref mqA :: .ref mzA :: .ref mwy :: .ref mfd :: .int msz :: .int (nI cz) :: .int mch :: .int mft :: .int mpt :: .int mdp :: .int mvd :: .long mnw :: .int mmk :: [])))) := hD2
  have hTy := TR.setX (c' := .inr (12, (.int 0 :: .int (nI fd) :: .int mwr :: .int (nI K9) :: .int (nI KL) :: .ref moc :: .ref msT :: .ref mrV :: .ref msP :: .int mqs :: .ref mrA :: .ref mbA :: .ref mwA :: .ref mhA :: .ref mfA :: .ref mpA :: .ref mxA :: .ref myA :: .ref mmA :: .ref mqA :: .ref mzA :: .ref mwy :: .ref mfd :: .int msz :: .int (nI cz) :: .int mch :: .int mft :: .int mpt :: .int mdp :: .int mvd :: .long mnw :: .int mmk :: []))) hTy hg_1 kmo.1
  have kmsT := Xc.setX (c' := .inr (12, (.int 0 :: .int (nI fd) :: .int mwr :: .int (nI K9) :: .int (nI KL) :: .ref moc :: .ref msT :: .ref mrV :: .ref msP :: .int mqs :: .ref mrA :: .ref mbA :: .ref mwA :: .ref mhA :: .ref mfA :: .ref mpA :: .ref mxA :: .ref myA :: .ref mmA :: .ref mqA :: .ref mzA :: .ref mwy :: .ref mfd :: .int msz :: .int (nI cz) :: .int mch :: .int mft :: .int mpt :: .int mdp :: .int mvd :: .long mnw :: .int mmk :: []))) kmsT hg_1 (fun e => hx_mo_msT.symm (congrArg Prod.fst e))
  have hFR := hFR.tr (FL.set (Ad := Ad) (X := [mo]) (c' := .inr (12, (.int 0 :: .int (nI fd) :: .int mwr :: .int (nI K9) :: .int (nI KL) :: .ref moc :: .ref msT :: .ref mrV :: .ref msP :: .int mqs :: .ref mrA :: .ref mbA :: .ref mwA :: .ref mhA :: .ref mfA :: .ref mpA :: .ref mxA :: .ref myA :: .ref mmA :: .ref mqA :: .ref mzA :: .ref mwy :: .ref mfd :: .int msz :: .int (nI cz) :: .int mch :: .int mft :: .int mpt :: .int mdp :: .int mvd :: .long mnw :: .int mmk :: []))) hg_1 (by simp))
  have hg_1 := set_here (c' := .inr (12, (.int 0 :: .int (nI fd) :: .int mwr :: .int (nI K9) :: .int (nI KL) :: .ref moc :: .ref msT :: .ref mrV :: .ref msP :: .int mqs :: .ref mrA :: .ref mbA :: .ref mwA :: .ref mhA :: .ref mfA :: .ref mpA :: .ref mxA :: .ref myA :: .ref mmA :: .ref mqA :: .ref mzA :: .ref mwy :: .ref mfd :: .int msz :: .int (nI cz) :: .int mch :: .int mft :: .int mpt :: .int mdp :: .int mvd :: .long mnw :: .int mmk :: []))) hg_1
  have kmo : Xc Ad mo (.inr (12, (.int 0 :: .int (nI fd) :: .int mwr :: .int (nI K9) :: .int (nI KL) :: .ref moc :: .ref msT :: .ref mrV :: .ref msP :: .int mqs :: .ref mrA :: .ref mbA :: .ref mwA :: .ref mhA :: .ref mfA :: .ref mpA :: .ref mxA :: .ref myA :: .ref mmA :: .ref mqA :: .ref mzA :: .ref mwy :: .ref mfd :: .int msz :: .int (nI cz) :: .int mch :: .int mft :: .int mpt :: .int mdp :: .int mvd :: .long mnw :: .int mmk :: []))) (G.set i_1 (mo, .inr (12, (.int 0 :: .int (nI fd) :: .int mwr :: .int (nI K9) :: .int (nI KL) :: .ref moc :: .ref msT :: .ref mrV :: .ref msP :: .int mqs :: .ref mrA :: .ref mbA :: .ref mwA :: .ref mhA :: .ref mfA :: .ref mpA :: .ref mxA :: .ref myA :: .ref mmA :: .ref mqA :: .ref mzA :: .ref mwy :: .ref mfd :: .int msz :: .int (nI cz) :: .int mch :: .int mft :: .int mpt :: .int mdp :: .int mvd :: .long mnw :: .int mmk :: [])))) := ⟨kmo.1, List.mem_of_getElem? hg_1⟩
  have hD := hD3
  clear hD3 hD2
  generalize G.set i_1 (mo, .inr (12, (.int 0 :: .int (nI fd) :: .int mwr :: .int (nI K9) :: .int (nI KL) :: .ref moc :: .ref msT :: .ref mrV :: .ref msP :: .int mqs :: .ref mrA :: .ref mbA :: .ref mwA :: .ref mhA :: .ref mfA :: .ref mpA :: .ref mxA :: .ref myA :: .ref mmA :: .ref mqA :: .ref mzA :: .ref mwy :: .ref mfd :: .int msz :: .int (nI cz) :: .int mch :: .int mft :: .int mpt :: .int mdp :: .int mvd :: .long mnw :: .int mmk :: []))) = G_2 at hP hD hTy hFR kmo kmsT hg_1
  obtain ⟨cX_3, eX_3⟩ : ∃ z : va_E, z = .inr (12, (.int 0 :: .int (nI fd) :: .int mwr :: .int (nI K9) :: .int (nI KL) :: .ref moc :: .ref msT :: .ref mrV :: .ref msP :: .int mqs :: .ref mrA :: .ref mbA :: .ref mwA :: .ref mhA :: .ref mfA :: .ref mpA :: .ref mxA :: .ref myA :: .ref mmA :: .ref mqA :: .ref mzA :: .ref mwy :: .ref mfd :: .int msz :: .int (nI cz) :: .int mch :: .int mft :: .int mpt :: .int mdp :: .int mvd :: .long mnw :: .int mmk :: [])) := ⟨_, rfl⟩
  rw [← eX_3] at kmo
  refine lv_aload_n hx hb d_Model_part_5 rfl (lv_at hl 0 rfl) ?_
  refine lv_iload_n hx hb d_Model_part_6 rfl (lv_at hl 2 rfl) ?_
  refine lv_iconst (v := 0) hx hb d_Model_part_7 (by decide) ?_
  refine lv_bipush (v := 11) hx hb d_Model_part_8 (by decide) ?_
  refine vp_callSi (pu_callS (As := [.int 4, .int 0, .int 11]) (rest := [.ref mo]) ⟨hx, hb, hml, hown, hts⟩ tbin (c_Model_in l dC dI sb (4 : Int32) (0 : Int32) (11 : Int32)) q9_68 q8_116 q1_9 q8_117 (n := 3) (by decide +kernel) rfl ⟨rfl, rfl⟩ ⟨Nat.le_of_ble_eq_true rfl, Nat.le_of_ble_eq_true rfl⟩ ⟨Nat.le_of_ble_eq_true rfl, Nat.le_of_ble_eq_true rfl⟩ hN (hT0.keep hS hAs) hK hP [] (by simp only [List.filterMap_cons, List.filterMap_nil]) [] rfl hl.1 rfl (Nat.le_of_ble_eq_true rfl) d_Model_part_10) (fun r10 hr10 => ?_)
  refine lv_if_ne (tgt := 20) hx hb d_Model_part_13 (by decide) (fun c13 => ?_) (fun c13 => ?_)
  · have p13 : ¬ (r10 = (0 : Int32)) := c13
    refine lv_iconst (v := 0) hx hb d_Model_part_20 (by decide) ?_
    refine lv_iconst (v := 1) hx hb d_Model_part_21 (by decide) ?_
    have hFc := va_free (wc := G_2) hD hS hA (List.range G_2.length) (rg_is _)
    refine va_calli (mu_runV (As := [.int 0, .int 1]) (rest := []) ⟨hx, hb, hml, hown, hts⟩ tbin (m_Model_fails_0 l dC dI sb γ κ Ad τ gT G_2 mo _ _ _ _ _ _ _ _ _ _ _ _ _ _ _ _ _ _ _ _ _ _ _ _ _ _ _ _ _ _ _ _ H2.size hTy (by have h9 := kmo; rw [eX_3] at h9; exact h9) ) q8_79 q8_81 qp_36 q1_9 q8_82 (n := 2) (by decide +kernel) rfl ⟨rfl, rfl⟩ ⟨Nat.le_of_ble_eq_true rfl, Nat.le_of_ble_eq_true rfl⟩ ⟨Nat.le_of_ble_eq_true rfl, Nat.le_of_ble_eq_true rfl⟩ hN (hT0.keep hS hAs) hAs (Nat.le_trans hB0 hS.1) hK hP hD (List.range G_2.length) (rg_nd _) (rg_is _) [0, 1, 2, 3, 4] rfl i_1 12 hg_1 rfl rfl hl.1 rfl (Nat.le_of_ble_eq_true rfl) d_Model_part_22) hS (fun q _ h => hFc q h) hFc (fun r22 G_4 tS H22 locs ht hvm hw22 hB hz1 hk1 hS => ?_)
    obtain ⟨hTy, hF9, hr22⟩ := hw22
    have kmo := kmo.fl hF9 (q_nmn)
    have kmsT := kmsT.fl hF9 (q_nmn)
    have hFR := hFR.tr (hF9.up (q_gan))
    obtain ⟨hP1, hK1, hD1⟩ := hB
    rw [ht] at hP1
    have hP : va_P (dC, dI) classes G_4 H22 := hP1
    have hD : va_D A G_4 := hD1.weaken (fun _ _ _ h => hFc _ h)
    subst hr22
    refine lv_if_ne (tgt := 37) hx hb d_Model_part_25 (by decide) (fun c25 => ?_) (fun c25 => ?_)
    · exact absurd c25 (by decide)
    refine lv_aload_n hx hb d_Model_part_28 rfl (lv_at hl 0 rfl) ?_
    refine lv_iload_n hx hb d_Model_part_29 rfl (lv_at hl 1 rfl) ?_
    refine lv_iconst (v := 2) hx hb d_Model_part_30 (by decide) ?_
    have hFc := va_free (wc := G_4) hD hS hA (List.range G_4.length) (rg_is _)
    obtain ⟨i_6, hg_6⟩ := List.getElem?_of_mem kmo.2
    rw [eX_3] at hg_6
    refine va_calli (mu_runV (As := [.int (nI k9), .int 2]) (rest := []) ⟨hx, hb, hml, hown, hts⟩ tbin (m_Model_noc_0 l dC dI sb γ κ Ad τ gT G_4 mo _ _ _ _ _ _ _ _ _ _ _ _ _ _ _ _ _ _ _ _ _ _ _ _ _ _ _ _ _ _ _ _ _ H22.size hTy (by have h9 := kmo; rw [eX_3] at h9; exact h9) hk9 hK9) q9_64 q9_66 qp_39 q1_9 q9_67 (n := 2) (by decide +kernel) rfl ⟨rfl, rfl⟩ ⟨Nat.le_of_ble_eq_true rfl, Nat.le_of_ble_eq_true rfl⟩ ⟨Nat.le_of_ble_eq_true rfl, Nat.le_of_ble_eq_true rfl⟩ hN (hT0.keep hS hAs) hAs (Nat.le_trans hB0 hS.1) hK hP hD (List.range G_4.length) (rg_nd _) (rg_is _) [0, 1, 2, 3, 4] rfl i_6 12 hg_6 rfl rfl hl.1 rfl (Nat.le_of_ble_eq_true rfl) d_Model_part_31) hS (fun q _ h => hFc q h) hFc (fun r31 G_5 tS H31 locs ht hvm hw31 hB hz1 hk1 hS => ?_)
    obtain ⟨hTy, hF9, hr31⟩ := hw31
    have kmo := kmo.fl hF9 (q_nmn)
    have kmsT := kmsT.fl hF9 (q_nmn)
    have hFR := hFR.tr (hF9.up (q_gan))
    obtain ⟨hP1, hK1, hD1⟩ := hB
    rw [ht] at hP1
    have hP : va_P (dC, dI) classes G_5 H31 := hP1
    have hD : va_D A G_5 := hD1.weaken (fun _ _ _ h => hFc _ h)
    subst hr31
    refine lv_if_eq (tgt := 39) hx hb d_Model_part_34 (by decide) (fun c34 => ?_) (fun c34 => ?_)
    rotate_left
    · exact absurd c34 (by decide)
    refine lv_aload_n hx hb d_Model_part_39 rfl (lv_at hl 0 rfl) ?_
    obtain ⟨i_7, hg_7⟩ := List.getElem?_of_mem kmo.2
    rw [eX_3] at hg_7
    refine va_get (v := .ref msT) hx hb htb i_Model hown hK hP i_7 hg_7 rfl 6 (by decide) (htb _ q7_220) (fun _ h9 => h9) rfl d_Model_part_40 ?_
    refine lv_iload_n hx hb d_Model_part_43 rfl (lv_at hl 1 rfl) ?_
    obtain ⟨i_8, hg_8⟩ := List.getElem?_of_mem kmsT.2
    have h44 : vp_in (nI k9) 16 := vp_in_nI (by omega) (by omega)
    refine va_aldq hx hb hK hP i_8 4 hg_8 rfl h44 d_Model_part_44 ?_
    obtain ⟨t44, ft44, kt44, hc_t44⟩ := hst k9 (by omega)
    rw [show va_rf (fS (nI k9).toNatClampNeg) = .ref t44 from by rw [nI_clamp (by omega), ft44]; rfl]
    have b1_t44 := hc_t44.b1
    have b2_t44 := hc_t44.b2
    have b3_t44 := hc_t44.b3
    have b4_t44 := hc_t44.b4
    have b5_t44 := hc_t44.b5
    have b6_t44 := hc_t44.b6
    have b8_t44 := hc_t44.b8
    have b9_t44 := hc_t44.b9
    refine lv_astore_n (lv' := [(3, .ref t44), (0, .ref mo), (1, .int (nI k9)), (2, .int 4)]) hx hb d_Model_part_45 rfl hl (by decide) rfl (fun ls hl => ?_)
    refine lv_iload_n hx hb d_Model_part_46 rfl (lv_at hl 3 rfl) ?_
    have t47 : (4 : Int32).toInt = 4 := by decide
    refine lv_tableIn (tgt := 168) hx hb d_Model_part_47 (by omega) (by omega) (by rw [t47]; rfl) rfl ?_
    refine lv_aload_n hx hb d_Model_part_168 rfl (lv_at hl 0 rfl) ?_
    obtain ⟨i_9, kA_9, hg_9⟩ := tr_20 hTy kt44
    refine va_get (v := .int ((τ t44).I 40)) hx hb htb i_Text hown hK hP i_9 hg_9 rfl 40 (by decide) (htb _ q7_9) (fun _ h9 => h9) rfl d_Model_part_169 ?_
    refine lv_if_eq (tgt := 179) hx hb d_Model_part_172 (by decide) (fun c172 => ?_) (fun c172 => ?_)
    · have p172 : ((τ t44).I 40) = (0 : Int32) := c172
      refine lv_lconst (v := 0) hx hb d_Model_part_179 (by decide) ?_
      exact W.lret (v := 0) hx hb hr (fun t ht hW => ⟨⟨_, G_5, rfl, ⟨hTy, hFR, ⟨t44, ft44, (by rw [if_pos p172])⟩, (by rw [eX_3] at kmo; exact kmo)⟩, by rw [ht]; exact hP, va_K.moved hW.alike hK, hD⟩, hS.F ht⟩) hS.2.2 d_Model_part_180
    · have p172 : ¬ (((τ t44).I 40) = (0 : Int32)) := c172
      refine lv_lconst (v := 1) hx hb d_Model_part_175 (by decide) ?_
      refine lv_goto (tgt := 180) hx hb d_Model_part_176 (by decide) ?_
      exact W.lret (v := 1) hx hb hr (fun t ht hW => ⟨⟨_, G_5, rfl, ⟨hTy, hFR, ⟨t44, ft44, (by rw [if_neg p172])⟩, (by rw [eX_3] at kmo; exact kmo)⟩, by rw [ht]; exact hP, va_K.moved hW.alike hK, hD⟩, hS.F ht⟩) hS.2.2 d_Model_part_180
  · have p13 : r10 = (0 : Int32) := c13
    exact absurd hwhat (bz_0 hr10 p13)
set_option maxHeartbeats 4000000 in
set_option maxRecDepth 100000 in
theorem m_Model_part_ok5 (l : Launch) (dC : Nat → ClassId) (dI : Nat → Nat → Nat) (sb : sB) (γ : cG) (κ : kE) (Ad : List Nat) (τ : Nat → TD) (gT : ClassId) (G : va_W) (mo : Nat) (moc msT mrV msP mrA mbA mwA mhA mfA mpA mxA myA mmA mqA mzA mwy mfd : Nat) (mer mwr mqs msz mch mft mpt mdp mvd mmk : Int32) (mnw : Int64) (K9 KL cz fd : Nat) (k9 : Nat) (fS : Nat → Option Nat) (sz : Nat) (hTy : TR γ κ Ad τ G) (kmo : Xc Ad mo (.inr (12, (.int mer :: .int (nI fd) :: .int mwr :: .int (nI K9) :: .int (nI KL) :: .ref moc :: .ref msT :: .ref mrV :: .ref msP :: .int mqs :: .ref mrA :: .ref mbA :: .ref mwA :: .ref mhA :: .ref mfA :: .ref mpA :: .ref mxA :: .ref myA :: .ref mmA :: .ref mqA :: .ref mzA :: .ref mwy :: .ref mfd :: .int msz :: .int (nI cz) :: .int mch :: .int mft :: .int mpt :: .int mdp :: .int mvd :: .long mnw :: .int mmk :: []))) G) (kmsT : Xc Ad msT (.inl (gT, 16, .inr (.inr (.inr (.inr fS))))) G) (hx_mo_msT : mo ≠ msT) (hst : STc κ Ad τ K9 fS) (hK9 : K9 ≤ 16) (hk9 : k9 < K9) : Met l y_Model_part w_Model_part ({ frames := 2, cells := 0, slots := 0, locals := 44 }) (mu_P [.ref mo, .int (nI k9), .int 5] (dC, dI) sb G [(γ.1, .byte), (γ.2.1, .int), (γ.2.2.1, .long), (γ.2.2.2, .object "java/lang/Object"), (gT, .object "TrustChainModel$Text")] sz) (va_Ql (fun r (G' : va_W) => TR γ κ Ad τ G' ∧ FL Ad [mo] G G' ∧ ((∃ t, fS k9 = some t ∧ r = ((τ t).I 25).toInt64) ∧ Xc Ad mo (.inr (12, (.int 0 :: .int (nI fd) :: .int mwr :: .int (nI K9) :: .int (nI KL) :: .ref moc :: .ref msT :: .ref mrV :: .ref msP :: .int mqs :: .ref mrA :: .ref mbA :: .ref mwA :: .ref mhA :: .ref mfA :: .ref mpA :: .ref mxA :: .ref myA :: .ref mmA :: .ref mqA :: .ref mzA :: .ref mwy :: .ref mfd :: .int msz :: .int (nI cz) :: .int mch :: .int mft :: .int mpt :: .int mdp :: .int mvd :: .long mnw :: .int mmk :: []))) G')) (mu_B (dC, dI) [(γ.1, .byte), (γ.2.1, .int), (γ.2.2.1, .long), (γ.2.2.2, .object "java/lang/Object"), (gT, .object "TrustChainModel$Text")] (va_A G sz) (fun G' : va_W => G')) (va_A G sz)) 0 0 (va_A G sz) := by
  refine Met.ofW (cc := b_Model_part) (maxL := 6) (ret := (some FieldType.long)) (by decide) rfl ?_
  intro p e s m args below meth c s₁ B hml hv
  obtain ⟨rfl, hsz, hB0, hP, hK, hD0, hN, hT0⟩ := hv
  have hx := B.exec
  have hb := B.bytes
  have hr := B.returns
  have hts := atoms_spec (ws := w_Model_part) B.pre
  have tbin : ∀ w ∈ tb, w ∈ w_Model_part := fun w h => List.mem_cons_of_mem _ h
  have htb : ∀ w ∈ tb, w.before _ s = true := fun w h => hts w (tbin w h)
  have hown : s.vm.findClass "TrustChainModel" = some m.cls := findClass_of_methodNamed B.named
  have hlocks := B.notSynchronized
  subst hsz
  have hD := hD0.self (sz := s.heap.size)
  generalize hAe : va_A G s.heap.size = A at hD ⊢
  have hA : ∀ q : Nat, s.heap.size ≤ q → A q := fun q h => by rw [← hAe]; exact Or.inr h
  have hAs : ∀ q : Nat, A q → sb.1 ≤ q := fun q h => by
    rw [← hAe] at h
    rcases h with ⟨k, e, h⟩ | h
    · exact hD0.2 k _ h
    · exact Nat.le_trans hB0 h
  have hS : va_S A s.heap s.heap [] := va_S.rf
  have hFR := FL.rf Ad [mo] G
  have hcs : 0 ≤ (headSpec w_Model_part ({ frames := 2, cells := 0, slots := 0, locals := 44 })).room.cells ∧ 0 ≤ (headSpec w_Model_part ({ frames := 2, cells := 0, slots := 0, locals := 44 })).room.slots := ⟨Nat.le_refl _, Nat.le_refl _⟩
  have hP : va_P (dC, dI) classes G s.heap := hP
  have hl := lv_entry ([.ref mo, .int (nI k9), .int 5]) (n := 6) (Nat.le_of_ble_eq_true rfl)
  rw [lg_entry_eq]
  generalize (lg_sl ([.ref mo, .int (nI k9), .int 5]) ++ List.replicate (6 - (lg_sl ([.ref mo, .int (nI k9), .int 5])).length) Slot.unset).toArray = ls at hl ⊢
  have hl : lv_has ls 6 [(0, .ref mo), (1, .int (nI k9)), (2, .int 5)] := hl
  obtain ⟨cX_mo, eX_mo⟩ : ∃ z : va_E, z = .inr (12, (.int mer :: .int (nI fd) :: .int mwr :: .int (nI K9) :: .int (nI KL) :: .ref moc :: .ref msT :: .ref mrV :: .ref msP :: .int mqs :: .ref mrA :: .ref mbA :: .ref mwA :: .ref mhA :: .ref mfA :: .ref mpA :: .ref mxA :: .ref myA :: .ref mmA :: .ref mqA :: .ref mzA :: .ref mwy :: .ref mfd :: .int msz :: .int (nI cz) :: .int mch :: .int mft :: .int mpt :: .int mdp :: .int mvd :: .long mnw :: .int mmk :: [])) := ⟨_, rfl⟩
  rw [← eX_mo] at kmo
  have hwhat : ¬ (5 : Int32) < 0 ∧ ¬ (11 : Int32) < 5 := by decide
  refine lv_aload_n hx hb d_Model_part_0 rfl (lv_at hl 0 rfl) ?_
  refine lv_iconst (v := 0) hx hb d_Model_part_1 (by decide) ?_
  obtain ⟨i_1, hg_1⟩ := List.getElem?_of_mem kmo.2
  rw [eX_mo] at hg_1
  refine va_put (v := .int 0) (ty := .int) hx hb htb i_Model t_Model t_Model_ok n_Model hown hK hP hD hS i_1 hg_1 rfl 0 (by decide) (htb _ q7_214) (fun _ h9 => h9) rfl (by decide +kernel) rfl rfl (Nat.le_of_ble_eq_true rfl) d_Model_part_2 (fun H2 locs hP hD2 hS => ?_)
  have hP : va_P (dC, dI) classes (G.set i_1 (mo, .inr (12, (.int 0 :: .int (nI fd) :: .int mwr :: .int (nI K9) :: .int (nI KL) :: .ref moc :: .ref msT :: .ref mrV :: .ref msP :: .int mqs :: .ref mrA :: .ref mbA :: .ref mwA :: .ref mhA :: .ref mfA :: .ref mpA :: .ref mxA :: .ref myA :: .ref mmA :: .ref mqA :: .ref mzA :: .ref mwy :: .ref mfd :: .int msz :: .int (nI cz) :: .int mch :: .int mft :: .int mpt :: .int mdp :: .int mvd :: .long mnw :: .int mmk :: [])))) H2 := hP
  have hD3 : va_D A (G.set i_1 (mo, .inr (12, (.int 0 :: .int (nI fd) :: .int mwr :: .int (nI K9) :: .int (nI KL) :: .ref moc :: .ref msT :: .ref mrV :: .ref msP :: .int mqs :: .ref mrA :: .ref mbA :: .ref mwA :: .ref mhA :: .ref mfA :: .ref mpA :: .ref mxA :: .ref myA :: .ref mmA :: .ref mqA :: .ref mzA :: .ref mwy :: .ref mfd :: .int msz :: .int (nI cz) :: .int mch :: .int mft :: .int mpt :: .int mdp :: .int mvd :: .long mnw :: .int mmk :: [])))) := hD2
  have hTy := TR.setX (c' := .inr (12, (.int 0 :: .int (nI fd) :: .int mwr :: .int (nI K9) :: .int (nI KL) :: .ref moc :: .ref msT :: .ref mrV :: .ref msP :: .int mqs :: .ref mrA :: .ref mbA :: .ref mwA :: .ref mhA :: .ref mfA :: .ref mpA :: .ref mxA :: .ref myA :: .ref mmA :: .ref mqA :: .ref mzA :: .ref mwy :: .ref mfd :: .int msz :: .int (nI cz) :: .int mch :: .int mft :: .int mpt :: .int mdp :: .int mvd :: .long mnw :: .int mmk :: []))) hTy hg_1 kmo.1
  have kmsT := Xc.setX (c' := .inr (12, (.int 0 :: .int (nI fd) :: .int mwr :: .int (nI K9) :: .int (nI KL) :: .ref moc :: .ref msT :: .ref mrV :: .ref msP :: .int mqs :: .ref mrA :: .ref mbA :: .ref mwA :: .ref mhA :: .ref mfA :: .ref mpA :: .ref mxA :: .ref myA :: .ref mmA :: .ref mqA :: .ref mzA :: .ref mwy :: .ref mfd :: .int msz :: .int (nI cz) :: .int mch :: .int mft :: .int mpt :: .int mdp :: .int mvd :: .long mnw :: .int mmk :: []))) kmsT hg_1 (fun e => hx_mo_msT.symm (congrArg Prod.fst e))
  have hFR := hFR.tr (FL.set (Ad := Ad) (X := [mo]) (c' := .inr (12, (.int 0 :: .int (nI fd) :: .int mwr :: .int (nI K9) :: .int (nI KL) :: .ref moc :: .ref msT :: .ref mrV :: .ref msP :: .int mqs :: .ref mrA :: .ref mbA :: .ref mwA :: .ref mhA :: .ref mfA :: .ref mpA :: .ref mxA :: .ref myA :: .ref mmA :: .ref mqA :: .ref mzA :: .ref mwy :: .ref mfd :: .int msz :: .int (nI cz) :: .int mch :: .int mft :: .int mpt :: .int mdp :: .int mvd :: .long mnw :: .int mmk :: []))) hg_1 (by simp))
  have hg_1 := set_here (c' := .inr (12, (.int 0 :: .int (nI fd) :: .int mwr :: .int (nI K9) :: .int (nI KL) :: .ref moc :: .ref msT :: .ref mrV :: .ref msP :: .int mqs :: .ref mrA :: .ref mbA :: .ref mwA :: .ref mhA :: .ref mfA :: .ref mpA :: .ref mxA :: .ref myA :: .ref mmA :: .ref mqA :: .ref mzA :: .ref mwy :: .ref mfd :: .int msz :: .int (nI cz) :: .int mch :: .int mft :: .int mpt :: .int mdp :: .int mvd :: .long mnw :: .int mmk :: []))) hg_1
  have kmo : Xc Ad mo (.inr (12, (.int 0 :: .int (nI fd) :: .int mwr :: .int (nI K9) :: .int (nI KL) :: .ref moc :: .ref msT :: .ref mrV :: .ref msP :: .int mqs :: .ref mrA :: .ref mbA :: .ref mwA :: .ref mhA :: .ref mfA :: .ref mpA :: .ref mxA :: .ref myA :: .ref mmA :: .ref mqA :: .ref mzA :: .ref mwy :: .ref mfd :: .int msz :: .int (nI cz) :: .int mch :: .int mft :: .int mpt :: .int mdp :: .int mvd :: .long mnw :: .int mmk :: []))) (G.set i_1 (mo, .inr (12, (.int 0 :: .int (nI fd) :: .int mwr :: .int (nI K9) :: .int (nI KL) :: .ref moc :: .ref msT :: .ref mrV :: .ref msP :: .int mqs :: .ref mrA :: .ref mbA :: .ref mwA :: .ref mhA :: .ref mfA :: .ref mpA :: .ref mxA :: .ref myA :: .ref mmA :: .ref mqA :: .ref mzA :: .ref mwy :: .ref mfd :: .int msz :: .int (nI cz) :: .int mch :: .int mft :: .int mpt :: .int mdp :: .int mvd :: .long mnw :: .int mmk :: [])))) := ⟨kmo.1, List.mem_of_getElem? hg_1⟩
  have hD := hD3
  clear hD3 hD2
  generalize G.set i_1 (mo, .inr (12, (.int 0 :: .int (nI fd) :: .int mwr :: .int (nI K9) :: .int (nI KL) :: .ref moc :: .ref msT :: .ref mrV :: .ref msP :: .int mqs :: .ref mrA :: .ref mbA :: .ref mwA :: .ref mhA :: .ref mfA :: .ref mpA :: .ref mxA :: .ref myA :: .ref mmA :: .ref mqA :: .ref mzA :: .ref mwy :: .ref mfd :: .int msz :: .int (nI cz) :: .int mch :: .int mft :: .int mpt :: .int mdp :: .int mvd :: .long mnw :: .int mmk :: []))) = G_2 at hP hD hTy hFR kmo kmsT hg_1
  obtain ⟨cX_3, eX_3⟩ : ∃ z : va_E, z = .inr (12, (.int 0 :: .int (nI fd) :: .int mwr :: .int (nI K9) :: .int (nI KL) :: .ref moc :: .ref msT :: .ref mrV :: .ref msP :: .int mqs :: .ref mrA :: .ref mbA :: .ref mwA :: .ref mhA :: .ref mfA :: .ref mpA :: .ref mxA :: .ref myA :: .ref mmA :: .ref mqA :: .ref mzA :: .ref mwy :: .ref mfd :: .int msz :: .int (nI cz) :: .int mch :: .int mft :: .int mpt :: .int mdp :: .int mvd :: .long mnw :: .int mmk :: [])) := ⟨_, rfl⟩
  rw [← eX_3] at kmo
  refine lv_aload_n hx hb d_Model_part_5 rfl (lv_at hl 0 rfl) ?_
  refine lv_iload_n hx hb d_Model_part_6 rfl (lv_at hl 2 rfl) ?_
  refine lv_iconst (v := 0) hx hb d_Model_part_7 (by decide) ?_
  refine lv_bipush (v := 11) hx hb d_Model_part_8 (by decide) ?_
  refine vp_callSi (pu_callS (As := [.int 5, .int 0, .int 11]) (rest := [.ref mo]) ⟨hx, hb, hml, hown, hts⟩ tbin (c_Model_in l dC dI sb (5 : Int32) (0 : Int32) (11 : Int32)) q9_68 q8_116 q1_9 q8_117 (n := 3) (by decide +kernel) rfl ⟨rfl, rfl⟩ ⟨Nat.le_of_ble_eq_true rfl, Nat.le_of_ble_eq_true rfl⟩ ⟨Nat.le_of_ble_eq_true rfl, Nat.le_of_ble_eq_true rfl⟩ hN (hT0.keep hS hAs) hK hP [] (by simp only [List.filterMap_cons, List.filterMap_nil]) [] rfl hl.1 rfl (Nat.le_of_ble_eq_true rfl) d_Model_part_10) (fun r10 hr10 => ?_)
  refine lv_if_ne (tgt := 20) hx hb d_Model_part_13 (by decide) (fun c13 => ?_) (fun c13 => ?_)
  · have p13 : ¬ (r10 = (0 : Int32)) := c13
    refine lv_iconst (v := 0) hx hb d_Model_part_20 (by decide) ?_
    refine lv_iconst (v := 1) hx hb d_Model_part_21 (by decide) ?_
    have hFc := va_free (wc := G_2) hD hS hA (List.range G_2.length) (rg_is _)
    refine va_calli (mu_runV (As := [.int 0, .int 1]) (rest := []) ⟨hx, hb, hml, hown, hts⟩ tbin (m_Model_fails_0 l dC dI sb γ κ Ad τ gT G_2 mo _ _ _ _ _ _ _ _ _ _ _ _ _ _ _ _ _ _ _ _ _ _ _ _ _ _ _ _ _ _ _ _ H2.size hTy (by have h9 := kmo; rw [eX_3] at h9; exact h9) ) q8_79 q8_81 qp_36 q1_9 q8_82 (n := 2) (by decide +kernel) rfl ⟨rfl, rfl⟩ ⟨Nat.le_of_ble_eq_true rfl, Nat.le_of_ble_eq_true rfl⟩ ⟨Nat.le_of_ble_eq_true rfl, Nat.le_of_ble_eq_true rfl⟩ hN (hT0.keep hS hAs) hAs (Nat.le_trans hB0 hS.1) hK hP hD (List.range G_2.length) (rg_nd _) (rg_is _) [0, 1, 2, 3, 4] rfl i_1 12 hg_1 rfl rfl hl.1 rfl (Nat.le_of_ble_eq_true rfl) d_Model_part_22) hS (fun q _ h => hFc q h) hFc (fun r22 G_4 tS H22 locs ht hvm hw22 hB hz1 hk1 hS => ?_)
    obtain ⟨hTy, hF9, hr22⟩ := hw22
    have kmo := kmo.fl hF9 (q_nmn)
    have kmsT := kmsT.fl hF9 (q_nmn)
    have hFR := hFR.tr (hF9.up (q_gan))
    obtain ⟨hP1, hK1, hD1⟩ := hB
    rw [ht] at hP1
    have hP : va_P (dC, dI) classes G_4 H22 := hP1
    have hD : va_D A G_4 := hD1.weaken (fun _ _ _ h => hFc _ h)
    subst hr22
    refine lv_if_ne (tgt := 37) hx hb d_Model_part_25 (by decide) (fun c25 => ?_) (fun c25 => ?_)
    · exact absurd c25 (by decide)
    refine lv_aload_n hx hb d_Model_part_28 rfl (lv_at hl 0 rfl) ?_
    refine lv_iload_n hx hb d_Model_part_29 rfl (lv_at hl 1 rfl) ?_
    refine lv_iconst (v := 2) hx hb d_Model_part_30 (by decide) ?_
    have hFc := va_free (wc := G_4) hD hS hA (List.range G_4.length) (rg_is _)
    obtain ⟨i_6, hg_6⟩ := List.getElem?_of_mem kmo.2
    rw [eX_3] at hg_6
    refine va_calli (mu_runV (As := [.int (nI k9), .int 2]) (rest := []) ⟨hx, hb, hml, hown, hts⟩ tbin (m_Model_noc_0 l dC dI sb γ κ Ad τ gT G_4 mo _ _ _ _ _ _ _ _ _ _ _ _ _ _ _ _ _ _ _ _ _ _ _ _ _ _ _ _ _ _ _ _ _ H22.size hTy (by have h9 := kmo; rw [eX_3] at h9; exact h9) hk9 hK9) q9_64 q9_66 qp_39 q1_9 q9_67 (n := 2) (by decide +kernel) rfl ⟨rfl, rfl⟩ ⟨Nat.le_of_ble_eq_true rfl, Nat.le_of_ble_eq_true rfl⟩ ⟨Nat.le_of_ble_eq_true rfl, Nat.le_of_ble_eq_true rfl⟩ hN (hT0.keep hS hAs) hAs (Nat.le_trans hB0 hS.1) hK hP hD (List.range G_4.length) (rg_nd _) (rg_is _) [0, 1, 2, 3, 4] rfl i_6 12 hg_6 rfl rfl hl.1 rfl (Nat.le_of_ble_eq_true rfl) d_Model_part_31) hS (fun q _ h => hFc q h) hFc (fun r31 G_5 tS H31 locs ht hvm hw31 hB hz1 hk1 hS => ?_)
    obtain ⟨hTy, hF9, hr31⟩ := hw31
    have kmo := kmo.fl hF9 (q_nmn)
    have kmsT := kmsT.fl hF9 (q_nmn)
    have hFR := hFR.tr (hF9.up (q_gan))
    obtain ⟨hP1, hK1, hD1⟩ := hB
    rw [ht] at hP1
    have hP : va_P (dC, dI) classes G_5 H31 := hP1
    have hD : va_D A G_5 := hD1.weaken (fun _ _ _ h => hFc _ h)
    subst hr31
    refine lv_if_eq (tgt := 39) hx hb d_Model_part_34 (by decide) (fun c34 => ?_) (fun c34 => ?_)
    rotate_left
    · exact absurd c34 (by decide)
    refine lv_aload_n hx hb d_Model_part_39 rfl (lv_at hl 0 rfl) ?_
    obtain ⟨i_7, hg_7⟩ := List.getElem?_of_mem kmo.2
    rw [eX_3] at hg_7
    refine va_get (v := .ref msT) hx hb htb i_Model hown hK hP i_7 hg_7 rfl 6 (by decide) (htb _ q7_220) (fun _ h9 => h9) rfl d_Model_part_40 ?_
    refine lv_iload_n hx hb d_Model_part_43 rfl (lv_at hl 1 rfl) ?_
    obtain ⟨i_8, hg_8⟩ := List.getElem?_of_mem kmsT.2
    have h44 : vp_in (nI k9) 16 := vp_in_nI (by omega) (by omega)
    refine va_aldq hx hb hK hP i_8 4 hg_8 rfl h44 d_Model_part_44 ?_
    obtain ⟨t44, ft44, kt44, hc_t44⟩ := hst k9 (by omega)
    rw [show va_rf (fS (nI k9).toNatClampNeg) = .ref t44 from by rw [nI_clamp (by omega), ft44]; rfl]
    have b1_t44 := hc_t44.b1
    have b2_t44 := hc_t44.b2
    have b3_t44 := hc_t44.b3
    have b4_t44 := hc_t44.b4
    have b5_t44 := hc_t44.b5
    have b6_t44 := hc_t44.b6
    have b8_t44 := hc_t44.b8
    have b9_t44 := hc_t44.b9
    refine lv_astore_n (lv' := [(3, .ref t44), (0, .ref mo), (1, .int (nI k9)), (2, .int 5)]) hx hb d_Model_part_45 rfl hl (by decide) rfl (fun ls hl => ?_)
    refine lv_iload_n hx hb d_Model_part_46 rfl (lv_at hl 3 rfl) ?_
    have t47 : (5 : Int32).toInt = 5 := by decide
    refine lv_tableIn (tgt := 181) hx hb d_Model_part_47 (by omega) (by omega) (by rw [t47]; rfl) rfl ?_
    refine lv_aload_n hx hb d_Model_part_181 rfl (lv_at hl 0 rfl) ?_
    obtain ⟨i_9, kA_9, hg_9⟩ := tr_20 hTy kt44
    refine va_get (v := .int ((τ t44).I 25)) hx hb htb i_Text hown hK hP i_9 hg_9 rfl 25 (by decide) (htb _ q6_222) (fun _ h9 => h9) rfl d_Model_part_182 ?_
    refine lv_i2l (v := ((τ t44).I 25).toInt64) hx hb d_Model_part_185 rfl ?_
    exact W.lret (v := ((τ t44).I 25).toInt64) hx hb hr (fun t ht hW => ⟨⟨_, G_5, rfl, ⟨hTy, hFR, ⟨t44, ft44, rfl⟩, (by rw [eX_3] at kmo; exact kmo)⟩, by rw [ht]; exact hP, va_K.moved hW.alike hK, hD⟩, hS.F ht⟩) hS.2.2 d_Model_part_186
  · have p13 : r10 = (0 : Int32) := c13
    exact absurd hwhat (bz_0 hr10 p13)
set_option maxHeartbeats 4000000 in
set_option maxRecDepth 100000 in
theorem m_Model_part_ok6 (l : Launch) (dC : Nat → ClassId) (dI : Nat → Nat → Nat) (sb : sB) (γ : cG) (κ : kE) (Ad : List Nat) (τ : Nat → TD) (gT : ClassId) (G : va_W) (mo : Nat) (moc msT mrV msP mrA mbA mwA mhA mfA mpA mxA myA mmA mqA mzA mwy mfd : Nat) (mer mwr mqs msz mch mft mpt mdp mvd mmk : Int32) (mnw : Int64) (K9 KL cz fd : Nat) (k9 : Nat) (fS : Nat → Option Nat) (sz : Nat) (hTy : TR γ κ Ad τ G) (kmo : Xc Ad mo (.inr (12, (.int mer :: .int (nI fd) :: .int mwr :: .int (nI K9) :: .int (nI KL) :: .ref moc :: .ref msT :: .ref mrV :: .ref msP :: .int mqs :: .ref mrA :: .ref mbA :: .ref mwA :: .ref mhA :: .ref mfA :: .ref mpA :: .ref mxA :: .ref myA :: .ref mmA :: .ref mqA :: .ref mzA :: .ref mwy :: .ref mfd :: .int msz :: .int (nI cz) :: .int mch :: .int mft :: .int mpt :: .int mdp :: .int mvd :: .long mnw :: .int mmk :: []))) G) (kmsT : Xc Ad msT (.inl (gT, 16, .inr (.inr (.inr (.inr fS))))) G) (hx_mo_msT : mo ≠ msT) (hst : STc κ Ad τ K9 fS) (hK9 : K9 ≤ 16) (hk9 : k9 < K9) : Met l y_Model_part w_Model_part ({ frames := 2, cells := 0, slots := 0, locals := 44 }) (mu_P [.ref mo, .int (nI k9), .int 6] (dC, dI) sb G [(γ.1, .byte), (γ.2.1, .int), (γ.2.2.1, .long), (γ.2.2.2, .object "java/lang/Object"), (gT, .object "TrustChainModel$Text")] sz) (va_Ql (fun r (G' : va_W) => TR γ κ Ad τ G' ∧ FL Ad [mo] G G' ∧ ((∃ t, fS k9 = some t ∧ r = ((τ t).I 26).toInt64) ∧ Xc Ad mo (.inr (12, (.int 0 :: .int (nI fd) :: .int mwr :: .int (nI K9) :: .int (nI KL) :: .ref moc :: .ref msT :: .ref mrV :: .ref msP :: .int mqs :: .ref mrA :: .ref mbA :: .ref mwA :: .ref mhA :: .ref mfA :: .ref mpA :: .ref mxA :: .ref myA :: .ref mmA :: .ref mqA :: .ref mzA :: .ref mwy :: .ref mfd :: .int msz :: .int (nI cz) :: .int mch :: .int mft :: .int mpt :: .int mdp :: .int mvd :: .long mnw :: .int mmk :: []))) G')) (mu_B (dC, dI) [(γ.1, .byte), (γ.2.1, .int), (γ.2.2.1, .long), (γ.2.2.2, .object "java/lang/Object"), (gT, .object "TrustChainModel$Text")] (va_A G sz) (fun G' : va_W => G')) (va_A G sz)) 0 0 (va_A G sz) := by
  refine Met.ofW (cc := b_Model_part) (maxL := 6) (ret := (some FieldType.long)) (by decide) rfl ?_
  intro p e s m args below meth c s₁ B hml hv
  obtain ⟨rfl, hsz, hB0, hP, hK, hD0, hN, hT0⟩ := hv
  have hx := B.exec
  have hb := B.bytes
  have hr := B.returns
  have hts := atoms_spec (ws := w_Model_part) B.pre
  have tbin : ∀ w ∈ tb, w ∈ w_Model_part := fun w h => List.mem_cons_of_mem _ h
  have htb : ∀ w ∈ tb, w.before _ s = true := fun w h => hts w (tbin w h)
  have hown : s.vm.findClass "TrustChainModel" = some m.cls := findClass_of_methodNamed B.named
  have hlocks := B.notSynchronized
  subst hsz
  have hD := hD0.self (sz := s.heap.size)
  generalize hAe : va_A G s.heap.size = A at hD ⊢
  have hA : ∀ q : Nat, s.heap.size ≤ q → A q := fun q h => by rw [← hAe]; exact Or.inr h
  have hAs : ∀ q : Nat, A q → sb.1 ≤ q := fun q h => by
    rw [← hAe] at h
    rcases h with ⟨k, e, h⟩ | h
    · exact hD0.2 k _ h
    · exact Nat.le_trans hB0 h
  have hS : va_S A s.heap s.heap [] := va_S.rf
  have hFR := FL.rf Ad [mo] G
  have hcs : 0 ≤ (headSpec w_Model_part ({ frames := 2, cells := 0, slots := 0, locals := 44 })).room.cells ∧ 0 ≤ (headSpec w_Model_part ({ frames := 2, cells := 0, slots := 0, locals := 44 })).room.slots := ⟨Nat.le_refl _, Nat.le_refl _⟩
  have hP : va_P (dC, dI) classes G s.heap := hP
  have hl := lv_entry ([.ref mo, .int (nI k9), .int 6]) (n := 6) (Nat.le_of_ble_eq_true rfl)
  rw [lg_entry_eq]
  generalize (lg_sl ([.ref mo, .int (nI k9), .int 6]) ++ List.replicate (6 - (lg_sl ([.ref mo, .int (nI k9), .int 6])).length) Slot.unset).toArray = ls at hl ⊢
  have hl : lv_has ls 6 [(0, .ref mo), (1, .int (nI k9)), (2, .int 6)] := hl
  obtain ⟨cX_mo, eX_mo⟩ : ∃ z : va_E, z = .inr (12, (.int mer :: .int (nI fd) :: .int mwr :: .int (nI K9) :: .int (nI KL) :: .ref moc :: .ref msT :: .ref mrV :: .ref msP :: .int mqs :: .ref mrA :: .ref mbA :: .ref mwA :: .ref mhA :: .ref mfA :: .ref mpA :: .ref mxA :: .ref myA :: .ref mmA :: .ref mqA :: .ref mzA :: .ref mwy :: .ref mfd :: .int msz :: .int (nI cz) :: .int mch :: .int mft :: .int mpt :: .int mdp :: .int mvd :: .long mnw :: .int mmk :: [])) := ⟨_, rfl⟩
  rw [← eX_mo] at kmo
  have hwhat : ¬ (6 : Int32) < 0 ∧ ¬ (11 : Int32) < 6 := by decide
  refine lv_aload_n hx hb d_Model_part_0 rfl (lv_at hl 0 rfl) ?_
  refine lv_iconst (v := 0) hx hb d_Model_part_1 (by decide) ?_
  obtain ⟨i_1, hg_1⟩ := List.getElem?_of_mem kmo.2
  rw [eX_mo] at hg_1
  refine va_put (v := .int 0) (ty := .int) hx hb htb i_Model t_Model t_Model_ok n_Model hown hK hP hD hS i_1 hg_1 rfl 0 (by decide) (htb _ q7_214) (fun _ h9 => h9) rfl (by decide +kernel) rfl rfl (Nat.le_of_ble_eq_true rfl) d_Model_part_2 (fun H2 locs hP hD2 hS => ?_)
  have hP : va_P (dC, dI) classes (G.set i_1 (mo, .inr (12, (.int 0 :: .int (nI fd) :: .int mwr :: .int (nI K9) :: .int (nI KL) :: .ref moc :: .ref msT :: .ref mrV :: .ref msP :: .int mqs :: .ref mrA :: .ref mbA :: .ref mwA :: .ref mhA :: .ref mfA :: .ref mpA :: .ref mxA :: .ref myA :: .ref mmA :: .ref mqA :: .ref mzA :: .ref mwy :: .ref mfd :: .int msz :: .int (nI cz) :: .int mch :: .int mft :: .int mpt :: .int mdp :: .int mvd :: .long mnw :: .int mmk :: [])))) H2 := hP
  have hD3 : va_D A (G.set i_1 (mo, .inr (12, (.int 0 :: .int (nI fd) :: .int mwr :: .int (nI K9) :: .int (nI KL) :: .ref moc :: .ref msT :: .ref mrV :: .ref msP :: .int mqs :: .ref mrA :: .ref mbA :: .ref mwA :: .ref mhA :: .ref mfA :: .ref mpA :: .ref mxA :: .ref myA :: .ref mmA :: .ref mqA :: .ref mzA :: .ref mwy :: .ref mfd :: .int msz :: .int (nI cz) :: .int mch :: .int mft :: .int mpt :: .int mdp :: .int mvd :: .long mnw :: .int mmk :: [])))) := hD2
  have hTy := TR.setX (c' := .inr (12, (.int 0 :: .int (nI fd) :: .int mwr :: .int (nI K9) :: .int (nI KL) :: .ref moc :: .ref msT :: .ref mrV :: .ref msP :: .int mqs :: .ref mrA :: .ref mbA :: .ref mwA :: .ref mhA :: .ref mfA :: .ref mpA :: .ref mxA :: .ref myA :: .ref mmA :: .ref mqA :: .ref mzA :: .ref mwy :: .ref mfd :: .int msz :: .int (nI cz) :: .int mch :: .int mft :: .int mpt :: .int mdp :: .int mvd :: .long mnw :: .int mmk :: []))) hTy hg_1 kmo.1
  have kmsT := Xc.setX (c' := .inr (12, (.int 0 :: .int (nI fd) :: .int mwr :: .int (nI K9) :: .int (nI KL) :: .ref moc :: .ref msT :: .ref mrV :: .ref msP :: .int mqs :: .ref mrA :: .ref mbA :: .ref mwA :: .ref mhA :: .ref mfA :: .ref mpA :: .ref mxA :: .ref myA :: .ref mmA :: .ref mqA :: .ref mzA :: .ref mwy :: .ref mfd :: .int msz :: .int (nI cz) :: .int mch :: .int mft :: .int mpt :: .int mdp :: .int mvd :: .long mnw :: .int mmk :: []))) kmsT hg_1 (fun e => hx_mo_msT.symm (congrArg Prod.fst e))
  have hFR := hFR.tr (FL.set (Ad := Ad) (X := [mo]) (c' := .inr (12, (.int 0 :: .int (nI fd) :: .int mwr :: .int (nI K9) :: .int (nI KL) :: .ref moc :: .ref msT :: .ref mrV :: .ref msP :: .int mqs :: .ref mrA :: .ref mbA :: .ref mwA :: .ref mhA :: .ref mfA :: .ref mpA :: .ref mxA :: .ref myA :: .ref mmA :: .ref mqA :: .ref mzA :: .ref mwy :: .ref mfd :: .int msz :: .int (nI cz) :: .int mch :: .int mft :: .int mpt :: .int mdp :: .int mvd :: .long mnw :: .int mmk :: []))) hg_1 (by simp))
  have hg_1 := set_here (c' := .inr (12, (.int 0 :: .int (nI fd) :: .int mwr :: .int (nI K9) :: .int (nI KL) :: .ref moc :: .ref msT :: .ref mrV :: .ref msP :: .int mqs :: .ref mrA :: .ref mbA :: .ref mwA :: .ref mhA :: .ref mfA :: .ref mpA :: .ref mxA :: .ref myA :: .ref mmA :: .ref mqA :: .ref mzA :: .ref mwy :: .ref mfd :: .int msz :: .int (nI cz) :: .int mch :: .int mft :: .int mpt :: .int mdp :: .int mvd :: .long mnw :: .int mmk :: []))) hg_1
  have kmo : Xc Ad mo (.inr (12, (.int 0 :: .int (nI fd) :: .int mwr :: .int (nI K9) :: .int (nI KL) :: .ref moc :: .ref msT :: .ref mrV :: .ref msP :: .int mqs :: .ref mrA :: .ref mbA :: .ref mwA :: .ref mhA :: .ref mfA :: .ref mpA :: .ref mxA :: .ref myA :: .ref mmA :: .ref mqA :: .ref mzA :: .ref mwy :: .ref mfd :: .int msz :: .int (nI cz) :: .int mch :: .int mft :: .int mpt :: .int mdp :: .int mvd :: .long mnw :: .int mmk :: []))) (G.set i_1 (mo, .inr (12, (.int 0 :: .int (nI fd) :: .int mwr :: .int (nI K9) :: .int (nI KL) :: .ref moc :: .ref msT :: .ref mrV :: .ref msP :: .int mqs :: .ref mrA :: .ref mbA :: .ref mwA :: .ref mhA :: .ref mfA :: .ref mpA :: .ref mxA :: .ref myA :: .ref mmA :: .ref mqA :: .ref mzA :: .ref mwy :: .ref mfd :: .int msz :: .int (nI cz) :: .int mch :: .int mft :: .int mpt :: .int mdp :: .int mvd :: .long mnw :: .int mmk :: [])))) := ⟨kmo.1, List.mem_of_getElem? hg_1⟩
  have hD := hD3
  clear hD3 hD2
  generalize G.set i_1 (mo, .inr (12, (.int 0 :: .int (nI fd) :: .int mwr :: .int (nI K9) :: .int (nI KL) :: .ref moc :: .ref msT :: .ref mrV :: .ref msP :: .int mqs :: .ref mrA :: .ref mbA :: .ref mwA :: .ref mhA :: .ref mfA :: .ref mpA :: .ref mxA :: .ref myA :: .ref mmA :: .ref mqA :: .ref mzA :: .ref mwy :: .ref mfd :: .int msz :: .int (nI cz) :: .int mch :: .int mft :: .int mpt :: .int mdp :: .int mvd :: .long mnw :: .int mmk :: []))) = G_2 at hP hD hTy hFR kmo kmsT hg_1
  obtain ⟨cX_3, eX_3⟩ : ∃ z : va_E, z = .inr (12, (.int 0 :: .int (nI fd) :: .int mwr :: .int (nI K9) :: .int (nI KL) :: .ref moc :: .ref msT :: .ref mrV :: .ref msP :: .int mqs :: .ref mrA :: .ref mbA :: .ref mwA :: .ref mhA :: .ref mfA :: .ref mpA :: .ref mxA :: .ref myA :: .ref mmA :: .ref mqA :: .ref mzA :: .ref mwy :: .ref mfd :: .int msz :: .int (nI cz) :: .int mch :: .int mft :: .int mpt :: .int mdp :: .int mvd :: .long mnw :: .int mmk :: [])) := ⟨_, rfl⟩
  rw [← eX_3] at kmo
  refine lv_aload_n hx hb d_Model_part_5 rfl (lv_at hl 0 rfl) ?_
  refine lv_iload_n hx hb d_Model_part_6 rfl (lv_at hl 2 rfl) ?_
  refine lv_iconst (v := 0) hx hb d_Model_part_7 (by decide) ?_
  refine lv_bipush (v := 11) hx hb d_Model_part_8 (by decide) ?_
  refine vp_callSi (pu_callS (As := [.int 6, .int 0, .int 11]) (rest := [.ref mo]) ⟨hx, hb, hml, hown, hts⟩ tbin (c_Model_in l dC dI sb (6 : Int32) (0 : Int32) (11 : Int32)) q9_68 q8_116 q1_9 q8_117 (n := 3) (by decide +kernel) rfl ⟨rfl, rfl⟩ ⟨Nat.le_of_ble_eq_true rfl, Nat.le_of_ble_eq_true rfl⟩ ⟨Nat.le_of_ble_eq_true rfl, Nat.le_of_ble_eq_true rfl⟩ hN (hT0.keep hS hAs) hK hP [] (by simp only [List.filterMap_cons, List.filterMap_nil]) [] rfl hl.1 rfl (Nat.le_of_ble_eq_true rfl) d_Model_part_10) (fun r10 hr10 => ?_)
  refine lv_if_ne (tgt := 20) hx hb d_Model_part_13 (by decide) (fun c13 => ?_) (fun c13 => ?_)
  · have p13 : ¬ (r10 = (0 : Int32)) := c13
    refine lv_iconst (v := 0) hx hb d_Model_part_20 (by decide) ?_
    refine lv_iconst (v := 1) hx hb d_Model_part_21 (by decide) ?_
    have hFc := va_free (wc := G_2) hD hS hA (List.range G_2.length) (rg_is _)
    refine va_calli (mu_runV (As := [.int 0, .int 1]) (rest := []) ⟨hx, hb, hml, hown, hts⟩ tbin (m_Model_fails_0 l dC dI sb γ κ Ad τ gT G_2 mo _ _ _ _ _ _ _ _ _ _ _ _ _ _ _ _ _ _ _ _ _ _ _ _ _ _ _ _ _ _ _ _ H2.size hTy (by have h9 := kmo; rw [eX_3] at h9; exact h9) ) q8_79 q8_81 qp_36 q1_9 q8_82 (n := 2) (by decide +kernel) rfl ⟨rfl, rfl⟩ ⟨Nat.le_of_ble_eq_true rfl, Nat.le_of_ble_eq_true rfl⟩ ⟨Nat.le_of_ble_eq_true rfl, Nat.le_of_ble_eq_true rfl⟩ hN (hT0.keep hS hAs) hAs (Nat.le_trans hB0 hS.1) hK hP hD (List.range G_2.length) (rg_nd _) (rg_is _) [0, 1, 2, 3, 4] rfl i_1 12 hg_1 rfl rfl hl.1 rfl (Nat.le_of_ble_eq_true rfl) d_Model_part_22) hS (fun q _ h => hFc q h) hFc (fun r22 G_4 tS H22 locs ht hvm hw22 hB hz1 hk1 hS => ?_)
    obtain ⟨hTy, hF9, hr22⟩ := hw22
    have kmo := kmo.fl hF9 (q_nmn)
    have kmsT := kmsT.fl hF9 (q_nmn)
    have hFR := hFR.tr (hF9.up (q_gan))
    obtain ⟨hP1, hK1, hD1⟩ := hB
    rw [ht] at hP1
    have hP : va_P (dC, dI) classes G_4 H22 := hP1
    have hD : va_D A G_4 := hD1.weaken (fun _ _ _ h => hFc _ h)
    subst hr22
    refine lv_if_ne (tgt := 37) hx hb d_Model_part_25 (by decide) (fun c25 => ?_) (fun c25 => ?_)
    · exact absurd c25 (by decide)
    refine lv_aload_n hx hb d_Model_part_28 rfl (lv_at hl 0 rfl) ?_
    refine lv_iload_n hx hb d_Model_part_29 rfl (lv_at hl 1 rfl) ?_
    refine lv_iconst (v := 2) hx hb d_Model_part_30 (by decide) ?_
    have hFc := va_free (wc := G_4) hD hS hA (List.range G_4.length) (rg_is _)
    obtain ⟨i_6, hg_6⟩ := List.getElem?_of_mem kmo.2
    rw [eX_3] at hg_6
    refine va_calli (mu_runV (As := [.int (nI k9), .int 2]) (rest := []) ⟨hx, hb, hml, hown, hts⟩ tbin (m_Model_noc_0 l dC dI sb γ κ Ad τ gT G_4 mo _ _ _ _ _ _ _ _ _ _ _ _ _ _ _ _ _ _ _ _ _ _ _ _ _ _ _ _ _ _ _ _ _ H22.size hTy (by have h9 := kmo; rw [eX_3] at h9; exact h9) hk9 hK9) q9_64 q9_66 qp_39 q1_9 q9_67 (n := 2) (by decide +kernel) rfl ⟨rfl, rfl⟩ ⟨Nat.le_of_ble_eq_true rfl, Nat.le_of_ble_eq_true rfl⟩ ⟨Nat.le_of_ble_eq_true rfl, Nat.le_of_ble_eq_true rfl⟩ hN (hT0.keep hS hAs) hAs (Nat.le_trans hB0 hS.1) hK hP hD (List.range G_4.length) (rg_nd _) (rg_is _) [0, 1, 2, 3, 4] rfl i_6 12 hg_6 rfl rfl hl.1 rfl (Nat.le_of_ble_eq_true rfl) d_Model_part_31) hS (fun q _ h => hFc q h) hFc (fun r31 G_5 tS H31 locs ht hvm hw31 hB hz1 hk1 hS => ?_)
    obtain ⟨hTy, hF9, hr31⟩ := hw31
    have kmo := kmo.fl hF9 (q_nmn)
    have kmsT := kmsT.fl hF9 (q_nmn)
    have hFR := hFR.tr (hF9.up (q_gan))
    obtain ⟨hP1, hK1, hD1⟩ := hB
    rw [ht] at hP1
    have hP : va_P (dC, dI) classes G_5 H31 := hP1
    have hD : va_D A G_5 := hD1.weaken (fun _ _ _ h => hFc _ h)
    subst hr31
    refine lv_if_eq (tgt := 39) hx hb d_Model_part_34 (by decide) (fun c34 => ?_) (fun c34 => ?_)
    rotate_left
    · exact absurd c34 (by decide)
    refine lv_aload_n hx hb d_Model_part_39 rfl (lv_at hl 0 rfl) ?_
    obtain ⟨i_7, hg_7⟩ := List.getElem?_of_mem kmo.2
    rw [eX_3] at hg_7
    refine va_get (v := .ref msT) hx hb htb i_Model hown hK hP i_7 hg_7 rfl 6 (by decide) (htb _ q7_220) (fun _ h9 => h9) rfl d_Model_part_40 ?_
    refine lv_iload_n hx hb d_Model_part_43 rfl (lv_at hl 1 rfl) ?_
    obtain ⟨i_8, hg_8⟩ := List.getElem?_of_mem kmsT.2
    have h44 : vp_in (nI k9) 16 := vp_in_nI (by omega) (by omega)
    refine va_aldq hx hb hK hP i_8 4 hg_8 rfl h44 d_Model_part_44 ?_
    obtain ⟨t44, ft44, kt44, hc_t44⟩ := hst k9 (by omega)
    rw [show va_rf (fS (nI k9).toNatClampNeg) = .ref t44 from by rw [nI_clamp (by omega), ft44]; rfl]
    have b1_t44 := hc_t44.b1
    have b2_t44 := hc_t44.b2
    have b3_t44 := hc_t44.b3
    have b4_t44 := hc_t44.b4
    have b5_t44 := hc_t44.b5
    have b6_t44 := hc_t44.b6
    have b8_t44 := hc_t44.b8
    have b9_t44 := hc_t44.b9
    refine lv_astore_n (lv' := [(3, .ref t44), (0, .ref mo), (1, .int (nI k9)), (2, .int 6)]) hx hb d_Model_part_45 rfl hl (by decide) rfl (fun ls hl => ?_)
    refine lv_iload_n hx hb d_Model_part_46 rfl (lv_at hl 3 rfl) ?_
    have t47 : (6 : Int32).toInt = 6 := by decide
    refine lv_tableIn (tgt := 187) hx hb d_Model_part_47 (by omega) (by omega) (by rw [t47]; rfl) rfl ?_
    refine lv_aload_n hx hb d_Model_part_187 rfl (lv_at hl 0 rfl) ?_
    obtain ⟨i_9, kA_9, hg_9⟩ := tr_20 hTy kt44
    refine va_get (v := .int ((τ t44).I 26)) hx hb htb i_Text hown hK hP i_9 hg_9 rfl 26 (by decide) (htb _ q6_224) (fun _ h9 => h9) rfl d_Model_part_188 ?_
    refine lv_i2l (v := ((τ t44).I 26).toInt64) hx hb d_Model_part_191 rfl ?_
    exact W.lret (v := ((τ t44).I 26).toInt64) hx hb hr (fun t ht hW => ⟨⟨_, G_5, rfl, ⟨hTy, hFR, ⟨t44, ft44, rfl⟩, (by rw [eX_3] at kmo; exact kmo)⟩, by rw [ht]; exact hP, va_K.moved hW.alike hK, hD⟩, hS.F ht⟩) hS.2.2 d_Model_part_192
  · have p13 : r10 = (0 : Int32) := c13
    exact absurd hwhat (bz_0 hr10 p13)
set_option maxHeartbeats 4000000 in
set_option maxRecDepth 100000 in
theorem m_Model_part_ok7 (l : Launch) (dC : Nat → ClassId) (dI : Nat → Nat → Nat) (sb : sB) (γ : cG) (κ : kE) (Ad : List Nat) (τ : Nat → TD) (gT : ClassId) (G : va_W) (mo : Nat) (moc msT mrV msP mrA mbA mwA mhA mfA mpA mxA myA mmA mqA mzA mwy mfd : Nat) (mer mwr mqs msz mch mft mpt mdp mvd mmk : Int32) (mnw : Int64) (K9 KL cz fd : Nat) (k9 : Nat) (fS : Nat → Option Nat) (sz : Nat) (hTy : TR γ κ Ad τ G) (kmo : Xc Ad mo (.inr (12, (.int mer :: .int (nI fd) :: .int mwr :: .int (nI K9) :: .int (nI KL) :: .ref moc :: .ref msT :: .ref mrV :: .ref msP :: .int mqs :: .ref mrA :: .ref mbA :: .ref mwA :: .ref mhA :: .ref mfA :: .ref mpA :: .ref mxA :: .ref myA :: .ref mmA :: .ref mqA :: .ref mzA :: .ref mwy :: .ref mfd :: .int msz :: .int (nI cz) :: .int mch :: .int mft :: .int mpt :: .int mdp :: .int mvd :: .long mnw :: .int mmk :: []))) G) (kmsT : Xc Ad msT (.inl (gT, 16, .inr (.inr (.inr (.inr fS))))) G) (hx_mo_msT : mo ≠ msT) (hst : STc κ Ad τ K9 fS) (hK9 : K9 ≤ 16) (hk9 : k9 < K9) : Met l y_Model_part w_Model_part ({ frames := 2, cells := 0, slots := 0, locals := 44 }) (mu_P [.ref mo, .int (nI k9), .int 7] (dC, dI) sb G [(γ.1, .byte), (γ.2.1, .int), (γ.2.2.1, .long), (γ.2.2.2, .object "java/lang/Object"), (gT, .object "TrustChainModel$Text")] sz) (va_Ql (fun r (G' : va_W) => TR γ κ Ad τ G' ∧ FL Ad [mo] G G' ∧ ((∃ t, fS k9 = some t ∧ r = (nI (τ t).nd).toInt64) ∧ Xc Ad mo (.inr (12, (.int 0 :: .int (nI fd) :: .int mwr :: .int (nI K9) :: .int (nI KL) :: .ref moc :: .ref msT :: .ref mrV :: .ref msP :: .int mqs :: .ref mrA :: .ref mbA :: .ref mwA :: .ref mhA :: .ref mfA :: .ref mpA :: .ref mxA :: .ref myA :: .ref mmA :: .ref mqA :: .ref mzA :: .ref mwy :: .ref mfd :: .int msz :: .int (nI cz) :: .int mch :: .int mft :: .int mpt :: .int mdp :: .int mvd :: .long mnw :: .int mmk :: []))) G')) (mu_B (dC, dI) [(γ.1, .byte), (γ.2.1, .int), (γ.2.2.1, .long), (γ.2.2.2, .object "java/lang/Object"), (gT, .object "TrustChainModel$Text")] (va_A G sz) (fun G' : va_W => G')) (va_A G sz)) 0 0 (va_A G sz) := by
  refine Met.ofW (cc := b_Model_part) (maxL := 6) (ret := (some FieldType.long)) (by decide) rfl ?_
  intro p e s m args below meth c s₁ B hml hv
  obtain ⟨rfl, hsz, hB0, hP, hK, hD0, hN, hT0⟩ := hv
  have hx := B.exec
  have hb := B.bytes
  have hr := B.returns
  have hts := atoms_spec (ws := w_Model_part) B.pre
  have tbin : ∀ w ∈ tb, w ∈ w_Model_part := fun w h => List.mem_cons_of_mem _ h
  have htb : ∀ w ∈ tb, w.before _ s = true := fun w h => hts w (tbin w h)
  have hown : s.vm.findClass "TrustChainModel" = some m.cls := findClass_of_methodNamed B.named
  have hlocks := B.notSynchronized
  subst hsz
  have hD := hD0.self (sz := s.heap.size)
  generalize hAe : va_A G s.heap.size = A at hD ⊢
  have hA : ∀ q : Nat, s.heap.size ≤ q → A q := fun q h => by rw [← hAe]; exact Or.inr h
  have hAs : ∀ q : Nat, A q → sb.1 ≤ q := fun q h => by
    rw [← hAe] at h
    rcases h with ⟨k, e, h⟩ | h
    · exact hD0.2 k _ h
    · exact Nat.le_trans hB0 h
  have hS : va_S A s.heap s.heap [] := va_S.rf
  have hFR := FL.rf Ad [mo] G
  have hcs : 0 ≤ (headSpec w_Model_part ({ frames := 2, cells := 0, slots := 0, locals := 44 })).room.cells ∧ 0 ≤ (headSpec w_Model_part ({ frames := 2, cells := 0, slots := 0, locals := 44 })).room.slots := ⟨Nat.le_refl _, Nat.le_refl _⟩
  have hP : va_P (dC, dI) classes G s.heap := hP
  have hl := lv_entry ([.ref mo, .int (nI k9), .int 7]) (n := 6) (Nat.le_of_ble_eq_true rfl)
  rw [lg_entry_eq]
  generalize (lg_sl ([.ref mo, .int (nI k9), .int 7]) ++ List.replicate (6 - (lg_sl ([.ref mo, .int (nI k9), .int 7])).length) Slot.unset).toArray = ls at hl ⊢
  have hl : lv_has ls 6 [(0, .ref mo), (1, .int (nI k9)), (2, .int 7)] := hl
  obtain ⟨cX_mo, eX_mo⟩ : ∃ z : va_E, z = .inr (12, (.int mer :: .int (nI fd) :: .int mwr :: .int (nI K9) :: .int (nI KL) :: .ref moc :: .ref msT :: .ref mrV :: .ref msP :: .int mqs :: .ref mrA :: .ref mbA :: .ref mwA :: .ref mhA :: .ref mfA :: .ref mpA :: .ref mxA :: .ref myA :: .ref mmA :: .ref mqA :: .ref mzA :: .ref mwy :: .ref mfd :: .int msz :: .int (nI cz) :: .int mch :: .int mft :: .int mpt :: .int mdp :: .int mvd :: .long mnw :: .int mmk :: [])) := ⟨_, rfl⟩
  rw [← eX_mo] at kmo
  have hwhat : ¬ (7 : Int32) < 0 ∧ ¬ (11 : Int32) < 7 := by decide
  refine lv_aload_n hx hb d_Model_part_0 rfl (lv_at hl 0 rfl) ?_
  refine lv_iconst (v := 0) hx hb d_Model_part_1 (by decide) ?_
  obtain ⟨i_1, hg_1⟩ := List.getElem?_of_mem kmo.2
  rw [eX_mo] at hg_1
  refine va_put (v := .int 0) (ty := .int) hx hb htb i_Model t_Model t_Model_ok n_Model hown hK hP hD hS i_1 hg_1 rfl 0 (by decide) (htb _ q7_214) (fun _ h9 => h9) rfl (by decide +kernel) rfl rfl (Nat.le_of_ble_eq_true rfl) d_Model_part_2 (fun H2 locs hP hD2 hS => ?_)
  have hP : va_P (dC, dI) classes (G.set i_1 (mo, .inr (12, (.int 0 :: .int (nI fd) :: .int mwr :: .int (nI K9) :: .int (nI KL) :: .ref moc :: .ref msT :: .ref mrV :: .ref msP :: .int mqs :: .ref mrA :: .ref mbA :: .ref mwA :: .ref mhA :: .ref mfA :: .ref mpA :: .ref mxA :: .ref myA :: .ref mmA :: .ref mqA :: .ref mzA :: .ref mwy :: .ref mfd :: .int msz :: .int (nI cz) :: .int mch :: .int mft :: .int mpt :: .int mdp :: .int mvd :: .long mnw :: .int mmk :: [])))) H2 := hP
  have hD3 : va_D A (G.set i_1 (mo, .inr (12, (.int 0 :: .int (nI fd) :: .int mwr :: .int (nI K9) :: .int (nI KL) :: .ref moc :: .ref msT :: .ref mrV :: .ref msP :: .int mqs :: .ref mrA :: .ref mbA :: .ref mwA :: .ref mhA :: .ref mfA :: .ref mpA :: .ref mxA :: .ref myA :: .ref mmA :: .ref mqA :: .ref mzA :: .ref mwy :: .ref mfd :: .int msz :: .int (nI cz) :: .int mch :: .int mft :: .int mpt :: .int mdp :: .int mvd :: .long mnw :: .int mmk :: [])))) := hD2
  have hTy := TR.setX (c' := .inr (12, (.int 0 :: .int (nI fd) :: .int mwr :: .int (nI K9) :: .int (nI KL) :: .ref moc :: .ref msT :: .ref mrV :: .ref msP :: .int mqs :: .ref mrA :: .ref mbA :: .ref mwA :: .ref mhA :: .ref mfA :: .ref mpA :: .ref mxA :: .ref myA :: .ref mmA :: .ref mqA :: .ref mzA :: .ref mwy :: .ref mfd :: .int msz :: .int (nI cz) :: .int mch :: .int mft :: .int mpt :: .int mdp :: .int mvd :: .long mnw :: .int mmk :: []))) hTy hg_1 kmo.1
  have kmsT := Xc.setX (c' := .inr (12, (.int 0 :: .int (nI fd) :: .int mwr :: .int (nI K9) :: .int (nI KL) :: .ref moc :: .ref msT :: .ref mrV :: .ref msP :: .int mqs :: .ref mrA :: .ref mbA :: .ref mwA :: .ref mhA :: .ref mfA :: .ref mpA :: .ref mxA :: .ref myA :: .ref mmA :: .ref mqA :: .ref mzA :: .ref mwy :: .ref mfd :: .int msz :: .int (nI cz) :: .int mch :: .int mft :: .int mpt :: .int mdp :: .int mvd :: .long mnw :: .int mmk :: []))) kmsT hg_1 (fun e => hx_mo_msT.symm (congrArg Prod.fst e))
  have hFR := hFR.tr (FL.set (Ad := Ad) (X := [mo]) (c' := .inr (12, (.int 0 :: .int (nI fd) :: .int mwr :: .int (nI K9) :: .int (nI KL) :: .ref moc :: .ref msT :: .ref mrV :: .ref msP :: .int mqs :: .ref mrA :: .ref mbA :: .ref mwA :: .ref mhA :: .ref mfA :: .ref mpA :: .ref mxA :: .ref myA :: .ref mmA :: .ref mqA :: .ref mzA :: .ref mwy :: .ref mfd :: .int msz :: .int (nI cz) :: .int mch :: .int mft :: .int mpt :: .int mdp :: .int mvd :: .long mnw :: .int mmk :: []))) hg_1 (by simp))
  have hg_1 := set_here (c' := .inr (12, (.int 0 :: .int (nI fd) :: .int mwr :: .int (nI K9) :: .int (nI KL) :: .ref moc :: .ref msT :: .ref mrV :: .ref msP :: .int mqs :: .ref mrA :: .ref mbA :: .ref mwA :: .ref mhA :: .ref mfA :: .ref mpA :: .ref mxA :: .ref myA :: .ref mmA :: .ref mqA :: .ref mzA :: .ref mwy :: .ref mfd :: .int msz :: .int (nI cz) :: .int mch :: .int mft :: .int mpt :: .int mdp :: .int mvd :: .long mnw :: .int mmk :: []))) hg_1
  have kmo : Xc Ad mo (.inr (12, (.int 0 :: .int (nI fd) :: .int mwr :: .int (nI K9) :: .int (nI KL) :: .ref moc :: .ref msT :: .ref mrV :: .ref msP :: .int mqs :: .ref mrA :: .ref mbA :: .ref mwA :: .ref mhA :: .ref mfA :: .ref mpA :: .ref mxA :: .ref myA :: .ref mmA :: .ref mqA :: .ref mzA :: .ref mwy :: .ref mfd :: .int msz :: .int (nI cz) :: .int mch :: .int mft :: .int mpt :: .int mdp :: .int mvd :: .long mnw :: .int mmk :: []))) (G.set i_1 (mo, .inr (12, (.int 0 :: .int (nI fd) :: .int mwr :: .int (nI K9) :: .int (nI KL) :: .ref moc :: .ref msT :: .ref mrV :: .ref msP :: .int mqs :: .ref mrA :: .ref mbA :: .ref mwA :: .ref mhA :: .ref mfA :: .ref mpA :: .ref mxA :: .ref myA :: .ref mmA :: .ref mqA :: .ref mzA :: .ref mwy :: .ref mfd :: .int msz :: .int (nI cz) :: .int mch :: .int mft :: .int mpt :: .int mdp :: .int mvd :: .long mnw :: .int mmk :: [])))) := ⟨kmo.1, List.mem_of_getElem? hg_1⟩
  have hD := hD3
  clear hD3 hD2
  generalize G.set i_1 (mo, .inr (12, (.int 0 :: .int (nI fd) :: .int mwr :: .int (nI K9) :: .int (nI KL) :: .ref moc :: .ref msT :: .ref mrV :: .ref msP :: .int mqs :: .ref mrA :: .ref mbA :: .ref mwA :: .ref mhA :: .ref mfA :: .ref mpA :: .ref mxA :: .ref myA :: .ref mmA :: .ref mqA :: .ref mzA :: .ref mwy :: .ref mfd :: .int msz :: .int (nI cz) :: .int mch :: .int mft :: .int mpt :: .int mdp :: .int mvd :: .long mnw :: .int mmk :: []))) = G_2 at hP hD hTy hFR kmo kmsT hg_1
  obtain ⟨cX_3, eX_3⟩ : ∃ z : va_E, z = .inr (12, (.int 0 :: .int (nI fd) :: .int mwr :: .int (nI K9) :: .int (nI KL) :: .ref moc :: .ref msT :: .ref mrV :: .ref msP :: .int mqs :: .ref mrA :: .ref mbA :: .ref mwA :: .ref mhA :: .ref mfA :: .ref mpA :: .ref mxA :: .ref myA :: .ref mmA :: .ref mqA :: .ref mzA :: .ref mwy :: .ref mfd :: .int msz :: .int (nI cz) :: .int mch :: .int mft :: .int mpt :: .int mdp :: .int mvd :: .long mnw :: .int mmk :: [])) := ⟨_, rfl⟩
  rw [← eX_3] at kmo
  refine lv_aload_n hx hb d_Model_part_5 rfl (lv_at hl 0 rfl) ?_
  refine lv_iload_n hx hb d_Model_part_6 rfl (lv_at hl 2 rfl) ?_
  refine lv_iconst (v := 0) hx hb d_Model_part_7 (by decide) ?_
  refine lv_bipush (v := 11) hx hb d_Model_part_8 (by decide) ?_
  refine vp_callSi (pu_callS (As := [.int 7, .int 0, .int 11]) (rest := [.ref mo]) ⟨hx, hb, hml, hown, hts⟩ tbin (c_Model_in l dC dI sb (7 : Int32) (0 : Int32) (11 : Int32)) q9_68 q8_116 q1_9 q8_117 (n := 3) (by decide +kernel) rfl ⟨rfl, rfl⟩ ⟨Nat.le_of_ble_eq_true rfl, Nat.le_of_ble_eq_true rfl⟩ ⟨Nat.le_of_ble_eq_true rfl, Nat.le_of_ble_eq_true rfl⟩ hN (hT0.keep hS hAs) hK hP [] (by simp only [List.filterMap_cons, List.filterMap_nil]) [] rfl hl.1 rfl (Nat.le_of_ble_eq_true rfl) d_Model_part_10) (fun r10 hr10 => ?_)
  refine lv_if_ne (tgt := 20) hx hb d_Model_part_13 (by decide) (fun c13 => ?_) (fun c13 => ?_)
  · have p13 : ¬ (r10 = (0 : Int32)) := c13
    refine lv_iconst (v := 0) hx hb d_Model_part_20 (by decide) ?_
    refine lv_iconst (v := 1) hx hb d_Model_part_21 (by decide) ?_
    have hFc := va_free (wc := G_2) hD hS hA (List.range G_2.length) (rg_is _)
    refine va_calli (mu_runV (As := [.int 0, .int 1]) (rest := []) ⟨hx, hb, hml, hown, hts⟩ tbin (m_Model_fails_0 l dC dI sb γ κ Ad τ gT G_2 mo _ _ _ _ _ _ _ _ _ _ _ _ _ _ _ _ _ _ _ _ _ _ _ _ _ _ _ _ _ _ _ _ H2.size hTy (by have h9 := kmo; rw [eX_3] at h9; exact h9) ) q8_79 q8_81 qp_36 q1_9 q8_82 (n := 2) (by decide +kernel) rfl ⟨rfl, rfl⟩ ⟨Nat.le_of_ble_eq_true rfl, Nat.le_of_ble_eq_true rfl⟩ ⟨Nat.le_of_ble_eq_true rfl, Nat.le_of_ble_eq_true rfl⟩ hN (hT0.keep hS hAs) hAs (Nat.le_trans hB0 hS.1) hK hP hD (List.range G_2.length) (rg_nd _) (rg_is _) [0, 1, 2, 3, 4] rfl i_1 12 hg_1 rfl rfl hl.1 rfl (Nat.le_of_ble_eq_true rfl) d_Model_part_22) hS (fun q _ h => hFc q h) hFc (fun r22 G_4 tS H22 locs ht hvm hw22 hB hz1 hk1 hS => ?_)
    obtain ⟨hTy, hF9, hr22⟩ := hw22
    have kmo := kmo.fl hF9 (q_nmn)
    have kmsT := kmsT.fl hF9 (q_nmn)
    have hFR := hFR.tr (hF9.up (q_gan))
    obtain ⟨hP1, hK1, hD1⟩ := hB
    rw [ht] at hP1
    have hP : va_P (dC, dI) classes G_4 H22 := hP1
    have hD : va_D A G_4 := hD1.weaken (fun _ _ _ h => hFc _ h)
    subst hr22
    refine lv_if_ne (tgt := 37) hx hb d_Model_part_25 (by decide) (fun c25 => ?_) (fun c25 => ?_)
    · exact absurd c25 (by decide)
    refine lv_aload_n hx hb d_Model_part_28 rfl (lv_at hl 0 rfl) ?_
    refine lv_iload_n hx hb d_Model_part_29 rfl (lv_at hl 1 rfl) ?_
    refine lv_iconst (v := 2) hx hb d_Model_part_30 (by decide) ?_
    have hFc := va_free (wc := G_4) hD hS hA (List.range G_4.length) (rg_is _)
    obtain ⟨i_6, hg_6⟩ := List.getElem?_of_mem kmo.2
    rw [eX_3] at hg_6
    refine va_calli (mu_runV (As := [.int (nI k9), .int 2]) (rest := []) ⟨hx, hb, hml, hown, hts⟩ tbin (m_Model_noc_0 l dC dI sb γ κ Ad τ gT G_4 mo _ _ _ _ _ _ _ _ _ _ _ _ _ _ _ _ _ _ _ _ _ _ _ _ _ _ _ _ _ _ _ _ _ H22.size hTy (by have h9 := kmo; rw [eX_3] at h9; exact h9) hk9 hK9) q9_64 q9_66 qp_39 q1_9 q9_67 (n := 2) (by decide +kernel) rfl ⟨rfl, rfl⟩ ⟨Nat.le_of_ble_eq_true rfl, Nat.le_of_ble_eq_true rfl⟩ ⟨Nat.le_of_ble_eq_true rfl, Nat.le_of_ble_eq_true rfl⟩ hN (hT0.keep hS hAs) hAs (Nat.le_trans hB0 hS.1) hK hP hD (List.range G_4.length) (rg_nd _) (rg_is _) [0, 1, 2, 3, 4] rfl i_6 12 hg_6 rfl rfl hl.1 rfl (Nat.le_of_ble_eq_true rfl) d_Model_part_31) hS (fun q _ h => hFc q h) hFc (fun r31 G_5 tS H31 locs ht hvm hw31 hB hz1 hk1 hS => ?_)
    obtain ⟨hTy, hF9, hr31⟩ := hw31
    have kmo := kmo.fl hF9 (q_nmn)
    have kmsT := kmsT.fl hF9 (q_nmn)
    have hFR := hFR.tr (hF9.up (q_gan))
    obtain ⟨hP1, hK1, hD1⟩ := hB
    rw [ht] at hP1
    have hP : va_P (dC, dI) classes G_5 H31 := hP1
    have hD : va_D A G_5 := hD1.weaken (fun _ _ _ h => hFc _ h)
    subst hr31
    refine lv_if_eq (tgt := 39) hx hb d_Model_part_34 (by decide) (fun c34 => ?_) (fun c34 => ?_)
    rotate_left
    · exact absurd c34 (by decide)
    refine lv_aload_n hx hb d_Model_part_39 rfl (lv_at hl 0 rfl) ?_
    obtain ⟨i_7, hg_7⟩ := List.getElem?_of_mem kmo.2
    rw [eX_3] at hg_7
    refine va_get (v := .ref msT) hx hb htb i_Model hown hK hP i_7 hg_7 rfl 6 (by decide) (htb _ q7_220) (fun _ h9 => h9) rfl d_Model_part_40 ?_
    refine lv_iload_n hx hb d_Model_part_43 rfl (lv_at hl 1 rfl) ?_
    obtain ⟨i_8, hg_8⟩ := List.getElem?_of_mem kmsT.2
    have h44 : vp_in (nI k9) 16 := vp_in_nI (by omega) (by omega)
    refine va_aldq hx hb hK hP i_8 4 hg_8 rfl h44 d_Model_part_44 ?_
    obtain ⟨t44, ft44, kt44, hc_t44⟩ := hst k9 (by omega)
    rw [show va_rf (fS (nI k9).toNatClampNeg) = .ref t44 from by rw [nI_clamp (by omega), ft44]; rfl]
    have b1_t44 := hc_t44.b1
    have b2_t44 := hc_t44.b2
    have b3_t44 := hc_t44.b3
    have b4_t44 := hc_t44.b4
    have b5_t44 := hc_t44.b5
    have b6_t44 := hc_t44.b6
    have b8_t44 := hc_t44.b8
    have b9_t44 := hc_t44.b9
    refine lv_astore_n (lv' := [(3, .ref t44), (0, .ref mo), (1, .int (nI k9)), (2, .int 7)]) hx hb d_Model_part_45 rfl hl (by decide) rfl (fun ls hl => ?_)
    refine lv_iload_n hx hb d_Model_part_46 rfl (lv_at hl 3 rfl) ?_
    have t47 : (7 : Int32).toInt = 7 := by decide
    refine lv_tableIn (tgt := 193) hx hb d_Model_part_47 (by omega) (by omega) (by rw [t47]; rfl) rfl ?_
    refine lv_aload_n hx hb d_Model_part_193 rfl (lv_at hl 0 rfl) ?_
    obtain ⟨i_9, kA_9, hg_9⟩ := tr_20 hTy kt44
    refine va_get (v := .int ((τ t44).I 27)) hx hb htb i_Text hown hK hP i_9 hg_9 rfl 27 (by decide) (htb _ q6_226) (fun _ h9 => h9) rfl d_Model_part_194 ?_
    rw [hc_t44.e27]
    refine lv_i2l (v := (nI ((τ t44).nd)).toInt64) hx hb d_Model_part_197 rfl ?_
    exact W.lret (v := (nI ((τ t44).nd)).toInt64) hx hb hr (fun t ht hW => ⟨⟨_, G_5, rfl, ⟨hTy, hFR, ⟨t44, ft44, rfl⟩, (by rw [eX_3] at kmo; exact kmo)⟩, by rw [ht]; exact hP, va_K.moved hW.alike hK, hD⟩, hS.F ht⟩) hS.2.2 d_Model_part_198
  · have p13 : r10 = (0 : Int32) := c13
    exact absurd hwhat (bz_0 hr10 p13)
set_option maxHeartbeats 4000000 in
set_option maxRecDepth 100000 in
theorem m_Model_part_ok8 (l : Launch) (dC : Nat → ClassId) (dI : Nat → Nat → Nat) (sb : sB) (γ : cG) (κ : kE) (Ad : List Nat) (τ : Nat → TD) (gT : ClassId) (G : va_W) (mo : Nat) (moc msT mrV msP mrA mbA mwA mhA mfA mpA mxA myA mmA mqA mzA mwy mfd : Nat) (mer mwr mqs msz mch mft mpt mdp mvd mmk : Int32) (mnw : Int64) (K9 KL cz fd : Nat) (k9 : Nat) (fS : Nat → Option Nat) (sz : Nat) (hTy : TR γ κ Ad τ G) (kmo : Xc Ad mo (.inr (12, (.int mer :: .int (nI fd) :: .int mwr :: .int (nI K9) :: .int (nI KL) :: .ref moc :: .ref msT :: .ref mrV :: .ref msP :: .int mqs :: .ref mrA :: .ref mbA :: .ref mwA :: .ref mhA :: .ref mfA :: .ref mpA :: .ref mxA :: .ref myA :: .ref mmA :: .ref mqA :: .ref mzA :: .ref mwy :: .ref mfd :: .int msz :: .int (nI cz) :: .int mch :: .int mft :: .int mpt :: .int mdp :: .int mvd :: .long mnw :: .int mmk :: []))) G) (kmsT : Xc Ad msT (.inl (gT, 16, .inr (.inr (.inr (.inr fS))))) G) (hx_mo_msT : mo ≠ msT) (hst : STc κ Ad τ K9 fS) (hK9 : K9 ≤ 16) (hk9 : k9 < K9) : Met l y_Model_part w_Model_part ({ frames := 2, cells := 0, slots := 0, locals := 44 }) (mu_P [.ref mo, .int (nI k9), .int 8] (dC, dI) sb G [(γ.1, .byte), (γ.2.1, .int), (γ.2.2.1, .long), (γ.2.2.2, .object "java/lang/Object"), (gT, .object "TrustChainModel$Text")] sz) (va_Ql (fun r (G' : va_W) => TR γ κ Ad τ G' ∧ FL Ad [mo] G G' ∧ ((∃ t, fS k9 = some t ∧ r = ((τ t).I 16).toInt64) ∧ Xc Ad mo (.inr (12, (.int 0 :: .int (nI fd) :: .int mwr :: .int (nI K9) :: .int (nI KL) :: .ref moc :: .ref msT :: .ref mrV :: .ref msP :: .int mqs :: .ref mrA :: .ref mbA :: .ref mwA :: .ref mhA :: .ref mfA :: .ref mpA :: .ref mxA :: .ref myA :: .ref mmA :: .ref mqA :: .ref mzA :: .ref mwy :: .ref mfd :: .int msz :: .int (nI cz) :: .int mch :: .int mft :: .int mpt :: .int mdp :: .int mvd :: .long mnw :: .int mmk :: []))) G')) (mu_B (dC, dI) [(γ.1, .byte), (γ.2.1, .int), (γ.2.2.1, .long), (γ.2.2.2, .object "java/lang/Object"), (gT, .object "TrustChainModel$Text")] (va_A G sz) (fun G' : va_W => G')) (va_A G sz)) 0 0 (va_A G sz) := by
  refine Met.ofW (cc := b_Model_part) (maxL := 6) (ret := (some FieldType.long)) (by decide) rfl ?_
  intro p e s m args below meth c s₁ B hml hv
  obtain ⟨rfl, hsz, hB0, hP, hK, hD0, hN, hT0⟩ := hv
  have hx := B.exec
  have hb := B.bytes
  have hr := B.returns
  have hts := atoms_spec (ws := w_Model_part) B.pre
  have tbin : ∀ w ∈ tb, w ∈ w_Model_part := fun w h => List.mem_cons_of_mem _ h
  have htb : ∀ w ∈ tb, w.before _ s = true := fun w h => hts w (tbin w h)
  have hown : s.vm.findClass "TrustChainModel" = some m.cls := findClass_of_methodNamed B.named
  have hlocks := B.notSynchronized
  subst hsz
  have hD := hD0.self (sz := s.heap.size)
  generalize hAe : va_A G s.heap.size = A at hD ⊢
  have hA : ∀ q : Nat, s.heap.size ≤ q → A q := fun q h => by rw [← hAe]; exact Or.inr h
  have hAs : ∀ q : Nat, A q → sb.1 ≤ q := fun q h => by
    rw [← hAe] at h
    rcases h with ⟨k, e, h⟩ | h
    · exact hD0.2 k _ h
    · exact Nat.le_trans hB0 h
  have hS : va_S A s.heap s.heap [] := va_S.rf
  have hFR := FL.rf Ad [mo] G
  have hcs : 0 ≤ (headSpec w_Model_part ({ frames := 2, cells := 0, slots := 0, locals := 44 })).room.cells ∧ 0 ≤ (headSpec w_Model_part ({ frames := 2, cells := 0, slots := 0, locals := 44 })).room.slots := ⟨Nat.le_refl _, Nat.le_refl _⟩
  have hP : va_P (dC, dI) classes G s.heap := hP
  have hl := lv_entry ([.ref mo, .int (nI k9), .int 8]) (n := 6) (Nat.le_of_ble_eq_true rfl)
  rw [lg_entry_eq]
  generalize (lg_sl ([.ref mo, .int (nI k9), .int 8]) ++ List.replicate (6 - (lg_sl ([.ref mo, .int (nI k9), .int 8])).length) Slot.unset).toArray = ls at hl ⊢
  have hl : lv_has ls 6 [(0, .ref mo), (1, .int (nI k9)), (2, .int 8)] := hl
  obtain ⟨cX_mo, eX_mo⟩ : ∃ z : va_E, z = .inr (12, (.int mer :: .int (nI fd) :: .int mwr :: .int (nI K9) :: .int (nI KL) :: .ref moc :: .ref msT :: .ref mrV :: .ref msP :: .int mqs :: .ref mrA :: .ref mbA :: .ref mwA :: .ref mhA :: .ref mfA :: .ref mpA :: .ref mxA :: .ref myA :: .ref mmA :: .ref mqA :: .ref mzA :: .ref mwy :: .ref mfd :: .int msz :: .int (nI cz) :: .int mch :: .int mft :: .int mpt :: .int mdp :: .int mvd :: .long mnw :: .int mmk :: [])) := ⟨_, rfl⟩
  rw [← eX_mo] at kmo
  have hwhat : ¬ (8 : Int32) < 0 ∧ ¬ (11 : Int32) < 8 := by decide
  refine lv_aload_n hx hb d_Model_part_0 rfl (lv_at hl 0 rfl) ?_
  refine lv_iconst (v := 0) hx hb d_Model_part_1 (by decide) ?_
  obtain ⟨i_1, hg_1⟩ := List.getElem?_of_mem kmo.2
  rw [eX_mo] at hg_1
  refine va_put (v := .int 0) (ty := .int) hx hb htb i_Model t_Model t_Model_ok n_Model hown hK hP hD hS i_1 hg_1 rfl 0 (by decide) (htb _ q7_214) (fun _ h9 => h9) rfl (by decide +kernel) rfl rfl (Nat.le_of_ble_eq_true rfl) d_Model_part_2 (fun H2 locs hP hD2 hS => ?_)
  have hP : va_P (dC, dI) classes (G.set i_1 (mo, .inr (12, (.int 0 :: .int (nI fd) :: .int mwr :: .int (nI K9) :: .int (nI KL) :: .ref moc :: .ref msT :: .ref mrV :: .ref msP :: .int mqs :: .ref mrA :: .ref mbA :: .ref mwA :: .ref mhA :: .ref mfA :: .ref mpA :: .ref mxA :: .ref myA :: .ref mmA :: .ref mqA :: .ref mzA :: .ref mwy :: .ref mfd :: .int msz :: .int (nI cz) :: .int mch :: .int mft :: .int mpt :: .int mdp :: .int mvd :: .long mnw :: .int mmk :: [])))) H2 := hP
  have hD3 : va_D A (G.set i_1 (mo, .inr (12, (.int 0 :: .int (nI fd) :: .int mwr :: .int (nI K9) :: .int (nI KL) :: .ref moc :: .ref msT :: .ref mrV :: .ref msP :: .int mqs :: .ref mrA :: .ref mbA :: .ref mwA :: .ref mhA :: .ref mfA :: .ref mpA :: .ref mxA :: .ref myA :: .ref mmA :: .ref mqA :: .ref mzA :: .ref mwy :: .ref mfd :: .int msz :: .int (nI cz) :: .int mch :: .int mft :: .int mpt :: .int mdp :: .int mvd :: .long mnw :: .int mmk :: [])))) := hD2
  have hTy := TR.setX (c' := .inr (12, (.int 0 :: .int (nI fd) :: .int mwr :: .int (nI K9) :: .int (nI KL) :: .ref moc :: .ref msT :: .ref mrV :: .ref msP :: .int mqs :: .ref mrA :: .ref mbA :: .ref mwA :: .ref mhA :: .ref mfA :: .ref mpA :: .ref mxA :: .ref myA :: .ref mmA :: .ref mqA :: .ref mzA :: .ref mwy :: .ref mfd :: .int msz :: .int (nI cz) :: .int mch :: .int mft :: .int mpt :: .int mdp :: .int mvd :: .long mnw :: .int mmk :: []))) hTy hg_1 kmo.1
  have kmsT := Xc.setX (c' := .inr (12, (.int 0 :: .int (nI fd) :: .int mwr :: .int (nI K9) :: .int (nI KL) :: .ref moc :: .ref msT :: .ref mrV :: .ref msP :: .int mqs :: .ref mrA :: .ref mbA :: .ref mwA :: .ref mhA :: .ref mfA :: .ref mpA :: .ref mxA :: .ref myA :: .ref mmA :: .ref mqA :: .ref mzA :: .ref mwy :: .ref mfd :: .int msz :: .int (nI cz) :: .int mch :: .int mft :: .int mpt :: .int mdp :: .int mvd :: .long mnw :: .int mmk :: []))) kmsT hg_1 (fun e => hx_mo_msT.symm (congrArg Prod.fst e))
  have hFR := hFR.tr (FL.set (Ad := Ad) (X := [mo]) (c' := .inr (12, (.int 0 :: .int (nI fd) :: .int mwr :: .int (nI K9) :: .int (nI KL) :: .ref moc :: .ref msT :: .ref mrV :: .ref msP :: .int mqs :: .ref mrA :: .ref mbA :: .ref mwA :: .ref mhA :: .ref mfA :: .ref mpA :: .ref mxA :: .ref myA :: .ref mmA :: .ref mqA :: .ref mzA :: .ref mwy :: .ref mfd :: .int msz :: .int (nI cz) :: .int mch :: .int mft :: .int mpt :: .int mdp :: .int mvd :: .long mnw :: .int mmk :: []))) hg_1 (by simp))
  have hg_1 := set_here (c' := .inr (12, (.int 0 :: .int (nI fd) :: .int mwr :: .int (nI K9) :: .int (nI KL) :: .ref moc :: .ref msT :: .ref mrV :: .ref msP :: .int mqs :: .ref mrA :: .ref mbA :: .ref mwA :: .ref mhA :: .ref mfA :: .ref mpA :: .ref mxA :: .ref myA :: .ref mmA :: .ref mqA :: .ref mzA :: .ref mwy :: .ref mfd :: .int msz :: .int (nI cz) :: .int mch :: .int mft :: .int mpt :: .int mdp :: .int mvd :: .long mnw :: .int mmk :: []))) hg_1
  have kmo : Xc Ad mo (.inr (12, (.int 0 :: .int (nI fd) :: .int mwr :: .int (nI K9) :: .int (nI KL) :: .ref moc :: .ref msT :: .ref mrV :: .ref msP :: .int mqs :: .ref mrA :: .ref mbA :: .ref mwA :: .ref mhA :: .ref mfA :: .ref mpA :: .ref mxA :: .ref myA :: .ref mmA :: .ref mqA :: .ref mzA :: .ref mwy :: .ref mfd :: .int msz :: .int (nI cz) :: .int mch :: .int mft :: .int mpt :: .int mdp :: .int mvd :: .long mnw :: .int mmk :: []))) (G.set i_1 (mo, .inr (12, (.int 0 :: .int (nI fd) :: .int mwr :: .int (nI K9) :: .int (nI KL) :: .ref moc :: .ref msT :: .ref mrV :: .ref msP :: .int mqs :: .ref mrA :: .ref mbA :: .ref mwA :: .ref mhA :: .ref mfA :: .ref mpA :: .ref mxA :: .ref myA :: .ref mmA :: .ref mqA :: .ref mzA :: .ref mwy :: .ref mfd :: .int msz :: .int (nI cz) :: .int mch :: .int mft :: .int mpt :: .int mdp :: .int mvd :: .long mnw :: .int mmk :: [])))) := ⟨kmo.1, List.mem_of_getElem? hg_1⟩
  have hD := hD3
  clear hD3 hD2
  generalize G.set i_1 (mo, .inr (12, (.int 0 :: .int (nI fd) :: .int mwr :: .int (nI K9) :: .int (nI KL) :: .ref moc :: .ref msT :: .ref mrV :: .ref msP :: .int mqs :: .ref mrA :: .ref mbA :: .ref mwA :: .ref mhA :: .ref mfA :: .ref mpA :: .ref mxA :: .ref myA :: .ref mmA :: .ref mqA :: .ref mzA :: .ref mwy :: .ref mfd :: .int msz :: .int (nI cz) :: .int mch :: .int mft :: .int mpt :: .int mdp :: .int mvd :: .long mnw :: .int mmk :: []))) = G_2 at hP hD hTy hFR kmo kmsT hg_1
  obtain ⟨cX_3, eX_3⟩ : ∃ z : va_E, z = .inr (12, (.int 0 :: .int (nI fd) :: .int mwr :: .int (nI K9) :: .int (nI KL) :: .ref moc :: .ref msT :: .ref mrV :: .ref msP :: .int mqs :: .ref mrA :: .ref mbA :: .ref mwA :: .ref mhA :: .ref mfA :: .ref mpA :: .ref mxA :: .ref myA :: .ref mmA :: .ref mqA :: .ref mzA :: .ref mwy :: .ref mfd :: .int msz :: .int (nI cz) :: .int mch :: .int mft :: .int mpt :: .int mdp :: .int mvd :: .long mnw :: .int mmk :: [])) := ⟨_, rfl⟩
  rw [← eX_3] at kmo
  refine lv_aload_n hx hb d_Model_part_5 rfl (lv_at hl 0 rfl) ?_
  refine lv_iload_n hx hb d_Model_part_6 rfl (lv_at hl 2 rfl) ?_
  refine lv_iconst (v := 0) hx hb d_Model_part_7 (by decide) ?_
  refine lv_bipush (v := 11) hx hb d_Model_part_8 (by decide) ?_
  refine vp_callSi (pu_callS (As := [.int 8, .int 0, .int 11]) (rest := [.ref mo]) ⟨hx, hb, hml, hown, hts⟩ tbin (c_Model_in l dC dI sb (8 : Int32) (0 : Int32) (11 : Int32)) q9_68 q8_116 q1_9 q8_117 (n := 3) (by decide +kernel) rfl ⟨rfl, rfl⟩ ⟨Nat.le_of_ble_eq_true rfl, Nat.le_of_ble_eq_true rfl⟩ ⟨Nat.le_of_ble_eq_true rfl, Nat.le_of_ble_eq_true rfl⟩ hN (hT0.keep hS hAs) hK hP [] (by simp only [List.filterMap_cons, List.filterMap_nil]) [] rfl hl.1 rfl (Nat.le_of_ble_eq_true rfl) d_Model_part_10) (fun r10 hr10 => ?_)
  refine lv_if_ne (tgt := 20) hx hb d_Model_part_13 (by decide) (fun c13 => ?_) (fun c13 => ?_)
  · have p13 : ¬ (r10 = (0 : Int32)) := c13
    refine lv_iconst (v := 0) hx hb d_Model_part_20 (by decide) ?_
    refine lv_iconst (v := 1) hx hb d_Model_part_21 (by decide) ?_
    have hFc := va_free (wc := G_2) hD hS hA (List.range G_2.length) (rg_is _)
    refine va_calli (mu_runV (As := [.int 0, .int 1]) (rest := []) ⟨hx, hb, hml, hown, hts⟩ tbin (m_Model_fails_0 l dC dI sb γ κ Ad τ gT G_2 mo _ _ _ _ _ _ _ _ _ _ _ _ _ _ _ _ _ _ _ _ _ _ _ _ _ _ _ _ _ _ _ _ H2.size hTy (by have h9 := kmo; rw [eX_3] at h9; exact h9) ) q8_79 q8_81 qp_36 q1_9 q8_82 (n := 2) (by decide +kernel) rfl ⟨rfl, rfl⟩ ⟨Nat.le_of_ble_eq_true rfl, Nat.le_of_ble_eq_true rfl⟩ ⟨Nat.le_of_ble_eq_true rfl, Nat.le_of_ble_eq_true rfl⟩ hN (hT0.keep hS hAs) hAs (Nat.le_trans hB0 hS.1) hK hP hD (List.range G_2.length) (rg_nd _) (rg_is _) [0, 1, 2, 3, 4] rfl i_1 12 hg_1 rfl rfl hl.1 rfl (Nat.le_of_ble_eq_true rfl) d_Model_part_22) hS (fun q _ h => hFc q h) hFc (fun r22 G_4 tS H22 locs ht hvm hw22 hB hz1 hk1 hS => ?_)
    obtain ⟨hTy, hF9, hr22⟩ := hw22
    have kmo := kmo.fl hF9 (q_nmn)
    have kmsT := kmsT.fl hF9 (q_nmn)
    have hFR := hFR.tr (hF9.up (q_gan))
    obtain ⟨hP1, hK1, hD1⟩ := hB
    rw [ht] at hP1
    have hP : va_P (dC, dI) classes G_4 H22 := hP1
    have hD : va_D A G_4 := hD1.weaken (fun _ _ _ h => hFc _ h)
    subst hr22
    refine lv_if_ne (tgt := 37) hx hb d_Model_part_25 (by decide) (fun c25 => ?_) (fun c25 => ?_)
    · exact absurd c25 (by decide)
    refine lv_aload_n hx hb d_Model_part_28 rfl (lv_at hl 0 rfl) ?_
    refine lv_iload_n hx hb d_Model_part_29 rfl (lv_at hl 1 rfl) ?_
    refine lv_iconst (v := 2) hx hb d_Model_part_30 (by decide) ?_
    have hFc := va_free (wc := G_4) hD hS hA (List.range G_4.length) (rg_is _)
    obtain ⟨i_6, hg_6⟩ := List.getElem?_of_mem kmo.2
    rw [eX_3] at hg_6
    refine va_calli (mu_runV (As := [.int (nI k9), .int 2]) (rest := []) ⟨hx, hb, hml, hown, hts⟩ tbin (m_Model_noc_0 l dC dI sb γ κ Ad τ gT G_4 mo _ _ _ _ _ _ _ _ _ _ _ _ _ _ _ _ _ _ _ _ _ _ _ _ _ _ _ _ _ _ _ _ _ H22.size hTy (by have h9 := kmo; rw [eX_3] at h9; exact h9) hk9 hK9) q9_64 q9_66 qp_39 q1_9 q9_67 (n := 2) (by decide +kernel) rfl ⟨rfl, rfl⟩ ⟨Nat.le_of_ble_eq_true rfl, Nat.le_of_ble_eq_true rfl⟩ ⟨Nat.le_of_ble_eq_true rfl, Nat.le_of_ble_eq_true rfl⟩ hN (hT0.keep hS hAs) hAs (Nat.le_trans hB0 hS.1) hK hP hD (List.range G_4.length) (rg_nd _) (rg_is _) [0, 1, 2, 3, 4] rfl i_6 12 hg_6 rfl rfl hl.1 rfl (Nat.le_of_ble_eq_true rfl) d_Model_part_31) hS (fun q _ h => hFc q h) hFc (fun r31 G_5 tS H31 locs ht hvm hw31 hB hz1 hk1 hS => ?_)
    obtain ⟨hTy, hF9, hr31⟩ := hw31
    have kmo := kmo.fl hF9 (q_nmn)
    have kmsT := kmsT.fl hF9 (q_nmn)
    have hFR := hFR.tr (hF9.up (q_gan))
    obtain ⟨hP1, hK1, hD1⟩ := hB
    rw [ht] at hP1
    have hP : va_P (dC, dI) classes G_5 H31 := hP1
    have hD : va_D A G_5 := hD1.weaken (fun _ _ _ h => hFc _ h)
    subst hr31
    refine lv_if_eq (tgt := 39) hx hb d_Model_part_34 (by decide) (fun c34 => ?_) (fun c34 => ?_)
    rotate_left
    · exact absurd c34 (by decide)
    refine lv_aload_n hx hb d_Model_part_39 rfl (lv_at hl 0 rfl) ?_
    obtain ⟨i_7, hg_7⟩ := List.getElem?_of_mem kmo.2
    rw [eX_3] at hg_7
    refine va_get (v := .ref msT) hx hb htb i_Model hown hK hP i_7 hg_7 rfl 6 (by decide) (htb _ q7_220) (fun _ h9 => h9) rfl d_Model_part_40 ?_
    refine lv_iload_n hx hb d_Model_part_43 rfl (lv_at hl 1 rfl) ?_
    obtain ⟨i_8, hg_8⟩ := List.getElem?_of_mem kmsT.2
    have h44 : vp_in (nI k9) 16 := vp_in_nI (by omega) (by omega)
    refine va_aldq hx hb hK hP i_8 4 hg_8 rfl h44 d_Model_part_44 ?_
    obtain ⟨t44, ft44, kt44, hc_t44⟩ := hst k9 (by omega)
    rw [show va_rf (fS (nI k9).toNatClampNeg) = .ref t44 from by rw [nI_clamp (by omega), ft44]; rfl]
    have b1_t44 := hc_t44.b1
    have b2_t44 := hc_t44.b2
    have b3_t44 := hc_t44.b3
    have b4_t44 := hc_t44.b4
    have b5_t44 := hc_t44.b5
    have b6_t44 := hc_t44.b6
    have b8_t44 := hc_t44.b8
    have b9_t44 := hc_t44.b9
    refine lv_astore_n (lv' := [(3, .ref t44), (0, .ref mo), (1, .int (nI k9)), (2, .int 8)]) hx hb d_Model_part_45 rfl hl (by decide) rfl (fun ls hl => ?_)
    refine lv_iload_n hx hb d_Model_part_46 rfl (lv_at hl 3 rfl) ?_
    have t47 : (8 : Int32).toInt = 8 := by decide
    refine lv_tableIn (tgt := 199) hx hb d_Model_part_47 (by omega) (by omega) (by rw [t47]; rfl) rfl ?_
    refine lv_aload_n hx hb d_Model_part_199 rfl (lv_at hl 0 rfl) ?_
    obtain ⟨i_9, kA_9, hg_9⟩ := tr_20 hTy kt44
    refine va_get (v := .int ((τ t44).I 16)) hx hb htb i_Text hown hK hP i_9 hg_9 rfl 16 (by decide) (htb _ q6_205) (fun _ h9 => h9) rfl d_Model_part_200 ?_
    refine lv_i2l (v := ((τ t44).I 16).toInt64) hx hb d_Model_part_203 rfl ?_
    exact W.lret (v := ((τ t44).I 16).toInt64) hx hb hr (fun t ht hW => ⟨⟨_, G_5, rfl, ⟨hTy, hFR, ⟨t44, ft44, rfl⟩, (by rw [eX_3] at kmo; exact kmo)⟩, by rw [ht]; exact hP, va_K.moved hW.alike hK, hD⟩, hS.F ht⟩) hS.2.2 d_Model_part_204
  · have p13 : r10 = (0 : Int32) := c13
    exact absurd hwhat (bz_0 hr10 p13)
set_option maxHeartbeats 4000000 in
set_option maxRecDepth 100000 in
theorem m_Model_part_ok9 (l : Launch) (dC : Nat → ClassId) (dI : Nat → Nat → Nat) (sb : sB) (γ : cG) (κ : kE) (Ad : List Nat) (τ : Nat → TD) (gT : ClassId) (G : va_W) (mo : Nat) (moc msT mrV msP mrA mbA mwA mhA mfA mpA mxA myA mmA mqA mzA mwy mfd : Nat) (mer mwr mqs msz mch mft mpt mdp mvd mmk : Int32) (mnw : Int64) (K9 KL cz fd : Nat) (k9 : Nat) (fS : Nat → Option Nat) (sz : Nat) (hTy : TR γ κ Ad τ G) (kmo : Xc Ad mo (.inr (12, (.int mer :: .int (nI fd) :: .int mwr :: .int (nI K9) :: .int (nI KL) :: .ref moc :: .ref msT :: .ref mrV :: .ref msP :: .int mqs :: .ref mrA :: .ref mbA :: .ref mwA :: .ref mhA :: .ref mfA :: .ref mpA :: .ref mxA :: .ref myA :: .ref mmA :: .ref mqA :: .ref mzA :: .ref mwy :: .ref mfd :: .int msz :: .int (nI cz) :: .int mch :: .int mft :: .int mpt :: .int mdp :: .int mvd :: .long mnw :: .int mmk :: []))) G) (kmsT : Xc Ad msT (.inl (gT, 16, .inr (.inr (.inr (.inr fS))))) G) (hx_mo_msT : mo ≠ msT) (hst : STc κ Ad τ K9 fS) (hK9 : K9 ≤ 16) (hk9 : k9 < K9) : Met l y_Model_part w_Model_part ({ frames := 2, cells := 0, slots := 0, locals := 44 }) (mu_P [.ref mo, .int (nI k9), .int 9] (dC, dI) sb G [(γ.1, .byte), (γ.2.1, .int), (γ.2.2.1, .long), (γ.2.2.2, .object "java/lang/Object"), (gT, .object "TrustChainModel$Text")] sz) (va_Ql (fun r (G' : va_W) => TR γ κ Ad τ G' ∧ FL Ad [mo] G G' ∧ ((∃ t, fS k9 = some t ∧ r = ((τ t).I 29).toInt64) ∧ Xc Ad mo (.inr (12, (.int 0 :: .int (nI fd) :: .int mwr :: .int (nI K9) :: .int (nI KL) :: .ref moc :: .ref msT :: .ref mrV :: .ref msP :: .int mqs :: .ref mrA :: .ref mbA :: .ref mwA :: .ref mhA :: .ref mfA :: .ref mpA :: .ref mxA :: .ref myA :: .ref mmA :: .ref mqA :: .ref mzA :: .ref mwy :: .ref mfd :: .int msz :: .int (nI cz) :: .int mch :: .int mft :: .int mpt :: .int mdp :: .int mvd :: .long mnw :: .int mmk :: []))) G')) (mu_B (dC, dI) [(γ.1, .byte), (γ.2.1, .int), (γ.2.2.1, .long), (γ.2.2.2, .object "java/lang/Object"), (gT, .object "TrustChainModel$Text")] (va_A G sz) (fun G' : va_W => G')) (va_A G sz)) 0 0 (va_A G sz) := by
  refine Met.ofW (cc := b_Model_part) (maxL := 6) (ret := (some FieldType.long)) (by decide) rfl ?_
  intro p e s m args below meth c s₁ B hml hv
  obtain ⟨rfl, hsz, hB0, hP, hK, hD0, hN, hT0⟩ := hv
  have hx := B.exec
  have hb := B.bytes
  have hr := B.returns
  have hts := atoms_spec (ws := w_Model_part) B.pre
  have tbin : ∀ w ∈ tb, w ∈ w_Model_part := fun w h => List.mem_cons_of_mem _ h
  have htb : ∀ w ∈ tb, w.before _ s = true := fun w h => hts w (tbin w h)
  have hown : s.vm.findClass "TrustChainModel" = some m.cls := findClass_of_methodNamed B.named
  have hlocks := B.notSynchronized
  subst hsz
  have hD := hD0.self (sz := s.heap.size)
  generalize hAe : va_A G s.heap.size = A at hD ⊢
  have hA : ∀ q : Nat, s.heap.size ≤ q → A q := fun q h => by rw [← hAe]; exact Or.inr h
  have hAs : ∀ q : Nat, A q → sb.1 ≤ q := fun q h => by
    rw [← hAe] at h
    rcases h with ⟨k, e, h⟩ | h
    · exact hD0.2 k _ h
    · exact Nat.le_trans hB0 h
  have hS : va_S A s.heap s.heap [] := va_S.rf
  have hFR := FL.rf Ad [mo] G
  have hcs : 0 ≤ (headSpec w_Model_part ({ frames := 2, cells := 0, slots := 0, locals := 44 })).room.cells ∧ 0 ≤ (headSpec w_Model_part ({ frames := 2, cells := 0, slots := 0, locals := 44 })).room.slots := ⟨Nat.le_refl _, Nat.le_refl _⟩
  have hP : va_P (dC, dI) classes G s.heap := hP
  have hl := lv_entry ([.ref mo, .int (nI k9), .int 9]) (n := 6) (Nat.le_of_ble_eq_true rfl)
  rw [lg_entry_eq]
  generalize (lg_sl ([.ref mo, .int (nI k9), .int 9]) ++ List.replicate (6 - (lg_sl ([.ref mo, .int (nI k9), .int 9])).length) Slot.unset).toArray = ls at hl ⊢
  have hl : lv_has ls 6 [(0, .ref mo), (1, .int (nI k9)), (2, .int 9)] := hl
  obtain ⟨cX_mo, eX_mo⟩ : ∃ z : va_E, z = .inr (12, (.int mer :: .int (nI fd) :: .int mwr :: .int (nI K9) :: .int (nI KL) :: .ref moc :: .ref msT :: .ref mrV :: .ref msP :: .int mqs :: .ref mrA :: .ref mbA :: .ref mwA :: .ref mhA :: .ref mfA :: .ref mpA :: .ref mxA :: .ref myA :: .ref mmA :: .ref mqA :: .ref mzA :: .ref mwy :: .ref mfd :: .int msz :: .int (nI cz) :: .int mch :: .int mft :: .int mpt :: .int mdp :: .int mvd :: .long mnw :: .int mmk :: [])) := ⟨_, rfl⟩
  rw [← eX_mo] at kmo
  have hwhat : ¬ (9 : Int32) < 0 ∧ ¬ (11 : Int32) < 9 := by decide
  refine lv_aload_n hx hb d_Model_part_0 rfl (lv_at hl 0 rfl) ?_
  refine lv_iconst (v := 0) hx hb d_Model_part_1 (by decide) ?_
  obtain ⟨i_1, hg_1⟩ := List.getElem?_of_mem kmo.2
  rw [eX_mo] at hg_1
  refine va_put (v := .int 0) (ty := .int) hx hb htb i_Model t_Model t_Model_ok n_Model hown hK hP hD hS i_1 hg_1 rfl 0 (by decide) (htb _ q7_214) (fun _ h9 => h9) rfl (by decide +kernel) rfl rfl (Nat.le_of_ble_eq_true rfl) d_Model_part_2 (fun H2 locs hP hD2 hS => ?_)
  have hP : va_P (dC, dI) classes (G.set i_1 (mo, .inr (12, (.int 0 :: .int (nI fd) :: .int mwr :: .int (nI K9) :: .int (nI KL) :: .ref moc :: .ref msT :: .ref mrV :: .ref msP :: .int mqs :: .ref mrA :: .ref mbA :: .ref mwA :: .ref mhA :: .ref mfA :: .ref mpA :: .ref mxA :: .ref myA :: .ref mmA :: .ref mqA :: .ref mzA :: .ref mwy :: .ref mfd :: .int msz :: .int (nI cz) :: .int mch :: .int mft :: .int mpt :: .int mdp :: .int mvd :: .long mnw :: .int mmk :: [])))) H2 := hP
  have hD3 : va_D A (G.set i_1 (mo, .inr (12, (.int 0 :: .int (nI fd) :: .int mwr :: .int (nI K9) :: .int (nI KL) :: .ref moc :: .ref msT :: .ref mrV :: .ref msP :: .int mqs :: .ref mrA :: .ref mbA :: .ref mwA :: .ref mhA :: .ref mfA :: .ref mpA :: .ref mxA :: .ref myA :: .ref mmA :: .ref mqA :: .ref mzA :: .ref mwy :: .ref mfd :: .int msz :: .int (nI cz) :: .int mch :: .int mft :: .int mpt :: .int mdp :: .int mvd :: .long mnw :: .int mmk :: [])))) := hD2
  have hTy := TR.setX (c' := .inr (12, (.int 0 :: .int (nI fd) :: .int mwr :: .int (nI K9) :: .int (nI KL) :: .ref moc :: .ref msT :: .ref mrV :: .ref msP :: .int mqs :: .ref mrA :: .ref mbA :: .ref mwA :: .ref mhA :: .ref mfA :: .ref mpA :: .ref mxA :: .ref myA :: .ref mmA :: .ref mqA :: .ref mzA :: .ref mwy :: .ref mfd :: .int msz :: .int (nI cz) :: .int mch :: .int mft :: .int mpt :: .int mdp :: .int mvd :: .long mnw :: .int mmk :: []))) hTy hg_1 kmo.1
  have kmsT := Xc.setX (c' := .inr (12, (.int 0 :: .int (nI fd) :: .int mwr :: .int (nI K9) :: .int (nI KL) :: .ref moc :: .ref msT :: .ref mrV :: .ref msP :: .int mqs :: .ref mrA :: .ref mbA :: .ref mwA :: .ref mhA :: .ref mfA :: .ref mpA :: .ref mxA :: .ref myA :: .ref mmA :: .ref mqA :: .ref mzA :: .ref mwy :: .ref mfd :: .int msz :: .int (nI cz) :: .int mch :: .int mft :: .int mpt :: .int mdp :: .int mvd :: .long mnw :: .int mmk :: []))) kmsT hg_1 (fun e => hx_mo_msT.symm (congrArg Prod.fst e))
  have hFR := hFR.tr (FL.set (Ad := Ad) (X := [mo]) (c' := .inr (12, (.int 0 :: .int (nI fd) :: .int mwr :: .int (nI K9) :: .int (nI KL) :: .ref moc :: .ref msT :: .ref mrV :: .ref msP :: .int mqs :: .ref mrA :: .ref mbA :: .ref mwA :: .ref mhA :: .ref mfA :: .ref mpA :: .ref mxA :: .ref myA :: .ref mmA :: .ref mqA :: .ref mzA :: .ref mwy :: .ref mfd :: .int msz :: .int (nI cz) :: .int mch :: .int mft :: .int mpt :: .int mdp :: .int mvd :: .long mnw :: .int mmk :: []))) hg_1 (by simp))
  have hg_1 := set_here (c' := .inr (12, (.int 0 :: .int (nI fd) :: .int mwr :: .int (nI K9) :: .int (nI KL) :: .ref moc :: .ref msT :: .ref mrV :: .ref msP :: .int mqs :: .ref mrA :: .ref mbA :: .ref mwA :: .ref mhA :: .ref mfA :: .ref mpA :: .ref mxA :: .ref myA :: .ref mmA :: .ref mqA :: .ref mzA :: .ref mwy :: .ref mfd :: .int msz :: .int (nI cz) :: .int mch :: .int mft :: .int mpt :: .int mdp :: .int mvd :: .long mnw :: .int mmk :: []))) hg_1
  have kmo : Xc Ad mo (.inr (12, (.int 0 :: .int (nI fd) :: .int mwr :: .int (nI K9) :: .int (nI KL) :: .ref moc :: .ref msT :: .ref mrV :: .ref msP :: .int mqs :: .ref mrA :: .ref mbA :: .ref mwA :: .ref mhA :: .ref mfA :: .ref mpA :: .ref mxA :: .ref myA :: .ref mmA :: .ref mqA :: .ref mzA :: .ref mwy :: .ref mfd :: .int msz :: .int (nI cz) :: .int mch :: .int mft :: .int mpt :: .int mdp :: .int mvd :: .long mnw :: .int mmk :: []))) (G.set i_1 (mo, .inr (12, (.int 0 :: .int (nI fd) :: .int mwr :: .int (nI K9) :: .int (nI KL) :: .ref moc :: .ref msT :: .ref mrV :: .ref msP :: .int mqs :: .ref mrA :: .ref mbA :: .ref mwA :: .ref mhA :: .ref mfA :: .ref mpA :: .ref mxA :: .ref myA :: .ref mmA :: .ref mqA :: .ref mzA :: .ref mwy :: .ref mfd :: .int msz :: .int (nI cz) :: .int mch :: .int mft :: .int mpt :: .int mdp :: .int mvd :: .long mnw :: .int mmk :: [])))) := ⟨kmo.1, List.mem_of_getElem? hg_1⟩
  have hD := hD3
  clear hD3 hD2
  generalize G.set i_1 (mo, .inr (12, (.int 0 :: .int (nI fd) :: .int mwr :: .int (nI K9) :: .int (nI KL) :: .ref moc :: .ref msT :: .ref mrV :: .ref msP :: .int mqs :: .ref mrA :: .ref mbA :: .ref mwA :: .ref mhA :: .ref mfA :: .ref mpA :: .ref mxA :: .ref myA :: .ref mmA :: .ref mqA :: .ref mzA :: .ref mwy :: .ref mfd :: .int msz :: .int (nI cz) :: .int mch :: .int mft :: .int mpt :: .int mdp :: .int mvd :: .long mnw :: .int mmk :: []))) = G_2 at hP hD hTy hFR kmo kmsT hg_1
  obtain ⟨cX_3, eX_3⟩ : ∃ z : va_E, z = .inr (12, (.int 0 :: .int (nI fd) :: .int mwr :: .int (nI K9) :: .int (nI KL) :: .ref moc :: .ref msT :: .ref mrV :: .ref msP :: .int mqs :: .ref mrA :: .ref mbA :: .ref mwA :: .ref mhA :: .ref mfA :: .ref mpA :: .ref mxA :: .ref myA :: .ref mmA :: .ref mqA :: .ref mzA :: .ref mwy :: .ref mfd :: .int msz :: .int (nI cz) :: .int mch :: .int mft :: .int mpt :: .int mdp :: .int mvd :: .long mnw :: .int mmk :: [])) := ⟨_, rfl⟩
  rw [← eX_3] at kmo
  refine lv_aload_n hx hb d_Model_part_5 rfl (lv_at hl 0 rfl) ?_
  refine lv_iload_n hx hb d_Model_part_6 rfl (lv_at hl 2 rfl) ?_
  refine lv_iconst (v := 0) hx hb d_Model_part_7 (by decide) ?_
  refine lv_bipush (v := 11) hx hb d_Model_part_8 (by decide) ?_
  refine vp_callSi (pu_callS (As := [.int 9, .int 0, .int 11]) (rest := [.ref mo]) ⟨hx, hb, hml, hown, hts⟩ tbin (c_Model_in l dC dI sb (9 : Int32) (0 : Int32) (11 : Int32)) q9_68 q8_116 q1_9 q8_117 (n := 3) (by decide +kernel) rfl ⟨rfl, rfl⟩ ⟨Nat.le_of_ble_eq_true rfl, Nat.le_of_ble_eq_true rfl⟩ ⟨Nat.le_of_ble_eq_true rfl, Nat.le_of_ble_eq_true rfl⟩ hN (hT0.keep hS hAs) hK hP [] (by simp only [List.filterMap_cons, List.filterMap_nil]) [] rfl hl.1 rfl (Nat.le_of_ble_eq_true rfl) d_Model_part_10) (fun r10 hr10 => ?_)
  refine lv_if_ne (tgt := 20) hx hb d_Model_part_13 (by decide) (fun c13 => ?_) (fun c13 => ?_)
  · have p13 : ¬ (r10 = (0 : Int32)) := c13
    refine lv_iconst (v := 0) hx hb d_Model_part_20 (by decide) ?_
    refine lv_iconst (v := 1) hx hb d_Model_part_21 (by decide) ?_
    have hFc := va_free (wc := G_2) hD hS hA (List.range G_2.length) (rg_is _)
    refine va_calli (mu_runV (As := [.int 0, .int 1]) (rest := []) ⟨hx, hb, hml, hown, hts⟩ tbin (m_Model_fails_0 l dC dI sb γ κ Ad τ gT G_2 mo _ _ _ _ _ _ _ _ _ _ _ _ _ _ _ _ _ _ _ _ _ _ _ _ _ _ _ _ _ _ _ _ H2.size hTy (by have h9 := kmo; rw [eX_3] at h9; exact h9) ) q8_79 q8_81 qp_36 q1_9 q8_82 (n := 2) (by decide +kernel) rfl ⟨rfl, rfl⟩ ⟨Nat.le_of_ble_eq_true rfl, Nat.le_of_ble_eq_true rfl⟩ ⟨Nat.le_of_ble_eq_true rfl, Nat.le_of_ble_eq_true rfl⟩ hN (hT0.keep hS hAs) hAs (Nat.le_trans hB0 hS.1) hK hP hD (List.range G_2.length) (rg_nd _) (rg_is _) [0, 1, 2, 3, 4] rfl i_1 12 hg_1 rfl rfl hl.1 rfl (Nat.le_of_ble_eq_true rfl) d_Model_part_22) hS (fun q _ h => hFc q h) hFc (fun r22 G_4 tS H22 locs ht hvm hw22 hB hz1 hk1 hS => ?_)
    obtain ⟨hTy, hF9, hr22⟩ := hw22
    have kmo := kmo.fl hF9 (q_nmn)
    have kmsT := kmsT.fl hF9 (q_nmn)
    have hFR := hFR.tr (hF9.up (q_gan))
    obtain ⟨hP1, hK1, hD1⟩ := hB
    rw [ht] at hP1
    have hP : va_P (dC, dI) classes G_4 H22 := hP1
    have hD : va_D A G_4 := hD1.weaken (fun _ _ _ h => hFc _ h)
    subst hr22
    refine lv_if_ne (tgt := 37) hx hb d_Model_part_25 (by decide) (fun c25 => ?_) (fun c25 => ?_)
    · exact absurd c25 (by decide)
    refine lv_aload_n hx hb d_Model_part_28 rfl (lv_at hl 0 rfl) ?_
    refine lv_iload_n hx hb d_Model_part_29 rfl (lv_at hl 1 rfl) ?_
    refine lv_iconst (v := 2) hx hb d_Model_part_30 (by decide) ?_
    have hFc := va_free (wc := G_4) hD hS hA (List.range G_4.length) (rg_is _)
    obtain ⟨i_6, hg_6⟩ := List.getElem?_of_mem kmo.2
    rw [eX_3] at hg_6
    refine va_calli (mu_runV (As := [.int (nI k9), .int 2]) (rest := []) ⟨hx, hb, hml, hown, hts⟩ tbin (m_Model_noc_0 l dC dI sb γ κ Ad τ gT G_4 mo _ _ _ _ _ _ _ _ _ _ _ _ _ _ _ _ _ _ _ _ _ _ _ _ _ _ _ _ _ _ _ _ _ H22.size hTy (by have h9 := kmo; rw [eX_3] at h9; exact h9) hk9 hK9) q9_64 q9_66 qp_39 q1_9 q9_67 (n := 2) (by decide +kernel) rfl ⟨rfl, rfl⟩ ⟨Nat.le_of_ble_eq_true rfl, Nat.le_of_ble_eq_true rfl⟩ ⟨Nat.le_of_ble_eq_true rfl, Nat.le_of_ble_eq_true rfl⟩ hN (hT0.keep hS hAs) hAs (Nat.le_trans hB0 hS.1) hK hP hD (List.range G_4.length) (rg_nd _) (rg_is _) [0, 1, 2, 3, 4] rfl i_6 12 hg_6 rfl rfl hl.1 rfl (Nat.le_of_ble_eq_true rfl) d_Model_part_31) hS (fun q _ h => hFc q h) hFc (fun r31 G_5 tS H31 locs ht hvm hw31 hB hz1 hk1 hS => ?_)
    obtain ⟨hTy, hF9, hr31⟩ := hw31
    have kmo := kmo.fl hF9 (q_nmn)
    have kmsT := kmsT.fl hF9 (q_nmn)
    have hFR := hFR.tr (hF9.up (q_gan))
    obtain ⟨hP1, hK1, hD1⟩ := hB
    rw [ht] at hP1
    have hP : va_P (dC, dI) classes G_5 H31 := hP1
    have hD : va_D A G_5 := hD1.weaken (fun _ _ _ h => hFc _ h)
    subst hr31
    refine lv_if_eq (tgt := 39) hx hb d_Model_part_34 (by decide) (fun c34 => ?_) (fun c34 => ?_)
    rotate_left
    · exact absurd c34 (by decide)
    refine lv_aload_n hx hb d_Model_part_39 rfl (lv_at hl 0 rfl) ?_
    obtain ⟨i_7, hg_7⟩ := List.getElem?_of_mem kmo.2
    rw [eX_3] at hg_7
    refine va_get (v := .ref msT) hx hb htb i_Model hown hK hP i_7 hg_7 rfl 6 (by decide) (htb _ q7_220) (fun _ h9 => h9) rfl d_Model_part_40 ?_
    refine lv_iload_n hx hb d_Model_part_43 rfl (lv_at hl 1 rfl) ?_
    obtain ⟨i_8, hg_8⟩ := List.getElem?_of_mem kmsT.2
    have h44 : vp_in (nI k9) 16 := vp_in_nI (by omega) (by omega)
    refine va_aldq hx hb hK hP i_8 4 hg_8 rfl h44 d_Model_part_44 ?_
    obtain ⟨t44, ft44, kt44, hc_t44⟩ := hst k9 (by omega)
    rw [show va_rf (fS (nI k9).toNatClampNeg) = .ref t44 from by rw [nI_clamp (by omega), ft44]; rfl]
    have b1_t44 := hc_t44.b1
    have b2_t44 := hc_t44.b2
    have b3_t44 := hc_t44.b3
    have b4_t44 := hc_t44.b4
    have b5_t44 := hc_t44.b5
    have b6_t44 := hc_t44.b6
    have b8_t44 := hc_t44.b8
    have b9_t44 := hc_t44.b9
    refine lv_astore_n (lv' := [(3, .ref t44), (0, .ref mo), (1, .int (nI k9)), (2, .int 9)]) hx hb d_Model_part_45 rfl hl (by decide) rfl (fun ls hl => ?_)
    refine lv_iload_n hx hb d_Model_part_46 rfl (lv_at hl 3 rfl) ?_
    have t47 : (9 : Int32).toInt = 9 := by decide
    refine lv_tableIn (tgt := 205) hx hb d_Model_part_47 (by omega) (by omega) (by rw [t47]; rfl) rfl ?_
    refine lv_aload_n hx hb d_Model_part_205 rfl (lv_at hl 0 rfl) ?_
    obtain ⟨i_9, kA_9, hg_9⟩ := tr_20 hTy kt44
    refine va_get (v := .int ((τ t44).I 29)) hx hb htb i_Text hown hK hP i_9 hg_9 rfl 29 (by decide) (htb _ q6_230) (fun _ h9 => h9) rfl d_Model_part_206 ?_
    refine lv_i2l (v := ((τ t44).I 29).toInt64) hx hb d_Model_part_209 rfl ?_
    exact W.lret (v := ((τ t44).I 29).toInt64) hx hb hr (fun t ht hW => ⟨⟨_, G_5, rfl, ⟨hTy, hFR, ⟨t44, ft44, rfl⟩, (by rw [eX_3] at kmo; exact kmo)⟩, by rw [ht]; exact hP, va_K.moved hW.alike hK, hD⟩, hS.F ht⟩) hS.2.2 d_Model_part_210
  · have p13 : r10 = (0 : Int32) := c13
    exact absurd hwhat (bz_0 hr10 p13)
set_option maxHeartbeats 4000000 in
set_option maxRecDepth 100000 in
theorem m_Model_part_ok10 (l : Launch) (dC : Nat → ClassId) (dI : Nat → Nat → Nat) (sb : sB) (γ : cG) (κ : kE) (Ad : List Nat) (τ : Nat → TD) (gT : ClassId) (G : va_W) (mo : Nat) (moc msT mrV msP mrA mbA mwA mhA mfA mpA mxA myA mmA mqA mzA mwy mfd : Nat) (mer mwr mqs msz mch mft mpt mdp mvd mmk : Int32) (mnw : Int64) (K9 KL cz fd : Nat) (k9 : Nat) (fS : Nat → Option Nat) (sz : Nat) (hTy : TR γ κ Ad τ G) (kmo : Xc Ad mo (.inr (12, (.int mer :: .int (nI fd) :: .int mwr :: .int (nI K9) :: .int (nI KL) :: .ref moc :: .ref msT :: .ref mrV :: .ref msP :: .int mqs :: .ref mrA :: .ref mbA :: .ref mwA :: .ref mhA :: .ref mfA :: .ref mpA :: .ref mxA :: .ref myA :: .ref mmA :: .ref mqA :: .ref mzA :: .ref mwy :: .ref mfd :: .int msz :: .int (nI cz) :: .int mch :: .int mft :: .int mpt :: .int mdp :: .int mvd :: .long mnw :: .int mmk :: []))) G) (kmsT : Xc Ad msT (.inl (gT, 16, .inr (.inr (.inr (.inr fS))))) G) (hx_mo_msT : mo ≠ msT) (hst : STc κ Ad τ K9 fS) (hK9 : K9 ≤ 16) (hk9 : k9 < K9) : Met l y_Model_part w_Model_part ({ frames := 2, cells := 0, slots := 0, locals := 44 }) (mu_P [.ref mo, .int (nI k9), .int 10] (dC, dI) sb G [(γ.1, .byte), (γ.2.1, .int), (γ.2.2.1, .long), (γ.2.2.2, .object "java/lang/Object"), (gT, .object "TrustChainModel$Text")] sz) (va_Ql (fun r (G' : va_W) => TR γ κ Ad τ G' ∧ FL Ad [mo] G G' ∧ ((∃ t, fS k9 = some t ∧ r = ((τ t).I 30).toInt64) ∧ Xc Ad mo (.inr (12, (.int 0 :: .int (nI fd) :: .int mwr :: .int (nI K9) :: .int (nI KL) :: .ref moc :: .ref msT :: .ref mrV :: .ref msP :: .int mqs :: .ref mrA :: .ref mbA :: .ref mwA :: .ref mhA :: .ref mfA :: .ref mpA :: .ref mxA :: .ref myA :: .ref mmA :: .ref mqA :: .ref mzA :: .ref mwy :: .ref mfd :: .int msz :: .int (nI cz) :: .int mch :: .int mft :: .int mpt :: .int mdp :: .int mvd :: .long mnw :: .int mmk :: []))) G')) (mu_B (dC, dI) [(γ.1, .byte), (γ.2.1, .int), (γ.2.2.1, .long), (γ.2.2.2, .object "java/lang/Object"), (gT, .object "TrustChainModel$Text")] (va_A G sz) (fun G' : va_W => G')) (va_A G sz)) 0 0 (va_A G sz) := by
  refine Met.ofW (cc := b_Model_part) (maxL := 6) (ret := (some FieldType.long)) (by decide) rfl ?_
  intro p e s m args below meth c s₁ B hml hv
  obtain ⟨rfl, hsz, hB0, hP, hK, hD0, hN, hT0⟩ := hv
  have hx := B.exec
  have hb := B.bytes
  have hr := B.returns
  have hts := atoms_spec (ws := w_Model_part) B.pre
  have tbin : ∀ w ∈ tb, w ∈ w_Model_part := fun w h => List.mem_cons_of_mem _ h
  have htb : ∀ w ∈ tb, w.before _ s = true := fun w h => hts w (tbin w h)
  have hown : s.vm.findClass "TrustChainModel" = some m.cls := findClass_of_methodNamed B.named
  have hlocks := B.notSynchronized
  subst hsz
  have hD := hD0.self (sz := s.heap.size)
  generalize hAe : va_A G s.heap.size = A at hD ⊢
  have hA : ∀ q : Nat, s.heap.size ≤ q → A q := fun q h => by rw [← hAe]; exact Or.inr h
  have hAs : ∀ q : Nat, A q → sb.1 ≤ q := fun q h => by
    rw [← hAe] at h
    rcases h with ⟨k, e, h⟩ | h
    · exact hD0.2 k _ h
    · exact Nat.le_trans hB0 h
  have hS : va_S A s.heap s.heap [] := va_S.rf
  have hFR := FL.rf Ad [mo] G
  have hcs : 0 ≤ (headSpec w_Model_part ({ frames := 2, cells := 0, slots := 0, locals := 44 })).room.cells ∧ 0 ≤ (headSpec w_Model_part ({ frames := 2, cells := 0, slots := 0, locals := 44 })).room.slots := ⟨Nat.le_refl _, Nat.le_refl _⟩
  have hP : va_P (dC, dI) classes G s.heap := hP
  have hl := lv_entry ([.ref mo, .int (nI k9), .int 10]) (n := 6) (Nat.le_of_ble_eq_true rfl)
  rw [lg_entry_eq]
  generalize (lg_sl ([.ref mo, .int (nI k9), .int 10]) ++ List.replicate (6 - (lg_sl ([.ref mo, .int (nI k9), .int 10])).length) Slot.unset).toArray = ls at hl ⊢
  have hl : lv_has ls 6 [(0, .ref mo), (1, .int (nI k9)), (2, .int 10)] := hl
  obtain ⟨cX_mo, eX_mo⟩ : ∃ z : va_E, z = .inr (12, (.int mer :: .int (nI fd) :: .int mwr :: .int (nI K9) :: .int (nI KL) :: .ref moc :: .ref msT :: .ref mrV :: .ref msP :: .int mqs :: .ref mrA :: .ref mbA :: .ref mwA :: .ref mhA :: .ref mfA :: .ref mpA :: .ref mxA :: .ref myA :: .ref mmA :: .ref mqA :: .ref mzA :: .ref mwy :: .ref mfd :: .int msz :: .int (nI cz) :: .int mch :: .int mft :: .int mpt :: .int mdp :: .int mvd :: .long mnw :: .int mmk :: [])) := ⟨_, rfl⟩
  rw [← eX_mo] at kmo
  have hwhat : ¬ (10 : Int32) < 0 ∧ ¬ (11 : Int32) < 10 := by decide
  refine lv_aload_n hx hb d_Model_part_0 rfl (lv_at hl 0 rfl) ?_
  refine lv_iconst (v := 0) hx hb d_Model_part_1 (by decide) ?_
  obtain ⟨i_1, hg_1⟩ := List.getElem?_of_mem kmo.2
  rw [eX_mo] at hg_1
  refine va_put (v := .int 0) (ty := .int) hx hb htb i_Model t_Model t_Model_ok n_Model hown hK hP hD hS i_1 hg_1 rfl 0 (by decide) (htb _ q7_214) (fun _ h9 => h9) rfl (by decide +kernel) rfl rfl (Nat.le_of_ble_eq_true rfl) d_Model_part_2 (fun H2 locs hP hD2 hS => ?_)
  have hP : va_P (dC, dI) classes (G.set i_1 (mo, .inr (12, (.int 0 :: .int (nI fd) :: .int mwr :: .int (nI K9) :: .int (nI KL) :: .ref moc :: .ref msT :: .ref mrV :: .ref msP :: .int mqs :: .ref mrA :: .ref mbA :: .ref mwA :: .ref mhA :: .ref mfA :: .ref mpA :: .ref mxA :: .ref myA :: .ref mmA :: .ref mqA :: .ref mzA :: .ref mwy :: .ref mfd :: .int msz :: .int (nI cz) :: .int mch :: .int mft :: .int mpt :: .int mdp :: .int mvd :: .long mnw :: .int mmk :: [])))) H2 := hP
  have hD3 : va_D A (G.set i_1 (mo, .inr (12, (.int 0 :: .int (nI fd) :: .int mwr :: .int (nI K9) :: .int (nI KL) :: .ref moc :: .ref msT :: .ref mrV :: .ref msP :: .int mqs :: .ref mrA :: .ref mbA :: .ref mwA :: .ref mhA :: .ref mfA :: .ref mpA :: .ref mxA :: .ref myA :: .ref mmA :: .ref mqA :: .ref mzA :: .ref mwy :: .ref mfd :: .int msz :: .int (nI cz) :: .int mch :: .int mft :: .int mpt :: .int mdp :: .int mvd :: .long mnw :: .int mmk :: [])))) := hD2
  have hTy := TR.setX (c' := .inr (12, (.int 0 :: .int (nI fd) :: .int mwr :: .int (nI K9) :: .int (nI KL) :: .ref moc :: .ref msT :: .ref mrV :: .ref msP :: .int mqs :: .ref mrA :: .ref mbA :: .ref mwA :: .ref mhA :: .ref mfA :: .ref mpA :: .ref mxA :: .ref myA :: .ref mmA :: .ref mqA :: .ref mzA :: .ref mwy :: .ref mfd :: .int msz :: .int (nI cz) :: .int mch :: .int mft :: .int mpt :: .int mdp :: .int mvd :: .long mnw :: .int mmk :: []))) hTy hg_1 kmo.1
  have kmsT := Xc.setX (c' := .inr (12, (.int 0 :: .int (nI fd) :: .int mwr :: .int (nI K9) :: .int (nI KL) :: .ref moc :: .ref msT :: .ref mrV :: .ref msP :: .int mqs :: .ref mrA :: .ref mbA :: .ref mwA :: .ref mhA :: .ref mfA :: .ref mpA :: .ref mxA :: .ref myA :: .ref mmA :: .ref mqA :: .ref mzA :: .ref mwy :: .ref mfd :: .int msz :: .int (nI cz) :: .int mch :: .int mft :: .int mpt :: .int mdp :: .int mvd :: .long mnw :: .int mmk :: []))) kmsT hg_1 (fun e => hx_mo_msT.symm (congrArg Prod.fst e))
  have hFR := hFR.tr (FL.set (Ad := Ad) (X := [mo]) (c' := .inr (12, (.int 0 :: .int (nI fd) :: .int mwr :: .int (nI K9) :: .int (nI KL) :: .ref moc :: .ref msT :: .ref mrV :: .ref msP :: .int mqs :: .ref mrA :: .ref mbA :: .ref mwA :: .ref mhA :: .ref mfA :: .ref mpA :: .ref mxA :: .ref myA :: .ref mmA :: .ref mqA :: .ref mzA :: .ref mwy :: .ref mfd :: .int msz :: .int (nI cz) :: .int mch :: .int mft :: .int mpt :: .int mdp :: .int mvd :: .long mnw :: .int mmk :: []))) hg_1 (by simp))
  have hg_1 := set_here (c' := .inr (12, (.int 0 :: .int (nI fd) :: .int mwr :: .int (nI K9) :: .int (nI KL) :: .ref moc :: .ref msT :: .ref mrV :: .ref msP :: .int mqs :: .ref mrA :: .ref mbA :: .ref mwA :: .ref mhA :: .ref mfA :: .ref mpA :: .ref mxA :: .ref myA :: .ref mmA :: .ref mqA :: .ref mzA :: .ref mwy :: .ref mfd :: .int msz :: .int (nI cz) :: .int mch :: .int mft :: .int mpt :: .int mdp :: .int mvd :: .long mnw :: .int mmk :: []))) hg_1
  have kmo : Xc Ad mo (.inr (12, (.int 0 :: .int (nI fd) :: .int mwr :: .int (nI K9) :: .int (nI KL) :: .ref moc :: .ref msT :: .ref mrV :: .ref msP :: .int mqs :: .ref mrA :: .ref mbA :: .ref mwA :: .ref mhA :: .ref mfA :: .ref mpA :: .ref mxA :: .ref myA :: .ref mmA :: .ref mqA :: .ref mzA :: .ref mwy :: .ref mfd :: .int msz :: .int (nI cz) :: .int mch :: .int mft :: .int mpt :: .int mdp :: .int mvd :: .long mnw :: .int mmk :: []))) (G.set i_1 (mo, .inr (12, (.int 0 :: .int (nI fd) :: .int mwr :: .int (nI K9) :: .int (nI KL) :: .ref moc :: .ref msT :: .ref mrV :: .ref msP :: .int mqs :: .ref mrA :: .ref mbA :: .ref mwA :: .ref mhA :: .ref mfA :: .ref mpA :: .ref mxA :: .ref myA :: .ref mmA :: .ref mqA :: .ref mzA :: .ref mwy :: .ref mfd :: .int msz :: .int (nI cz) :: .int mch :: .int mft :: .int mpt :: .int mdp :: .int mvd :: .long mnw :: .int mmk :: [])))) := ⟨kmo.1, List.mem_of_getElem? hg_1⟩
  have hD := hD3
  clear hD3 hD2
  generalize G.set i_1 (mo, .inr (12, (.int 0 :: .int (nI fd) :: .int mwr :: .int (nI K9) :: .int (nI KL) :: .ref moc :: .ref msT :: .ref mrV :: .ref msP :: .int mqs :: .ref mrA :: .ref mbA :: .ref mwA :: .ref mhA :: .ref mfA :: .ref mpA :: .ref mxA :: .ref myA :: .ref mmA :: .ref mqA :: .ref mzA :: .ref mwy :: .ref mfd :: .int msz :: .int (nI cz) :: .int mch :: .int mft :: .int mpt :: .int mdp :: .int mvd :: .long mnw :: .int mmk :: []))) = G_2 at hP hD hTy hFR kmo kmsT hg_1
  obtain ⟨cX_3, eX_3⟩ : ∃ z : va_E, z = .inr (12, (.int 0 :: .int (nI fd) :: .int mwr :: .int (nI K9) :: .int (nI KL) :: .ref moc :: .ref msT :: .ref mrV :: .ref msP :: .int mqs :: .ref mrA :: .ref mbA :: .ref mwA :: .ref mhA :: .ref mfA :: .ref mpA :: .ref mxA :: .ref myA :: .ref mmA :: .ref mqA :: .ref mzA :: .ref mwy :: .ref mfd :: .int msz :: .int (nI cz) :: .int mch :: .int mft :: .int mpt :: .int mdp :: .int mvd :: .long mnw :: .int mmk :: [])) := ⟨_, rfl⟩
  rw [← eX_3] at kmo
  refine lv_aload_n hx hb d_Model_part_5 rfl (lv_at hl 0 rfl) ?_
  refine lv_iload_n hx hb d_Model_part_6 rfl (lv_at hl 2 rfl) ?_
  refine lv_iconst (v := 0) hx hb d_Model_part_7 (by decide) ?_
  refine lv_bipush (v := 11) hx hb d_Model_part_8 (by decide) ?_
  refine vp_callSi (pu_callS (As := [.int 10, .int 0, .int 11]) (rest := [.ref mo]) ⟨hx, hb, hml, hown, hts⟩ tbin (c_Model_in l dC dI sb (10 : Int32) (0 : Int32) (11 : Int32)) q9_68 q8_116 q1_9 q8_117 (n := 3) (by decide +kernel) rfl ⟨rfl, rfl⟩ ⟨Nat.le_of_ble_eq_true rfl, Nat.le_of_ble_eq_true rfl⟩ ⟨Nat.le_of_ble_eq_true rfl, Nat.le_of_ble_eq_true rfl⟩ hN (hT0.keep hS hAs) hK hP [] (by simp only [List.filterMap_cons, List.filterMap_nil]) [] rfl hl.1 rfl (Nat.le_of_ble_eq_true rfl) d_Model_part_10) (fun r10 hr10 => ?_)
  refine lv_if_ne (tgt := 20) hx hb d_Model_part_13 (by decide) (fun c13 => ?_) (fun c13 => ?_)
  · have p13 : ¬ (r10 = (0 : Int32)) := c13
    refine lv_iconst (v := 0) hx hb d_Model_part_20 (by decide) ?_
    refine lv_iconst (v := 1) hx hb d_Model_part_21 (by decide) ?_
    have hFc := va_free (wc := G_2) hD hS hA (List.range G_2.length) (rg_is _)
    refine va_calli (mu_runV (As := [.int 0, .int 1]) (rest := []) ⟨hx, hb, hml, hown, hts⟩ tbin (m_Model_fails_0 l dC dI sb γ κ Ad τ gT G_2 mo _ _ _ _ _ _ _ _ _ _ _ _ _ _ _ _ _ _ _ _ _ _ _ _ _ _ _ _ _ _ _ _ H2.size hTy (by have h9 := kmo; rw [eX_3] at h9; exact h9) ) q8_79 q8_81 qp_36 q1_9 q8_82 (n := 2) (by decide +kernel) rfl ⟨rfl, rfl⟩ ⟨Nat.le_of_ble_eq_true rfl, Nat.le_of_ble_eq_true rfl⟩ ⟨Nat.le_of_ble_eq_true rfl, Nat.le_of_ble_eq_true rfl⟩ hN (hT0.keep hS hAs) hAs (Nat.le_trans hB0 hS.1) hK hP hD (List.range G_2.length) (rg_nd _) (rg_is _) [0, 1, 2, 3, 4] rfl i_1 12 hg_1 rfl rfl hl.1 rfl (Nat.le_of_ble_eq_true rfl) d_Model_part_22) hS (fun q _ h => hFc q h) hFc (fun r22 G_4 tS H22 locs ht hvm hw22 hB hz1 hk1 hS => ?_)
    obtain ⟨hTy, hF9, hr22⟩ := hw22
    have kmo := kmo.fl hF9 (q_nmn)
    have kmsT := kmsT.fl hF9 (q_nmn)
    have hFR := hFR.tr (hF9.up (q_gan))
    obtain ⟨hP1, hK1, hD1⟩ := hB
    rw [ht] at hP1
    have hP : va_P (dC, dI) classes G_4 H22 := hP1
    have hD : va_D A G_4 := hD1.weaken (fun _ _ _ h => hFc _ h)
    subst hr22
    refine lv_if_ne (tgt := 37) hx hb d_Model_part_25 (by decide) (fun c25 => ?_) (fun c25 => ?_)
    · exact absurd c25 (by decide)
    refine lv_aload_n hx hb d_Model_part_28 rfl (lv_at hl 0 rfl) ?_
    refine lv_iload_n hx hb d_Model_part_29 rfl (lv_at hl 1 rfl) ?_
    refine lv_iconst (v := 2) hx hb d_Model_part_30 (by decide) ?_
    have hFc := va_free (wc := G_4) hD hS hA (List.range G_4.length) (rg_is _)
    obtain ⟨i_6, hg_6⟩ := List.getElem?_of_mem kmo.2
    rw [eX_3] at hg_6
    refine va_calli (mu_runV (As := [.int (nI k9), .int 2]) (rest := []) ⟨hx, hb, hml, hown, hts⟩ tbin (m_Model_noc_0 l dC dI sb γ κ Ad τ gT G_4 mo _ _ _ _ _ _ _ _ _ _ _ _ _ _ _ _ _ _ _ _ _ _ _ _ _ _ _ _ _ _ _ _ _ H22.size hTy (by have h9 := kmo; rw [eX_3] at h9; exact h9) hk9 hK9) q9_64 q9_66 qp_39 q1_9 q9_67 (n := 2) (by decide +kernel) rfl ⟨rfl, rfl⟩ ⟨Nat.le_of_ble_eq_true rfl, Nat.le_of_ble_eq_true rfl⟩ ⟨Nat.le_of_ble_eq_true rfl, Nat.le_of_ble_eq_true rfl⟩ hN (hT0.keep hS hAs) hAs (Nat.le_trans hB0 hS.1) hK hP hD (List.range G_4.length) (rg_nd _) (rg_is _) [0, 1, 2, 3, 4] rfl i_6 12 hg_6 rfl rfl hl.1 rfl (Nat.le_of_ble_eq_true rfl) d_Model_part_31) hS (fun q _ h => hFc q h) hFc (fun r31 G_5 tS H31 locs ht hvm hw31 hB hz1 hk1 hS => ?_)
    obtain ⟨hTy, hF9, hr31⟩ := hw31
    have kmo := kmo.fl hF9 (q_nmn)
    have kmsT := kmsT.fl hF9 (q_nmn)
    have hFR := hFR.tr (hF9.up (q_gan))
    obtain ⟨hP1, hK1, hD1⟩ := hB
    rw [ht] at hP1
    have hP : va_P (dC, dI) classes G_5 H31 := hP1
    have hD : va_D A G_5 := hD1.weaken (fun _ _ _ h => hFc _ h)
    subst hr31
    refine lv_if_eq (tgt := 39) hx hb d_Model_part_34 (by decide) (fun c34 => ?_) (fun c34 => ?_)
    rotate_left
    · exact absurd c34 (by decide)
    refine lv_aload_n hx hb d_Model_part_39 rfl (lv_at hl 0 rfl) ?_
    obtain ⟨i_7, hg_7⟩ := List.getElem?_of_mem kmo.2
    rw [eX_3] at hg_7
    refine va_get (v := .ref msT) hx hb htb i_Model hown hK hP i_7 hg_7 rfl 6 (by decide) (htb _ q7_220) (fun _ h9 => h9) rfl d_Model_part_40 ?_
    refine lv_iload_n hx hb d_Model_part_43 rfl (lv_at hl 1 rfl) ?_
    obtain ⟨i_8, hg_8⟩ := List.getElem?_of_mem kmsT.2
    have h44 : vp_in (nI k9) 16 := vp_in_nI (by omega) (by omega)
    refine va_aldq hx hb hK hP i_8 4 hg_8 rfl h44 d_Model_part_44 ?_
    obtain ⟨t44, ft44, kt44, hc_t44⟩ := hst k9 (by omega)
    rw [show va_rf (fS (nI k9).toNatClampNeg) = .ref t44 from by rw [nI_clamp (by omega), ft44]; rfl]
    have b1_t44 := hc_t44.b1
    have b2_t44 := hc_t44.b2
    have b3_t44 := hc_t44.b3
    have b4_t44 := hc_t44.b4
    have b5_t44 := hc_t44.b5
    have b6_t44 := hc_t44.b6
    have b8_t44 := hc_t44.b8
    have b9_t44 := hc_t44.b9
    refine lv_astore_n (lv' := [(3, .ref t44), (0, .ref mo), (1, .int (nI k9)), (2, .int 10)]) hx hb d_Model_part_45 rfl hl (by decide) rfl (fun ls hl => ?_)
    refine lv_iload_n hx hb d_Model_part_46 rfl (lv_at hl 3 rfl) ?_
    have t47 : (10 : Int32).toInt = 10 := by decide
    refine lv_tableIn (tgt := 211) hx hb d_Model_part_47 (by omega) (by omega) (by rw [t47]; rfl) rfl ?_
    refine lv_aload_n hx hb d_Model_part_211 rfl (lv_at hl 0 rfl) ?_
    obtain ⟨i_9, kA_9, hg_9⟩ := tr_20 hTy kt44
    refine va_get (v := .int ((τ t44).I 30)) hx hb htb i_Text hown hK hP i_9 hg_9 rfl 30 (by decide) (htb _ q6_233) (fun _ h9 => h9) rfl d_Model_part_212 ?_
    refine lv_i2l (v := ((τ t44).I 30).toInt64) hx hb d_Model_part_215 rfl ?_
    exact W.lret (v := ((τ t44).I 30).toInt64) hx hb hr (fun t ht hW => ⟨⟨_, G_5, rfl, ⟨hTy, hFR, ⟨t44, ft44, rfl⟩, (by rw [eX_3] at kmo; exact kmo)⟩, by rw [ht]; exact hP, va_K.moved hW.alike hK, hD⟩, hS.F ht⟩) hS.2.2 d_Model_part_216
  · have p13 : r10 = (0 : Int32) := c13
    exact absurd hwhat (bz_0 hr10 p13)
set_option maxHeartbeats 4000000 in
set_option maxRecDepth 100000 in
theorem m_Model_part_ok11 (l : Launch) (dC : Nat → ClassId) (dI : Nat → Nat → Nat) (sb : sB) (γ : cG) (κ : kE) (Ad : List Nat) (τ : Nat → TD) (gT : ClassId) (G : va_W) (mo : Nat) (moc msT mrV msP mrA mbA mwA mhA mfA mpA mxA myA mmA mqA mzA mwy mfd : Nat) (mer mwr mqs msz mch mft mpt mdp mvd mmk : Int32) (mnw : Int64) (K9 KL cz fd : Nat) (k9 : Nat) (fS : Nat → Option Nat) (sz : Nat) (hTy : TR γ κ Ad τ G) (kmo : Xc Ad mo (.inr (12, (.int mer :: .int (nI fd) :: .int mwr :: .int (nI K9) :: .int (nI KL) :: .ref moc :: .ref msT :: .ref mrV :: .ref msP :: .int mqs :: .ref mrA :: .ref mbA :: .ref mwA :: .ref mhA :: .ref mfA :: .ref mpA :: .ref mxA :: .ref myA :: .ref mmA :: .ref mqA :: .ref mzA :: .ref mwy :: .ref mfd :: .int msz :: .int (nI cz) :: .int mch :: .int mft :: .int mpt :: .int mdp :: .int mvd :: .long mnw :: .int mmk :: []))) G) (kmsT : Xc Ad msT (.inl (gT, 16, .inr (.inr (.inr (.inr fS))))) G) (hx_mo_msT : mo ≠ msT) (hst : STc κ Ad τ K9 fS) (hK9 : K9 ≤ 16) (hk9 : k9 < K9) : Met l y_Model_part w_Model_part ({ frames := 2, cells := 0, slots := 0, locals := 44 }) (mu_P [.ref mo, .int (nI k9), .int 11] (dC, dI) sb G [(γ.1, .byte), (γ.2.1, .int), (γ.2.2.1, .long), (γ.2.2.2, .object "java/lang/Object"), (gT, .object "TrustChainModel$Text")] sz) (va_Ql (fun r (G' : va_W) => TR γ κ Ad τ G' ∧ FL Ad [mo] G G' ∧ ((∃ t, fS k9 = some t ∧ r = (nI ((τ t).re - (τ t).sr)).toInt64) ∧ Xc Ad mo (.inr (12, (.int 0 :: .int (nI fd) :: .int mwr :: .int (nI K9) :: .int (nI KL) :: .ref moc :: .ref msT :: .ref mrV :: .ref msP :: .int mqs :: .ref mrA :: .ref mbA :: .ref mwA :: .ref mhA :: .ref mfA :: .ref mpA :: .ref mxA :: .ref myA :: .ref mmA :: .ref mqA :: .ref mzA :: .ref mwy :: .ref mfd :: .int msz :: .int (nI cz) :: .int mch :: .int mft :: .int mpt :: .int mdp :: .int mvd :: .long mnw :: .int mmk :: []))) G')) (mu_B (dC, dI) [(γ.1, .byte), (γ.2.1, .int), (γ.2.2.1, .long), (γ.2.2.2, .object "java/lang/Object"), (gT, .object "TrustChainModel$Text")] (va_A G sz) (fun G' : va_W => G')) (va_A G sz)) 0 0 (va_A G sz) := by
  refine Met.ofW (cc := b_Model_part) (maxL := 6) (ret := (some FieldType.long)) (by decide) rfl ?_
  intro p e s m args below meth c s₁ B hml hv
  obtain ⟨rfl, hsz, hB0, hP, hK, hD0, hN, hT0⟩ := hv
  have hx := B.exec
  have hb := B.bytes
  have hr := B.returns
  have hts := atoms_spec (ws := w_Model_part) B.pre
  have tbin : ∀ w ∈ tb, w ∈ w_Model_part := fun w h => List.mem_cons_of_mem _ h
  have htb : ∀ w ∈ tb, w.before _ s = true := fun w h => hts w (tbin w h)
  have hown : s.vm.findClass "TrustChainModel" = some m.cls := findClass_of_methodNamed B.named
  have hlocks := B.notSynchronized
  subst hsz
  have hD := hD0.self (sz := s.heap.size)
  generalize hAe : va_A G s.heap.size = A at hD ⊢
  have hA : ∀ q : Nat, s.heap.size ≤ q → A q := fun q h => by rw [← hAe]; exact Or.inr h
  have hAs : ∀ q : Nat, A q → sb.1 ≤ q := fun q h => by
    rw [← hAe] at h
    rcases h with ⟨k, e, h⟩ | h
    · exact hD0.2 k _ h
    · exact Nat.le_trans hB0 h
  have hS : va_S A s.heap s.heap [] := va_S.rf
  have hFR := FL.rf Ad [mo] G
  have hcs : 0 ≤ (headSpec w_Model_part ({ frames := 2, cells := 0, slots := 0, locals := 44 })).room.cells ∧ 0 ≤ (headSpec w_Model_part ({ frames := 2, cells := 0, slots := 0, locals := 44 })).room.slots := ⟨Nat.le_refl _, Nat.le_refl _⟩
  have hP : va_P (dC, dI) classes G s.heap := hP
  have hl := lv_entry ([.ref mo, .int (nI k9), .int 11]) (n := 6) (Nat.le_of_ble_eq_true rfl)
  rw [lg_entry_eq]
  generalize (lg_sl ([.ref mo, .int (nI k9), .int 11]) ++ List.replicate (6 - (lg_sl ([.ref mo, .int (nI k9), .int 11])).length) Slot.unset).toArray = ls at hl ⊢
  have hl : lv_has ls 6 [(0, .ref mo), (1, .int (nI k9)), (2, .int 11)] := hl
  obtain ⟨cX_mo, eX_mo⟩ : ∃ z : va_E, z = .inr (12, (.int mer :: .int (nI fd) :: .int mwr :: .int (nI K9) :: .int (nI KL) :: .ref moc :: .ref msT :: .ref mrV :: .ref msP :: .int mqs :: .ref mrA :: .ref mbA :: .ref mwA :: .ref mhA :: .ref mfA :: .ref mpA :: .ref mxA :: .ref myA :: .ref mmA :: .ref mqA :: .ref mzA :: .ref mwy :: .ref mfd :: .int msz :: .int (nI cz) :: .int mch :: .int mft :: .int mpt :: .int mdp :: .int mvd :: .long mnw :: .int mmk :: [])) := ⟨_, rfl⟩
  rw [← eX_mo] at kmo
  have hwhat : ¬ (11 : Int32) < 0 ∧ ¬ (11 : Int32) < 11 := by decide
  refine lv_aload_n hx hb d_Model_part_0 rfl (lv_at hl 0 rfl) ?_
  refine lv_iconst (v := 0) hx hb d_Model_part_1 (by decide) ?_
  obtain ⟨i_1, hg_1⟩ := List.getElem?_of_mem kmo.2
  rw [eX_mo] at hg_1
  refine va_put (v := .int 0) (ty := .int) hx hb htb i_Model t_Model t_Model_ok n_Model hown hK hP hD hS i_1 hg_1 rfl 0 (by decide) (htb _ q7_214) (fun _ h9 => h9) rfl (by decide +kernel) rfl rfl (Nat.le_of_ble_eq_true rfl) d_Model_part_2 (fun H2 locs hP hD2 hS => ?_)
  have hP : va_P (dC, dI) classes (G.set i_1 (mo, .inr (12, (.int 0 :: .int (nI fd) :: .int mwr :: .int (nI K9) :: .int (nI KL) :: .ref moc :: .ref msT :: .ref mrV :: .ref msP :: .int mqs :: .ref mrA :: .ref mbA :: .ref mwA :: .ref mhA :: .ref mfA :: .ref mpA :: .ref mxA :: .ref myA :: .ref mmA :: .ref mqA :: .ref mzA :: .ref mwy :: .ref mfd :: .int msz :: .int (nI cz) :: .int mch :: .int mft :: .int mpt :: .int mdp :: .int mvd :: .long mnw :: .int mmk :: [])))) H2 := hP
  have hD3 : va_D A (G.set i_1 (mo, .inr (12, (.int 0 :: .int (nI fd) :: .int mwr :: .int (nI K9) :: .int (nI KL) :: .ref moc :: .ref msT :: .ref mrV :: .ref msP :: .int mqs :: .ref mrA :: .ref mbA :: .ref mwA :: .ref mhA :: .ref mfA :: .ref mpA :: .ref mxA :: .ref myA :: .ref mmA :: .ref mqA :: .ref mzA :: .ref mwy :: .ref mfd :: .int msz :: .int (nI cz) :: .int mch :: .int mft :: .int mpt :: .int mdp :: .int mvd :: .long mnw :: .int mmk :: [])))) := hD2
  have hTy := TR.setX (c' := .inr (12, (.int 0 :: .int (nI fd) :: .int mwr :: .int (nI K9) :: .int (nI KL) :: .ref moc :: .ref msT :: .ref mrV :: .ref msP :: .int mqs :: .ref mrA :: .ref mbA :: .ref mwA :: .ref mhA :: .ref mfA :: .ref mpA :: .ref mxA :: .ref myA :: .ref mmA :: .ref mqA :: .ref mzA :: .ref mwy :: .ref mfd :: .int msz :: .int (nI cz) :: .int mch :: .int mft :: .int mpt :: .int mdp :: .int mvd :: .long mnw :: .int mmk :: []))) hTy hg_1 kmo.1
  have kmsT := Xc.setX (c' := .inr (12, (.int 0 :: .int (nI fd) :: .int mwr :: .int (nI K9) :: .int (nI KL) :: .ref moc :: .ref msT :: .ref mrV :: .ref msP :: .int mqs :: .ref mrA :: .ref mbA :: .ref mwA :: .ref mhA :: .ref mfA :: .ref mpA :: .ref mxA :: .ref myA :: .ref mmA :: .ref mqA :: .ref mzA :: .ref mwy :: .ref mfd :: .int msz :: .int (nI cz) :: .int mch :: .int mft :: .int mpt :: .int mdp :: .int mvd :: .long mnw :: .int mmk :: []))) kmsT hg_1 (fun e => hx_mo_msT.symm (congrArg Prod.fst e))
  have hFR := hFR.tr (FL.set (Ad := Ad) (X := [mo]) (c' := .inr (12, (.int 0 :: .int (nI fd) :: .int mwr :: .int (nI K9) :: .int (nI KL) :: .ref moc :: .ref msT :: .ref mrV :: .ref msP :: .int mqs :: .ref mrA :: .ref mbA :: .ref mwA :: .ref mhA :: .ref mfA :: .ref mpA :: .ref mxA :: .ref myA :: .ref mmA :: .ref mqA :: .ref mzA :: .ref mwy :: .ref mfd :: .int msz :: .int (nI cz) :: .int mch :: .int mft :: .int mpt :: .int mdp :: .int mvd :: .long mnw :: .int mmk :: []))) hg_1 (by simp))
  have hg_1 := set_here (c' := .inr (12, (.int 0 :: .int (nI fd) :: .int mwr :: .int (nI K9) :: .int (nI KL) :: .ref moc :: .ref msT :: .ref mrV :: .ref msP :: .int mqs :: .ref mrA :: .ref mbA :: .ref mwA :: .ref mhA :: .ref mfA :: .ref mpA :: .ref mxA :: .ref myA :: .ref mmA :: .ref mqA :: .ref mzA :: .ref mwy :: .ref mfd :: .int msz :: .int (nI cz) :: .int mch :: .int mft :: .int mpt :: .int mdp :: .int mvd :: .long mnw :: .int mmk :: []))) hg_1
  have kmo : Xc Ad mo (.inr (12, (.int 0 :: .int (nI fd) :: .int mwr :: .int (nI K9) :: .int (nI KL) :: .ref moc :: .ref msT :: .ref mrV :: .ref msP :: .int mqs :: .ref mrA :: .ref mbA :: .ref mwA :: .ref mhA :: .ref mfA :: .ref mpA :: .ref mxA :: .ref myA :: .ref mmA :: .ref mqA :: .ref mzA :: .ref mwy :: .ref mfd :: .int msz :: .int (nI cz) :: .int mch :: .int mft :: .int mpt :: .int mdp :: .int mvd :: .long mnw :: .int mmk :: []))) (G.set i_1 (mo, .inr (12, (.int 0 :: .int (nI fd) :: .int mwr :: .int (nI K9) :: .int (nI KL) :: .ref moc :: .ref msT :: .ref mrV :: .ref msP :: .int mqs :: .ref mrA :: .ref mbA :: .ref mwA :: .ref mhA :: .ref mfA :: .ref mpA :: .ref mxA :: .ref myA :: .ref mmA :: .ref mqA :: .ref mzA :: .ref mwy :: .ref mfd :: .int msz :: .int (nI cz) :: .int mch :: .int mft :: .int mpt :: .int mdp :: .int mvd :: .long mnw :: .int mmk :: [])))) := ⟨kmo.1, List.mem_of_getElem? hg_1⟩
  have hD := hD3
  clear hD3 hD2
  generalize G.set i_1 (mo, .inr (12, (.int 0 :: .int (nI fd) :: .int mwr :: .int (nI K9) :: .int (nI KL) :: .ref moc :: .ref msT :: .ref mrV :: .ref msP :: .int mqs :: .ref mrA :: .ref mbA :: .ref mwA :: .ref mhA :: .ref mfA :: .ref mpA :: .ref mxA :: .ref myA :: .ref mmA :: .ref mqA :: .ref mzA :: .ref mwy :: .ref mfd :: .int msz :: .int (nI cz) :: .int mch :: .int mft :: .int mpt :: .int mdp :: .int mvd :: .long mnw :: .int mmk :: []))) = G_2 at hP hD hTy hFR kmo kmsT hg_1
  obtain ⟨cX_3, eX_3⟩ : ∃ z : va_E, z = .inr (12, (.int 0 :: .int (nI fd) :: .int mwr :: .int (nI K9) :: .int (nI KL) :: .ref moc :: .ref msT :: .ref mrV :: .ref msP :: .int mqs :: .ref mrA :: .ref mbA :: .ref mwA :: .ref mhA :: .ref mfA :: .ref mpA :: .ref mxA :: .ref myA :: .ref mmA :: .ref mqA :: .ref mzA :: .ref mwy :: .ref mfd :: .int msz :: .int (nI cz) :: .int mch :: .int mft :: .int mpt :: .int mdp :: .int mvd :: .long mnw :: .int mmk :: [])) := ⟨_, rfl⟩
  rw [← eX_3] at kmo
  refine lv_aload_n hx hb d_Model_part_5 rfl (lv_at hl 0 rfl) ?_
  refine lv_iload_n hx hb d_Model_part_6 rfl (lv_at hl 2 rfl) ?_
  refine lv_iconst (v := 0) hx hb d_Model_part_7 (by decide) ?_
  refine lv_bipush (v := 11) hx hb d_Model_part_8 (by decide) ?_
  refine vp_callSi (pu_callS (As := [.int 11, .int 0, .int 11]) (rest := [.ref mo]) ⟨hx, hb, hml, hown, hts⟩ tbin (c_Model_in l dC dI sb (11 : Int32) (0 : Int32) (11 : Int32)) q9_68 q8_116 q1_9 q8_117 (n := 3) (by decide +kernel) rfl ⟨rfl, rfl⟩ ⟨Nat.le_of_ble_eq_true rfl, Nat.le_of_ble_eq_true rfl⟩ ⟨Nat.le_of_ble_eq_true rfl, Nat.le_of_ble_eq_true rfl⟩ hN (hT0.keep hS hAs) hK hP [] (by simp only [List.filterMap_cons, List.filterMap_nil]) [] rfl hl.1 rfl (Nat.le_of_ble_eq_true rfl) d_Model_part_10) (fun r10 hr10 => ?_)
  refine lv_if_ne (tgt := 20) hx hb d_Model_part_13 (by decide) (fun c13 => ?_) (fun c13 => ?_)
  · have p13 : ¬ (r10 = (0 : Int32)) := c13
    refine lv_iconst (v := 0) hx hb d_Model_part_20 (by decide) ?_
    refine lv_iconst (v := 1) hx hb d_Model_part_21 (by decide) ?_
    have hFc := va_free (wc := G_2) hD hS hA (List.range G_2.length) (rg_is _)
    refine va_calli (mu_runV (As := [.int 0, .int 1]) (rest := []) ⟨hx, hb, hml, hown, hts⟩ tbin (m_Model_fails_0 l dC dI sb γ κ Ad τ gT G_2 mo _ _ _ _ _ _ _ _ _ _ _ _ _ _ _ _ _ _ _ _ _ _ _ _ _ _ _ _ _ _ _ _ H2.size hTy (by have h9 := kmo; rw [eX_3] at h9; exact h9) ) q8_79 q8_81 qp_36 q1_9 q8_82 (n := 2) (by decide +kernel) rfl ⟨rfl, rfl⟩ ⟨Nat.le_of_ble_eq_true rfl, Nat.le_of_ble_eq_true rfl⟩ ⟨Nat.le_of_ble_eq_true rfl, Nat.le_of_ble_eq_true rfl⟩ hN (hT0.keep hS hAs) hAs (Nat.le_trans hB0 hS.1) hK hP hD (List.range G_2.length) (rg_nd _) (rg_is _) [0, 1, 2, 3, 4] rfl i_1 12 hg_1 rfl rfl hl.1 rfl (Nat.le_of_ble_eq_true rfl) d_Model_part_22) hS (fun q _ h => hFc q h) hFc (fun r22 G_4 tS H22 locs ht hvm hw22 hB hz1 hk1 hS => ?_)
    obtain ⟨hTy, hF9, hr22⟩ := hw22
    have kmo := kmo.fl hF9 (q_nmn)
    have kmsT := kmsT.fl hF9 (q_nmn)
    have hFR := hFR.tr (hF9.up (q_gan))
    obtain ⟨hP1, hK1, hD1⟩ := hB
    rw [ht] at hP1
    have hP : va_P (dC, dI) classes G_4 H22 := hP1
    have hD : va_D A G_4 := hD1.weaken (fun _ _ _ h => hFc _ h)
    subst hr22
    refine lv_if_ne (tgt := 37) hx hb d_Model_part_25 (by decide) (fun c25 => ?_) (fun c25 => ?_)
    · exact absurd c25 (by decide)
    refine lv_aload_n hx hb d_Model_part_28 rfl (lv_at hl 0 rfl) ?_
    refine lv_iload_n hx hb d_Model_part_29 rfl (lv_at hl 1 rfl) ?_
    refine lv_iconst (v := 2) hx hb d_Model_part_30 (by decide) ?_
    have hFc := va_free (wc := G_4) hD hS hA (List.range G_4.length) (rg_is _)
    obtain ⟨i_6, hg_6⟩ := List.getElem?_of_mem kmo.2
    rw [eX_3] at hg_6
    refine va_calli (mu_runV (As := [.int (nI k9), .int 2]) (rest := []) ⟨hx, hb, hml, hown, hts⟩ tbin (m_Model_noc_0 l dC dI sb γ κ Ad τ gT G_4 mo _ _ _ _ _ _ _ _ _ _ _ _ _ _ _ _ _ _ _ _ _ _ _ _ _ _ _ _ _ _ _ _ _ H22.size hTy (by have h9 := kmo; rw [eX_3] at h9; exact h9) hk9 hK9) q9_64 q9_66 qp_39 q1_9 q9_67 (n := 2) (by decide +kernel) rfl ⟨rfl, rfl⟩ ⟨Nat.le_of_ble_eq_true rfl, Nat.le_of_ble_eq_true rfl⟩ ⟨Nat.le_of_ble_eq_true rfl, Nat.le_of_ble_eq_true rfl⟩ hN (hT0.keep hS hAs) hAs (Nat.le_trans hB0 hS.1) hK hP hD (List.range G_4.length) (rg_nd _) (rg_is _) [0, 1, 2, 3, 4] rfl i_6 12 hg_6 rfl rfl hl.1 rfl (Nat.le_of_ble_eq_true rfl) d_Model_part_31) hS (fun q _ h => hFc q h) hFc (fun r31 G_5 tS H31 locs ht hvm hw31 hB hz1 hk1 hS => ?_)
    obtain ⟨hTy, hF9, hr31⟩ := hw31
    have kmo := kmo.fl hF9 (q_nmn)
    have kmsT := kmsT.fl hF9 (q_nmn)
    have hFR := hFR.tr (hF9.up (q_gan))
    obtain ⟨hP1, hK1, hD1⟩ := hB
    rw [ht] at hP1
    have hP : va_P (dC, dI) classes G_5 H31 := hP1
    have hD : va_D A G_5 := hD1.weaken (fun _ _ _ h => hFc _ h)
    subst hr31
    refine lv_if_eq (tgt := 39) hx hb d_Model_part_34 (by decide) (fun c34 => ?_) (fun c34 => ?_)
    rotate_left
    · exact absurd c34 (by decide)
    refine lv_aload_n hx hb d_Model_part_39 rfl (lv_at hl 0 rfl) ?_
    obtain ⟨i_7, hg_7⟩ := List.getElem?_of_mem kmo.2
    rw [eX_3] at hg_7
    refine va_get (v := .ref msT) hx hb htb i_Model hown hK hP i_7 hg_7 rfl 6 (by decide) (htb _ q7_220) (fun _ h9 => h9) rfl d_Model_part_40 ?_
    refine lv_iload_n hx hb d_Model_part_43 rfl (lv_at hl 1 rfl) ?_
    obtain ⟨i_8, hg_8⟩ := List.getElem?_of_mem kmsT.2
    have h44 : vp_in (nI k9) 16 := vp_in_nI (by omega) (by omega)
    refine va_aldq hx hb hK hP i_8 4 hg_8 rfl h44 d_Model_part_44 ?_
    obtain ⟨t44, ft44, kt44, hc_t44⟩ := hst k9 (by omega)
    rw [show va_rf (fS (nI k9).toNatClampNeg) = .ref t44 from by rw [nI_clamp (by omega), ft44]; rfl]
    have b1_t44 := hc_t44.b1
    have b2_t44 := hc_t44.b2
    have b3_t44 := hc_t44.b3
    have b4_t44 := hc_t44.b4
    have b5_t44 := hc_t44.b5
    have b6_t44 := hc_t44.b6
    have b8_t44 := hc_t44.b8
    have b9_t44 := hc_t44.b9
    refine lv_astore_n (lv' := [(3, .ref t44), (0, .ref mo), (1, .int (nI k9)), (2, .int 11)]) hx hb d_Model_part_45 rfl hl (by decide) rfl (fun ls hl => ?_)
    refine lv_iload_n hx hb d_Model_part_46 rfl (lv_at hl 3 rfl) ?_
    have t47 : (11 : Int32).toInt = 11 := by decide
    refine lv_tableOut (tgt := 217) hx hb d_Model_part_47 (by omega) rfl ?_
    refine lv_aload_n hx hb d_Model_part_217 rfl (lv_at hl 0 rfl) ?_
    obtain ⟨i_9, kA_9, hg_9⟩ := tr_20 hTy kt44
    refine va_get (v := .int ((τ t44).I 11)) hx hb htb i_Text hown hK hP i_9 hg_9 rfl 11 (by decide) (htb _ q6_195) (fun _ h9 => h9) rfl d_Model_part_218 ?_
    rw [hc_t44.e11]
    refine lv_aload_n hx hb d_Model_part_221 rfl (lv_at hl 0 rfl) ?_
    refine va_get (v := .int ((τ t44).I 10)) hx hb htb i_Text hown hK hP i_9 hg_9 rfl 10 (by decide) (htb _ q6_193) (fun _ h9 => h9) rfl d_Model_part_222 ?_
    rw [hc_t44.e10]
    refine lv_isub hx hb d_Model_part_225 ?_
    rw [show ((nI ((τ t44).re)) - (nI ((τ t44).sr)) : Int32) = nI (((τ t44).re) - ((τ t44).sr)) from pk_sub (a := ((τ t44).re)) (b := ((τ t44).sr)) (by omega)]
    refine lv_i2l (v := (nI (((τ t44).re) - ((τ t44).sr))).toInt64) hx hb d_Model_part_226 rfl ?_
    exact W.lret (v := (nI (((τ t44).re) - ((τ t44).sr))).toInt64) hx hb hr (fun t ht hW => ⟨⟨_, G_5, rfl, ⟨hTy, hFR, ⟨t44, ft44, rfl⟩, (by rw [eX_3] at kmo; exact kmo)⟩, by rw [ht]; exact hP, va_K.moved hW.alike hK, hD⟩, hS.F ht⟩) hS.2.2 d_Model_part_227
  · have p13 : r10 = (0 : Int32) := c13
    exact absurd hwhat (bz_0 hr10 p13)
