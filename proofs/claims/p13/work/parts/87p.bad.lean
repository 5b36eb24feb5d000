/-! The reference refuses a text. -/
set_option maxHeartbeats 4000000 in
set_option maxRecDepth 100000 in
theorem m_Model_store_b0 (l : Launch) (dC : Nat → ClassId) (dI : Nat → Nat → Nat) (sb : sB) (γ : cG) (κ : kE) (Ad : List Nat) (τ : Nat → TD) (gT : ClassId) (G : va_W) (mo : Nat) (moc msT mrV msP mrA mbA mwA mhA mfA mpA mxA myA mmA mqA mzA mwy mfd : Nat) (mwr mqs msz mch mft mpt mdp mvd mmk : Int32) (mnw : Int64) (K9 KL cz fd : Nat) (ci : Int32) (sz : Nat) (hTy : TR γ κ Ad τ G) (kmo : Xc Ad mo (.inr (12, (.int 0 :: .int (nI fd) :: .int mwr :: .int (nI K9) :: .int (nI KL) :: .ref moc :: .ref msT :: .ref mrV :: .ref msP :: .int mqs :: .ref mrA :: .ref mbA :: .ref mwA :: .ref mhA :: .ref mfA :: .ref mpA :: .ref mxA :: .ref myA :: .ref mmA :: .ref mqA :: .ref mzA :: .ref mwy :: .ref mfd :: .int msz :: .int (nI cz) :: .int mch :: .int mft :: .int mpt :: .int mdp :: .int mvd :: .long mnw :: .int mmk :: []))) G) (hbad : ¬ (¬ ci < 0 ∧ ci ≤ 2048 ∧ ci ≤ nI fd ∧ K9 < 16)) (hcap : K9 ≤ 16) : Met l y_Model_store w_Model_store ({ frames := 14, cells := 0, slots := 0, locals := 328 }) (mu_P [.ref mo, .int ci, .int 0] (dC, dI) sb G [(γ.1, .byte), (γ.2.1, .int), (γ.2.2.1, .long), (γ.2.2.2, .object "java/lang/Object"), (gT, .object "TrustChainModel$Text")] sz) (va_Qi (fun r (G' : va_W) => TR γ κ Ad τ G' ∧ FL Ad [mo] G G' ∧ (r = -1 ∧ Xc Ad mo (.inr (12, (.int 1 :: .int (nI fd) :: .int mwr :: .int (nI K9) :: .int (nI KL) :: .ref moc :: .ref msT :: .ref mrV :: .ref msP :: .int mqs :: .ref mrA :: .ref mbA :: .ref mwA :: .ref mhA :: .ref mfA :: .ref mpA :: .ref mxA :: .ref myA :: .ref mmA :: .ref mqA :: .ref mzA :: .ref mwy :: .ref mfd :: .int msz :: .int (nI cz) :: .int mch :: .int mft :: .int mpt :: .int mdp :: .int mvd :: .long mnw :: .int mmk :: []))) G')) (mu_B (dC, dI) [(γ.1, .byte), (γ.2.1, .int), (γ.2.2.1, .long), (γ.2.2.2, .object "java/lang/Object"), (gT, .object "TrustChainModel$Text")] (va_A G sz) (fun G' : va_W => G')) (va_A G sz)) 0 0 (va_A G sz) := by
  refine Met.ofW (cc := b_Model_store) (maxL := 6) (ret := (some FieldType.int)) (by decide) rfl ?_
  intro p e s m args below meth c s₁ B hml hv
  obtain ⟨rfl, hsz, hB0, hP, hK, hD0, hN, hT0⟩ := hv
  have hx := B.exec
  have hb := B.bytes
  have hr := B.returns
  have hts := atoms_spec (ws := w_Model_store) B.pre
  have tbin : ∀ w ∈ tb, w ∈ w_Model_store := fun w h => List.mem_cons_of_mem _ h
  have htb : ∀ w ∈ tb, w.before _ s = true := fun w h => hts w (tbin w h)
  have hown : s.vm.findClass "TrustChainModel" = some m.cls := findClass_of_methodNamed B.named
  have hlocks := B.notSynchronized
  subst hsz
  have hD := hD0.self (sz := s.heap.size)
  generalize hAe : va_A G s.heap.size = A at hD ⊢
  have hA : ∀ q : Nat, s.heap.size ≤ q → A q := fun q h => by rw [← hAe]; exact Or.inr h
  have hAs : ∀ q : Nat, A q → sb.1 ≤ q := fun q h => by
    rw [← hAe] at h
    rcases h with ⟨k, e, h⟩ | h
    · exact hD0.2 k _ h
    · exact Nat.le_trans hB0 h
  have hS : va_S A s.heap s.heap [] := va_S.rf
  have hFR := FL.rf Ad [mo] G
  have hcs : 0 ≤ (headSpec w_Model_store ({ frames := 14, cells := 0, slots := 0, locals := 328 })).room.cells ∧ 0 ≤ (headSpec w_Model_store ({ frames := 14, cells := 0, slots := 0, locals := 328 })).room.slots := ⟨Nat.le_refl _, Nat.le_refl _⟩
  have hP : va_P (dC, dI) classes G s.heap := hP
  have hl := lv_entry ([.ref mo, .int ci, .int 0]) (n := 6) (Nat.le_of_ble_eq_true rfl)
  rw [lg_entry_eq]
  generalize (lg_sl ([.ref mo, .int ci, .int 0]) ++ List.replicate (6 - (lg_sl ([.ref mo, .int ci, .int 0])).length) Slot.unset).toArray = ls at hl ⊢
  have hl : lv_has ls 6 [(0, .ref mo), (1, .int ci), (2, .int 0)] := hl
  obtain ⟨cX_mo, eX_mo⟩ : ∃ z : va_E, z = .inr (12, (.int 0 :: .int (nI fd) :: .int mwr :: .int (nI K9) :: .int (nI KL) :: .ref moc :: .ref msT :: .ref mrV :: .ref msP :: .int mqs :: .ref mrA :: .ref mbA :: .ref mwA :: .ref mhA :: .ref mfA :: .ref mpA :: .ref mxA :: .ref myA :: .ref mmA :: .ref mqA :: .ref mzA :: .ref mwy :: .ref mfd :: .int msz :: .int (nI cz) :: .int mch :: .int mft :: .int mpt :: .int mdp :: .int mvd :: .long mnw :: .int mmk :: [])) := ⟨_, rfl⟩
  rw [← eX_mo] at kmo
  refine lv_iload_n hx hb d_Model_store_0 rfl (lv_at hl 2 rfl) ?_
  refine lv_if_eq (tgt := 11) hx hb d_Model_store_1 (by decide) (fun c1 => ?_) (fun c1 => ?_)
  rotate_left
  · exact absurd c1 (by decide)
  refine lv_aload_n hx hb d_Model_store_11 rfl (lv_at hl 0 rfl) ?_
  obtain ⟨i_1, hg_1⟩ := List.getElem?_of_mem kmo.2
  rw [eX_mo] at hg_1
  refine va_get (v := .int (nI K9)) hx hb htb i_Model hown hK hP i_1 hg_1 rfl 3 (by decide) (htb _ q7_217) (fun _ h9 => h9) rfl d_Model_store_12 ?_
  refine lv_istore_n (lv' := [(3, .int (nI K9)), (0, .ref mo), (1, .int ci), (2, .int 0)]) hx hb d_Model_store_15 rfl hl (by decide) rfl (fun ls hl => ?_)
  refine lv_aload_n hx hb d_Model_store_16 rfl (lv_at hl 1 rfl) ?_
  refine lv_iload_n hx hb d_Model_store_17 rfl (lv_at hl 2 rfl) ?_
  refine lv_if_lt (tgt := 51) hx hb d_Model_store_18 (by decide) (fun c18 => ?_) (fun c18 => ?_)
  · have p18 : ci < (0 : Int32) := c18
    refine lv_iconst (v := 1) hx hb d_Model_store_51 (by decide) ?_
    refine lv_goto (tgt := 56) hx hb d_Model_store_52 (by decide) ?_
    refine lv_iconst (v := 1) hx hb d_Model_store_56 (by decide) ?_
    have hFc := va_free (wc := G) hD hS hA (List.range G.length) (rg_is _)
    refine va_calli (mu_runV (As := [.int 1, .int 1]) (rest := []) ⟨hx, hb, hml, hown, hts⟩ tbin (m_Model_fails_1 l dC dI sb γ κ Ad τ gT G mo _ _ _ _ _ _ _ _ _ _ _ _ _ _ _ _ _ _ _ _ _ _ _ _ _ _ _ _ _ _ _ _ s.heap.size hTy (by have h9 := kmo; rw [eX_mo] at h9; exact h9) (by decide)) q8_79 q8_81 qp_36 q1_9 q8_82 (n := 2) (by decide +kernel) rfl ⟨rfl, rfl⟩ ⟨Nat.le_of_ble_eq_true rfl, Nat.le_of_ble_eq_true rfl⟩ ⟨Nat.le_of_ble_eq_true rfl, Nat.le_of_ble_eq_true rfl⟩ hN (hT0.keep hS hAs) hAs (Nat.le_trans hB0 hS.1) hK hP hD (List.range G.length) (rg_nd _) (rg_is _) [0, 1, 2, 3, 4] rfl i_1 12 hg_1 rfl rfl hl.1 rfl (Nat.le_of_ble_eq_true rfl) d_Model_store_57) hS (fun q _ h => hFc q h) hFc (fun r57 G_2 tS H57 locs ht hvm hw57 hB hz1 hk1 hS => ?_)
    obtain ⟨hTy, hF9, hr57⟩ := hw57
    have hFR := hFR.tr (hF9.up (q_gac (by simp) (q_gan)))
    obtain ⟨hP1, hK1, hD1⟩ := hB
    rw [ht] at hP1
    have hP : va_P (dC, dI) classes G_2 H57 := hP1
    have hD : va_D A G_2 := hD1.weaken (fun _ _ _ h => hFc _ h)
    obtain ⟨hq57, kmo⟩ := hr57
    subst hq57
    obtain ⟨cX_3, eX_3⟩ : ∃ z : va_E, z = .inr (12, (.int 1 :: .int (nI fd) :: .int mwr :: .int (nI K9) :: .int (nI KL) :: .ref moc :: .ref msT :: .ref mrV :: .ref msP :: .int mqs :: .ref mrA :: .ref mbA :: .ref mwA :: .ref mhA :: .ref mfA :: .ref mpA :: .ref mxA :: .ref myA :: .ref mmA :: .ref mqA :: .ref mzA :: .ref mwy :: .ref mfd :: .int msz :: .int (nI cz) :: .int mch :: .int mft :: .int mpt :: .int mdp :: .int mvd :: .long mnw :: .int mmk :: [])) := ⟨_, rfl⟩
    rw [← eX_3] at kmo
    refine lv_if_eq (tgt := 65) hx hb d_Model_store_60 (by decide) (fun c60 => ?_) (fun c60 => ?_)
    · exact absurd c60 (by decide)
    refine lv_iconst (v := -1) hx hb d_Model_store_63 (by decide) ?_
    exact W.iret (v := -1) hx hb hr (fun t ht hW => ⟨⟨_, G_2, rfl, ⟨hTy, hFR, rfl, (by rw [eX_3] at kmo; exact kmo)⟩, by rw [ht]; exact hP, va_K.moved hW.alike hK, hD⟩, hS.F ht⟩) hS.2.2 d_Model_store_64
  · have p18 : ¬ (ci < (0 : Int32)) := c18
    refine lv_iload_n hx hb d_Model_store_21 rfl (lv_at hl 2 rfl) ?_
    refine lv_sipush (v := 2048) hx hb d_Model_store_22 (by decide) ?_
    refine lv_icmp_gt (tgt := 51) hx hb d_Model_store_25 (by decide) (fun c25 => ?_) (fun c25 => ?_)
    · have p25 : (2048 : Int32) < ci := c25
      refine lv_iconst (v := 1) hx hb d_Model_store_51 (by decide) ?_
      refine lv_goto (tgt := 56) hx hb d_Model_store_52 (by decide) ?_
      refine lv_iconst (v := 1) hx hb d_Model_store_56 (by decide) ?_
      have hFc := va_free (wc := G) hD hS hA (List.range G.length) (rg_is _)
      refine va_calli (mu_runV (As := [.int 1, .int 1]) (rest := []) ⟨hx, hb, hml, hown, hts⟩ tbin (m_Model_fails_1 l dC dI sb γ κ Ad τ gT G mo _ _ _ _ _ _ _ _ _ _ _ _ _ _ _ _ _ _ _ _ _ _ _ _ _ _ _ _ _ _ _ _ s.heap.size hTy (by have h9 := kmo; rw [eX_mo] at h9; exact h9) (by decide)) q8_79 q8_81 qp_36 q1_9 q8_82 (n := 2) (by decide +kernel) rfl ⟨rfl, rfl⟩ ⟨Nat.le_of_ble_eq_true rfl, Nat.le_of_ble_eq_true rfl⟩ ⟨Nat.le_of_ble_eq_true rfl, Nat.le_of_ble_eq_true rfl⟩ hN (hT0.keep hS hAs) hAs (Nat.le_trans hB0 hS.1) hK hP hD (List.range G.length) (rg_nd _) (rg_is _) [0, 1, 2, 3, 4] rfl i_1 12 hg_1 rfl rfl hl.1 rfl (Nat.le_of_ble_eq_true rfl) d_Model_store_57) hS (fun q _ h => hFc q h) hFc (fun r57 G_4 tS H57 locs ht hvm hw57 hB hz1 hk1 hS => ?_)
      obtain ⟨hTy, hF9, hr57⟩ := hw57
      have hFR := hFR.tr (hF9.up (q_gac (by simp) (q_gan)))
      obtain ⟨hP1, hK1, hD1⟩ := hB
      rw [ht] at hP1
      have hP : va_P (dC, dI) classes G_4 H57 := hP1
      have hD : va_D A G_4 := hD1.weaken (fun _ _ _ h => hFc _ h)
      obtain ⟨hq57, kmo⟩ := hr57
      subst hq57
      obtain ⟨cX_5, eX_5⟩ : ∃ z : va_E, z = .inr (12, (.int 1 :: .int (nI fd) :: .int mwr :: .int (nI K9) :: .int (nI KL) :: .ref moc :: .ref msT :: .ref mrV :: .ref msP :: .int mqs :: .ref mrA :: .ref mbA :: .ref mwA :: .ref mhA :: .ref mfA :: .ref mpA :: .ref mxA :: .ref myA :: .ref mmA :: .ref mqA :: .ref mzA :: .ref mwy :: .ref mfd :: .int msz :: .int (nI cz) :: .int mch :: .int mft :: .int mpt :: .int mdp :: .int mvd :: .long mnw :: .int mmk :: [])) := ⟨_, rfl⟩
      rw [← eX_5] at kmo
      refine lv_if_eq (tgt := 65) hx hb d_Model_store_60 (by decide) (fun c60 => ?_) (fun c60 => ?_)
      · exact absurd c60 (by decide)
      refine lv_iconst (v := -1) hx hb d_Model_store_63 (by decide) ?_
      exact W.iret (v := -1) hx hb hr (fun t ht hW => ⟨⟨_, G_4, rfl, ⟨hTy, hFR, rfl, (by rw [eX_5] at kmo; exact kmo)⟩, by rw [ht]; exact hP, va_K.moved hW.alike hK, hD⟩, hS.F ht⟩) hS.2.2 d_Model_store_64
    · have p25 : ¬ ((2048 : Int32) < ci) := c25
      refine lv_iload_n hx hb d_Model_store_28 rfl (lv_at hl 2 rfl) ?_
      refine lv_aload_n hx hb d_Model_store_29 rfl (lv_at hl 1 rfl) ?_
      refine va_get (v := .int (nI fd)) hx hb htb i_Model hown hK hP i_1 hg_1 rfl 1 (by decide) (htb _ q7_215) (fun _ h9 => h9) rfl d_Model_store_30 ?_
      refine lv_icmp_gt (tgt := 51) hx hb d_Model_store_33 (by decide) (fun c33 => ?_) (fun c33 => ?_)
      · have p33 : (nI fd) < ci := c33
        refine lv_iconst (v := 1) hx hb d_Model_store_51 (by decide) ?_
        refine lv_goto (tgt := 56) hx hb d_Model_store_52 (by decide) ?_
        refine lv_iconst (v := 1) hx hb d_Model_store_56 (by decide) ?_
        have hFc := va_free (wc := G) hD hS hA (List.range G.length) (rg_is _)
        refine va_calli (mu_runV (As := [.int 1, .int 1]) (rest := []) ⟨hx, hb, hml, hown, hts⟩ tbin (m_Model_fails_1 l dC dI sb γ κ Ad τ gT G mo _ _ _ _ _ _ _ _ _ _ _ _ _ _ _ _ _ _ _ _ _ _ _ _ _ _ _ _ _ _ _ _ s.heap.size hTy (by have h9 := kmo; rw [eX_mo] at h9; exact h9) (by decide)) q8_79 q8_81 qp_36 q1_9 q8_82 (n := 2) (by decide +kernel) rfl ⟨rfl, rfl⟩ ⟨Nat.le_of_ble_eq_true rfl, Nat.le_of_ble_eq_true rfl⟩ ⟨Nat.le_of_ble_eq_true rfl, Nat.le_of_ble_eq_true rfl⟩ hN (hT0.keep hS hAs) hAs (Nat.le_trans hB0 hS.1) hK hP hD (List.range G.length) (rg_nd _) (rg_is _) [0, 1, 2, 3, 4] rfl i_1 12 hg_1 rfl rfl hl.1 rfl (Nat.le_of_ble_eq_true rfl) d_Model_store_57) hS (fun q _ h => hFc q h) hFc (fun r57 G_6 tS H57 locs ht hvm hw57 hB hz1 hk1 hS => ?_)
        obtain ⟨hTy, hF9, hr57⟩ := hw57
        have hFR := hFR.tr (hF9.up (q_gac (by simp) (q_gan)))
        obtain ⟨hP1, hK1, hD1⟩ := hB
        rw [ht] at hP1
        have hP : va_P (dC, dI) classes G_6 H57 := hP1
        have hD : va_D A G_6 := hD1.weaken (fun _ _ _ h => hFc _ h)
        obtain ⟨hq57, kmo⟩ := hr57
        subst hq57
        obtain ⟨cX_7, eX_7⟩ : ∃ z : va_E, z = .inr (12, (.int 1 :: .int (nI fd) :: .int mwr :: .int (nI K9) :: .int (nI KL) :: .ref moc :: .ref msT :: .ref mrV :: .ref msP :: .int mqs :: .ref mrA :: .ref mbA :: .ref mwA :: .ref mhA :: .ref mfA :: .ref mpA :: .ref mxA :: .ref myA :: .ref mmA :: .ref mqA :: .ref mzA :: .ref mwy :: .ref mfd :: .int msz :: .int (nI cz) :: .int mch :: .int mft :: .int mpt :: .int mdp :: .int mvd :: .long mnw :: .int mmk :: [])) := ⟨_, rfl⟩
        rw [← eX_7] at kmo
        refine lv_if_eq (tgt := 65) hx hb d_Model_store_60 (by decide) (fun c60 => ?_) (fun c60 => ?_)
        · exact absurd c60 (by decide)
        refine lv_iconst (v := -1) hx hb d_Model_store_63 (by decide) ?_
        exact W.iret (v := -1) hx hb hr (fun t ht hW => ⟨⟨_, G_6, rfl, ⟨hTy, hFR, rfl, (by rw [eX_7] at kmo; exact kmo)⟩, by rw [ht]; exact hP, va_K.moved hW.alike hK, hD⟩, hS.F ht⟩) hS.2.2 d_Model_store_64
      · have p33 : ¬ ((nI fd) < ci) := c33
        refine lv_iload_n hx hb d_Model_store_36 rfl (lv_at hl 0 rfl) ?_
        refine lv_iload_n hx hb d_Model_store_37 rfl (lv_at hl 3 rfl) ?_
        refine lv_if_eq (tgt := 46) hx hb d_Model_store_38 (by decide) (fun c38 => ?_) (fun c38 => ?_)
        rotate_left
        · exact absurd c38 (by decide)
        refine lv_bipush (v := 16) hx hb d_Model_store_46 (by decide) ?_
        refine lv_icmp_ne (tgt := 55) hx hb d_Model_store_48 (by decide) (fun c48 => ?_) (fun c48 => ?_)
        · have p48 : ¬ (K9 = 16) := (fun q9 => c48 ((nI_eq (a := K9) (b := 16) (by omega) (by omega)).mpr q9))
          exact absurd ⟨p18, Int32.not_lt.mp p25, Int32.not_lt.mp p33, by omega⟩ hbad
        · have p48 : K9 = 16 := ((nI_eq (a := K9) (b := 16) (by omega) (by omega)).mp c48)
          refine lv_iconst (v := 1) hx hb d_Model_store_51 (by decide) ?_
          refine lv_goto (tgt := 56) hx hb d_Model_store_52 (by decide) ?_
          refine lv_iconst (v := 1) hx hb d_Model_store_56 (by decide) ?_
          have hFc := va_free (wc := G) hD hS hA (List.range G.length) (rg_is _)
          refine va_calli (mu_runV (As := [.int 1, .int 1]) (rest := []) ⟨hx, hb, hml, hown, hts⟩ tbin (m_Model_fails_1 l dC dI sb γ κ Ad τ gT G mo _ _ _ _ _ _ _ _ _ _ _ _ _ _ _ _ _ _ _ _ _ _ _ _ _ _ _ _ _ _ _ _ s.heap.size hTy (by have h9 := kmo; rw [eX_mo] at h9; exact h9) (by decide)) q8_79 q8_81 qp_36 q1_9 q8_82 (n := 2) (by decide +kernel) rfl ⟨rfl, rfl⟩ ⟨Nat.le_of_ble_eq_true rfl, Nat.le_of_ble_eq_true rfl⟩ ⟨Nat.le_of_ble_eq_true rfl, Nat.le_of_ble_eq_true rfl⟩ hN (hT0.keep hS hAs) hAs (Nat.le_trans hB0 hS.1) hK hP hD (List.range G.length) (rg_nd _) (rg_is _) [0, 1, 2, 3, 4] rfl i_1 12 hg_1 rfl rfl hl.1 rfl (Nat.le_of_ble_eq_true rfl) d_Model_store_57) hS (fun q _ h => hFc q h) hFc (fun r57 G_8 tS H57 locs ht hvm hw57 hB hz1 hk1 hS => ?_)
          obtain ⟨hTy, hF9, hr57⟩ := hw57
          have hFR := hFR.tr (hF9.up (q_gac (by simp) (q_gan)))
          obtain ⟨hP1, hK1, hD1⟩ := hB
          rw [ht] at hP1
          have hP : va_P (dC, dI) classes G_8 H57 := hP1
          have hD : va_D A G_8 := hD1.weaken (fun _ _ _ h => hFc _ h)
          obtain ⟨hq57, kmo⟩ := hr57
          subst hq57
          obtain ⟨cX_9, eX_9⟩ : ∃ z : va_E, z = .inr (12, (.int 1 :: .int (nI fd) :: .int mwr :: .int (nI K9) :: .int (nI KL) :: .ref moc :: .ref msT :: .ref mrV :: .ref msP :: .int mqs :: .ref mrA :: .ref mbA :: .ref mwA :: .ref mhA :: .ref mfA :: .ref mpA :: .ref mxA :: .ref myA :: .ref mmA :: .ref mqA :: .ref mzA :: .ref mwy :: .ref mfd :: .int msz :: .int (nI cz) :: .int mch :: .int mft :: .int mpt :: .int mdp :: .int mvd :: .long mnw :: .int mmk :: [])) := ⟨_, rfl⟩
          rw [← eX_9] at kmo
          refine lv_if_eq (tgt := 65) hx hb d_Model_store_60 (by decide) (fun c60 => ?_) (fun c60 => ?_)
          · exact absurd c60 (by decide)
          refine lv_iconst (v := -1) hx hb d_Model_store_63 (by decide) ?_
          exact W.iret (v := -1) hx hb hr (fun t ht hW => ⟨⟨_, G_8, rfl, ⟨hTy, hFR, rfl, (by rw [eX_9] at kmo; exact kmo)⟩, by rw [ht]; exact hP, va_K.moved hW.alike hK, hD⟩, hS.F ht⟩) hS.2.2 d_Model_store_64
set_option maxHeartbeats 4000000 in
set_option maxRecDepth 100000 in
theorem m_Model_certificate_1 (l : Launch) (dC : Nat → ClassId) (dI : Nat → Nat → Nat) (sb : sB) (γ : cG) (κ : kE) (Ad : List Nat) (τ : Nat → TD) (gT : ClassId) (G : va_W) (mo : Nat) (moc msT mrV msP mrA mbA mwA mhA mfA mpA mxA myA mmA mqA mzA mwy mfd : Nat) (mer mwr mqs msz mch mft mpt mdp mvd mmk : Int32) (mnw : Int64) (K9 KL cz fd : Nat) (ci tr : Int32) (sz : Nat) (hTy : TR γ κ Ad τ G) (kmo : Xc Ad mo (.inr (12, (.int mer :: .int (nI fd) :: .int mwr :: .int (nI K9) :: .int (nI KL) :: .ref moc :: .ref msT :: .ref mrV :: .ref msP :: .int mqs :: .ref mrA :: .ref mbA :: .ref mwA :: .ref mhA :: .ref mfA :: .ref mpA :: .ref mxA :: .ref myA :: .ref mmA :: .ref mqA :: .ref mzA :: .ref mwy :: .ref mfd :: .int msz :: .int (nI cz) :: .int mch :: .int mft :: .int mpt :: .int mdp :: .int mvd :: .long mnw :: .int mmk :: []))) G) (hbad : ¬ (¬ ci < 0 ∧ ci ≤ 2048 ∧ ci ≤ nI fd ∧ K9 < 16)) (hcap : K9 ≤ 16) : Met l y_Model_certificate w_Model_certificate ({ frames := 15, cells := 0, slots := 0, locals := 353 }) (mu_P [.ref mo, .int ci, .int tr] (dC, dI) sb G [(γ.1, .byte), (γ.2.1, .int), (γ.2.2.1, .long), (γ.2.2.2, .object "java/lang/Object"), (gT, .object "TrustChainModel$Text")] sz) (va_Qi (fun r (G' : va_W) => TR γ κ Ad τ G' ∧ FL Ad [mo] G G' ∧ (r = 0 ∧ Xc Ad mo (.inr (12, (.int 1 :: .int (nI fd) :: .int mwr :: .int (nI K9) :: .int (nI KL) :: .ref moc :: .ref msT :: .ref mrV :: .ref msP :: .int mqs :: .ref mrA :: .ref mbA :: .ref mwA :: .ref mhA :: .ref mfA :: .ref mpA :: .ref mxA :: .ref myA :: .ref mmA :: .ref mqA :: .ref mzA :: .ref mwy :: .ref mfd :: .int msz :: .int (nI cz) :: .int mch :: .int mft :: .int mpt :: .int mdp :: .int mvd :: .long mnw :: .int mmk :: []))) G')) (mu_B (dC, dI) [(γ.1, .byte), (γ.2.1, .int), (γ.2.2.1, .long), (γ.2.2.2, .object "java/lang/Object"), (gT, .object "TrustChainModel$Text")] (va_A G sz) (fun G' : va_W => G')) (va_A G sz)) 0 0 (va_A G sz) := by
  refine Met.ofW (cc := b_Model_certificate) (maxL := 4) (ret := (some FieldType.int)) (by decide) rfl ?_
  intro p e s m args below meth c s₁ B hml hv
  obtain ⟨rfl, hsz, hB0, hP, hK, hD0, hN, hT0⟩ := hv
  have hx := B.exec
  have hb := B.bytes
  have hr := B.returns
  have hts := atoms_spec (ws := w_Model_certificate) B.pre
  have tbin : ∀ w ∈ tb, w ∈ w_Model_certificate := fun w h => List.mem_cons_of_mem _ h
  have htb : ∀ w ∈ tb, w.before _ s = true := fun w h => hts w (tbin w h)
  have hown : s.vm.findClass "TrustChainModel" = some m.cls := findClass_of_methodNamed B.named
  have hlocks := B.notSynchronized
  subst hsz
  have hD := hD0.self (sz := s.heap.size)
  generalize hAe : va_A G s.heap.size = A at hD ⊢
  have hA : ∀ q : Nat, s.heap.size ≤ q → A q := fun q h => by rw [← hAe]; exact Or.inr h
  have hAs : ∀ q : Nat, A q → sb.1 ≤ q := fun q h => by
    rw [← hAe] at h
    rcases h with ⟨k, e, h⟩ | h
    · exact hD0.2 k _ h
    · exact Nat.le_trans hB0 h
  have hS : va_S A s.heap s.heap [] := va_S.rf
  have hFR := FL.rf Ad [mo] G
  have hcs : 0 ≤ (headSpec w_Model_certificate ({ frames := 15, cells := 0, slots := 0, locals := 353 })).room.cells ∧ 0 ≤ (headSpec w_Model_certificate ({ frames := 15, cells := 0, slots := 0, locals := 353 })).room.slots := ⟨Nat.le_refl _, Nat.le_refl _⟩
  have hP : va_P (dC, dI) classes G s.heap := hP
  have hl := lv_entry ([.ref mo, .int ci, .int tr]) (n := 4) (Nat.le_of_ble_eq_true rfl)
  rw [lg_entry_eq]
  generalize (lg_sl ([.ref mo, .int ci, .int tr]) ++ List.replicate (4 - (lg_sl ([.ref mo, .int ci, .int tr])).length) Slot.unset).toArray = ls at hl ⊢
  have hl : lv_has ls 4 [(0, .ref mo), (1, .int ci), (2, .int tr)] := hl
  obtain ⟨cX_mo, eX_mo⟩ : ∃ z : va_E, z = .inr (12, (.int mer :: .int (nI fd) :: .int mwr :: .int (nI K9) :: .int (nI KL) :: .ref moc :: .ref msT :: .ref mrV :: .ref msP :: .int mqs :: .ref mrA :: .ref mbA :: .ref mwA :: .ref mhA :: .ref mfA :: .ref mpA :: .ref mxA :: .ref myA :: .ref mmA :: .ref mqA :: .ref mzA :: .ref mwy :: .ref mfd :: .int msz :: .int (nI cz) :: .int mch :: .int mft :: .int mpt :: .int mdp :: .int mvd :: .long mnw :: .int mmk :: [])) := ⟨_, rfl⟩
  rw [← eX_mo] at kmo
  refine lv_aload_n hx hb d_Model_certificate_0 rfl (lv_at hl 0 rfl) ?_
  refine lv_iconst (v := 0) hx hb d_Model_certificate_1 (by decide) ?_
  obtain ⟨i_1, hg_1⟩ := List.getElem?_of_mem kmo.2
  rw [eX_mo] at hg_1
  refine va_put (v := .int 0) (ty := .int) hx hb htb i_Model t_Model t_Model_ok n_Model hown hK hP hD hS i_1 hg_1 rfl 0 (by decide) (htb _ q7_214) (fun _ h9 => h9) rfl (by decide +kernel) rfl rfl (Nat.le_of_ble_eq_true rfl) d_Model_certificate_2 (fun H2 locs hP hD2 hS => ?_)
  have hP : va_P (dC, dI) classes (G.set i_1 (mo, .inr (12, (.int 0 :: .int (nI fd) :: .int mwr :: .int (nI K9) :: .int (nI KL) :: .ref moc :: .ref msT :: .ref mrV :: .ref msP :: .int mqs :: .ref mrA :: .ref mbA :: .ref mwA :: .ref mhA :: .ref mfA :: .ref mpA :: .ref mxA :: .ref myA :: .ref mmA :: .ref mqA :: .ref mzA :: .ref mwy :: .ref mfd :: .int msz :: .int (nI cz) :: .int mch :: .int mft :: .int mpt :: .int mdp :: .int mvd :: .long mnw :: .int mmk :: [])))) H2 := hP
  have hD3 : va_D A (G.set i_1 (mo, .inr (12, (.int 0 :: .int (nI fd) :: .int mwr :: .int (nI K9) :: .int (nI KL) :: .ref moc :: .ref msT :: .ref mrV :: .ref msP :: .int mqs :: .ref mrA :: .ref mbA :: .ref mwA :: .ref mhA :: .ref mfA :: .ref mpA :: .ref mxA :: .ref myA :: .ref mmA :: .ref mqA :: .ref mzA :: .ref mwy :: .ref mfd :: .int msz :: .int (nI cz) :: .int mch :: .int mft :: .int mpt :: .int mdp :: .int mvd :: .long mnw :: .int mmk :: [])))) := hD2
  have hTy := TR.setX (c' := .inr (12, (.int 0 :: .int (nI fd) :: .int mwr :: .int (nI K9) :: .int (nI KL) :: .ref moc :: .ref msT :: .ref mrV :: .ref msP :: .int mqs :: .ref mrA :: .ref mbA :: .ref mwA :: .ref mhA :: .ref mfA :: .ref mpA :: .ref mxA :: .ref myA :: .ref mmA :: .ref mqA :: .ref mzA :: .ref mwy :: .ref mfd :: .int msz :: .int (nI cz) :: .int mch :: .int mft :: .int mpt :: .int mdp :: .int mvd :: .long mnw :: .int mmk :: []))) hTy hg_1 kmo.1
  have hFR := hFR.tr (FL.set (Ad := Ad) (X := [mo]) (c' := .inr (12, (.int 0 :: .int (nI fd) :: .int mwr :: .int (nI K9) :: .int (nI KL) :: .ref moc :: .ref msT :: .ref mrV :: .ref msP :: .int mqs :: .ref mrA :: .ref mbA :: .ref mwA :: .ref mhA :: .ref mfA :: .ref mpA :: .ref mxA :: .ref myA :: .ref mmA :: .ref mqA :: .ref mzA :: .ref mwy :: .ref mfd :: .int msz :: .int (nI cz) :: .int mch :: .int mft :: .int mpt :: .int mdp :: .int mvd :: .long mnw :: .int mmk :: []))) hg_1 (by simp))
  have hg_1 := set_here (c' := .inr (12, (.int 0 :: .int (nI fd) :: .int mwr :: .int (nI K9) :: .int (nI KL) :: .ref moc :: .ref msT :: .ref mrV :: .ref msP :: .int mqs :: .ref mrA :: .ref mbA :: .ref mwA :: .ref mhA :: .ref mfA :: .ref mpA :: .ref mxA :: .ref myA :: .ref mmA :: .ref mqA :: .ref mzA :: .ref mwy :: .ref mfd :: .int msz :: .int (nI cz) :: .int mch :: .int mft :: .int mpt :: .int mdp :: .int mvd :: .long mnw :: .int mmk :: []))) hg_1
  have kmo : Xc Ad mo (.inr (12, (.int 0 :: .int (nI fd) :: .int mwr :: .int (nI K9) :: .int (nI KL) :: .ref moc :: .ref msT :: .ref mrV :: .ref msP :: .int mqs :: .ref mrA :: .ref mbA :: .ref mwA :: .ref mhA :: .ref mfA :: .ref mpA :: .ref mxA :: .ref myA :: .ref mmA :: .ref mqA :: .ref mzA :: .ref mwy :: .ref mfd :: .int msz :: .int (nI cz) :: .int mch :: .int mft :: .int mpt :: .int mdp :: .int mvd :: .long mnw :: .int mmk :: []))) (G.set i_1 (mo, .inr (12, (.int 0 :: .int (nI fd) :: .int mwr :: .int (nI K9) :: .int (nI KL) :: .ref moc :: .ref msT :: .ref mrV :: .ref msP :: .int mqs :: .ref mrA :: .ref mbA :: .ref mwA :: .ref mhA :: .ref mfA :: .ref mpA :: .ref mxA :: .ref myA :: .ref mmA :: .ref mqA :: .ref mzA :: .ref mwy :: .ref mfd :: .int msz :: .int (nI cz) :: .int mch :: .int mft :: .int mpt :: .int mdp :: .int mvd :: .long mnw :: .int mmk :: [])))) := ⟨kmo.1, List.mem_of_getElem? hg_1⟩
  have hD := hD3
  clear hD3 hD2
  generalize G.set i_1 (mo, .inr (12, (.int 0 :: .int (nI fd) :: .int mwr :: .int (nI K9) :: .int (nI KL) :: .ref moc :: .ref msT :: .ref mrV :: .ref msP :: .int mqs :: .ref mrA :: .ref mbA :: .ref mwA :: .ref mhA :: .ref mfA :: .ref mpA :: .ref mxA :: .ref myA :: .ref mmA :: .ref mqA :: .ref mzA :: .ref mwy :: .ref mfd :: .int msz :: .int (nI cz) :: .int mch :: .int mft :: .int mpt :: .int mdp :: .int mvd :: .long mnw :: .int mmk :: []))) = G_2 at hP hD hTy hFR kmo hg_1
  obtain ⟨cX_3, eX_3⟩ : ∃ z : va_E, z = .inr (12, (.int 0 :: .int (nI fd) :: .int mwr :: .int (nI K9) :: .int (nI KL) :: .ref moc :: .ref msT :: .ref mrV :: .ref msP :: .int mqs :: .ref mrA :: .ref mbA :: .ref mwA :: .ref mhA :: .ref mfA :: .ref mpA :: .ref mxA :: .ref myA :: .ref mmA :: .ref mqA :: .ref mzA :: .ref mwy :: .ref mfd :: .int msz :: .int (nI cz) :: .int mch :: .int mft :: .int mpt :: .int mdp :: .int mvd :: .long mnw :: .int mmk :: [])) := ⟨_, rfl⟩
  rw [← eX_3] at kmo
  refine lv_aload_n hx hb d_Model_certificate_5 rfl (lv_at hl 0 rfl) ?_
  refine lv_iload_n hx hb d_Model_certificate_6 rfl (lv_at hl 1 rfl) ?_
  refine lv_iconst (v := 0) hx hb d_Model_certificate_7 (by decide) ?_
  have hFc := va_free (wc := G_2) hD hS hA (List.range G_2.length) (rg_is _)
  refine va_calli (mu_runV (As := [.int ci, .int 0]) (rest := []) ⟨hx, hb, hml, hown, hts⟩ tbin (m_Model_store_b0 l dC dI sb γ κ Ad τ gT G_2 mo _ _ _ _ _ _ _ _ _ _ _ _ _ _ _ _ _ _ _ _ _ _ _ _ _ _ _ _ _ _ _ _ H2.size hTy (by have h9 := kmo; rw [eX_3] at h9; exact h9) hbad hcap) q8_87 q8_89 qp_37 q1_9 q8_90 (n := 2) (by decide +kernel) rfl ⟨rfl, rfl⟩ ⟨Nat.le_of_ble_eq_true rfl, Nat.le_of_ble_eq_true rfl⟩ ⟨Nat.le_of_ble_eq_true rfl, Nat.le_of_ble_eq_true rfl⟩ hN (hT0.keep hS hAs) hAs (Nat.le_trans hB0 hS.1) hK hP hD (List.range G_2.length) (rg_nd _) (rg_is _) [0, 1, 2, 3, 4] rfl i_1 12 hg_1 rfl rfl hl.1 rfl (Nat.le_of_ble_eq_true rfl) d_Model_certificate_8) hS (fun q _ h => hFc q h) hFc (fun r8 G_4 tS H8 locs ht hvm hw8 hB hz1 hk1 hS => ?_)
  obtain ⟨hTy, hF9, hr8⟩ := hw8
  have hFR := hFR.tr (hF9.up (q_gac (by simp) (q_gan)))
  obtain ⟨hP1, hK1, hD1⟩ := hB
  rw [ht] at hP1
  have hP : va_P (dC, dI) classes G_4 H8 := hP1
  have hD : va_D A G_4 := hD1.weaken (fun _ _ _ h => hFc _ h)
  obtain ⟨hq8, kmo⟩ := hr8
  subst hq8
  obtain ⟨cX_5, eX_5⟩ : ∃ z : va_E, z = .inr (12, (.int 1 :: .int (nI fd) :: .int mwr :: .int (nI K9) :: .int (nI KL) :: .ref moc :: .ref msT :: .ref mrV :: .ref msP :: .int mqs :: .ref mrA :: .ref mbA :: .ref mwA :: .ref mhA :: .ref mfA :: .ref mpA :: .ref mxA :: .ref myA :: .ref mmA :: .ref mqA :: .ref mzA :: .ref mwy :: .ref mfd :: .int msz :: .int (nI cz) :: .int mch :: .int mft :: .int mpt :: .int mdp :: .int mvd :: .long mnw :: .int mmk :: [])) := ⟨_, rfl⟩
  rw [← eX_5] at kmo
  refine lv_istore_n (lv' := [(3, .int (-1)), (0, .ref mo), (1, .int ci), (2, .int tr)]) hx hb d_Model_certificate_11 rfl hl (by decide) rfl (fun ls hl => ?_)
  refine lv_iload_n hx hb d_Model_certificate_12 rfl (lv_at hl 0 rfl) ?_
  refine lv_if_ge (tgt := 18) hx hb d_Model_certificate_13 (by decide) (fun c13 => ?_) (fun c13 => ?_)
  · exact absurd c13 (by decide)
  refine lv_iconst (v := 0) hx hb d_Model_certificate_16 (by decide) ?_
  exact W.iret (v := 0) hx hb hr (fun t ht hW => ⟨⟨_, G_4, rfl, ⟨hTy, hFR, rfl, (by rw [eX_5] at kmo; exact kmo)⟩, by rw [ht]; exact hP, va_K.moved hW.alike hK, hD⟩, hS.F ht⟩) hS.2.2 d_Model_certificate_17
set_option maxHeartbeats 4000000 in
set_option maxRecDepth 100000 in
theorem m_Model_store_b1 (l : Launch) (dC : Nat → ClassId) (dI : Nat → Nat → Nat) (sb : sB) (γ : cG) (κ : kE) (Ad : List Nat) (τ : Nat → TD) (gT : ClassId) (G : va_W) (mo : Nat) (moc msT mrV msP mrA mbA mwA mhA mfA mpA mxA myA mmA mqA mzA mwy mfd : Nat) (mwr mqs msz mch mft mpt mdp mvd mmk : Int32) (mnw : Int64) (K9 KL cz fd : Nat) (ci : Int32) (sz : Nat) (hTy : TR γ κ Ad τ G) (kmo : Xc Ad mo (.inr (12, (.int 0 :: .int (nI fd) :: .int mwr :: .int (nI K9) :: .int (nI KL) :: .ref moc :: .ref msT :: .ref mrV :: .ref msP :: .int mqs :: .ref mrA :: .ref mbA :: .ref mwA :: .ref mhA :: .ref mfA :: .ref mpA :: .ref mxA :: .ref myA :: .ref mmA :: .ref mqA :: .ref mzA :: .ref mwy :: .ref mfd :: .int msz :: .int (nI cz) :: .int mch :: .int mft :: .int mpt :: .int mdp :: .int mvd :: .long mnw :: .int mmk :: []))) G) (hbad : ¬ (¬ ci < 0 ∧ ci ≤ 2048 ∧ ci ≤ nI fd ∧ KL < 8)) (hcap : KL ≤ 8) : Met l y_Model_store w_Model_store ({ frames := 14, cells := 0, slots := 0, locals := 328 }) (mu_P [.ref mo, .int ci, .int 1] (dC, dI) sb G [(γ.1, .byte), (γ.2.1, .int), (γ.2.2.1, .long), (γ.2.2.2, .object "java/lang/Object"), (gT, .object "TrustChainModel$Text")] sz) (va_Qi (fun r (G' : va_W) => TR γ κ Ad τ G' ∧ FL Ad [mo] G G' ∧ (r = -1 ∧ Xc Ad mo (.inr (12, (.int 1 :: .int (nI fd) :: .int mwr :: .int (nI K9) :: .int (nI KL) :: .ref moc :: .ref msT :: .ref mrV :: .ref msP :: .int mqs :: .ref mrA :: .ref mbA :: .ref mwA :: .ref mhA :: .ref mfA :: .ref mpA :: .ref mxA :: .ref myA :: .ref mmA :: .ref mqA :: .ref mzA :: .ref mwy :: .ref mfd :: .int msz :: .int (nI cz) :: .int mch :: .int mft :: .int mpt :: .int mdp :: .int mvd :: .long mnw :: .int mmk :: []))) G')) (mu_B (dC, dI) [(γ.1, .byte), (γ.2.1, .int), (γ.2.2.1, .long), (γ.2.2.2, .object "java/lang/Object"), (gT, .object "TrustChainModel$Text")] (va_A G sz) (fun G' : va_W => G')) (va_A G sz)) 0 0 (va_A G sz) := by
  refine Met.ofW (cc := b_Model_store) (maxL := 6) (ret := (some FieldType.int)) (by decide) rfl ?_
  intro p e s m args below meth c s₁ B hml hv
  obtain ⟨rfl, hsz, hB0, hP, hK, hD0, hN, hT0⟩ := hv
  have hx := B.exec
  have hb := B.bytes
  have hr := B.returns
  have hts := atoms_spec (ws := w_Model_store) B.pre
  have tbin : ∀ w ∈ tb, w ∈ w_Model_store := fun w h => List.mem_cons_of_mem _ h
  have htb : ∀ w ∈ tb, w.before _ s = true := fun w h => hts w (tbin w h)
  have hown : s.vm.findClass "TrustChainModel" = some m.cls := findClass_of_methodNamed B.named
  have hlocks := B.notSynchronized
  subst hsz
  have hD := hD0.self (sz := s.heap.size)
  generalize hAe : va_A G s.heap.size = A at hD ⊢
  have hA : ∀ q : Nat, s.heap.size ≤ q → A q := fun q h => by rw [← hAe]; exact Or.inr h
  have hAs : ∀ q : Nat, A q → sb.1 ≤ q := fun q h => by
    rw [← hAe] at h
    rcases h with ⟨k, e, h⟩ | h
    · exact hD0.2 k _ h
    · exact Nat.le_trans hB0 h
  have hS : va_S A s.heap s.heap [] := va_S.rf
  have hFR := FL.rf Ad [mo] G
  have hcs : 0 ≤ (headSpec w_Model_store ({ frames := 14, cells := 0, slots := 0, locals := 328 })).room.cells ∧ 0 ≤ (headSpec w_Model_store ({ frames := 14, cells := 0, slots := 0, locals := 328 })).room.slots := ⟨Nat.le_refl _, Nat.le_refl _⟩
  have hP : va_P (dC, dI) classes G s.heap := hP
  have hl := lv_entry ([.ref mo, .int ci, .int 1]) (n := 6) (Nat.le_of_ble_eq_true rfl)
  rw [lg_entry_eq]
  generalize (lg_sl ([.ref mo, .int ci, .int 1]) ++ List.replicate (6 - (lg_sl ([.ref mo, .int ci, .int 1])).length) Slot.unset).toArray = ls at hl ⊢
  have hl : lv_has ls 6 [(0, .ref mo), (1, .int ci), (2, .int 1)] := hl
  obtain ⟨cX_mo, eX_mo⟩ : ∃ z : va_E, z = .inr (12, (.int 0 :: .int (nI fd) :: .int mwr :: .int (nI K9) :: .int (nI KL) :: .ref moc :: .ref msT :: .ref mrV :: .ref msP :: .int mqs :: .ref mrA :: .ref mbA :: .ref mwA :: .ref mhA :: .ref mfA :: .ref mpA :: .ref mxA :: .ref myA :: .ref mmA :: .ref mqA :: .ref mzA :: .ref mwy :: .ref mfd :: .int msz :: .int (nI cz) :: .int mch :: .int mft :: .int mpt :: .int mdp :: .int mvd :: .long mnw :: .int mmk :: [])) := ⟨_, rfl⟩
  rw [← eX_mo] at kmo
  refine lv_iload_n hx hb d_Model_store_0 rfl (lv_at hl 2 rfl) ?_
  refine lv_if_eq (tgt := 11) hx hb d_Model_store_1 (by decide) (fun c1 => ?_) (fun c1 => ?_)
  · exact absurd c1 (by decide)
  refine lv_aload_n hx hb d_Model_store_4 rfl (lv_at hl 0 rfl) ?_
  obtain ⟨i_1, hg_1⟩ := List.getElem?_of_mem kmo.2
  rw [eX_mo] at hg_1
  refine va_get (v := .int (nI KL)) hx hb htb i_Model hown hK hP i_1 hg_1 rfl 4 (by decide) (htb _ q7_218) (fun _ h9 => h9) rfl d_Model_store_5 ?_
  refine lv_goto (tgt := 15) hx hb d_Model_store_8 (by decide) ?_
  refine lv_istore_n (lv' := [(3, .int (nI KL)), (0, .ref mo), (1, .int ci), (2, .int 1)]) hx hb d_Model_store_15 rfl hl (by decide) rfl (fun ls hl => ?_)
  refine lv_aload_n hx hb d_Model_store_16 rfl (lv_at hl 1 rfl) ?_
  refine lv_iload_n hx hb d_Model_store_17 rfl (lv_at hl 2 rfl) ?_
  refine lv_if_lt (tgt := 51) hx hb d_Model_store_18 (by decide) (fun c18 => ?_) (fun c18 => ?_)
  · have p18 : ci < (0 : Int32) := c18
    refine lv_iconst (v := 1) hx hb d_Model_store_51 (by decide) ?_
    refine lv_goto (tgt := 56) hx hb d_Model_store_52 (by decide) ?_
    refine lv_iconst (v := 1) hx hb d_Model_store_56 (by decide) ?_
    have hFc := va_free (wc := G) hD hS hA (List.range G.length) (rg_is _)
    refine va_calli (mu_runV (As := [.int 1, .int 1]) (rest := []) ⟨hx, hb, hml, hown, hts⟩ tbin (m_Model_fails_1 l dC dI sb γ κ Ad τ gT G mo _ _ _ _ _ _ _ _ _ _ _ _ _ _ _ _ _ _ _ _ _ _ _ _ _ _ _ _ _ _ _ _ s.heap.size hTy (by have h9 := kmo; rw [eX_mo] at h9; exact h9) (by decide)) q8_79 q8_81 qp_36 q1_9 q8_82 (n := 2) (by decide +kernel) rfl ⟨rfl, rfl⟩ ⟨Nat.le_of_ble_eq_true rfl, Nat.le_of_ble_eq_true rfl⟩ ⟨Nat.le_of_ble_eq_true rfl, Nat.le_of_ble_eq_true rfl⟩ hN (hT0.keep hS hAs) hAs (Nat.le_trans hB0 hS.1) hK hP hD (List.range G.length) (rg_nd _) (rg_is _) [0, 1, 2, 3, 4] rfl i_1 12 hg_1 rfl rfl hl.1 rfl (Nat.le_of_ble_eq_true rfl) d_Model_store_57) hS (fun q _ h => hFc q h) hFc (fun r57 G_2 tS H57 locs ht hvm hw57 hB hz1 hk1 hS => ?_)
    obtain ⟨hTy, hF9, hr57⟩ := hw57
    have hFR := hFR.tr (hF9.up (q_gac (by simp) (q_gan)))
    obtain ⟨hP1, hK1, hD1⟩ := hB
    rw [ht] at hP1
    have hP : va_P (dC, dI) classes G_2 H57 := hP1
    have hD : va_D A G_2 := hD1.weaken (fun _ _ _ h => hFc _ h)
    obtain ⟨hq57, kmo⟩ := hr57
    subst hq57
    obtain ⟨cX_3, eX_3⟩ : ∃ z : va_E, z = .inr (12, (.int 1 :: .int (nI fd) :: .int mwr :: .int (nI K9) :: .int (nI KL) :: .ref moc :: .ref msT :: .ref mrV :: .ref msP :: .int mqs :: .ref mrA :: .ref mbA :: .ref mwA :: .ref mhA :: .ref mfA :: .ref mpA :: .ref mxA :: .ref myA :: .ref mmA :: .ref mqA :: .ref mzA :: .ref mwy :: .ref mfd :: .int msz :: .int (nI cz) :: .int mch :: .int mft :: .int mpt :: .int mdp :: .int mvd :: .long mnw :: .int mmk :: [])) := ⟨_, rfl⟩
    rw [← eX_3] at kmo
    refine lv_if_eq (tgt := 65) hx hb d_Model_store_60 (by decide) (fun c60 => ?_) (fun c60 => ?_)
    · exact absurd c60 (by decide)
    refine lv_iconst (v := -1) hx hb d_Model_store_63 (by decide) ?_
    exact W.iret (v := -1) hx hb hr (fun t ht hW => ⟨⟨_, G_2, rfl, ⟨hTy, hFR, rfl, (by rw [eX_3] at kmo; exact kmo)⟩, by rw [ht]; exact hP, va_K.moved hW.alike hK, hD⟩, hS.F ht⟩) hS.2.2 d_Model_store_64
  · have p18 : ¬ (ci < (0 : Int32)) := c18
    refine lv_iload_n hx hb d_Model_store_21 rfl (lv_at hl 2 rfl) ?_
    refine lv_sipush (v := 2048) hx hb d_Model_store_22 (by decide) ?_
    refine lv_icmp_gt (tgt := 51) hx hb d_Model_store_25 (by decide) (fun c25 => ?_) (fun c25 => ?_)
    · have p25 : (2048 : Int32) < ci := c25
      refine lv_iconst (v := 1) hx hb d_Model_store_51 (by decide) ?_
      refine lv_goto (tgt := 56) hx hb d_Model_store_52 (by decide) ?_
      refine lv_iconst (v := 1) hx hb d_Model_store_56 (by decide) ?_
      have hFc := va_free (wc := G) hD hS hA (List.range G.length) (rg_is _)
      refine va_calli (mu_runV (As := [.int 1, .int 1]) (rest := []) ⟨hx, hb, hml, hown, hts⟩ tbin (m_Model_fails_1 l dC dI sb γ κ Ad τ gT G mo _ _ _ _ _ _ _ _ _ _ _ _ _ _ _ _ _ _ _ _ _ _ _ _ _ _ _ _ _ _ _ _ s.heap.size hTy (by have h9 := kmo; rw [eX_mo] at h9; exact h9) (by decide)) q8_79 q8_81 qp_36 q1_9 q8_82 (n := 2) (by decide +kernel) rfl ⟨rfl, rfl⟩ ⟨Nat.le_of_ble_eq_true rfl, Nat.le_of_ble_eq_true rfl⟩ ⟨Nat.le_of_ble_eq_true rfl, Nat.le_of_ble_eq_true rfl⟩ hN (hT0.keep hS hAs) hAs (Nat.le_trans hB0 hS.1) hK hP hD (List.range G.length) (rg_nd _) (rg_is _) [0, 1, 2, 3, 4] rfl i_1 12 hg_1 rfl rfl hl.1 rfl (Nat.le_of_ble_eq_true rfl) d_Model_store_57) hS (fun q _ h => hFc q h) hFc (fun r57 G_4 tS H57 locs ht hvm hw57 hB hz1 hk1 hS => ?_)
      obtain ⟨hTy, hF9, hr57⟩ := hw57
      have hFR := hFR.tr (hF9.up (q_gac (by simp) (q_gan)))
      obtain ⟨hP1, hK1, hD1⟩ := hB
      rw [ht] at hP1
      have hP : va_P (dC, dI) classes G_4 H57 := hP1
      have hD : va_D A G_4 := hD1.weaken (fun _ _ _ h => hFc _ h)
      obtain ⟨hq57, kmo⟩ := hr57
      subst hq57
      obtain ⟨cX_5, eX_5⟩ : ∃ z : va_E, z = .inr (12, (.int 1 :: .int (nI fd) :: .int mwr :: .int (nI K9) :: .int (nI KL) :: .ref moc :: .ref msT :: .ref mrV :: .ref msP :: .int mqs :: .ref mrA :: .ref mbA :: .ref mwA :: .ref mhA :: .ref mfA :: .ref mpA :: .ref mxA :: .ref myA :: .ref mmA :: .ref mqA :: .ref mzA :: .ref mwy :: .ref mfd :: .int msz :: .int (nI cz) :: .int mch :: .int mft :: .int mpt :: .int mdp :: .int mvd :: .long mnw :: .int mmk :: [])) := ⟨_, rfl⟩
      rw [← eX_5] at kmo
      refine lv_if_eq (tgt := 65) hx hb d_Model_store_60 (by decide) (fun c60 => ?_) (fun c60 => ?_)
      · exact absurd c60 (by decide)
      refine lv_iconst (v := -1) hx hb d_Model_store_63 (by decide) ?_
      exact W.iret (v := -1) hx hb hr (fun t ht hW => ⟨⟨_, G_4, rfl, ⟨hTy, hFR, rfl, (by rw [eX_5] at kmo; exact kmo)⟩, by rw [ht]; exact hP, va_K.moved hW.alike hK, hD⟩, hS.F ht⟩) hS.2.2 d_Model_store_64
    · have p25 : ¬ ((2048 : Int32) < ci) := c25
      refine lv_iload_n hx hb d_Model_store_28 rfl (lv_at hl 2 rfl) ?_
      refine lv_aload_n hx hb d_Model_store_29 rfl (lv_at hl 1 rfl) ?_
      refine va_get (v := .int (nI fd)) hx hb htb i_Model hown hK hP i_1 hg_1 rfl 1 (by decide) (htb _ q7_215) (fun _ h9 => h9) rfl d_Model_store_30 ?_
      refine lv_icmp_gt (tgt := 51) hx hb d_Model_store_33 (by decide) (fun c33 => ?_) (fun c33 => ?_)
      · have p33 : (nI fd) < ci := c33
        refine lv_iconst (v := 1) hx hb d_Model_store_51 (by decide) ?_
        refine lv_goto (tgt := 56) hx hb d_Model_store_52 (by decide) ?_
        refine lv_iconst (v := 1) hx hb d_Model_store_56 (by decide) ?_
        have hFc := va_free (wc := G) hD hS hA (List.range G.length) (rg_is _)
        refine va_calli (mu_runV (As := [.int 1, .int 1]) (rest := []) ⟨hx, hb, hml, hown, hts⟩ tbin (m_Model_fails_1 l dC dI sb γ κ Ad τ gT G mo _ _ _ _ _ _ _ _ _ _ _ _ _ _ _ _ _ _ _ _ _ _ _ _ _ _ _ _ _ _ _ _ s.heap.size hTy (by have h9 := kmo; rw [eX_mo] at h9; exact h9) (by decide)) q8_79 q8_81 qp_36 q1_9 q8_82 (n := 2) (by decide +kernel) rfl ⟨rfl, rfl⟩ ⟨Nat.le_of_ble_eq_true rfl, Nat.le_of_ble_eq_true rfl⟩ ⟨Nat.le_of_ble_eq_true rfl, Nat.le_of_ble_eq_true rfl⟩ hN (hT0.keep hS hAs) hAs (Nat.le_trans hB0 hS.1) hK hP hD (List.range G.length) (rg_nd _) (rg_is _) [0, 1, 2, 3, 4] rfl i_1 12 hg_1 rfl rfl hl.1 rfl (Nat.le_of_ble_eq_true rfl) d_Model_store_57) hS (fun q _ h => hFc q h) hFc (fun r57 G_6 tS H57 locs ht hvm hw57 hB hz1 hk1 hS => ?_)
        obtain ⟨hTy, hF9, hr57⟩ := hw57
        have hFR := hFR.tr (hF9.up (q_gac (by simp) (q_gan)))
        obtain ⟨hP1, hK1, hD1⟩ := hB
        rw [ht] at hP1
        have hP : va_P (dC, dI) classes G_6 H57 := hP1
        have hD : va_D A G_6 := hD1.weaken (fun _ _ _ h => hFc _ h)
        obtain ⟨hq57, kmo⟩ := hr57
        subst hq57
        obtain ⟨cX_7, eX_7⟩ : ∃ z : va_E, z = .inr (12, (.int 1 :: .int (nI fd) :: .int mwr :: .int (nI K9) :: .int (nI KL) :: .ref moc :: .ref msT :: .ref mrV :: .ref msP :: .int mqs :: .ref mrA :: .ref mbA :: .ref mwA :: .ref mhA :: .ref mfA :: .ref mpA :: .ref mxA :: .ref myA :: .ref mmA :: .ref mqA :: .ref mzA :: .ref mwy :: .ref mfd :: .int msz :: .int (nI cz) :: .int mch :: .int mft :: .int mpt :: .int mdp :: .int mvd :: .long mnw :: .int mmk :: [])) := ⟨_, rfl⟩
        rw [← eX_7] at kmo
        refine lv_if_eq (tgt := 65) hx hb d_Model_store_60 (by decide) (fun c60 => ?_) (fun c60 => ?_)
        · exact absurd c60 (by decide)
        refine lv_iconst (v := -1) hx hb d_Model_store_63 (by decide) ?_
        exact W.iret (v := -1) hx hb hr (fun t ht hW => ⟨⟨_, G_6, rfl, ⟨hTy, hFR, rfl, (by rw [eX_7] at kmo; exact kmo)⟩, by rw [ht]; exact hP, va_K.moved hW.alike hK, hD⟩, hS.F ht⟩) hS.2.2 d_Model_store_64
      · have p33 : ¬ ((nI fd) < ci) := c33
        refine lv_iload_n hx hb d_Model_store_36 rfl (lv_at hl 0 rfl) ?_
        refine lv_iload_n hx hb d_Model_store_37 rfl (lv_at hl 3 rfl) ?_
        refine lv_if_eq (tgt := 46) hx hb d_Model_store_38 (by decide) (fun c38 => ?_) (fun c38 => ?_)
        · exact absurd c38 (by decide)
        refine lv_bipush (v := 8) hx hb d_Model_store_41 (by decide) ?_
        refine lv_goto (tgt := 48) hx hb d_Model_store_43 (by decide) ?_
        refine lv_icmp_ne (tgt := 55) hx hb d_Model_store_48 (by decide) (fun c48 => ?_) (fun c48 => ?_)
        · have p48 : ¬ (KL = 8) := (fun q9 => c48 ((nI_eq (a := KL) (b := 8) (by omega) (by omega)).mpr q9))
          exact absurd ⟨p18, Int32.not_lt.mp p25, Int32.not_lt.mp p33, by omega⟩ hbad
        · have p48 : KL = 8 := ((nI_eq (a := KL) (b := 8) (by omega) (by omega)).mp c48)
          refine lv_iconst (v := 1) hx hb d_Model_store_51 (by decide) ?_
          refine lv_goto (tgt := 56) hx hb d_Model_store_52 (by decide) ?_
          refine lv_iconst (v := 1) hx hb d_Model_store_56 (by decide) ?_
          have hFc := va_free (wc := G) hD hS hA (List.range G.length) (rg_is _)
          refine va_calli (mu_runV (As := [.int 1, .int 1]) (rest := []) ⟨hx, hb, hml, hown, hts⟩ tbin (m_Model_fails_1 l dC dI sb γ κ Ad τ gT G mo _ _ _ _ _ _ _ _ _ _ _ _ _ _ _ _ _ _ _ _ _ _ _ _ _ _ _ _ _ _ _ _ s.heap.size hTy (by have h9 := kmo; rw [eX_mo] at h9; exact h9) (by decide)) q8_79 q8_81 qp_36 q1_9 q8_82 (n := 2) (by decide +kernel) rfl ⟨rfl, rfl⟩ ⟨Nat.le_of_ble_eq_true rfl, Nat.le_of_ble_eq_true rfl⟩ ⟨Nat.le_of_ble_eq_true rfl, Nat.le_of_ble_eq_true rfl⟩ hN (hT0.keep hS hAs) hAs (Nat.le_trans hB0 hS.1) hK hP hD (List.range G.length) (rg_nd _) (rg_is _) [0, 1, 2, 3, 4] rfl i_1 12 hg_1 rfl rfl hl.1 rfl (Nat.le_of_ble_eq_true rfl) d_Model_store_57) hS (fun q _ h => hFc q h) hFc (fun r57 G_8 tS H57 locs ht hvm hw57 hB hz1 hk1 hS => ?_)
          obtain ⟨hTy, hF9, hr57⟩ := hw57
          have hFR := hFR.tr (hF9.up (q_gac (by simp) (q_gan)))
          obtain ⟨hP1, hK1, hD1⟩ := hB
          rw [ht] at hP1
          have hP : va_P (dC, dI) classes G_8 H57 := hP1
          have hD : va_D A G_8 := hD1.weaken (fun _ _ _ h => hFc _ h)
          obtain ⟨hq57, kmo⟩ := hr57
          subst hq57
          obtain ⟨cX_9, eX_9⟩ : ∃ z : va_E, z = .inr (12, (.int 1 :: .int (nI fd) :: .int mwr :: .int (nI K9) :: .int (nI KL) :: .ref moc :: .ref msT :: .ref mrV :: .ref msP :: .int mqs :: .ref mrA :: .ref mbA :: .ref mwA :: .ref mhA :: .ref mfA :: .ref mpA :: .ref mxA :: .ref myA :: .ref mmA :: .ref mqA :: .ref mzA :: .ref mwy :: .ref mfd :: .int msz :: .int (nI cz) :: .int mch :: .int mft :: .int mpt :: .int mdp :: .int mvd :: .long mnw :: .int mmk :: [])) := ⟨_, rfl⟩
          rw [← eX_9] at kmo
          refine lv_if_eq (tgt := 65) hx hb d_Model_store_60 (by decide) (fun c60 => ?_) (fun c60 => ?_)
          · exact absurd c60 (by decide)
          refine lv_iconst (v := -1) hx hb d_Model_store_63 (by decide) ?_
          exact W.iret (v := -1) hx hb hr (fun t ht hW => ⟨⟨_, G_8, rfl, ⟨hTy, hFR, rfl, (by rw [eX_9] at kmo; exact kmo)⟩, by rw [ht]; exact hP, va_K.moved hW.alike hK, hD⟩, hS.F ht⟩) hS.2.2 d_Model_store_64
set_option maxHeartbeats 4000000 in
set_option maxRecDepth 100000 in
theorem m_Model_list_1 (l : Launch) (dC : Nat → ClassId) (dI : Nat → Nat → Nat) (sb : sB) (γ : cG) (κ : kE) (Ad : List Nat) (τ : Nat → TD) (gT : ClassId) (G : va_W) (mo : Nat) (moc msT mrV msP mrA mbA mwA mhA mfA mpA mxA myA mmA mqA mzA mwy mfd : Nat) (mer mwr mqs msz mch mft mpt mdp mvd mmk : Int32) (mnw : Int64) (K9 KL cz fd : Nat) (ci : Int32) (sz : Nat) (hTy : TR γ κ Ad τ G) (kmo : Xc Ad mo (.inr (12, (.int mer :: .int (nI fd) :: .int mwr :: .int (nI K9) :: .int (nI KL) :: .ref moc :: .ref msT :: .ref mrV :: .ref msP :: .int mqs :: .ref mrA :: .ref mbA :: .ref mwA :: .ref mhA :: .ref mfA :: .ref mpA :: .ref mxA :: .ref myA :: .ref mmA :: .ref mqA :: .ref mzA :: .ref mwy :: .ref mfd :: .int msz :: .int (nI cz) :: .int mch :: .int mft :: .int mpt :: .int mdp :: .int mvd :: .long mnw :: .int mmk :: []))) G) (hbad : ¬ (¬ ci < 0 ∧ ci ≤ 2048 ∧ ci ≤ nI fd ∧ KL < 8)) (hcap : KL ≤ 8) : Met l y_Model_list w_Model_list ({ frames := 15, cells := 0, slots := 0, locals := 353 }) (mu_P [.ref mo, .int ci] (dC, dI) sb G [(γ.1, .byte), (γ.2.1, .int), (γ.2.2.1, .long), (γ.2.2.2, .object "java/lang/Object"), (gT, .object "TrustChainModel$Text")] sz) (va_Qi (fun r (G' : va_W) => TR γ κ Ad τ G' ∧ FL Ad [mo] G G' ∧ (r = 0 ∧ Xc Ad mo (.inr (12, (.int 1 :: .int (nI fd) :: .int mwr :: .int (nI K9) :: .int (nI KL) :: .ref moc :: .ref msT :: .ref mrV :: .ref msP :: .int mqs :: .ref mrA :: .ref mbA :: .ref mwA :: .ref mhA :: .ref mfA :: .ref mpA :: .ref mxA :: .ref myA :: .ref mmA :: .ref mqA :: .ref mzA :: .ref mwy :: .ref mfd :: .int msz :: .int (nI cz) :: .int mch :: .int mft :: .int mpt :: .int mdp :: .int mvd :: .long mnw :: .int mmk :: []))) G')) (mu_B (dC, dI) [(γ.1, .byte), (γ.2.1, .int), (γ.2.2.1, .long), (γ.2.2.2, .object "java/lang/Object"), (gT, .object "TrustChainModel$Text")] (va_A G sz) (fun G' : va_W => G')) (va_A G sz)) 0 0 (va_A G sz) := by
  refine Met.ofW (cc := b_Model_list) (maxL := 3) (ret := (some FieldType.int)) (by decide) rfl ?_
  intro p e s m args below meth c s₁ B hml hv
  obtain ⟨rfl, hsz, hB0, hP, hK, hD0, hN, hT0⟩ := hv
  have hx := B.exec
  have hb := B.bytes
  have hr := B.returns
  have hts := atoms_spec (ws := w_Model_list) B.pre
  have tbin : ∀ w ∈ tb, w ∈ w_Model_list := fun w h => List.mem_cons_of_mem _ h
  have htb : ∀ w ∈ tb, w.before _ s = true := fun w h => hts w (tbin w h)
  have hown : s.vm.findClass "TrustChainModel" = some m.cls := findClass_of_methodNamed B.named
  have hlocks := B.notSynchronized
  subst hsz
  have hD := hD0.self (sz := s.heap.size)
  generalize hAe : va_A G s.heap.size = A at hD ⊢
  have hA : ∀ q : Nat, s.heap.size ≤ q → A q := fun q h => by rw [← hAe]; exact Or.inr h
  have hAs : ∀ q : Nat, A q → sb.1 ≤ q := fun q h => by
    rw [← hAe] at h
    rcases h with ⟨k, e, h⟩ | h
    · exact hD0.2 k _ h
    · exact Nat.le_trans hB0 h
  have hS : va_S A s.heap s.heap [] := va_S.rf
  have hFR := FL.rf Ad [mo] G
  have hcs : 0 ≤ (headSpec w_Model_list ({ frames := 15, cells := 0, slots := 0, locals := 353 })).room.cells ∧ 0 ≤ (headSpec w_Model_list ({ frames := 15, cells := 0, slots := 0, locals := 353 })).room.slots := ⟨Nat.le_refl _, Nat.le_refl _⟩
  have hP : va_P (dC, dI) classes G s.heap := hP
  have hl := lv_entry ([.ref mo, .int ci]) (n := 3) (Nat.le_of_ble_eq_true rfl)
  rw [lg_entry_eq]
  generalize (lg_sl ([.ref mo, .int ci]) ++ List.replicate (3 - (lg_sl ([.ref mo, .int ci])).length) Slot.unset).toArray = ls at hl ⊢
  have hl : lv_has ls 3 [(0, .ref mo), (1, .int ci)] := hl
  obtain ⟨cX_mo, eX_mo⟩ : ∃ z : va_E, z = .inr (12, (.int mer :: .int (nI fd) :: .int mwr :: .int (nI K9) :: .int (nI KL) :: .ref moc :: .ref msT :: .ref mrV :: .ref msP :: .int mqs :: .ref mrA :: .ref mbA :: .ref mwA :: .ref mhA :: .ref mfA :: .ref mpA :: .ref mxA :: .ref myA :: .ref mmA :: .ref mqA :: .ref mzA :: .ref mwy :: .ref mfd :: .int msz :: .int (nI cz) :: .int mch :: .int mft :: .int mpt :: .int mdp :: .int mvd :: .long mnw :: .int mmk :: [])) := ⟨_, rfl⟩
  rw [← eX_mo] at kmo
  refine lv_aload_n hx hb d_Model_list_0 rfl (lv_at hl 0 rfl) ?_
  refine lv_iconst (v := 0) hx hb d_Model_list_1 (by decide) ?_
  obtain ⟨i_1, hg_1⟩ := List.getElem?_of_mem kmo.2
  rw [eX_mo] at hg_1
  refine va_put (v := .int 0) (ty := .int) hx hb htb i_Model t_Model t_Model_ok n_Model hown hK hP hD hS i_1 hg_1 rfl 0 (by decide) (htb _ q7_214) (fun _ h9 => h9) rfl (by decide +kernel) rfl rfl (Nat.le_of_ble_eq_true rfl) d_Model_list_2 (fun H2 locs hP hD2 hS => ?_)
  have hP : va_P (dC, dI) classes (G.set i_1 (mo, .inr (12, (.int 0 :: .int (nI fd) :: .int mwr :: .int (nI K9) :: .int (nI KL) :: .ref moc :: .ref msT :: .ref mrV :: .ref msP :: .int mqs :: .ref mrA :: .ref mbA :: .ref mwA :: .ref mhA :: .ref mfA :: .ref mpA :: .ref mxA :: .ref myA :: .ref mmA :: .ref mqA :: .ref mzA :: .ref mwy :: .ref mfd :: .int msz :: .int (nI cz) :: .int mch :: .int mft :: .int mpt :: .int mdp :: .int mvd :: .long mnw :: .int mmk :: [])))) H2 := hP
  have hD3 : va_D A (G.set i_1 (mo, .inr (12, (.int 0 :: .int (nI fd) :: .int mwr :: .int (nI K9) :: .int (nI KL) :: .ref moc :: .ref msT :: .ref mrV :: .ref msP :: .int mqs :: .ref mrA :: .ref mbA :: .ref mwA :: .ref mhA :: .ref mfA :: .ref mpA :: .ref mxA :: .ref myA :: .ref mmA :: .ref mqA :: .ref mzA :: .ref mwy :: .ref mfd :: .int msz :: .int (nI cz) :: .int mch :: .int mft :: .int mpt :: .int mdp :: .int mvd :: .long mnw :: .int mmk :: [])))) := hD2
  have hTy := TR.setX (c' := .inr (12, (.int 0 :: .int (nI fd) :: .int mwr :: .int (nI K9) :: .int (nI KL) :: .ref moc :: .ref msT :: .ref mrV :: .ref msP :: .int mqs :: .ref mrA :: .ref mbA :: .ref mwA :: .ref mhA :: .ref mfA :: .ref mpA :: .ref mxA :: .ref myA :: .ref mmA :: .ref mqA :: .ref mzA :: .ref mwy :: .ref mfd :: .int msz :: .int (nI cz) :: .int mch :: .int mft :: .int mpt :: .int mdp :: .int mvd :: .long mnw :: .int mmk :: []))) hTy hg_1 kmo.1
  have hFR := hFR.tr (FL.set (Ad := Ad) (X := [mo]) (c' := .inr (12, (.int 0 :: .int (nI fd) :: .int mwr :: .int (nI K9) :: .int (nI KL) :: .ref moc :: .ref msT :: .ref mrV :: .ref msP :: .int mqs :: .ref mrA :: .ref mbA :: .ref mwA :: .ref mhA :: .ref mfA :: .ref mpA :: .ref mxA :: .ref myA :: .ref mmA :: .ref mqA :: .ref mzA :: .ref mwy :: .ref mfd :: .int msz :: .int (nI cz) :: .int mch :: .int mft :: .int mpt :: .int mdp :: .int mvd :: .long mnw :: .int mmk :: []))) hg_1 (by simp))
  have hg_1 := set_here (c' := .inr (12, (.int 0 :: .int (nI fd) :: .int mwr :: .int (nI K9) :: .int (nI KL) :: .ref moc :: .ref msT :: .ref mrV :: .ref msP :: .int mqs :: .ref mrA :: .ref mbA :: .ref mwA :: .ref mhA :: .ref mfA :: .ref mpA :: .ref mxA :: .ref myA :: .ref mmA :: .ref mqA :: .ref mzA :: .ref mwy :: .ref mfd :: .int msz :: .int (nI cz) :: .int mch :: .int mft :: .int mpt :: .int mdp :: .int mvd :: .long mnw :: .int mmk :: []))) hg_1
  have kmo : Xc Ad mo (.inr (12, (.int 0 :: .int (nI fd) :: .int mwr :: .int (nI K9) :: .int (nI KL) :: .ref moc :: .ref msT :: .ref mrV :: .ref msP :: .int mqs :: .ref mrA :: .ref mbA :: .ref mwA :: .ref mhA :: .ref mfA :: .ref mpA :: .ref mxA :: .ref myA :: .ref mmA :: .ref mqA :: .ref mzA :: .ref mwy :: .ref mfd :: .int msz :: .int (nI cz) :: .int mch :: .int mft :: .int mpt :: .int mdp :: .int mvd :: .long mnw :: .int mmk :: []))) (G.set i_1 (mo, .inr (12, (.int 0 :: .int (nI fd) :: .int mwr :: .int (nI K9) :: .int (nI KL) :: .ref moc :: .ref msT :: .ref mrV :: .ref msP :: .int mqs :: .ref mrA :: .ref mbA :: .ref mwA :: .ref mhA :: .ref mfA :: .ref mpA :: .ref mxA :: .ref myA :: .ref mmA :: .ref mqA :: .ref mzA :: .ref mwy :: .ref mfd :: .int msz :: .int (nI cz) :: .int mch :: .int mft :: .int mpt :: .int mdp :: .int mvd :: .long mnw :: .int mmk :: [])))) := ⟨kmo.1, List.mem_of_getElem? hg_1⟩
  have hD := hD3
  clear hD3 hD2
  generalize G.set i_1 (mo, .inr (12, (.int 0 :: .int (nI fd) :: .int mwr :: .int (nI K9) :: .int (nI KL) :: .ref moc :: .ref msT :: .ref mrV :: .ref msP :: .int mqs :: .ref mrA :: .ref mbA :: .ref mwA :: .ref mhA :: .ref mfA :: .ref mpA :: .ref mxA :: .ref myA :: .ref mmA :: .ref mqA :: .ref mzA :: .ref mwy :: .ref mfd :: .int msz :: .int (nI cz) :: .int mch :: .int mft :: .int mpt :: .int mdp :: .int mvd :: .long mnw :: .int mmk :: []))) = G_2 at hP hD hTy hFR kmo hg_1
  obtain ⟨cX_3, eX_3⟩ : ∃ z : va_E, z = .inr (12, (.int 0 :: .int (nI fd) :: .int mwr :: .int (nI K9) :: .int (nI KL) :: .ref moc :: .ref msT :: .ref mrV :: .ref msP :: .int mqs :: .ref mrA :: .ref mbA :: .ref mwA :: .ref mhA :: .ref mfA :: .ref mpA :: .ref mxA :: .ref myA :: .ref mmA :: .ref mqA :: .ref mzA :: .ref mwy :: .ref mfd :: .int msz :: .int (nI cz) :: .int mch :: .int mft :: .int mpt :: .int mdp :: .int mvd :: .long mnw :: .int mmk :: [])) := ⟨_, rfl⟩
  rw [← eX_3] at kmo
  refine lv_aload_n hx hb d_Model_list_5 rfl (lv_at hl 0 rfl) ?_
  refine lv_iload_n hx hb d_Model_list_6 rfl (lv_at hl 1 rfl) ?_
  refine lv_iconst (v := 1) hx hb d_Model_list_7 (by decide) ?_
  have hFc := va_free (wc := G_2) hD hS hA (List.range G_2.length) (rg_is _)
  refine va_calli (mu_runV (As := [.int ci, .int 1]) (rest := []) ⟨hx, hb, hml, hown, hts⟩ tbin (m_Model_store_b1 l dC dI sb γ κ Ad τ gT G_2 mo _ _ _ _ _ _ _ _ _ _ _ _ _ _ _ _ _ _ _ _ _ _ _ _ _ _ _ _ _ _ _ _ H2.size hTy (by have h9 := kmo; rw [eX_3] at h9; exact h9) hbad hcap) q8_87 q8_89 qp_37 q1_9 q8_90 (n := 2) (by decide +kernel) rfl ⟨rfl, rfl⟩ ⟨Nat.le_of_ble_eq_true rfl, Nat.le_of_ble_eq_true rfl⟩ ⟨Nat.le_of_ble_eq_true rfl, Nat.le_of_ble_eq_true rfl⟩ hN (hT0.keep hS hAs) hAs (Nat.le_trans hB0 hS.1) hK hP hD (List.range G_2.length) (rg_nd _) (rg_is _) [0, 1, 2, 3, 4] rfl i_1 12 hg_1 rfl rfl hl.1 rfl (Nat.le_of_ble_eq_true rfl) d_Model_list_8) hS (fun q _ h => hFc q h) hFc (fun r8 G_4 tS H8 locs ht hvm hw8 hB hz1 hk1 hS => ?_)
  obtain ⟨hTy, hF9, hr8⟩ := hw8
  have hFR := hFR.tr (hF9.up (q_gac (by simp) (q_gan)))
  obtain ⟨hP1, hK1, hD1⟩ := hB
  rw [ht] at hP1
  have hP : va_P (dC, dI) classes G_4 H8 := hP1
  have hD : va_D A G_4 := hD1.weaken (fun _ _ _ h => hFc _ h)
  obtain ⟨hq8, kmo⟩ := hr8
  subst hq8
  obtain ⟨cX_5, eX_5⟩ : ∃ z : va_E, z = .inr (12, (.int 1 :: .int (nI fd) :: .int mwr :: .int (nI K9) :: .int (nI KL) :: .ref moc :: .ref msT :: .ref mrV :: .ref msP :: .int mqs :: .ref mrA :: .ref mbA :: .ref mwA :: .ref mhA :: .ref mfA :: .ref mpA :: .ref mxA :: .ref myA :: .ref mmA :: .ref mqA :: .ref mzA :: .ref mwy :: .ref mfd :: .int msz :: .int (nI cz) :: .int mch :: .int mft :: .int mpt :: .int mdp :: .int mvd :: .long mnw :: .int mmk :: [])) := ⟨_, rfl⟩
  rw [← eX_5] at kmo
  refine lv_istore_n (lv' := [(2, .int (-1)), (0, .ref mo), (1, .int ci)]) hx hb d_Model_list_11 rfl hl (by decide) rfl (fun ls hl => ?_)
  refine lv_iload_n hx hb d_Model_list_12 rfl (lv_at hl 0 rfl) ?_
  refine lv_if_ge (tgt := 20) hx hb d_Model_list_13 (by decide) (fun c13 => ?_) (fun c13 => ?_)
  · exact absurd c13 (by decide)
  refine lv_iconst (v := 0) hx hb d_Model_list_16 (by decide) ?_
  refine lv_goto (tgt := 21) hx hb d_Model_list_17 (by decide) ?_
  exact W.iret (v := 0) hx hb hr (fun t ht hW => ⟨⟨_, G_4, rfl, ⟨hTy, hFR, rfl, (by rw [eX_5] at kmo; exact kmo)⟩, by rw [ht]; exact hP, va_K.moved hW.alike hK, hD⟩, hS.F ht⟩) hS.2.2 d_Model_list_21
