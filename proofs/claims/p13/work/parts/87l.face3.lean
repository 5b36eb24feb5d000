/-! The reference's feed, wrong, thrown, listPart. -/
set_option maxHeartbeats 4000000 in
set_option maxRecDepth 100000 in
theorem mt_Model_wrong (l : Launch) (dC : Nat → ClassId) (dI : Nat → Nat → Nat) (sb : sB) (γ : cG) (κ : kE) (Ad : List Nat) (τ : Nat → TD) (gT : ClassId) (G : va_W) (mo : Nat) (moc msT mrV msP mrA mbA mwA mhA mfA mpA mxA myA mmA mqA mzA mwy mfd : Nat) (mer mwr mqs msz mch mft mpt mdp mvd mmk : Int32) (mnw : Int64) (K9 KL cz fd : Nat) (sz : Nat) (hTy : TR γ κ Ad τ G) (kmo : Xc Ad mo (.inr (12, (.int mer :: .int (nI fd) :: .int mwr :: .int (nI K9) :: .int (nI KL) :: .ref moc :: .ref msT :: .ref mrV :: .ref msP :: .int mqs :: .ref mrA :: .ref mbA :: .ref mwA :: .ref mhA :: .ref mfA :: .ref mpA :: .ref mxA :: .ref myA :: .ref mmA :: .ref mqA :: .ref mzA :: .ref mwy :: .ref mfd :: .int msz :: .int (nI cz) :: .int mch :: .int mft :: .int mpt :: .int mdp :: .int mvd :: .long mnw :: .int mmk :: []))) G)  : Met l y_Model_wrong w_Model_wrong ({ frames := 0, cells := 0, slots := 0, locals := 0 }) (mu_P [.ref mo] (dC, dI) sb G [(γ.1, .byte), (γ.2.1, .int), (γ.2.2.1, .long), (γ.2.2.2, .object "java/lang/Object"), (gT, .object "TrustChainModel$Text")] sz) (va_Qi (fun r (G' : va_W) => TR γ κ Ad τ G' ∧ FL Ad [mo] G G' ∧ (r = mwr ∧ Xc Ad mo (.inr (12, (.int 0 :: .int (nI fd) :: .int mwr :: .int (nI K9) :: .int (nI KL) :: .ref moc :: .ref msT :: .ref mrV :: .ref msP :: .int mqs :: .ref mrA :: .ref mbA :: .ref mwA :: .ref mhA :: .ref mfA :: .ref mpA :: .ref mxA :: .ref myA :: .ref mmA :: .ref mqA :: .ref mzA :: .ref mwy :: .ref mfd :: .int msz :: .int (nI cz) :: .int mch :: .int mft :: .int mpt :: .int mdp :: .int mvd :: .long mnw :: .int mmk :: []))) G')) (mu_B (dC, dI) [(γ.1, .byte), (γ.2.1, .int), (γ.2.2.1, .long), (γ.2.2.2, .object "java/lang/Object"), (gT, .object "TrustChainModel$Text")] (va_A G sz) (fun G' : va_W => G')) (va_A G sz)) 0 0 (va_A G sz) := by
  refine Met.ofW (cc := b_Model_wrong) (maxL := 1) (ret := (some FieldType.int)) (by decide) rfl ?_
  intro p e s m args below meth c s₁ B hml hv
  obtain ⟨rfl, hsz, hB0, hP, hK, hD0, hN, hT0⟩ := hv
  have hx := B.exec
  have hb := B.bytes
  have hr := B.returns
  have hts := atoms_spec (ws := w_Model_wrong) B.pre
  have tbin : ∀ w ∈ tb, w ∈ w_Model_wrong := fun w h => List.mem_cons_of_mem _ h
  have htb : ∀ w ∈ tb, w.before _ s = true := fun w h => hts w (tbin w h)
  have hown : s.vm.findClass "TrustChainModel" = some m.cls := findClass_of_methodNamed B.named
  have hlocks := B.notSynchronized
  subst hsz
  have hD := hD0.self (sz := s.heap.size)
  generalize hAe : va_A G s.heap.size = A at hD ⊢
  have hA : ∀ q : Nat, s.heap.size ≤ q → A q := fun q h => by rw [← hAe]; exact Or.inr h
  have hAs : ∀ q : Nat, A q → sb.1 ≤ q := fun q h => by
    rw [← hAe] at h
    rcases h with ⟨k, e, h⟩ | h
    · exact hD0.2 k _ h
    · exact Nat.le_trans hB0 h
  have hS : va_S A s.heap s.heap [] := va_S.rf
  have hFR := FL.rf Ad [mo] G
  have hcs : 0 ≤ (headSpec w_Model_wrong ({ frames := 0, cells := 0, slots := 0, locals := 0 })).room.cells ∧ 0 ≤ (headSpec w_Model_wrong ({ frames := 0, cells := 0, slots := 0, locals := 0 })).room.slots := ⟨Nat.le_refl _, Nat.le_refl _⟩
  have hP : va_P (dC, dI) classes G s.heap := hP
  have hl := lv_entry ([.ref mo]) (n := 1) (Nat.le_of_ble_eq_true rfl)
  rw [lg_entry_eq]
  generalize (lg_sl ([.ref mo]) ++ List.replicate (1 - (lg_sl ([.ref mo])).length) Slot.unset).toArray = ls at hl ⊢
  have hl : lv_has ls 1 [(0, .ref mo)] := hl
  obtain ⟨cX_mo, eX_mo⟩ : ∃ z : va_E, z = .inr (12, (.int mer :: .int (nI fd) :: .int mwr :: .int (nI K9) :: .int (nI KL) :: .ref moc :: .ref msT :: .ref mrV :: .ref msP :: .int mqs :: .ref mrA :: .ref mbA :: .ref mwA :: .ref mhA :: .ref mfA :: .ref mpA :: .ref mxA :: .ref myA :: .ref mmA :: .ref mqA :: .ref mzA :: .ref mwy :: .ref mfd :: .int msz :: .int (nI cz) :: .int mch :: .int mft :: .int mpt :: .int mdp :: .int mvd :: .long mnw :: .int mmk :: [])) := ⟨_, rfl⟩
  rw [← eX_mo] at kmo
  refine lv_aload_n hx hb d_Model_wrong_0 rfl (lv_at hl 0 rfl) ?_
  refine lv_iconst (v := 0) hx hb d_Model_wrong_1 (by decide) ?_
  obtain ⟨i_1, hg_1⟩ := List.getElem?_of_mem kmo.2
  rw [eX_mo] at hg_1
  refine va_put (v := .int 0) (ty := .int) hx hb htb i_Model t_Model t_Model_ok n_Model hown hK hP hD hS i_1 hg_1 rfl 0 (by decide) (htb _ q7_214) (fun _ h9 => h9) rfl (by decide +kernel) rfl rfl (Nat.le_of_ble_eq_true rfl) d_Model_wrong_2 (fun H2 locs hP hD2 hS => ?_)
  have hP : va_P (dC, dI) classes (G.set i_1 (mo, .inr (12, (.int 0 :: .int (nI fd) :: .int mwr :: .int (nI K9) :: .int (nI KL) :: .ref moc :: .ref msT :: .ref mrV :: .ref msP :: .int mqs :: .ref mrA :: .ref mbA :: .ref mwA :: .ref mhA :: .ref mfA :: .ref mpA :: .ref mxA :: .ref myA :: .ref mmA :: .ref mqA :: .ref mzA :: .ref mwy :: .ref mfd :: .int msz :: .int (nI cz) :: .int mch :: .int mft :: .int mpt :: .int mdp :: .int mvd :: .long mnw :: .int mmk :: [])))) H2 := hP
  have hD3 : va_D A (G.set i_1 (mo, .inr (12, (.int 0 :: .int (nI fd) :: .int mwr :: .int (nI K9) :: .int (nI KL) :: .ref moc :: .ref msT :: .ref mrV :: .ref msP :: .int mqs :: .ref mrA :: .ref mbA :: .ref mwA :: .ref mhA :: .ref mfA :: .ref mpA :: .ref mxA :: .ref myA :: .ref mmA :: .ref mqA :: .ref mzA :: .ref mwy :: .ref mfd :: .int msz :: .int (nI cz) :: .int mch :: .int mft :: .int mpt :: .int mdp :: .int mvd :: .long mnw :: .int mmk :: [])))) := hD2
  have hTy := TR.setX (c' := .inr (12, (.int 0 :: .int (nI fd) :: .int mwr :: .int (nI K9) :: .int (nI KL) :: .ref moc :: .ref msT :: .ref mrV :: .ref msP :: .int mqs :: .ref mrA :: .ref mbA :: .ref mwA :: .ref mhA :: .ref mfA :: .ref mpA :: .ref mxA :: .ref myA :: .ref mmA :: .ref mqA :: .ref mzA :: .ref mwy :: .ref mfd :: .int msz :: .int (nI cz) :: .int mch :: .int mft :: .int mpt :: .int mdp :: .int mvd :: .long mnw :: .int mmk :: []))) hTy hg_1 kmo.1
  have hFR := hFR.tr (FL.set (Ad := Ad) (X := [mo]) (c' := .inr (12, (.int 0 :: .int (nI fd) :: .int mwr :: .int (nI K9) :: .int (nI KL) :: .ref moc :: .ref msT :: .ref mrV :: .ref msP :: .int mqs :: .ref mrA :: .ref mbA :: .ref mwA :: .ref mhA :: .ref mfA :: .ref mpA :: .ref mxA :: .ref myA :: .ref mmA :: .ref mqA :: .ref mzA :: .ref mwy :: .ref mfd :: .int msz :: .int (nI cz) :: .int mch :: .int mft :: .int mpt :: .int mdp :: .int mvd :: .long mnw :: .int mmk :: []))) hg_1 (by simp))
  have hg_1 := set_here (c' := .inr (12, (.int 0 :: .int (nI fd) :: .int mwr :: .int (nI K9) :: .int (nI KL) :: .ref moc :: .ref msT :: .ref mrV :: .ref msP :: .int mqs :: .ref mrA :: .ref mbA :: .ref mwA :: .ref mhA :: .ref mfA :: .ref mpA :: .ref mxA :: .ref myA :: .ref mmA :: .ref mqA :: .ref mzA :: .ref mwy :: .ref mfd :: .int msz :: .int (nI cz) :: .int mch :: .int mft :: .int mpt :: .int mdp :: .int mvd :: .long mnw :: .int mmk :: []))) hg_1
  have kmo : Xc Ad mo (.inr (12, (.int 0 :: .int (nI fd) :: .int mwr :: .int (nI K9) :: .int (nI KL) :: .ref moc :: .ref msT :: .ref mrV :: .ref msP :: .int mqs :: .ref mrA :: .ref mbA :: .ref mwA :: .ref mhA :: .ref mfA :: .ref mpA :: .ref mxA :: .ref myA :: .ref mmA :: .ref mqA :: .ref mzA :: .ref mwy :: .ref mfd :: .int msz :: .int (nI cz) :: .int mch :: .int mft :: .int mpt :: .int mdp :: .int mvd :: .long mnw :: .int mmk :: []))) (G.set i_1 (mo, .inr (12, (.int 0 :: .int (nI fd) :: .int mwr :: .int (nI K9) :: .int (nI KL) :: .ref moc :: .ref msT :: .ref mrV :: .ref msP :: .int mqs :: .ref mrA :: .ref mbA :: .ref mwA :: .ref mhA :: .ref mfA :: .ref mpA :: .ref mxA :: .ref myA :: .ref mmA :: .ref mqA :: .ref mzA :: .ref mwy :: .ref mfd :: .int msz :: .int (nI cz) :: .int mch :: .int mft :: .int mpt :: .int mdp :: .int mvd :: .long mnw :: .int mmk :: [])))) := ⟨kmo.1, List.mem_of_getElem? hg_1⟩
  have hD := hD3
  clear hD3 hD2
  generalize G.set i_1 (mo, .inr (12, (.int 0 :: .int (nI fd) :: .int mwr :: .int (nI K9) :: .int (nI KL) :: .ref moc :: .ref msT :: .ref mrV :: .ref msP :: .int mqs :: .ref mrA :: .ref mbA :: .ref mwA :: .ref mhA :: .ref mfA :: .ref mpA :: .ref mxA :: .ref myA :: .ref mmA :: .ref mqA :: .ref mzA :: .ref mwy :: .ref mfd :: .int msz :: .int (nI cz) :: .int mch :: .int mft :: .int mpt :: .int mdp :: .int mvd :: .long mnw :: .int mmk :: []))) = G_2 at hP hD hTy hFR kmo hg_1
  obtain ⟨cX_3, eX_3⟩ : ∃ z : va_E, z = .inr (12, (.int 0 :: .int (nI fd) :: .int mwr :: .int (nI K9) :: .int (nI KL) :: .ref moc :: .ref msT :: .ref mrV :: .ref msP :: .int mqs :: .ref mrA :: .ref mbA :: .ref mwA :: .ref mhA :: .ref mfA :: .ref mpA :: .ref mxA :: .ref myA :: .ref mmA :: .ref mqA :: .ref mzA :: .ref mwy :: .ref mfd :: .int msz :: .int (nI cz) :: .int mch :: .int mft :: .int mpt :: .int mdp :: .int mvd :: .long mnw :: .int mmk :: [])) := ⟨_, rfl⟩
  rw [← eX_3] at kmo
  refine lv_aload_n hx hb d_Model_wrong_5 rfl (lv_at hl 0 rfl) ?_
  refine va_get (v := .int mwr) hx hb htb i_Model hown hK hP i_1 hg_1 rfl 2 (by decide) (htb _ q7_216) (fun _ h9 => h9) rfl d_Model_wrong_6 ?_
  exact W.iret (v := mwr) hx hb hr (fun t ht hW => ⟨⟨_, G_2, rfl, ⟨hTy, hFR, rfl, (by rw [eX_3] at kmo; exact kmo)⟩, by rw [ht]; exact hP, va_K.moved hW.alike hK, hD⟩, hS.F ht⟩) hS.2.2 d_Model_wrong_9
def fo5 (a5 b5 c5 d5 e5 : Int32) (i : Nat) : Int32 := ((((if i < 4 then a5 else if i < 8 then b5 else if i < 12 then c5 else if i < 16 then d5 else e5).toUInt32 >>> ((24 - (8 * ((nI i) &&& 3))).toUInt32 &&& Int32.toUInt32 31)).toInt32) &&& 255)
def FDJ (f0 f : Nat → Int32) (fd z : Nat) (a5 b5 c5 d5 e5 : Int32) : Prop := (∀ j, j < fd ∨ fd + z ≤ j → f j = f0 j) ∧ ∀ i, i < z → f (fd + i) = fo5 a5 b5 c5 d5 e5 i
theorem fd_0 {f : Nat → Int32} {fd : Nat} {a5 b5 c5 d5 e5 : Int32} : FDJ f f fd 0 a5 b5 c5 d5 e5 := ⟨fun _ _ => rfl, fun i h => absurd h (Nat.not_lt_zero _)⟩
theorem fd_step {f0 f f' : Nat → Int32} {fd z : Nat} {a5 b5 c5 d5 e5 X : Int32} (h : FDJ f0 f fd z a5 b5 c5 d5 e5) (ef : f' = upd f (nI (fd + z)).toNatClampNeg X) (hX : X = fo5 a5 b5 c5 d5 e5 z) (hz : fd + z < 2 ^ 20 := by omega) : FDJ f0 f' fd (z + 1) a5 b5 c5 d5 e5 := by
  rw [nI_clamp (by omega)] at ef
  refine ⟨fun j hj => ?_, fun i hi => ?_⟩
  · rw [ef]; unfold upd; rw [if_neg (by omega)]; exact h.1 j (by omega)
  · by_cases e : i = z
    · subst e
      rw [ef]; unfold upd; rw [if_pos rfl]; exact hX
    · rw [ef]; unfold upd; rw [if_neg (by omega)]; exact h.2 i (by omega)
set_option maxHeartbeats 4000000 in
set_option maxRecDepth 100000 in
theorem m_Model_feed_1 (l : Launch) (dC : Nat → ClassId) (dI : Nat → Nat → Nat) (sb : sB) (γ : cG) (κ : kE) (Ad : List Nat) (τ : Nat → TD) (gT : ClassId) (G : va_W) (mo : Nat) (moc msT mrV msP mrA mbA mwA mhA mfA mpA mxA myA mmA mqA mzA mwy mfd : Nat) (mer mwr mqs msz mch mft mpt mdp mvd mmk : Int32) (mnw : Int64) (K9 KL cz fd : Nat) (a5 b5 c5 d5 e5 : Int32) (sz : Nat) (hTy : TR γ κ Ad τ G) (kmo : Xc Ad mo (.inr (12, (.int mer :: .int (nI fd) :: .int mwr :: .int (nI K9) :: .int (nI KL) :: .ref moc :: .ref msT :: .ref mrV :: .ref msP :: .int mqs :: .ref mrA :: .ref mbA :: .ref mwA :: .ref mhA :: .ref mfA :: .ref mpA :: .ref mxA :: .ref myA :: .ref mmA :: .ref mqA :: .ref mzA :: .ref mwy :: .ref mfd :: .int msz :: .int (nI cz) :: .int mch :: .int mft :: .int mpt :: .int mdp :: .int mvd :: .long mnw :: .int mmk :: []))) G) (hfd : 2060 < fd + 20) (hf1 : fd ≤ 2060) : Met l y_Model_feed w_Model_feed ({ frames := 1, cells := 0, slots := 0, locals := 22 }) (mu_P [.ref mo, .int a5, .int b5, .int c5, .int d5, .int e5] (dC, dI) sb G [(γ.1, .byte), (γ.2.1, .int), (γ.2.2.1, .long), (γ.2.2.2, .object "java/lang/Object"), (gT, .object "TrustChainModel$Text")] sz) (va_Qi (fun r (G' : va_W) => TR γ κ Ad τ G' ∧ FL Ad [mo] G G' ∧ (r = 0 ∧ Xc Ad mo (.inr (12, (.int 1 :: .int (nI fd) :: .int mwr :: .int (nI K9) :: .int (nI KL) :: .ref moc :: .ref msT :: .ref mrV :: .ref msP :: .int mqs :: .ref mrA :: .ref mbA :: .ref mwA :: .ref mhA :: .ref mfA :: .ref mpA :: .ref mxA :: .ref myA :: .ref mmA :: .ref mqA :: .ref mzA :: .ref mwy :: .ref mfd :: .int msz :: .int (nI cz) :: .int mch :: .int mft :: .int mpt :: .int mdp :: .int mvd :: .long mnw :: .int mmk :: []))) G')) (mu_B (dC, dI) [(γ.1, .byte), (γ.2.1, .int), (γ.2.2.1, .long), (γ.2.2.2, .object "java/lang/Object"), (gT, .object "TrustChainModel$Text")] (va_A G sz) (fun G' : va_W => G')) (va_A G sz)) 0 0 (va_A G sz) := by
  refine Met.ofW (cc := b_Model_feed) (maxL := 8) (ret := (some FieldType.int)) (by decide) rfl ?_
  intro p e s m args below meth c s₁ B hml hv
  obtain ⟨rfl, hsz, hB0, hP, hK, hD0, hN, hT0⟩ := hv
  have hx := B.exec
  have hb := B.bytes
  have hr := B.returns
  have hts := atoms_spec (ws := w_Model_feed) B.pre
  have tbin : ∀ w ∈ tb, w ∈ w_Model_feed := fun w h => List.mem_cons_of_mem _ h
  have htb : ∀ w ∈ tb, w.before _ s = true := fun w h => hts w (tbin w h)
  have hown : s.vm.findClass "TrustChainModel" = some m.cls := findClass_of_methodNamed B.named
  have hlocks := B.notSynchronized
  subst hsz
  have hD := hD0.self (sz := s.heap.size)
  generalize hAe : va_A G s.heap.size = A at hD ⊢
  have hA : ∀ q : Nat, s.heap.size ≤ q → A q := fun q h => by rw [← hAe]; exact Or.inr h
  have hAs : ∀ q : Nat, A q → sb.1 ≤ q := fun q h => by
    rw [← hAe] at h
    rcases h with ⟨k, e, h⟩ | h
    · exact hD0.2 k _ h
    · exact Nat.le_trans hB0 h
  have hS : va_S A s.heap s.heap [] := va_S.rf
  have hFR := FL.rf Ad [mo] G
  have hcs : 0 ≤ (headSpec w_Model_feed ({ frames := 1, cells := 0, slots := 0, locals := 22 })).room.cells ∧ 0 ≤ (headSpec w_Model_feed ({ frames := 1, cells := 0, slots := 0, locals := 22 })).room.slots := ⟨Nat.le_refl _, Nat.le_refl _⟩
  have hP : va_P (dC, dI) classes G s.heap := hP
  have hl := lv_entry ([.ref mo, .int a5, .int b5, .int c5, .int d5, .int e5]) (n := 8) (Nat.le_of_ble_eq_true rfl)
  rw [lg_entry_eq]
  generalize (lg_sl ([.ref mo, .int a5, .int b5, .int c5, .int d5, .int e5]) ++ List.replicate (8 - (lg_sl ([.ref mo, .int a5, .int b5, .int c5, .int d5, .int e5])).length) Slot.unset).toArray = ls at hl ⊢
  have hl : lv_has ls 8 [(0, .ref mo), (1, .int a5), (2, .int b5), (3, .int c5), (4, .int d5), (5, .int e5)] := hl
  obtain ⟨cX_mo, eX_mo⟩ : ∃ z : va_E, z = .inr (12, (.int mer :: .int (nI fd) :: .int mwr :: .int (nI K9) :: .int (nI KL) :: .ref moc :: .ref msT :: .ref mrV :: .ref msP :: .int mqs :: .ref mrA :: .ref mbA :: .ref mwA :: .ref mhA :: .ref mfA :: .ref mpA :: .ref mxA :: .ref myA :: .ref mmA :: .ref mqA :: .ref mzA :: .ref mwy :: .ref mfd :: .int msz :: .int (nI cz) :: .int mch :: .int mft :: .int mpt :: .int mdp :: .int mvd :: .long mnw :: .int mmk :: [])) := ⟨_, rfl⟩
  rw [← eX_mo] at kmo
  refine lv_aload_n hx hb d_Model_feed_0 rfl (lv_at hl 0 rfl) ?_
  refine lv_iconst (v := 0) hx hb d_Model_feed_1 (by decide) ?_
  obtain ⟨i_1, hg_1⟩ := List.getElem?_of_mem kmo.2
  rw [eX_mo] at hg_1
  refine va_put (v := .int 0) (ty := .int) hx hb htb i_Model t_Model t_Model_ok n_Model hown hK hP hD hS i_1 hg_1 rfl 0 (by decide) (htb _ q7_214) (fun _ h9 => h9) rfl (by decide +kernel) rfl rfl (Nat.le_of_ble_eq_true rfl) d_Model_feed_2 (fun H2 locs hP hD2 hS => ?_)
  have hP : va_P (dC, dI) classes (G.set i_1 (mo, .inr (12, (.int 0 :: .int (nI fd) :: .int mwr :: .int (nI K9) :: .int (nI KL) :: .ref moc :: .ref msT :: .ref mrV :: .ref msP :: .int mqs :: .ref mrA :: .ref mbA :: .ref mwA :: .ref mhA :: .ref mfA :: .ref mpA :: .ref mxA :: .ref myA :: .ref mmA :: .ref mqA :: .ref mzA :: .ref mwy :: .ref mfd :: .int msz :: .int (nI cz) :: .int mch :: .int mft :: .int mpt :: .int mdp :: .int mvd :: .long mnw :: .int mmk :: [])))) H2 := hP
  have hD3 : va_D A (G.set i_1 (mo, .inr (12, (.int 0 :: .int (nI fd) :: .int mwr :: .int (nI K9) :: .int (nI KL) :: .ref moc :: .ref msT :: .ref mrV :: .ref msP :: .int mqs :: .ref mrA :: .ref mbA :: .ref mwA :: .ref mhA :: .ref mfA :: .ref mpA :: .ref mxA :: .ref myA :: .ref mmA :: .ref mqA :: .ref mzA :: .ref mwy :: .ref mfd :: .int msz :: .int (nI cz) :: .int mch :: .int mft :: .int mpt :: .int mdp :: .int mvd :: .long mnw :: .int mmk :: [])))) := hD2
  have hTy := TR.setX (c' := .inr (12, (.int 0 :: .int (nI fd) :: .int mwr :: .int (nI K9) :: .int (nI KL) :: .ref moc :: .ref msT :: .ref mrV :: .ref msP :: .int mqs :: .ref mrA :: .ref mbA :: .ref mwA :: .ref mhA :: .ref mfA :: .ref mpA :: .ref mxA :: .ref myA :: .ref mmA :: .ref mqA :: .ref mzA :: .ref mwy :: .ref mfd :: .int msz :: .int (nI cz) :: .int mch :: .int mft :: .int mpt :: .int mdp :: .int mvd :: .long mnw :: .int mmk :: []))) hTy hg_1 kmo.1
  have hFR := hFR.tr (FL.set (Ad := Ad) (X := [mo]) (c' := .inr (12, (.int 0 :: .int (nI fd) :: .int mwr :: .int (nI K9) :: .int (nI KL) :: .ref moc :: .ref msT :: .ref mrV :: .ref msP :: .int mqs :: .ref mrA :: .ref mbA :: .ref mwA :: .ref mhA :: .ref mfA :: .ref mpA :: .ref mxA :: .ref myA :: .ref mmA :: .ref mqA :: .ref mzA :: .ref mwy :: .ref mfd :: .int msz :: .int (nI cz) :: .int mch :: .int mft :: .int mpt :: .int mdp :: .int mvd :: .long mnw :: .int mmk :: []))) hg_1 (by simp))
  have hg_1 := set_here (c' := .inr (12, (.int 0 :: .int (nI fd) :: .int mwr :: .int (nI K9) :: .int (nI KL) :: .ref moc :: .ref msT :: .ref mrV :: .ref msP :: .int mqs :: .ref mrA :: .ref mbA :: .ref mwA :: .ref mhA :: .ref mfA :: .ref mpA :: .ref mxA :: .ref myA :: .ref mmA :: .ref mqA :: .ref mzA :: .ref mwy :: .ref mfd :: .int msz :: .int (nI cz) :: .int mch :: .int mft :: .int mpt :: .int mdp :: .int mvd :: .long mnw :: .int mmk :: []))) hg_1
  have kmo : Xc Ad mo (.inr (12, (.int 0 :: .int (nI fd) :: .int mwr :: .int (nI K9) :: .int (nI KL) :: .ref moc :: .ref msT :: .ref mrV :: .ref msP :: .int mqs :: .ref mrA :: .ref mbA :: .ref mwA :: .ref mhA :: .ref mfA :: .ref mpA :: .ref mxA :: .ref myA :: .ref mmA :: .ref mqA :: .ref mzA :: .ref mwy :: .ref mfd :: .int msz :: .int (nI cz) :: .int mch :: .int mft :: .int mpt :: .int mdp :: .int mvd :: .long mnw :: .int mmk :: []))) (G.set i_1 (mo, .inr (12, (.int 0 :: .int (nI fd) :: .int mwr :: .int (nI K9) :: .int (nI KL) :: .ref moc :: .ref msT :: .ref mrV :: .ref msP :: .int mqs :: .ref mrA :: .ref mbA :: .ref mwA :: .ref mhA :: .ref mfA :: .ref mpA :: .ref mxA :: .ref myA :: .ref mmA :: .ref mqA :: .ref mzA :: .ref mwy :: .ref mfd :: .int msz :: .int (nI cz) :: .int mch :: .int mft :: .int mpt :: .int mdp :: .int mvd :: .long mnw :: .int mmk :: [])))) := ⟨kmo.1, List.mem_of_getElem? hg_1⟩
  have hD := hD3
  clear hD3 hD2
  generalize G.set i_1 (mo, .inr (12, (.int 0 :: .int (nI fd) :: .int mwr :: .int (nI K9) :: .int (nI KL) :: .ref moc :: .ref msT :: .ref mrV :: .ref msP :: .int mqs :: .ref mrA :: .ref mbA :: .ref mwA :: .ref mhA :: .ref mfA :: .ref mpA :: .ref mxA :: .ref myA :: .ref mmA :: .ref mqA :: .ref mzA :: .ref mwy :: .ref mfd :: .int msz :: .int (nI cz) :: .int mch :: .int mft :: .int mpt :: .int mdp :: .int mvd :: .long mnw :: .int mmk :: []))) = G_2 at hP hD hTy hFR kmo hg_1
  obtain ⟨cX_3, eX_3⟩ : ∃ z : va_E, z = .inr (12, (.int 0 :: .int (nI fd) :: .int mwr :: .int (nI K9) :: .int (nI KL) :: .ref moc :: .ref msT :: .ref mrV :: .ref msP :: .int mqs :: .ref mrA :: .ref mbA :: .ref mwA :: .ref mhA :: .ref mfA :: .ref mpA :: .ref mxA :: .ref myA :: .ref mmA :: .ref mqA :: .ref mzA :: .ref mwy :: .ref mfd :: .int msz :: .int (nI cz) :: .int mch :: .int mft :: .int mpt :: .int mdp :: .int mvd :: .long mnw :: .int mmk :: [])) := ⟨_, rfl⟩
  rw [← eX_3] at kmo
  refine lv_aload_n hx hb d_Model_feed_5 rfl (lv_at hl 0 rfl) ?_
  refine lv_aload_n hx hb d_Model_feed_6 rfl (lv_at hl 0 rfl) ?_
  refine va_get (v := .int (nI fd)) hx hb htb i_Model hown hK hP i_1 hg_1 rfl 1 (by decide) (htb _ q7_215) (fun _ h9 => h9) rfl d_Model_feed_7 ?_
  refine lv_bipush (v := 20) hx hb d_Model_feed_10 (by decide) ?_
  refine lv_iadd hx hb d_Model_feed_12 ?_
  rw [show ((nI fd) + 20 : Int32) = nI (fd + 20) from nI_add fd 20]
  refine lv_sipush (v := 2060) hx hb d_Model_feed_13 (by decide) ?_
  refine lv_icmp_le (tgt := 23) hx hb d_Model_feed_16 (by decide) (fun c16 => ?_) (fun c16 => ?_)
  · have p16 : (fd + 20) ≤ 2060 := ((nI_leI (a := (fd + 20)) (b := 2060) (by omega) (by omega)).mp c16)
    exact absurd hfd (by omega)
  · have p16 : ¬ ((fd + 20) ≤ 2060) := (fun q9 => c16 ((nI_leI (a := (fd + 20)) (b := 2060) (by omega) (by omega)).mpr q9))
    refine lv_iconst (v := 1) hx hb d_Model_feed_19 (by decide) ?_
    refine lv_goto (tgt := 24) hx hb d_Model_feed_20 (by decide) ?_
    refine lv_iconst (v := 1) hx hb d_Model_feed_24 (by decide) ?_
    have hFc := va_free (wc := G_2) hD hS hA (List.range G_2.length) (rg_is _)
    refine va_calli (mu_runV (As := [.int 1, .int 1]) (rest := []) ⟨hx, hb, hml, hown, hts⟩ tbin (m_Model_fails_1 l dC dI sb γ κ Ad τ gT G_2 mo _ _ _ _ _ _ _ _ _ _ _ _ _ _ _ _ _ _ _ _ _ _ _ _ _ _ _ _ _ _ _ _ H2.size hTy (by have h9 := kmo; rw [eX_3] at h9; exact h9) (by decide)) q8_79 q8_81 qp_36 q1_9 q8_82 (n := 2) (by decide +kernel) rfl ⟨rfl, rfl⟩ ⟨Nat.le_of_ble_eq_true rfl, Nat.le_of_ble_eq_true rfl⟩ ⟨Nat.le_of_ble_eq_true rfl, Nat.le_of_ble_eq_true rfl⟩ hN (hT0.keep hS hAs) hAs (Nat.le_trans hB0 hS.1) hK hP hD (List.range G_2.length) (rg_nd _) (rg_is _) [0, 1, 2, 3, 4] rfl i_1 12 hg_1 rfl rfl hl.1 rfl (Nat.le_of_ble_eq_true rfl) d_Model_feed_25) hS (fun q _ h => hFc q h) hFc (fun r25 G_4 tS H25 locs ht hvm hw25 hB hz1 hk1 hS => ?_)
    obtain ⟨hTy, hF9, hr25⟩ := hw25
    have hFR := hFR.tr (hF9.up (q_gac (by simp) (q_gan)))
    obtain ⟨hP1, hK1, hD1⟩ := hB
    rw [ht] at hP1
    have hP : va_P (dC, dI) classes G_4 H25 := hP1
    have hD : va_D A G_4 := hD1.weaken (fun _ _ _ h => hFc _ h)
    obtain ⟨hq25, kmo⟩ := hr25
    subst hq25
    obtain ⟨cX_5, eX_5⟩ : ∃ z : va_E, z = .inr (12, (.int 1 :: .int (nI fd) :: .int mwr :: .int (nI K9) :: .int (nI KL) :: .ref moc :: .ref msT :: .ref mrV :: .ref msP :: .int mqs :: .ref mrA :: .ref mbA :: .ref mwA :: .ref mhA :: .ref mfA :: .ref mpA :: .ref mxA :: .ref myA :: .ref mmA :: .ref mqA :: .ref mzA :: .ref mwy :: .ref mfd :: .int msz :: .int (nI cz) :: .int mch :: .int mft :: .int mpt :: .int mdp :: .int mvd :: .long mnw :: .int mmk :: [])) := ⟨_, rfl⟩
    rw [← eX_5] at kmo
    refine lv_if_eq (tgt := 33) hx hb d_Model_feed_28 (by decide) (fun c28 => ?_) (fun c28 => ?_)
    · exact absurd c28 (by decide)
    refine lv_iconst (v := 0) hx hb d_Model_feed_31 (by decide) ?_
    exact W.iret (v := 0) hx hb hr (fun t ht hW => ⟨⟨_, G_4, rfl, ⟨hTy, hFR, rfl, (by rw [eX_5] at kmo; exact kmo)⟩, by rw [ht]; exact hP, va_K.moved hW.alike hK, hD⟩, hS.F ht⟩) hS.2.2 d_Model_feed_32
set_option maxHeartbeats 4000000 in
set_option maxRecDepth 100000 in
theorem m_Model_feed_0 (l : Launch) (dC : Nat → ClassId) (dI : Nat → Nat → Nat) (sb : sB) (γ : cG) (κ : kE) (Ad : List Nat) (τ : Nat → TD) (gT : ClassId) (G : va_W) (mo : Nat) (moc msT mrV msP mrA mbA mwA mhA mfA mpA mxA myA mmA mqA mzA mwy mfd : Nat) (mer mwr mqs msz mch mft mpt mdp mvd mmk : Int32) (mnw : Int64) (K9 KL cz fd : Nat) (a5 b5 c5 d5 e5 : Int32) (fo : Nat → Int32) (sz : Nat) (hTy : TR γ κ Ad τ G) (kmo : Xc Ad mo (.inr (12, (.int mer :: .int (nI fd) :: .int mwr :: .int (nI K9) :: .int (nI KL) :: .ref moc :: .ref msT :: .ref mrV :: .ref msP :: .int mqs :: .ref mrA :: .ref mbA :: .ref mwA :: .ref mhA :: .ref mfA :: .ref mpA :: .ref mxA :: .ref myA :: .ref mmA :: .ref mqA :: .ref mzA :: .ref mwy :: .ref mfd :: .int msz :: .int (nI cz) :: .int mch :: .int mft :: .int mpt :: .int mdp :: .int mvd :: .long mnw :: .int mmk :: []))) G) (kmoc : Xc Ad moc (.inl (γ.2.1, 2060, .inl fo)) G) (hx_mo_moc : mo ≠ moc) (hfd : fd + 20 ≤ 2060) : Met l y_Model_feed w_Model_feed ({ frames := 1, cells := 0, slots := 0, locals := 22 }) (mu_P [.ref mo, .int a5, .int b5, .int c5, .int d5, .int e5] (dC, dI) sb G [(γ.1, .byte), (γ.2.1, .int), (γ.2.2.1, .long), (γ.2.2.2, .object "java/lang/Object"), (gT, .object "TrustChainModel$Text")] sz) (va_Qi (fun r (G' : va_W) => TR γ κ Ad τ G' ∧ FL Ad [mo, moc] G G' ∧ (r = nI (fd + 20) ∧ Xc Ad mo (.inr (12, (.int 0 :: .int (nI (fd + 20)) :: .int mwr :: .int (nI K9) :: .int (nI KL) :: .ref moc :: .ref msT :: .ref mrV :: .ref msP :: .int mqs :: .ref mrA :: .ref mbA :: .ref mwA :: .ref mhA :: .ref mfA :: .ref mpA :: .ref mxA :: .ref myA :: .ref mmA :: .ref mqA :: .ref mzA :: .ref mwy :: .ref mfd :: .int msz :: .int (nI cz) :: .int mch :: .int mft :: .int mpt :: .int mdp :: .int mvd :: .long mnw :: .int mmk :: []))) G' ∧ ∃ f9 : Nat → Int32, Xc Ad moc (.inl (γ.2.1, 2060, .inl f9)) G' ∧ FDJ fo f9 fd 20 a5 b5 c5 d5 e5)) (mu_B (dC, dI) [(γ.1, .byte), (γ.2.1, .int), (γ.2.2.1, .long), (γ.2.2.2, .object "java/lang/Object"), (gT, .object "TrustChainModel$Text")] (va_A G sz) (fun G' : va_W => G')) (va_A G sz)) 0 0 (va_A G sz) := by
  refine Met.ofW (cc := b_Model_feed) (maxL := 8) (ret := (some FieldType.int)) (by decide) rfl ?_
  intro p e s m args below meth c s₁ B hml hv
  obtain ⟨rfl, hsz, hB0, hP, hK, hD0, hN, hT0⟩ := hv
  have hx := B.exec
  have hb := B.bytes
  have hr := B.returns
  have hts := atoms_spec (ws := w_Model_feed) B.pre
  have tbin : ∀ w ∈ tb, w ∈ w_Model_feed := fun w h => List.mem_cons_of_mem _ h
  have htb : ∀ w ∈ tb, w.before _ s = true := fun w h => hts w (tbin w h)
  have hown : s.vm.findClass "TrustChainModel" = some m.cls := findClass_of_methodNamed B.named
  have hlocks := B.notSynchronized
  subst hsz
  have hD := hD0.self (sz := s.heap.size)
  generalize hAe : va_A G s.heap.size = A at hD ⊢
  have hA : ∀ q : Nat, s.heap.size ≤ q → A q := fun q h => by rw [← hAe]; exact Or.inr h
  have hAs : ∀ q : Nat, A q → sb.1 ≤ q := fun q h => by
    rw [← hAe] at h
    rcases h with ⟨k, e, h⟩ | h
    · exact hD0.2 k _ h
    · exact Nat.le_trans hB0 h
  have hS : va_S A s.heap s.heap [] := va_S.rf
  have hFR := FL.rf Ad [mo, moc] G
  have hcs : 0 ≤ (headSpec w_Model_feed ({ frames := 1, cells := 0, slots := 0, locals := 22 })).room.cells ∧ 0 ≤ (headSpec w_Model_feed ({ frames := 1, cells := 0, slots := 0, locals := 22 })).room.slots := ⟨Nat.le_refl _, Nat.le_refl _⟩
  have hP : va_P (dC, dI) classes G s.heap := hP
  have hl := lv_entry ([.ref mo, .int a5, .int b5, .int c5, .int d5, .int e5]) (n := 8) (Nat.le_of_ble_eq_true rfl)
  rw [lg_entry_eq]
  generalize (lg_sl ([.ref mo, .int a5, .int b5, .int c5, .int d5, .int e5]) ++ List.replicate (8 - (lg_sl ([.ref mo, .int a5, .int b5, .int c5, .int d5, .int e5])).length) Slot.unset).toArray = ls at hl ⊢
  have hl : lv_has ls 8 [(0, .ref mo), (1, .int a5), (2, .int b5), (3, .int c5), (4, .int d5), (5, .int e5)] := hl
  obtain ⟨cX_mo, eX_mo⟩ : ∃ z : va_E, z = .inr (12, (.int mer :: .int (nI fd) :: .int mwr :: .int (nI K9) :: .int (nI KL) :: .ref moc :: .ref msT :: .ref mrV :: .ref msP :: .int mqs :: .ref mrA :: .ref mbA :: .ref mwA :: .ref mhA :: .ref mfA :: .ref mpA :: .ref mxA :: .ref myA :: .ref mmA :: .ref mqA :: .ref mzA :: .ref mwy :: .ref mfd :: .int msz :: .int (nI cz) :: .int mch :: .int mft :: .int mpt :: .int mdp :: .int mvd :: .long mnw :: .int mmk :: [])) := ⟨_, rfl⟩
  rw [← eX_mo] at kmo
  refine lv_aload_n hx hb d_Model_feed_0 rfl (lv_at hl 0 rfl) ?_
  refine lv_iconst (v := 0) hx hb d_Model_feed_1 (by decide) ?_
  obtain ⟨i_1, hg_1⟩ := List.getElem?_of_mem kmo.2
  rw [eX_mo] at hg_1
  refine va_put (v := .int 0) (ty := .int) hx hb htb i_Model t_Model t_Model_ok n_Model hown hK hP hD hS i_1 hg_1 rfl 0 (by decide) (htb _ q7_214) (fun _ h9 => h9) rfl (by decide +kernel) rfl rfl (Nat.le_of_ble_eq_true rfl) d_Model_feed_2 (fun H2 locs hP hD2 hS => ?_)
  have hP : va_P (dC, dI) classes (G.set i_1 (mo, .inr (12, (.int 0 :: .int (nI fd) :: .int mwr :: .int (nI K9) :: .int (nI KL) :: .ref moc :: .ref msT :: .ref mrV :: .ref msP :: .int mqs :: .ref mrA :: .ref mbA :: .ref mwA :: .ref mhA :: .ref mfA :: .ref mpA :: .ref mxA :: .ref myA :: .ref mmA :: .ref mqA :: .ref mzA :: .ref mwy :: .ref mfd :: .int msz :: .int (nI cz) :: .int mch :: .int mft :: .int mpt :: .int mdp :: .int mvd :: .long mnw :: .int mmk :: [])))) H2 := hP
  have hD3 : va_D A (G.set i_1 (mo, .inr (12, (.int 0 :: .int (nI fd) :: .int mwr :: .int (nI K9) :: .int (nI KL) :: .ref moc :: .ref msT :: .ref mrV :: .ref msP :: .int mqs :: .ref mrA :: .ref mbA :: .ref mwA :: .ref mhA :: .ref mfA :: .ref mpA :: .ref mxA :: .ref myA :: .ref mmA :: .ref mqA :: .ref mzA :: .ref mwy :: .ref mfd :: .int msz :: .int (nI cz) :: .int mch :: .int mft :: .int mpt :: .int mdp :: .int mvd :: .long mnw :: .int mmk :: [])))) := hD2
  have hTy := TR.setX (c' := .inr (12, (.int 0 :: .int (nI fd) :: .int mwr :: .int (nI K9) :: .int (nI KL) :: .ref moc :: .ref msT :: .ref mrV :: .ref msP :: .int mqs :: .ref mrA :: .ref mbA :: .ref mwA :: .ref mhA :: .ref mfA :: .ref mpA :: .ref mxA :: .ref myA :: .ref mmA :: .ref mqA :: .ref mzA :: .ref mwy :: .ref mfd :: .int msz :: .int (nI cz) :: .int mch :: .int mft :: .int mpt :: .int mdp :: .int mvd :: .long mnw :: .int mmk :: []))) hTy hg_1 kmo.1
  have kmoc := Xc.setX (c' := .inr (12, (.int 0 :: .int (nI fd) :: .int mwr :: .int (nI K9) :: .int (nI KL) :: .ref moc :: .ref msT :: .ref mrV :: .ref msP :: .int mqs :: .ref mrA :: .ref mbA :: .ref mwA :: .ref mhA :: .ref mfA :: .ref mpA :: .ref mxA :: .ref myA :: .ref mmA :: .ref mqA :: .ref mzA :: .ref mwy :: .ref mfd :: .int msz :: .int (nI cz) :: .int mch :: .int mft :: .int mpt :: .int mdp :: .int mvd :: .long mnw :: .int mmk :: []))) kmoc hg_1 (fun e => hx_mo_moc.symm (congrArg Prod.fst e))
  have hFR := hFR.tr (FL.set (Ad := Ad) (X := [mo, moc]) (c' := .inr (12, (.int 0 :: .int (nI fd) :: .int mwr :: .int (nI K9) :: .int (nI KL) :: .ref moc :: .ref msT :: .ref mrV :: .ref msP :: .int mqs :: .ref mrA :: .ref mbA :: .ref mwA :: .ref mhA :: .ref mfA :: .ref mpA :: .ref mxA :: .ref myA :: .ref mmA :: .ref mqA :: .ref mzA :: .ref mwy :: .ref mfd :: .int msz :: .int (nI cz) :: .int mch :: .int mft :: .int mpt :: .int mdp :: .int mvd :: .long mnw :: .int mmk :: []))) hg_1 (by simp))
  have hg_1 := set_here (c' := .inr (12, (.int 0 :: .int (nI fd) :: .int mwr :: .int (nI K9) :: .int (nI KL) :: .ref moc :: .ref msT :: .ref mrV :: .ref msP :: .int mqs :: .ref mrA :: .ref mbA :: .ref mwA :: .ref mhA :: .ref mfA :: .ref mpA :: .ref mxA :: .ref myA :: .ref mmA :: .ref mqA :: .ref mzA :: .ref mwy :: .ref mfd :: .int msz :: .int (nI cz) :: .int mch :: .int mft :: .int mpt :: .int mdp :: .int mvd :: .long mnw :: .int mmk :: []))) hg_1
  have kmo : Xc Ad mo (.inr (12, (.int 0 :: .int (nI fd) :: .int mwr :: .int (nI K9) :: .int (nI KL) :: .ref moc :: .ref msT :: .ref mrV :: .ref msP :: .int mqs :: .ref mrA :: .ref mbA :: .ref mwA :: .ref mhA :: .ref mfA :: .ref mpA :: .ref mxA :: .ref myA :: .ref mmA :: .ref mqA :: .ref mzA :: .ref mwy :: .ref mfd :: .int msz :: .int (nI cz) :: .int mch :: .int mft :: .int mpt :: .int mdp :: .int mvd :: .long mnw :: .int mmk :: []))) (G.set i_1 (mo, .inr (12, (.int 0 :: .int (nI fd) :: .int mwr :: .int (nI K9) :: .int (nI KL) :: .ref moc :: .ref msT :: .ref mrV :: .ref msP :: .int mqs :: .ref mrA :: .ref mbA :: .ref mwA :: .ref mhA :: .ref mfA :: .ref mpA :: .ref mxA :: .ref myA :: .ref mmA :: .ref mqA :: .ref mzA :: .ref mwy :: .ref mfd :: .int msz :: .int (nI cz) :: .int mch :: .int mft :: .int mpt :: .int mdp :: .int mvd :: .long mnw :: .int mmk :: [])))) := ⟨kmo.1, List.mem_of_getElem? hg_1⟩
  have hD := hD3
  clear hD3 hD2
  generalize G.set i_1 (mo, .inr (12, (.int 0 :: .int (nI fd) :: .int mwr :: .int (nI K9) :: .int (nI KL) :: .ref moc :: .ref msT :: .ref mrV :: .ref msP :: .int mqs :: .ref mrA :: .ref mbA :: .ref mwA :: .ref mhA :: .ref mfA :: .ref mpA :: .ref mxA :: .ref myA :: .ref mmA :: .ref mqA :: .ref mzA :: .ref mwy :: .ref mfd :: .int msz :: .int (nI cz) :: .int mch :: .int mft :: .int mpt :: .int mdp :: .int mvd :: .long mnw :: .int mmk :: []))) = G_2 at hP hD hTy hFR kmo kmoc hg_1
  obtain ⟨cX_3, eX_3⟩ : ∃ z : va_E, z = .inr (12, (.int 0 :: .int (nI fd) :: .int mwr :: .int (nI K9) :: .int (nI KL) :: .ref moc :: .ref msT :: .ref mrV :: .ref msP :: .int mqs :: .ref mrA :: .ref mbA :: .ref mwA :: .ref mhA :: .ref mfA :: .ref mpA :: .ref mxA :: .ref myA :: .ref mmA :: .ref mqA :: .ref mzA :: .ref mwy :: .ref mfd :: .int msz :: .int (nI cz) :: .int mch :: .int mft :: .int mpt :: .int mdp :: .int mvd :: .long mnw :: .int mmk :: [])) := ⟨_, rfl⟩
  rw [← eX_3] at kmo
  refine lv_aload_n hx hb d_Model_feed_5 rfl (lv_at hl 0 rfl) ?_
  refine lv_aload_n hx hb d_Model_feed_6 rfl (lv_at hl 0 rfl) ?_
  refine va_get (v := .int (nI fd)) hx hb htb i_Model hown hK hP i_1 hg_1 rfl 1 (by decide) (htb _ q7_215) (fun _ h9 => h9) rfl d_Model_feed_7 ?_
  refine lv_bipush (v := 20) hx hb d_Model_feed_10 (by decide) ?_
  refine lv_iadd hx hb d_Model_feed_12 ?_
  rw [show ((nI fd) + 20 : Int32) = nI (fd + 20) from nI_add fd 20]
  refine lv_sipush (v := 2060) hx hb d_Model_feed_13 (by decide) ?_
  refine lv_icmp_le (tgt := 23) hx hb d_Model_feed_16 (by decide) (fun c16 => ?_) (fun c16 => ?_)
  · have p16 : (fd + 20) ≤ 2060 := ((nI_leI (a := (fd + 20)) (b := 2060) (by omega) (by omega)).mp c16)
    refine lv_iconst (v := 0) hx hb d_Model_feed_23 (by decide) ?_
    refine lv_iconst (v := 1) hx hb d_Model_feed_24 (by decide) ?_
    have hFc := va_free (wc := G_2) hD hS hA (List.range G_2.length) (rg_is _)
    refine va_calli (mu_runV (As := [.int 0, .int 1]) (rest := []) ⟨hx, hb, hml, hown, hts⟩ tbin (m_Model_fails_0 l dC dI sb γ κ Ad τ gT G_2 mo _ _ _ _ _ _ _ _ _ _ _ _ _ _ _ _ _ _ _ _ _ _ _ _ _ _ _ _ _ _ _ _ H2.size hTy (by have h9 := kmo; rw [eX_3] at h9; exact h9) ) q8_79 q8_81 qp_36 q1_9 q8_82 (n := 2) (by decide +kernel) rfl ⟨rfl, rfl⟩ ⟨Nat.le_of_ble_eq_true rfl, Nat.le_of_ble_eq_true rfl⟩ ⟨Nat.le_of_ble_eq_true rfl, Nat.le_of_ble_eq_true rfl⟩ hN (hT0.keep hS hAs) hAs (Nat.le_trans hB0 hS.1) hK hP hD (List.range G_2.length) (rg_nd _) (rg_is _) [0, 1, 2, 3, 4] rfl i_1 12 hg_1 rfl rfl hl.1 rfl (Nat.le_of_ble_eq_true rfl) d_Model_feed_25) hS (fun q _ h => hFc q h) hFc (fun r25 G_4 tS H25 locs ht hvm hw25 hB hz1 hk1 hS => ?_)
    obtain ⟨hTy, hF9, hr25⟩ := hw25
    have kmo := kmo.fl hF9 (q_nmn)
    have kmoc := kmoc.fl hF9 (q_nmn)
    have hFR := hFR.tr (hF9.up (q_gan))
    obtain ⟨hP1, hK1, hD1⟩ := hB
    rw [ht] at hP1
    have hP : va_P (dC, dI) classes G_4 H25 := hP1
    have hD : va_D A G_4 := hD1.weaken (fun _ _ _ h => hFc _ h)
    subst hr25
    refine lv_if_eq (tgt := 33) hx hb d_Model_feed_28 (by decide) (fun c28 => ?_) (fun c28 => ?_)
    rotate_left
    · exact absurd c28 (by decide)
    refine lv_iconst (v := 0) hx hb d_Model_feed_33 (by decide) ?_
    refine lv_istore (lv' := [(6, .int 0), (0, .ref mo), (1, .int a5), (2, .int b5), (3, .int c5), (4, .int d5), (5, .int e5)]) hx hb d_Model_feed_34 hl (by decide) rfl (fun ls hl => ?_)
    refine w_loopW (α := Nat × (Nat → Int32) × Int32 × va_W) (fun a9 => 0 ≤ a9.1 ∧ a9.1 ≤ 20 ∧ TR γ κ Ad τ a9.2.2.2 ∧ FL Ad [mo, moc] G a9.2.2.2 ∧ Xc Ad mo (.inr (12, (.int 0 :: .int a9.2.2.1 :: .int mwr :: .int (nI K9) :: .int (nI KL) :: .ref moc :: .ref msT :: .ref mrV :: .ref msP :: .int mqs :: .ref mrA :: .ref mbA :: .ref mwA :: .ref mhA :: .ref mfA :: .ref mpA :: .ref mxA :: .ref myA :: .ref mmA :: .ref mqA :: .ref mzA :: .ref mwy :: .ref mfd :: .int msz :: .int (nI cz) :: .int mch :: .int mft :: .int mpt :: .int mdp :: .int mvd :: .long mnw :: .int mmk :: []))) a9.2.2.2 ∧ Xc Ad moc (.inl (γ.2.1, 2060, .inl a9.2.1)) a9.2.2.2 ∧ (FDJ fo a9.2.1 fd a9.1 a5 b5 c5 d5 e5 ∧ a9.2.2.1 = nI (fd + a9.1))) (fun a9 => 20 - a9.1) (fun a9 => [(6, .int (nI a9.1)), (0, .ref mo), (1, .int a5), (2, .int b5), (3, .int c5), (4, .int d5), (5, .int e5)]) (fun _ => []) (fun a9 => a9.2.2.2) 8 36 (fun a9 HL36 locs ls hJ hP hD hS hl ih36 => ?_) (0, fo, nI fd, G_4) _ _ ls ⟨by omega, by omega, hTy, hFR, (by have h9 := kmo; rw [eX_3] at h9; exact h9), kmoc, ⟨fd_0, rfl⟩⟩ hP hD hS (lv_sub hl [0, 1, 2, 3, 4, 5, 6] rfl)
    obtain ⟨z36, f36_moc, v36_mfed, G36⟩ := a9
    obtain ⟨hy36, hz36, hTy, hFR, kmo, kmoc, hJ36⟩ := hJ
    dsimp only at hy36 hz36 hTy hFR kmo kmoc hP hD hl ih36 hJ36
    obtain ⟨cX_5, eX_5⟩ : ∃ z : va_E, z = .inr (12, (.int 0 :: .int v36_mfed :: .int mwr :: .int (nI K9) :: .int (nI KL) :: .ref moc :: .ref msT :: .ref mrV :: .ref msP :: .int mqs :: .ref mrA :: .ref mbA :: .ref mwA :: .ref mhA :: .ref mfA :: .ref mpA :: .ref mxA :: .ref myA :: .ref mmA :: .ref mqA :: .ref mzA :: .ref mwy :: .ref mfd :: .int msz :: .int (nI cz) :: .int mch :: .int mft :: .int mpt :: .int mdp :: .int mvd :: .long mnw :: .int mmk :: [])) := ⟨_, rfl⟩
    rw [← eX_5] at kmo
    obtain ⟨hJf, rfl⟩ := hJ36
    refine lv_iload hx hb d_Model_feed_36 (lv_at hl 0 rfl) ?_
    refine lv_bipush (v := 20) hx hb d_Model_feed_38 (by decide) ?_
    refine lv_icmp_ge (tgt := 130) hx hb d_Model_feed_40 (by decide) (fun c40 => ?_) (fun c40 => ?_)
    · have p40 : 20 ≤ z36 := ((nI_leI (a := 20) (b := z36) (by omega) (by omega)).mp c40)
      refine lv_aload_n hx hb d_Model_feed_130 rfl (lv_at hl 1 rfl) ?_
      obtain ⟨i_6, hg_6⟩ := List.getElem?_of_mem kmo.2
      rw [eX_5] at hg_6
      refine va_get (v := .int (nI (fd + z36))) hx hb htb i_Model hown hK hP i_6 hg_6 rfl 1 (by decide) (htb _ q7_215) (fun _ h9 => h9) rfl d_Model_feed_131 ?_
      have e36 : z36 = 20 := by omega
      exact W.iret (v := nI (fd + z36)) hx hb hr (fun t ht hW => ⟨⟨_, G36, rfl, ⟨hTy, hFR, by rw [e36], (by rw [eX_5, e36] at kmo; exact kmo), ⟨_, kmoc, by rw [e36] at hJf; exact hJf⟩⟩, by rw [ht]; exact hP, va_K.moved hW.alike hK, hD⟩, hS.F ht⟩) hS.2.2 d_Model_feed_134
    · have p40 : ¬ (20 ≤ z36) := (fun q9 => c40 ((nI_leI (a := 20) (b := z36) (by omega) (by omega)).mpr q9))
      refine lv_iload hx hb d_Model_feed_43 (lv_at hl 0 rfl) ?_
      refine lv_iconst (v := 4) hx hb d_Model_feed_45 (by decide) ?_
      refine lv_icmp_ge (tgt := 53) hx hb d_Model_feed_46 (by decide) (fun c46 => ?_) (fun c46 => ?_)
      · have p46 : 4 ≤ z36 := ((nI_leI (a := 4) (b := z36) (by omega) (by omega)).mp c46)
        refine lv_iload hx hb d_Model_feed_53 (lv_at hl 0 rfl) ?_
        refine lv_bipush (v := 8) hx hb d_Model_feed_55 (by decide) ?_
        refine lv_icmp_ge (tgt := 64) hx hb d_Model_feed_57 (by decide) (fun c57 => ?_) (fun c57 => ?_)
        · have p57 : 8 ≤ z36 := ((nI_leI (a := 8) (b := z36) (by omega) (by omega)).mp c57)
          refine lv_iload hx hb d_Model_feed_64 (lv_at hl 0 rfl) ?_
          refine lv_bipush (v := 12) hx hb d_Model_feed_66 (by decide) ?_
          refine lv_icmp_ge (tgt := 75) hx hb d_Model_feed_68 (by decide) (fun c68 => ?_) (fun c68 => ?_)
          · have p68 : 12 ≤ z36 := ((nI_leI (a := 12) (b := z36) (by omega) (by omega)).mp c68)
            refine lv_iload hx hb d_Model_feed_75 (lv_at hl 0 rfl) ?_
            refine lv_bipush (v := 16) hx hb d_Model_feed_77 (by decide) ?_
            refine lv_icmp_ge (tgt := 87) hx hb d_Model_feed_79 (by decide) (fun c79 => ?_) (fun c79 => ?_)
            · have p79 : 16 ≤ z36 := ((nI_leI (a := 16) (b := z36) (by omega) (by omega)).mp c79)
              refine lv_iload hx hb d_Model_feed_87 (lv_at hl 6 rfl) ?_
              refine lv_istore (lv' := [(7, .int e5), (6, .int (nI z36)), (0, .ref mo), (1, .int a5), (2, .int b5), (3, .int c5), (4, .int d5), (5, .int e5)]) hx hb d_Model_feed_89 hl (by decide) rfl (fun ls hl => ?_)
              refine lv_aload_n hx hb d_Model_feed_91 rfl (lv_at hl 2 rfl) ?_
              obtain ⟨i_7, hg_7⟩ := List.getElem?_of_mem kmo.2
              rw [eX_5] at hg_7
              refine va_get (v := .ref moc) hx hb htb i_Model hown hK hP i_7 hg_7 rfl 5 (by decide) (htb _ q7_219) (fun _ h9 => h9) rfl d_Model_feed_92 ?_
              refine lv_aload_n hx hb d_Model_feed_95 rfl (lv_at hl 2 rfl) ?_
              refine lv_dup hx hb d_Model_feed_96 rfl ?_
              refine va_get (v := .int (nI (fd + z36))) hx hb htb i_Model hown hK hP i_7 hg_7 rfl 1 (by decide) (htb _ q7_215) (fun _ h9 => h9) rfl d_Model_feed_97 ?_
              refine lv_dup_x1 hx hb d_Model_feed_100 rfl rfl ?_
              refine lv_iconst (v := 1) hx hb d_Model_feed_101 (by decide) ?_
              refine lv_iadd hx hb d_Model_feed_102 ?_
              rw [show ((nI (fd + z36)) + 1 : Int32) = nI ((fd + z36) + 1) from nI_add (fd + z36) 1]
              refine va_put (v := .int (nI ((fd + z36) + 1))) (ty := .int) hx hb htb i_Model t_Model t_Model_ok n_Model hown hK hP hD hS i_7 hg_7 rfl 1 (by decide) (htb _ q7_215) (fun _ h9 => h9) rfl (by decide +kernel) rfl rfl (Nat.le_of_ble_eq_true rfl) d_Model_feed_103 (fun H103 locs hP hD2 hS => ?_)
              have hP : va_P (dC, dI) classes (G36.set i_7 (mo, .inr (12, (.int 0 :: .int (nI ((fd + z36) + 1)) :: .int mwr :: .int (nI K9) :: .int (nI KL) :: .ref moc :: .ref msT :: .ref mrV :: .ref msP :: .int mqs :: .ref mrA :: .ref mbA :: .ref mwA :: .ref mhA :: .ref mfA :: .ref mpA :: .ref mxA :: .ref myA :: .ref mmA :: .ref mqA :: .ref mzA :: .ref mwy :: .ref mfd :: .int msz :: .int (nI cz) :: .int mch :: .int mft :: .int mpt :: .int mdp :: .int mvd :: .long mnw :: .int mmk :: [])))) H103 := hP
              have hD3 : va_D A (G36.set i_7 (mo, .inr (12, (.int 0 :: .int (nI ((fd + z36) + 1)) :: .int mwr :: .int (nI K9) :: .int (nI KL) :: .ref moc :: .ref msT :: .ref mrV :: .ref msP :: .int mqs :: .ref mrA :: .ref mbA :: .ref mwA :: .ref mhA :: .ref mfA :: .ref mpA :: .ref mxA :: .ref myA :: .ref mmA :: .ref mqA :: .ref mzA :: .ref mwy :: .ref mfd :: .int msz :: .int (nI cz) :: .int mch :: .int mft :: .int mpt :: .int mdp :: .int mvd :: .long mnw :: .int mmk :: [])))) := hD2
              have hTy := TR.setX (c' := .inr (12, (.int 0 :: .int (nI ((fd + z36) + 1)) :: .int mwr :: .int (nI K9) :: .int (nI KL) :: .ref moc :: .ref msT :: .ref mrV :: .ref msP :: .int mqs :: .ref mrA :: .ref mbA :: .ref mwA :: .ref mhA :: .ref mfA :: .ref mpA :: .ref mxA :: .ref myA :: .ref mmA :: .ref mqA :: .ref mzA :: .ref mwy :: .ref mfd :: .int msz :: .int (nI cz) :: .int mch :: .int mft :: .int mpt :: .int mdp :: .int mvd :: .long mnw :: .int mmk :: []))) hTy hg_7 kmo.1
              have kmoc := Xc.setX (c' := .inr (12, (.int 0 :: .int (nI ((fd + z36) + 1)) :: .int mwr :: .int (nI K9) :: .int (nI KL) :: .ref moc :: .ref msT :: .ref mrV :: .ref msP :: .int mqs :: .ref mrA :: .ref mbA :: .ref mwA :: .ref mhA :: .ref mfA :: .ref mpA :: .ref mxA :: .ref myA :: .ref mmA :: .ref mqA :: .ref mzA :: .ref mwy :: .ref mfd :: .int msz :: .int (nI cz) :: .int mch :: .int mft :: .int mpt :: .int mdp :: .int mvd :: .long mnw :: .int mmk :: []))) kmoc hg_7 (fun e => hx_mo_moc.symm (congrArg Prod.fst e))
              have hFR := hFR.tr (FL.set (Ad := Ad) (X := [mo, moc]) (c' := .inr (12, (.int 0 :: .int (nI ((fd + z36) + 1)) :: .int mwr :: .int (nI K9) :: .int (nI KL) :: .ref moc :: .ref msT :: .ref mrV :: .ref msP :: .int mqs :: .ref mrA :: .ref mbA :: .ref mwA :: .ref mhA :: .ref mfA :: .ref mpA :: .ref mxA :: .ref myA :: .ref mmA :: .ref mqA :: .ref mzA :: .ref mwy :: .ref mfd :: .int msz :: .int (nI cz) :: .int mch :: .int mft :: .int mpt :: .int mdp :: .int mvd :: .long mnw :: .int mmk :: []))) hg_7 (by simp))
              have hg_7 := set_here (c' := .inr (12, (.int 0 :: .int (nI ((fd + z36) + 1)) :: .int mwr :: .int (nI K9) :: .int (nI KL) :: .ref moc :: .ref msT :: .ref mrV :: .ref msP :: .int mqs :: .ref mrA :: .ref mbA :: .ref mwA :: .ref mhA :: .ref mfA :: .ref mpA :: .ref mxA :: .ref myA :: .ref mmA :: .ref mqA :: .ref mzA :: .ref mwy :: .ref mfd :: .int msz :: .int (nI cz) :: .int mch :: .int mft :: .int mpt :: .int mdp :: .int mvd :: .long mnw :: .int mmk :: []))) hg_7
              have kmo : Xc Ad mo (.inr (12, (.int 0 :: .int (nI ((fd + z36) + 1)) :: .int mwr :: .int (nI K9) :: .int (nI KL) :: .ref moc :: .ref msT :: .ref mrV :: .ref msP :: .int mqs :: .ref mrA :: .ref mbA :: .ref mwA :: .ref mhA :: .ref mfA :: .ref mpA :: .ref mxA :: .ref myA :: .ref mmA :: .ref mqA :: .ref mzA :: .ref mwy :: .ref mfd :: .int msz :: .int (nI cz) :: .int mch :: .int mft :: .int mpt :: .int mdp :: .int mvd :: .long mnw :: .int mmk :: []))) (G36.set i_7 (mo, .inr (12, (.int 0 :: .int (nI ((fd + z36) + 1)) :: .int mwr :: .int (nI K9) :: .int (nI KL) :: .ref moc :: .ref msT :: .ref mrV :: .ref msP :: .int mqs :: .ref mrA :: .ref mbA :: .ref mwA :: .ref mhA :: .ref mfA :: .ref mpA :: .ref mxA :: .ref myA :: .ref mmA :: .ref mqA :: .ref mzA :: .ref mwy :: .ref mfd :: .int msz :: .int (nI cz) :: .int mch :: .int mft :: .int mpt :: .int mdp :: .int mvd :: .long mnw :: .int mmk :: [])))) := ⟨kmo.1, List.mem_of_getElem? hg_7⟩
              have hD := hD3
              clear hD3 hD2
              generalize G36.set i_7 (mo, .inr (12, (.int 0 :: .int (nI ((fd + z36) + 1)) :: .int mwr :: .int (nI K9) :: .int (nI KL) :: .ref moc :: .ref msT :: .ref mrV :: .ref msP :: .int mqs :: .ref mrA :: .ref mbA :: .ref mwA :: .ref mhA :: .ref mfA :: .ref mpA :: .ref mxA :: .ref myA :: .ref mmA :: .ref mqA :: .ref mzA :: .ref mwy :: .ref mfd :: .int msz :: .int (nI cz) :: .int mch :: .int mft :: .int mpt :: .int mdp :: .int mvd :: .long mnw :: .int mmk :: []))) = G_8 at hP hD hTy hFR kmo kmoc hg_7
              obtain ⟨cX_9, eX_9⟩ : ∃ z : va_E, z = .inr (12, (.int 0 :: .int (nI ((fd + z36) + 1)) :: .int mwr :: .int (nI K9) :: .int (nI KL) :: .ref moc :: .ref msT :: .ref mrV :: .ref msP :: .int mqs :: .ref mrA :: .ref mbA :: .ref mwA :: .ref mhA :: .ref mfA :: .ref mpA :: .ref mxA :: .ref myA :: .ref mmA :: .ref mqA :: .ref mzA :: .ref mwy :: .ref mfd :: .int msz :: .int (nI cz) :: .int mch :: .int mft :: .int mpt :: .int mdp :: .int mvd :: .long mnw :: .int mmk :: [])) := ⟨_, rfl⟩
              rw [← eX_9] at kmo
              refine lv_iload hx hb d_Model_feed_106 (lv_at hl 0 rfl) ?_
              refine lv_bipush (v := 24) hx hb d_Model_feed_108 (by decide) ?_
              refine lv_bipush (v := 8) hx hb d_Model_feed_110 (by decide) ?_
              refine lv_iload hx hb d_Model_feed_112 (lv_at hl 1 rfl) ?_
              refine lv_iconst (v := 3) hx hb d_Model_feed_114 (by decide) ?_
              refine lv_iand hx hb d_Model_feed_115 ?_
              refine lv_imul hx hb d_Model_feed_116 ?_
              refine lv_isub hx hb d_Model_feed_117 ?_
              refine lv_iushr (v := (e5.toUInt32 >>> ((24 - (8 * ((nI z36) &&& 3))).toUInt32 &&& Int32.toUInt32 31)).toInt32) hx hb d_Model_feed_118 rfl ?_
              refine lv_sipush (v := 255) hx hb d_Model_feed_119 (by decide) ?_
              refine lv_iand hx hb d_Model_feed_122 ?_
              obtain ⟨i_10, hg_10⟩ := List.getElem?_of_mem kmoc.2
              have h123 : vp_in (nI (fd + z36)) 2060 := vp_in_nI (by omega) (by omega)
              refine va_iast hx hb hK hP hD hS i_10 1 hg_10 rfl h123 d_Model_feed_123 (fun H123 locs hP hD2 hS => ?_)
              obtain ⟨f123, ef123⟩ : ∃ z : Nat → Int32, z = upd f36_moc (nI (fd + z36)).toNatClampNeg (((e5.toUInt32 >>> ((24 - (8 * ((nI z36) &&& 3))).toUInt32 &&& Int32.toUInt32 31)).toInt32) &&& 255) := ⟨_, rfl⟩
              rw [← ef123] at hP hD2
              have hP : va_P (dC, dI) classes (G_8.set i_10 (moc, .inl (γ.2.1, 2060, .inl f123))) H123 := hP
              have hD3 : va_D A (G_8.set i_10 (moc, .inl (γ.2.1, 2060, .inl f123))) := hD2
              have hTy := TR.setX (c' := .inl (γ.2.1, 2060, .inl f123)) hTy hg_10 kmoc.1
              have kmo := Xc.setX (c' := .inl (γ.2.1, 2060, .inl f123)) kmo hg_10 (fun e => hx_mo_moc (congrArg Prod.fst e))
              have hFR := hFR.tr (FL.set (Ad := Ad) (X := [mo, moc]) (c' := .inl (γ.2.1, 2060, .inl f123)) hg_10 (by simp))
              have hg_10 := set_here (c' := .inl (γ.2.1, 2060, .inl f123)) hg_10
              have kmoc : Xc Ad moc (.inl (γ.2.1, 2060, .inl f123)) (G_8.set i_10 (moc, .inl (γ.2.1, 2060, .inl f123))) := ⟨kmoc.1, List.mem_of_getElem? hg_10⟩
              have hD := hD3
              clear hD3 hD2
              generalize G_8.set i_10 (moc, .inl (γ.2.1, 2060, .inl f123)) = G_11 at hP hD hTy hFR kmo kmoc hg_10
              refine lv_iinc (v := nI (z36 + 1)) (lv' := [(6, .int (nI (z36 + 1))), (7, .int e5), (0, .ref mo), (1, .int a5), (2, .int b5), (3, .int c5), (4, .int d5), (5, .int e5)]) hx hb d_Model_feed_124 hl (k := 1) rfl (nI_1 _) (by decide) rfl (fun ls hl => ?_)
              refine lv_goto (tgt := 36) hx hb d_Model_feed_127 (by decide) ?_
              exact ih36 (z36 + 1, f123, nI ((fd + z36) + 1), G_11) _ _ ls (by dsimp only; omega) ⟨by dsimp only; omega, by dsimp only; omega, hTy, hFR, (by have h9 := kmo; rw [eX_9] at h9; exact h9), kmoc, ⟨fd_step hJf ef123 (by unfold fo5; rw [if_neg (by omega), if_neg (by omega), if_neg (by omega), if_neg (by omega)]), rfl⟩⟩ hP hD hS (lv_sub hl [0, 2, 3, 4, 5, 6, 7] rfl)
            · have p79 : ¬ (16 ≤ z36) := (fun q9 => c79 ((nI_leI (a := 16) (b := z36) (by omega) (by omega)).mpr q9))
              refine lv_iload hx hb d_Model_feed_82 (lv_at hl 5 rfl) ?_
              refine lv_goto (tgt := 89) hx hb d_Model_feed_84 (by decide) ?_
              refine lv_istore (lv' := [(7, .int d5), (6, .int (nI z36)), (0, .ref mo), (1, .int a5), (2, .int b5), (3, .int c5), (4, .int d5), (5, .int e5)]) hx hb d_Model_feed_89 hl (by decide) rfl (fun ls hl => ?_)
              refine lv_aload_n hx hb d_Model_feed_91 rfl (lv_at hl 2 rfl) ?_
              obtain ⟨i_12, hg_12⟩ := List.getElem?_of_mem kmo.2
              rw [eX_5] at hg_12
              refine va_get (v := .ref moc) hx hb htb i_Model hown hK hP i_12 hg_12 rfl 5 (by decide) (htb _ q7_219) (fun _ h9 => h9) rfl d_Model_feed_92 ?_
              refine lv_aload_n hx hb d_Model_feed_95 rfl (lv_at hl 2 rfl) ?_
              refine lv_dup hx hb d_Model_feed_96 rfl ?_
              refine va_get (v := .int (nI (fd + z36))) hx hb htb i_Model hown hK hP i_12 hg_12 rfl 1 (by decide) (htb _ q7_215) (fun _ h9 => h9) rfl d_Model_feed_97 ?_
              refine lv_dup_x1 hx hb d_Model_feed_100 rfl rfl ?_
              refine lv_iconst (v := 1) hx hb d_Model_feed_101 (by decide) ?_
              refine lv_iadd hx hb d_Model_feed_102 ?_
              rw [show ((nI (fd + z36)) + 1 : Int32) = nI ((fd + z36) + 1) from nI_add (fd + z36) 1]
              refine va_put (v := .int (nI ((fd + z36) + 1))) (ty := .int) hx hb htb i_Model t_Model t_Model_ok n_Model hown hK hP hD hS i_12 hg_12 rfl 1 (by decide) (htb _ q7_215) (fun _ h9 => h9) rfl (by decide +kernel) rfl rfl (Nat.le_of_ble_eq_true rfl) d_Model_feed_103 (fun H103 locs hP hD2 hS => ?_)
              have hP : va_P (dC, dI) classes (G36.set i_12 (mo, .inr (12, (.int 0 :: .int (nI ((fd + z36) + 1)) :: .int mwr :: .int (nI K9) :: .int (nI KL) :: .ref moc :: .ref msT :: .ref mrV :: .ref msP :: .int mqs :: .ref mrA :: .ref mbA :: .ref mwA :: .ref mhA :: .ref mfA :: .ref mpA :: .ref mxA :: .ref myA :: .ref mmA :: .ref mqA :: .ref mzA :: .ref mwy :: .ref mfd :: .int msz :: .int (nI cz) :: .int mch :: .int mft :: .int mpt :: .int mdp :: .int mvd :: .long mnw :: .int mmk :: [])))) H103 := hP
              have hD3 : va_D A (G36.set i_12 (mo, .inr (12, (.int 0 :: .int (nI ((fd + z36) + 1)) :: .int mwr :: .int (nI K9) :: .int (nI KL) :: .ref moc :: .ref msT :: .ref mrV :: .ref msP :: .int mqs :: .ref mrA :: .ref mbA :: .ref mwA :: .ref mhA :: .ref mfA :: .ref mpA :: .ref mxA :: .ref myA :: .ref mmA :: .ref mqA :: .ref mzA :: .ref mwy :: .ref mfd :: .int msz :: .int (nI cz) :: .int mch :: .int mft :: .int mpt :: .int mdp :: .int mvd :: .long mnw :: .int mmk :: [])))) := hD2
              have hTy := TR.setX (c' := .inr (12, (.int 0 :: .int (nI ((fd + z36) + 1)) :: .int mwr :: .int (nI K9) :: .int (nI KL) :: .ref moc :: .ref msT :: .ref mrV :: .ref msP :: .int mqs :: .ref mrA :: .ref mbA :: .ref mwA :: .ref mhA :: .ref mfA :: .ref mpA :: .ref mxA :: .ref myA :: .ref mmA :: .ref mqA :: .ref mzA :: .ref mwy :: .ref mfd :: .int msz :: .int (nI cz) :: .int mch :: .int mft :: .int mpt :: .int mdp :: .int mvd :: .long mnw :: .int mmk :: []))) hTy hg_12 kmo.1
              have kmoc := Xc.setX (c' := .inr (12, (.int 0 :: .int (nI ((fd + z36) + 1)) :: .int mwr :: .int (nI K9) :: .int (nI KL) :: .ref moc :: .ref msT :: .ref mrV :: .ref msP :: .int mqs :: .ref mrA :: .ref mbA :: .ref mwA :: .ref mhA :: .ref mfA :: .ref mpA :: .ref mxA :: .ref myA :: .ref mmA :: .ref mqA :: .ref mzA :: .ref mwy :: .ref mfd :: .int msz :: .int (nI cz) :: .int mch :: .int mft :: .int mpt :: .int mdp :: .int mvd :: .long mnw :: .int mmk :: []))) kmoc hg_12 (fun e => hx_mo_moc.symm (congrArg Prod.fst e))
              have hFR := hFR.tr (FL.set (Ad := Ad) (X := [mo, moc]) (c' := .inr (12, (.int 0 :: .int (nI ((fd + z36) + 1)) :: .int mwr :: .int (nI K9) :: .int (nI KL) :: .ref moc :: .ref msT :: .ref mrV :: .ref msP :: .int mqs :: .ref mrA :: .ref mbA :: .ref mwA :: .ref mhA :: .ref mfA :: .ref mpA :: .ref mxA :: .ref myA :: .ref mmA :: .ref mqA :: .ref mzA :: .ref mwy :: .ref mfd :: .int msz :: .int (nI cz) :: .int mch :: .int mft :: .int mpt :: .int mdp :: .int mvd :: .long mnw :: .int mmk :: []))) hg_12 (by simp))
              have hg_12 := set_here (c' := .inr (12, (.int 0 :: .int (nI ((fd + z36) + 1)) :: .int mwr :: .int (nI K9) :: .int (nI KL) :: .ref moc :: .ref msT :: .ref mrV :: .ref msP :: .int mqs :: .ref mrA :: .ref mbA :: .ref mwA :: .ref mhA :: .ref mfA :: .ref mpA :: .ref mxA :: .ref myA :: .ref mmA :: .ref mqA :: .ref mzA :: .ref mwy :: .ref mfd :: .int msz :: .int (nI cz) :: .int mch :: .int mft :: .int mpt :: .int mdp :: .int mvd :: .long mnw :: .int mmk :: []))) hg_12
              have kmo : Xc Ad mo (.inr (12, (.int 0 :: .int (nI ((fd + z36) + 1)) :: .int mwr :: .int (nI K9) :: .int (nI KL) :: .ref moc :: .ref msT :: .ref mrV :: .ref msP :: .int mqs :: .ref mrA :: .ref mbA :: .ref mwA :: .ref mhA :: .ref mfA :: .ref mpA :: .ref mxA :: .ref myA :: .ref mmA :: .ref mqA :: .ref mzA :: .ref mwy :: .ref mfd :: .int msz :: .int (nI cz) :: .int mch :: .int mft :: .int mpt :: .int mdp :: .int mvd :: .long mnw :: .int mmk :: []))) (G36.set i_12 (mo, .inr (12, (.int 0 :: .int (nI ((fd + z36) + 1)) :: .int mwr :: .int (nI K9) :: .int (nI KL) :: .ref moc :: .ref msT :: .ref mrV :: .ref msP :: .int mqs :: .ref mrA :: .ref mbA :: .ref mwA :: .ref mhA :: .ref mfA :: .ref mpA :: .ref mxA :: .ref myA :: .ref mmA :: .ref mqA :: .ref mzA :: .ref mwy :: .ref mfd :: .int msz :: .int (nI cz) :: .int mch :: .int mft :: .int mpt :: .int mdp :: .int mvd :: .long mnw :: .int mmk :: [])))) := ⟨kmo.1, List.mem_of_getElem? hg_12⟩
              have hD := hD3
              clear hD3 hD2
              generalize G36.set i_12 (mo, .inr (12, (.int 0 :: .int (nI ((fd + z36) + 1)) :: .int mwr :: .int (nI K9) :: .int (nI KL) :: .ref moc :: .ref msT :: .ref mrV :: .ref msP :: .int mqs :: .ref mrA :: .ref mbA :: .ref mwA :: .ref mhA :: .ref mfA :: .ref mpA :: .ref mxA :: .ref myA :: .ref mmA :: .ref mqA :: .ref mzA :: .ref mwy :: .ref mfd :: .int msz :: .int (nI cz) :: .int mch :: .int mft :: .int mpt :: .int mdp :: .int mvd :: .long mnw :: .int mmk :: []))) = G_13 at hP hD hTy hFR kmo kmoc hg_12
              obtain ⟨cX_14, eX_14⟩ : ∃ z : va_E, z = .inr (12, (.int 0 :: .int (nI ((fd + z36) + 1)) :: .int mwr :: .int (nI K9) :: .int (nI KL) :: .ref moc :: .ref msT :: .ref mrV :: .ref msP :: .int mqs :: .ref mrA :: .ref mbA :: .ref mwA :: .ref mhA :: .ref mfA :: .ref mpA :: .ref mxA :: .ref myA :: .ref mmA :: .ref mqA :: .ref mzA :: .ref mwy :: .ref mfd :: .int msz :: .int (nI cz) :: .int mch :: .int mft :: .int mpt :: .int mdp :: .int mvd :: .long mnw :: .int mmk :: [])) := ⟨_, rfl⟩
              rw [← eX_14] at kmo
              refine lv_iload hx hb d_Model_feed_106 (lv_at hl 0 rfl) ?_
              refine lv_bipush (v := 24) hx hb d_Model_feed_108 (by decide) ?_
              refine lv_bipush (v := 8) hx hb d_Model_feed_110 (by decide) ?_
              refine lv_iload hx hb d_Model_feed_112 (lv_at hl 1 rfl) ?_
              refine lv_iconst (v := 3) hx hb d_Model_feed_114 (by decide) ?_
              refine lv_iand hx hb d_Model_feed_115 ?_
              refine lv_imul hx hb d_Model_feed_116 ?_
              refine lv_isub hx hb d_Model_feed_117 ?_
              refine lv_iushr (v := (d5.toUInt32 >>> ((24 - (8 * ((nI z36) &&& 3))).toUInt32 &&& Int32.toUInt32 31)).toInt32) hx hb d_Model_feed_118 rfl ?_
              refine lv_sipush (v := 255) hx hb d_Model_feed_119 (by decide) ?_
              refine lv_iand hx hb d_Model_feed_122 ?_
              obtain ⟨i_15, hg_15⟩ := List.getElem?_of_mem kmoc.2
              have h123 : vp_in (nI (fd + z36)) 2060 := vp_in_nI (by omega) (by omega)
              refine va_iast hx hb hK hP hD hS i_15 1 hg_15 rfl h123 d_Model_feed_123 (fun H123 locs hP hD2 hS => ?_)
              obtain ⟨f123, ef123⟩ : ∃ z : Nat → Int32, z = upd f36_moc (nI (fd + z36)).toNatClampNeg (((d5.toUInt32 >>> ((24 - (8 * ((nI z36) &&& 3))).toUInt32 &&& Int32.toUInt32 31)).toInt32) &&& 255) := ⟨_, rfl⟩
              rw [← ef123] at hP hD2
              have hP : va_P (dC, dI) classes (G_13.set i_15 (moc, .inl (γ.2.1, 2060, .inl f123))) H123 := hP
              have hD3 : va_D A (G_13.set i_15 (moc, .inl (γ.2.1, 2060, .inl f123))) := hD2
              have hTy := TR.setX (c' := .inl (γ.2.1, 2060, .inl f123)) hTy hg_15 kmoc.1
              have kmo := Xc.setX (c' := .inl (γ.2.1, 2060, .inl f123)) kmo hg_15 (fun e => hx_mo_moc (congrArg Prod.fst e))
              have hFR := hFR.tr (FL.set (Ad := Ad) (X := [mo, moc]) (c' := .inl (γ.2.1, 2060, .inl f123)) hg_15 (by simp))
              have hg_15 := set_here (c' := .inl (γ.2.1, 2060, .inl f123)) hg_15
              have kmoc : Xc Ad moc (.inl (γ.2.1, 2060, .inl f123)) (G_13.set i_15 (moc, .inl (γ.2.1, 2060, .inl f123))) := ⟨kmoc.1, List.mem_of_getElem? hg_15⟩
              have hD := hD3
              clear hD3 hD2
              generalize G_13.set i_15 (moc, .inl (γ.2.1, 2060, .inl f123)) = G_16 at hP hD hTy hFR kmo kmoc hg_15
              refine lv_iinc (v := nI (z36 + 1)) (lv' := [(6, .int (nI (z36 + 1))), (7, .int d5), (0, .ref mo), (1, .int a5), (2, .int b5), (3, .int c5), (4, .int d5), (5, .int e5)]) hx hb d_Model_feed_124 hl (k := 1) rfl (nI_1 _) (by decide) rfl (fun ls hl => ?_)
              refine lv_goto (tgt := 36) hx hb d_Model_feed_127 (by decide) ?_
              exact ih36 (z36 + 1, f123, nI ((fd + z36) + 1), G_16) _ _ ls (by dsimp only; omega) ⟨by dsimp only; omega, by dsimp only; omega, hTy, hFR, (by have h9 := kmo; rw [eX_14] at h9; exact h9), kmoc, ⟨fd_step hJf ef123 (by unfold fo5; rw [if_neg (by omega), if_neg (by omega), if_neg (by omega), if_pos (by omega)]), rfl⟩⟩ hP hD hS (lv_sub hl [0, 2, 3, 4, 5, 6, 7] rfl)
          · have p68 : ¬ (12 ≤ z36) := (fun q9 => c68 ((nI_leI (a := 12) (b := z36) (by omega) (by omega)).mpr q9))
            refine lv_iload_n hx hb d_Model_feed_71 rfl (lv_at hl 4 rfl) ?_
            refine lv_goto (tgt := 89) hx hb d_Model_feed_72 (by decide) ?_
            refine lv_istore (lv' := [(7, .int c5), (6, .int (nI z36)), (0, .ref mo), (1, .int a5), (2, .int b5), (3, .int c5), (4, .int d5), (5, .int e5)]) hx hb d_Model_feed_89 hl (by decide) rfl (fun ls hl => ?_)
            refine lv_aload_n hx hb d_Model_feed_91 rfl (lv_at hl 2 rfl) ?_
            obtain ⟨i_17, hg_17⟩ := List.getElem?_of_mem kmo.2
            rw [eX_5] at hg_17
            refine va_get (v := .ref moc) hx hb htb i_Model hown hK hP i_17 hg_17 rfl 5 (by decide) (htb _ q7_219) (fun _ h9 => h9) rfl d_Model_feed_92 ?_
            refine lv_aload_n hx hb d_Model_feed_95 rfl (lv_at hl 2 rfl) ?_
            refine lv_dup hx hb d_Model_feed_96 rfl ?_
            refine va_get (v := .int (nI (fd + z36))) hx hb htb i_Model hown hK hP i_17 hg_17 rfl 1 (by decide) (htb _ q7_215) (fun _ h9 => h9) rfl d_Model_feed_97 ?_
            refine lv_dup_x1 hx hb d_Model_feed_100 rfl rfl ?_
            refine lv_iconst (v := 1) hx hb d_Model_feed_101 (by decide) ?_
            refine lv_iadd hx hb d_Model_feed_102 ?_
            rw [show ((nI (fd + z36)) + 1 : Int32) = nI ((fd + z36) + 1) from nI_add (fd + z36) 1]
            refine va_put (v := .int (nI ((fd + z36) + 1))) (ty := .int) hx hb htb i_Model t_Model t_Model_ok n_Model hown hK hP hD hS i_17 hg_17 rfl 1 (by decide) (htb _ q7_215) (fun _ h9 => h9) rfl (by decide +kernel) rfl rfl (Nat.le_of_ble_eq_true rfl) d_Model_feed_103 (fun H103 locs hP hD2 hS => ?_)
            have hP : va_P (dC, dI) classes (G36.set i_17 (mo, .inr (12, (.int 0 :: .int (nI ((fd + z36) + 1)) :: .int mwr :: .int (nI K9) :: .int (nI KL) :: .ref moc :: .ref msT :: .ref mrV :: .ref msP :: .int mqs :: .ref mrA :: .ref mbA :: .ref mwA :: .ref mhA :: .ref mfA :: .ref mpA :: .ref mxA :: .ref myA :: .ref mmA :: .ref mqA :: .ref mzA :: .ref mwy :: .ref mfd :: .int msz :: .int (nI cz) :: .int mch :: .int mft :: .int mpt :: .int mdp :: .int mvd :: .long mnw :: .int mmk :: [])))) H103 := hP
            have hD3 : va_D A (G36.set i_17 (mo, .inr (12, (.int 0 :: .int (nI ((fd + z36) + 1)) :: .int mwr :: .int (nI K9) :: .int (nI KL) :: .ref moc :: .ref msT :: .ref mrV :: .ref msP :: .int mqs :: .ref mrA :: .ref mbA :: .ref mwA :: .ref mhA :: .ref mfA :: .ref mpA :: .ref mxA :: .ref myA :: .ref mmA :: .ref mqA :: .ref mzA :: .ref mwy :: .ref mfd :: .int msz :: .int (nI cz) :: .int mch :: .int mft :: .int mpt :: .int mdp :: .int mvd :: .long mnw :: .int mmk :: [])))) := hD2
            have hTy := TR.setX (c' := .inr (12, (.int 0 :: .int (nI ((fd + z36) + 1)) :: .int mwr :: .int (nI K9) :: .int (nI KL) :: .ref moc :: .ref msT :: .ref mrV :: .ref msP :: .int mqs :: .ref mrA :: .ref mbA :: .ref mwA :: .ref mhA :: .ref mfA :: .ref mpA :: .ref mxA :: .ref myA :: .ref mmA :: .ref mqA :: .ref mzA :: .ref mwy :: .ref mfd :: .int msz :: .int (nI cz) :: .int mch :: .int mft :: .int mpt :: .int mdp :: .int mvd :: .long mnw :: .int mmk :: []))) hTy hg_17 kmo.1
            have kmoc := Xc.setX (c' := .inr (12, (.int 0 :: .int (nI ((fd + z36) + 1)) :: .int mwr :: .int (nI K9) :: .int (nI KL) :: .ref moc :: .ref msT :: .ref mrV :: .ref msP :: .int mqs :: .ref mrA :: .ref mbA :: .ref mwA :: .ref mhA :: .ref mfA :: .ref mpA :: .ref mxA :: .ref myA :: .ref mmA :: .ref mqA :: .ref mzA :: .ref mwy :: .ref mfd :: .int msz :: .int (nI cz) :: .int mch :: .int mft :: .int mpt :: .int mdp :: .int mvd :: .long mnw :: .int mmk :: []))) kmoc hg_17 (fun e => hx_mo_moc.symm (congrArg Prod.fst e))
            have hFR := hFR.tr (FL.set (Ad := Ad) (X := [mo, moc]) (c' := .inr (12, (.int 0 :: .int (nI ((fd + z36) + 1)) :: .int mwr :: .int (nI K9) :: .int (nI KL) :: .ref moc :: .ref msT :: .ref mrV :: .ref msP :: .int mqs :: .ref mrA :: .ref mbA :: .ref mwA :: .ref mhA :: .ref mfA :: .ref mpA :: .ref mxA :: .ref myA :: .ref mmA :: .ref mqA :: .ref mzA :: .ref mwy :: .ref mfd :: .int msz :: .int (nI cz) :: .int mch :: .int mft :: .int mpt :: .int mdp :: .int mvd :: .long mnw :: .int mmk :: []))) hg_17 (by simp))
            have hg_17 := set_here (c' := .inr (12, (.int 0 :: .int (nI ((fd + z36) + 1)) :: .int mwr :: .int (nI K9) :: .int (nI KL) :: .ref moc :: .ref msT :: .ref mrV :: .ref msP :: .int mqs :: .ref mrA :: .ref mbA :: .ref mwA :: .ref mhA :: .ref mfA :: .ref mpA :: .ref mxA :: .ref myA :: .ref mmA :: .ref mqA :: .ref mzA :: .ref mwy :: .ref mfd :: .int msz :: .int (nI cz) :: .int mch :: .int mft :: .int mpt :: .int mdp :: .int mvd :: .long mnw :: .int mmk :: []))) hg_17
            have kmo : Xc Ad mo (.inr (12, (.int 0 :: .int (nI ((fd + z36) + 1)) :: .int mwr :: .int (nI K9) :: .int (nI KL) :: .ref moc :: .ref msT :: .ref mrV :: .ref msP :: .int mqs :: .ref mrA :: .ref mbA :: .ref mwA :: .ref mhA :: .ref mfA :: .ref mpA :: .ref mxA :: .ref myA :: .ref mmA :: .ref mqA :: .ref mzA :: .ref mwy :: .ref mfd :: .int msz :: .int (nI cz) :: .int mch :: .int mft :: .int mpt :: .int mdp :: .int mvd :: .long mnw :: .int mmk :: []))) (G36.set i_17 (mo, .inr (12, (.int 0 :: .int (nI ((fd + z36) + 1)) :: .int mwr :: .int (nI K9) :: .int (nI KL) :: .ref moc :: .ref msT :: .ref mrV :: .ref msP :: .int mqs :: .ref mrA :: .ref mbA :: .ref mwA :: .ref mhA :: .ref mfA :: .ref mpA :: .ref mxA :: .ref myA :: .ref mmA :: .ref mqA :: .ref mzA :: .ref mwy :: .ref mfd :: .int msz :: .int (nI cz) :: .int mch :: .int mft :: .int mpt :: .int mdp :: .int mvd :: .long mnw :: .int mmk :: [])))) := ⟨kmo.1, List.mem_of_getElem? hg_17⟩
            have hD := hD3
            clear hD3 hD2
            generalize G36.set i_17 (mo, .inr (12, (.int 0 :: .int (nI ((fd + z36) + 1)) :: .int mwr :: .int (nI K9) :: .int (nI KL) :: .ref moc :: .ref msT :: .ref mrV :: .ref msP :: .int mqs :: .ref mrA :: .ref mbA :: .ref mwA :: .ref mhA :: .ref mfA :: .ref mpA :: .ref mxA :: .ref myA :: .ref mmA :: .ref mqA :: .ref mzA :: .ref mwy :: .ref mfd :: .int msz :: .int (nI cz) :: .int mch :: .int mft :: .int mpt :: .int mdp :: .int mvd :: .long mnw :: .int mmk :: []))) = G_18 at hP hD hTy hFR kmo kmoc hg_17
            obtain ⟨cX_19, eX_19⟩ : ∃ z : va_E, z = .inr (12, (.int 0 :: .int (nI ((fd + z36) + 1)) :: .int mwr :: .int (nI K9) :: .int (nI KL) :: .ref moc :: .ref msT :: .ref mrV :: .ref msP :: .int mqs :: .ref mrA :: .ref mbA :: .ref mwA :: .ref mhA :: .ref mfA :: .ref mpA :: .ref mxA :: .ref myA :: .ref mmA :: .ref mqA :: .ref mzA :: .ref mwy :: .ref mfd :: .int msz :: .int (nI cz) :: .int mch :: .int mft :: .int mpt :: .int mdp :: .int mvd :: .long mnw :: .int mmk :: [])) := ⟨_, rfl⟩
            rw [← eX_19] at kmo
            refine lv_iload hx hb d_Model_feed_106 (lv_at hl 0 rfl) ?_
            refine lv_bipush (v := 24) hx hb d_Model_feed_108 (by decide) ?_
            refine lv_bipush (v := 8) hx hb d_Model_feed_110 (by decide) ?_
            refine lv_iload hx hb d_Model_feed_112 (lv_at hl 1 rfl) ?_
            refine lv_iconst (v := 3) hx hb d_Model_feed_114 (by decide) ?_
            refine lv_iand hx hb d_Model_feed_115 ?_
            refine lv_imul hx hb d_Model_feed_116 ?_
            refine lv_isub hx hb d_Model_feed_117 ?_
            refine lv_iushr (v := (c5.toUInt32 >>> ((24 - (8 * ((nI z36) &&& 3))).toUInt32 &&& Int32.toUInt32 31)).toInt32) hx hb d_Model_feed_118 rfl ?_
            refine lv_sipush (v := 255) hx hb d_Model_feed_119 (by decide) ?_
            refine lv_iand hx hb d_Model_feed_122 ?_
            obtain ⟨i_20, hg_20⟩ := List.getElem?_of_mem kmoc.2
            have h123 : vp_in (nI (fd + z36)) 2060 := vp_in_nI (by omega) (by omega)
            refine va_iast hx hb hK hP hD hS i_20 1 hg_20 rfl h123 d_Model_feed_123 (fun H123 locs hP hD2 hS => ?_)
            obtain ⟨f123, ef123⟩ : ∃ z : Nat → Int32, z = upd f36_moc (nI (fd + z36)).toNatClampNeg (((c5.toUInt32 >>> ((24 - (8 * ((nI z36) &&& 3))).toUInt32 &&& Int32.toUInt32 31)).toInt32) &&& 255) := ⟨_, rfl⟩
            rw [← ef123] at hP hD2
            have hP : va_P (dC, dI) classes (G_18.set i_20 (moc, .inl (γ.2.1, 2060, .inl f123))) H123 := hP
            have hD3 : va_D A (G_18.set i_20 (moc, .inl (γ.2.1, 2060, .inl f123))) := hD2
            have hTy := TR.setX (c' := .inl (γ.2.1, 2060, .inl f123)) hTy hg_20 kmoc.1
            have kmo := Xc.setX (c' := .inl (γ.2.1, 2060, .inl f123)) kmo hg_20 (fun e => hx_mo_moc (congrArg Prod.fst e))
            have hFR := hFR.tr (FL.set (Ad := Ad) (X := [mo, moc]) (c' := .inl (γ.2.1, 2060, .inl f123)) hg_20 (by simp))
            have hg_20 := set_here (c' := .inl (γ.2.1, 2060, .inl f123)) hg_20
            have kmoc : Xc Ad moc (.inl (γ.2.1, 2060, .inl f123)) (G_18.set i_20 (moc, .inl (γ.2.1, 2060, .inl f123))) := ⟨kmoc.1, List.mem_of_getElem? hg_20⟩
            have hD := hD3
            clear hD3 hD2
            generalize G_18.set i_20 (moc, .inl (γ.2.1, 2060, .inl f123)) = G_21 at hP hD hTy hFR kmo kmoc hg_20
            refine lv_iinc (v := nI (z36 + 1)) (lv' := [(6, .int (nI (z36 + 1))), (7, .int c5), (0, .ref mo), (1, .int a5), (2, .int b5), (3, .int c5), (4, .int d5), (5, .int e5)]) hx hb d_Model_feed_124 hl (k := 1) rfl (nI_1 _) (by decide) rfl (fun ls hl => ?_)
            refine lv_goto (tgt := 36) hx hb d_Model_feed_127 (by decide) ?_
            exact ih36 (z36 + 1, f123, nI ((fd + z36) + 1), G_21) _ _ ls (by dsimp only; omega) ⟨by dsimp only; omega, by dsimp only; omega, hTy, hFR, (by have h9 := kmo; rw [eX_19] at h9; exact h9), kmoc, ⟨fd_step hJf ef123 (by unfold fo5; rw [if_neg (by omega), if_neg (by omega), if_pos (by omega)]), rfl⟩⟩ hP hD hS (lv_sub hl [0, 2, 3, 4, 5, 6, 7] rfl)
        · have p57 : ¬ (8 ≤ z36) := (fun q9 => c57 ((nI_leI (a := 8) (b := z36) (by omega) (by omega)).mpr q9))
          refine lv_iload_n hx hb d_Model_feed_60 rfl (lv_at hl 3 rfl) ?_
          refine lv_goto (tgt := 89) hx hb d_Model_feed_61 (by decide) ?_
          refine lv_istore (lv' := [(7, .int b5), (6, .int (nI z36)), (0, .ref mo), (1, .int a5), (2, .int b5), (3, .int c5), (4, .int d5), (5, .int e5)]) hx hb d_Model_feed_89 hl (by decide) rfl (fun ls hl => ?_)
          refine lv_aload_n hx hb d_Model_feed_91 rfl (lv_at hl 2 rfl) ?_
          obtain ⟨i_22, hg_22⟩ := List.getElem?_of_mem kmo.2
          rw [eX_5] at hg_22
          refine va_get (v := .ref moc) hx hb htb i_Model hown hK hP i_22 hg_22 rfl 5 (by decide) (htb _ q7_219) (fun _ h9 => h9) rfl d_Model_feed_92 ?_
          refine lv_aload_n hx hb d_Model_feed_95 rfl (lv_at hl 2 rfl) ?_
          refine lv_dup hx hb d_Model_feed_96 rfl ?_
          refine va_get (v := .int (nI (fd + z36))) hx hb htb i_Model hown hK hP i_22 hg_22 rfl 1 (by decide) (htb _ q7_215) (fun _ h9 => h9) rfl d_Model_feed_97 ?_
          refine lv_dup_x1 hx hb d_Model_feed_100 rfl rfl ?_
          refine lv_iconst (v := 1) hx hb d_Model_feed_101 (by decide) ?_
          refine lv_iadd hx hb d_Model_feed_102 ?_
          rw [show ((nI (fd + z36)) + 1 : Int32) = nI ((fd + z36) + 1) from nI_add (fd + z36) 1]
          refine va_put (v := .int (nI ((fd + z36) + 1))) (ty := .int) hx hb htb i_Model t_Model t_Model_ok n_Model hown hK hP hD hS i_22 hg_22 rfl 1 (by decide) (htb _ q7_215) (fun _ h9 => h9) rfl (by decide +kernel) rfl rfl (Nat.le_of_ble_eq_true rfl) d_Model_feed_103 (fun H103 locs hP hD2 hS => ?_)
          have hP : va_P (dC, dI) classes (G36.set i_22 (mo, .inr (12, (.int 0 :: .int (nI ((fd + z36) + 1)) :: .int mwr :: .int (nI K9) :: .int (nI KL) :: .ref moc :: .ref msT :: .ref mrV :: .ref msP :: .int mqs :: .ref mrA :: .ref mbA :: .ref mwA :: .ref mhA :: .ref mfA :: .ref mpA :: .ref mxA :: .ref myA :: .ref mmA :: .ref mqA :: .ref mzA :: .ref mwy :: .ref mfd :: .int msz :: .int (nI cz) :: .int mch :: .int mft :: .int mpt :: .int mdp :: .int mvd :: .long mnw :: .int mmk :: [])))) H103 := hP
          have hD3 : va_D A (G36.set i_22 (mo, .inr (12, (.int 0 :: .int (nI ((fd + z36) + 1)) :: .int mwr :: .int (nI K9) :: .int (nI KL) :: .ref moc :: .ref msT :: .ref mrV :: .ref msP :: .int mqs :: .ref mrA :: .ref mbA :: .ref mwA :: .ref mhA :: .ref mfA :: .ref mpA :: .ref mxA :: .ref myA :: .ref mmA :: .ref mqA :: .ref mzA :: .ref mwy :: .ref mfd :: .int msz :: .int (nI cz) :: .int mch :: .int mft :: .int mpt :: .int mdp :: .int mvd :: .long mnw :: .int mmk :: [])))) := hD2
          have hTy := TR.setX (c' := .inr (12, (.int 0 :: .int (nI ((fd + z36) + 1)) :: .int mwr :: .int (nI K9) :: .int (nI KL) :: .ref moc :: .ref msT :: .ref mrV :: .ref msP :: .int mqs :: .ref mrA :: .ref mbA :: .ref mwA :: .ref mhA :: .ref mfA :: .ref mpA :: .ref mxA :: .ref myA :: .ref mmA :: .ref mqA :: .ref mzA :: .ref mwy :: .ref mfd :: .int msz :: .int (nI cz) :: .int mch :: .int mft :: .int mpt :: .int mdp :: .int mvd :: .long mnw :: .int mmk :: []))) hTy hg_22 kmo.1
          have kmoc := Xc.setX (c' := .inr (12, (.int 0 :: .int (nI ((fd + z36) + 1)) :: .int mwr :: .int (nI K9) :: .int (nI KL) :: .ref moc :: .ref msT :: .ref mrV :: .ref msP :: .int mqs :: .ref mrA :: .ref mbA :: .ref mwA :: .ref mhA :: .ref mfA :: .ref mpA :: .ref mxA :: .ref myA :: .ref mmA :: .ref mqA :: .ref mzA :: .ref mwy :: .ref mfd :: .int msz :: .int (nI cz) :: .int mch :: .int mft :: .int mpt :: .int mdp :: .int mvd :: .long mnw :: .int mmk :: []))) kmoc hg_22 (fun e => hx_mo_moc.symm (congrArg Prod.fst e))
          have hFR := hFR.tr (FL.set (Ad := Ad) (X := [mo, moc]) (c' := .inr (12, (.int 0 :: .int (nI ((fd + z36) + 1)) :: .int mwr :: .int (nI K9) :: .int (nI KL) :: .ref moc :: .ref msT :: .ref mrV :: .ref msP :: .int mqs :: .ref mrA :: .ref mbA :: .ref mwA :: .ref mhA :: .ref mfA :: .ref mpA :: .ref mxA :: .ref myA :: .ref mmA :: .ref mqA :: .ref mzA :: .ref mwy :: .ref mfd :: .int msz :: .int (nI cz) :: .int mch :: .int mft :: .int mpt :: .int mdp :: .int mvd :: .long mnw :: .int mmk :: []))) hg_22 (by simp))
          have hg_22 := set_here (c' := .inr (12, (.int 0 :: .int (nI ((fd + z36) + 1)) :: .int mwr :: .int (nI K9) :: .int (nI KL) :: .ref moc :: .ref msT :: .ref mrV :: .ref msP :: .int mqs :: .ref mrA :: .ref mbA :: .ref mwA :: .ref mhA :: .ref mfA :: .ref mpA :: .ref mxA :: .ref myA :: .ref mmA :: .ref mqA :: .ref mzA :: .ref mwy :: .ref mfd :: .int msz :: .int (nI cz) :: .int mch :: .int mft :: .int mpt :: .int mdp :: .int mvd :: .long mnw :: .int mmk :: []))) hg_22
          have kmo : Xc Ad mo (.inr (12, (.int 0 :: .int (nI ((fd + z36) + 1)) :: .int mwr :: .int (nI K9) :: .int (nI KL) :: .ref moc :: .ref msT :: .ref mrV :: .ref msP :: .int mqs :: .ref mrA :: .ref mbA :: .ref mwA :: .ref mhA :: .ref mfA :: .ref mpA :: .ref mxA :: .ref myA :: .ref mmA :: .ref mqA :: .ref mzA :: .ref mwy :: .ref mfd :: .int msz :: .int (nI cz) :: .int mch :: .int mft :: .int mpt :: .int mdp :: .int mvd :: .long mnw :: .int mmk :: []))) (G36.set i_22 (mo, .inr (12, (.int 0 :: .int (nI ((fd + z36) + 1)) :: .int mwr :: .int (nI K9) :: .int (nI KL) :: .ref moc :: .ref msT :: .ref mrV :: .ref msP :: .int mqs :: .ref mrA :: .ref mbA :: .ref mwA :: .ref mhA :: .ref mfA :: .ref mpA :: .ref mxA :: .ref myA :: .ref mmA :: .ref mqA :: .ref mzA :: .ref mwy :: .ref mfd :: .int msz :: .int (nI cz) :: .int mch :: .int mft :: .int mpt :: .int mdp :: .int mvd :: .long mnw :: .int mmk :: [])))) := ⟨kmo.1, List.mem_of_getElem? hg_22⟩
          have hD := hD3
          clear hD3 hD2
          generalize G36.set i_22 (mo, .inr (12, (.int 0 :: .int (nI ((fd + z36) + 1)) :: .int mwr :: .int (nI K9) :: .int (nI KL) :: .ref moc :: .ref msT :: .ref mrV :: .ref msP :: .int mqs :: .ref mrA :: .ref mbA :: .ref mwA :: .ref mhA :: .ref mfA :: .ref mpA :: .ref mxA :: .ref myA :: .ref mmA :: .ref mqA :: .ref mzA :: .ref mwy :: .ref mfd :: .int msz :: .int (nI cz) :: .int mch :: .int mft :: .int mpt :: .int mdp :: .int mvd :: .long mnw :: .int mmk :: []))) = G_23 at hP hD hTy hFR kmo kmoc hg_22
          obtain ⟨cX_24, eX_24⟩ : ∃ z : va_E, z = .inr (12, (.int 0 :: .int (nI ((fd + z36) + 1)) :: .int mwr :: .int (nI K9) :: .int (nI KL) :: .ref moc :: .ref msT :: .ref mrV :: .ref msP :: .int mqs :: .ref mrA :: .ref mbA :: .ref mwA :: .ref mhA :: .ref mfA :: .ref mpA :: .ref mxA :: .ref myA :: .ref mmA :: .ref mqA :: .ref mzA :: .ref mwy :: .ref mfd :: .int msz :: .int (nI cz) :: .int mch :: .int mft :: .int mpt :: .int mdp :: .int mvd :: .long mnw :: .int mmk :: [])) := ⟨_, rfl⟩
          rw [← eX_24] at kmo
          refine lv_iload hx hb d_Model_feed_106 (lv_at hl 0 rfl) ?_
          refine lv_bipush (v := 24) hx hb d_Model_feed_108 (by decide) ?_
          refine lv_bipush (v := 8) hx hb d_Model_feed_110 (by decide) ?_
          refine lv_iload hx hb d_Model_feed_112 (lv_at hl 1 rfl) ?_
          refine lv_iconst (v := 3) hx hb d_Model_feed_114 (by decide) ?_
          refine lv_iand hx hb d_Model_feed_115 ?_
          refine lv_imul hx hb d_Model_feed_116 ?_
          refine lv_isub hx hb d_Model_feed_117 ?_
          refine lv_iushr (v := (b5.toUInt32 >>> ((24 - (8 * ((nI z36) &&& 3))).toUInt32 &&& Int32.toUInt32 31)).toInt32) hx hb d_Model_feed_118 rfl ?_
          refine lv_sipush (v := 255) hx hb d_Model_feed_119 (by decide) ?_
          refine lv_iand hx hb d_Model_feed_122 ?_
          obtain ⟨i_25, hg_25⟩ := List.getElem?_of_mem kmoc.2
          have h123 : vp_in (nI (fd + z36)) 2060 := vp_in_nI (by omega) (by omega)
          refine va_iast hx hb hK hP hD hS i_25 1 hg_25 rfl h123 d_Model_feed_123 (fun H123 locs hP hD2 hS => ?_)
          obtain ⟨f123, ef123⟩ : ∃ z : Nat → Int32, z = upd f36_moc (nI (fd + z36)).toNatClampNeg (((b5.toUInt32 >>> ((24 - (8 * ((nI z36) &&& 3))).toUInt32 &&& Int32.toUInt32 31)).toInt32) &&& 255) := ⟨_, rfl⟩
          rw [← ef123] at hP hD2
          have hP : va_P (dC, dI) classes (G_23.set i_25 (moc, .inl (γ.2.1, 2060, .inl f123))) H123 := hP
          have hD3 : va_D A (G_23.set i_25 (moc, .inl (γ.2.1, 2060, .inl f123))) := hD2
          have hTy := TR.setX (c' := .inl (γ.2.1, 2060, .inl f123)) hTy hg_25 kmoc.1
          have kmo := Xc.setX (c' := .inl (γ.2.1, 2060, .inl f123)) kmo hg_25 (fun e => hx_mo_moc (congrArg Prod.fst e))
          have hFR := hFR.tr (FL.set (Ad := Ad) (X := [mo, moc]) (c' := .inl (γ.2.1, 2060, .inl f123)) hg_25 (by simp))
          have hg_25 := set_here (c' := .inl (γ.2.1, 2060, .inl f123)) hg_25
          have kmoc : Xc Ad moc (.inl (γ.2.1, 2060, .inl f123)) (G_23.set i_25 (moc, .inl (γ.2.1, 2060, .inl f123))) := ⟨kmoc.1, List.mem_of_getElem? hg_25⟩
          have hD := hD3
          clear hD3 hD2
          generalize G_23.set i_25 (moc, .inl (γ.2.1, 2060, .inl f123)) = G_26 at hP hD hTy hFR kmo kmoc hg_25
          refine lv_iinc (v := nI (z36 + 1)) (lv' := [(6, .int (nI (z36 + 1))), (7, .int b5), (0, .ref mo), (1, .int a5), (2, .int b5), (3, .int c5), (4, .int d5), (5, .int e5)]) hx hb d_Model_feed_124 hl (k := 1) rfl (nI_1 _) (by decide) rfl (fun ls hl => ?_)
          refine lv_goto (tgt := 36) hx hb d_Model_feed_127 (by decide) ?_
          exact ih36 (z36 + 1, f123, nI ((fd + z36) + 1), G_26) _ _ ls (by dsimp only; omega) ⟨by dsimp only; omega, by dsimp only; omega, hTy, hFR, (by have h9 := kmo; rw [eX_24] at h9; exact h9), kmoc, ⟨fd_step hJf ef123 (by unfold fo5; rw [if_neg (by omega), if_pos (by omega)]), rfl⟩⟩ hP hD hS (lv_sub hl [0, 2, 3, 4, 5, 6, 7] rfl)
      · have p46 : ¬ (4 ≤ z36) := (fun q9 => c46 ((nI_leI (a := 4) (b := z36) (by omega) (by omega)).mpr q9))
        refine lv_iload_n hx hb d_Model_feed_49 rfl (lv_at hl 2 rfl) ?_
        refine lv_goto (tgt := 89) hx hb d_Model_feed_50 (by decide) ?_
        refine lv_istore (lv' := [(7, .int a5), (6, .int (nI z36)), (0, .ref mo), (1, .int a5), (2, .int b5), (3, .int c5), (4, .int d5), (5, .int e5)]) hx hb d_Model_feed_89 hl (by decide) rfl (fun ls hl => ?_)
        refine lv_aload_n hx hb d_Model_feed_91 rfl (lv_at hl 2 rfl) ?_
        obtain ⟨i_27, hg_27⟩ := List.getElem?_of_mem kmo.2
        rw [eX_5] at hg_27
        refine va_get (v := .ref moc) hx hb htb i_Model hown hK hP i_27 hg_27 rfl 5 (by decide) (htb _ q7_219) (fun _ h9 => h9) rfl d_Model_feed_92 ?_
        refine lv_aload_n hx hb d_Model_feed_95 rfl (lv_at hl 2 rfl) ?_
        refine lv_dup hx hb d_Model_feed_96 rfl ?_
        refine va_get (v := .int (nI (fd + z36))) hx hb htb i_Model hown hK hP i_27 hg_27 rfl 1 (by decide) (htb _ q7_215) (fun _ h9 => h9) rfl d_Model_feed_97 ?_
        refine lv_dup_x1 hx hb d_Model_feed_100 rfl rfl ?_
        refine lv_iconst (v := 1) hx hb d_Model_feed_101 (by decide) ?_
        refine lv_iadd hx hb d_Model_feed_102 ?_
        rw [show ((nI (fd + z36)) + 1 : Int32) = nI ((fd + z36) + 1) from nI_add (fd + z36) 1]
        refine va_put (v := .int (nI ((fd + z36) + 1))) (ty := .int) hx hb htb i_Model t_Model t_Model_ok n_Model hown hK hP hD hS i_27 hg_27 rfl 1 (by decide) (htb _ q7_215) (fun _ h9 => h9) rfl (by decide +kernel) rfl rfl (Nat.le_of_ble_eq_true rfl) d_Model_feed_103 (fun H103 locs hP hD2 hS => ?_)
        have hP : va_P (dC, dI) classes (G36.set i_27 (mo, .inr (12, (.int 0 :: .int (nI ((fd + z36) + 1)) :: .int mwr :: .int (nI K9) :: .int (nI KL) :: .ref moc :: .ref msT :: .ref mrV :: .ref msP :: .int mqs :: .ref mrA :: .ref mbA :: .ref mwA :: .ref mhA :: .ref mfA :: .ref mpA :: .ref mxA :: .ref myA :: .ref mmA :: .ref mqA :: .ref mzA :: .ref mwy :: .ref mfd :: .int msz :: .int (nI cz) :: .int mch :: .int mft :: .int mpt :: .int mdp :: .int mvd :: .long mnw :: .int mmk :: [])))) H103 := hP
        have hD3 : va_D A (G36.set i_27 (mo, .inr (12, (.int 0 :: .int (nI ((fd + z36) + 1)) :: .int mwr :: .int (nI K9) :: .int (nI KL) :: .ref moc :: .ref msT :: .ref mrV :: .ref msP :: .int mqs :: .ref mrA :: .ref mbA :: .ref mwA :: .ref mhA :: .ref mfA :: .ref mpA :: .ref mxA :: .ref myA :: .ref mmA :: .ref mqA :: .ref mzA :: .ref mwy :: .ref mfd :: .int msz :: .int (nI cz) :: .int mch :: .int mft :: .int mpt :: .int mdp :: .int mvd :: .long mnw :: .int mmk :: [])))) := hD2
        have hTy := TR.setX (c' := .inr (12, (.int 0 :: .int (nI ((fd + z36) + 1)) :: .int mwr :: .int (nI K9) :: .int (nI KL) :: .ref moc :: .ref msT :: .ref mrV :: .ref msP :: .int mqs :: .ref mrA :: .ref mbA :: .ref mwA :: .ref mhA :: .ref mfA :: .ref mpA :: .ref mxA :: .ref myA :: .ref mmA :: .ref mqA :: .ref mzA :: .ref mwy :: .ref mfd :: .int msz :: .int (nI cz) :: .int mch :: .int mft :: .int mpt :: .int mdp :: .int mvd :: .long mnw :: .int mmk :: []))) hTy hg_27 kmo.1
        have kmoc := Xc.setX (c' := .inr (12, (.int 0 :: .int (nI ((fd + z36) + 1)) :: .int mwr :: .int (nI K9) :: .int (nI KL) :: .ref moc :: .ref msT :: .ref mrV :: .ref msP :: .int mqs :: .ref mrA :: .ref mbA :: .ref mwA :: .ref mhA :: .ref mfA :: .ref mpA :: .ref mxA :: .ref myA :: .ref mmA :: .ref mqA :: .ref mzA :: .ref mwy :: .ref mfd :: .int msz :: .int (nI cz) :: .int mch :: .int mft :: .int mpt :: .int mdp :: .int mvd :: .long mnw :: .int mmk :: []))) kmoc hg_27 (fun e => hx_mo_moc.symm (congrArg Prod.fst e))
        have hFR := hFR.tr (FL.set (Ad := Ad) (X := [mo, moc]) (c' := .inr (12, (.int 0 :: .int (nI ((fd + z36) + 1)) :: .int mwr :: .int (nI K9) :: .int (nI KL) :: .ref moc :: .ref msT :: .ref mrV :: .ref msP :: .int mqs :: .ref mrA :: .ref mbA :: .ref mwA :: .ref mhA :: .ref mfA :: .ref mpA :: .ref mxA :: .ref myA :: .ref mmA :: .ref mqA :: .ref mzA :: .ref mwy :: .ref mfd :: .int msz :: .int (nI cz) :: .int mch :: .int mft :: .int mpt :: .int mdp :: .int mvd :: .long mnw :: .int mmk :: []))) hg_27 (by simp))
        have hg_27 := set_here (c' := .inr (12, (.int 0 :: .int (nI ((fd + z36) + 1)) :: .int mwr :: .int (nI K9) :: .int (nI KL) :: .ref moc :: .ref msT :: .ref mrV :: .ref msP :: .int mqs :: .ref mrA :: .ref mbA :: .ref mwA :: .ref mhA :: .ref mfA :: .ref mpA :: .ref mxA :: .ref myA :: .ref mmA :: .ref mqA :: .ref mzA :: .ref mwy :: .ref mfd :: .int msz :: .int (nI cz) :: .int mch :: .int mft :: .int mpt :: .int mdp :: .int mvd :: .long mnw :: .int mmk :: []))) hg_27
        have kmo : Xc Ad mo (.inr (12, (.int 0 :: .int (nI ((fd + z36) + 1)) :: .int mwr :: .int (nI K9) :: .int (nI KL) :: .ref moc :: .ref msT :: .ref mrV :: .ref msP :: .int mqs :: .ref mrA :: .ref mbA :: .ref mwA :: .ref mhA :: .ref mfA :: .ref mpA :: .ref mxA :: .ref myA :: .ref mmA :: .ref mqA :: .ref mzA :: .ref mwy :: .ref mfd :: .int msz :: .int (nI cz) :: .int mch :: .int mft :: .int mpt :: .int mdp :: .int mvd :: .long mnw :: .int mmk :: []))) (G36.set i_27 (mo, .inr (12, (.int 0 :: .int (nI ((fd + z36) + 1)) :: .int mwr :: .int (nI K9) :: .int (nI KL) :: .ref moc :: .ref msT :: .ref mrV :: .ref msP :: .int mqs :: .ref mrA :: .ref mbA :: .ref mwA :: .ref mhA :: .ref mfA :: .ref mpA :: .ref mxA :: .ref myA :: .ref mmA :: .ref mqA :: .ref mzA :: .ref mwy :: .ref mfd :: .int msz :: .int (nI cz) :: .int mch :: .int mft :: .int mpt :: .int mdp :: .int mvd :: .long mnw :: .int mmk :: [])))) := ⟨kmo.1, List.mem_of_getElem? hg_27⟩
        have hD := hD3
        clear hD3 hD2
        generalize G36.set i_27 (mo, .inr (12, (.int 0 :: .int (nI ((fd + z36) + 1)) :: .int mwr :: .int (nI K9) :: .int (nI KL) :: .ref moc :: .ref msT :: .ref mrV :: .ref msP :: .int mqs :: .ref mrA :: .ref mbA :: .ref mwA :: .ref mhA :: .ref mfA :: .ref mpA :: .ref mxA :: .ref myA :: .ref mmA :: .ref mqA :: .ref mzA :: .ref mwy :: .ref mfd :: .int msz :: .int (nI cz) :: .int mch :: .int mft :: .int mpt :: .int mdp :: .int mvd :: .long mnw :: .int mmk :: []))) = G_28 at hP hD hTy hFR kmo kmoc hg_27
        obtain ⟨cX_29, eX_29⟩ : ∃ z : va_E, z = .inr (12, (.int 0 :: .int (nI ((fd + z36) + 1)) :: .int mwr :: .int (nI K9) :: .int (nI KL) :: .ref moc :: .ref msT :: .ref mrV :: .ref msP :: .int mqs :: .ref mrA :: .ref mbA :: .ref mwA :: .ref mhA :: .ref mfA :: .ref mpA :: .ref mxA :: .ref myA :: .ref mmA :: .ref mqA :: .ref mzA :: .ref mwy :: .ref mfd :: .int msz :: .int (nI cz) :: .int mch :: .int mft :: .int mpt :: .int mdp :: .int mvd :: .long mnw :: .int mmk :: [])) := ⟨_, rfl⟩
        rw [← eX_29] at kmo
        refine lv_iload hx hb d_Model_feed_106 (lv_at hl 0 rfl) ?_
        refine lv_bipush (v := 24) hx hb d_Model_feed_108 (by decide) ?_
        refine lv_bipush (v := 8) hx hb d_Model_feed_110 (by decide) ?_
        refine lv_iload hx hb d_Model_feed_112 (lv_at hl 1 rfl) ?_
        refine lv_iconst (v := 3) hx hb d_Model_feed_114 (by decide) ?_
        refine lv_iand hx hb d_Model_feed_115 ?_
        refine lv_imul hx hb d_Model_feed_116 ?_
        refine lv_isub hx hb d_Model_feed_117 ?_
        refine lv_iushr (v := (a5.toUInt32 >>> ((24 - (8 * ((nI z36) &&& 3))).toUInt32 &&& Int32.toUInt32 31)).toInt32) hx hb d_Model_feed_118 rfl ?_
        refine lv_sipush (v := 255) hx hb d_Model_feed_119 (by decide) ?_
        refine lv_iand hx hb d_Model_feed_122 ?_
        obtain ⟨i_30, hg_30⟩ := List.getElem?_of_mem kmoc.2
        have h123 : vp_in (nI (fd + z36)) 2060 := vp_in_nI (by omega) (by omega)
        refine va_iast hx hb hK hP hD hS i_30 1 hg_30 rfl h123 d_Model_feed_123 (fun H123 locs hP hD2 hS => ?_)
        obtain ⟨f123, ef123⟩ : ∃ z : Nat → Int32, z = upd f36_moc (nI (fd + z36)).toNatClampNeg (((a5.toUInt32 >>> ((24 - (8 * ((nI z36) &&& 3))).toUInt32 &&& Int32.toUInt32 31)).toInt32) &&& 255) := ⟨_, rfl⟩
        rw [← ef123] at hP hD2
        have hP : va_P (dC, dI) classes (G_28.set i_30 (moc, .inl (γ.2.1, 2060, .inl f123))) H123 := hP
        have hD3 : va_D A (G_28.set i_30 (moc, .inl (γ.2.1, 2060, .inl f123))) := hD2
        have hTy := TR.setX (c' := .inl (γ.2.1, 2060, .inl f123)) hTy hg_30 kmoc.1
        have kmo := Xc.setX (c' := .inl (γ.2.1, 2060, .inl f123)) kmo hg_30 (fun e => hx_mo_moc (congrArg Prod.fst e))
        have hFR := hFR.tr (FL.set (Ad := Ad) (X := [mo, moc]) (c' := .inl (γ.2.1, 2060, .inl f123)) hg_30 (by simp))
        have hg_30 := set_here (c' := .inl (γ.2.1, 2060, .inl f123)) hg_30
        have kmoc : Xc Ad moc (.inl (γ.2.1, 2060, .inl f123)) (G_28.set i_30 (moc, .inl (γ.2.1, 2060, .inl f123))) := ⟨kmoc.1, List.mem_of_getElem? hg_30⟩
        have hD := hD3
        clear hD3 hD2
        generalize G_28.set i_30 (moc, .inl (γ.2.1, 2060, .inl f123)) = G_31 at hP hD hTy hFR kmo kmoc hg_30
        refine lv_iinc (v := nI (z36 + 1)) (lv' := [(6, .int (nI (z36 + 1))), (7, .int a5), (0, .ref mo), (1, .int a5), (2, .int b5), (3, .int c5), (4, .int d5), (5, .int e5)]) hx hb d_Model_feed_124 hl (k := 1) rfl (nI_1 _) (by decide) rfl (fun ls hl => ?_)
        refine lv_goto (tgt := 36) hx hb d_Model_feed_127 (by decide) ?_
        exact ih36 (z36 + 1, f123, nI ((fd + z36) + 1), G_31) _ _ ls (by dsimp only; omega) ⟨by dsimp only; omega, by dsimp only; omega, hTy, hFR, (by have h9 := kmo; rw [eX_29] at h9; exact h9), kmoc, ⟨fd_step hJf ef123 (by unfold fo5; rw [if_pos (by omega)]), rfl⟩⟩ hP hD hS (lv_sub hl [0, 2, 3, 4, 5, 6, 7] rfl)
  · have p16 : ¬ ((fd + 20) ≤ 2060) := (fun q9 => c16 ((nI_leI (a := (fd + 20)) (b := 2060) (by omega) (by omega)).mpr q9))
    exact absurd hfd (by omega)
theorem d_Model_listPart_60 : decode b_Model_listPart 60 = .ok (.iload_n 1, 1) := by decide +kernel
theorem d_Model_listPart_61 : decode b_Model_listPart 61 = .ok (.aaload, 1) := by decide +kernel
theorem d_Model_listPart_62 : decode b_Model_listPart 62 = .ok (.astore_n 3, 1) := by decide +kernel
theorem d_Model_listPart_63 : decode b_Model_listPart 63 = .ok (.iload_n 2, 1) := by decide +kernel
theorem d_Model_listPart_64 : decode b_Model_listPart 64 = .ok (.ifCond .ne 10, 3) := by decide +kernel
theorem d_Model_listPart_67 : decode b_Model_listPart 67 = .ok (.aload_n 3, 1) := by decide +kernel
theorem d_Model_listPart_68 : decode b_Model_listPart 68 = .ok (.getfield 213, 3) := by decide +kernel
theorem d_Model_listPart_71 : decode b_Model_listPart 71 = .ok (.goto 33, 3) := by decide +kernel
theorem d_Model_listPart_74 : decode b_Model_listPart 74 = .ok (.iload_n 2, 1) := by decide +kernel
theorem d_Model_listPart_75 : decode b_Model_listPart 75 = .ok (.iconst 1, 1) := by decide +kernel
theorem d_Model_listPart_76 : decode b_Model_listPart 76 = .ok (.if_icmp .ne 10, 3) := by decide +kernel
theorem d_Model_listPart_79 : decode b_Model_listPart 79 = .ok (.aload_n 3, 1) := by decide +kernel
theorem d_Model_listPart_80 : decode b_Model_listPart 80 = .ok (.getfield 217, 3) := by decide +kernel
theorem d_Model_listPart_83 : decode b_Model_listPart 83 = .ok (.goto 21, 3) := by decide +kernel
theorem d_Model_listPart_86 : decode b_Model_listPart 86 = .ok (.iload_n 2, 1) := by decide +kernel
theorem d_Model_listPart_87 : decode b_Model_listPart 87 = .ok (.iconst 2, 1) := by decide +kernel
theorem d_Model_listPart_88 : decode b_Model_listPart 88 = .ok (.if_icmp .ne 11, 3) := by decide +kernel
theorem d_Model_listPart_91 : decode b_Model_listPart 91 = .ok (.aload_n 3, 1) := by decide +kernel
theorem d_Model_listPart_92 : decode b_Model_listPart 92 = .ok (.getfield 255, 3) := by decide +kernel
theorem d_Model_listPart_95 : decode b_Model_listPart 95 = .ok (.i2l, 1) := by decide +kernel
theorem d_Model_listPart_96 : decode b_Model_listPart 96 = .ok (.goto 8, 3) := by decide +kernel
theorem d_Model_listPart_99 : decode b_Model_listPart 99 = .ok (.aload_n 3, 1) := by decide +kernel
theorem d_Model_listPart_100 : decode b_Model_listPart 100 = .ok (.getfield 246, 3) := by decide +kernel
theorem d_Model_listPart_103 : decode b_Model_listPart 103 = .ok (.i2l, 1) := by decide +kernel
theorem d_Model_listPart_104 : decode b_Model_listPart 104 = .ok (.lreturn, 1) := by decide +kernel
set_option maxHeartbeats 4000000 in
set_option maxRecDepth 100000 in
theorem m_Model_listPart_1 (l : Launch) (dC : Nat → ClassId) (dI : Nat → Nat → Nat) (sb : sB) (γ : cG) (κ : kE) (Ad : List Nat) (τ : Nat → TD) (gT : ClassId) (G : va_W) (mo : Nat) (moc msT mrV msP mrA mbA mwA mhA mfA mpA mxA myA mmA mqA mzA mwy mfd : Nat) (mer mwr mqs msz mch mft mpt mdp mvd mmk : Int32) (mnw : Int64) (K9 KL cz fd : Nat) (ci wi : Int32) (sz : Nat) (hTy : TR γ κ Ad τ G) (kmo : Xc Ad mo (.inr (12, (.int mer :: .int (nI fd) :: .int mwr :: .int (nI K9) :: .int (nI KL) :: .ref moc :: .ref msT :: .ref mrV :: .ref msP :: .int mqs :: .ref mrA :: .ref mbA :: .ref mwA :: .ref mhA :: .ref mfA :: .ref mpA :: .ref mxA :: .ref myA :: .ref mmA :: .ref mqA :: .ref mzA :: .ref mwy :: .ref mfd :: .int msz :: .int (nI cz) :: .int mch :: .int mft :: .int mpt :: .int mdp :: .int mvd :: .long mnw :: .int mmk :: []))) G) (hwhat : ¬ (¬ wi < 0 ∧ ¬ 3 < wi)) : Met l y_Model_listPart w_Model_listPart ({ frames := 1, cells := 0, slots := 0, locals := 22 }) (mu_P [.ref mo, .int ci, .int wi] (dC, dI) sb G [(γ.1, .byte), (γ.2.1, .int), (γ.2.2.1, .long), (γ.2.2.2, .object "java/lang/Object"), (gT, .object "TrustChainModel$Text")] sz) (va_Ql (fun r (G' : va_W) => TR γ κ Ad τ G' ∧ FL Ad [mo] G G' ∧ (r = 0 ∧ Xc Ad mo (.inr (12, (.int 1 :: .int (nI fd) :: .int mwr :: .int (nI K9) :: .int (nI KL) :: .ref moc :: .ref msT :: .ref mrV :: .ref msP :: .int mqs :: .ref mrA :: .ref mbA :: .ref mwA :: .ref mhA :: .ref mfA :: .ref mpA :: .ref mxA :: .ref myA :: .ref mmA :: .ref mqA :: .ref mzA :: .ref mwy :: .ref mfd :: .int msz :: .int (nI cz) :: .int mch :: .int mft :: .int mpt :: .int mdp :: .int mvd :: .long mnw :: .int mmk :: []))) G')) (mu_B (dC, dI) [(γ.1, .byte), (γ.2.1, .int), (γ.2.2.1, .long), (γ.2.2.2, .object "java/lang/Object"), (gT, .object "TrustChainModel$Text")] (va_A G sz) (fun G' : va_W => G')) (va_A G sz)) 0 0 (va_A G sz) := by
  refine Met.ofW (cc := b_Model_listPart) (maxL := 4) (ret := (some FieldType.long)) (by decide) rfl ?_
  intro p e s m args below meth c s₁ B hml hv
  obtain ⟨rfl, hsz, hB0, hP, hK, hD0, hN, hT0⟩ := hv
  have hx := B.exec
  have hb := B.bytes
  have hr := B.returns
  have hts := atoms_spec (ws := w_Model_listPart) B.pre
  have tbin : ∀ w ∈ tb, w ∈ w_Model_listPart := fun w h => List.mem_cons_of_mem _ h
  have htb : ∀ w ∈ tb, w.before _ s = true := fun w h => hts w (tbin w h)
  have hown : s.vm.findClass "TrustChainModel" = some m.cls := findClass_of_methodNamed B.named
  have hlocks := B.notSynchronized
  subst hsz
  have hD := hD0.self (sz := s.heap.size)
  generalize hAe : va_A G s.heap.size = A at hD ⊢
  have hA : ∀ q : Nat, s.heap.size ≤ q → A q := fun q h => by rw [← hAe]; exact Or.inr h
  have hAs : ∀ q : Nat, A q → sb.1 ≤ q := fun q h => by
    rw [← hAe] at h
    rcases h with ⟨k, e, h⟩ | h
    · exact hD0.2 k _ h
    · exact Nat.le_trans hB0 h
  have hS : va_S A s.heap s.heap [] := va_S.rf
  have hFR := FL.rf Ad [mo] G
  have hcs : 0 ≤ (headSpec w_Model_listPart ({ frames := 1, cells := 0, slots := 0, locals := 22 })).room.cells ∧ 0 ≤ (headSpec w_Model_listPart ({ frames := 1, cells := 0, slots := 0, locals := 22 })).room.slots := ⟨Nat.le_refl _, Nat.le_refl _⟩
  have hP : va_P (dC, dI) classes G s.heap := hP
  have hl := lv_entry ([.ref mo, .int ci, .int wi]) (n := 4) (Nat.le_of_ble_eq_true rfl)
  rw [lg_entry_eq]
  generalize (lg_sl ([.ref mo, .int ci, .int wi]) ++ List.replicate (4 - (lg_sl ([.ref mo, .int ci, .int wi])).length) Slot.unset).toArray = ls at hl ⊢
  have hl : lv_has ls 4 [(0, .ref mo), (1, .int ci), (2, .int wi)] := hl
  obtain ⟨cX_mo, eX_mo⟩ : ∃ z : va_E, z = .inr (12, (.int mer :: .int (nI fd) :: .int mwr :: .int (nI K9) :: .int (nI KL) :: .ref moc :: .ref msT :: .ref mrV :: .ref msP :: .int mqs :: .ref mrA :: .ref mbA :: .ref mwA :: .ref mhA :: .ref mfA :: .ref mpA :: .ref mxA :: .ref myA :: .ref mmA :: .ref mqA :: .ref mzA :: .ref mwy :: .ref mfd :: .int msz :: .int (nI cz) :: .int mch :: .int mft :: .int mpt :: .int mdp :: .int mvd :: .long mnw :: .int mmk :: [])) := ⟨_, rfl⟩
  rw [← eX_mo] at kmo
  refine lv_aload_n hx hb d_Model_listPart_0 rfl (lv_at hl 0 rfl) ?_
  refine lv_iconst (v := 0) hx hb d_Model_listPart_1 (by decide) ?_
  obtain ⟨i_1, hg_1⟩ := List.getElem?_of_mem kmo.2
  rw [eX_mo] at hg_1
  refine va_put (v := .int 0) (ty := .int) hx hb htb i_Model t_Model t_Model_ok n_Model hown hK hP hD hS i_1 hg_1 rfl 0 (by decide) (htb _ q7_214) (fun _ h9 => h9) rfl (by decide +kernel) rfl rfl (Nat.le_of_ble_eq_true rfl) d_Model_listPart_2 (fun H2 locs hP hD2 hS => ?_)
  have hP : va_P (dC, dI) classes (G.set i_1 (mo, .inr (12, (.int 0 :: .int (nI fd) :: .int mwr :: .int (nI K9) :: .int (nI KL) :: .ref moc :: .ref msT :: .ref mrV :: .ref msP :: .int mqs :: .ref mrA :: .ref mbA :: .ref mwA :: .ref mhA :: .ref mfA :: .ref mpA :: .ref mxA :: .ref myA :: .ref mmA :: .ref mqA :: .ref mzA :: .ref mwy :: .ref mfd :: .int msz :: .int (nI cz) :: .int mch :: .int mft :: .int mpt :: .int mdp :: .int mvd :: .long mnw :: .int mmk :: [])))) H2 := hP
  have hD3 : va_D A (G.set i_1 (mo, .inr (12, (.int 0 :: .int (nI fd) :: .int mwr :: .int (nI K9) :: .int (nI KL) :: .ref moc :: .ref msT :: .ref mrV :: .ref msP :: .int mqs :: .ref mrA :: .ref mbA :: .ref mwA :: .ref mhA :: .ref mfA :: .ref mpA :: .ref mxA :: .ref myA :: .ref mmA :: .ref mqA :: .ref mzA :: .ref mwy :: .ref mfd :: .int msz :: .int (nI cz) :: .int mch :: .int mft :: .int mpt :: .int mdp :: .int mvd :: .long mnw :: .int mmk :: [])))) := hD2
  have hTy := TR.setX (c' := .inr (12, (.int 0 :: .int (nI fd) :: .int mwr :: .int (nI K9) :: .int (nI KL) :: .ref moc :: .ref msT :: .ref mrV :: .ref msP :: .int mqs :: .ref mrA :: .ref mbA :: .ref mwA :: .ref mhA :: .ref mfA :: .ref mpA :: .ref mxA :: .ref myA :: .ref mmA :: .ref mqA :: .ref mzA :: .ref mwy :: .ref mfd :: .int msz :: .int (nI cz) :: .int mch :: .int mft :: .int mpt :: .int mdp :: .int mvd :: .long mnw :: .int mmk :: []))) hTy hg_1 kmo.1
  have hFR := hFR.tr (FL.set (Ad := Ad) (X := [mo]) (c' := .inr (12, (.int 0 :: .int (nI fd) :: .int mwr :: .int (nI K9) :: .int (nI KL) :: .ref moc :: .ref msT :: .ref mrV :: .ref msP :: .int mqs :: .ref mrA :: .ref mbA :: .ref mwA :: .ref mhA :: .ref mfA :: .ref mpA :: .ref mxA :: .ref myA :: .ref mmA :: .ref mqA :: .ref mzA :: .ref mwy :: .ref mfd :: .int msz :: .int (nI cz) :: .int mch :: .int mft :: .int mpt :: .int mdp :: .int mvd :: .long mnw :: .int mmk :: []))) hg_1 (by simp))
  have hg_1 := set_here (c' := .inr (12, (.int 0 :: .int (nI fd) :: .int mwr :: .int (nI K9) :: .int (nI KL) :: .ref moc :: .ref msT :: .ref mrV :: .ref msP :: .int mqs :: .ref mrA :: .ref mbA :: .ref mwA :: .ref mhA :: .ref mfA :: .ref mpA :: .ref mxA :: .ref myA :: .ref mmA :: .ref mqA :: .ref mzA :: .ref mwy :: .ref mfd :: .int msz :: .int (nI cz) :: .int mch :: .int mft :: .int mpt :: .int mdp :: .int mvd :: .long mnw :: .int mmk :: []))) hg_1
  have kmo : Xc Ad mo (.inr (12, (.int 0 :: .int (nI fd) :: .int mwr :: .int (nI K9) :: .int (nI KL) :: .ref moc :: .ref msT :: .ref mrV :: .ref msP :: .int mqs :: .ref mrA :: .ref mbA :: .ref mwA :: .ref mhA :: .ref mfA :: .ref mpA :: .ref mxA :: .ref myA :: .ref mmA :: .ref mqA :: .ref mzA :: .ref mwy :: .ref mfd :: .int msz :: .int (nI cz) :: .int mch :: .int mft :: .int mpt :: .int mdp :: .int mvd :: .long mnw :: .int mmk :: []))) (G.set i_1 (mo, .inr (12, (.int 0 :: .int (nI fd) :: .int mwr :: .int (nI K9) :: .int (nI KL) :: .ref moc :: .ref msT :: .ref mrV :: .ref msP :: .int mqs :: .ref mrA :: .ref mbA :: .ref mwA :: .ref mhA :: .ref mfA :: .ref mpA :: .ref mxA :: .ref myA :: .ref mmA :: .ref mqA :: .ref mzA :: .ref mwy :: .ref mfd :: .int msz :: .int (nI cz) :: .int mch :: .int mft :: .int mpt :: .int mdp :: .int mvd :: .long mnw :: .int mmk :: [])))) := ⟨kmo.1, List.mem_of_getElem? hg_1⟩
  have hD := hD3
  clear hD3 hD2
  generalize G.set i_1 (mo, .inr (12, (.int 0 :: .int (nI fd) :: .int mwr :: .int (nI K9) :: .int (nI KL) :: .ref moc :: .ref msT :: .ref mrV :: .ref msP :: .int mqs :: .ref mrA :: .ref mbA :: .ref mwA :: .ref mhA :: .ref mfA :: .ref mpA :: .ref mxA :: .ref myA :: .ref mmA :: .ref mqA :: .ref mzA :: .ref mwy :: .ref mfd :: .int msz :: .int (nI cz) :: .int mch :: .int mft :: .int mpt :: .int mdp :: .int mvd :: .long mnw :: .int mmk :: []))) = G_2 at hP hD hTy hFR kmo hg_1
  obtain ⟨cX_3, eX_3⟩ : ∃ z : va_E, z = .inr (12, (.int 0 :: .int (nI fd) :: .int mwr :: .int (nI K9) :: .int (nI KL) :: .ref moc :: .ref msT :: .ref mrV :: .ref msP :: .int mqs :: .ref mrA :: .ref mbA :: .ref mwA :: .ref mhA :: .ref mfA :: .ref mpA :: .ref mxA :: .ref myA :: .ref mmA :: .ref mqA :: .ref mzA :: .ref mwy :: .ref mfd :: .int msz :: .int (nI cz) :: .int mch :: .int mft :: .int mpt :: .int mdp :: .int mvd :: .long mnw :: .int mmk :: [])) := ⟨_, rfl⟩
  rw [← eX_3] at kmo
  refine lv_aload_n hx hb d_Model_listPart_5 rfl (lv_at hl 0 rfl) ?_
  refine lv_iload_n hx hb d_Model_listPart_6 rfl (lv_at hl 2 rfl) ?_
  refine lv_iconst (v := 0) hx hb d_Model_listPart_7 (by decide) ?_
  refine lv_iconst (v := 3) hx hb d_Model_listPart_8 (by decide) ?_
  refine vp_callSi (pu_callS (As := [.int wi, .int 0, .int 3]) (rest := [.ref mo]) ⟨hx, hb, hml, hown, hts⟩ tbin (c_Model_in l dC dI sb wi (0 : Int32) (3 : Int32)) q9_68 q8_116 q1_9 q8_117 (n := 3) (by decide +kernel) rfl ⟨rfl, rfl⟩ ⟨Nat.le_of_ble_eq_true rfl, Nat.le_of_ble_eq_true rfl⟩ ⟨Nat.le_of_ble_eq_true rfl, Nat.le_of_ble_eq_true rfl⟩ hN (hT0.keep hS hAs) hK hP [] (by simp only [List.filterMap_cons, List.filterMap_nil]) [] rfl hl.1 rfl (Nat.le_of_ble_eq_true rfl) d_Model_listPart_9) (fun r9 hr9 => ?_)
  refine lv_if_ne (tgt := 19) hx hb d_Model_listPart_12 (by decide) (fun c12 => ?_) (fun c12 => ?_)
  · have p12 : ¬ (r9 = (0 : Int32)) := c12
    exact absurd (bz_1 hr9 p12) hwhat
  · have p12 : r9 = (0 : Int32) := c12
    refine lv_iconst (v := 1) hx hb d_Model_listPart_15 (by decide) ?_
    refine lv_goto (tgt := 20) hx hb d_Model_listPart_16 (by decide) ?_
    refine lv_iconst (v := 1) hx hb d_Model_listPart_20 (by decide) ?_
    have hFc := va_free (wc := G_2) hD hS hA (List.range G_2.length) (rg_is _)
    refine va_calli (mu_runV (As := [.int 1, .int 1]) (rest := []) ⟨hx, hb, hml, hown, hts⟩ tbin (m_Model_fails_1 l dC dI sb γ κ Ad τ gT G_2 mo _ _ _ _ _ _ _ _ _ _ _ _ _ _ _ _ _ _ _ _ _ _ _ _ _ _ _ _ _ _ _ _ H2.size hTy (by have h9 := kmo; rw [eX_3] at h9; exact h9) (by decide)) q8_79 q8_81 qp_36 q1_9 q8_82 (n := 2) (by decide +kernel) rfl ⟨rfl, rfl⟩ ⟨Nat.le_of_ble_eq_true rfl, Nat.le_of_ble_eq_true rfl⟩ ⟨Nat.le_of_ble_eq_true rfl, Nat.le_of_ble_eq_true rfl⟩ hN (hT0.keep hS hAs) hAs (Nat.le_trans hB0 hS.1) hK hP hD (List.range G_2.length) (rg_nd _) (rg_is _) [0, 1, 2, 3, 4] rfl i_1 12 hg_1 rfl rfl hl.1 rfl (Nat.le_of_ble_eq_true rfl) d_Model_listPart_21) hS (fun q _ h => hFc q h) hFc (fun r21 G_4 tS H21 locs ht hvm hw21 hB hz1 hk1 hS => ?_)
    obtain ⟨hTy, hF9, hr21⟩ := hw21
    have hFR := hFR.tr (hF9.up (q_gac (by simp) (q_gan)))
    obtain ⟨hP1, hK1, hD1⟩ := hB
    rw [ht] at hP1
    have hP : va_P (dC, dI) classes G_4 H21 := hP1
    have hD : va_D A G_4 := hD1.weaken (fun _ _ _ h => hFc _ h)
    obtain ⟨hq21, kmo⟩ := hr21
    subst hq21
    obtain ⟨cX_5, eX_5⟩ : ∃ z : va_E, z = .inr (12, (.int 1 :: .int (nI fd) :: .int mwr :: .int (nI K9) :: .int (nI KL) :: .ref moc :: .ref msT :: .ref mrV :: .ref msP :: .int mqs :: .ref mrA :: .ref mbA :: .ref mwA :: .ref mhA :: .ref mfA :: .ref mpA :: .ref mxA :: .ref myA :: .ref mmA :: .ref mqA :: .ref mzA :: .ref mwy :: .ref mfd :: .int msz :: .int (nI cz) :: .int mch :: .int mft :: .int mpt :: .int mdp :: .int mvd :: .long mnw :: .int mmk :: [])) := ⟨_, rfl⟩
    rw [← eX_5] at kmo
    refine lv_if_ne (tgt := 54) hx hb d_Model_listPart_24 (by decide) (fun c24 => ?_) (fun c24 => ?_)
    rotate_left
    · exact absurd c24 (by decide)
    refine lv_lconst (v := 0) hx hb d_Model_listPart_54 (by decide) ?_
    exact W.lret (v := 0) hx hb hr (fun t ht hW => ⟨⟨_, G_4, rfl, ⟨hTy, hFR, rfl, (by rw [eX_5] at kmo; exact kmo)⟩, by rw [ht]; exact hP, va_K.moved hW.alike hK, hD⟩, hS.F ht⟩) hS.2.2 d_Model_listPart_55
set_option maxHeartbeats 4000000 in
set_option maxRecDepth 100000 in
theorem m_Model_listPart_2 (l : Launch) (dC : Nat → ClassId) (dI : Nat → Nat → Nat) (sb : sB) (γ : cG) (κ : kE) (Ad : List Nat) (τ : Nat → TD) (gT : ClassId) (G : va_W) (mo : Nat) (moc msT mrV msP mrA mbA mwA mhA mfA mpA mxA myA mmA mqA mzA mwy mfd : Nat) (mer mwr mqs msz mch mft mpt mdp mvd mmk : Int32) (mnw : Int64) (K9 KL cz fd : Nat) (ci wi : Int32) (sz : Nat) (hTy : TR γ κ Ad τ G) (kmo : Xc Ad mo (.inr (12, (.int mer :: .int (nI fd) :: .int mwr :: .int (nI K9) :: .int (nI KL) :: .ref moc :: .ref msT :: .ref mrV :: .ref msP :: .int mqs :: .ref mrA :: .ref mbA :: .ref mwA :: .ref mhA :: .ref mfA :: .ref mpA :: .ref mxA :: .ref myA :: .ref mmA :: .ref mqA :: .ref mzA :: .ref mwy :: .ref mfd :: .int msz :: .int (nI cz) :: .int mch :: .int mft :: .int mpt :: .int mdp :: .int mvd :: .long mnw :: .int mmk :: []))) G) (hwhat : ¬ wi < 0 ∧ ¬ 3 < wi) (hbad : ¬ (¬ ci < 0 ∧ ci < nI KL)) (hKL : KL ≤ 8) : Met l y_Model_listPart w_Model_listPart ({ frames := 1, cells := 0, slots := 0, locals := 22 }) (mu_P [.ref mo, .int ci, .int wi] (dC, dI) sb G [(γ.1, .byte), (γ.2.1, .int), (γ.2.2.1, .long), (γ.2.2.2, .object "java/lang/Object"), (gT, .object "TrustChainModel$Text")] sz) (va_Ql (fun r (G' : va_W) => TR γ κ Ad τ G' ∧ FL Ad [mo] G G' ∧ (r = 0 ∧ Xc Ad mo (.inr (12, (.int 2 :: .int (nI fd) :: .int mwr :: .int (nI K9) :: .int (nI KL) :: .ref moc :: .ref msT :: .ref mrV :: .ref msP :: .int mqs :: .ref mrA :: .ref mbA :: .ref mwA :: .ref mhA :: .ref mfA :: .ref mpA :: .ref mxA :: .ref myA :: .ref mmA :: .ref mqA :: .ref mzA :: .ref mwy :: .ref mfd :: .int msz :: .int (nI cz) :: .int mch :: .int mft :: .int mpt :: .int mdp :: .int mvd :: .long mnw :: .int mmk :: []))) G')) (mu_B (dC, dI) [(γ.1, .byte), (γ.2.1, .int), (γ.2.2.1, .long), (γ.2.2.2, .object "java/lang/Object"), (gT, .object "TrustChainModel$Text")] (va_A G sz) (fun G' : va_W => G')) (va_A G sz)) 0 0 (va_A G sz) := by
  refine Met.ofW (cc := b_Model_listPart) (maxL := 4) (ret := (some FieldType.long)) (by decide) rfl ?_
  intro p e s m args below meth c s₁ B hml hv
  obtain ⟨rfl, hsz, hB0, hP, hK, hD0, hN, hT0⟩ := hv
  have hx := B.exec
  have hb := B.bytes
  have hr := B.returns
  have hts := atoms_spec (ws := w_Model_listPart) B.pre
  have tbin : ∀ w ∈ tb, w ∈ w_Model_listPart := fun w h => List.mem_cons_of_mem _ h
  have htb : ∀ w ∈ tb, w.before _ s = true := fun w h => hts w (tbin w h)
  have hown : s.vm.findClass "TrustChainModel" = some m.cls := findClass_of_methodNamed B.named
  have hlocks := B.notSynchronized
  subst hsz
  have hD := hD0.self (sz := s.heap.size)
  generalize hAe : va_A G s.heap.size = A at hD ⊢
  have hA : ∀ q : Nat, s.heap.size ≤ q → A q := fun q h => by rw [← hAe]; exact Or.inr h
  have hAs : ∀ q : Nat, A q → sb.1 ≤ q := fun q h => by
    rw [← hAe] at h
    rcases h with ⟨k, e, h⟩ | h
    · exact hD0.2 k _ h
    · exact Nat.le_trans hB0 h
  have hS : va_S A s.heap s.heap [] := va_S.rf
  have hFR := FL.rf Ad [mo] G
  have hcs : 0 ≤ (headSpec w_Model_listPart ({ frames := 1, cells := 0, slots := 0, locals := 22 })).room.cells ∧ 0 ≤ (headSpec w_Model_listPart ({ frames := 1, cells := 0, slots := 0, locals := 22 })).room.slots := ⟨Nat.le_refl _, Nat.le_refl _⟩
  have hP : va_P (dC, dI) classes G s.heap := hP
  have hl := lv_entry ([.ref mo, .int ci, .int wi]) (n := 4) (Nat.le_of_ble_eq_true rfl)
  rw [lg_entry_eq]
  generalize (lg_sl ([.ref mo, .int ci, .int wi]) ++ List.replicate (4 - (lg_sl ([.ref mo, .int ci, .int wi])).length) Slot.unset).toArray = ls at hl ⊢
  have hl : lv_has ls 4 [(0, .ref mo), (1, .int ci), (2, .int wi)] := hl
  obtain ⟨cX_mo, eX_mo⟩ : ∃ z : va_E, z = .inr (12, (.int mer :: .int (nI fd) :: .int mwr :: .int (nI K9) :: .int (nI KL) :: .ref moc :: .ref msT :: .ref mrV :: .ref msP :: .int mqs :: .ref mrA :: .ref mbA :: .ref mwA :: .ref mhA :: .ref mfA :: .ref mpA :: .ref mxA :: .ref myA :: .ref mmA :: .ref mqA :: .ref mzA :: .ref mwy :: .ref mfd :: .int msz :: .int (nI cz) :: .int mch :: .int mft :: .int mpt :: .int mdp :: .int mvd :: .long mnw :: .int mmk :: [])) := ⟨_, rfl⟩
  rw [← eX_mo] at kmo
  refine lv_aload_n hx hb d_Model_listPart_0 rfl (lv_at hl 0 rfl) ?_
  refine lv_iconst (v := 0) hx hb d_Model_listPart_1 (by decide) ?_
  obtain ⟨i_1, hg_1⟩ := List.getElem?_of_mem kmo.2
  rw [eX_mo] at hg_1
  refine va_put (v := .int 0) (ty := .int) hx hb htb i_Model t_Model t_Model_ok n_Model hown hK hP hD hS i_1 hg_1 rfl 0 (by decide) (htb _ q7_214) (fun _ h9 => h9) rfl (by decide +kernel) rfl rfl (Nat.le_of_ble_eq_true rfl) d_Model_listPart_2 (fun H2 locs hP hD2 hS => ?_)
  have hP : va_P (dC, dI) classes (G.set i_1 (mo, .inr (12, (.int 0 :: .int (nI fd) :: .int mwr :: .int (nI K9) :: .int (nI KL) :: .ref moc :: .ref msT :: .ref mrV :: .ref msP :: .int mqs :: .ref mrA :: .ref mbA :: .ref mwA :: .ref mhA :: .ref mfA :: .ref mpA :: .ref mxA :: .ref myA :: .ref mmA :: .ref mqA :: .ref mzA :: .ref mwy :: .ref mfd :: .int msz :: .int (nI cz) :: .int mch :: .int mft :: .int mpt :: .int mdp :: .int mvd :: .long mnw :: .int mmk :: [])))) H2 := hP
  have hD3 : va_D A (G.set i_1 (mo, .inr (12, (.int 0 :: .int (nI fd) :: .int mwr :: .int (nI K9) :: .int (nI KL) :: .ref moc :: .ref msT :: .ref mrV :: .ref msP :: .int mqs :: .ref mrA :: .ref mbA :: .ref mwA :: .ref mhA :: .ref mfA :: .ref mpA :: .ref mxA :: .ref myA :: .ref mmA :: .ref mqA :: .ref mzA :: .ref mwy :: .ref mfd :: .int msz :: .int (nI cz) :: .int mch :: .int mft :: .int mpt :: .int mdp :: .int mvd :: .long mnw :: .int mmk :: [])))) := hD2
  have hTy := TR.setX (c' := .inr (12, (.int 0 :: .int (nI fd) :: .int mwr :: .int (nI K9) :: .int (nI KL) :: .ref moc :: .ref msT :: .ref mrV :: .ref msP :: .int mqs :: .ref mrA :: .ref mbA :: .ref mwA :: .ref mhA :: .ref mfA :: .ref mpA :: .ref mxA :: .ref myA :: .ref mmA :: .ref mqA :: .ref mzA :: .ref mwy :: .ref mfd :: .int msz :: .int (nI cz) :: .int mch :: .int mft :: .int mpt :: .int mdp :: .int mvd :: .long mnw :: .int mmk :: []))) hTy hg_1 kmo.1
  have hFR := hFR.tr (FL.set (Ad := Ad) (X := [mo]) (c' := .inr (12, (.int 0 :: .int (nI fd) :: .int mwr :: .int (nI K9) :: .int (nI KL) :: .ref moc :: .ref msT :: .ref mrV :: .ref msP :: .int mqs :: .ref mrA :: .ref mbA :: .ref mwA :: .ref mhA :: .ref mfA :: .ref mpA :: .ref mxA :: .ref myA :: .ref mmA :: .ref mqA :: .ref mzA :: .ref mwy :: .ref mfd :: .int msz :: .int (nI cz) :: .int mch :: .int mft :: .int mpt :: .int mdp :: .int mvd :: .long mnw :: .int mmk :: []))) hg_1 (by simp))
  have hg_1 := set_here (c' := .inr (12, (.int 0 :: .int (nI fd) :: .int mwr :: .int (nI K9) :: .int (nI KL) :: .ref moc :: .ref msT :: .ref mrV :: .ref msP :: .int mqs :: .ref mrA :: .ref mbA :: .ref mwA :: .ref mhA :: .ref mfA :: .ref mpA :: .ref mxA :: .ref myA :: .ref mmA :: .ref mqA :: .ref mzA :: .ref mwy :: .ref mfd :: .int msz :: .int (nI cz) :: .int mch :: .int mft :: .int mpt :: .int mdp :: .int mvd :: .long mnw :: .int mmk :: []))) hg_1
  have kmo : Xc Ad mo (.inr (12, (.int 0 :: .int (nI fd) :: .int mwr :: .int (nI K9) :: .int (nI KL) :: .ref moc :: .ref msT :: .ref mrV :: .ref msP :: .int mqs :: .ref mrA :: .ref mbA :: .ref mwA :: .ref mhA :: .ref mfA :: .ref mpA :: .ref mxA :: .ref myA :: .ref mmA :: .ref mqA :: .ref mzA :: .ref mwy :: .ref mfd :: .int msz :: .int (nI cz) :: .int mch :: .int mft :: .int mpt :: .int mdp :: .int mvd :: .long mnw :: .int mmk :: []))) (G.set i_1 (mo, .inr (12, (.int 0 :: .int (nI fd) :: .int mwr :: .int (nI K9) :: .int (nI KL) :: .ref moc :: .ref msT :: .ref mrV :: .ref msP :: .int mqs :: .ref mrA :: .ref mbA :: .ref mwA :: .ref mhA :: .ref mfA :: .ref mpA :: .ref mxA :: .ref myA :: .ref mmA :: .ref mqA :: .ref mzA :: .ref mwy :: .ref mfd :: .int msz :: .int (nI cz) :: .int mch :: .int mft :: .int mpt :: .int mdp :: .int mvd :: .long mnw :: .int mmk :: [])))) := ⟨kmo.1, List.mem_of_getElem? hg_1⟩
  have hD := hD3
  clear hD3 hD2
  generalize G.set i_1 (mo, .inr (12, (.int 0 :: .int (nI fd) :: .int mwr :: .int (nI K9) :: .int (nI KL) :: .ref moc :: .ref msT :: .ref mrV :: .ref msP :: .int mqs :: .ref mrA :: .ref mbA :: .ref mwA :: .ref mhA :: .ref mfA :: .ref mpA :: .ref mxA :: .ref myA :: .ref mmA :: .ref mqA :: .ref mzA :: .ref mwy :: .ref mfd :: .int msz :: .int (nI cz) :: .int mch :: .int mft :: .int mpt :: .int mdp :: .int mvd :: .long mnw :: .int mmk :: []))) = G_2 at hP hD hTy hFR kmo hg_1
  obtain ⟨cX_3, eX_3⟩ : ∃ z : va_E, z = .inr (12, (.int 0 :: .int (nI fd) :: .int mwr :: .int (nI K9) :: .int (nI KL) :: .ref moc :: .ref msT :: .ref mrV :: .ref msP :: .int mqs :: .ref mrA :: .ref mbA :: .ref mwA :: .ref mhA :: .ref mfA :: .ref mpA :: .ref mxA :: .ref myA :: .ref mmA :: .ref mqA :: .ref mzA :: .ref mwy :: .ref mfd :: .int msz :: .int (nI cz) :: .int mch :: .int mft :: .int mpt :: .int mdp :: .int mvd :: .long mnw :: .int mmk :: [])) := ⟨_, rfl⟩
  rw [← eX_3] at kmo
  refine lv_aload_n hx hb d_Model_listPart_5 rfl (lv_at hl 0 rfl) ?_
  refine lv_iload_n hx hb d_Model_listPart_6 rfl (lv_at hl 2 rfl) ?_
  refine lv_iconst (v := 0) hx hb d_Model_listPart_7 (by decide) ?_
  refine lv_iconst (v := 3) hx hb d_Model_listPart_8 (by decide) ?_
  refine vp_callSi (pu_callS (As := [.int wi, .int 0, .int 3]) (rest := [.ref mo]) ⟨hx, hb, hml, hown, hts⟩ tbin (c_Model_in l dC dI sb wi (0 : Int32) (3 : Int32)) q9_68 q8_116 q1_9 q8_117 (n := 3) (by decide +kernel) rfl ⟨rfl, rfl⟩ ⟨Nat.le_of_ble_eq_true rfl, Nat.le_of_ble_eq_true rfl⟩ ⟨Nat.le_of_ble_eq_true rfl, Nat.le_of_ble_eq_true rfl⟩ hN (hT0.keep hS hAs) hK hP [] (by simp only [List.filterMap_cons, List.filterMap_nil]) [] rfl hl.1 rfl (Nat.le_of_ble_eq_true rfl) d_Model_listPart_9) (fun r9 hr9 => ?_)
  refine lv_if_ne (tgt := 19) hx hb d_Model_listPart_12 (by decide) (fun c12 => ?_) (fun c12 => ?_)
  · have p12 : ¬ (r9 = (0 : Int32)) := c12
    refine lv_iconst (v := 0) hx hb d_Model_listPart_19 (by decide) ?_
    refine lv_iconst (v := 1) hx hb d_Model_listPart_20 (by decide) ?_
    have hFc := va_free (wc := G_2) hD hS hA (List.range G_2.length) (rg_is _)
    refine va_calli (mu_runV (As := [.int 0, .int 1]) (rest := []) ⟨hx, hb, hml, hown, hts⟩ tbin (m_Model_fails_0 l dC dI sb γ κ Ad τ gT G_2 mo _ _ _ _ _ _ _ _ _ _ _ _ _ _ _ _ _ _ _ _ _ _ _ _ _ _ _ _ _ _ _ _ H2.size hTy (by have h9 := kmo; rw [eX_3] at h9; exact h9) ) q8_79 q8_81 qp_36 q1_9 q8_82 (n := 2) (by decide +kernel) rfl ⟨rfl, rfl⟩ ⟨Nat.le_of_ble_eq_true rfl, Nat.le_of_ble_eq_true rfl⟩ ⟨Nat.le_of_ble_eq_true rfl, Nat.le_of_ble_eq_true rfl⟩ hN (hT0.keep hS hAs) hAs (Nat.le_trans hB0 hS.1) hK hP hD (List.range G_2.length) (rg_nd _) (rg_is _) [0, 1, 2, 3, 4] rfl i_1 12 hg_1 rfl rfl hl.1 rfl (Nat.le_of_ble_eq_true rfl) d_Model_listPart_21) hS (fun q _ h => hFc q h) hFc (fun r21 G_4 tS H21 locs ht hvm hw21 hB hz1 hk1 hS => ?_)
    obtain ⟨hTy, hF9, hr21⟩ := hw21
    have kmo := kmo.fl hF9 (q_nmn)
    have hFR := hFR.tr (hF9.up (q_gan))
    obtain ⟨hP1, hK1, hD1⟩ := hB
    rw [ht] at hP1
    have hP : va_P (dC, dI) classes G_4 H21 := hP1
    have hD : va_D A G_4 := hD1.weaken (fun _ _ _ h => hFc _ h)
    subst hr21
    refine lv_if_ne (tgt := 54) hx hb d_Model_listPart_24 (by decide) (fun c24 => ?_) (fun c24 => ?_)
    · exact absurd c24 (by decide)
    refine lv_aload_n hx hb d_Model_listPart_27 rfl (lv_at hl 0 rfl) ?_
    refine lv_iload_n hx hb d_Model_listPart_28 rfl (lv_at hl 1 rfl) ?_
    refine lv_iconst (v := 0) hx hb d_Model_listPart_29 (by decide) ?_
    refine lv_aload_n hx hb d_Model_listPart_30 rfl (lv_at hl 0 rfl) ?_
    obtain ⟨i_5, hg_5⟩ := List.getElem?_of_mem kmo.2
    rw [eX_3] at hg_5
    refine va_get (v := .int (nI KL)) hx hb htb i_Model hown hK hP i_5 hg_5 rfl 4 (by decide) (htb _ q7_218) (fun _ h9 => h9) rfl d_Model_listPart_31 ?_
    refine lv_iconst (v := 1) hx hb d_Model_listPart_34 (by decide) ?_
    refine lv_isub hx hb d_Model_listPart_35 ?_
    refine vp_callSi (pu_callS (As := [.int ci, .int 0, .int ((nI KL) - 1)]) (rest := [.ref mo]) ⟨hx, hb, hml, hown, hts⟩ tbin (c_Model_in l dC dI sb ci (0 : Int32) ((nI KL) - 1)) q9_68 q8_116 q1_9 q8_117 (n := 3) (by decide +kernel) rfl ⟨rfl, rfl⟩ ⟨Nat.le_of_ble_eq_true rfl, Nat.le_of_ble_eq_true rfl⟩ ⟨Nat.le_of_ble_eq_true rfl, Nat.le_of_ble_eq_true rfl⟩ hN (hT0.keep hS hAs) hK hP [] (by simp only [List.filterMap_cons, List.filterMap_nil]) [] rfl hl.1 rfl (Nat.le_of_ble_eq_true rfl) d_Model_listPart_36) (fun r36 hr36 => ?_)
    refine lv_if_ne (tgt := 46) hx hb d_Model_listPart_39 (by decide) (fun c39 => ?_) (fun c39 => ?_)
    · have p39 : ¬ (r36 = (0 : Int32)) := c39
      exact absurd (in_lt (by omega) (bz_1 hr36 p39)) hbad
    · have p39 : r36 = (0 : Int32) := c39
      refine lv_iconst (v := 1) hx hb d_Model_listPart_42 (by decide) ?_
      refine lv_goto (tgt := 47) hx hb d_Model_listPart_43 (by decide) ?_
      refine lv_iconst (v := 2) hx hb d_Model_listPart_47 (by decide) ?_
      have hFc := va_free (wc := G_4) hD hS hA (List.range G_4.length) (rg_is _)
      refine va_calli (mu_runV (As := [.int 1, .int 2]) (rest := []) ⟨hx, hb, hml, hown, hts⟩ tbin (m_Model_fails_1 l dC dI sb γ κ Ad τ gT G_4 mo _ _ _ _ _ _ _ _ _ _ _ _ _ _ _ _ _ _ _ _ _ _ _ _ _ _ _ _ _ _ _ _ H21.size hTy (by have h9 := kmo; rw [eX_3] at h9; exact h9) (by decide)) q8_79 q8_81 qp_36 q1_9 q8_82 (n := 2) (by decide +kernel) rfl ⟨rfl, rfl⟩ ⟨Nat.le_of_ble_eq_true rfl, Nat.le_of_ble_eq_true rfl⟩ ⟨Nat.le_of_ble_eq_true rfl, Nat.le_of_ble_eq_true rfl⟩ hN (hT0.keep hS hAs) hAs (Nat.le_trans hB0 hS.1) hK hP hD (List.range G_4.length) (rg_nd _) (rg_is _) [0, 1, 2, 3, 4] rfl i_5 12 hg_5 rfl rfl hl.1 rfl (Nat.le_of_ble_eq_true rfl) d_Model_listPart_48) hS (fun q _ h => hFc q h) hFc (fun r48 G_6 tS H48 locs ht hvm hw48 hB hz1 hk1 hS => ?_)
      obtain ⟨hTy, hF9, hr48⟩ := hw48
      have hFR := hFR.tr (hF9.up (q_gac (by simp) (q_gan)))
      obtain ⟨hP1, hK1, hD1⟩ := hB
      rw [ht] at hP1
      have hP : va_P (dC, dI) classes G_6 H48 := hP1
      have hD : va_D A G_6 := hD1.weaken (fun _ _ _ h => hFc _ h)
      obtain ⟨hq48, kmo⟩ := hr48
      subst hq48
      obtain ⟨cX_7, eX_7⟩ : ∃ z : va_E, z = .inr (12, (.int 2 :: .int (nI fd) :: .int mwr :: .int (nI K9) :: .int (nI KL) :: .ref moc :: .ref msT :: .ref mrV :: .ref msP :: .int mqs :: .ref mrA :: .ref mbA :: .ref mwA :: .ref mhA :: .ref mfA :: .ref mpA :: .ref mxA :: .ref myA :: .ref mmA :: .ref mqA :: .ref mzA :: .ref mwy :: .ref mfd :: .int msz :: .int (nI cz) :: .int mch :: .int mft :: .int mpt :: .int mdp :: .int mvd :: .long mnw :: .int mmk :: [])) := ⟨_, rfl⟩
      rw [← eX_7] at kmo
      refine lv_if_eq (tgt := 56) hx hb d_Model_listPart_51 (by decide) (fun c51 => ?_) (fun c51 => ?_)
      · exact absurd c51 (by decide)
      refine lv_lconst (v := 0) hx hb d_Model_listPart_54 (by decide) ?_
      exact W.lret (v := 0) hx hb hr (fun t ht hW => ⟨⟨_, G_6, rfl, ⟨hTy, hFR, rfl, (by rw [eX_7] at kmo; exact kmo)⟩, by rw [ht]; exact hP, va_K.moved hW.alike hK, hD⟩, hS.F ht⟩) hS.2.2 d_Model_listPart_55
  · have p12 : r9 = (0 : Int32) := c12
    exact absurd hwhat (bz_0 hr9 p12)
set_option maxHeartbeats 4000000 in
set_option maxRecDepth 100000 in
theorem m_Model_listPart_ok0 (l : Launch) (dC : Nat → ClassId) (dI : Nat → Nat → Nat) (sb : sB) (γ : cG) (κ : kE) (Ad : List Nat) (τ : Nat → TD) (gT : ClassId) (G : va_W) (mo : Nat) (moc msT mrV msP mrA mbA mwA mhA mfA mpA mxA myA mmA mqA mzA mwy mfd : Nat) (mer mwr mqs msz mch mft mpt mdp mvd mmk : Int32) (mnw : Int64) (K9 KL cz fd : Nat) (k9 : Nat) (fV : Nat → Option Nat) (sz : Nat) (hTy : TR γ κ Ad τ G) (kmo : Xc Ad mo (.inr (12, (.int mer :: .int (nI fd) :: .int mwr :: .int (nI K9) :: .int (nI KL) :: .ref moc :: .ref msT :: .ref mrV :: .ref msP :: .int mqs :: .ref mrA :: .ref mbA :: .ref mwA :: .ref mhA :: .ref mfA :: .ref mpA :: .ref mxA :: .ref myA :: .ref mmA :: .ref mqA :: .ref mzA :: .ref mwy :: .ref mfd :: .int msz :: .int (nI cz) :: .int mch :: .int mft :: .int mpt :: .int mdp :: .int mvd :: .long mnw :: .int mmk :: []))) G) (kmrV : Xc Ad mrV (.inl (gT, 8, .inr (.inr (.inr (.inr fV))))) G) (hx_mo_mrV : mo ≠ mrV) (hrv : STl κ Ad τ KL fV) (hKL : KL ≤ 8) (hk9 : k9 < KL) : Met l y_Model_listPart w_Model_listPart ({ frames := 1, cells := 0, slots := 0, locals := 22 }) (mu_P [.ref mo, .int (nI k9), .int 0] (dC, dI) sb G [(γ.1, .byte), (γ.2.1, .int), (γ.2.2.1, .long), (γ.2.2.2, .object "java/lang/Object"), (gT, .object "TrustChainModel$Text")] sz) (va_Ql (fun r (G' : va_W) => TR γ κ Ad τ G' ∧ FL Ad [mo] G G' ∧ ((∃ t, fV k9 = some t ∧ r = (τ t).J 7) ∧ Xc Ad mo (.inr (12, (.int 0 :: .int (nI fd) :: .int mwr :: .int (nI K9) :: .int (nI KL) :: .ref moc :: .ref msT :: .ref mrV :: .ref msP :: .int mqs :: .ref mrA :: .ref mbA :: .ref mwA :: .ref mhA :: .ref mfA :: .ref mpA :: .ref mxA :: .ref myA :: .ref mmA :: .ref mqA :: .ref mzA :: .ref mwy :: .ref mfd :: .int msz :: .int (nI cz) :: .int mch :: .int mft :: .int mpt :: .int mdp :: .int mvd :: .long mnw :: .int mmk :: []))) G')) (mu_B (dC, dI) [(γ.1, .byte), (γ.2.1, .int), (γ.2.2.1, .long), (γ.2.2.2, .object "java/lang/Object"), (gT, .object "TrustChainModel$Text")] (va_A G sz) (fun G' : va_W => G')) (va_A G sz)) 0 0 (va_A G sz) := by
  refine Met.ofW (cc := b_Model_listPart) (maxL := 4) (ret := (some FieldType.long)) (by decide) rfl ?_
  intro p e s m args below meth c s₁ B hml hv
  obtain ⟨rfl, hsz, hB0, hP, hK, hD0, hN, hT0⟩ := hv
  have hx := B.exec
  have hb := B.bytes
  have hr := B.returns
  have hts := atoms_spec (ws := w_Model_listPart) B.pre
  have tbin : ∀ w ∈ tb, w ∈ w_Model_listPart := fun w h => List.mem_cons_of_mem _ h
  have htb : ∀ w ∈ tb, w.before _ s = true := fun w h => hts w (tbin w h)
  have hown : s.vm.findClass "TrustChainModel" = some m.cls := findClass_of_methodNamed B.named
  have hlocks := B.notSynchronized
  subst hsz
  have hD := hD0.self (sz := s.heap.size)
  generalize hAe : va_A G s.heap.size = A at hD ⊢
  have hA : ∀ q : Nat, s.heap.size ≤ q → A q := fun q h => by rw [← hAe]; exact Or.inr h
  have hAs : ∀ q : Nat, A q → sb.1 ≤ q := fun q h => by
    rw [← hAe] at h
    rcases h with ⟨k, e, h⟩ | h
    · exact hD0.2 k _ h
    · exact Nat.le_trans hB0 h
  have hS : va_S A s.heap s.heap [] := va_S.rf
  have hFR := FL.rf Ad [mo] G
  have hcs : 0 ≤ (headSpec w_Model_listPart ({ frames := 1, cells := 0, slots := 0, locals := 22 })).room.cells ∧ 0 ≤ (headSpec w_Model_listPart ({ frames := 1, cells := 0, slots := 0, locals := 22 })).room.slots := ⟨Nat.le_refl _, Nat.le_refl _⟩
  have hP : va_P (dC, dI) classes G s.heap := hP
  have hl := lv_entry ([.ref mo, .int (nI k9), .int 0]) (n := 4) (Nat.le_of_ble_eq_true rfl)
  rw [lg_entry_eq]
  generalize (lg_sl ([.ref mo, .int (nI k9), .int 0]) ++ List.replicate (4 - (lg_sl ([.ref mo, .int (nI k9), .int 0])).length) Slot.unset).toArray = ls at hl ⊢
  have hl : lv_has ls 4 [(0, .ref mo), (1, .int (nI k9)), (2, .int 0)] := hl
  obtain ⟨cX_mo, eX_mo⟩ : ∃ z : va_E, z = .inr (12, (.int mer :: .int (nI fd) :: .int mwr :: .int (nI K9) :: .int (nI KL) :: .ref moc :: .ref msT :: .ref mrV :: .ref msP :: .int mqs :: .ref mrA :: .ref mbA :: .ref mwA :: .ref mhA :: .ref mfA :: .ref mpA :: .ref mxA :: .ref myA :: .ref mmA :: .ref mqA :: .ref mzA :: .ref mwy :: .ref mfd :: .int msz :: .int (nI cz) :: .int mch :: .int mft :: .int mpt :: .int mdp :: .int mvd :: .long mnw :: .int mmk :: [])) := ⟨_, rfl⟩
  rw [← eX_mo] at kmo
  have hwhat : ¬ (0 : Int32) < 0 ∧ ¬ (3 : Int32) < 0 := by decide
  refine lv_aload_n hx hb d_Model_listPart_0 rfl (lv_at hl 0 rfl) ?_
  refine lv_iconst (v := 0) hx hb d_Model_listPart_1 (by decide) ?_
  obtain ⟨i_1, hg_1⟩ := List.getElem?_of_mem kmo.2
  rw [eX_mo] at hg_1
  refine va_put (v := .int 0) (ty := .int) hx hb htb i_Model t_Model t_Model_ok n_Model hown hK hP hD hS i_1 hg_1 rfl 0 (by decide) (htb _ q7_214) (fun _ h9 => h9) rfl (by decide +kernel) rfl rfl (Nat.le_of_ble_eq_true rfl) d_Model_listPart_2 (fun H2 locs hP hD2 hS => ?_)
  have hP : va_P (dC, dI) classes (G.set i_1 (mo, .inr (12, (.int 0 :: .int (nI fd) :: .int mwr :: .int (nI K9) :: .int (nI KL) :: .ref moc :: .ref msT :: .ref mrV :: .ref msP :: .int mqs :: .ref mrA :: .ref mbA :: .ref mwA :: .ref mhA :: .ref mfA :: .ref mpA :: .ref mxA :: .ref myA :: .ref mmA :: .ref mqA :: .ref mzA :: .ref mwy :: .ref mfd :: .int msz :: .int (nI cz) :: .int mch :: .int mft :: .int mpt :: .int mdp :: .int mvd :: .long mnw :: .int mmk :: [])))) H2 := hP
  have hD3 : va_D A (G.set i_1 (mo, .inr (12, (.int 0 :: .int (nI fd) :: .int mwr :: .int (nI K9) :: .int (nI KL) :: .ref moc :: .ref msT :: .ref mrV :: .ref msP :: .int mqs :: .ref mrA :: .ref mbA :: .ref mwA :: .ref mhA :: .ref mfA :: .ref mpA :: .ref mxA :: .ref myA :: .ref mmA :: .ref mqA :: .ref mzA :: .ref mwy :: .ref mfd :: .int msz :: .int (nI cz) :: .int mch :: .int mft :: .int mpt :: .int mdp :: .int mvd :: .long mnw :: .int mmk :: [])))) := hD2
  have hTy := TR.setX (c' := .inr (12, (.int 0 :: .int (nI fd) :: .int mwr :: .int (nI K9) :: .int (nI KL) :: .ref moc :: .ref msT :: .ref mrV :: .ref msP :: .int mqs :: .ref mrA :: .ref mbA :: .ref mwA :: .ref mhA :: .ref mfA :: .ref mpA :: .ref mxA :: .ref myA :: .ref mmA :: .ref mqA :: .ref mzA :: .ref mwy :: .ref mfd :: .int msz :: .int (nI cz) :: .int mch :: .int mft :: .int mpt :: .int mdp :: .int mvd :: .long mnw :: .int mmk :: []))) hTy hg_1 kmo.1
  have kmrV := Xc.setX (c' := .inr (12, (.int 0 :: .int (nI fd) :: .int mwr :: .int (nI K9) :: .int (nI KL) :: .ref moc :: .ref msT :: .ref mrV :: .ref msP :: .int mqs :: .ref mrA :: .ref mbA :: .ref mwA :: .ref mhA :: .ref mfA :: .ref mpA :: .ref mxA :: .ref myA :: .ref mmA :: .ref mqA :: .ref mzA :: .ref mwy :: .ref mfd :: .int msz :: .int (nI cz) :: .int mch :: .int mft :: .int mpt :: .int mdp :: .int mvd :: .long mnw :: .int mmk :: []))) kmrV hg_1 (fun e => hx_mo_mrV.symm (congrArg Prod.fst e))
  have hFR := hFR.tr (FL.set (Ad := Ad) (X := [mo]) (c' := .inr (12, (.int 0 :: .int (nI fd) :: .int mwr :: .int (nI K9) :: .int (nI KL) :: .ref moc :: .ref msT :: .ref mrV :: .ref msP :: .int mqs :: .ref mrA :: .ref mbA :: .ref mwA :: .ref mhA :: .ref mfA :: .ref mpA :: .ref mxA :: .ref myA :: .ref mmA :: .ref mqA :: .ref mzA :: .ref mwy :: .ref mfd :: .int msz :: .int (nI cz) :: .int mch :: .int mft :: .int mpt :: .int mdp :: .int mvd :: .long mnw :: .int mmk :: []))) hg_1 (by simp))
  have hg_1 := set_here (c' := .inr (12, (.int 0 :: .int (nI fd) :: .int mwr :: .int (nI K9) :: .int (nI KL) :: .ref moc :: .ref msT :: .ref mrV :: .ref msP :: .int mqs :: .ref mrA :: .ref mbA :: .ref mwA :: .ref mhA :: .ref mfA :: .ref mpA :: .ref mxA :: .ref myA :: .ref mmA :: .ref mqA :: .ref mzA :: .ref mwy :: .ref mfd :: .int msz :: .int (nI cz) :: .int mch :: .int mft :: .int mpt :: .int mdp :: .int mvd :: .long mnw :: .int mmk :: []))) hg_1
  have kmo : Xc Ad mo (.inr (12, (.int 0 :: .int (nI fd) :: .int mwr :: .int (nI K9) :: .int (nI KL) :: .ref moc :: .ref msT :: .ref mrV :: .ref msP :: .int mqs :: .ref mrA :: .ref mbA :: .ref mwA :: .ref mhA :: .ref mfA :: .ref mpA :: .ref mxA :: .ref myA :: .ref mmA :: .ref mqA :: .ref mzA :: .ref mwy :: .ref mfd :: .int msz :: .int (nI cz) :: .int mch :: .int mft :: .int mpt :: .int mdp :: .int mvd :: .long mnw :: .int mmk :: []))) (G.set i_1 (mo, .inr (12, (.int 0 :: .int (nI fd) :: .int mwr :: .int (nI K9) :: .int (nI KL) :: .ref moc :: .ref msT :: .ref mrV :: .ref msP :: .int mqs :: .ref mrA :: .ref mbA :: .ref mwA :: .ref mhA :: .ref mfA :: .ref mpA :: .ref mxA :: .ref myA :: .ref mmA :: .ref mqA :: .ref mzA :: .ref mwy :: .ref mfd :: .int msz :: .int (nI cz) :: .int mch :: .int mft :: .int mpt :: .int mdp :: .int mvd :: .long mnw :: .int mmk :: [])))) := ⟨kmo.1, List.mem_of_getElem? hg_1⟩
  have hD := hD3
  clear hD3 hD2
  generalize G.set i_1 (mo, .inr (12, (.int 0 :: .int (nI fd) :: .int mwr :: .int (nI K9) :: .int (nI KL) :: .ref moc :: .ref msT :: .ref mrV :: .ref msP :: .int mqs :: .ref mrA :: .ref mbA :: .ref mwA :: .ref mhA :: .ref mfA :: .ref mpA :: .ref mxA :: .ref myA :: .ref mmA :: .ref mqA :: .ref mzA :: .ref mwy :: .ref mfd :: .int msz :: .int (nI cz) :: .int mch :: .int mft :: .int mpt :: .int mdp :: .int mvd :: .long mnw :: .int mmk :: []))) = G_2 at hP hD hTy hFR kmo kmrV hg_1
  obtain ⟨cX_3, eX_3⟩ : ∃ z : va_E, z = .inr (12, (.int 0 :: .int (nI fd) :: .int mwr :: .int (nI K9) :: .int (nI KL) :: .ref moc :: .ref msT :: .ref mrV :: .ref msP :: .int mqs :: .ref mrA :: .ref mbA :: .ref mwA :: .ref mhA :: .ref mfA :: .ref mpA :: .ref mxA :: .ref myA :: .ref mmA :: .ref mqA :: .ref mzA :: .ref mwy :: .ref mfd :: .int msz :: .int (nI cz) :: .int mch :: .int mft :: .int mpt :: .int mdp :: .int mvd :: .long mnw :: .int mmk :: [])) := ⟨_, rfl⟩
  rw [← eX_3] at kmo
  refine lv_aload_n hx hb d_Model_listPart_5 rfl (lv_at hl 0 rfl) ?_
  refine lv_iload_n hx hb d_Model_listPart_6 rfl (lv_at hl 2 rfl) ?_
  refine lv_iconst (v := 0) hx hb d_Model_listPart_7 (by decide) ?_
  refine lv_iconst (v := 3) hx hb d_Model_listPart_8 (by decide) ?_
  refine vp_callSi (pu_callS (As := [.int 0, .int 0, .int 3]) (rest := [.ref mo]) ⟨hx, hb, hml, hown, hts⟩ tbin (c_Model_in l dC dI sb (0 : Int32) (0 : Int32) (3 : Int32)) q9_68 q8_116 q1_9 q8_117 (n := 3) (by decide +kernel) rfl ⟨rfl, rfl⟩ ⟨Nat.le_of_ble_eq_true rfl, Nat.le_of_ble_eq_true rfl⟩ ⟨Nat.le_of_ble_eq_true rfl, Nat.le_of_ble_eq_true rfl⟩ hN (hT0.keep hS hAs) hK hP [] (by simp only [List.filterMap_cons, List.filterMap_nil]) [] rfl hl.1 rfl (Nat.le_of_ble_eq_true rfl) d_Model_listPart_9) (fun r9 hr9 => ?_)
  refine lv_if_ne (tgt := 19) hx hb d_Model_listPart_12 (by decide) (fun c12 => ?_) (fun c12 => ?_)
  · have p12 : ¬ (r9 = (0 : Int32)) := c12
    refine lv_iconst (v := 0) hx hb d_Model_listPart_19 (by decide) ?_
    refine lv_iconst (v := 1) hx hb d_Model_listPart_20 (by decide) ?_
    have hFc := va_free (wc := G_2) hD hS hA (List.range G_2.length) (rg_is _)
    refine va_calli (mu_runV (As := [.int 0, .int 1]) (rest := []) ⟨hx, hb, hml, hown, hts⟩ tbin (m_Model_fails_0 l dC dI sb γ κ Ad τ gT G_2 mo _ _ _ _ _ _ _ _ _ _ _ _ _ _ _ _ _ _ _ _ _ _ _ _ _ _ _ _ _ _ _ _ H2.size hTy (by have h9 := kmo; rw [eX_3] at h9; exact h9) ) q8_79 q8_81 qp_36 q1_9 q8_82 (n := 2) (by decide +kernel) rfl ⟨rfl, rfl⟩ ⟨Nat.le_of_ble_eq_true rfl, Nat.le_of_ble_eq_true rfl⟩ ⟨Nat.le_of_ble_eq_true rfl, Nat.le_of_ble_eq_true rfl⟩ hN (hT0.keep hS hAs) hAs (Nat.le_trans hB0 hS.1) hK hP hD (List.range G_2.length) (rg_nd _) (rg_is _) [0, 1, 2, 3, 4] rfl i_1 12 hg_1 rfl rfl hl.1 rfl (Nat.le_of_ble_eq_true rfl) d_Model_listPart_21) hS (fun q _ h => hFc q h) hFc (fun r21 G_4 tS H21 locs ht hvm hw21 hB hz1 hk1 hS => ?_)
    obtain ⟨hTy, hF9, hr21⟩ := hw21
    have kmo := kmo.fl hF9 (q_nmn)
    have kmrV := kmrV.fl hF9 (q_nmn)
    have hFR := hFR.tr (hF9.up (q_gan))
    obtain ⟨hP1, hK1, hD1⟩ := hB
    rw [ht] at hP1
    have hP : va_P (dC, dI) classes G_4 H21 := hP1
    have hD : va_D A G_4 := hD1.weaken (fun _ _ _ h => hFc _ h)
    subst hr21
    refine lv_if_ne (tgt := 54) hx hb d_Model_listPart_24 (by decide) (fun c24 => ?_) (fun c24 => ?_)
    · exact absurd c24 (by decide)
    refine lv_aload_n hx hb d_Model_listPart_27 rfl (lv_at hl 0 rfl) ?_
    refine lv_iload_n hx hb d_Model_listPart_28 rfl (lv_at hl 1 rfl) ?_
    refine lv_iconst (v := 0) hx hb d_Model_listPart_29 (by decide) ?_
    refine lv_aload_n hx hb d_Model_listPart_30 rfl (lv_at hl 0 rfl) ?_
    obtain ⟨i_5, hg_5⟩ := List.getElem?_of_mem kmo.2
    rw [eX_3] at hg_5
    refine va_get (v := .int (nI KL)) hx hb htb i_Model hown hK hP i_5 hg_5 rfl 4 (by decide) (htb _ q7_218) (fun _ h9 => h9) rfl d_Model_listPart_31 ?_
    refine lv_iconst (v := 1) hx hb d_Model_listPart_34 (by decide) ?_
    refine lv_isub hx hb d_Model_listPart_35 ?_
    refine vp_callSi (pu_callS (As := [.int (nI k9), .int 0, .int ((nI KL) - 1)]) (rest := [.ref mo]) ⟨hx, hb, hml, hown, hts⟩ tbin (c_Model_in l dC dI sb (nI k9) (0 : Int32) ((nI KL) - 1)) q9_68 q8_116 q1_9 q8_117 (n := 3) (by decide +kernel) rfl ⟨rfl, rfl⟩ ⟨Nat.le_of_ble_eq_true rfl, Nat.le_of_ble_eq_true rfl⟩ ⟨Nat.le_of_ble_eq_true rfl, Nat.le_of_ble_eq_true rfl⟩ hN (hT0.keep hS hAs) hK hP [] (by simp only [List.filterMap_cons, List.filterMap_nil]) [] rfl hl.1 rfl (Nat.le_of_ble_eq_true rfl) d_Model_listPart_36) (fun r36 hr36 => ?_)
    refine lv_if_ne (tgt := 46) hx hb d_Model_listPart_39 (by decide) (fun c39 => ?_) (fun c39 => ?_)
    · have p39 : ¬ (r36 = (0 : Int32)) := c39
      refine lv_iconst (v := 0) hx hb d_Model_listPart_46 (by decide) ?_
      refine lv_iconst (v := 2) hx hb d_Model_listPart_47 (by decide) ?_
      have hFc := va_free (wc := G_4) hD hS hA (List.range G_4.length) (rg_is _)
      refine va_calli (mu_runV (As := [.int 0, .int 2]) (rest := []) ⟨hx, hb, hml, hown, hts⟩ tbin (m_Model_fails_0 l dC dI sb γ κ Ad τ gT G_4 mo _ _ _ _ _ _ _ _ _ _ _ _ _ _ _ _ _ _ _ _ _ _ _ _ _ _ _ _ _ _ _ _ H21.size hTy (by have h9 := kmo; rw [eX_3] at h9; exact h9) ) q8_79 q8_81 qp_36 q1_9 q8_82 (n := 2) (by decide +kernel) rfl ⟨rfl, rfl⟩ ⟨Nat.le_of_ble_eq_true rfl, Nat.le_of_ble_eq_true rfl⟩ ⟨Nat.le_of_ble_eq_true rfl, Nat.le_of_ble_eq_true rfl⟩ hN (hT0.keep hS hAs) hAs (Nat.le_trans hB0 hS.1) hK hP hD (List.range G_4.length) (rg_nd _) (rg_is _) [0, 1, 2, 3, 4] rfl i_5 12 hg_5 rfl rfl hl.1 rfl (Nat.le_of_ble_eq_true rfl) d_Model_listPart_48) hS (fun q _ h => hFc q h) hFc (fun r48 G_6 tS H48 locs ht hvm hw48 hB hz1 hk1 hS => ?_)
      obtain ⟨hTy, hF9, hr48⟩ := hw48
      have kmo := kmo.fl hF9 (q_nmn)
      have kmrV := kmrV.fl hF9 (q_nmn)
      have hFR := hFR.tr (hF9.up (q_gan))
      obtain ⟨hP1, hK1, hD1⟩ := hB
      rw [ht] at hP1
      have hP : va_P (dC, dI) classes G_6 H48 := hP1
      have hD : va_D A G_6 := hD1.weaken (fun _ _ _ h => hFc _ h)
      subst hr48
      refine lv_if_eq (tgt := 56) hx hb d_Model_listPart_51 (by decide) (fun c51 => ?_) (fun c51 => ?_)
      rotate_left
      · exact absurd c51 (by decide)
      refine lv_aload_n hx hb d_Model_listPart_56 rfl (lv_at hl 0 rfl) ?_
      obtain ⟨i_7, hg_7⟩ := List.getElem?_of_mem kmo.2
      rw [eX_3] at hg_7
      refine va_get (v := .ref mrV) hx hb htb i_Model hown hK hP i_7 hg_7 rfl 7 (by decide) (htb _ q7_221) (fun _ h9 => h9) rfl d_Model_listPart_57 ?_
      refine lv_iload_n hx hb d_Model_listPart_60 rfl (lv_at hl 1 rfl) ?_
      obtain ⟨i_8, hg_8⟩ := List.getElem?_of_mem kmrV.2
      have h61 : vp_in (nI k9) 8 := vp_in_nI (by omega) (by omega)
      refine va_aldq hx hb hK hP i_8 4 hg_8 rfl h61 d_Model_listPart_61 ?_
      obtain ⟨t61, ft61, kt61, hc_t61⟩ := hrv k9 (by omega)
      rw [show va_rf (fV (nI k9).toNatClampNeg) = .ref t61 from by rw [nI_clamp (by omega), ft61]; rfl]
      have b1_t61 := hc_t61.b1
      have b2_t61 := hc_t61.b2
      have b3_t61 := hc_t61.b3
      have b4_t61 := hc_t61.b4
      refine lv_astore_n (lv' := [(3, .ref t61), (0, .ref mo), (1, .int (nI k9)), (2, .int 0)]) hx hb d_Model_listPart_62 rfl hl (by decide) rfl (fun ls hl => ?_)
      refine lv_iload_n hx hb d_Model_listPart_63 rfl (lv_at hl 3 rfl) ?_
      refine lv_if_ne (tgt := 74) hx hb d_Model_listPart_64 (by decide) (fun c64 => ?_) (fun c64 => ?_)
      · exact absurd c64 (by decide)
      refine lv_aload_n hx hb d_Model_listPart_67 rfl (lv_at hl 0 rfl) ?_
      obtain ⟨i_9, kA_9, hg_9⟩ := tr_20 hTy kt61
      refine va_get (v := .long ((τ t61).J 7)) hx hb htb i_Text hown hK hP i_9 hg_9 rfl 7 (by decide) (htb _ q6_188) (fun _ h9 => h9) rfl d_Model_listPart_68 ?_
      refine lv_goto (tgt := 104) hx hb d_Model_listPart_71 (by decide) ?_
      exact W.lret (v := ((τ t61).J 7)) hx hb hr (fun t ht hW => ⟨⟨_, G_6, rfl, ⟨hTy, hFR, ⟨t61, ft61, rfl⟩, (by rw [eX_3] at kmo; exact kmo)⟩, by rw [ht]; exact hP, va_K.moved hW.alike hK, hD⟩, hS.F ht⟩) hS.2.2 d_Model_listPart_104
    · have p39 : r36 = (0 : Int32) := c39
      exact absurd (in_ok hk9 (by omega)) (bz_0 hr36 p39)
  · have p12 : r9 = (0 : Int32) := c12
    exact absurd hwhat (bz_0 hr9 p12)
set_option maxHeartbeats 4000000 in
set_option maxRecDepth 100000 in
theorem m_Model_listPart_ok1 (l : Launch) (dC : Nat → ClassId) (dI : Nat → Nat → Nat) (sb : sB) (γ : cG) (κ : kE) (Ad : List Nat) (τ : Nat → TD) (gT : ClassId) (G : va_W) (mo : Nat) (moc msT mrV msP mrA mbA mwA mhA mfA mpA mxA myA mmA mqA mzA mwy mfd : Nat) (mer mwr mqs msz mch mft mpt mdp mvd mmk : Int32) (mnw : Int64) (K9 KL cz fd : Nat) (k9 : Nat) (fV : Nat → Option Nat) (sz : Nat) (hTy : TR γ κ Ad τ G) (kmo : Xc Ad mo (.inr (12, (.int mer :: .int (nI fd) :: .int mwr :: .int (nI K9) :: .int (nI KL) :: .ref moc :: .ref msT :: .ref mrV :: .ref msP :: .int mqs :: .ref mrA :: .ref mbA :: .ref mwA :: .ref mhA :: .ref mfA :: .ref mpA :: .ref mxA :: .ref myA :: .ref mmA :: .ref mqA :: .ref mzA :: .ref mwy :: .ref mfd :: .int msz :: .int (nI cz) :: .int mch :: .int mft :: .int mpt :: .int mdp :: .int mvd :: .long mnw :: .int mmk :: []))) G) (kmrV : Xc Ad mrV (.inl (gT, 8, .inr (.inr (.inr (.inr fV))))) G) (hx_mo_mrV : mo ≠ mrV) (hrv : STl κ Ad τ KL fV) (hKL : KL ≤ 8) (hk9 : k9 < KL) : Met l y_Model_listPart w_Model_listPart ({ frames := 1, cells := 0, slots := 0, locals := 22 }) (mu_P [.ref mo, .int (nI k9), .int 1] (dC, dI) sb G [(γ.1, .byte), (γ.2.1, .int), (γ.2.2.1, .long), (γ.2.2.2, .object "java/lang/Object"), (gT, .object "TrustChainModel$Text")] sz) (va_Ql (fun r (G' : va_W) => TR γ κ Ad τ G' ∧ FL Ad [mo] G G' ∧ ((∃ t, fV k9 = some t ∧ r = (τ t).J 8) ∧ Xc Ad mo (.inr (12, (.int 0 :: .int (nI fd) :: .int mwr :: .int (nI K9) :: .int (nI KL) :: .ref moc :: .ref msT :: .ref mrV :: .ref msP :: .int mqs :: .ref mrA :: .ref mbA :: .ref mwA :: .ref mhA :: .ref mfA :: .ref mpA :: .ref mxA :: .ref myA :: .ref mmA :: .ref mqA :: .ref mzA :: .ref mwy :: .ref mfd :: .int msz :: .int (nI cz) :: .int mch :: .int mft :: .int mpt :: .int mdp :: .int mvd :: .long mnw :: .int mmk :: []))) G')) (mu_B (dC, dI) [(γ.1, .byte), (γ.2.1, .int), (γ.2.2.1, .long), (γ.2.2.2, .object "java/lang/Object"), (gT, .object "TrustChainModel$Text")] (va_A G sz) (fun G' : va_W => G')) (va_A G sz)) 0 0 (va_A G sz) := by
  refine Met.ofW (cc := b_Model_listPart) (maxL := 4) (ret := (some FieldType.long)) (by decide) rfl ?_
  intro p e s m args below meth c s₁ B hml hv
  obtain ⟨rfl, hsz, hB0, hP, hK, hD0, hN, hT0⟩ := hv
  have hx := B.exec
  have hb := B.bytes
  have hr := B.returns
  have hts := atoms_spec (ws := w_Model_listPart) B.pre
  have tbin : ∀ w ∈ tb, w ∈ w_Model_listPart := fun w h => List.mem_cons_of_mem _ h
  have htb : ∀ w ∈ tb, w.before _ s = true := fun w h => hts w (tbin w h)
  have hown : s.vm.findClass "TrustChainModel" = some m.cls := findClass_of_methodNamed B.named
  have hlocks := B.notSynchronized
  subst hsz
  have hD := hD0.self (sz := s.heap.size)
  generalize hAe : va_A G s.heap.size = A at hD ⊢
  have hA : ∀ q : Nat, s.heap.size ≤ q → A q := fun q h => by rw [← hAe]; exact Or.inr h
  have hAs : ∀ q : Nat, A q → sb.1 ≤ q := fun q h => by
    rw [← hAe] at h
    rcases h with ⟨k, e, h⟩ | h
    · exact hD0.2 k _ h
    · exact Nat.le_trans hB0 h
  have hS : va_S A s.heap s.heap [] := va_S.rf
  have hFR := FL.rf Ad [mo] G
  have hcs : 0 ≤ (headSpec w_Model_listPart ({ frames := 1, cells := 0, slots := 0, locals := 22 })).room.cells ∧ 0 ≤ (headSpec w_Model_listPart ({ frames := 1, cells := 0, slots := 0, locals := 22 })).room.slots := ⟨Nat.le_refl _, Nat.le_refl _⟩
  have hP : va_P (dC, dI) classes G s.heap := hP
  have hl := lv_entry ([.ref mo, .int (nI k9), .int 1]) (n := 4) (Nat.le_of_ble_eq_true rfl)
  rw [lg_entry_eq]
  generalize (lg_sl ([.ref mo, .int (nI k9), .int 1]) ++ List.replicate (4 - (lg_sl ([.ref mo, .int (nI k9), .int 1])).length) Slot.unset).toArray = ls at hl ⊢
  have hl : lv_has ls 4 [(0, .ref mo), (1, .int (nI k9)), (2, .int 1)] := hl
  obtain ⟨cX_mo, eX_mo⟩ : ∃ z : va_E, z = .inr (12, (.int mer :: .int (nI fd) :: .int mwr :: .int (nI K9) :: .int (nI KL) :: .ref moc :: .ref msT :: .ref mrV :: .ref msP :: .int mqs :: .ref mrA :: .ref mbA :: .ref mwA :: .ref mhA :: .ref mfA :: .ref mpA :: .ref mxA :: .ref myA :: .ref mmA :: .ref mqA :: .ref mzA :: .ref mwy :: .ref mfd :: .int msz :: .int (nI cz) :: .int mch :: .int mft :: .int mpt :: .int mdp :: .int mvd :: .long mnw :: .int mmk :: [])) := ⟨_, rfl⟩
  rw [← eX_mo] at kmo
  have hwhat : ¬ (1 : Int32) < 0 ∧ ¬ (3 : Int32) < 1 := by decide
  refine lv_aload_n hx hb d_Model_listPart_0 rfl (lv_at hl 0 rfl) ?_
  refine lv_iconst (v := 0) hx hb d_Model_listPart_1 (by decide) ?_
  obtain ⟨i_1, hg_1⟩ := List.getElem?_of_mem kmo.2
  rw [eX_mo] at hg_1
  refine va_put (v := .int 0) (ty := .int) hx hb htb i_Model t_Model t_Model_ok n_Model hown hK hP hD hS i_1 hg_1 rfl 0 (by decide) (htb _ q7_214) (fun _ h9 => h9) rfl (by decide +kernel) rfl rfl (Nat.le_of_ble_eq_true rfl) d_Model_listPart_2 (fun H2 locs hP hD2 hS => ?_)
  have hP : va_P (dC, dI) classes (G.set i_1 (mo, .inr (12, (.int 0 :: .int (nI fd) :: .int mwr :: .int (nI K9) :: .int (nI KL) :: .ref moc :: .ref msT :: .ref mrV :: .ref msP :: .int mqs :: .ref mrA :: .ref mbA :: .ref mwA :: .ref mhA :: .ref mfA :: .ref mpA :: .ref mxA :: .ref myA :: .ref mmA :: .ref mqA :: .ref mzA :: .ref mwy :: .ref mfd :: .int msz :: .int (nI cz) :: .int mch :: .int mft :: .int mpt :: .int mdp :: .int mvd :: .long mnw :: .int mmk :: [])))) H2 := hP
  have hD3 : va_D A (G.set i_1 (mo, .inr (12, (.int 0 :: .int (nI fd) :: .int mwr :: .int (nI K9) :: .int (nI KL) :: .ref moc :: .ref msT :: .ref mrV :: .ref msP :: .int mqs :: .ref mrA :: .ref mbA :: .ref mwA :: .ref mhA :: .ref mfA :: .ref mpA :: .ref mxA :: .ref myA :: .ref mmA :: .ref mqA :: .ref mzA :: .ref mwy :: .ref mfd :: .int msz :: .int (nI cz) :: .int mch :: .int mft :: .int mpt :: .int mdp :: .int mvd :: .long mnw :: .int mmk :: [])))) := hD2
  have hTy := TR.setX (c' := .inr (12, (.int 0 :: .int (nI fd) :: .int mwr :: .int (nI K9) :: .int (nI KL) :: .ref moc :: .ref msT :: .ref mrV :: .ref msP :: .int mqs :: .ref mrA :: .ref mbA :: .ref mwA :: .ref mhA :: .ref mfA :: .ref mpA :: .ref mxA :: .ref myA :: .ref mmA :: .ref mqA :: .ref mzA :: .ref mwy :: .ref mfd :: .int msz :: .int (nI cz) :: .int mch :: .int mft :: .int mpt :: .int mdp :: .int mvd :: .long mnw :: .int mmk :: []))) hTy hg_1 kmo.1
  have kmrV := Xc.setX (c' := .inr (12, (.int 0 :: .int (nI fd) :: .int mwr :: .int (nI K9) :: .int (nI KL) :: .ref moc :: .ref msT :: .ref mrV :: .ref msP :: .int mqs :: .ref mrA :: .ref mbA :: .ref mwA :: .ref mhA :: .ref mfA :: .ref mpA :: .ref mxA :: .ref myA :: .ref mmA :: .ref mqA :: .ref mzA :: .ref mwy :: .ref mfd :: .int msz :: .int (nI cz) :: .int mch :: .int mft :: .int mpt :: .int mdp :: .int mvd :: .long mnw :: .int mmk :: []))) kmrV hg_1 (fun e => hx_mo_mrV.symm (congrArg Prod.fst e))
  have hFR := hFR.tr (FL.set (Ad := Ad) (X := [mo]) (c' := .inr (12, (.int 0 :: .int (nI fd) :: .int mwr :: .int (nI K9) :: .int (nI KL) :: .ref moc :: .ref msT :: .ref mrV :: .ref msP :: .int mqs :: .ref mrA :: .ref mbA :: .ref mwA :: .ref mhA :: .ref mfA :: .ref mpA :: .ref mxA :: .ref myA :: .ref mmA :: .ref mqA :: .ref mzA :: .ref mwy :: .ref mfd :: .int msz :: .int (nI cz) :: .int mch :: .int mft :: .int mpt :: .int mdp :: .int mvd :: .long mnw :: .int mmk :: []))) hg_1 (by simp))
  have hg_1 := set_here (c' := .inr (12, (.int 0 :: .int (nI fd) :: .int mwr :: .int (nI K9) :: .int (nI KL) :: .ref moc :: .ref msT :: .ref mrV :: .ref msP :: .int mqs :: .ref mrA :: .ref mbA :: .ref mwA :: .ref mhA :: .ref mfA :: .ref mpA :: .ref mxA :: .ref myA :: .ref mmA :: .ref mqA :: .ref mzA :: .ref mwy :: .ref mfd :: .int msz :: .int (nI cz) :: .int mch :: .int mft :: .int mpt :: .int mdp :: .int mvd :: .long mnw :: .int mmk :: []))) hg_1
  have kmo : Xc Ad mo (.inr (12, (.int 0 :: .int (nI fd) :: .int mwr :: .int (nI K9) :: .int (nI KL) :: .ref moc :: .ref msT :: .ref mrV :: .ref msP :: .int mqs :: .ref mrA :: .ref mbA :: .ref mwA :: .ref mhA :: .ref mfA :: .ref mpA :: .ref mxA :: .ref myA :: .ref mmA :: .ref mqA :: .ref mzA :: .ref mwy :: .ref mfd :: .int msz :: .int (nI cz) :: .int mch :: .int mft :: .int mpt :: .int mdp :: .int mvd :: .long mnw :: .int mmk :: []))) (G.set i_1 (mo, .inr (12, (.int 0 :: .int (nI fd) :: .int mwr :: .int (nI K9) :: .int (nI KL) :: .ref moc :: .ref msT :: .ref mrV :: .ref msP :: .int mqs :: .ref mrA :: .ref mbA :: .ref mwA :: .ref mhA :: .ref mfA :: .ref mpA :: .ref mxA :: .ref myA :: .ref mmA :: .ref mqA :: .ref mzA :: .ref mwy :: .ref mfd :: .int msz :: .int (nI cz) :: .int mch :: .int mft :: .int mpt :: .int mdp :: .int mvd :: .long mnw :: .int mmk :: [])))) := ⟨kmo.1, List.mem_of_getElem? hg_1⟩
  have hD := hD3
  clear hD3 hD2
  generalize G.set i_1 (mo, .inr (12, (.int 0 :: .int (nI fd) :: .int mwr :: .int (nI K9) :: .int (nI KL) :: .ref moc :: .ref msT :: .ref mrV :: .ref msP :: .int mqs :: .ref mrA :: .ref mbA :: .ref mwA :: .ref mhA :: .ref mfA :: .ref mpA :: .ref mxA :: .ref myA :: .ref mmA :: .ref mqA :: .ref mzA :: .ref mwy :: .ref mfd :: .int msz :: .int (nI cz) :: .int mch :: .int mft :: .int mpt :: .int mdp :: .int mvd :: .long mnw :: .int mmk :: []))) = G_2 at hP hD hTy hFR kmo kmrV hg_1
  obtain ⟨cX_3, eX_3⟩ : ∃ z : va_E, z = .inr (12, (.int 0 :: .int (nI fd) :: .int mwr :: .int (nI K9) :: .int (nI KL) :: .ref moc :: .ref msT :: .ref mrV :: .ref msP :: .int mqs :: .ref mrA :: .ref mbA :: .ref mwA :: .ref mhA :: .ref mfA :: .ref mpA :: .ref mxA :: .ref myA :: .ref mmA :: .ref mqA :: .ref mzA :: .ref mwy :: .ref mfd :: .int msz :: .int (nI cz) :: .int mch :: .int mft :: .int mpt :: .int mdp :: .int mvd :: .long mnw :: .int mmk :: [])) := ⟨_, rfl⟩
  rw [← eX_3] at kmo
  refine lv_aload_n hx hb d_Model_listPart_5 rfl (lv_at hl 0 rfl) ?_
  refine lv_iload_n hx hb d_Model_listPart_6 rfl (lv_at hl 2 rfl) ?_
  refine lv_iconst (v := 0) hx hb d_Model_listPart_7 (by decide) ?_
  refine lv_iconst (v := 3) hx hb d_Model_listPart_8 (by decide) ?_
  refine vp_callSi (pu_callS (As := [.int 1, .int 0, .int 3]) (rest := [.ref mo]) ⟨hx, hb, hml, hown, hts⟩ tbin (c_Model_in l dC dI sb (1 : Int32) (0 : Int32) (3 : Int32)) q9_68 q8_116 q1_9 q8_117 (n := 3) (by decide +kernel) rfl ⟨rfl, rfl⟩ ⟨Nat.le_of_ble_eq_true rfl, Nat.le_of_ble_eq_true rfl⟩ ⟨Nat.le_of_ble_eq_true rfl, Nat.le_of_ble_eq_true rfl⟩ hN (hT0.keep hS hAs) hK hP [] (by simp only [List.filterMap_cons, List.filterMap_nil]) [] rfl hl.1 rfl (Nat.le_of_ble_eq_true rfl) d_Model_listPart_9) (fun r9 hr9 => ?_)
  refine lv_if_ne (tgt := 19) hx hb d_Model_listPart_12 (by decide) (fun c12 => ?_) (fun c12 => ?_)
  · have p12 : ¬ (r9 = (0 : Int32)) := c12
    refine lv_iconst (v := 0) hx hb d_Model_listPart_19 (by decide) ?_
    refine lv_iconst (v := 1) hx hb d_Model_listPart_20 (by decide) ?_
    have hFc := va_free (wc := G_2) hD hS hA (List.range G_2.length) (rg_is _)
    refine va_calli (mu_runV (As := [.int 0, .int 1]) (rest := []) ⟨hx, hb, hml, hown, hts⟩ tbin (m_Model_fails_0 l dC dI sb γ κ Ad τ gT G_2 mo _ _ _ _ _ _ _ _ _ _ _ _ _ _ _ _ _ _ _ _ _ _ _ _ _ _ _ _ _ _ _ _ H2.size hTy (by have h9 := kmo; rw [eX_3] at h9; exact h9) ) q8_79 q8_81 qp_36 q1_9 q8_82 (n := 2) (by decide +kernel) rfl ⟨rfl, rfl⟩ ⟨Nat.le_of_ble_eq_true rfl, Nat.le_of_ble_eq_true rfl⟩ ⟨Nat.le_of_ble_eq_true rfl, Nat.le_of_ble_eq_true rfl⟩ hN (hT0.keep hS hAs) hAs (Nat.le_trans hB0 hS.1) hK hP hD (List.range G_2.length) (rg_nd _) (rg_is _) [0, 1, 2, 3, 4] rfl i_1 12 hg_1 rfl rfl hl.1 rfl (Nat.le_of_ble_eq_true rfl) d_Model_listPart_21) hS (fun q _ h => hFc q h) hFc (fun r21 G_4 tS H21 locs ht hvm hw21 hB hz1 hk1 hS => ?_)
    obtain ⟨hTy, hF9, hr21⟩ := hw21
    have kmo := kmo.fl hF9 (q_nmn)
    have kmrV := kmrV.fl hF9 (q_nmn)
    have hFR := hFR.tr (hF9.up (q_gan))
    obtain ⟨hP1, hK1, hD1⟩ := hB
    rw [ht] at hP1
    have hP : va_P (dC, dI) classes G_4 H21 := hP1
    have hD : va_D A G_4 := hD1.weaken (fun _ _ _ h => hFc _ h)
    subst hr21
    refine lv_if_ne (tgt := 54) hx hb d_Model_listPart_24 (by decide) (fun c24 => ?_) (fun c24 => ?_)
    · exact absurd c24 (by decide)
    refine lv_aload_n hx hb d_Model_listPart_27 rfl (lv_at hl 0 rfl) ?_
    refine lv_iload_n hx hb d_Model_listPart_28 rfl (lv_at hl 1 rfl) ?_
    refine lv_iconst (v := 0) hx hb d_Model_listPart_29 (by decide) ?_
    refine lv_aload_n hx hb d_Model_listPart_30 rfl (lv_at hl 0 rfl) ?_
    obtain ⟨i_5, hg_5⟩ := List.getElem?_of_mem kmo.2
    rw [eX_3] at hg_5
    refine va_get (v := .int (nI KL)) hx hb htb i_Model hown hK hP i_5 hg_5 rfl 4 (by decide) (htb _ q7_218) (fun _ h9 => h9) rfl d_Model_listPart_31 ?_
    refine lv_iconst (v := 1) hx hb d_Model_listPart_34 (by decide) ?_
    refine lv_isub hx hb d_Model_listPart_35 ?_
    refine vp_callSi (pu_callS (As := [.int (nI k9), .int 0, .int ((nI KL) - 1)]) (rest := [.ref mo]) ⟨hx, hb, hml, hown, hts⟩ tbin (c_Model_in l dC dI sb (nI k9) (0 : Int32) ((nI KL) - 1)) q9_68 q8_116 q1_9 q8_117 (n := 3) (by decide +kernel) rfl ⟨rfl, rfl⟩ ⟨Nat.le_of_ble_eq_true rfl, Nat.le_of_ble_eq_true rfl⟩ ⟨Nat.le_of_ble_eq_true rfl, Nat.le_of_ble_eq_true rfl⟩ hN (hT0.keep hS hAs) hK hP [] (by simp only [List.filterMap_cons, List.filterMap_nil]) [] rfl hl.1 rfl (Nat.le_of_ble_eq_true rfl) d_Model_listPart_36) (fun r36 hr36 => ?_)
    refine lv_if_ne (tgt := 46) hx hb d_Model_listPart_39 (by decide) (fun c39 => ?_) (fun c39 => ?_)
    · have p39 : ¬ (r36 = (0 : Int32)) := c39
      refine lv_iconst (v := 0) hx hb d_Model_listPart_46 (by decide) ?_
      refine lv_iconst (v := 2) hx hb d_Model_listPart_47 (by decide) ?_
      have hFc := va_free (wc := G_4) hD hS hA (List.range G_4.length) (rg_is _)
      refine va_calli (mu_runV (As := [.int 0, .int 2]) (rest := []) ⟨hx, hb, hml, hown, hts⟩ tbin (m_Model_fails_0 l dC dI sb γ κ Ad τ gT G_4 mo _ _ _ _ _ _ _ _ _ _ _ _ _ _ _ _ _ _ _ _ _ _ _ _ _ _ _ _ _ _ _ _ H21.size hTy (by have h9 := kmo; rw [eX_3] at h9; exact h9) ) q8_79 q8_81 qp_36 q1_9 q8_82 (n := 2) (by decide +kernel) rfl ⟨rfl, rfl⟩ ⟨Nat.le_of_ble_eq_true rfl, Nat.le_of_ble_eq_true rfl⟩ ⟨Nat.le_of_ble_eq_true rfl, Nat.le_of_ble_eq_true rfl⟩ hN (hT0.keep hS hAs) hAs (Nat.le_trans hB0 hS.1) hK hP hD (List.range G_4.length) (rg_nd _) (rg_is _) [0, 1, 2, 3, 4] rfl i_5 12 hg_5 rfl rfl hl.1 rfl (Nat.le_of_ble_eq_true rfl) d_Model_listPart_48) hS (fun q _ h => hFc q h) hFc (fun r48 G_6 tS H48 locs ht hvm hw48 hB hz1 hk1 hS => ?_)
      obtain ⟨hTy, hF9, hr48⟩ := hw48
      have kmo := kmo.fl hF9 (q_nmn)
      have kmrV := kmrV.fl hF9 (q_nmn)
      have hFR := hFR.tr (hF9.up (q_gan))
      obtain ⟨hP1, hK1, hD1⟩ := hB
      rw [ht] at hP1
      have hP : va_P (dC, dI) classes G_6 H48 := hP1
      have hD : va_D A G_6 := hD1.weaken (fun _ _ _ h => hFc _ h)
      subst hr48
      refine lv_if_eq (tgt := 56) hx hb d_Model_listPart_51 (by decide) (fun c51 => ?_) (fun c51 => ?_)
      rotate_left
      · exact absurd c51 (by decide)
      refine lv_aload_n hx hb d_Model_listPart_56 rfl (lv_at hl 0 rfl) ?_
      obtain ⟨i_7, hg_7⟩ := List.getElem?_of_mem kmo.2
      rw [eX_3] at hg_7
      refine va_get (v := .ref mrV) hx hb htb i_Model hown hK hP i_7 hg_7 rfl 7 (by decide) (htb _ q7_221) (fun _ h9 => h9) rfl d_Model_listPart_57 ?_
      refine lv_iload_n hx hb d_Model_listPart_60 rfl (lv_at hl 1 rfl) ?_
      obtain ⟨i_8, hg_8⟩ := List.getElem?_of_mem kmrV.2
      have h61 : vp_in (nI k9) 8 := vp_in_nI (by omega) (by omega)
      refine va_aldq hx hb hK hP i_8 4 hg_8 rfl h61 d_Model_listPart_61 ?_
      obtain ⟨t61, ft61, kt61, hc_t61⟩ := hrv k9 (by omega)
      rw [show va_rf (fV (nI k9).toNatClampNeg) = .ref t61 from by rw [nI_clamp (by omega), ft61]; rfl]
      have b1_t61 := hc_t61.b1
      have b2_t61 := hc_t61.b2
      have b3_t61 := hc_t61.b3
      have b4_t61 := hc_t61.b4
      refine lv_astore_n (lv' := [(3, .ref t61), (0, .ref mo), (1, .int (nI k9)), (2, .int 1)]) hx hb d_Model_listPart_62 rfl hl (by decide) rfl (fun ls hl => ?_)
      refine lv_iload_n hx hb d_Model_listPart_63 rfl (lv_at hl 3 rfl) ?_
      refine lv_if_ne (tgt := 74) hx hb d_Model_listPart_64 (by decide) (fun c64 => ?_) (fun c64 => ?_)
      rotate_left
      · exact absurd c64 (by decide)
      refine lv_iload_n hx hb d_Model_listPart_74 rfl (lv_at hl 3 rfl) ?_
      refine lv_iconst (v := 1) hx hb d_Model_listPart_75 (by decide) ?_
      refine lv_icmp_ne (tgt := 86) hx hb d_Model_listPart_76 (by decide) (fun c76 => ?_) (fun c76 => ?_)
      · exact absurd c76 (by decide)
      refine lv_aload_n hx hb d_Model_listPart_79 rfl (lv_at hl 0 rfl) ?_
      obtain ⟨i_9, kA_9, hg_9⟩ := tr_20 hTy kt61
      refine va_get (v := .long ((τ t61).J 8)) hx hb htb i_Text hown hK hP i_9 hg_9 rfl 8 (by decide) (htb _ q6_190) (fun _ h9 => h9) rfl d_Model_listPart_80 ?_
      refine lv_goto (tgt := 104) hx hb d_Model_listPart_83 (by decide) ?_
      exact W.lret (v := ((τ t61).J 8)) hx hb hr (fun t ht hW => ⟨⟨_, G_6, rfl, ⟨hTy, hFR, ⟨t61, ft61, rfl⟩, (by rw [eX_3] at kmo; exact kmo)⟩, by rw [ht]; exact hP, va_K.moved hW.alike hK, hD⟩, hS.F ht⟩) hS.2.2 d_Model_listPart_104
    · have p39 : r36 = (0 : Int32) := c39
      exact absurd (in_ok hk9 (by omega)) (bz_0 hr36 p39)
  · have p12 : r9 = (0 : Int32) := c12
    exact absurd hwhat (bz_0 hr9 p12)
set_option maxHeartbeats 4000000 in
set_option maxRecDepth 100000 in
theorem m_Model_listPart_ok2 (l : Launch) (dC : Nat → ClassId) (dI : Nat → Nat → Nat) (sb : sB) (γ : cG) (κ : kE) (Ad : List Nat) (τ : Nat → TD) (gT : ClassId) (G : va_W) (mo : Nat) (moc msT mrV msP mrA mbA mwA mhA mfA mpA mxA myA mmA mqA mzA mwy mfd : Nat) (mer mwr mqs msz mch mft mpt mdp mvd mmk : Int32) (mnw : Int64) (K9 KL cz fd : Nat) (k9 : Nat) (fV : Nat → Option Nat) (sz : Nat) (hTy : TR γ κ Ad τ G) (kmo : Xc Ad mo (.inr (12, (.int mer :: .int (nI fd) :: .int mwr :: .int (nI K9) :: .int (nI KL) :: .ref moc :: .ref msT :: .ref mrV :: .ref msP :: .int mqs :: .ref mrA :: .ref mbA :: .ref mwA :: .ref mhA :: .ref mfA :: .ref mpA :: .ref mxA :: .ref myA :: .ref mmA :: .ref mqA :: .ref mzA :: .ref mwy :: .ref mfd :: .int msz :: .int (nI cz) :: .int mch :: .int mft :: .int mpt :: .int mdp :: .int mvd :: .long mnw :: .int mmk :: []))) G) (kmrV : Xc Ad mrV (.inl (gT, 8, .inr (.inr (.inr (.inr fV))))) G) (hx_mo_mrV : mo ≠ mrV) (hrv : STl κ Ad τ KL fV) (hKL : KL ≤ 8) (hk9 : k9 < KL) : Met l y_Model_listPart w_Model_listPart ({ frames := 1, cells := 0, slots := 0, locals := 22 }) (mu_P [.ref mo, .int (nI k9), .int 2] (dC, dI) sb G [(γ.1, .byte), (γ.2.1, .int), (γ.2.2.1, .long), (γ.2.2.2, .object "java/lang/Object"), (gT, .object "TrustChainModel$Text")] sz) (va_Ql (fun r (G' : va_W) => TR γ κ Ad τ G' ∧ FL Ad [mo] G G' ∧ ((∃ t, fV k9 = some t ∧ r = (nI (τ t).ne).toInt64) ∧ Xc Ad mo (.inr (12, (.int 0 :: .int (nI fd) :: .int mwr :: .int (nI K9) :: .int (nI KL) :: .ref moc :: .ref msT :: .ref mrV :: .ref msP :: .int mqs :: .ref mrA :: .ref mbA :: .ref mwA :: .ref mhA :: .ref mfA :: .ref mpA :: .ref mxA :: .ref myA :: .ref mmA :: .ref mqA :: .ref mzA :: .ref mwy :: .ref mfd :: .int msz :: .int (nI cz) :: .int mch :: .int mft :: .int mpt :: .int mdp :: .int mvd :: .long mnw :: .int mmk :: []))) G')) (mu_B (dC, dI) [(γ.1, .byte), (γ.2.1, .int), (γ.2.2.1, .long), (γ.2.2.2, .object "java/lang/Object"), (gT, .object "TrustChainModel$Text")] (va_A G sz) (fun G' : va_W => G')) (va_A G sz)) 0 0 (va_A G sz) := by
  refine Met.ofW (cc := b_Model_listPart) (maxL := 4) (ret := (some FieldType.long)) (by decide) rfl ?_
  intro p e s m args below meth c s₁ B hml hv
  obtain ⟨rfl, hsz, hB0, hP, hK, hD0, hN, hT0⟩ := hv
  have hx := B.exec
  have hb := B.bytes
  have hr := B.returns
  have hts := atoms_spec (ws := w_Model_listPart) B.pre
  have tbin : ∀ w ∈ tb, w ∈ w_Model_listPart := fun w h => List.mem_cons_of_mem _ h
  have htb : ∀ w ∈ tb, w.before _ s = true := fun w h => hts w (tbin w h)
  have hown : s.vm.findClass "TrustChainModel" = some m.cls := findClass_of_methodNamed B.named
  have hlocks := B.notSynchronized
  subst hsz
  have hD := hD0.self (sz := s.heap.size)
  generalize hAe : va_A G s.heap.size = A at hD ⊢
  have hA : ∀ q : Nat, s.heap.size ≤ q → A q := fun q h => by rw [← hAe]; exact Or.inr h
  have hAs : ∀ q : Nat, A q → sb.1 ≤ q := fun q h => by
    rw [← hAe] at h
    rcases h with ⟨k, e, h⟩ | h
    · exact hD0.2 k _ h
    · exact Nat.le_trans hB0 h
  have hS : va_S A s.heap s.heap [] := va_S.rf
  have hFR := FL.rf Ad [mo] G
  have hcs : 0 ≤ (headSpec w_Model_listPart ({ frames := 1, cells := 0, slots := 0, locals := 22 })).room.cells ∧ 0 ≤ (headSpec w_Model_listPart ({ frames := 1, cells := 0, slots := 0, locals := 22 })).room.slots := ⟨Nat.le_refl _, Nat.le_refl _⟩
  have hP : va_P (dC, dI) classes G s.heap := hP
  have hl := lv_entry ([.ref mo, .int (nI k9), .int 2]) (n := 4) (Nat.le_of_ble_eq_true rfl)
  rw [lg_entry_eq]
  generalize (lg_sl ([.ref mo, .int (nI k9), .int 2]) ++ List.replicate (4 - (lg_sl ([.ref mo, .int (nI k9), .int 2])).length) Slot.unset).toArray = ls at hl ⊢
  have hl : lv_has ls 4 [(0, .ref mo), (1, .int (nI k9)), (2, .int 2)] := hl
  obtain ⟨cX_mo, eX_mo⟩ : ∃ z : va_E, z = .inr (12, (.int mer :: .int (nI fd) :: .int mwr :: .int (nI K9) :: .int (nI KL) :: .ref moc :: .ref msT :: .ref mrV :: .ref msP :: .int mqs :: .ref mrA :: .ref mbA :: .ref mwA :: .ref mhA :: .ref mfA :: .ref mpA :: .ref mxA :: .ref myA :: .ref mmA :: .ref mqA :: .ref mzA :: .ref mwy :: .ref mfd :: .int msz :: .int (nI cz) :: .int mch :: .int mft :: .int mpt :: .int mdp :: .int mvd :: .long mnw :: .int mmk :: [])) := ⟨_, rfl⟩
  rw [← eX_mo] at kmo
  have hwhat : ¬ (2 : Int32) < 0 ∧ ¬ (3 : Int32) < 2 := by decide
  refine lv_aload_n hx hb d_Model_listPart_0 rfl (lv_at hl 0 rfl) ?_
  refine lv_iconst (v := 0) hx hb d_Model_listPart_1 (by decide) ?_
  obtain ⟨i_1, hg_1⟩ := List.getElem?_of_mem kmo.2
  rw [eX_mo] at hg_1
  refine va_put (v := .int 0) (ty := .int) hx hb htb i_Model t_Model t_Model_ok n_Model hown hK hP hD hS i_1 hg_1 rfl 0 (by decide) (htb _ q7_214) (fun _ h9 => h9) rfl (by decide +kernel) rfl rfl (Nat.le_of_ble_eq_true rfl) d_Model_listPart_2 (fun H2 locs hP hD2 hS => ?_)
  have hP : va_P (dC, dI) classes (G.set i_1 (mo, .inr (12, (.int 0 :: .int (nI fd) :: .int mwr :: .int (nI K9) :: .int (nI KL) :: .ref moc :: .ref msT :: .ref mrV :: .ref msP :: .int mqs :: .ref mrA :: .ref mbA :: .ref mwA :: .ref mhA :: .ref mfA :: .ref mpA :: .ref mxA :: .ref myA :: .ref mmA :: .ref mqA :: .ref mzA :: .ref mwy :: .ref mfd :: .int msz :: .int (nI cz) :: .int mch :: .int mft :: .int mpt :: .int mdp :: .int mvd :: .long mnw :: .int mmk :: [])))) H2 := hP
  have hD3 : va_D A (G.set i_1 (mo, .inr (12, (.int 0 :: .int (nI fd) :: .int mwr :: .int (nI K9) :: .int (nI KL) :: .ref moc :: .ref msT :: .ref mrV :: .ref msP :: .int mqs :: .ref mrA :: .ref mbA :: .ref mwA :: .ref mhA :: .ref mfA :: .ref mpA :: .ref mxA :: .ref myA :: .ref mmA :: .ref mqA :: .ref mzA :: .ref mwy :: .ref mfd :: .int msz :: .int (nI cz) :: .int mch :: .int mft :: .int mpt :: .int mdp :: .int mvd :: .long mnw :: .int mmk :: [])))) := hD2
  have hTy := TR.setX (c' := .inr (12, (.int 0 :: .int (nI fd) :: .int mwr :: .int (nI K9) :: .int (nI KL) :: .ref moc :: .ref msT :: .ref mrV :: .ref msP :: .int mqs :: .ref mrA :: .ref mbA :: .ref mwA :: .ref mhA :: .ref mfA :: .ref mpA :: .ref mxA :: .ref myA :: .ref mmA :: .ref mqA :: .ref mzA :: .ref mwy :: .ref mfd :: .int msz :: .int (nI cz) :: .int mch :: .int mft :: .int mpt :: .int mdp :: .int mvd :: .long mnw :: .int mmk :: []))) hTy hg_1 kmo.1
  have kmrV := Xc.setX (c' := .inr (12, (.int 0 :: .int (nI fd) :: .int mwr :: .int (nI K9) :: .int (nI KL) :: .ref moc :: .ref msT :: .ref mrV :: .ref msP :: .int mqs :: .ref mrA :: .ref mbA :: .ref mwA :: .ref mhA :: .ref mfA :: .ref mpA :: .ref mxA :: .ref myA :: .ref mmA :: .ref mqA :: .ref mzA :: .ref mwy :: .ref mfd :: .int msz :: .int (nI cz) :: .int mch :: .int mft :: .int mpt :: .int mdp :: .int mvd :: .long mnw :: .int mmk :: []))) kmrV hg_1 (fun e => hx_mo_mrV.symm (congrArg Prod.fst e))
  have hFR := hFR.tr (FL.set (Ad := Ad) (X := [mo]) (c' := .inr (12, (.int 0 :: .int (nI fd) :: .int mwr :: .int (nI K9) :: .int (nI KL) :: .ref moc :: .ref msT :: .ref mrV :: .ref msP :: .int mqs :: .ref mrA :: .ref mbA :: .ref mwA :: .ref mhA :: .ref mfA :: .ref mpA :: .ref mxA :: .ref myA :: .ref mmA :: .ref mqA :: .ref mzA :: .ref mwy :: .ref mfd :: .int msz :: .int (nI cz) :: .int mch :: .int mft :: .int mpt :: .int mdp :: .int mvd :: .long mnw :: .int mmk :: []))) hg_1 (by simp))
  have hg_1 := set_here (c' := .inr (12, (.int 0 :: .int (nI fd) :: .int mwr :: .int (nI K9) :: .int (nI KL) :: .ref moc :: .ref msT :: .ref mrV :: .ref msP :: .int mqs :: .ref mrA :: .ref mbA :: .ref mwA :: .ref mhA :: .ref mfA :: .ref mpA :: .ref mxA :: .ref myA :: .ref mmA :: .ref mqA :: .ref mzA :: .ref mwy :: .ref mfd :: .int msz :: .int (nI cz) :: .int mch :: .int mft :: .int mpt :: .int mdp :: .int mvd :: .long mnw :: .int mmk :: []))) hg_1
  have kmo : Xc Ad mo (.inr (12, (.int 0 :: .int (nI fd) :: .int mwr :: .int (nI K9) :: .int (nI KL) :: .ref moc :: .ref msT :: .ref mrV :: .ref msP :: .int mqs :: .ref mrA :: .ref mbA :: .ref mwA :: .ref mhA :: .ref mfA :: .ref mpA :: .ref mxA :: .ref myA :: .ref mmA :: .ref mqA :: .ref mzA :: .ref mwy :: .ref mfd :: .int msz :: .int (nI cz) :: .int mch :: .int mft :: .int mpt :: .int mdp :: .int mvd :: .long mnw :: .int mmk :: []))) (G.set i_1 (mo, .inr (12, (.int 0 :: .int (nI fd) :: .int mwr :: .int (nI K9) :: .int (nI KL) :: .ref moc :: .ref msT :: .ref mrV :: .ref msP :: .int mqs :: .ref mrA :: .ref mbA :: .ref mwA :: .ref mhA :: .ref mfA :: .ref mpA :: .ref mxA :: .ref myA :: .ref mmA :: .ref mqA :: .ref mzA :: .ref mwy :: .ref mfd :: .int msz :: .int (nI cz) :: .int mch :: .int mft :: .int mpt :: .int mdp :: .int mvd :: .long mnw :: .int mmk :: [])))) := ⟨kmo.1, List.mem_of_getElem? hg_1⟩
  have hD := hD3
  clear hD3 hD2
  generalize G.set i_1 (mo, .inr (12, (.int 0 :: .int (nI fd) :: .int mwr :: .int (nI K9) :: .int (nI KL) :: .ref moc :: .ref msT :: .ref mrV :: .ref msP :: .int mqs :: .ref mrA :: .ref mbA :: .ref mwA :: .ref mhA :: .ref mfA :: .ref mpA :: .ref mxA :: .ref myA :: .ref mmA :: .ref mqA :: .ref mzA :: .ref mwy :: .ref mfd :: .int msz :: .int (nI cz) :: .int mch :: .int mft :: .int mpt :: .int mdp :: .int mvd :: .long mnw :: .int mmk :: []))) = G_2 at hP hD hTy hFR kmo kmrV hg_1
  obtain ⟨cX_3, eX_3⟩ : ∃ z : va_E, z = .inr (12, (.int 0 :: .int (nI fd) :: .int mwr :: .int (nI K9) :: .int (nI KL) :: .ref moc :: .ref msT :: .ref mrV :: .ref msP :: .int mqs :: .ref mrA :: .ref mbA :: .ref mwA :: .ref mhA :: .ref mfA :: .ref mpA :: .ref mxA :: .ref myA :: .ref mmA :: .ref mqA :: .ref mzA :: .ref mwy :: .ref mfd :: .int msz :: .int (nI cz) :: .int mch :: .int mft :: .int mpt :: .int mdp :: .int mvd :: .long mnw :: .int mmk :: [])) := ⟨_, rfl⟩
  rw [← eX_3] at kmo
  refine lv_aload_n hx hb d_Model_listPart_5 rfl (lv_at hl 0 rfl) ?_
  refine lv_iload_n hx hb d_Model_listPart_6 rfl (lv_at hl 2 rfl) ?_
  refine lv_iconst (v := 0) hx hb d_Model_listPart_7 (by decide) ?_
  refine lv_iconst (v := 3) hx hb d_Model_listPart_8 (by decide) ?_
  refine vp_callSi (pu_callS (As := [.int 2, .int 0, .int 3]) (rest := [.ref mo]) ⟨hx, hb, hml, hown, hts⟩ tbin (c_Model_in l dC dI sb (2 : Int32) (0 : Int32) (3 : Int32)) q9_68 q8_116 q1_9 q8_117 (n := 3) (by decide +kernel) rfl ⟨rfl, rfl⟩ ⟨Nat.le_of_ble_eq_true rfl, Nat.le_of_ble_eq_true rfl⟩ ⟨Nat.le_of_ble_eq_true rfl, Nat.le_of_ble_eq_true rfl⟩ hN (hT0.keep hS hAs) hK hP [] (by simp only [List.filterMap_cons, List.filterMap_nil]) [] rfl hl.1 rfl (Nat.le_of_ble_eq_true rfl) d_Model_listPart_9) (fun r9 hr9 => ?_)
  refine lv_if_ne (tgt := 19) hx hb d_Model_listPart_12 (by decide) (fun c12 => ?_) (fun c12 => ?_)
  · have p12 : ¬ (r9 = (0 : Int32)) := c12
    refine lv_iconst (v := 0) hx hb d_Model_listPart_19 (by decide) ?_
    refine lv_iconst (v := 1) hx hb d_Model_listPart_20 (by decide) ?_
    have hFc := va_free (wc := G_2) hD hS hA (List.range G_2.length) (rg_is _)
    refine va_calli (mu_runV (As := [.int 0, .int 1]) (rest := []) ⟨hx, hb, hml, hown, hts⟩ tbin (m_Model_fails_0 l dC dI sb γ κ Ad τ gT G_2 mo _ _ _ _ _ _ _ _ _ _ _ _ _ _ _ _ _ _ _ _ _ _ _ _ _ _ _ _ _ _ _ _ H2.size hTy (by have h9 := kmo; rw [eX_3] at h9; exact h9) ) q8_79 q8_81 qp_36 q1_9 q8_82 (n := 2) (by decide +kernel) rfl ⟨rfl, rfl⟩ ⟨Nat.le_of_ble_eq_true rfl, Nat.le_of_ble_eq_true rfl⟩ ⟨Nat.le_of_ble_eq_true rfl, Nat.le_of_ble_eq_true rfl⟩ hN (hT0.keep hS hAs) hAs (Nat.le_trans hB0 hS.1) hK hP hD (List.range G_2.length) (rg_nd _) (rg_is _) [0, 1, 2, 3, 4] rfl i_1 12 hg_1 rfl rfl hl.1 rfl (Nat.le_of_ble_eq_true rfl) d_Model_listPart_21) hS (fun q _ h => hFc q h) hFc (fun r21 G_4 tS H21 locs ht hvm hw21 hB hz1 hk1 hS => ?_)
    obtain ⟨hTy, hF9, hr21⟩ := hw21
    have kmo := kmo.fl hF9 (q_nmn)
    have kmrV := kmrV.fl hF9 (q_nmn)
    have hFR := hFR.tr (hF9.up (q_gan))
    obtain ⟨hP1, hK1, hD1⟩ := hB
    rw [ht] at hP1
    have hP : va_P (dC, dI) classes G_4 H21 := hP1
    have hD : va_D A G_4 := hD1.weaken (fun _ _ _ h => hFc _ h)
    subst hr21
    refine lv_if_ne (tgt := 54) hx hb d_Model_listPart_24 (by decide) (fun c24 => ?_) (fun c24 => ?_)
    · exact absurd c24 (by decide)
    refine lv_aload_n hx hb d_Model_listPart_27 rfl (lv_at hl 0 rfl) ?_
    refine lv_iload_n hx hb d_Model_listPart_28 rfl (lv_at hl 1 rfl) ?_
    refine lv_iconst (v := 0) hx hb d_Model_listPart_29 (by decide) ?_
    refine lv_aload_n hx hb d_Model_listPart_30 rfl (lv_at hl 0 rfl) ?_
    obtain ⟨i_5, hg_5⟩ := List.getElem?_of_mem kmo.2
    rw [eX_3] at hg_5
    refine va_get (v := .int (nI KL)) hx hb htb i_Model hown hK hP i_5 hg_5 rfl 4 (by decide) (htb _ q7_218) (fun _ h9 => h9) rfl d_Model_listPart_31 ?_
    refine lv_iconst (v := 1) hx hb d_Model_listPart_34 (by decide) ?_
    refine lv_isub hx hb d_Model_listPart_35 ?_
    refine vp_callSi (pu_callS (As := [.int (nI k9), .int 0, .int ((nI KL) - 1)]) (rest := [.ref mo]) ⟨hx, hb, hml, hown, hts⟩ tbin (c_Model_in l dC dI sb (nI k9) (0 : Int32) ((nI KL) - 1)) q9_68 q8_116 q1_9 q8_117 (n := 3) (by decide +kernel) rfl ⟨rfl, rfl⟩ ⟨Nat.le_of_ble_eq_true rfl, Nat.le_of_ble_eq_true rfl⟩ ⟨Nat.le_of_ble_eq_true rfl, Nat.le_of_ble_eq_true rfl⟩ hN (hT0.keep hS hAs) hK hP [] (by simp only [List.filterMap_cons, List.filterMap_nil]) [] rfl hl.1 rfl (Nat.le_of_ble_eq_true rfl) d_Model_listPart_36) (fun r36 hr36 => ?_)
    refine lv_if_ne (tgt := 46) hx hb d_Model_listPart_39 (by decide) (fun c39 => ?_) (fun c39 => ?_)
    · have p39 : ¬ (r36 = (0 : Int32)) := c39
      refine lv_iconst (v := 0) hx hb d_Model_listPart_46 (by decide) ?_
      refine lv_iconst (v := 2) hx hb d_Model_listPart_47 (by decide) ?_
      have hFc := va_free (wc := G_4) hD hS hA (List.range G_4.length) (rg_is _)
      refine va_calli (mu_runV (As := [.int 0, .int 2]) (rest := []) ⟨hx, hb, hml, hown, hts⟩ tbin (m_Model_fails_0 l dC dI sb γ κ Ad τ gT G_4 mo _ _ _ _ _ _ _ _ _ _ _ _ _ _ _ _ _ _ _ _ _ _ _ _ _ _ _ _ _ _ _ _ H21.size hTy (by have h9 := kmo; rw [eX_3] at h9; exact h9) ) q8_79 q8_81 qp_36 q1_9 q8_82 (n := 2) (by decide +kernel) rfl ⟨rfl, rfl⟩ ⟨Nat.le_of_ble_eq_true rfl, Nat.le_of_ble_eq_true rfl⟩ ⟨Nat.le_of_ble_eq_true rfl, Nat.le_of_ble_eq_true rfl⟩ hN (hT0.keep hS hAs) hAs (Nat.le_trans hB0 hS.1) hK hP hD (List.range G_4.length) (rg_nd _) (rg_is _) [0, 1, 2, 3, 4] rfl i_5 12 hg_5 rfl rfl hl.1 rfl (Nat.le_of_ble_eq_true rfl) d_Model_listPart_48) hS (fun q _ h => hFc q h) hFc (fun r48 G_6 tS H48 locs ht hvm hw48 hB hz1 hk1 hS => ?_)
      obtain ⟨hTy, hF9, hr48⟩ := hw48
      have kmo := kmo.fl hF9 (q_nmn)
      have kmrV := kmrV.fl hF9 (q_nmn)
      have hFR := hFR.tr (hF9.up (q_gan))
      obtain ⟨hP1, hK1, hD1⟩ := hB
      rw [ht] at hP1
      have hP : va_P (dC, dI) classes G_6 H48 := hP1
      have hD : va_D A G_6 := hD1.weaken (fun _ _ _ h => hFc _ h)
      subst hr48
      refine lv_if_eq (tgt := 56) hx hb d_Model_listPart_51 (by decide) (fun c51 => ?_) (fun c51 => ?_)
      rotate_left
      · exact absurd c51 (by decide)
      refine lv_aload_n hx hb d_Model_listPart_56 rfl (lv_at hl 0 rfl) ?_
      obtain ⟨i_7, hg_7⟩ := List.getElem?_of_mem kmo.2
      rw [eX_3] at hg_7
      refine va_get (v := .ref mrV) hx hb htb i_Model hown hK hP i_7 hg_7 rfl 7 (by decide) (htb _ q7_221) (fun _ h9 => h9) rfl d_Model_listPart_57 ?_
      refine lv_iload_n hx hb d_Model_listPart_60 rfl (lv_at hl 1 rfl) ?_
      obtain ⟨i_8, hg_8⟩ := List.getElem?_of_mem kmrV.2
      have h61 : vp_in (nI k9) 8 := vp_in_nI (by omega) (by omega)
      refine va_aldq hx hb hK hP i_8 4 hg_8 rfl h61 d_Model_listPart_61 ?_
      obtain ⟨t61, ft61, kt61, hc_t61⟩ := hrv k9 (by omega)
      rw [show va_rf (fV (nI k9).toNatClampNeg) = .ref t61 from by rw [nI_clamp (by omega), ft61]; rfl]
      have b1_t61 := hc_t61.b1
      have b2_t61 := hc_t61.b2
      have b3_t61 := hc_t61.b3
      have b4_t61 := hc_t61.b4
      refine lv_astore_n (lv' := [(3, .ref t61), (0, .ref mo), (1, .int (nI k9)), (2, .int 2)]) hx hb d_Model_listPart_62 rfl hl (by decide) rfl (fun ls hl => ?_)
      refine lv_iload_n hx hb d_Model_listPart_63 rfl (lv_at hl 3 rfl) ?_
      refine lv_if_ne (tgt := 74) hx hb d_Model_listPart_64 (by decide) (fun c64 => ?_) (fun c64 => ?_)
      rotate_left
      · exact absurd c64 (by decide)
      refine lv_iload_n hx hb d_Model_listPart_74 rfl (lv_at hl 3 rfl) ?_
      refine lv_iconst (v := 1) hx hb d_Model_listPart_75 (by decide) ?_
      refine lv_icmp_ne (tgt := 86) hx hb d_Model_listPart_76 (by decide) (fun c76 => ?_) (fun c76 => ?_)
      rotate_left
      · exact absurd c76 (by decide)
      refine lv_iload_n hx hb d_Model_listPart_86 rfl (lv_at hl 3 rfl) ?_
      refine lv_iconst (v := 2) hx hb d_Model_listPart_87 (by decide) ?_
      refine lv_icmp_ne (tgt := 99) hx hb d_Model_listPart_88 (by decide) (fun c88 => ?_) (fun c88 => ?_)
      · exact absurd c88 (by decide)
      refine lv_aload_n hx hb d_Model_listPart_91 rfl (lv_at hl 0 rfl) ?_
      obtain ⟨i_9, kA_9, hg_9⟩ := tr_20 hTy kt61
      refine va_get (v := .int ((τ t61).I 36)) hx hb htb i_Text hown hK hP i_9 hg_9 rfl 36 (by decide) (htb _ q7_4) (fun _ h9 => h9) rfl d_Model_listPart_92 ?_
      rw [hc_t61.e36]
      refine lv_i2l (v := (nI ((τ t61).ne)).toInt64) hx hb d_Model_listPart_95 rfl ?_
      refine lv_goto (tgt := 104) hx hb d_Model_listPart_96 (by decide) ?_
      exact W.lret (v := (nI ((τ t61).ne)).toInt64) hx hb hr (fun t ht hW => ⟨⟨_, G_6, rfl, ⟨hTy, hFR, ⟨t61, ft61, rfl⟩, (by rw [eX_3] at kmo; exact kmo)⟩, by rw [ht]; exact hP, va_K.moved hW.alike hK, hD⟩, hS.F ht⟩) hS.2.2 d_Model_listPart_104
    · have p39 : r36 = (0 : Int32) := c39
      exact absurd (in_ok hk9 (by omega)) (bz_0 hr36 p39)
  · have p12 : r9 = (0 : Int32) := c12
    exact absurd hwhat (bz_0 hr9 p12)
set_option maxHeartbeats 4000000 in
set_option maxRecDepth 100000 in
theorem m_Model_listPart_ok3 (l : Launch) (dC : Nat → ClassId) (dI : Nat → Nat → Nat) (sb : sB) (γ : cG) (κ : kE) (Ad : List Nat) (τ : Nat → TD) (gT : ClassId) (G : va_W) (mo : Nat) (moc msT mrV msP mrA mbA mwA mhA mfA mpA mxA myA mmA mqA mzA mwy mfd : Nat) (mer mwr mqs msz mch mft mpt mdp mvd mmk : Int32) (mnw : Int64) (K9 KL cz fd : Nat) (k9 : Nat) (fV : Nat → Option Nat) (sz : Nat) (hTy : TR γ κ Ad τ G) (kmo : Xc Ad mo (.inr (12, (.int mer :: .int (nI fd) :: .int mwr :: .int (nI K9) :: .int (nI KL) :: .ref moc :: .ref msT :: .ref mrV :: .ref msP :: .int mqs :: .ref mrA :: .ref mbA :: .ref mwA :: .ref mhA :: .ref mfA :: .ref mpA :: .ref mxA :: .ref myA :: .ref mmA :: .ref mqA :: .ref mzA :: .ref mwy :: .ref mfd :: .int msz :: .int (nI cz) :: .int mch :: .int mft :: .int mpt :: .int mdp :: .int mvd :: .long mnw :: .int mmk :: []))) G) (kmrV : Xc Ad mrV (.inl (gT, 8, .inr (.inr (.inr (.inr fV))))) G) (hx_mo_mrV : mo ≠ mrV) (hrv : STl κ Ad τ KL fV) (hKL : KL ≤ 8) (hk9 : k9 < KL) : Met l y_Model_listPart w_Model_listPart ({ frames := 1, cells := 0, slots := 0, locals := 22 }) (mu_P [.ref mo, .int (nI k9), .int 3] (dC, dI) sb G [(γ.1, .byte), (γ.2.1, .int), (γ.2.2.1, .long), (γ.2.2.2, .object "java/lang/Object"), (gT, .object "TrustChainModel$Text")] sz) (va_Ql (fun r (G' : va_W) => TR γ κ Ad τ G' ∧ FL Ad [mo] G G' ∧ ((∃ t, fV k9 = some t ∧ r = ((τ t).I 30).toInt64) ∧ Xc Ad mo (.inr (12, (.int 0 :: .int (nI fd) :: .int mwr :: .int (nI K9) :: .int (nI KL) :: .ref moc :: .ref msT :: .ref mrV :: .ref msP :: .int mqs :: .ref mrA :: .ref mbA :: .ref mwA :: .ref mhA :: .ref mfA :: .ref mpA :: .ref mxA :: .ref myA :: .ref mmA :: .ref mqA :: .ref mzA :: .ref mwy :: .ref mfd :: .int msz :: .int (nI cz) :: .int mch :: .int mft :: .int mpt :: .int mdp :: .int mvd :: .long mnw :: .int mmk :: []))) G')) (mu_B (dC, dI) [(γ.1, .byte), (γ.2.1, .int), (γ.2.2.1, .long), (γ.2.2.2, .object "java/lang/Object"), (gT, .object "TrustChainModel$Text")] (va_A G sz) (fun G' : va_W => G')) (va_A G sz)) 0 0 (va_A G sz) := by
  refine Met.ofW (cc := b_Model_listPart) (maxL := 4) (ret := (some FieldType.long)) (by decide) rfl ?_
  intro p e s m args below meth c s₁ B hml hv
  obtain ⟨rfl, hsz, hB0, hP, hK, hD0, hN, hT0⟩ := hv
  have hx := B.exec
  have hb := B.bytes
  have hr := B.returns
  have hts := atoms_spec (ws := w_Model_listPart) B.pre
  have tbin : ∀ w ∈ tb, w ∈ w_Model_listPart := fun w h => List.mem_cons_of_mem _ h
  have htb : ∀ w ∈ tb, w.before _ s = true := fun w h => hts w (tbin w h)
  have hown : s.vm.findClass "TrustChainModel" = some m.cls := findClass_of_methodNamed B.named
  have hlocks := B.notSynchronized
  subst hsz
  have hD := hD0.self (sz := s.heap.size)
  generalize hAe : va_A G s.heap.size = A at hD ⊢
  have hA : ∀ q : Nat, s.heap.size ≤ q → A q := fun q h => by rw [← hAe]; exact Or.inr h
  have hAs : ∀ q : Nat, A q → sb.1 ≤ q := fun q h => by
    rw [← hAe] at h
    rcases h with ⟨k, e, h⟩ | h
    · exact hD0.2 k _ h
    · exact Nat.le_trans hB0 h
  have hS : va_S A s.heap s.heap [] := va_S.rf
  have hFR := FL.rf Ad [mo] G
  have hcs : 0 ≤ (headSpec w_Model_listPart ({ frames := 1, cells := 0, slots := 0, locals := 22 })).room.cells ∧ 0 ≤ (headSpec w_Model_listPart ({ frames := 1, cells := 0, slots := 0, locals := 22 })).room.slots := ⟨Nat.le_refl _, Nat.le_refl _⟩
  have hP : va_P (dC, dI) classes G s.heap := hP
  have hl := lv_entry ([.ref mo, .int (nI k9), .int 3]) (n := 4) (Nat.le_of_ble_eq_true rfl)
  rw [lg_entry_eq]
  generalize (lg_sl ([.ref mo, .int (nI k9), .int 3]) ++ List.replicate (4 - (lg_sl ([.ref mo, .int (nI k9), .int 3])).length) Slot.unset).toArray = ls at hl ⊢
  have hl : lv_has ls 4 [(0, .ref mo), (1, .int (nI k9)), (2, .int 3)] := hl
  obtain ⟨cX_mo, eX_mo⟩ : ∃ z : va_E, z = .inr (12, (.int mer :: .int (nI fd) :: .int mwr :: .int (nI K9) :: .int (nI KL) :: .ref moc :: .ref msT :: .ref mrV :: .ref msP :: .int mqs :: .ref mrA :: .ref mbA :: .ref mwA :: .ref mhA :: .ref mfA :: .ref mpA :: .ref mxA :: .ref myA :: .ref mmA :: .ref mqA :: .ref mzA :: .ref mwy :: .ref mfd :: .int msz :: .int (nI cz) :: .int mch :: .int mft :: .int mpt :: .int mdp :: .int mvd :: .long mnw :: .int mmk :: [])) := ⟨_, rfl⟩
  rw [← eX_mo] at kmo
  have hwhat : ¬ (3 : Int32) < 0 ∧ ¬ (3 : Int32) < 3 := by decide
  refine lv_aload_n hx hb d_Model_listPart_0 rfl (lv_at hl 0 rfl) ?_
  refine lv_iconst (v := 0) hx hb d_Model_listPart_1 (by decide) ?_
  obtain ⟨i_1, hg_1⟩ := List.getElem?_of_mem kmo.2
  rw [eX_mo] at hg_1
  refine va_put (v := .int 0) (ty := .int) hx hb htb i_Model t_Model t_Model_ok n_Model hown hK hP hD hS i_1 hg_1 rfl 0 (by decide) (htb _ q7_214) (fun _ h9 => h9) rfl (by decide +kernel) rfl rfl (Nat.le_of_ble_eq_true rfl) d_Model_listPart_2 (fun H2 locs hP hD2 hS => ?_)
  have hP : va_P (dC, dI) classes (G.set i_1 (mo, .inr (12, (.int 0 :: .int (nI fd) :: .int mwr :: .int (nI K9) :: .int (nI KL) :: .ref moc :: .ref msT :: .ref mrV :: .ref msP :: .int mqs :: .ref mrA :: .ref mbA :: .ref mwA :: .ref mhA :: .ref mfA :: .ref mpA :: .ref mxA :: .ref myA :: .ref mmA :: .ref mqA :: .ref mzA :: .ref mwy :: .ref mfd :: .int msz :: .int (nI cz) :: .int mch :: .int mft :: .int mpt :: .int mdp :: .int mvd :: .long mnw :: .int mmk :: [])))) H2 := hP
  have hD3 : va_D A (G.set i_1 (mo, .inr (12, (.int 0 :: .int (nI fd) :: .int mwr :: .int (nI K9) :: .int (nI KL) :: .ref moc :: .ref msT :: .ref mrV :: .ref msP :: .int mqs :: .ref mrA :: .ref mbA :: .ref mwA :: .ref mhA :: .ref mfA :: .ref mpA :: .ref mxA :: .ref myA :: .ref mmA :: .ref mqA :: .ref mzA :: .ref mwy :: .ref mfd :: .int msz :: .int (nI cz) :: .int mch :: .int mft :: .int mpt :: .int mdp :: .int mvd :: .long mnw :: .int mmk :: [])))) := hD2
  have hTy := TR.setX (c' := .inr (12, (.int 0 :: .int (nI fd) :: .int mwr :: .int (nI K9) :: .int (nI KL) :: .ref moc :: .ref msT :: .ref mrV :: .ref msP :: .int mqs :: .ref mrA :: .ref mbA :: .ref mwA :: .ref mhA :: .ref mfA :: .ref mpA :: .ref mxA :: .ref myA :: .ref mmA :: .ref mqA :: .ref mzA :: .ref mwy :: .ref mfd :: .int msz :: .int (nI cz) :: .int mch :: .int mft :: .int mpt :: .int mdp :: .int mvd :: .long mnw :: .int mmk :: []))) hTy hg_1 kmo.1
  have kmrV := Xc.setX (c' := .inr (12, (.int 0 :: .int (nI fd) :: .int mwr :: .int (nI K9) :: .int (nI KL) :: .ref moc :: .ref msT :: .ref mrV :: .ref msP :: .int mqs :: .ref mrA :: .ref mbA :: .ref mwA :: .ref mhA :: .ref mfA :: .ref mpA :: .ref mxA :: .ref myA :: .ref mmA :: .ref mqA :: .ref mzA :: .ref mwy :: .ref mfd :: .int msz :: .int (nI cz) :: .int mch :: .int mft :: .int mpt :: .int mdp :: .int mvd :: .long mnw :: .int mmk :: []))) kmrV hg_1 (fun e => hx_mo_mrV.symm (congrArg Prod.fst e))
  have hFR := hFR.tr (FL.set (Ad := Ad) (X := [mo]) (c' := .inr (12, (.int 0 :: .int (nI fd) :: .int mwr :: .int (nI K9) :: .int (nI KL) :: .ref moc :: .ref msT :: .ref mrV :: .ref msP :: .int mqs :: .ref mrA :: .ref mbA :: .ref mwA :: .ref mhA :: .ref mfA :: .ref mpA :: .ref mxA :: .ref myA :: .ref mmA :: .ref mqA :: .ref mzA :: .ref mwy :: .ref mfd :: .int msz :: .int (nI cz) :: .int mch :: .int mft :: .int mpt :: .int mdp :: .int mvd :: .long mnw :: .int mmk :: []))) hg_1 (by simp))
  have hg_1 := set_here (c' := .inr (12, (.int 0 :: .int (nI fd) :: .int mwr :: .int (nI K9) :: .int (nI KL) :: .ref moc :: .ref msT :: .ref mrV :: .ref msP :: .int mqs :: .ref mrA :: .ref mbA :: .ref mwA :: .ref mhA :: .ref mfA :: .ref mpA :: .ref mxA :: .ref myA :: .ref mmA :: .ref mqA :: .ref mzA :: .ref mwy :: .ref mfd :: .int msz :: .int (nI cz) :: .int mch :: .int mft :: .int mpt :: .int mdp :: .int mvd :: .long mnw :: .int mmk :: []))) hg_1
  have kmo : Xc Ad mo (.inr (12, (.int 0 :: .int (nI fd) :: .int mwr :: .int (nI K9) :: .int (nI KL) :: .ref moc :: .ref msT :: .ref mrV :: .ref msP :: .int mqs :: .ref mrA :: .ref mbA :: .ref mwA :: .ref mhA :: .ref mfA :: .ref mpA :: .ref mxA :: .ref myA :: .ref mmA :: .ref mqA :: .ref mzA :: .ref mwy :: .ref mfd :: .int msz :: .int (nI cz) :: .int mch :: .int mft :: .int mpt :: .int mdp :: .int mvd :: .long mnw :: .int mmk :: []))) (G.set i_1 (mo, .inr (12, (.int 0 :: .int (nI fd) :: .int mwr :: .int (nI K9) :: .int (nI KL) :: .ref moc :: .ref msT :: .ref mrV :: .ref msP :: .int mqs :: .ref mrA :: .ref mbA :: .ref mwA :: .ref mhA :: .ref mfA :: .ref mpA :: .ref mxA :: .ref myA :: .ref mmA :: .ref mqA :: .ref mzA :: .ref mwy :: .ref mfd :: .int msz :: .int (nI cz) :: .int mch :: .int mft :: .int mpt :: .int mdp :: .int mvd :: .long mnw :: .int mmk :: [])))) := ⟨kmo.1, List.mem_of_getElem? hg_1⟩
  have hD := hD3
  clear hD3 hD2
  generalize G.set i_1 (mo, .inr (12, (.int 0 :: .int (nI fd) :: .int mwr :: .int (nI K9) :: .int (nI KL) :: .ref moc :: .ref msT :: .ref mrV :: .ref msP :: .int mqs :: .ref mrA :: .ref mbA :: .ref mwA :: .ref mhA :: .ref mfA :: .ref mpA :: .ref mxA :: .ref myA :: .ref mmA :: .ref mqA :: .ref mzA :: .ref mwy :: .ref mfd :: .int msz :: .int (nI cz) :: .int mch :: .int mft :: .int mpt :: .int mdp :: .int mvd :: .long mnw :: .int mmk :: []))) = G_2 at hP hD hTy hFR kmo kmrV hg_1
  obtain ⟨cX_3, eX_3⟩ : ∃ z : va_E, z = .inr (12, (.int 0 :: .int (nI fd) :: .int mwr :: .int (nI K9) :: .int (nI KL) :: .ref moc :: .ref msT :: .ref mrV :: .ref msP :: .int mqs :: .ref mrA :: .ref mbA :: .ref mwA :: .ref mhA :: .ref mfA :: .ref mpA :: .ref mxA :: .ref myA :: .ref mmA :: .ref mqA :: .ref mzA :: .ref mwy :: .ref mfd :: .int msz :: .int (nI cz) :: .int mch :: .int mft :: .int mpt :: .int mdp :: .int mvd :: .long mnw :: .int mmk :: [])) := ⟨_, rfl⟩
  rw [← eX_3] at kmo
  refine lv_aload_n hx hb d_Model_listPart_5 rfl (lv_at hl 0 rfl) ?_
  refine lv_iload_n hx hb d_Model_listPart_6 rfl (lv_at hl 2 rfl) ?_
  refine lv_iconst (v := 0) hx hb d_Model_listPart_7 (by decide) ?_
  refine lv_iconst (v := 3) hx hb d_Model_listPart_8 (by decide) ?_
  refine vp_callSi (pu_callS (As := [.int 3, .int 0, .int 3]) (rest := [.ref mo]) ⟨hx, hb, hml, hown, hts⟩ tbin (c_Model_in l dC dI sb (3 : Int32) (0 : Int32) (3 : Int32)) q9_68 q8_116 q1_9 q8_117 (n := 3) (by decide +kernel) rfl ⟨rfl, rfl⟩ ⟨Nat.le_of_ble_eq_true rfl, Nat.le_of_ble_eq_true rfl⟩ ⟨Nat.le_of_ble_eq_true rfl, Nat.le_of_ble_eq_true rfl⟩ hN (hT0.keep hS hAs) hK hP [] (by simp only [List.filterMap_cons, List.filterMap_nil]) [] rfl hl.1 rfl (Nat.le_of_ble_eq_true rfl) d_Model_listPart_9) (fun r9 hr9 => ?_)
  refine lv_if_ne (tgt := 19) hx hb d_Model_listPart_12 (by decide) (fun c12 => ?_) (fun c12 => ?_)
  · have p12 : ¬ (r9 = (0 : Int32)) := c12
    refine lv_iconst (v := 0) hx hb d_Model_listPart_19 (by decide) ?_
    refine lv_iconst (v := 1) hx hb d_Model_listPart_20 (by decide) ?_
    have hFc := va_free (wc := G_2) hD hS hA (List.range G_2.length) (rg_is _)
    refine va_calli (mu_runV (As := [.int 0, .int 1]) (rest := []) ⟨hx, hb, hml, hown, hts⟩ tbin (m_Model_fails_0 l dC dI sb γ κ Ad τ gT G_2 mo _ _ _ _ _ _ _ _ _ _ _ _ _ _ _ _ _ _ _ _ _ _ _ _ _ _ _ _ _ _ _ _ H2.size hTy (by have h9 := kmo; rw [eX_3] at h9; exact h9) ) q8_79 q8_81 qp_36 q1_9 q8_82 (n := 2) (by decide +kernel) rfl ⟨rfl, rfl⟩ ⟨Nat.le_of_ble_eq_true rfl, Nat.le_of_ble_eq_true rfl⟩ ⟨Nat.le_of_ble_eq_true rfl, Nat.le_of_ble_eq_true rfl⟩ hN (hT0.keep hS hAs) hAs (Nat.le_trans hB0 hS.1) hK hP hD (List.range G_2.length) (rg_nd _) (rg_is _) [0, 1, 2, 3, 4] rfl i_1 12 hg_1 rfl rfl hl.1 rfl (Nat.le_of_ble_eq_true rfl) d_Model_listPart_21) hS (fun q _ h => hFc q h) hFc (fun r21 G_4 tS H21 locs ht hvm hw21 hB hz1 hk1 hS => ?_)
    obtain ⟨hTy, hF9, hr21⟩ := hw21
    have kmo := kmo.fl hF9 (q_nmn)
    have kmrV := kmrV.fl hF9 (q_nmn)
    have hFR := hFR.tr (hF9.up (q_gan))
    obtain ⟨hP1, hK1, hD1⟩ := hB
    rw [ht] at hP1
    have hP : va_P (dC, dI) classes G_4 H21 := hP1
    have hD : va_D A G_4 := hD1.weaken (fun _ _ _ h => hFc _ h)
    subst hr21
    refine lv_if_ne (tgt := 54) hx hb d_Model_listPart_24 (by decide) (fun c24 => ?_) (fun c24 => ?_)
    · exact absurd c24 (by decide)
    refine lv_aload_n hx hb d_Model_listPart_27 rfl (lv_at hl 0 rfl) ?_
    refine lv_iload_n hx hb d_Model_listPart_28 rfl (lv_at hl 1 rfl) ?_
    refine lv_iconst (v := 0) hx hb d_Model_listPart_29 (by decide) ?_
    refine lv_aload_n hx hb d_Model_listPart_30 rfl (lv_at hl 0 rfl) ?_
    obtain ⟨i_5, hg_5⟩ := List.getElem?_of_mem kmo.2
    rw [eX_3] at hg_5
    refine va_get (v := .int (nI KL)) hx hb htb i_Model hown hK hP i_5 hg_5 rfl 4 (by decide) (htb _ q7_218) (fun _ h9 => h9) rfl d_Model_listPart_31 ?_
    refine lv_iconst (v := 1) hx hb d_Model_listPart_34 (by decide) ?_
    refine lv_isub hx hb d_Model_listPart_35 ?_
    refine vp_callSi (pu_callS (As := [.int (nI k9), .int 0, .int ((nI KL) - 1)]) (rest := [.ref mo]) ⟨hx, hb, hml, hown, hts⟩ tbin (c_Model_in l dC dI sb (nI k9) (0 : Int32) ((nI KL) - 1)) q9_68 q8_116 q1_9 q8_117 (n := 3) (by decide +kernel) rfl ⟨rfl, rfl⟩ ⟨Nat.le_of_ble_eq_true rfl, Nat.le_of_ble_eq_true rfl⟩ ⟨Nat.le_of_ble_eq_true rfl, Nat.le_of_ble_eq_true rfl⟩ hN (hT0.keep hS hAs) hK hP [] (by simp only [List.filterMap_cons, List.filterMap_nil]) [] rfl hl.1 rfl (Nat.le_of_ble_eq_true rfl) d_Model_listPart_36) (fun r36 hr36 => ?_)
    refine lv_if_ne (tgt := 46) hx hb d_Model_listPart_39 (by decide) (fun c39 => ?_) (fun c39 => ?_)
    · have p39 : ¬ (r36 = (0 : Int32)) := c39
      refine lv_iconst (v := 0) hx hb d_Model_listPart_46 (by decide) ?_
      refine lv_iconst (v := 2) hx hb d_Model_listPart_47 (by decide) ?_
      have hFc := va_free (wc := G_4) hD hS hA (List.range G_4.length) (rg_is _)
      refine va_calli (mu_runV (As := [.int 0, .int 2]) (rest := []) ⟨hx, hb, hml, hown, hts⟩ tbin (m_Model_fails_0 l dC dI sb γ κ Ad τ gT G_4 mo _ _ _ _ _ _ _ _ _ _ _ _ _ _ _ _ _ _ _ _ _ _ _ _ _ _ _ _ _ _ _ _ H21.size hTy (by have h9 := kmo; rw [eX_3] at h9; exact h9) ) q8_79 q8_81 qp_36 q1_9 q8_82 (n := 2) (by decide +kernel) rfl ⟨rfl, rfl⟩ ⟨Nat.le_of_ble_eq_true rfl, Nat.le_of_ble_eq_true rfl⟩ ⟨Nat.le_of_ble_eq_true rfl, Nat.le_of_ble_eq_true rfl⟩ hN (hT0.keep hS hAs) hAs (Nat.le_trans hB0 hS.1) hK hP hD (List.range G_4.length) (rg_nd _) (rg_is _) [0, 1, 2, 3, 4] rfl i_5 12 hg_5 rfl rfl hl.1 rfl (Nat.le_of_ble_eq_true rfl) d_Model_listPart_48) hS (fun q _ h => hFc q h) hFc (fun r48 G_6 tS H48 locs ht hvm hw48 hB hz1 hk1 hS => ?_)
      obtain ⟨hTy, hF9, hr48⟩ := hw48
      have kmo := kmo.fl hF9 (q_nmn)
      have kmrV := kmrV.fl hF9 (q_nmn)
      have hFR := hFR.tr (hF9.up (q_gan))
      obtain ⟨hP1, hK1, hD1⟩ := hB
      rw [ht] at hP1
      have hP : va_P (dC, dI) classes G_6 H48 := hP1
      have hD : va_D A G_6 := hD1.weaken (fun _ _ _ h => hFc _ h)
      subst hr48
      refine lv_if_eq (tgt := 56) hx hb d_Model_listPart_51 (by decide) (fun c51 => ?_) (fun c51 => ?_)
      rotate_left
      · exact absurd c51 (by decide)
      refine lv_aload_n hx hb d_Model_listPart_56 rfl (lv_at hl 0 rfl) ?_
      obtain ⟨i_7, hg_7⟩ := List.getElem?_of_mem kmo.2
      rw [eX_3] at hg_7
      refine va_get (v := .ref mrV) hx hb htb i_Model hown hK hP i_7 hg_7 rfl 7 (by decide) (htb _ q7_221) (fun _ h9 => h9) rfl d_Model_listPart_57 ?_
      refine lv_iload_n hx hb d_Model_listPart_60 rfl (lv_at hl 1 rfl) ?_
      obtain ⟨i_8, hg_8⟩ := List.getElem?_of_mem kmrV.2
      have h61 : vp_in (nI k9) 8 := vp_in_nI (by omega) (by omega)
      refine va_aldq hx hb hK hP i_8 4 hg_8 rfl h61 d_Model_listPart_61 ?_
      obtain ⟨t61, ft61, kt61, hc_t61⟩ := hrv k9 (by omega)
      rw [show va_rf (fV (nI k9).toNatClampNeg) = .ref t61 from by rw [nI_clamp (by omega), ft61]; rfl]
      have b1_t61 := hc_t61.b1
      have b2_t61 := hc_t61.b2
      have b3_t61 := hc_t61.b3
      have b4_t61 := hc_t61.b4
      refine lv_astore_n (lv' := [(3, .ref t61), (0, .ref mo), (1, .int (nI k9)), (2, .int 3)]) hx hb d_Model_listPart_62 rfl hl (by decide) rfl (fun ls hl => ?_)
      refine lv_iload_n hx hb d_Model_listPart_63 rfl (lv_at hl 3 rfl) ?_
      refine lv_if_ne (tgt := 74) hx hb d_Model_listPart_64 (by decide) (fun c64 => ?_) (fun c64 => ?_)
      rotate_left
      · exact absurd c64 (by decide)
      refine lv_iload_n hx hb d_Model_listPart_74 rfl (lv_at hl 3 rfl) ?_
      refine lv_iconst (v := 1) hx hb d_Model_listPart_75 (by decide) ?_
      refine lv_icmp_ne (tgt := 86) hx hb d_Model_listPart_76 (by decide) (fun c76 => ?_) (fun c76 => ?_)
      rotate_left
      · exact absurd c76 (by decide)
      refine lv_iload_n hx hb d_Model_listPart_86 rfl (lv_at hl 3 rfl) ?_
      refine lv_iconst (v := 2) hx hb d_Model_listPart_87 (by decide) ?_
      refine lv_icmp_ne (tgt := 99) hx hb d_Model_listPart_88 (by decide) (fun c88 => ?_) (fun c88 => ?_)
      rotate_left
      · exact absurd c88 (by decide)
      refine lv_aload_n hx hb d_Model_listPart_99 rfl (lv_at hl 0 rfl) ?_
      obtain ⟨i_9, kA_9, hg_9⟩ := tr_20 hTy kt61
      refine va_get (v := .int ((τ t61).I 30)) hx hb htb i_Text hown hK hP i_9 hg_9 rfl 30 (by decide) (htb _ q6_233) (fun _ h9 => h9) rfl d_Model_listPart_100 ?_
      refine lv_i2l (v := ((τ t61).I 30).toInt64) hx hb d_Model_listPart_103 rfl ?_
      exact W.lret (v := ((τ t61).I 30).toInt64) hx hb hr (fun t ht hW => ⟨⟨_, G_6, rfl, ⟨hTy, hFR, ⟨t61, ft61, rfl⟩, (by rw [eX_3] at kmo; exact kmo)⟩, by rw [ht]; exact hP, va_K.moved hW.alike hK, hD⟩, hS.F ht⟩) hS.2.2 d_Model_listPart_104
    · have p39 : r36 = (0 : Int32) := c39
      exact absurd (in_ok hk9 (by omega)) (bz_0 hr36 p39)
  · have p12 : r9 = (0 : Int32) := c12
    exact absurd hwhat (bz_0 hr9 p12)
theorem d_Model_part_40 : decode b_Model_part 40 = .ok (.getfield 19, 3) := by decide +kernel
theorem d_Model_part_43 : decode b_Model_part 43 = .ok (.iload_n 1, 1) := by decide +kernel
theorem d_Model_part_44 : decode b_Model_part 44 = .ok (.aaload, 1) := by decide +kernel
theorem d_Model_part_45 : decode b_Model_part 45 = .ok (.astore_n 3, 1) := by decide +kernel
theorem d_Model_part_46 : decode b_Model_part 46 = .ok (.iload_n 2, 1) := by decide +kernel
theorem d_Model_part_47 : decode b_Model_part 47 = .ok (.tableswitch 170 0 10 #[57, 62, 67, 115, 121, 134, 140, 146, 152, 158, 164], 57) := by decide +kernel
theorem d_Model_part_104 : decode b_Model_part 104 = .ok (.aload_n 3, 1) := by decide +kernel
theorem d_Model_part_105 : decode b_Model_part 105 = .ok (.getfield 213, 3) := by decide +kernel
theorem d_Model_part_108 : decode b_Model_part 108 = .ok (.lreturn, 1) := by decide +kernel
theorem d_Model_part_109 : decode b_Model_part 109 = .ok (.aload_n 3, 1) := by decide +kernel
theorem d_Model_part_110 : decode b_Model_part 110 = .ok (.getfield 217, 3) := by decide +kernel
theorem d_Model_part_113 : decode b_Model_part 113 = .ok (.lreturn, 1) := by decide +kernel
theorem d_Model_part_114 : decode b_Model_part 114 = .ok (.bipush 8, 2) := by decide +kernel
theorem d_Model_part_116 : decode b_Model_part 116 = .ok (.aload_n 3, 1) := by decide +kernel
theorem d_Model_part_117 : decode b_Model_part 117 = .ok (.getfield 220, 3) := by decide +kernel
theorem d_Model_part_120 : decode b_Model_part 120 = .ok (.aload_n 3, 1) := by decide +kernel
theorem d_Model_part_121 : decode b_Model_part 121 = .ok (.getfield 223, 3) := by decide +kernel
theorem d_Model_part_124 : decode b_Model_part 124 = .ok (.isub, 1) := by decide +kernel
theorem d_Model_part_125 : decode b_Model_part 125 = .ok (.iconst 1, 1) := by decide +kernel
theorem d_Model_part_126 : decode b_Model_part 126 = .ok (.isub, 1) := by decide +kernel
theorem d_Model_part_127 : decode b_Model_part 127 = .ok (.imul, 1) := by decide +kernel
theorem d_Model_part_128 : decode b_Model_part 128 = .ok (.istore 4, 2) := by decide +kernel
theorem d_Model_part_130 : decode b_Model_part 130 = .ok (.aload_n 3, 1) := by decide +kernel
theorem d_Model_part_131 : decode b_Model_part 131 = .ok (.getfield 189, 3) := by decide +kernel
theorem d_Model_part_134 : decode b_Model_part 134 = .ok (.aload_n 3, 1) := by decide +kernel
theorem d_Model_part_135 : decode b_Model_part 135 = .ok (.getfield 223, 3) := by decide +kernel
theorem d_Model_part_138 : decode b_Model_part 138 = .ok (.iaload, 1) := by decide +kernel
theorem d_Model_part_139 : decode b_Model_part 139 = .ok (.istore 5, 2) := by decide +kernel
theorem d_Model_part_141 : decode b_Model_part 141 = .ok (.iload 5, 2) := by decide +kernel
theorem d_Model_part_143 : decode b_Model_part 143 = .ok (.ifCond .le 15, 3) := by decide +kernel
theorem d_Model_part_146 : decode b_Model_part 146 = .ok (.iinc 4 1, 3) := by decide +kernel
theorem d_Model_part_149 : decode b_Model_part 149 = .ok (.iload 5, 2) := by decide +kernel
theorem d_Model_part_151 : decode b_Model_part 151 = .ok (.iconst 1, 1) := by decide +kernel
theorem d_Model_part_152 : decode b_Model_part 152 = .ok (.ishr, 1) := by decide +kernel
theorem d_Model_part_153 : decode b_Model_part 153 = .ok (.istore 5, 2) := by decide +kernel
theorem d_Model_part_155 : decode b_Model_part 155 = .ok (.goto (-14), 3) := by decide +kernel
theorem d_Model_part_158 : decode b_Model_part 158 = .ok (.iload 4, 2) := by decide +kernel
theorem d_Model_part_160 : decode b_Model_part 160 = .ok (.i2l, 1) := by decide +kernel
theorem d_Model_part_161 : decode b_Model_part 161 = .ok (.lreturn, 1) := by decide +kernel
theorem d_Model_part_162 : decode b_Model_part 162 = .ok (.aload_n 3, 1) := by decide +kernel
theorem d_Model_part_163 : decode b_Model_part 163 = .ok (.getfield 226, 3) := by decide +kernel
theorem d_Model_part_166 : decode b_Model_part 166 = .ok (.i2l, 1) := by decide +kernel
theorem d_Model_part_167 : decode b_Model_part 167 = .ok (.lreturn, 1) := by decide +kernel
theorem d_Model_part_168 : decode b_Model_part 168 = .ok (.aload_n 3, 1) := by decide +kernel
theorem d_Model_part_169 : decode b_Model_part 169 = .ok (.getfield 229, 3) := by decide +kernel
theorem d_Model_part_172 : decode b_Model_part 172 = .ok (.ifCond .eq 7, 3) := by decide +kernel
theorem d_Model_part_175 : decode b_Model_part 175 = .ok (.lconst 1, 1) := by decide +kernel
theorem d_Model_part_176 : decode b_Model_part 176 = .ok (.goto 4, 3) := by decide +kernel
theorem d_Model_part_179 : decode b_Model_part 179 = .ok (.lconst 0, 1) := by decide +kernel
theorem d_Model_part_180 : decode b_Model_part 180 = .ok (.lreturn, 1) := by decide +kernel
theorem d_Model_part_181 : decode b_Model_part 181 = .ok (.aload_n 3, 1) := by decide +kernel
theorem d_Model_part_182 : decode b_Model_part 182 = .ok (.getfield 232, 3) := by decide +kernel
theorem d_Model_part_185 : decode b_Model_part 185 = .ok (.i2l, 1) := by decide +kernel
theorem d_Model_part_186 : decode b_Model_part 186 = .ok (.lreturn, 1) := by decide +kernel
theorem d_Model_part_187 : decode b_Model_part 187 = .ok (.aload_n 3, 1) := by decide +kernel
theorem d_Model_part_188 : decode b_Model_part 188 = .ok (.getfield 234, 3) := by decide +kernel
theorem d_Model_part_191 : decode b_Model_part 191 = .ok (.i2l, 1) := by decide +kernel
theorem d_Model_part_192 : decode b_Model_part 192 = .ok (.lreturn, 1) := by decide +kernel
theorem d_Model_part_193 : decode b_Model_part 193 = .ok (.aload_n 3, 1) := by decide +kernel
theorem d_Model_part_194 : decode b_Model_part 194 = .ok (.getfield 237, 3) := by decide +kernel
theorem d_Model_part_197 : decode b_Model_part 197 = .ok (.i2l, 1) := by decide +kernel
theorem d_Model_part_198 : decode b_Model_part 198 = .ok (.lreturn, 1) := by decide +kernel
theorem d_Model_part_199 : decode b_Model_part 199 = .ok (.aload_n 3, 1) := by decide +kernel
theorem d_Model_part_200 : decode b_Model_part 200 = .ok (.getfield 240, 3) := by decide +kernel
theorem d_Model_part_203 : decode b_Model_part 203 = .ok (.i2l, 1) := by decide +kernel
theorem d_Model_part_204 : decode b_Model_part 204 = .ok (.lreturn, 1) := by decide +kernel
theorem d_Model_part_205 : decode b_Model_part 205 = .ok (.aload_n 3, 1) := by decide +kernel
theorem d_Model_part_206 : decode b_Model_part 206 = .ok (.getfield 243, 3) := by decide +kernel
theorem d_Model_part_209 : decode b_Model_part 209 = .ok (.i2l, 1) := by decide +kernel
theorem d_Model_part_210 : decode b_Model_part 210 = .ok (.lreturn, 1) := by decide +kernel
theorem d_Model_part_211 : decode b_Model_part 211 = .ok (.aload_n 3, 1) := by decide +kernel
theorem d_Model_part_212 : decode b_Model_part 212 = .ok (.getfield 246, 3) := by decide +kernel
theorem d_Model_part_215 : decode b_Model_part 215 = .ok (.i2l, 1) := by decide +kernel
theorem d_Model_part_216 : decode b_Model_part 216 = .ok (.lreturn, 1) := by decide +kernel
theorem d_Model_part_217 : decode b_Model_part 217 = .ok (.aload_n 3, 1) := by decide +kernel
theorem d_Model_part_218 : decode b_Model_part 218 = .ok (.getfield 249, 3) := by decide +kernel
theorem d_Model_part_221 : decode b_Model_part 221 = .ok (.aload_n 3, 1) := by decide +kernel
theorem d_Model_part_222 : decode b_Model_part 222 = .ok (.getfield 252, 3) := by decide +kernel
theorem d_Model_part_225 : decode b_Model_part 225 = .ok (.isub, 1) := by decide +kernel
theorem d_Model_part_226 : decode b_Model_part 226 = .ok (.i2l, 1) := by decide +kernel
theorem d_Model_part_227 : decode b_Model_part 227 = .ok (.lreturn, 1) := by decide +kernel
set_option maxHeartbeats 4000000 in
set_option maxRecDepth 100000 in
theorem m_Model_part_1 (l : Launch) (dC : Nat → ClassId) (dI : Nat → Nat → Nat) (sb : sB) (γ : cG) (κ : kE) (Ad : List Nat) (τ : Nat → TD) (gT : ClassId) (G : va_W) (mo : Nat) (moc msT mrV msP mrA mbA mwA mhA mfA mpA mxA myA mmA mqA mzA mwy mfd : Nat) (mer mwr mqs msz mch mft mpt mdp mvd mmk : Int32) (mnw : Int64) (K9 KL cz fd : Nat) (ci wi : Int32) (sz : Nat) (hTy : TR γ κ Ad τ G) (kmo : Xc Ad mo (.inr (12, (.int mer :: .int (nI fd) :: .int mwr :: .int (nI K9) :: .int (nI KL) :: .ref moc :: .ref msT :: .ref mrV :: .ref msP :: .int mqs :: .ref mrA :: .ref mbA :: .ref mwA :: .ref mhA :: .ref mfA :: .ref mpA :: .ref mxA :: .ref myA :: .ref mmA :: .ref mqA :: .ref mzA :: .ref mwy :: .ref mfd :: .int msz :: .int (nI cz) :: .int mch :: .int mft :: .int mpt :: .int mdp :: .int mvd :: .long mnw :: .int mmk :: []))) G) (hwhat : ¬ (¬ wi < 0 ∧ ¬ 11 < wi)) : Met l y_Model_part w_Model_part ({ frames := 2, cells := 0, slots := 0, locals := 44 }) (mu_P [.ref mo, .int ci, .int wi] (dC, dI) sb G [(γ.1, .byte), (γ.2.1, .int), (γ.2.2.1, .long), (γ.2.2.2, .object "java/lang/Object"), (gT, .object "TrustChainModel$Text")] sz) (va_Ql (fun r (G' : va_W) => TR γ κ Ad τ G' ∧ FL Ad [mo] G G' ∧ (r = 0 ∧ Xc Ad mo (.inr (12, (.int 1 :: .int (nI fd) :: .int mwr :: .int (nI K9) :: .int (nI KL) :: .ref moc :: .ref msT :: .ref mrV :: .ref msP :: .int mqs :: .ref mrA :: .ref mbA :: .ref mwA :: .ref mhA :: .ref mfA :: .ref mpA :: .ref mxA :: .ref myA :: .ref mmA :: .ref mqA :: .ref mzA :: .ref mwy :: .ref mfd :: .int msz :: .int (nI cz) :: .int mch :: .int mft :: .int mpt :: .int mdp :: .int mvd :: .long mnw :: .int mmk :: []))) G')) (mu_B (dC, dI) [(γ.1, .byte), (γ.2.1, .int), (γ.2.2.1, .long), (γ.2.2.2, .object "java/lang/Object"), (gT, .object "TrustChainModel$Text")] (va_A G sz) (fun G' : va_W => G')) (va_A G sz)) 0 0 (va_A G sz) := by
  refine Met.ofW (cc := b_Model_part) (maxL := 6) (ret := (some FieldType.long)) (by decide) rfl ?_
  intro p e s m args below meth c s₁ B hml hv
  obtain ⟨rfl, hsz, hB0, hP, hK, hD0, hN, hT0⟩ := hv
  have hx := B.exec
  have hb := B.bytes
  have hr := B.returns
  have hts := atoms_spec (ws := w_Model_part) B.pre
  have tbin : ∀ w ∈ tb, w ∈ w_Model_part := fun w h => List.mem_cons_of_mem _ h
  have htb : ∀ w ∈ tb, w.before _ s = true := fun w h => hts w (tbin w h)
  have hown : s.vm.findClass "TrustChainModel" = some m.cls := findClass_of_methodNamed B.named
  have hlocks := B.notSynchronized
  subst hsz
  have hD := hD0.self (sz := s.heap.size)
  generalize hAe : va_A G s.heap.size = A at hD ⊢
  have hA : ∀ q : Nat, s.heap.size ≤ q → A q := fun q h => by rw [← hAe]; exact Or.inr h
  have hAs : ∀ q : Nat, A q → sb.1 ≤ q := fun q h => by
    rw [← hAe] at h
    rcases h with ⟨k, e, h⟩ | h
    · exact hD0.2 k _ h
    · exact Nat.le_trans hB0 h
  have hS : va_S A s.heap s.heap [] := va_S.rf
  have hFR := FL.rf Ad [mo] G
  have hcs : 0 ≤ (headSpec w_Model_part ({ frames := 2, cells := 0, slots := 0, locals := 44 })).room.cells ∧ 0 ≤ (headSpec w_Model_part ({ frames := 2, cells := 0, slots := 0, locals := 44 })).room.slots := ⟨Nat.le_refl _, Nat.le_refl _⟩
  have hP : va_P (dC, dI) classes G s.heap := hP
  have hl := lv_entry ([.ref mo, .int ci, .int wi]) (n := 6) (Nat.le_of_ble_eq_true rfl)
  rw [lg_entry_eq]
  generalize (lg_sl ([.ref mo, .int ci, .int wi]) ++ List.replicate (6 - (lg_sl ([.ref mo, .int ci, .int wi])).length) Slot.unset).toArray = ls at hl ⊢
  have hl : lv_has ls 6 [(0, .ref mo), (1, .int ci), (2, .int wi)] := hl
  obtain ⟨cX_mo, eX_mo⟩ : ∃ z : va_E, z = .inr (12, (.int mer :: .int (nI fd) :: .int mwr :: .int (nI K9) :: .int (nI KL) :: .ref moc :: .ref msT :: .ref mrV :: .ref msP :: .int mqs :: .ref mrA :: .ref mbA :: .ref mwA :: .ref mhA :: .ref mfA :: .ref mpA :: .ref mxA :: .ref myA :: .ref mmA :: .ref mqA :: .ref mzA :: .ref mwy :: .ref mfd :: .int msz :: .int (nI cz) :: .int mch :: .int mft :: .int mpt :: .int mdp :: .int mvd :: .long mnw :: .int mmk :: [])) := ⟨_, rfl⟩
  rw [← eX_mo] at kmo
  refine lv_aload_n hx hb d_Model_part_0 rfl (lv_at hl 0 rfl) ?_
  refine lv_iconst (v := 0) hx hb d_Model_part_1 (by decide) ?_
  obtain ⟨i_1, hg_1⟩ := List.getElem?_of_mem kmo.2
  rw [eX_mo] at hg_1
  refine va_put (v := .int 0) (ty := .int) hx hb htb i_Model t_Model t_Model_ok n_Model hown hK hP hD hS i_1 hg_1 rfl 0 (by decide) (htb _ q7_214) (fun _ h9 => h9) rfl (by decide +kernel) rfl rfl (Nat.le_of_ble_eq_true rfl) d_Model_part_2 (fun H2 locs hP hD2 hS => ?_)
  have hP : va_P (dC, dI) classes (G.set i_1 (mo, .inr (12, (.int 0 :: .int (nI fd) :: .int mwr :: .int (nI K9) :: .int (nI KL) :: .ref moc :: .ref msT :: .ref mrV :: .ref msP :: .int mqs :: .ref mrA :: .ref mbA :: .ref mwA :: .ref mhA :: .ref mfA :: .ref mpA :: .ref mxA :: .ref myA :: .ref mmA :: .ref mqA :: .ref mzA :: .ref mwy :: .ref mfd :: .int msz :: .int (nI cz) :: .int mch :: .int mft :: .int mpt :: .int mdp :: .int mvd :: .long mnw :: .int mmk :: [])))) H2 := hP
  have hD3 : va_D A (G.set i_1 (mo, .inr (12, (.int 0 :: .int (nI fd) :: .int mwr :: .int (nI K9) :: .int (nI KL) :: .ref moc :: .ref msT :: .ref mrV :: .ref msP :: .int mqs :: .ref mrA :: .ref mbA :: .ref mwA :: .ref mhA :: .ref mfA :: .ref mpA :: .ref mxA :: .ref myA :: .ref mmA :: .ref mqA :: .ref mzA :: .ref mwy :: .ref mfd :: .int msz :: .int (nI cz) :: .int mch :: .int mft :: .int mpt :: .int mdp :: .int mvd :: .long mnw :: .int mmk :: [])))) := hD2
  have hTy := TR.setX (c' := .inr (12, (.int 0 :: .int (nI fd) :: .int mwr :: .int (nI K9) :: .int (nI KL) :: .ref moc :: .ref msT :: .ref mrV :: .ref msP :: .int mqs :: .ref mrA :: .ref mbA :: .ref mwA :: .ref mhA :: .ref mfA :: .ref mpA :: .ref mxA :: .ref myA :: .ref mmA :: .ref mqA :: .ref mzA :: .ref mwy :: .ref mfd :: .int msz :: .int (nI cz) :: .int mch :: .int mft :: .int mpt :: .int mdp :: .int mvd :: .long mnw :: .int mmk :: []))) hTy hg_1 kmo.1
  have hFR := hFR.tr (FL.set (Ad := Ad) (X := [mo]) (c' := .inr (12, (.int 0 :: .int (nI fd) :: .int mwr :: .int (nI K9) :: .int (nI KL) :: .ref moc :: .ref msT :: .ref mrV :: .ref msP :: .int mqs :: .ref mrA :: .ref mbA :: .ref mwA :: .ref mhA :: .ref mfA :: .ref mpA :: .ref mxA :: .ref myA :: .ref mmA :: .ref mqA :: .ref mzA :: .ref mwy :: .ref mfd :: .int msz :: .int (nI cz) :: .int mch :: .int mft :: .int mpt :: .int mdp :: .int mvd :: .long mnw :: .int mmk :: []))) hg_1 (by simp))
  have hg_1 := set_here (c' := .inr (12, (.int 0 :: .int (nI fd) :: .int mwr :: .int (nI K9) :: .int (nI KL) :: .ref moc :: .ref msT :: .ref mrV :: .ref msP :: .int mqs :: .ref mrA :: .ref mbA :: .ref mwA :: .ref mhA :: .ref mfA :: .ref mpA :: .ref mxA :: .ref myA :: .ref mmA :: .ref mqA :: .ref mzA :: .ref mwy :: .ref mfd :: .int msz :: .int (nI cz) :: .int mch :: .int mft :: .int mpt :: .int mdp :: .int mvd :: .long mnw :: .int mmk :: []))) hg_1
  have kmo : Xc Ad mo (.inr (12, (.int 0 :: .int (nI fd) :: .int mwr :: .int (nI K9) :: .int (nI KL) :: .ref moc :: .ref msT :: .ref mrV :: .ref msP :: .int mqs :: .ref mrA :: .ref mbA :: .ref mwA :: .ref mhA :: .ref mfA :: .ref mpA :: .ref mxA :: .ref myA :: .ref mmA :: .ref mqA :: .ref mzA :: .ref mwy :: .ref mfd :: .int msz :: .int (nI cz) :: .int mch :: .int mft :: .int mpt :: .int mdp :: .int mvd :: .long mnw :: .int mmk :: []))) (G.set i_1 (mo, .inr (12, (.int 0 :: .int (nI fd) :: .int mwr :: .int (nI K9) :: .int (nI KL) :: .ref moc :: .ref msT :: .ref mrV :: .ref msP :: .int mqs :: .ref mrA :: .ref mbA :: .ref mwA :: .ref mhA :: .ref mfA :: .ref mpA :: .ref mxA :: .ref myA :: .ref mmA :: .ref mqA :: .ref mzA :: .ref mwy :: .ref mfd :: .int msz :: .int (nI cz) :: .int mch :: .int mft :: .int mpt :: .int mdp :: .int mvd :: .long mnw :: .int mmk :: [])))) := ⟨kmo.1, List.mem_of_getElem? hg_1⟩
  have hD := hD3
  clear hD3 hD2
  generalize G.set i_1 (mo, .inr (12, (.int 0 :: .int (nI fd) :: .int mwr :: .int (nI K9) :: .int (nI KL) :: .ref moc :: .ref msT :: .ref mrV :: .ref msP :: .int mqs :: .ref mrA :: .ref mbA :: .ref mwA :: .ref mhA :: .ref mfA :: .ref mpA :: .ref mxA :: .ref myA :: .ref mmA :: .ref mqA :: .ref mzA :: .ref mwy :: .ref mfd :: .int msz :: .int (nI cz) :: .int mch :: .int mft :: .int mpt :: .int mdp :: .int mvd :: .long mnw :: .int mmk :: []))) = G_2 at hP hD hTy hFR kmo hg_1
  obtain ⟨cX_3, eX_3⟩ : ∃ z : va_E, z = .inr (12, (.int 0 :: .int (nI fd) :: .int mwr :: .int (nI K9) :: .int (nI KL) :: .ref moc :: .ref msT :: .ref mrV :: .ref msP :: .int mqs :: .ref mrA :: .ref mbA :: .ref mwA :: .ref mhA :: .ref mfA :: .ref mpA :: .ref mxA :: .ref myA :: .ref mmA :: .ref mqA :: .ref mzA :: .ref mwy :: .ref mfd :: .int msz :: .int (nI cz) :: .int mch :: .int mft :: .int mpt :: .int mdp :: .int mvd :: .long mnw :: .int mmk :: [])) := ⟨_, rfl⟩
  rw [← eX_3] at kmo
  refine lv_aload_n hx hb d_Model_part_5 rfl (lv_at hl 0 rfl) ?_
  refine lv_iload_n hx hb d_Model_part_6 rfl (lv_at hl 2 rfl) ?_
  refine lv_iconst (v := 0) hx hb d_Model_part_7 (by decide) ?_
  refine lv_bipush (v := 11) hx hb d_Model_part_8 (by decide) ?_
  refine vp_callSi (pu_callS (As := [.int wi, .int 0, .int 11]) (rest := [.ref mo]) ⟨hx, hb, hml, hown, hts⟩ tbin (c_Model_in l dC dI sb wi (0 : Int32) (11 : Int32)) q9_68 q8_116 q1_9 q8_117 (n := 3) (by decide +kernel) rfl ⟨rfl, rfl⟩ ⟨Nat.le_of_ble_eq_true rfl, Nat.le_of_ble_eq_true rfl⟩ ⟨Nat.le_of_ble_eq_true rfl, Nat.le_of_ble_eq_true rfl⟩ hN (hT0.keep hS hAs) hK hP [] (by simp only [List.filterMap_cons, List.filterMap_nil]) [] rfl hl.1 rfl (Nat.le_of_ble_eq_true rfl) d_Model_part_10) (fun r10 hr10 => ?_)
  refine lv_if_ne (tgt := 20) hx hb d_Model_part_13 (by decide) (fun c13 => ?_) (fun c13 => ?_)
  · have p13 : ¬ (r10 = (0 : Int32)) := c13
    exact absurd (bz_1 hr10 p13) hwhat
  · have p13 : r10 = (0 : Int32) := c13
    refine lv_iconst (v := 1) hx hb d_Model_part_16 (by decide) ?_
    refine lv_goto (tgt := 21) hx hb d_Model_part_17 (by decide) ?_
    refine lv_iconst (v := 1) hx hb d_Model_part_21 (by decide) ?_
    have hFc := va_free (wc := G_2) hD hS hA (List.range G_2.length) (rg_is _)
    refine va_calli (mu_runV (As := [.int 1, .int 1]) (rest := []) ⟨hx, hb, hml, hown, hts⟩ tbin (m_Model_fails_1 l dC dI sb γ κ Ad τ gT G_2 mo _ _ _ _ _ _ _ _ _ _ _ _ _ _ _ _ _ _ _ _ _ _ _ _ _ _ _ _ _ _ _ _ H2.size hTy (by have h9 := kmo; rw [eX_3] at h9; exact h9) (by decide)) q8_79 q8_81 qp_36 q1_9 q8_82 (n := 2) (by decide +kernel) rfl ⟨rfl, rfl⟩ ⟨Nat.le_of_ble_eq_true rfl, Nat.le_of_ble_eq_true rfl⟩ ⟨Nat.le_of_ble_eq_true rfl, Nat.le_of_ble_eq_true rfl⟩ hN (hT0.keep hS hAs) hAs (Nat.le_trans hB0 hS.1) hK hP hD (List.range G_2.length) (rg_nd _) (rg_is _) [0, 1, 2, 3, 4] rfl i_1 12 hg_1 rfl rfl hl.1 rfl (Nat.le_of_ble_eq_true rfl) d_Model_part_22) hS (fun q _ h => hFc q h) hFc (fun r22 G_4 tS H22 locs ht hvm hw22 hB hz1 hk1 hS => ?_)
    obtain ⟨hTy, hF9, hr22⟩ := hw22
    have hFR := hFR.tr (hF9.up (q_gac (by simp) (q_gan)))
    obtain ⟨hP1, hK1, hD1⟩ := hB
    rw [ht] at hP1
    have hP : va_P (dC, dI) classes G_4 H22 := hP1
    have hD : va_D A G_4 := hD1.weaken (fun _ _ _ h => hFc _ h)
    obtain ⟨hq22, kmo⟩ := hr22
    subst hq22
    obtain ⟨cX_5, eX_5⟩ : ∃ z : va_E, z = .inr (12, (.int 1 :: .int (nI fd) :: .int mwr :: .int (nI K9) :: .int (nI KL) :: .ref moc :: .ref msT :: .ref mrV :: .ref msP :: .int mqs :: .ref mrA :: .ref mbA :: .ref mwA :: .ref mhA :: .ref mfA :: .ref mpA :: .ref mxA :: .ref myA :: .ref mmA :: .ref mqA :: .ref mzA :: .ref mwy :: .ref mfd :: .int msz :: .int (nI cz) :: .int mch :: .int mft :: .int mpt :: .int mdp :: .int mvd :: .long mnw :: .int mmk :: [])) := ⟨_, rfl⟩
    rw [← eX_5] at kmo
    refine lv_if_ne (tgt := 37) hx hb d_Model_part_25 (by decide) (fun c25 => ?_) (fun c25 => ?_)
    rotate_left
    · exact absurd c25 (by decide)
    refine lv_lconst (v := 0) hx hb d_Model_part_37 (by decide) ?_
    exact W.lret (v := 0) hx hb hr (fun t ht hW => ⟨⟨_, G_4, rfl, ⟨hTy, hFR, rfl, (by rw [eX_5] at kmo; exact kmo)⟩, by rw [ht]; exact hP, va_K.moved hW.alike hK, hD⟩, hS.F ht⟩) hS.2.2 d_Model_part_38
set_option maxHeartbeats 4000000 in
set_option maxRecDepth 100000 in
theorem m_Model_part_2 (l : Launch) (dC : Nat → ClassId) (dI : Nat → Nat → Nat) (sb : sB) (γ : cG) (κ : kE) (Ad : List Nat) (τ : Nat → TD) (gT : ClassId) (G : va_W) (mo : Nat) (moc msT mrV msP mrA mbA mwA mhA mfA mpA mxA myA mmA mqA mzA mwy mfd : Nat) (mer mwr mqs msz mch mft mpt mdp mvd mmk : Int32) (mnw : Int64) (K9 KL cz fd : Nat) (ci wi : Int32) (sz : Nat) (hTy : TR γ κ Ad τ G) (kmo : Xc Ad mo (.inr (12, (.int mer :: .int (nI fd) :: .int mwr :: .int (nI K9) :: .int (nI KL) :: .ref moc :: .ref msT :: .ref mrV :: .ref msP :: .int mqs :: .ref mrA :: .ref mbA :: .ref mwA :: .ref mhA :: .ref mfA :: .ref mpA :: .ref mxA :: .ref myA :: .ref mmA :: .ref mqA :: .ref mzA :: .ref mwy :: .ref mfd :: .int msz :: .int (nI cz) :: .int mch :: .int mft :: .int mpt :: .int mdp :: .int mvd :: .long mnw :: .int mmk :: []))) G) (hwhat : ¬ wi < 0 ∧ ¬ 11 < wi) (hbad : ¬ (¬ ci < 0 ∧ ci < nI K9)) (hK9 : K9 ≤ 16) : Met l y_Model_part w_Model_part ({ frames := 2, cells := 0, slots := 0, locals := 44 }) (mu_P [.ref mo, .int ci, .int wi] (dC, dI) sb G [(γ.1, .byte), (γ.2.1, .int), (γ.2.2.1, .long), (γ.2.2.2, .object "java/lang/Object"), (gT, .object "TrustChainModel$Text")] sz) (va_Ql (fun r (G' : va_W) => TR γ κ Ad τ G' ∧ FL Ad [mo] G G' ∧ (r = 0 ∧ Xc Ad mo (.inr (12, (.int 2 :: .int (nI fd) :: .int mwr :: .int (nI K9) :: .int (nI KL) :: .ref moc :: .ref msT :: .ref mrV :: .ref msP :: .int mqs :: .ref mrA :: .ref mbA :: .ref mwA :: .ref mhA :: .ref mfA :: .ref mpA :: .ref mxA :: .ref myA :: .ref mmA :: .ref mqA :: .ref mzA :: .ref mwy :: .ref mfd :: .int msz :: .int (nI cz) :: .int mch :: .int mft :: .int mpt :: .int mdp :: .int mvd :: .long mnw :: .int mmk :: []))) G')) (mu_B (dC, dI) [(γ.1, .byte), (γ.2.1, .int), (γ.2.2.1, .long), (γ.2.2.2, .object "java/lang/Object"), (gT, .object "TrustChainModel$Text")] (va_A G sz) (fun G' : va_W => G')) (va_A G sz)) 0 0 (va_A G sz) := by
  refine Met.ofW (cc := b_Model_part) (maxL := 6) (ret := (some FieldType.long)) (by decide) rfl ?_
  intro p e s m args below meth c s₁ B hml hv
  obtain ⟨rfl, hsz, hB0, hP, hK, hD0, hN, hT0⟩ := hv
  have hx := B.exec
  have hb := B.bytes
  have hr := B.returns
  have hts := atoms_spec (ws := w_Model_part) B.pre
  have tbin : ∀ w ∈ tb, w ∈ w_Model_part := fun w h => List.mem_cons_of_mem _ h
  have htb : ∀ w ∈ tb, w.before _ s = true := fun w h => hts w (tbin w h)
  have hown : s.vm.findClass "TrustChainModel" = some m.cls := findClass_of_methodNamed B.named
  have hlocks := B.notSynchronized
  subst hsz
  have hD := hD0.self (sz := s.heap.size)
  generalize hAe : va_A G s.heap.size = A at hD ⊢
  have hA : ∀ q : Nat, s.heap.size ≤ q → A q := fun q h => by rw [← hAe]; exact Or.inr h
  have hAs : ∀ q : Nat, A q → sb.1 ≤ q := fun q h => by
    rw [← hAe] at h
    rcases h with ⟨k, e, h⟩ | h
    · exact hD0.2 k _ h
    · exact Nat.le_trans hB0 h
  have hS : va_S A s.heap s.heap [] := va_S.rf
  have hFR := FL.rf Ad [mo] G
  have hcs : 0 ≤ (headSpec w_Model_part ({ frames := 2, cells := 0, slots := 0, locals := 44 })).room.cells ∧ 0 ≤ (headSpec w_Model_part ({ frames := 2, cells := 0, slots := 0, locals := 44 })).room.slots := ⟨Nat.le_refl _, Nat.le_refl _⟩
  have hP : va_P (dC, dI) classes G s.heap := hP
  have hl := lv_entry ([.ref mo, .int ci, .int wi]) (n := 6) (Nat.le_of_ble_eq_true rfl)
  rw [lg_entry_eq]
  generalize (lg_sl ([.ref mo, .int ci, .int wi]) ++ List.replicate (6 - (lg_sl ([.ref mo, .int ci, .int wi])).length) Slot.unset).toArray = ls at hl ⊢
  have hl : lv_has ls 6 [(0, .ref mo), (1, .int ci), (2, .int wi)] := hl
  obtain ⟨cX_mo, eX_mo⟩ : ∃ z : va_E, z = .inr (12, (.int mer :: .int (nI fd) :: .int mwr :: .int (nI K9) :: .int (nI KL) :: .ref moc :: .ref msT :: .ref mrV :: .ref msP :: .int mqs :: .ref mrA :: .ref mbA :: .ref mwA :: .ref mhA :: .ref mfA :: .ref mpA :: .ref mxA :: .ref myA :: .ref mmA :: .ref mqA :: .ref mzA :: .ref mwy :: .ref mfd :: .int msz :: .int (nI cz) :: .int mch :: .int mft :: .int mpt :: .int mdp :: .int mvd :: .long mnw :: .int mmk :: [])) := ⟨_, rfl⟩
  rw [← eX_mo] at kmo
  refine lv_aload_n hx hb d_Model_part_0 rfl (lv_at hl 0 rfl) ?_
  refine lv_iconst (v := 0) hx hb d_Model_part_1 (by decide) ?_
  obtain ⟨i_1, hg_1⟩ := List.getElem?_of_mem kmo.2
  rw [eX_mo] at hg_1
  refine va_put (v := .int 0) (ty := .int) hx hb htb i_Model t_Model t_Model_ok n_Model hown hK hP hD hS i_1 hg_1 rfl 0 (by decide) (htb _ q7_214) (fun _ h9 => h9) rfl (by decide +kernel) rfl rfl (Nat.le_of_ble_eq_true rfl) d_Model_part_2 (fun H2 locs hP hD2 hS => ?_)
  have hP : va_P (dC, dI) classes (G.set i_1 (mo, .inr (12, (.int 0 :: .int (nI fd) :: .int mwr :: .int (nI K9) :: .int (nI KL) :: .ref moc :: .ref msT :: .ref mrV :: .ref msP :: .int mqs :: .ref mrA :: .ref mbA :: .ref mwA :: .ref mhA :: .ref mfA :: .ref mpA :: .ref mxA :: .ref myA :: .ref mmA :: .ref mqA :: .ref mzA :: .ref mwy :: .ref mfd :: .int msz :: .int (nI cz) :: .int mch :: .int mft :: .int mpt :: .int mdp :: .int mvd :: .long mnw :: .int mmk :: [])))) H2 := hP
  have hD3 : va_D A (G.set i_1 (mo, .inr (12, (.int 0 :: .int (nI fd) :: .int mwr :: .int (nI K9) :: .int (nI KL) :: .ref moc :: .ref msT :: .ref mrV :: .ref msP :: .int mqs :: .ref mrA :: .ref mbA :: .ref mwA :: .ref mhA :: .ref mfA :: .ref mpA :: .ref mxA :: .ref myA :: .ref mmA :: .ref mqA :: .ref mzA :: .ref mwy :: .ref mfd :: .int msz :: .int (nI cz) :: .int mch :: .int mft :: .int mpt :: .int mdp :: .int mvd :: .long mnw :: .int mmk :: [])))) := hD2
  have hTy := TR.setX (c' := .inr (12, (.int 0 :: .int (nI fd) :: .int mwr :: .int (nI K9) :: .int (nI KL) :: .ref moc :: .ref msT :: .ref mrV :: .ref msP :: .int mqs :: .ref mrA :: .ref mbA :: .ref mwA :: .ref mhA :: .ref mfA :: .ref mpA :: .ref mxA :: .ref myA :: .ref mmA :: .ref mqA :: .ref mzA :: .ref mwy :: .ref mfd :: .int msz :: .int (nI cz) :: .int mch :: .int mft :: .int mpt :: .int mdp :: .int mvd :: .long mnw :: .int mmk :: []))) hTy hg_1 kmo.1
  have hFR := hFR.tr (FL.set (Ad := Ad) (X := [mo]) (c' := .inr (12, (.int 0 :: .int (nI fd) :: .int mwr :: .int (nI K9) :: .int (nI KL) :: .ref moc :: .ref msT :: .ref mrV :: .ref msP :: .int mqs :: .ref mrA :: .ref mbA :: .ref mwA :: .ref mhA :: .ref mfA :: .ref mpA :: .ref mxA :: .ref myA :: .ref mmA :: .ref mqA :: .ref mzA :: .ref mwy :: .ref mfd :: .int msz :: .int (nI cz) :: .int mch :: .int mft :: .int mpt :: .int mdp :: .int mvd :: .long mnw :: .int mmk :: []))) hg_1 (by simp))
  have hg_1 := set_here (c' := .inr (12, (.int 0 :: .int (nI fd) :: .int mwr :: .int (nI K9) :: .int (nI KL) :: .ref moc :: .ref msT :: .ref mrV :: .ref msP :: .int mqs :: .ref mrA :: .ref mbA :: .ref mwA :: .ref mhA :: .ref mfA :: .ref mpA :: .ref mxA :: .ref myA :: .ref mmA :: .ref mqA :: .ref mzA :: .ref mwy :: .ref mfd :: .int msz :: .int (nI cz) :: .int mch :: .int mft :: .int mpt :: .int mdp :: .int mvd :: .long mnw :: .int mmk :: []))) hg_1
  have kmo : Xc Ad mo (.inr (12, (.int 0 :: .int (nI fd) :: .int mwr :: .int (nI K9) :: .int (nI KL) :: .ref moc :: .ref msT :: .ref mrV :: .ref msP :: .int mqs :: .ref mrA :: .ref mbA :: .ref mwA :: .ref mhA :: .ref mfA :: .ref mpA :: .ref mxA :: .ref myA :: .ref mmA :: .ref mqA :: .ref mzA :: .ref mwy :: .ref mfd :: .int msz :: .int (nI cz) :: .int mch :: .int mft :: .int mpt :: .int mdp :: .int mvd :: .long mnw :: .int mmk :: []))) (G.set i_1 (mo, .inr (12, (.int 0 :: .int (nI fd) :: .int mwr :: .int (nI K9) :: .int (nI KL) :: .ref moc :: .ref msT :: .ref mrV :: .ref msP :: .int mqs :: .ref mrA :: .ref mbA :: .ref mwA :: .ref mhA :: .ref mfA :: .ref mpA :: .ref mxA :: .ref myA :: .ref mmA :: .ref mqA :: .ref mzA :: .ref mwy :: .ref mfd :: .int msz :: .int (nI cz) :: .int mch :: .int mft :: .int mpt :: .int mdp :: .int mvd :: .long mnw :: .int mmk :: [])))) := ⟨kmo.1, List.mem_of_getElem? hg_1⟩
  have hD := hD3
  clear hD3 hD2
  generalize G.set i_1 (mo, .inr (12, (.int 0 :: .int (nI fd) :: .int mwr :: .int (nI K9) :: .int (nI KL) :: .ref moc :: .ref msT :: .ref mrV :: .ref msP :: .int mqs :: .ref mrA :: .ref mbA :: .ref mwA :: .ref mhA :: .ref mfA :: .ref mpA :: .ref mxA :: .ref myA :: .ref mmA :: .ref mqA :: .ref mzA :: .ref mwy :: .ref mfd :: .int msz :: .int (nI cz) :: .int mch :: .int mft :: .int mpt :: .int mdp :: .int mvd :: .long mnw :: .int mmk :: []))) = G_2 at hP hD hTy hFR kmo hg_1
  obtain ⟨cX_3, eX_3⟩ : ∃ z : va_E, z = .inr (12, (.int 0 :: .int (nI fd) :: .int mwr :: .int (nI K9) :: .int (nI KL) :: .ref moc :: .ref msT :: .ref mrV :: .ref msP :: .int mqs :: .ref mrA :: .ref mbA :: .ref mwA :: .ref mhA :: .ref mfA :: .ref mpA :: .ref mxA :: .ref myA :: .ref mmA :: .ref mqA :: .ref mzA :: .ref mwy :: .ref mfd :: .int msz :: .int (nI cz) :: .int mch :: .int mft :: .int mpt :: .int mdp :: .int mvd :: .long mnw :: .int mmk :: [])) := ⟨_, rfl⟩
  rw [← eX_3] at kmo
  refine lv_aload_n hx hb d_Model_part_5 rfl (lv_at hl 0 rfl) ?_
  refine lv_iload_n hx hb d_Model_part_6 rfl (lv_at hl 2 rfl) ?_
  refine lv_iconst (v := 0) hx hb d_Model_part_7 (by decide) ?_
  refine lv_bipush (v := 11) hx hb d_Model_part_8 (by decide) ?_
  refine vp_callSi (pu_callS (As := [.int wi, .int 0, .int 11]) (rest := [.ref mo]) ⟨hx, hb, hml, hown, hts⟩ tbin (c_Model_in l dC dI sb wi (0 : Int32) (11 : Int32)) q9_68 q8_116 q1_9 q8_117 (n := 3) (by decide +kernel) rfl ⟨rfl, rfl⟩ ⟨Nat.le_of_ble_eq_true rfl, Nat.le_of_ble_eq_true rfl⟩ ⟨Nat.le_of_ble_eq_true rfl, Nat.le_of_ble_eq_true rfl⟩ hN (hT0.keep hS hAs) hK hP [] (by simp only [List.filterMap_cons, List.filterMap_nil]) [] rfl hl.1 rfl (Nat.le_of_ble_eq_true rfl) d_Model_part_10) (fun r10 hr10 => ?_)
  refine lv_if_ne (tgt := 20) hx hb d_Model_part_13 (by decide) (fun c13 => ?_) (fun c13 => ?_)
  · have p13 : ¬ (r10 = (0 : Int32)) := c13
    refine lv_iconst (v := 0) hx hb d_Model_part_20 (by decide) ?_
    refine lv_iconst (v := 1) hx hb d_Model_part_21 (by decide) ?_
    have hFc := va_free (wc := G_2) hD hS hA (List.range G_2.length) (rg_is _)
    refine va_calli (mu_runV (As := [.int 0, .int 1]) (rest := []) ⟨hx, hb, hml, hown, hts⟩ tbin (m_Model_fails_0 l dC dI sb γ κ Ad τ gT G_2 mo _ _ _ _ _ _ _ _ _ _ _ _ _ _ _ _ _ _ _ _ _ _ _ _ _ _ _ _ _ _ _ _ H2.size hTy (by have h9 := kmo; rw [eX_3] at h9; exact h9) ) q8_79 q8_81 qp_36 q1_9 q8_82 (n := 2) (by decide +kernel) rfl ⟨rfl, rfl⟩ ⟨Nat.le_of_ble_eq_true rfl, Nat.le_of_ble_eq_true rfl⟩ ⟨Nat.le_of_ble_eq_true rfl, Nat.le_of_ble_eq_true rfl⟩ hN (hT0.keep hS hAs) hAs (Nat.le_trans hB0 hS.1) hK hP hD (List.range G_2.length) (rg_nd _) (rg_is _) [0, 1, 2, 3, 4] rfl i_1 12 hg_1 rfl rfl hl.1 rfl (Nat.le_of_ble_eq_true rfl) d_Model_part_22) hS (fun q _ h => hFc q h) hFc (fun r22 G_4 tS H22 locs ht hvm hw22 hB hz1 hk1 hS => ?_)
    obtain ⟨hTy, hF9, hr22⟩ := hw22
    have kmo := kmo.fl hF9 (q_nmn)
    have hFR := hFR.tr (hF9.up (q_gan))
    obtain ⟨hP1, hK1, hD1⟩ := hB
    rw [ht] at hP1
    have hP : va_P (dC, dI) classes G_4 H22 := hP1
    have hD : va_D A G_4 := hD1.weaken (fun _ _ _ h => hFc _ h)
    subst hr22
    refine lv_if_ne (tgt := 37) hx hb d_Model_part_25 (by decide) (fun c25 => ?_) (fun c25 => ?_)
    · exact absurd c25 (by decide)
    refine lv_aload_n hx hb d_Model_part_28 rfl (lv_at hl 0 rfl) ?_
    refine lv_iload_n hx hb d_Model_part_29 rfl (lv_at hl 1 rfl) ?_
    refine lv_iconst (v := 2) hx hb d_Model_part_30 (by decide) ?_
    have hFc := va_free (wc := G_4) hD hS hA (List.range G_4.length) (rg_is _)
    obtain ⟨i_6, hg_6⟩ := List.getElem?_of_mem kmo.2
    rw [eX_3] at hg_6
    refine va_calli (mu_runV (As := [.int ci, .int 2]) (rest := []) ⟨hx, hb, hml, hown, hts⟩ tbin (m_Model_noc_1 l dC dI sb γ κ Ad τ gT G_4 mo _ _ _ _ _ _ _ _ _ _ _ _ _ _ _ _ _ _ _ _ _ _ _ _ _ _ _ _ _ _ _ _ _ H22.size hTy (by have h9 := kmo; rw [eX_3] at h9; exact h9) hbad (by decide) hK9) q9_64 q9_66 qp_39 q1_9 q9_67 (n := 2) (by decide +kernel) rfl ⟨rfl, rfl⟩ ⟨Nat.le_of_ble_eq_true rfl, Nat.le_of_ble_eq_true rfl⟩ ⟨Nat.le_of_ble_eq_true rfl, Nat.le_of_ble_eq_true rfl⟩ hN (hT0.keep hS hAs) hAs (Nat.le_trans hB0 hS.1) hK hP hD (List.range G_4.length) (rg_nd _) (rg_is _) [0, 1, 2, 3, 4] rfl i_6 12 hg_6 rfl rfl hl.1 rfl (Nat.le_of_ble_eq_true rfl) d_Model_part_31) hS (fun q _ h => hFc q h) hFc (fun r31 G_5 tS H31 locs ht hvm hw31 hB hz1 hk1 hS => ?_)
    obtain ⟨hTy, hF9, hr31⟩ := hw31
    have hFR := hFR.tr (hF9.up (q_gac (by simp) (q_gan)))
    obtain ⟨hP1, hK1, hD1⟩ := hB
    rw [ht] at hP1
    have hP : va_P (dC, dI) classes G_5 H31 := hP1
    have hD : va_D A G_5 := hD1.weaken (fun _ _ _ h => hFc _ h)
    obtain ⟨hq31, kmo⟩ := hr31
    subst hq31
    obtain ⟨cX_7, eX_7⟩ : ∃ z : va_E, z = .inr (12, (.int 2 :: .int (nI fd) :: .int mwr :: .int (nI K9) :: .int (nI KL) :: .ref moc :: .ref msT :: .ref mrV :: .ref msP :: .int mqs :: .ref mrA :: .ref mbA :: .ref mwA :: .ref mhA :: .ref mfA :: .ref mpA :: .ref mxA :: .ref myA :: .ref mmA :: .ref mqA :: .ref mzA :: .ref mwy :: .ref mfd :: .int msz :: .int (nI cz) :: .int mch :: .int mft :: .int mpt :: .int mdp :: .int mvd :: .long mnw :: .int mmk :: [])) := ⟨_, rfl⟩
    rw [← eX_7] at kmo
    refine lv_if_eq (tgt := 39) hx hb d_Model_part_34 (by decide) (fun c34 => ?_) (fun c34 => ?_)
    · exact absurd c34 (by decide)
    refine lv_lconst (v := 0) hx hb d_Model_part_37 (by decide) ?_
    exact W.lret (v := 0) hx hb hr (fun t ht hW => ⟨⟨_, G_5, rfl, ⟨hTy, hFR, rfl, (by rw [eX_7] at kmo; exact kmo)⟩, by rw [ht]; exact hP, va_K.moved hW.alike hK, hD⟩, hS.F ht⟩) hS.2.2 d_Model_part_38
  · have p13 : r10 = (0 : Int32) := c13
    exact absurd hwhat (bz_0 hr10 p13)
