theorem d_Model_signed_64 : decode b_Model_signed 64 = .ok (.aload_n 0, 1) := by decide +kernel
theorem d_Model_signed_65 : decode b_Model_signed 65 = .ok (.getfield 23, 3) := by decide +kernel
theorem d_Model_signed_68 : decode b_Model_signed 68 = .ok (.iload_n 2, 1) := by decide +kernel
theorem d_Model_signed_69 : decode b_Model_signed 69 = .ok (.aaload, 1) := by decide +kernel
theorem d_Model_signed_70 : decode b_Model_signed 70 = .ok (.goto 9, 3) := by decide +kernel
theorem d_Model_signed_73 : decode b_Model_signed 73 = .ok (.aload_n 0, 1) := by decide +kernel
theorem d_Model_signed_74 : decode b_Model_signed 74 = .ok (.getfield 19, 3) := by decide +kernel
theorem d_Model_signed_77 : decode b_Model_signed 77 = .ok (.iload_n 2, 1) := by decide +kernel
theorem d_Model_signed_78 : decode b_Model_signed 78 = .ok (.aaload, 1) := by decide +kernel
theorem d_Model_signed_79 : decode b_Model_signed 79 = .ok (.aload_n 0, 1) := by decide +kernel
theorem d_Model_signed_80 : decode b_Model_signed 80 = .ok (.getfield 19, 3) := by decide +kernel
theorem d_Model_signed_83 : decode b_Model_signed 83 = .ok (.iload_n 3, 1) := by decide +kernel
theorem d_Model_signed_84 : decode b_Model_signed 84 = .ok (.aaload, 1) := by decide +kernel
theorem d_Model_signed_85 : decode b_Model_signed 85 = .ok (.invokevirtual 308, 3) := by decide +kernel
theorem d_Model_signed_88 : decode b_Model_signed 88 = .ok (.ireturn, 1) := by decide +kernel
/-! The reference's face, second part. -/
section TRT
variable {γ : cG} {κ κ' : kE} {Ad Ad' : List Nat} {τ τ' : Nat → TD} {G G' : va_W} {a : Nat} {c c' : va_E}
/-- a certificate is trusted, or not any more -/
def tUp (x : TD) (v : Int32) : TD := TD.mk x.A (fun k => if k = 42 then v else x.I k) x.J x.D x.u x.tb x.te x.sg x.se x.is x.ie x.su x.ue x.sr x.re x.mo x.me x.nd x.ni x.nt x.ne x.ex x.da x.de x.ia x.ib x.ta x.tz x.ea x.eb
def tTr (τ : Nat → TD) (t : Nat) (v : Int32) : Nat → TD := fun b => if b = t then tUp (τ t) v else τ b
theorem tTr_at {t : Nat} {v : Int32} : tTr τ t v t = tUp (τ t) v := if_pos rfl
theorem tTr_D {t b j : Nat} {v : Int32} : (tTr τ t v b).D j = (τ b).D j := by
  unfold tTr
  split
  · rename_i e
    rw [e]
    rfl
  · rfl
theorem TR.setT {A : Nat → Prop} {i t : Nat} {v : Int32} (h : TR γ κ Ad τ G) (hD : va_D A G) (hg : G[i]? = some (t, c)) (ht : tK κ Ad t (20, 0, 0)) : TR γ κ Ad (tTr τ t v) (G.set i (t, tcell (tUp (τ t) v))) := by
  rw [← tTr_at (τ := τ) (t := t) (v := v)]
  have hold := h.2 _ (List.mem_of_getElem? hg) ht.1
  refine ⟨fun b hb => ?_, fun q hq hqa => ?_⟩
  · by_cases hab : t = b
    · subst hab
      exact ⟨_, List.mem_of_getElem? (set_here hg)⟩
    · obtain ⟨d, hd⟩ := h.1 b hb
      obtain ⟨j, hj⟩ := List.getElem?_of_mem hd
      exact ⟨d, List.mem_of_getElem? (set_keep hg hj hab)⟩
  · obtain ⟨b, e9⟩ := q
    by_cases hbt : b = t
    · subst hbt
      obtain ⟨j, hj⟩ := List.getElem?_of_mem hq
      have hij : j = i := by
        refine Classical.byContradiction (fun hne => ?_)
        rw [List.getElem?_set_ne (fun x => hne x.symm)] at hj
        exact hne (hD.1 j i _ _ hj hg rfl)
      subst hij
      rw [set_here hg] at hj
      obtain rfl : _ = e9 := congrArg Prod.snd (Option.some.inj hj)
      unfold tOR at hold ⊢
      rw [ht.2] at hold ⊢
      refine ⟨fun j hj => ?_, rfl⟩
      have := hold.1 j hj
      rw [show (tTr τ b v b).A = (τ b).A from by rw [tTr_at]; rfl]
      exact this
    · rcases mem_set hg hq with h1 | h1
      · have h2 := h.2 _ h1 hqa
        have eq : tTr τ t v b = τ b := by unfold tTr; rw [if_neg hbt]
        unfold tOR at h2 ⊢
        dsimp only at h2 ⊢
        revert h2
        generalize κ b = k
        obtain ⟨c9, p9, q9⟩ := k
        intro h2
        match c9, h2 with
        | 6, h2 => exact h2
        | 18, h2 => exact ⟨h2.1, by rw [tTr_D]; exact h2.2⟩
        | 20, h2 => rw [eq]; exact h2
        | 0, _ => exact True.intro
        | 1, _ => exact True.intro
        | 2, _ => exact True.intro
        | 3, _ => exact True.intro
        | 4, _ => exact True.intro
        | 5, _ => exact True.intro
        | 7, _ => exact True.intro
        | 8, _ => exact True.intro
        | 9, _ => exact True.intro
        | 10, _ => exact True.intro
        | 11, _ => exact True.intro
        | 12, _ => exact True.intro
        | 13, _ => exact True.intro
        | 14, _ => exact True.intro
        | 15, _ => exact True.intro
        | 16, _ => exact True.intro
        | 17, _ => exact True.intro
        | 19, _ => exact True.intro
        | n + 21, _ => exact True.intro
      · exact absurd (congrArg Prod.fst h1) hbt
end TRT
theorem in_rng {i : Int32} {K : Nat} (hK : K < 2 ^ 20) (h : ¬ i < 0 ∧ i < nI K) : ¬ i < 0 ∧ ¬ nI K - 1 < i := by
  obtain ⟨k, hk, e⟩ := nI_at9 h.1 h.2 (by omega)
  subst e
  exact in_ok hk hK
set_option maxHeartbeats 4000000 in
set_option maxRecDepth 100000 in
theorem m_Model_trust_ok0 (l : Launch) (dC : Nat → ClassId) (dI : Nat → Nat → Nat) (sb : sB) (γ : cG) (κ : kE) (Ad : List Nat) (τ : Nat → TD) (gT : ClassId) (G : va_W) (mo : Nat) (moc msT mrV msP mrA mbA mwA mhA mfA mpA mxA myA mmA mqA mzA mwy mfd : Nat) (mer mwr mqs msz mch mft mpt mdp mvd mmk : Int32) (mnw : Int64) (K9 KL cz fd : Nat) (fS : Nat → Option Nat) (k9 : Nat) (sz : Nat) (hTy : TR γ κ Ad τ G) (kmo : Xc Ad mo (.inr (12, (.int mer :: .int (nI fd) :: .int mwr :: .int (nI K9) :: .int (nI KL) :: .ref moc :: .ref msT :: .ref mrV :: .ref msP :: .int mqs :: .ref mrA :: .ref mbA :: .ref mwA :: .ref mhA :: .ref mfA :: .ref mpA :: .ref mxA :: .ref myA :: .ref mmA :: .ref mqA :: .ref mzA :: .ref mwy :: .ref mfd :: .int msz :: .int (nI cz) :: .int mch :: .int mft :: .int mpt :: .int mdp :: .int mvd :: .long mnw :: .int mmk :: []))) G) (kmsT : Xc Ad msT (.inl (gT, 16, .inr (.inr (.inr (.inr fS))))) G) (hx_mo_msT : mo ≠ msT) (hst : STc κ Ad τ K9 fS) (hK9 : K9 ≤ 16) (hk9 : k9 < K9) : Met l y_Model_trust w_Model_trust ({ frames := 2, cells := 0, slots := 0, locals := 44 }) (mu_P [.ref mo, .int (nI k9), .int 0] (dC, dI) sb G [(γ.1, .byte), (γ.2.1, .int), (γ.2.2.1, .long), (γ.2.2.2, .object "java/lang/Object"), (gT, .object "TrustChainModel$Text")] sz) (va_Qi (fun r (G' : va_W) => True ∧ FL Ad [mo] G G' ∧ (∃ t, fS k9 = some t ∧ TR γ κ Ad (tTr τ t 0) G' ∧ r = (τ t).I 42 ∧ Xc Ad mo (.inr (12, (.int 0 :: .int (nI fd) :: .int mwr :: .int (nI K9) :: .int (nI KL) :: .ref moc :: .ref msT :: .ref mrV :: .ref msP :: .int mqs :: .ref mrA :: .ref mbA :: .ref mwA :: .ref mhA :: .ref mfA :: .ref mpA :: .ref mxA :: .ref myA :: .ref mmA :: .ref mqA :: .ref mzA :: .ref mwy :: .ref mfd :: .int msz :: .int (nI cz) :: .int mch :: .int mft :: .int mpt :: .int mdp :: .int mvd :: .long mnw :: .int mmk :: []))) G')) (mu_B (dC, dI) [(γ.1, .byte), (γ.2.1, .int), (γ.2.2.1, .long), (γ.2.2.2, .object "java/lang/Object"), (gT, .object "TrustChainModel$Text")] (va_A G sz) (fun G' : va_W => G')) (va_A G sz)) 0 0 (va_A G sz) := by
  refine Met.ofW (cc := b_Model_trust) (maxL := 4) (ret := (some FieldType.boolean)) (by decide) rfl ?_
  intro p e s m args below meth c s₁ B hml hv
  obtain ⟨rfl, hsz, hB0, hP, hK, hD0, hN, hT0⟩ := hv
  have hx := B.exec
  have hb := B.bytes
  have hr := B.returns
  have hts := atoms_spec (ws := w_Model_trust) B.pre
  have tbin : ∀ w ∈ tb, w ∈ w_Model_trust := fun w h => List.mem_cons_of_mem _ h
  have htb : ∀ w ∈ tb, w.before _ s = true := fun w h => hts w (tbin w h)
  have hown : s.vm.findClass "TrustChainModel" = some m.cls := findClass_of_methodNamed B.named
  have hlocks := B.notSynchronized
  subst hsz
  have hD := hD0.self (sz := s.heap.size)
  generalize hAe : va_A G s.heap.size = A at hD ⊢
  have hA : ∀ q : Nat, s.heap.size ≤ q → A q := fun q h => by rw [← hAe]; exact Or.inr h
  have hAs : ∀ q : Nat, A q → sb.1 ≤ q := fun q h => by
    rw [← hAe] at h
    rcases h with ⟨k, e, h⟩ | h
    · exact hD0.2 k _ h
    · exact Nat.le_trans hB0 h
  have hS : va_S A s.heap s.heap [] := va_S.rf
  have hFR := FL.rf Ad [mo] G
  have hcs : 0 ≤ (headSpec w_Model_trust ({ frames := 2, cells := 0, slots := 0, locals := 44 })).room.cells ∧ 0 ≤ (headSpec w_Model_trust ({ frames := 2, cells := 0, slots := 0, locals := 44 })).room.slots := ⟨Nat.le_refl _, Nat.le_refl _⟩
  have hP : va_P (dC, dI) classes G s.heap := hP
  have hl := lv_entry ([.ref mo, .int (nI k9), .int 0]) (n := 4) (Nat.le_of_ble_eq_true rfl)
  rw [lg_entry_eq]
  generalize (lg_sl ([.ref mo, .int (nI k9), .int 0]) ++ List.replicate (4 - (lg_sl ([.ref mo, .int (nI k9), .int 0])).length) Slot.unset).toArray = ls at hl ⊢
  have hl : lv_has ls 4 [(0, .ref mo), (1, .int (nI k9)), (2, .int 0)] := hl
  obtain ⟨cX_mo, eX_mo⟩ : ∃ z : va_E, z = .inr (12, (.int mer :: .int (nI fd) :: .int mwr :: .int (nI K9) :: .int (nI KL) :: .ref moc :: .ref msT :: .ref mrV :: .ref msP :: .int mqs :: .ref mrA :: .ref mbA :: .ref mwA :: .ref mhA :: .ref mfA :: .ref mpA :: .ref mxA :: .ref myA :: .ref mmA :: .ref mqA :: .ref mzA :: .ref mwy :: .ref mfd :: .int msz :: .int (nI cz) :: .int mch :: .int mft :: .int mpt :: .int mdp :: .int mvd :: .long mnw :: .int mmk :: [])) := ⟨_, rfl⟩
  rw [← eX_mo] at kmo
  refine lv_aload_n hx hb d_Model_trust_0 rfl (lv_at hl 0 rfl) ?_
  refine lv_iconst (v := 0) hx hb d_Model_trust_1 (by decide) ?_
  obtain ⟨i_1, hg_1⟩ := List.getElem?_of_mem kmo.2
  rw [eX_mo] at hg_1
  refine va_put (v := .int 0) (ty := .int) hx hb htb i_Model t_Model t_Model_ok n_Model hown hK hP hD hS i_1 hg_1 rfl 0 (by decide) (htb _ q7_214) (fun _ h9 => h9) rfl (by decide +kernel) rfl rfl (Nat.le_of_ble_eq_true rfl) d_Model_trust_2 (fun H2 locs hP hD2 hS => ?_)
  have hP : va_P (dC, dI) classes (G.set i_1 (mo, .inr (12, (.int 0 :: .int (nI fd) :: .int mwr :: .int (nI K9) :: .int (nI KL) :: .ref moc :: .ref msT :: .ref mrV :: .ref msP :: .int mqs :: .ref mrA :: .ref mbA :: .ref mwA :: .ref mhA :: .ref mfA :: .ref mpA :: .ref mxA :: .ref myA :: .ref mmA :: .ref mqA :: .ref mzA :: .ref mwy :: .ref mfd :: .int msz :: .int (nI cz) :: .int mch :: .int mft :: .int mpt :: .int mdp :: .int mvd :: .long mnw :: .int mmk :: [])))) H2 := hP
  have hD3 : va_D A (G.set i_1 (mo, .inr (12, (.int 0 :: .int (nI fd) :: .int mwr :: .int (nI K9) :: .int (nI KL) :: .ref moc :: .ref msT :: .ref mrV :: .ref msP :: .int mqs :: .ref mrA :: .ref mbA :: .ref mwA :: .ref mhA :: .ref mfA :: .ref mpA :: .ref mxA :: .ref myA :: .ref mmA :: .ref mqA :: .ref mzA :: .ref mwy :: .ref mfd :: .int msz :: .int (nI cz) :: .int mch :: .int mft :: .int mpt :: .int mdp :: .int mvd :: .long mnw :: .int mmk :: [])))) := hD2
  have hTy := TR.setX (c' := .inr (12, (.int 0 :: .int (nI fd) :: .int mwr :: .int (nI K9) :: .int (nI KL) :: .ref moc :: .ref msT :: .ref mrV :: .ref msP :: .int mqs :: .ref mrA :: .ref mbA :: .ref mwA :: .ref mhA :: .ref mfA :: .ref mpA :: .ref mxA :: .ref myA :: .ref mmA :: .ref mqA :: .ref mzA :: .ref mwy :: .ref mfd :: .int msz :: .int (nI cz) :: .int mch :: .int mft :: .int mpt :: .int mdp :: .int mvd :: .long mnw :: .int mmk :: []))) hTy hg_1 kmo.1
  have kmsT := Xc.setX (c' := .inr (12, (.int 0 :: .int (nI fd) :: .int mwr :: .int (nI K9) :: .int (nI KL) :: .ref moc :: .ref msT :: .ref mrV :: .ref msP :: .int mqs :: .ref mrA :: .ref mbA :: .ref mwA :: .ref mhA :: .ref mfA :: .ref mpA :: .ref mxA :: .ref myA :: .ref mmA :: .ref mqA :: .ref mzA :: .ref mwy :: .ref mfd :: .int msz :: .int (nI cz) :: .int mch :: .int mft :: .int mpt :: .int mdp :: .int mvd :: .long mnw :: .int mmk :: []))) kmsT hg_1 (fun e => hx_mo_msT.symm (congrArg Prod.fst e))
  have hFR := hFR.tr (FL.set (Ad := Ad) (X := [mo]) (c' := .inr (12, (.int 0 :: .int (nI fd) :: .int mwr :: .int (nI K9) :: .int (nI KL) :: .ref moc :: .ref msT :: .ref mrV :: .ref msP :: .int mqs :: .ref mrA :: .ref mbA :: .ref mwA :: .ref mhA :: .ref mfA :: .ref mpA :: .ref mxA :: .ref myA :: .ref mmA :: .ref mqA :: .ref mzA :: .ref mwy :: .ref mfd :: .int msz :: .int (nI cz) :: .int mch :: .int mft :: .int mpt :: .int mdp :: .int mvd :: .long mnw :: .int mmk :: []))) hg_1 (by simp))
  have hg_1 := set_here (c' := .inr (12, (.int 0 :: .int (nI fd) :: .int mwr :: .int (nI K9) :: .int (nI KL) :: .ref moc :: .ref msT :: .ref mrV :: .ref msP :: .int mqs :: .ref mrA :: .ref mbA :: .ref mwA :: .ref mhA :: .ref mfA :: .ref mpA :: .ref mxA :: .ref myA :: .ref mmA :: .ref mqA :: .ref mzA :: .ref mwy :: .ref mfd :: .int msz :: .int (nI cz) :: .int mch :: .int mft :: .int mpt :: .int mdp :: .int mvd :: .long mnw :: .int mmk :: []))) hg_1
  have kmo : Xc Ad mo (.inr (12, (.int 0 :: .int (nI fd) :: .int mwr :: .int (nI K9) :: .int (nI KL) :: .ref moc :: .ref msT :: .ref mrV :: .ref msP :: .int mqs :: .ref mrA :: .ref mbA :: .ref mwA :: .ref mhA :: .ref mfA :: .ref mpA :: .ref mxA :: .ref myA :: .ref mmA :: .ref mqA :: .ref mzA :: .ref mwy :: .ref mfd :: .int msz :: .int (nI cz) :: .int mch :: .int mft :: .int mpt :: .int mdp :: .int mvd :: .long mnw :: .int mmk :: []))) (G.set i_1 (mo, .inr (12, (.int 0 :: .int (nI fd) :: .int mwr :: .int (nI K9) :: .int (nI KL) :: .ref moc :: .ref msT :: .ref mrV :: .ref msP :: .int mqs :: .ref mrA :: .ref mbA :: .ref mwA :: .ref mhA :: .ref mfA :: .ref mpA :: .ref mxA :: .ref myA :: .ref mmA :: .ref mqA :: .ref mzA :: .ref mwy :: .ref mfd :: .int msz :: .int (nI cz) :: .int mch :: .int mft :: .int mpt :: .int mdp :: .int mvd :: .long mnw :: .int mmk :: [])))) := ⟨kmo.1, List.mem_of_getElem? hg_1⟩
  have hD := hD3
  clear hD3 hD2
  generalize G.set i_1 (mo, .inr (12, (.int 0 :: .int (nI fd) :: .int mwr :: .int (nI K9) :: .int (nI KL) :: .ref moc :: .ref msT :: .ref mrV :: .ref msP :: .int mqs :: .ref mrA :: .ref mbA :: .ref mwA :: .ref mhA :: .ref mfA :: .ref mpA :: .ref mxA :: .ref myA :: .ref mmA :: .ref mqA :: .ref mzA :: .ref mwy :: .ref mfd :: .int msz :: .int (nI cz) :: .int mch :: .int mft :: .int mpt :: .int mdp :: .int mvd :: .long mnw :: .int mmk :: []))) = G_2 at hP hD hTy hFR kmo kmsT hg_1
  obtain ⟨cX_3, eX_3⟩ : ∃ z : va_E, z = .inr (12, (.int 0 :: .int (nI fd) :: .int mwr :: .int (nI K9) :: .int (nI KL) :: .ref moc :: .ref msT :: .ref mrV :: .ref msP :: .int mqs :: .ref mrA :: .ref mbA :: .ref mwA :: .ref mhA :: .ref mfA :: .ref mpA :: .ref mxA :: .ref myA :: .ref mmA :: .ref mqA :: .ref mzA :: .ref mwy :: .ref mfd :: .int msz :: .int (nI cz) :: .int mch :: .int mft :: .int mpt :: .int mdp :: .int mvd :: .long mnw :: .int mmk :: [])) := ⟨_, rfl⟩
  rw [← eX_3] at kmo
  refine lv_aload_n hx hb d_Model_trust_5 rfl (lv_at hl 0 rfl) ?_
  refine lv_iload_n hx hb d_Model_trust_6 rfl (lv_at hl 1 rfl) ?_
  refine lv_iconst (v := 1) hx hb d_Model_trust_7 (by decide) ?_
  have hFc := va_free (wc := G_2) hD hS hA (List.range G_2.length) (rg_is _)
  refine va_calli (mu_runV (As := [.int (nI k9), .int 1]) (rest := []) ⟨hx, hb, hml, hown, hts⟩ tbin (m_Model_noc_0 l dC dI sb γ κ Ad τ gT G_2 mo _ _ _ _ _ _ _ _ _ _ _ _ _ _ _ _ _ _ _ _ _ _ _ _ _ _ _ _ _ _ _ _ _ H2.size hTy (by have h9 := kmo; rw [eX_3] at h9; exact h9) hk9 hK9) q9_64 q9_66 qp_39 q1_9 q9_67 (n := 2) (by decide +kernel) rfl ⟨rfl, rfl⟩ ⟨Nat.le_of_ble_eq_true rfl, Nat.le_of_ble_eq_true rfl⟩ ⟨Nat.le_of_ble_eq_true rfl, Nat.le_of_ble_eq_true rfl⟩ hN (hT0.keep hS hAs) hAs (Nat.le_trans hB0 hS.1) hK hP hD (List.range G_2.length) (rg_nd _) (rg_is _) [0, 1, 2, 3, 4] rfl i_1 12 hg_1 rfl rfl hl.1 rfl (Nat.le_of_ble_eq_true rfl) d_Model_trust_8) hS (fun q _ h => hFc q h) hFc (fun r8 G_4 tS H8 locs ht hvm hw8 hB hz1 hk1 hS => ?_)
  obtain ⟨hTy, hF9, hr8⟩ := hw8
  have kmo := kmo.fl hF9 (q_nmn)
  have kmsT := kmsT.fl hF9 (q_nmn)
  have hFR := hFR.tr (hF9.up (q_gan))
  obtain ⟨hP1, hK1, hD1⟩ := hB
  rw [ht] at hP1
  have hP : va_P (dC, dI) classes G_4 H8 := hP1
  have hD : va_D A G_4 := hD1.weaken (fun _ _ _ h => hFc _ h)
  subst hr8
  refine lv_if_eq (tgt := 16) hx hb d_Model_trust_11 (by decide) (fun c11 => ?_) (fun c11 => ?_)
  rotate_left
  · exact absurd c11 (by decide)
  refine lv_aload_n hx hb d_Model_trust_16 rfl (lv_at hl 0 rfl) ?_
  obtain ⟨i_5, hg_5⟩ := List.getElem?_of_mem kmo.2
  rw [eX_3] at hg_5
  refine va_get (v := .ref msT) hx hb htb i_Model hown hK hP i_5 hg_5 rfl 6 (by decide) (htb _ q7_220) (fun _ h9 => h9) rfl d_Model_trust_17 ?_
  refine lv_iload_n hx hb d_Model_trust_20 rfl (lv_at hl 1 rfl) ?_
  obtain ⟨i_6, hg_6⟩ := List.getElem?_of_mem kmsT.2
  have h21 : vp_in (nI k9) 16 := vp_in_nI (by omega) (by omega)
  refine va_aldq hx hb hK hP i_6 4 hg_6 rfl h21 d_Model_trust_21 ?_
  obtain ⟨t21, ft21, kt21, hc_t21⟩ := hst k9 (by omega)
  rw [show va_rf (fS (nI k9).toNatClampNeg) = .ref t21 from by rw [nI_clamp (by omega), ft21]; rfl]
  have b1_t21 := hc_t21.b1
  have b2_t21 := hc_t21.b2
  have b3_t21 := hc_t21.b3
  have b4_t21 := hc_t21.b4
  have b5_t21 := hc_t21.b5
  have b6_t21 := hc_t21.b6
  have b8_t21 := hc_t21.b8
  have b9_t21 := hc_t21.b9
  obtain ⟨i_7, kA_7, hg_7⟩ := tr_20 hTy kt21
  refine va_get (v := .int ((τ t21).I 42)) hx hb htb i_Text hown hK hP i_7 hg_7 rfl 42 (by decide) (htb _ q7_12) (fun _ h9 => h9) rfl d_Model_trust_22 ?_
  refine lv_topi (fun v25 ev25 => ?_)
  refine lv_istore_n (lv' := [(3, .int v25), (0, .ref mo), (1, .int (nI k9)), (2, .int 0)]) hx hb d_Model_trust_25 rfl hl (by decide) rfl (fun ls hl => ?_)
  refine lv_aload_n hx hb d_Model_trust_26 rfl (lv_at hl 1 rfl) ?_
  refine va_get (v := .ref msT) hx hb htb i_Model hown hK hP i_5 hg_5 rfl 6 (by decide) (htb _ q7_220) (fun _ h9 => h9) rfl d_Model_trust_27 ?_
  refine lv_iload_n hx hb d_Model_trust_30 rfl (lv_at hl 2 rfl) ?_
  have h31 : vp_in (nI k9) 16 := vp_in_nI (by omega) (by omega)
  refine va_aldq hx hb hK hP i_6 4 hg_6 rfl h31 d_Model_trust_31 ?_
  obtain ⟨t31, ft31, kt31, hc_t31⟩ := hst k9 (by omega)
  rw [show va_rf (fS (nI k9).toNatClampNeg) = .ref t31 from by rw [nI_clamp (by omega), ft31]; rfl]
  have b1_t31 := hc_t31.b1
  have b2_t31 := hc_t31.b2
  have b3_t31 := hc_t31.b3
  have b4_t31 := hc_t31.b4
  have b5_t31 := hc_t31.b5
  have b6_t31 := hc_t31.b6
  have b8_t31 := hc_t31.b8
  have b9_t31 := hc_t31.b9
  refine lv_iload_n hx hb d_Model_trust_32 rfl (lv_at hl 3 rfl) ?_
  obtain ⟨i_8, kA_8, hg_8⟩ := tr_20 hTy kt31
  refine va_put (v := .int 0) (ty := .boolean) hx hb htb i_Text t_Text t_Text_ok n_Text hown hK hP hD hS i_8 hg_8 rfl 42 (by decide) (htb _ q7_12) (fun _ h9 => h9) rfl (by decide +kernel) rfl rfl (Nat.le_of_ble_eq_true rfl) d_Model_trust_33 (fun H33 locs hP hD2 hS => ?_)
  have hP : va_P (dC, dI) classes (G_4.set i_8 (t31, tcell (tUp (τ t31) 0))) H33 := hP
  have hD3 : va_D A (G_4.set i_8 (t31, tcell (tUp (τ t31) 0))) := hD2
  have hTT : TR γ κ Ad (tTr τ t31 0) (G_4.set i_8 (t31, tcell (tUp (τ t31) 0))) := TR.setT hTy hD hg_8 kt31
  have hF1 := FR.set (c' := tcell (tUp (τ t31) 0)) hg_8 kt31.1
  have kmo := kmo.fr hF1
  have kmsT := kmsT.fr hF1
  have hFR := hFR.tr hF1.l
  clear hF1
  have hD := hD3
  clear hD3 hD2 hTy
  generalize G_4.set i_8 (t31, tcell (tUp (τ t31) 0)) = G_9 at hP hD hTT hFR kmo kmsT
  refine lv_iload_n hx hb d_Model_trust_36 rfl (lv_at hl 0 rfl) ?_
  have e31 : t31 = t21 := Option.some.inj (ft31.symm.trans ft21)
  exact W.zret (v := v25) hx hb hr (b01_n (by rw [ev25]; exact hc_t21.c2)) (fun t ht hW => ⟨⟨_, G_9, rfl, ⟨trivial, hFR, ⟨t31, ft31, hTT, by rw [e31]; exact ev25, (by rw [eX_3] at kmo; exact kmo)⟩⟩, by rw [ht]; exact hP, va_K.moved hW.alike hK, hD⟩, hS.F ht⟩) hS.2.2 d_Model_trust_37
set_option maxHeartbeats 4000000 in
set_option maxRecDepth 100000 in
theorem m_Model_trust_ok1 (l : Launch) (dC : Nat → ClassId) (dI : Nat → Nat → Nat) (sb : sB) (γ : cG) (κ : kE) (Ad : List Nat) (τ : Nat → TD) (gT : ClassId) (G : va_W) (mo : Nat) (moc msT mrV msP mrA mbA mwA mhA mfA mpA mxA myA mmA mqA mzA mwy mfd : Nat) (mer mwr mqs msz mch mft mpt mdp mvd mmk : Int32) (mnw : Int64) (K9 KL cz fd : Nat) (fS : Nat → Option Nat) (k9 : Nat) (sz : Nat) (hTy : TR γ κ Ad τ G) (kmo : Xc Ad mo (.inr (12, (.int mer :: .int (nI fd) :: .int mwr :: .int (nI K9) :: .int (nI KL) :: .ref moc :: .ref msT :: .ref mrV :: .ref msP :: .int mqs :: .ref mrA :: .ref mbA :: .ref mwA :: .ref mhA :: .ref mfA :: .ref mpA :: .ref mxA :: .ref myA :: .ref mmA :: .ref mqA :: .ref mzA :: .ref mwy :: .ref mfd :: .int msz :: .int (nI cz) :: .int mch :: .int mft :: .int mpt :: .int mdp :: .int mvd :: .long mnw :: .int mmk :: []))) G) (kmsT : Xc Ad msT (.inl (gT, 16, .inr (.inr (.inr (.inr fS))))) G) (hx_mo_msT : mo ≠ msT) (hst : STc κ Ad τ K9 fS) (hK9 : K9 ≤ 16) (hk9 : k9 < K9) : Met l y_Model_trust w_Model_trust ({ frames := 2, cells := 0, slots := 0, locals := 44 }) (mu_P [.ref mo, .int (nI k9), .int 1] (dC, dI) sb G [(γ.1, .byte), (γ.2.1, .int), (γ.2.2.1, .long), (γ.2.2.2, .object "java/lang/Object"), (gT, .object "TrustChainModel$Text")] sz) (va_Qi (fun r (G' : va_W) => True ∧ FL Ad [mo] G G' ∧ (∃ t, fS k9 = some t ∧ TR γ κ Ad (tTr τ t 1) G' ∧ r = (τ t).I 42 ∧ Xc Ad mo (.inr (12, (.int 0 :: .int (nI fd) :: .int mwr :: .int (nI K9) :: .int (nI KL) :: .ref moc :: .ref msT :: .ref mrV :: .ref msP :: .int mqs :: .ref mrA :: .ref mbA :: .ref mwA :: .ref mhA :: .ref mfA :: .ref mpA :: .ref mxA :: .ref myA :: .ref mmA :: .ref mqA :: .ref mzA :: .ref mwy :: .ref mfd :: .int msz :: .int (nI cz) :: .int mch :: .int mft :: .int mpt :: .int mdp :: .int mvd :: .long mnw :: .int mmk :: []))) G')) (mu_B (dC, dI) [(γ.1, .byte), (γ.2.1, .int), (γ.2.2.1, .long), (γ.2.2.2, .object "java/lang/Object"), (gT, .object "TrustChainModel$Text")] (va_A G sz) (fun G' : va_W => G')) (va_A G sz)) 0 0 (va_A G sz) := by
  refine Met.ofW (cc := b_Model_trust) (maxL := 4) (ret := (some FieldType.boolean)) (by decide) rfl ?_
  intro p e s m args below meth c s₁ B hml hv
  obtain ⟨rfl, hsz, hB0, hP, hK, hD0, hN, hT0⟩ := hv
  have hx := B.exec
  have hb := B.bytes
  have hr := B.returns
  have hts := atoms_spec (ws := w_Model_trust) B.pre
  have tbin : ∀ w ∈ tb, w ∈ w_Model_trust := fun w h => List.mem_cons_of_mem _ h
  have htb : ∀ w ∈ tb, w.before _ s = true := fun w h => hts w (tbin w h)
  have hown : s.vm.findClass "TrustChainModel" = some m.cls := findClass_of_methodNamed B.named
  have hlocks := B.notSynchronized
  subst hsz
  have hD := hD0.self (sz := s.heap.size)
  generalize hAe : va_A G s.heap.size = A at hD ⊢
  have hA : ∀ q : Nat, s.heap.size ≤ q → A q := fun q h => by rw [← hAe]; exact Or.inr h
  have hAs : ∀ q : Nat, A q → sb.1 ≤ q := fun q h => by
    rw [← hAe] at h
    rcases h with ⟨k, e, h⟩ | h
    · exact hD0.2 k _ h
    · exact Nat.le_trans hB0 h
  have hS : va_S A s.heap s.heap [] := va_S.rf
  have hFR := FL.rf Ad [mo] G
  have hcs : 0 ≤ (headSpec w_Model_trust ({ frames := 2, cells := 0, slots := 0, locals := 44 })).room.cells ∧ 0 ≤ (headSpec w_Model_trust ({ frames := 2, cells := 0, slots := 0, locals := 44 })).room.slots := ⟨Nat.le_refl _, Nat.le_refl _⟩
  have hP : va_P (dC, dI) classes G s.heap := hP
  have hl := lv_entry ([.ref mo, .int (nI k9), .int 1]) (n := 4) (Nat.le_of_ble_eq_true rfl)
  rw [lg_entry_eq]
  generalize (lg_sl ([.ref mo, .int (nI k9), .int 1]) ++ List.replicate (4 - (lg_sl ([.ref mo, .int (nI k9), .int 1])).length) Slot.unset).toArray = ls at hl ⊢
  have hl : lv_has ls 4 [(0, .ref mo), (1, .int (nI k9)), (2, .int 1)] := hl
  obtain ⟨cX_mo, eX_mo⟩ : ∃ z : va_E, z = .inr (12, (.int mer :: .int (nI fd) :: .int mwr :: .int (nI K9) :: .int (nI KL) :: .ref moc :: .ref msT :: .ref mrV :: .ref msP :: .int mqs :: .ref mrA :: .ref mbA :: .ref mwA :: .ref mhA :: .ref mfA :: .ref mpA :: .ref mxA :: .ref myA :: .ref mmA :: .ref mqA :: .ref mzA :: .ref mwy :: .ref mfd :: .int msz :: .int (nI cz) :: .int mch :: .int mft :: .int mpt :: .int mdp :: .int mvd :: .long mnw :: .int mmk :: [])) := ⟨_, rfl⟩
  rw [← eX_mo] at kmo
  refine lv_aload_n hx hb d_Model_trust_0 rfl (lv_at hl 0 rfl) ?_
  refine lv_iconst (v := 0) hx hb d_Model_trust_1 (by decide) ?_
  obtain ⟨i_1, hg_1⟩ := List.getElem?_of_mem kmo.2
  rw [eX_mo] at hg_1
  refine va_put (v := .int 0) (ty := .int) hx hb htb i_Model t_Model t_Model_ok n_Model hown hK hP hD hS i_1 hg_1 rfl 0 (by decide) (htb _ q7_214) (fun _ h9 => h9) rfl (by decide +kernel) rfl rfl (Nat.le_of_ble_eq_true rfl) d_Model_trust_2 (fun H2 locs hP hD2 hS => ?_)
  have hP : va_P (dC, dI) classes (G.set i_1 (mo, .inr (12, (.int 0 :: .int (nI fd) :: .int mwr :: .int (nI K9) :: .int (nI KL) :: .ref moc :: .ref msT :: .ref mrV :: .ref msP :: .int mqs :: .ref mrA :: .ref mbA :: .ref mwA :: .ref mhA :: .ref mfA :: .ref mpA :: .ref mxA :: .ref myA :: .ref mmA :: .ref mqA :: .ref mzA :: .ref mwy :: .ref mfd :: .int msz :: .int (nI cz) :: .int mch :: .int mft :: .int mpt :: .int mdp :: .int mvd :: .long mnw :: .int mmk :: [])))) H2 := hP
  have hD3 : va_D A (G.set i_1 (mo, .inr (12, (.int 0 :: .int (nI fd) :: .int mwr :: .int (nI K9) :: .int (nI KL) :: .ref moc :: .ref msT :: .ref mrV :: .ref msP :: .int mqs :: .ref mrA :: .ref mbA :: .ref mwA :: .ref mhA :: .ref mfA :: .ref mpA :: .ref mxA :: .ref myA :: .ref mmA :: .ref mqA :: .ref mzA :: .ref mwy :: .ref mfd :: .int msz :: .int (nI cz) :: .int mch :: .int mft :: .int mpt :: .int mdp :: .int mvd :: .long mnw :: .int mmk :: [])))) := hD2
  have hTy := TR.setX (c' := .inr (12, (.int 0 :: .int (nI fd) :: .int mwr :: .int (nI K9) :: .int (nI KL) :: .ref moc :: .ref msT :: .ref mrV :: .ref msP :: .int mqs :: .ref mrA :: .ref mbA :: .ref mwA :: .ref mhA :: .ref mfA :: .ref mpA :: .ref mxA :: .ref myA :: .ref mmA :: .ref mqA :: .ref mzA :: .ref mwy :: .ref mfd :: .int msz :: .int (nI cz) :: .int mch :: .int mft :: .int mpt :: .int mdp :: .int mvd :: .long mnw :: .int mmk :: []))) hTy hg_1 kmo.1
  have kmsT := Xc.setX (c' := .inr (12, (.int 0 :: .int (nI fd) :: .int mwr :: .int (nI K9) :: .int (nI KL) :: .ref moc :: .ref msT :: .ref mrV :: .ref msP :: .int mqs :: .ref mrA :: .ref mbA :: .ref mwA :: .ref mhA :: .ref mfA :: .ref mpA :: .ref mxA :: .ref myA :: .ref mmA :: .ref mqA :: .ref mzA :: .ref mwy :: .ref mfd :: .int msz :: .int (nI cz) :: .int mch :: .int mft :: .int mpt :: .int mdp :: .int mvd :: .long mnw :: .int mmk :: []))) kmsT hg_1 (fun e => hx_mo_msT.symm (congrArg Prod.fst e))
  have hFR := hFR.tr (FL.set (Ad := Ad) (X := [mo]) (c' := .inr (12, (.int 0 :: .int (nI fd) :: .int mwr :: .int (nI K9) :: .int (nI KL) :: .ref moc :: .ref msT :: .ref mrV :: .ref msP :: .int mqs :: .ref mrA :: .ref mbA :: .ref mwA :: .ref mhA :: .ref mfA :: .ref mpA :: .ref mxA :: .ref myA :: .ref mmA :: .ref mqA :: .ref mzA :: .ref mwy :: .ref mfd :: .int msz :: .int (nI cz) :: .int mch :: .int mft :: .int mpt :: .int mdp :: .int mvd :: .long mnw :: .int mmk :: []))) hg_1 (by simp))
  have hg_1 := set_here (c' := .inr (12, (.int 0 :: .int (nI fd) :: .int mwr :: .int (nI K9) :: .int (nI KL) :: .ref moc :: .ref msT :: .ref mrV :: .ref msP :: .int mqs :: .ref mrA :: .ref mbA :: .ref mwA :: .ref mhA :: .ref mfA :: .ref mpA :: .ref mxA :: .ref myA :: .ref mmA :: .ref mqA :: .ref mzA :: .ref mwy :: .ref mfd :: .int msz :: .int (nI cz) :: .int mch :: .int mft :: .int mpt :: .int mdp :: .int mvd :: .long mnw :: .int mmk :: []))) hg_1
  have kmo : Xc Ad mo (.inr (12, (.int 0 :: .int (nI fd) :: .int mwr :: .int (nI K9) :: .int (nI KL) :: .ref moc :: .ref msT :: .ref mrV :: .ref msP :: .int mqs :: .ref mrA :: .ref mbA :: .ref mwA :: .ref mhA :: .ref mfA :: .ref mpA :: .ref mxA :: .ref myA :: .ref mmA :: .ref mqA :: .ref mzA :: .ref mwy :: .ref mfd :: .int msz :: .int (nI cz) :: .int mch :: .int mft :: .int mpt :: .int mdp :: .int mvd :: .long mnw :: .int mmk :: []))) (G.set i_1 (mo, .inr (12, (.int 0 :: .int (nI fd) :: .int mwr :: .int (nI K9) :: .int (nI KL) :: .ref moc :: .ref msT :: .ref mrV :: .ref msP :: .int mqs :: .ref mrA :: .ref mbA :: .ref mwA :: .ref mhA :: .ref mfA :: .ref mpA :: .ref mxA :: .ref myA :: .ref mmA :: .ref mqA :: .ref mzA :: .ref mwy :: .ref mfd :: .int msz :: .int (nI cz) :: .int mch :: .int mft :: .int mpt :: .int mdp :: .int mvd :: .long mnw :: .int mmk :: [])))) := ⟨kmo.1, List.mem_of_getElem? hg_1⟩
  have hD := hD3
  clear hD3 hD2
  generalize G.set i_1 (mo, .inr (12, (.int 0 :: .int (nI fd) :: .int mwr :: .int (nI K9) :: .int (nI KL) :: .ref moc :: .ref msT :: .ref mrV :: .ref msP :: .int mqs :: .ref mrA :: .ref mbA :: .ref mwA :: .ref mhA :: .ref mfA :: .ref mpA :: .ref mxA :: .ref myA :: .ref mmA :: .ref mqA :: .ref mzA :: .ref mwy :: .ref mfd :: .int msz :: .int (nI cz) :: .int mch :: .int mft :: .int mpt :: .int mdp :: .int mvd :: .long mnw :: .int mmk :: []))) = G_2 at hP hD hTy hFR kmo kmsT hg_1
  obtain ⟨cX_3, eX_3⟩ : ∃ z : va_E, z = .inr (12, (.int 0 :: .int (nI fd) :: .int mwr :: .int (nI K9) :: .int (nI KL) :: .ref moc :: .ref msT :: .ref mrV :: .ref msP :: .int mqs :: .ref mrA :: .ref mbA :: .ref mwA :: .ref mhA :: .ref mfA :: .ref mpA :: .ref mxA :: .ref myA :: .ref mmA :: .ref mqA :: .ref mzA :: .ref mwy :: .ref mfd :: .int msz :: .int (nI cz) :: .int mch :: .int mft :: .int mpt :: .int mdp :: .int mvd :: .long mnw :: .int mmk :: [])) := ⟨_, rfl⟩
  rw [← eX_3] at kmo
  refine lv_aload_n hx hb d_Model_trust_5 rfl (lv_at hl 0 rfl) ?_
  refine lv_iload_n hx hb d_Model_trust_6 rfl (lv_at hl 1 rfl) ?_
  refine lv_iconst (v := 1) hx hb d_Model_trust_7 (by decide) ?_
  have hFc := va_free (wc := G_2) hD hS hA (List.range G_2.length) (rg_is _)
  refine va_calli (mu_runV (As := [.int (nI k9), .int 1]) (rest := []) ⟨hx, hb, hml, hown, hts⟩ tbin (m_Model_noc_0 l dC dI sb γ κ Ad τ gT G_2 mo _ _ _ _ _ _ _ _ _ _ _ _ _ _ _ _ _ _ _ _ _ _ _ _ _ _ _ _ _ _ _ _ _ H2.size hTy (by have h9 := kmo; rw [eX_3] at h9; exact h9) hk9 hK9) q9_64 q9_66 qp_39 q1_9 q9_67 (n := 2) (by decide +kernel) rfl ⟨rfl, rfl⟩ ⟨Nat.le_of_ble_eq_true rfl, Nat.le_of_ble_eq_true rfl⟩ ⟨Nat.le_of_ble_eq_true rfl, Nat.le_of_ble_eq_true rfl⟩ hN (hT0.keep hS hAs) hAs (Nat.le_trans hB0 hS.1) hK hP hD (List.range G_2.length) (rg_nd _) (rg_is _) [0, 1, 2, 3, 4] rfl i_1 12 hg_1 rfl rfl hl.1 rfl (Nat.le_of_ble_eq_true rfl) d_Model_trust_8) hS (fun q _ h => hFc q h) hFc (fun r8 G_4 tS H8 locs ht hvm hw8 hB hz1 hk1 hS => ?_)
  obtain ⟨hTy, hF9, hr8⟩ := hw8
  have kmo := kmo.fl hF9 (q_nmn)
  have kmsT := kmsT.fl hF9 (q_nmn)
  have hFR := hFR.tr (hF9.up (q_gan))
  obtain ⟨hP1, hK1, hD1⟩ := hB
  rw [ht] at hP1
  have hP : va_P (dC, dI) classes G_4 H8 := hP1
  have hD : va_D A G_4 := hD1.weaken (fun _ _ _ h => hFc _ h)
  subst hr8
  refine lv_if_eq (tgt := 16) hx hb d_Model_trust_11 (by decide) (fun c11 => ?_) (fun c11 => ?_)
  rotate_left
  · exact absurd c11 (by decide)
  refine lv_aload_n hx hb d_Model_trust_16 rfl (lv_at hl 0 rfl) ?_
  obtain ⟨i_5, hg_5⟩ := List.getElem?_of_mem kmo.2
  rw [eX_3] at hg_5
  refine va_get (v := .ref msT) hx hb htb i_Model hown hK hP i_5 hg_5 rfl 6 (by decide) (htb _ q7_220) (fun _ h9 => h9) rfl d_Model_trust_17 ?_
  refine lv_iload_n hx hb d_Model_trust_20 rfl (lv_at hl 1 rfl) ?_
  obtain ⟨i_6, hg_6⟩ := List.getElem?_of_mem kmsT.2
  have h21 : vp_in (nI k9) 16 := vp_in_nI (by omega) (by omega)
  refine va_aldq hx hb hK hP i_6 4 hg_6 rfl h21 d_Model_trust_21 ?_
  obtain ⟨t21, ft21, kt21, hc_t21⟩ := hst k9 (by omega)
  rw [show va_rf (fS (nI k9).toNatClampNeg) = .ref t21 from by rw [nI_clamp (by omega), ft21]; rfl]
  have b1_t21 := hc_t21.b1
  have b2_t21 := hc_t21.b2
  have b3_t21 := hc_t21.b3
  have b4_t21 := hc_t21.b4
  have b5_t21 := hc_t21.b5
  have b6_t21 := hc_t21.b6
  have b8_t21 := hc_t21.b8
  have b9_t21 := hc_t21.b9
  obtain ⟨i_7, kA_7, hg_7⟩ := tr_20 hTy kt21
  refine va_get (v := .int ((τ t21).I 42)) hx hb htb i_Text hown hK hP i_7 hg_7 rfl 42 (by decide) (htb _ q7_12) (fun _ h9 => h9) rfl d_Model_trust_22 ?_
  refine lv_topi (fun v25 ev25 => ?_)
  refine lv_istore_n (lv' := [(3, .int v25), (0, .ref mo), (1, .int (nI k9)), (2, .int 1)]) hx hb d_Model_trust_25 rfl hl (by decide) rfl (fun ls hl => ?_)
  refine lv_aload_n hx hb d_Model_trust_26 rfl (lv_at hl 1 rfl) ?_
  refine va_get (v := .ref msT) hx hb htb i_Model hown hK hP i_5 hg_5 rfl 6 (by decide) (htb _ q7_220) (fun _ h9 => h9) rfl d_Model_trust_27 ?_
  refine lv_iload_n hx hb d_Model_trust_30 rfl (lv_at hl 2 rfl) ?_
  have h31 : vp_in (nI k9) 16 := vp_in_nI (by omega) (by omega)
  refine va_aldq hx hb hK hP i_6 4 hg_6 rfl h31 d_Model_trust_31 ?_
  obtain ⟨t31, ft31, kt31, hc_t31⟩ := hst k9 (by omega)
  rw [show va_rf (fS (nI k9).toNatClampNeg) = .ref t31 from by rw [nI_clamp (by omega), ft31]; rfl]
  have b1_t31 := hc_t31.b1
  have b2_t31 := hc_t31.b2
  have b3_t31 := hc_t31.b3
  have b4_t31 := hc_t31.b4
  have b5_t31 := hc_t31.b5
  have b6_t31 := hc_t31.b6
  have b8_t31 := hc_t31.b8
  have b9_t31 := hc_t31.b9
  refine lv_iload_n hx hb d_Model_trust_32 rfl (lv_at hl 3 rfl) ?_
  obtain ⟨i_8, kA_8, hg_8⟩ := tr_20 hTy kt31
  refine va_put (v := .int 1) (ty := .boolean) hx hb htb i_Text t_Text t_Text_ok n_Text hown hK hP hD hS i_8 hg_8 rfl 42 (by decide) (htb _ q7_12) (fun _ h9 => h9) rfl (by decide +kernel) rfl rfl (Nat.le_of_ble_eq_true rfl) d_Model_trust_33 (fun H33 locs hP hD2 hS => ?_)
  have hP : va_P (dC, dI) classes (G_4.set i_8 (t31, tcell (tUp (τ t31) 1))) H33 := hP
  have hD3 : va_D A (G_4.set i_8 (t31, tcell (tUp (τ t31) 1))) := hD2
  have hTT : TR γ κ Ad (tTr τ t31 1) (G_4.set i_8 (t31, tcell (tUp (τ t31) 1))) := TR.setT hTy hD hg_8 kt31
  have hF1 := FR.set (c' := tcell (tUp (τ t31) 1)) hg_8 kt31.1
  have kmo := kmo.fr hF1
  have kmsT := kmsT.fr hF1
  have hFR := hFR.tr hF1.l
  clear hF1
  have hD := hD3
  clear hD3 hD2 hTy
  generalize G_4.set i_8 (t31, tcell (tUp (τ t31) 1)) = G_9 at hP hD hTT hFR kmo kmsT
  refine lv_iload_n hx hb d_Model_trust_36 rfl (lv_at hl 0 rfl) ?_
  have e31 : t31 = t21 := Option.some.inj (ft31.symm.trans ft21)
  exact W.zret (v := v25) hx hb hr (b01_n (by rw [ev25]; exact hc_t21.c2)) (fun t ht hW => ⟨⟨_, G_9, rfl, ⟨trivial, hFR, ⟨t31, ft31, hTT, by rw [e31]; exact ev25, (by rw [eX_3] at kmo; exact kmo)⟩⟩, by rw [ht]; exact hP, va_K.moved hW.alike hK, hD⟩, hS.F ht⟩) hS.2.2 d_Model_trust_37
set_option maxHeartbeats 4000000 in
set_option maxRecDepth 100000 in
theorem m_Model_signed_0 (l : Launch) (dC : Nat → ClassId) (dI : Nat → Nat → Nat) (sb : sB) (γ : cG) (κ : kE) (Ad : List Nat) (τ : Nat → TD) (gT : ClassId) (G : va_W) (mo : Nat) (moc msT mrV msP mrA mbA mwA mhA mfA mpA mxA myA mmA mqA mzA mwy mfd : Nat) (mer mwr mqs msz mch mft mpt mdp mvd mmk : Int32) (mnw : Int64) (K9 KL cz fd : Nat) (ci bi : Int32) (fm fr : Nat → Int32) (fS fV : Nat → Option Nat) (sz : Nat) (hTy : TR γ κ Ad τ G) (kmo : Xc Ad mo (.inr (12, (.int mer :: .int (nI fd) :: .int mwr :: .int (nI K9) :: .int (nI KL) :: .ref moc :: .ref msT :: .ref mrV :: .ref msP :: .int mqs :: .ref mrA :: .ref mbA :: .ref mwA :: .ref mhA :: .ref mfA :: .ref mpA :: .ref mxA :: .ref myA :: .ref mmA :: .ref mqA :: .ref mzA :: .ref mwy :: .ref mfd :: .int msz :: .int (nI cz) :: .int mch :: .int mft :: .int mpt :: .int mdp :: .int mvd :: .long mnw :: .int mmk :: []))) G) (kmmA : Xc Ad mmA (.inl (γ.2.1, 600, .inl fm)) G) (kmrA : Xc Ad mrA (.inl (γ.2.1, 600, .inl fr)) G) (kmsT : Xc Ad msT (.inl (gT, 16, .inr (.inr (.inr (.inr fS))))) G) (kmrV : Xc Ad mrV (.inl (gT, 8, .inr (.inr (.inr (.inr fV))))) G) (kmzA : tK κ Ad mzA (6, 600, 6)) (kmqA : tK κ Ad mqA (6, 600, 4)) (kmyA : tK κ Ad myA (6, 600, 5)) (kmxA : tK κ Ad mxA (6, 600, 3)) (kmbA : tK κ Ad mbA (6, 2176, 0)) (kmwA : tK κ Ad mwA (6, 64, 0)) (kmhA : tK κ Ad mhA (6, 8, 0)) (kmpA : tK κ Ad mpA (6, 64, 2)) (kmfA : tK κ Ad mfA (6, 8, 1)) (hx_mo_mmA : mo ≠ mmA) (hx_mo_mrA : mo ≠ mrA) (hx_mo_msT : mo ≠ msT) (hx_mo_mrV : mo ≠ mrV) (hx_mmA_mrA : mmA ≠ mrA) (hx_mmA_msT : mmA ≠ msT) (hx_mmA_mrV : mmA ≠ mrV) (hx_mrA_msT : mrA ≠ msT) (hx_mrA_mrV : mrA ≠ mrV) (hx_msT_mrV : msT ≠ mrV) (hst : STc κ Ad τ K9 fS) (hrv : STl κ Ad τ KL fV) (hK9 : K9 ≤ 16) (hKL : KL ≤ 8) (hfm : bR fm) (hfr : bR fr) : Met l y_Model_signed w_Model_signed ({ frames := 6, cells := 0, slots := 0, locals := 139 }) (mu_P [.ref mo, .int 0, .int ci, .int bi] (dC, dI) sb G [(γ.1, .byte), (γ.2.1, .int), (γ.2.2.1, .long), (γ.2.2.2, .object "java/lang/Object"), (gT, .object "TrustChainModel$Text")] sz) (va_Qi (fun r (G' : va_W) => TR γ κ Ad τ G' ∧ FL Ad [mo, mmA, mrA] G G' ∧ (((∃ (k k2 t t2 : Nat) (q9 : Int32), k < K9 ∧ ci = nI k ∧ k2 < K9 ∧ bi = nI k2 ∧ fS k = some t ∧ fS k2 = some t2 ∧ bz r (sgT (τ t) (τ t2)) ∧ Xc Ad mo (.inr (12, (.int 0 :: .int (nI fd) :: .int mwr :: .int (nI K9) :: .int (nI KL) :: .ref moc :: .ref msT :: .ref mrV :: .ref msP :: .int q9 :: .ref mrA :: .ref mbA :: .ref mwA :: .ref mhA :: .ref mfA :: .ref mpA :: .ref mxA :: .ref myA :: .ref mmA :: .ref mqA :: .ref mzA :: .ref mwy :: .ref mfd :: .int msz :: .int (nI cz) :: .int mch :: .int mft :: .int mpt :: .int mdp :: .int mvd :: .long mnw :: .int mmk :: []))) G') ∨ (¬ ((¬ ci < 0 ∧ ci < nI K9) ∧ (¬ bi < 0 ∧ bi < nI K9)) ∧ Xc Ad mo (.inr (12, (.int 1 :: .int (nI fd) :: .int mwr :: .int (nI K9) :: .int (nI KL) :: .ref moc :: .ref msT :: .ref mrV :: .ref msP :: .int mqs :: .ref mrA :: .ref mbA :: .ref mwA :: .ref mhA :: .ref mfA :: .ref mpA :: .ref mxA :: .ref myA :: .ref mmA :: .ref mqA :: .ref mzA :: .ref mwy :: .ref mfd :: .int msz :: .int (nI cz) :: .int mch :: .int mft :: .int mpt :: .int mdp :: .int mvd :: .long mnw :: .int mmk :: []))) G')) ∧ (∃ f9 : Nat → Int32, bR f9 ∧ Xc Ad mmA (.inl (γ.2.1, 600, .inl f9)) G') ∧ (∃ f9 : Nat → Int32, bR f9 ∧ Xc Ad mrA (.inl (γ.2.1, 600, .inl f9)) G'))) (mu_B (dC, dI) [(γ.1, .byte), (γ.2.1, .int), (γ.2.2.1, .long), (γ.2.2.2, .object "java/lang/Object"), (gT, .object "TrustChainModel$Text")] (va_A G sz) (fun G' : va_W => G')) (va_A G sz)) 0 0 (va_A G sz) := by
  refine Met.ofW (cc := b_Model_signed) (maxL := 4) (ret := (some FieldType.boolean)) (by decide) rfl ?_
  intro p e s m args below meth c s₁ B hml hv
  obtain ⟨rfl, hsz, hB0, hP, hK, hD0, hN, hT0⟩ := hv
  have hx := B.exec
  have hb := B.bytes
  have hr := B.returns
  have hts := atoms_spec (ws := w_Model_signed) B.pre
  have tbin : ∀ w ∈ tb, w ∈ w_Model_signed := fun w h => List.mem_cons_of_mem _ h
  have htb : ∀ w ∈ tb, w.before _ s = true := fun w h => hts w (tbin w h)
  have hown : s.vm.findClass "TrustChainModel" = some m.cls := findClass_of_methodNamed B.named
  have hlocks := B.notSynchronized
  subst hsz
  have hD := hD0.self (sz := s.heap.size)
  generalize hAe : va_A G s.heap.size = A at hD ⊢
  have hA : ∀ q : Nat, s.heap.size ≤ q → A q := fun q h => by rw [← hAe]; exact Or.inr h
  have hAs : ∀ q : Nat, A q → sb.1 ≤ q := fun q h => by
    rw [← hAe] at h
    rcases h with ⟨k, e, h⟩ | h
    · exact hD0.2 k _ h
    · exact Nat.le_trans hB0 h
  have hS : va_S A s.heap s.heap [] := va_S.rf
  have hFR := FL.rf Ad [mo, mmA, mrA] G
  have hcs : 0 ≤ (headSpec w_Model_signed ({ frames := 6, cells := 0, slots := 0, locals := 139 })).room.cells ∧ 0 ≤ (headSpec w_Model_signed ({ frames := 6, cells := 0, slots := 0, locals := 139 })).room.slots := ⟨Nat.le_refl _, Nat.le_refl _⟩
  have hP : va_P (dC, dI) classes G s.heap := hP
  have hl := lv_entry ([.ref mo, .int 0, .int ci, .int bi]) (n := 4) (Nat.le_of_ble_eq_true rfl)
  rw [lg_entry_eq]
  generalize (lg_sl ([.ref mo, .int 0, .int ci, .int bi]) ++ List.replicate (4 - (lg_sl ([.ref mo, .int 0, .int ci, .int bi])).length) Slot.unset).toArray = ls at hl ⊢
  have hl : lv_has ls 4 [(0, .ref mo), (1, .int 0), (2, .int ci), (3, .int bi)] := hl
  obtain ⟨cX_mo, eX_mo⟩ : ∃ z : va_E, z = .inr (12, (.int mer :: .int (nI fd) :: .int mwr :: .int (nI K9) :: .int (nI KL) :: .ref moc :: .ref msT :: .ref mrV :: .ref msP :: .int mqs :: .ref mrA :: .ref mbA :: .ref mwA :: .ref mhA :: .ref mfA :: .ref mpA :: .ref mxA :: .ref myA :: .ref mmA :: .ref mqA :: .ref mzA :: .ref mwy :: .ref mfd :: .int msz :: .int (nI cz) :: .int mch :: .int mft :: .int mpt :: .int mdp :: .int mvd :: .long mnw :: .int mmk :: [])) := ⟨_, rfl⟩
  rw [← eX_mo] at kmo
  refine lv_aload_n hx hb d_Model_signed_0 rfl (lv_at hl 0 rfl) ?_
  refine lv_iconst (v := 0) hx hb d_Model_signed_1 (by decide) ?_
  obtain ⟨i_1, hg_1⟩ := List.getElem?_of_mem kmo.2
  rw [eX_mo] at hg_1
  refine va_put (v := .int 0) (ty := .int) hx hb htb i_Model t_Model t_Model_ok n_Model hown hK hP hD hS i_1 hg_1 rfl 0 (by decide) (htb _ q7_214) (fun _ h9 => h9) rfl (by decide +kernel) rfl rfl (Nat.le_of_ble_eq_true rfl) d_Model_signed_2 (fun H2 locs hP hD2 hS => ?_)
  have hP : va_P (dC, dI) classes (G.set i_1 (mo, .inr (12, (.int 0 :: .int (nI fd) :: .int mwr :: .int (nI K9) :: .int (nI KL) :: .ref moc :: .ref msT :: .ref mrV :: .ref msP :: .int mqs :: .ref mrA :: .ref mbA :: .ref mwA :: .ref mhA :: .ref mfA :: .ref mpA :: .ref mxA :: .ref myA :: .ref mmA :: .ref mqA :: .ref mzA :: .ref mwy :: .ref mfd :: .int msz :: .int (nI cz) :: .int mch :: .int mft :: .int mpt :: .int mdp :: .int mvd :: .long mnw :: .int mmk :: [])))) H2 := hP
  have hD3 : va_D A (G.set i_1 (mo, .inr (12, (.int 0 :: .int (nI fd) :: .int mwr :: .int (nI K9) :: .int (nI KL) :: .ref moc :: .ref msT :: .ref mrV :: .ref msP :: .int mqs :: .ref mrA :: .ref mbA :: .ref mwA :: .ref mhA :: .ref mfA :: .ref mpA :: .ref mxA :: .ref myA :: .ref mmA :: .ref mqA :: .ref mzA :: .ref mwy :: .ref mfd :: .int msz :: .int (nI cz) :: .int mch :: .int mft :: .int mpt :: .int mdp :: .int mvd :: .long mnw :: .int mmk :: [])))) := hD2
  have hTy := TR.setX (c' := .inr (12, (.int 0 :: .int (nI fd) :: .int mwr :: .int (nI K9) :: .int (nI KL) :: .ref moc :: .ref msT :: .ref mrV :: .ref msP :: .int mqs :: .ref mrA :: .ref mbA :: .ref mwA :: .ref mhA :: .ref mfA :: .ref mpA :: .ref mxA :: .ref myA :: .ref mmA :: .ref mqA :: .ref mzA :: .ref mwy :: .ref mfd :: .int msz :: .int (nI cz) :: .int mch :: .int mft :: .int mpt :: .int mdp :: .int mvd :: .long mnw :: .int mmk :: []))) hTy hg_1 kmo.1
  have kmmA := Xc.setX (c' := .inr (12, (.int 0 :: .int (nI fd) :: .int mwr :: .int (nI K9) :: .int (nI KL) :: .ref moc :: .ref msT :: .ref mrV :: .ref msP :: .int mqs :: .ref mrA :: .ref mbA :: .ref mwA :: .ref mhA :: .ref mfA :: .ref mpA :: .ref mxA :: .ref myA :: .ref mmA :: .ref mqA :: .ref mzA :: .ref mwy :: .ref mfd :: .int msz :: .int (nI cz) :: .int mch :: .int mft :: .int mpt :: .int mdp :: .int mvd :: .long mnw :: .int mmk :: []))) kmmA hg_1 (fun e => hx_mo_mmA.symm (congrArg Prod.fst e))
  have kmrA := Xc.setX (c' := .inr (12, (.int 0 :: .int (nI fd) :: .int mwr :: .int (nI K9) :: .int (nI KL) :: .ref moc :: .ref msT :: .ref mrV :: .ref msP :: .int mqs :: .ref mrA :: .ref mbA :: .ref mwA :: .ref mhA :: .ref mfA :: .ref mpA :: .ref mxA :: .ref myA :: .ref mmA :: .ref mqA :: .ref mzA :: .ref mwy :: .ref mfd :: .int msz :: .int (nI cz) :: .int mch :: .int mft :: .int mpt :: .int mdp :: .int mvd :: .long mnw :: .int mmk :: []))) kmrA hg_1 (fun e => hx_mo_mrA.symm (congrArg Prod.fst e))
  have kmsT := Xc.setX (c' := .inr (12, (.int 0 :: .int (nI fd) :: .int mwr :: .int (nI K9) :: .int (nI KL) :: .ref moc :: .ref msT :: .ref mrV :: .ref msP :: .int mqs :: .ref mrA :: .ref mbA :: .ref mwA :: .ref mhA :: .ref mfA :: .ref mpA :: .ref mxA :: .ref myA :: .ref mmA :: .ref mqA :: .ref mzA :: .ref mwy :: .ref mfd :: .int msz :: .int (nI cz) :: .int mch :: .int mft :: .int mpt :: .int mdp :: .int mvd :: .long mnw :: .int mmk :: []))) kmsT hg_1 (fun e => hx_mo_msT.symm (congrArg Prod.fst e))
  have kmrV := Xc.setX (c' := .inr (12, (.int 0 :: .int (nI fd) :: .int mwr :: .int (nI K9) :: .int (nI KL) :: .ref moc :: .ref msT :: .ref mrV :: .ref msP :: .int mqs :: .ref mrA :: .ref mbA :: .ref mwA :: .ref mhA :: .ref mfA :: .ref mpA :: .ref mxA :: .ref myA :: .ref mmA :: .ref mqA :: .ref mzA :: .ref mwy :: .ref mfd :: .int msz :: .int (nI cz) :: .int mch :: .int mft :: .int mpt :: .int mdp :: .int mvd :: .long mnw :: .int mmk :: []))) kmrV hg_1 (fun e => hx_mo_mrV.symm (congrArg Prod.fst e))
  have hFR := hFR.tr (FL.set (Ad := Ad) (X := [mo, mmA, mrA]) (c' := .inr (12, (.int 0 :: .int (nI fd) :: .int mwr :: .int (nI K9) :: .int (nI KL) :: .ref moc :: .ref msT :: .ref mrV :: .ref msP :: .int mqs :: .ref mrA :: .ref mbA :: .ref mwA :: .ref mhA :: .ref mfA :: .ref mpA :: .ref mxA :: .ref myA :: .ref mmA :: .ref mqA :: .ref mzA :: .ref mwy :: .ref mfd :: .int msz :: .int (nI cz) :: .int mch :: .int mft :: .int mpt :: .int mdp :: .int mvd :: .long mnw :: .int mmk :: []))) hg_1 (by simp))
  have hg_1 := set_here (c' := .inr (12, (.int 0 :: .int (nI fd) :: .int mwr :: .int (nI K9) :: .int (nI KL) :: .ref moc :: .ref msT :: .ref mrV :: .ref msP :: .int mqs :: .ref mrA :: .ref mbA :: .ref mwA :: .ref mhA :: .ref mfA :: .ref mpA :: .ref mxA :: .ref myA :: .ref mmA :: .ref mqA :: .ref mzA :: .ref mwy :: .ref mfd :: .int msz :: .int (nI cz) :: .int mch :: .int mft :: .int mpt :: .int mdp :: .int mvd :: .long mnw :: .int mmk :: []))) hg_1
  have kmo : Xc Ad mo (.inr (12, (.int 0 :: .int (nI fd) :: .int mwr :: .int (nI K9) :: .int (nI KL) :: .ref moc :: .ref msT :: .ref mrV :: .ref msP :: .int mqs :: .ref mrA :: .ref mbA :: .ref mwA :: .ref mhA :: .ref mfA :: .ref mpA :: .ref mxA :: .ref myA :: .ref mmA :: .ref mqA :: .ref mzA :: .ref mwy :: .ref mfd :: .int msz :: .int (nI cz) :: .int mch :: .int mft :: .int mpt :: .int mdp :: .int mvd :: .long mnw :: .int mmk :: []))) (G.set i_1 (mo, .inr (12, (.int 0 :: .int (nI fd) :: .int mwr :: .int (nI K9) :: .int (nI KL) :: .ref moc :: .ref msT :: .ref mrV :: .ref msP :: .int mqs :: .ref mrA :: .ref mbA :: .ref mwA :: .ref mhA :: .ref mfA :: .ref mpA :: .ref mxA :: .ref myA :: .ref mmA :: .ref mqA :: .ref mzA :: .ref mwy :: .ref mfd :: .int msz :: .int (nI cz) :: .int mch :: .int mft :: .int mpt :: .int mdp :: .int mvd :: .long mnw :: .int mmk :: [])))) := ⟨kmo.1, List.mem_of_getElem? hg_1⟩
  have hD := hD3
  clear hD3 hD2
  generalize G.set i_1 (mo, .inr (12, (.int 0 :: .int (nI fd) :: .int mwr :: .int (nI K9) :: .int (nI KL) :: .ref moc :: .ref msT :: .ref mrV :: .ref msP :: .int mqs :: .ref mrA :: .ref mbA :: .ref mwA :: .ref mhA :: .ref mfA :: .ref mpA :: .ref mxA :: .ref myA :: .ref mmA :: .ref mqA :: .ref mzA :: .ref mwy :: .ref mfd :: .int msz :: .int (nI cz) :: .int mch :: .int mft :: .int mpt :: .int mdp :: .int mvd :: .long mnw :: .int mmk :: []))) = G_2 at hP hD hTy hFR kmo kmmA kmrA kmsT kmrV hg_1
  obtain ⟨cX_3, eX_3⟩ : ∃ z : va_E, z = .inr (12, (.int 0 :: .int (nI fd) :: .int mwr :: .int (nI K9) :: .int (nI KL) :: .ref moc :: .ref msT :: .ref mrV :: .ref msP :: .int mqs :: .ref mrA :: .ref mbA :: .ref mwA :: .ref mhA :: .ref mfA :: .ref mpA :: .ref mxA :: .ref myA :: .ref mmA :: .ref mqA :: .ref mzA :: .ref mwy :: .ref mfd :: .int msz :: .int (nI cz) :: .int mch :: .int mft :: .int mpt :: .int mdp :: .int mvd :: .long mnw :: .int mmk :: [])) := ⟨_, rfl⟩
  rw [← eX_3] at kmo
  refine lv_aload_n hx hb d_Model_signed_5 rfl (lv_at hl 0 rfl) ?_
  refine lv_iload_n hx hb d_Model_signed_6 rfl (lv_at hl 2 rfl) ?_
  refine lv_iconst (v := 0) hx hb d_Model_signed_7 (by decide) ?_
  refine lv_iload_n hx hb d_Model_signed_8 rfl (lv_at hl 1 rfl) ?_
  refine lv_if_eq (tgt := 19) hx hb d_Model_signed_9 (by decide) (fun c9 => ?_) (fun c9 => ?_)
  rotate_left
  · exact absurd c9 (by decide)
  refine lv_aload_n hx hb d_Model_signed_19 rfl (lv_at hl 0 rfl) ?_
  refine va_get (v := .int (nI K9)) hx hb htb i_Model hown hK hP i_1 hg_1 rfl 3 (by decide) (htb _ q7_217) (fun _ h9 => h9) rfl d_Model_signed_20 ?_
  refine lv_iconst (v := 1) hx hb d_Model_signed_23 (by decide) ?_
  refine lv_isub hx hb d_Model_signed_24 ?_
  refine vp_callSi (pu_callS (As := [.int ci, .int 0, .int ((nI K9) - 1)]) (rest := [.ref mo]) ⟨hx, hb, hml, hown, hts⟩ tbin (c_Model_in l dC dI sb ci (0 : Int32) ((nI K9) - 1)) q9_68 q8_116 q1_9 q8_117 (n := 3) (by decide +kernel) rfl ⟨rfl, rfl⟩ ⟨Nat.le_of_ble_eq_true rfl, Nat.le_of_ble_eq_true rfl⟩ ⟨Nat.le_of_ble_eq_true rfl, Nat.le_of_ble_eq_true rfl⟩ hN (hT0.keep hS hAs) hK hP [] (by simp only [List.filterMap_cons, List.filterMap_nil]) [] rfl hl.1 rfl (Nat.le_of_ble_eq_true rfl) d_Model_signed_25) (fun r25 hr25 => ?_)
  refine lv_if_eq (tgt := 45) hx hb d_Model_signed_28 (by decide) (fun c28 => ?_) (fun c28 => ?_)
  · have p28 : r25 = (0 : Int32) := c28
    refine lv_iconst (v := 1) hx hb d_Model_signed_45 (by decide) ?_
    refine lv_goto (tgt := 50) hx hb d_Model_signed_46 (by decide) ?_
    refine lv_iconst (v := 1) hx hb d_Model_signed_50 (by decide) ?_
    have hFc := va_free (wc := G_2) hD hS hA (List.range G_2.length) (rg_is _)
    refine va_calli (mu_runV (As := [.int 1, .int 1]) (rest := []) ⟨hx, hb, hml, hown, hts⟩ tbin (m_Model_fails_1 l dC dI sb γ κ Ad τ gT G_2 mo _ _ _ _ _ _ _ _ _ _ _ _ _ _ _ _ _ _ _ _ _ _ _ _ _ _ _ _ _ _ _ _ H2.size hTy (by have h9 := kmo; rw [eX_3] at h9; exact h9) (by decide)) q8_79 q8_81 qp_36 q1_9 q8_82 (n := 2) (by decide +kernel) rfl ⟨rfl, rfl⟩ ⟨Nat.le_of_ble_eq_true rfl, Nat.le_of_ble_eq_true rfl⟩ ⟨Nat.le_of_ble_eq_true rfl, Nat.le_of_ble_eq_true rfl⟩ hN (hT0.keep hS hAs) hAs (Nat.le_trans hB0 hS.1) hK hP hD (List.range G_2.length) (rg_nd _) (rg_is _) [0, 1, 2, 3, 4] rfl i_1 12 hg_1 rfl rfl hl.1 rfl (Nat.le_of_ble_eq_true rfl) d_Model_signed_51) hS (fun q _ h => hFc q h) hFc (fun r51 G_4 tS H51 locs ht hvm hw51 hB hz1 hk1 hS => ?_)
    obtain ⟨hTy, hF9, hr51⟩ := hw51
    have kmmA := kmmA.fl hF9 (q_nmc (hx_mo_mmA.symm) (q_nmn))
    have kmrA := kmrA.fl hF9 (q_nmc (hx_mo_mrA.symm) (q_nmn))
    have kmsT := kmsT.fl hF9 (q_nmc (hx_mo_msT.symm) (q_nmn))
    have kmrV := kmrV.fl hF9 (q_nmc (hx_mo_mrV.symm) (q_nmn))
    have hFR := hFR.tr (hF9.up (q_gac (by simp) (q_gan)))
    obtain ⟨hP1, hK1, hD1⟩ := hB
    rw [ht] at hP1
    have hP : va_P (dC, dI) classes G_4 H51 := hP1
    have hD : va_D A G_4 := hD1.weaken (fun _ _ _ h => hFc _ h)
    obtain ⟨hq51, kmo⟩ := hr51
    subst hq51
    obtain ⟨cX_5, eX_5⟩ : ∃ z : va_E, z = .inr (12, (.int 1 :: .int (nI fd) :: .int mwr :: .int (nI K9) :: .int (nI KL) :: .ref moc :: .ref msT :: .ref mrV :: .ref msP :: .int mqs :: .ref mrA :: .ref mbA :: .ref mwA :: .ref mhA :: .ref mfA :: .ref mpA :: .ref mxA :: .ref myA :: .ref mmA :: .ref mqA :: .ref mzA :: .ref mwy :: .ref mfd :: .int msz :: .int (nI cz) :: .int mch :: .int mft :: .int mpt :: .int mdp :: .int mvd :: .long mnw :: .int mmk :: [])) := ⟨_, rfl⟩
    rw [← eX_5] at kmo
    refine lv_if_eq (tgt := 59) hx hb d_Model_signed_54 (by decide) (fun c54 => ?_) (fun c54 => ?_)
    · exact absurd c54 (by decide)
    refine lv_iconst (v := 0) hx hb d_Model_signed_57 (by decide) ?_
    exact W.zret (v := 0) hx hb hr rfl (fun t ht hW => ⟨⟨_, G_4, rfl, ⟨hTy, hFR, Or.inr ⟨fun q => bz_0 hr25 p28 (in_rng (by omega) q.1), (by rw [eX_5] at kmo; exact kmo)⟩, ⟨_, hfm, kmmA⟩, ⟨_, hfr, kmrA⟩⟩, by rw [ht]; exact hP, va_K.moved hW.alike hK, hD⟩, hS.F ht⟩) hS.2.2 d_Model_signed_58
  · have p28 : ¬ (r25 = (0 : Int32)) := c28
    refine lv_iload_n hx hb d_Model_signed_31 rfl (lv_at hl 3 rfl) ?_
    refine lv_iconst (v := 0) hx hb d_Model_signed_32 (by decide) ?_
    refine lv_aload_n hx hb d_Model_signed_33 rfl (lv_at hl 0 rfl) ?_
    refine va_get (v := .int (nI K9)) hx hb htb i_Model hown hK hP i_1 hg_1 rfl 3 (by decide) (htb _ q7_217) (fun _ h9 => h9) rfl d_Model_signed_34 ?_
    refine lv_iconst (v := 1) hx hb d_Model_signed_37 (by decide) ?_
    refine lv_isub hx hb d_Model_signed_38 ?_
    refine vp_callSi (pu_callS (As := [.int bi, .int 0, .int ((nI K9) - 1)]) (rest := [.ref mo]) ⟨hx, hb, hml, hown, hts⟩ tbin (c_Model_in l dC dI sb bi (0 : Int32) ((nI K9) - 1)) q9_68 q8_116 q1_9 q8_117 (n := 3) (by decide +kernel) rfl ⟨rfl, rfl⟩ ⟨Nat.le_of_ble_eq_true rfl, Nat.le_of_ble_eq_true rfl⟩ ⟨Nat.le_of_ble_eq_true rfl, Nat.le_of_ble_eq_true rfl⟩ hN (hT0.keep hS hAs) hK hP [] (by simp only [List.filterMap_cons, List.filterMap_nil]) [] rfl hl.1 rfl (Nat.le_of_ble_eq_true rfl) d_Model_signed_39) (fun r39 hr39 => ?_)
    refine lv_if_ne (tgt := 49) hx hb d_Model_signed_42 (by decide) (fun c42 => ?_) (fun c42 => ?_)
    · have p42 : ¬ (r39 = (0 : Int32)) := c42
      refine lv_iconst (v := 0) hx hb d_Model_signed_49 (by decide) ?_
      refine lv_iconst (v := 1) hx hb d_Model_signed_50 (by decide) ?_
      have hFc := va_free (wc := G_2) hD hS hA (List.range G_2.length) (rg_is _)
      refine va_calli (mu_runV (As := [.int 0, .int 1]) (rest := []) ⟨hx, hb, hml, hown, hts⟩ tbin (m_Model_fails_0 l dC dI sb γ κ Ad τ gT G_2 mo _ _ _ _ _ _ _ _ _ _ _ _ _ _ _ _ _ _ _ _ _ _ _ _ _ _ _ _ _ _ _ _ H2.size hTy (by have h9 := kmo; rw [eX_3] at h9; exact h9) ) q8_79 q8_81 qp_36 q1_9 q8_82 (n := 2) (by decide +kernel) rfl ⟨rfl, rfl⟩ ⟨Nat.le_of_ble_eq_true rfl, Nat.le_of_ble_eq_true rfl⟩ ⟨Nat.le_of_ble_eq_true rfl, Nat.le_of_ble_eq_true rfl⟩ hN (hT0.keep hS hAs) hAs (Nat.le_trans hB0 hS.1) hK hP hD (List.range G_2.length) (rg_nd _) (rg_is _) [0, 1, 2, 3, 4] rfl i_1 12 hg_1 rfl rfl hl.1 rfl (Nat.le_of_ble_eq_true rfl) d_Model_signed_51) hS (fun q _ h => hFc q h) hFc (fun r51 G_6 tS H51 locs ht hvm hw51 hB hz1 hk1 hS => ?_)
      obtain ⟨hTy, hF9, hr51⟩ := hw51
      have kmo := kmo.fl hF9 (q_nmn)
      have kmmA := kmmA.fl hF9 (q_nmn)
      have kmrA := kmrA.fl hF9 (q_nmn)
      have kmsT := kmsT.fl hF9 (q_nmn)
      have kmrV := kmrV.fl hF9 (q_nmn)
      have hFR := hFR.tr (hF9.up (q_gan))
      obtain ⟨hP1, hK1, hD1⟩ := hB
      rw [ht] at hP1
      have hP : va_P (dC, dI) classes G_6 H51 := hP1
      have hD : va_D A G_6 := hD1.weaken (fun _ _ _ h => hFc _ h)
      subst hr51
      refine lv_if_eq (tgt := 59) hx hb d_Model_signed_54 (by decide) (fun c54 => ?_) (fun c54 => ?_)
      rotate_left
      · exact absurd c54 (by decide)
      obtain ⟨k9, hk9, rfl⟩ := in_k (by omega) (bz_1 hr25 p28)
      obtain ⟨k8, hk8, rfl⟩ := in_k (by omega) (bz_1 hr39 p42)
      refine lv_aload_n hx hb d_Model_signed_59 rfl (lv_at hl 0 rfl) ?_
      refine lv_iload_n hx hb d_Model_signed_60 rfl (lv_at hl 1 rfl) ?_
      refine lv_if_eq (tgt := 73) hx hb d_Model_signed_61 (by decide) (fun c61 => ?_) (fun c61 => ?_)
      rotate_left
      · exact absurd c61 (by decide)
      refine lv_aload_n hx hb d_Model_signed_73 rfl (lv_at hl 0 rfl) ?_
      obtain ⟨i_7, hg_7⟩ := List.getElem?_of_mem kmo.2
      rw [eX_3] at hg_7
      refine va_get (v := .ref msT) hx hb htb i_Model hown hK hP i_7 hg_7 rfl 6 (by decide) (htb _ q7_220) (fun _ h9 => h9) rfl d_Model_signed_74 ?_
      refine lv_iload_n hx hb d_Model_signed_77 rfl (lv_at hl 2 rfl) ?_
      obtain ⟨i_8, hg_8⟩ := List.getElem?_of_mem kmsT.2
      have h78 : vp_in (nI k9) 16 := vp_in_nI (by omega) (by omega)
      refine va_aldq hx hb hK hP i_8 4 hg_8 rfl h78 d_Model_signed_78 ?_
      obtain ⟨t78, ft78, kt78, hc_t78⟩ := hst k9 (by omega)
      rw [show va_rf (fS (nI k9).toNatClampNeg) = .ref t78 from by rw [nI_clamp (by omega), ft78]; rfl]
      have b1_t78 := hc_t78.b1
      have b2_t78 := hc_t78.b2
      have b3_t78 := hc_t78.b3
      have b4_t78 := hc_t78.b4
      have b5_t78 := hc_t78.b5
      have b6_t78 := hc_t78.b6
      have b8_t78 := hc_t78.b8
      have b9_t78 := hc_t78.b9
      refine lv_aload_n hx hb d_Model_signed_79 rfl (lv_at hl 0 rfl) ?_
      refine va_get (v := .ref msT) hx hb htb i_Model hown hK hP i_7 hg_7 rfl 6 (by decide) (htb _ q7_220) (fun _ h9 => h9) rfl d_Model_signed_80 ?_
      refine lv_iload_n hx hb d_Model_signed_83 rfl (lv_at hl 3 rfl) ?_
      have h84 : vp_in (nI k8) 16 := vp_in_nI (by omega) (by omega)
      refine va_aldq hx hb hK hP i_8 4 hg_8 rfl h84 d_Model_signed_84 ?_
      obtain ⟨t84, ft84, kt84, hc_t84⟩ := hst k8 (by omega)
      rw [show va_rf (fS (nI k8).toNatClampNeg) = .ref t84 from by rw [nI_clamp (by omega), ft84]; rfl]
      have b1_t84 := hc_t84.b1
      have b2_t84 := hc_t84.b2
      have b3_t84 := hc_t84.b3
      have b4_t84 := hc_t84.b4
      have b5_t84 := hc_t84.b5
      have b6_t84 := hc_t84.b6
      have b8_t84 := hc_t84.b8
      have b9_t84 := hc_t84.b9
      have hFc := va_free (wc := G_6) hD hS hA (List.range G_6.length) (rg_is _)
      refine va_calli (mu_runV (As := [.ref t78, .ref t84]) (rest := []) ⟨hx, hb, hml, hown, hts⟩ tbin (m9_Model_isSigned l dC dI sb γ κ Ad τ gT G_6 mo t78 t84 _ _ _ _ _ _ _ _ _ _ _ _ _ _ _ _ _ _ _ _ _ _ _ _ _ _ _ _ _ _ _ _ _ _ H51.size hTy (by have h9 := kmo; rw [eX_3] at h9; exact h9) kt78 kt84 kmmA kmrA kmzA kmqA kmyA kmxA kmbA kmwA kmhA kmpA kmfA hx_mo_mmA hx_mo_mrA hx_mmA_mrA hc_t78.toTB hc_t84 hfm hfr) q9_96 q9_98 qp_42 q1_9 q9_99 (n := 2) (by decide +kernel) rfl ⟨rfl, rfl⟩ ⟨Nat.le_of_ble_eq_true rfl, Nat.le_of_ble_eq_true rfl⟩ ⟨Nat.le_of_ble_eq_true rfl, Nat.le_of_ble_eq_true rfl⟩ hN (hT0.keep hS hAs) hAs (Nat.le_trans hB0 hS.1) hK hP hD (List.range G_6.length) (rg_nd _) (rg_is _) [0, 1, 2, 3, 4] rfl i_7 12 hg_7 rfl rfl hl.1 rfl (Nat.le_of_ble_eq_true rfl) d_Model_signed_85) hS (fun q _ h => hFc q h) hFc (fun r85 G_9 tS H85 locs ht hvm hw85 hB hz1 hk1 hS => ?_)
      obtain ⟨hTy, hF9, hr85⟩ := hw85
      have kmsT := kmsT.fl hF9 (q_nmc (hx_mo_msT.symm) (q_nmc (hx_mmA_msT.symm) (q_nmc (hx_mrA_msT.symm) (q_nmn))))
      have kmrV := kmrV.fl hF9 (q_nmc (hx_mo_mrV.symm) (q_nmc (hx_mmA_mrV.symm) (q_nmc (hx_mrA_mrV.symm) (q_nmn))))
      have hFR := hFR.tr (hF9.up (q_gac (by simp) (q_gac (by simp) (q_gac (by simp) (q_gan)))))
      obtain ⟨hP1, hK1, hD1⟩ := hB
      rw [ht] at hP1
      have hP : va_P (dC, dI) classes G_9 H85 := hP1
      have hD : va_D A G_9 := hD1.weaken (fun _ _ _ h => hFc _ h)
      obtain ⟨hz85, ⟨q85, kmo⟩, ⟨fa85, hfm, kmmA⟩, ⟨fb85, hfr, kmrA⟩⟩ := hr85
      obtain ⟨cX_10, eX_10⟩ : ∃ z : va_E, z = .inr (12, (.int 0 :: .int (nI fd) :: .int mwr :: .int (nI K9) :: .int (nI KL) :: .ref moc :: .ref msT :: .ref mrV :: .ref msP :: .int q85 :: .ref mrA :: .ref mbA :: .ref mwA :: .ref mhA :: .ref mfA :: .ref mpA :: .ref mxA :: .ref myA :: .ref mmA :: .ref mqA :: .ref mzA :: .ref mwy :: .ref mfd :: .int msz :: .int (nI cz) :: .int mch :: .int mft :: .int mpt :: .int mdp :: .int mvd :: .long mnw :: .int mmk :: [])) := ⟨_, rfl⟩
      rw [← eX_10] at kmo
      exact W.zret (v := r85) hx hb hr (bz_n hz85) (fun t ht hW => ⟨⟨_, G_9, rfl, ⟨hTy, hFR, Or.inl ⟨k9, k8, t78, t84, _, hk9, rfl, hk8, rfl, ft78, ft84, hz85, (by rw [eX_10] at kmo; exact kmo)⟩, ⟨_, hfm, kmmA⟩, ⟨_, hfr, kmrA⟩⟩, by rw [ht]; exact hP, va_K.moved hW.alike hK, hD⟩, hS.F ht⟩) hS.2.2 d_Model_signed_88
    · have p42 : r39 = (0 : Int32) := c42
      refine lv_iconst (v := 1) hx hb d_Model_signed_45 (by decide) ?_
      refine lv_goto (tgt := 50) hx hb d_Model_signed_46 (by decide) ?_
      refine lv_iconst (v := 1) hx hb d_Model_signed_50 (by decide) ?_
      have hFc := va_free (wc := G_2) hD hS hA (List.range G_2.length) (rg_is _)
      refine va_calli (mu_runV (As := [.int 1, .int 1]) (rest := []) ⟨hx, hb, hml, hown, hts⟩ tbin (m_Model_fails_1 l dC dI sb γ κ Ad τ gT G_2 mo _ _ _ _ _ _ _ _ _ _ _ _ _ _ _ _ _ _ _ _ _ _ _ _ _ _ _ _ _ _ _ _ H2.size hTy (by have h9 := kmo; rw [eX_3] at h9; exact h9) (by decide)) q8_79 q8_81 qp_36 q1_9 q8_82 (n := 2) (by decide +kernel) rfl ⟨rfl, rfl⟩ ⟨Nat.le_of_ble_eq_true rfl, Nat.le_of_ble_eq_true rfl⟩ ⟨Nat.le_of_ble_eq_true rfl, Nat.le_of_ble_eq_true rfl⟩ hN (hT0.keep hS hAs) hAs (Nat.le_trans hB0 hS.1) hK hP hD (List.range G_2.length) (rg_nd _) (rg_is _) [0, 1, 2, 3, 4] rfl i_1 12 hg_1 rfl rfl hl.1 rfl (Nat.le_of_ble_eq_true rfl) d_Model_signed_51) hS (fun q _ h => hFc q h) hFc (fun r51 G_11 tS H51 locs ht hvm hw51 hB hz1 hk1 hS => ?_)
      obtain ⟨hTy, hF9, hr51⟩ := hw51
      have kmmA := kmmA.fl hF9 (q_nmc (hx_mo_mmA.symm) (q_nmn))
      have kmrA := kmrA.fl hF9 (q_nmc (hx_mo_mrA.symm) (q_nmn))
      have kmsT := kmsT.fl hF9 (q_nmc (hx_mo_msT.symm) (q_nmn))
      have kmrV := kmrV.fl hF9 (q_nmc (hx_mo_mrV.symm) (q_nmn))
      have hFR := hFR.tr (hF9.up (q_gac (by simp) (q_gan)))
      obtain ⟨hP1, hK1, hD1⟩ := hB
      rw [ht] at hP1
      have hP : va_P (dC, dI) classes G_11 H51 := hP1
      have hD : va_D A G_11 := hD1.weaken (fun _ _ _ h => hFc _ h)
      obtain ⟨hq51, kmo⟩ := hr51
      subst hq51
      obtain ⟨cX_12, eX_12⟩ : ∃ z : va_E, z = .inr (12, (.int 1 :: .int (nI fd) :: .int mwr :: .int (nI K9) :: .int (nI KL) :: .ref moc :: .ref msT :: .ref mrV :: .ref msP :: .int mqs :: .ref mrA :: .ref mbA :: .ref mwA :: .ref mhA :: .ref mfA :: .ref mpA :: .ref mxA :: .ref myA :: .ref mmA :: .ref mqA :: .ref mzA :: .ref mwy :: .ref mfd :: .int msz :: .int (nI cz) :: .int mch :: .int mft :: .int mpt :: .int mdp :: .int mvd :: .long mnw :: .int mmk :: [])) := ⟨_, rfl⟩
      rw [← eX_12] at kmo
      refine lv_if_eq (tgt := 59) hx hb d_Model_signed_54 (by decide) (fun c54 => ?_) (fun c54 => ?_)
      · exact absurd c54 (by decide)
      refine lv_iconst (v := 0) hx hb d_Model_signed_57 (by decide) ?_
      exact W.zret (v := 0) hx hb hr rfl (fun t ht hW => ⟨⟨_, G_11, rfl, ⟨hTy, hFR, Or.inr ⟨fun q => bz_0 hr39 p42 (in_rng (by omega) q.2), (by rw [eX_12] at kmo; exact kmo)⟩, ⟨_, hfm, kmmA⟩, ⟨_, hfr, kmrA⟩⟩, by rw [ht]; exact hP, va_K.moved hW.alike hK, hD⟩, hS.F ht⟩) hS.2.2 d_Model_signed_58
set_option maxHeartbeats 4000000 in
set_option maxRecDepth 100000 in
theorem m_Model_signed_1 (l : Launch) (dC : Nat → ClassId) (dI : Nat → Nat → Nat) (sb : sB) (γ : cG) (κ : kE) (Ad : List Nat) (τ : Nat → TD) (gT : ClassId) (G : va_W) (mo : Nat) (moc msT mrV msP mrA mbA mwA mhA mfA mpA mxA myA mmA mqA mzA mwy mfd : Nat) (mer mwr mqs msz mch mft mpt mdp mvd mmk : Int32) (mnw : Int64) (K9 KL cz fd : Nat) (ci bi : Int32) (fm fr : Nat → Int32) (fS fV : Nat → Option Nat) (sz : Nat) (hTy : TR γ κ Ad τ G) (kmo : Xc Ad mo (.inr (12, (.int mer :: .int (nI fd) :: .int mwr :: .int (nI K9) :: .int (nI KL) :: .ref moc :: .ref msT :: .ref mrV :: .ref msP :: .int mqs :: .ref mrA :: .ref mbA :: .ref mwA :: .ref mhA :: .ref mfA :: .ref mpA :: .ref mxA :: .ref myA :: .ref mmA :: .ref mqA :: .ref mzA :: .ref mwy :: .ref mfd :: .int msz :: .int (nI cz) :: .int mch :: .int mft :: .int mpt :: .int mdp :: .int mvd :: .long mnw :: .int mmk :: []))) G) (kmmA : Xc Ad mmA (.inl (γ.2.1, 600, .inl fm)) G) (kmrA : Xc Ad mrA (.inl (γ.2.1, 600, .inl fr)) G) (kmsT : Xc Ad msT (.inl (gT, 16, .inr (.inr (.inr (.inr fS))))) G) (kmrV : Xc Ad mrV (.inl (gT, 8, .inr (.inr (.inr (.inr fV))))) G) (kmzA : tK κ Ad mzA (6, 600, 6)) (kmqA : tK κ Ad mqA (6, 600, 4)) (kmyA : tK κ Ad myA (6, 600, 5)) (kmxA : tK κ Ad mxA (6, 600, 3)) (kmbA : tK κ Ad mbA (6, 2176, 0)) (kmwA : tK κ Ad mwA (6, 64, 0)) (kmhA : tK κ Ad mhA (6, 8, 0)) (kmpA : tK κ Ad mpA (6, 64, 2)) (kmfA : tK κ Ad mfA (6, 8, 1)) (hx_mo_mmA : mo ≠ mmA) (hx_mo_mrA : mo ≠ mrA) (hx_mo_msT : mo ≠ msT) (hx_mo_mrV : mo ≠ mrV) (hx_mmA_mrA : mmA ≠ mrA) (hx_mmA_msT : mmA ≠ msT) (hx_mmA_mrV : mmA ≠ mrV) (hx_mrA_msT : mrA ≠ msT) (hx_mrA_mrV : mrA ≠ mrV) (hx_msT_mrV : msT ≠ mrV) (hst : STc κ Ad τ K9 fS) (hrv : STl κ Ad τ KL fV) (hK9 : K9 ≤ 16) (hKL : KL ≤ 8) (hfm : bR fm) (hfr : bR fr) : Met l y_Model_signed w_Model_signed ({ frames := 6, cells := 0, slots := 0, locals := 139 }) (mu_P [.ref mo, .int 1, .int ci, .int bi] (dC, dI) sb G [(γ.1, .byte), (γ.2.1, .int), (γ.2.2.1, .long), (γ.2.2.2, .object "java/lang/Object"), (gT, .object "TrustChainModel$Text")] sz) (va_Qi (fun r (G' : va_W) => TR γ κ Ad τ G' ∧ FL Ad [mo, mmA, mrA] G G' ∧ (((∃ (k k2 t t2 : Nat) (q9 : Int32), k < KL ∧ ci = nI k ∧ k2 < K9 ∧ bi = nI k2 ∧ fV k = some t ∧ fS k2 = some t2 ∧ bz r (sgT (τ t) (τ t2)) ∧ Xc Ad mo (.inr (12, (.int 0 :: .int (nI fd) :: .int mwr :: .int (nI K9) :: .int (nI KL) :: .ref moc :: .ref msT :: .ref mrV :: .ref msP :: .int q9 :: .ref mrA :: .ref mbA :: .ref mwA :: .ref mhA :: .ref mfA :: .ref mpA :: .ref mxA :: .ref myA :: .ref mmA :: .ref mqA :: .ref mzA :: .ref mwy :: .ref mfd :: .int msz :: .int (nI cz) :: .int mch :: .int mft :: .int mpt :: .int mdp :: .int mvd :: .long mnw :: .int mmk :: []))) G') ∨ (¬ ((¬ ci < 0 ∧ ci < nI KL) ∧ (¬ bi < 0 ∧ bi < nI K9)) ∧ Xc Ad mo (.inr (12, (.int 1 :: .int (nI fd) :: .int mwr :: .int (nI K9) :: .int (nI KL) :: .ref moc :: .ref msT :: .ref mrV :: .ref msP :: .int mqs :: .ref mrA :: .ref mbA :: .ref mwA :: .ref mhA :: .ref mfA :: .ref mpA :: .ref mxA :: .ref myA :: .ref mmA :: .ref mqA :: .ref mzA :: .ref mwy :: .ref mfd :: .int msz :: .int (nI cz) :: .int mch :: .int mft :: .int mpt :: .int mdp :: .int mvd :: .long mnw :: .int mmk :: []))) G')) ∧ (∃ f9 : Nat → Int32, bR f9 ∧ Xc Ad mmA (.inl (γ.2.1, 600, .inl f9)) G') ∧ (∃ f9 : Nat → Int32, bR f9 ∧ Xc Ad mrA (.inl (γ.2.1, 600, .inl f9)) G'))) (mu_B (dC, dI) [(γ.1, .byte), (γ.2.1, .int), (γ.2.2.1, .long), (γ.2.2.2, .object "java/lang/Object"), (gT, .object "TrustChainModel$Text")] (va_A G sz) (fun G' : va_W => G')) (va_A G sz)) 0 0 (va_A G sz) := by
  refine Met.ofW (cc := b_Model_signed) (maxL := 4) (ret := (some FieldType.boolean)) (by decide) rfl ?_
  intro p e s m args below meth c s₁ B hml hv
  obtain ⟨rfl, hsz, hB0, hP, hK, hD0, hN, hT0⟩ := hv
  have hx := B.exec
  have hb := B.bytes
  have hr := B.returns
  have hts := atoms_spec (ws := w_Model_signed) B.pre
  have tbin : ∀ w ∈ tb, w ∈ w_Model_signed := fun w h => List.mem_cons_of_mem _ h
  have htb : ∀ w ∈ tb, w.before _ s = true := fun w h => hts w (tbin w h)
  have hown : s.vm.findClass "TrustChainModel" = some m.cls := findClass_of_methodNamed B.named
  have hlocks := B.notSynchronized
  subst hsz
  have hD := hD0.self (sz := s.heap.size)
  generalize hAe : va_A G s.heap.size = A at hD ⊢
  have hA : ∀ q : Nat, s.heap.size ≤ q → A q := fun q h => by rw [← hAe]; exact Or.inr h
  have hAs : ∀ q : Nat, A q → sb.1 ≤ q := fun q h => by
    rw [← hAe] at h
    rcases h with ⟨k, e, h⟩ | h
    · exact hD0.2 k _ h
    · exact Nat.le_trans hB0 h
  have hS : va_S A s.heap s.heap [] := va_S.rf
  have hFR := FL.rf Ad [mo, mmA, mrA] G
  have hcs : 0 ≤ (headSpec w_Model_signed ({ frames := 6, cells := 0, slots := 0, locals := 139 })).room.cells ∧ 0 ≤ (headSpec w_Model_signed ({ frames := 6, cells := 0, slots := 0, locals := 139 })).room.slots := ⟨Nat.le_refl _, Nat.le_refl _⟩
  have hP : va_P (dC, dI) classes G s.heap := hP
  have hl := lv_entry ([.ref mo, .int 1, .int ci, .int bi]) (n := 4) (Nat.le_of_ble_eq_true rfl)
  rw [lg_entry_eq]
  generalize (lg_sl ([.ref mo, .int 1, .int ci, .int bi]) ++ List.replicate (4 - (lg_sl ([.ref mo, .int 1, .int ci, .int bi])).length) Slot.unset).toArray = ls at hl ⊢
  have hl : lv_has ls 4 [(0, .ref mo), (1, .int 1), (2, .int ci), (3, .int bi)] := hl
  obtain ⟨cX_mo, eX_mo⟩ : ∃ z : va_E, z = .inr (12, (.int mer :: .int (nI fd) :: .int mwr :: .int (nI K9) :: .int (nI KL) :: .ref moc :: .ref msT :: .ref mrV :: .ref msP :: .int mqs :: .ref mrA :: .ref mbA :: .ref mwA :: .ref mhA :: .ref mfA :: .ref mpA :: .ref mxA :: .ref myA :: .ref mmA :: .ref mqA :: .ref mzA :: .ref mwy :: .ref mfd :: .int msz :: .int (nI cz) :: .int mch :: .int mft :: .int mpt :: .int mdp :: .int mvd :: .long mnw :: .int mmk :: [])) := ⟨_, rfl⟩
  rw [← eX_mo] at kmo
  refine lv_aload_n hx hb d_Model_signed_0 rfl (lv_at hl 0 rfl) ?_
  refine lv_iconst (v := 0) hx hb d_Model_signed_1 (by decide) ?_
  obtain ⟨i_1, hg_1⟩ := List.getElem?_of_mem kmo.2
  rw [eX_mo] at hg_1
  refine va_put (v := .int 0) (ty := .int) hx hb htb i_Model t_Model t_Model_ok n_Model hown hK hP hD hS i_1 hg_1 rfl 0 (by decide) (htb _ q7_214) (fun _ h9 => h9) rfl (by decide +kernel) rfl rfl (Nat.le_of_ble_eq_true rfl) d_Model_signed_2 (fun H2 locs hP hD2 hS => ?_)
  have hP : va_P (dC, dI) classes (G.set i_1 (mo, .inr (12, (.int 0 :: .int (nI fd) :: .int mwr :: .int (nI K9) :: .int (nI KL) :: .ref moc :: .ref msT :: .ref mrV :: .ref msP :: .int mqs :: .ref mrA :: .ref mbA :: .ref mwA :: .ref mhA :: .ref mfA :: .ref mpA :: .ref mxA :: .ref myA :: .ref mmA :: .ref mqA :: .ref mzA :: .ref mwy :: .ref mfd :: .int msz :: .int (nI cz) :: .int mch :: .int mft :: .int mpt :: .int mdp :: .int mvd :: .long mnw :: .int mmk :: [])))) H2 := hP
  have hD3 : va_D A (G.set i_1 (mo, .inr (12, (.int 0 :: .int (nI fd) :: .int mwr :: .int (nI K9) :: .int (nI KL) :: .ref moc :: .ref msT :: .ref mrV :: .ref msP :: .int mqs :: .ref mrA :: .ref mbA :: .ref mwA :: .ref mhA :: .ref mfA :: .ref mpA :: .ref mxA :: .ref myA :: .ref mmA :: .ref mqA :: .ref mzA :: .ref mwy :: .ref mfd :: .int msz :: .int (nI cz) :: .int mch :: .int mft :: .int mpt :: .int mdp :: .int mvd :: .long mnw :: .int mmk :: [])))) := hD2
  have hTy := TR.setX (c' := .inr (12, (.int 0 :: .int (nI fd) :: .int mwr :: .int (nI K9) :: .int (nI KL) :: .ref moc :: .ref msT :: .ref mrV :: .ref msP :: .int mqs :: .ref mrA :: .ref mbA :: .ref mwA :: .ref mhA :: .ref mfA :: .ref mpA :: .ref mxA :: .ref myA :: .ref mmA :: .ref mqA :: .ref mzA :: .ref mwy :: .ref mfd :: .int msz :: .int (nI cz) :: .int mch :: .int mft :: .int mpt :: .int mdp :: .int mvd :: .long mnw :: .int mmk :: []))) hTy hg_1 kmo.1
  have kmmA := Xc.setX (c' := .inr (12, (.int 0 :: .int (nI fd) :: .int mwr :: .int (nI K9) :: .int (nI KL) :: .ref moc :: .ref msT :: .ref mrV :: .ref msP :: .int mqs :: .ref mrA :: .ref mbA :: .ref mwA :: .ref mhA :: .ref mfA :: .ref mpA :: .ref mxA :: .ref myA :: .ref mmA :: .ref mqA :: .ref mzA :: .ref mwy :: .ref mfd :: .int msz :: .int (nI cz) :: .int mch :: .int mft :: .int mpt :: .int mdp :: .int mvd :: .long mnw :: .int mmk :: []))) kmmA hg_1 (fun e => hx_mo_mmA.symm (congrArg Prod.fst e))
  have kmrA := Xc.setX (c' := .inr (12, (.int 0 :: .int (nI fd) :: .int mwr :: .int (nI K9) :: .int (nI KL) :: .ref moc :: .ref msT :: .ref mrV :: .ref msP :: .int mqs :: .ref mrA :: .ref mbA :: .ref mwA :: .ref mhA :: .ref mfA :: .ref mpA :: .ref mxA :: .ref myA :: .ref mmA :: .ref mqA :: .ref mzA :: .ref mwy :: .ref mfd :: .int msz :: .int (nI cz) :: .int mch :: .int mft :: .int mpt :: .int mdp :: .int mvd :: .long mnw :: .int mmk :: []))) kmrA hg_1 (fun e => hx_mo_mrA.symm (congrArg Prod.fst e))
  have kmsT := Xc.setX (c' := .inr (12, (.int 0 :: .int (nI fd) :: .int mwr :: .int (nI K9) :: .int (nI KL) :: .ref moc :: .ref msT :: .ref mrV :: .ref msP :: .int mqs :: .ref mrA :: .ref mbA :: .ref mwA :: .ref mhA :: .ref mfA :: .ref mpA :: .ref mxA :: .ref myA :: .ref mmA :: .ref mqA :: .ref mzA :: .ref mwy :: .ref mfd :: .int msz :: .int (nI cz) :: .int mch :: .int mft :: .int mpt :: .int mdp :: .int mvd :: .long mnw :: .int mmk :: []))) kmsT hg_1 (fun e => hx_mo_msT.symm (congrArg Prod.fst e))
  have kmrV := Xc.setX (c' := .inr (12, (.int 0 :: .int (nI fd) :: .int mwr :: .int (nI K9) :: .int (nI KL) :: .ref moc :: .ref msT :: .ref mrV :: .ref msP :: .int mqs :: .ref mrA :: .ref mbA :: .ref mwA :: .ref mhA :: .ref mfA :: .ref mpA :: .ref mxA :: .ref myA :: .ref mmA :: .ref mqA :: .ref mzA :: .ref mwy :: .ref mfd :: .int msz :: .int (nI cz) :: .int mch :: .int mft :: .int mpt :: .int mdp :: .int mvd :: .long mnw :: .int mmk :: []))) kmrV hg_1 (fun e => hx_mo_mrV.symm (congrArg Prod.fst e))
  have hFR := hFR.tr (FL.set (Ad := Ad) (X := [mo, mmA, mrA]) (c' := .inr (12, (.int 0 :: .int (nI fd) :: .int mwr :: .int (nI K9) :: .int (nI KL) :: .ref moc :: .ref msT :: .ref mrV :: .ref msP :: .int mqs :: .ref mrA :: .ref mbA :: .ref mwA :: .ref mhA :: .ref mfA :: .ref mpA :: .ref mxA :: .ref myA :: .ref mmA :: .ref mqA :: .ref mzA :: .ref mwy :: .ref mfd :: .int msz :: .int (nI cz) :: .int mch :: .int mft :: .int mpt :: .int mdp :: .int mvd :: .long mnw :: .int mmk :: []))) hg_1 (by simp))
  have hg_1 := set_here (c' := .inr (12, (.int 0 :: .int (nI fd) :: .int mwr :: .int (nI K9) :: .int (nI KL) :: .ref moc :: .ref msT :: .ref mrV :: .ref msP :: .int mqs :: .ref mrA :: .ref mbA :: .ref mwA :: .ref mhA :: .ref mfA :: .ref mpA :: .ref mxA :: .ref myA :: .ref mmA :: .ref mqA :: .ref mzA :: .ref mwy :: .ref mfd :: .int msz :: .int (nI cz) :: .int mch :: .int mft :: .int mpt :: .int mdp :: .int mvd :: .long mnw :: .int mmk :: []))) hg_1
  have kmo : Xc Ad mo (.inr (12, (.int 0 :: .int (nI fd) :: .int mwr :: .int (nI K9) :: .int (nI KL) :: .ref moc :: .ref msT :: .ref mrV :: .ref msP :: .int mqs :: .ref mrA :: .ref mbA :: .ref mwA :: .ref mhA :: .ref mfA :: .ref mpA :: .ref mxA :: .ref myA :: .ref mmA :: .ref mqA :: .ref mzA :: .ref mwy :: .ref mfd :: .int msz :: .int (nI cz) :: .int mch :: .int mft :: .int mpt :: .int mdp :: .int mvd :: .long mnw :: .int mmk :: []))) (G.set i_1 (mo, .inr (12, (.int 0 :: .int (nI fd) :: .int mwr :: .int (nI K9) :: .int (nI KL) :: .ref moc :: .ref msT :: .ref mrV :: .ref msP :: .int mqs :: .ref mrA :: .ref mbA :: .ref mwA :: .ref mhA :: .ref mfA :: .ref mpA :: .ref mxA :: .ref myA :: .ref mmA :: .ref mqA :: .ref mzA :: .ref mwy :: .ref mfd :: .int msz :: .int (nI cz) :: .int mch :: .int mft :: .int mpt :: .int mdp :: .int mvd :: .long mnw :: .int mmk :: [])))) := ⟨kmo.1, List.mem_of_getElem? hg_1⟩
  have hD := hD3
  clear hD3 hD2
  generalize G.set i_1 (mo, .inr (12, (.int 0 :: .int (nI fd) :: .int mwr :: .int (nI K9) :: .int (nI KL) :: .ref moc :: .ref msT :: .ref mrV :: .ref msP :: .int mqs :: .ref mrA :: .ref mbA :: .ref mwA :: .ref mhA :: .ref mfA :: .ref mpA :: .ref mxA :: .ref myA :: .ref mmA :: .ref mqA :: .ref mzA :: .ref mwy :: .ref mfd :: .int msz :: .int (nI cz) :: .int mch :: .int mft :: .int mpt :: .int mdp :: .int mvd :: .long mnw :: .int mmk :: []))) = G_2 at hP hD hTy hFR kmo kmmA kmrA kmsT kmrV hg_1
  obtain ⟨cX_3, eX_3⟩ : ∃ z : va_E, z = .inr (12, (.int 0 :: .int (nI fd) :: .int mwr :: .int (nI K9) :: .int (nI KL) :: .ref moc :: .ref msT :: .ref mrV :: .ref msP :: .int mqs :: .ref mrA :: .ref mbA :: .ref mwA :: .ref mhA :: .ref mfA :: .ref mpA :: .ref mxA :: .ref myA :: .ref mmA :: .ref mqA :: .ref mzA :: .ref mwy :: .ref mfd :: .int msz :: .int (nI cz) :: .int mch :: .int mft :: .int mpt :: .int mdp :: .int mvd :: .long mnw :: .int mmk :: [])) := ⟨_, rfl⟩
  rw [← eX_3] at kmo
  refine lv_aload_n hx hb d_Model_signed_5 rfl (lv_at hl 0 rfl) ?_
  refine lv_iload_n hx hb d_Model_signed_6 rfl (lv_at hl 2 rfl) ?_
  refine lv_iconst (v := 0) hx hb d_Model_signed_7 (by decide) ?_
  refine lv_iload_n hx hb d_Model_signed_8 rfl (lv_at hl 1 rfl) ?_
  refine lv_if_eq (tgt := 19) hx hb d_Model_signed_9 (by decide) (fun c9 => ?_) (fun c9 => ?_)
  · exact absurd c9 (by decide)
  refine lv_aload_n hx hb d_Model_signed_12 rfl (lv_at hl 0 rfl) ?_
  refine va_get (v := .int (nI KL)) hx hb htb i_Model hown hK hP i_1 hg_1 rfl 4 (by decide) (htb _ q7_218) (fun _ h9 => h9) rfl d_Model_signed_13 ?_
  refine lv_goto (tgt := 23) hx hb d_Model_signed_16 (by decide) ?_
  refine lv_iconst (v := 1) hx hb d_Model_signed_23 (by decide) ?_
  refine lv_isub hx hb d_Model_signed_24 ?_
  refine vp_callSi (pu_callS (As := [.int ci, .int 0, .int ((nI KL) - 1)]) (rest := [.ref mo]) ⟨hx, hb, hml, hown, hts⟩ tbin (c_Model_in l dC dI sb ci (0 : Int32) ((nI KL) - 1)) q9_68 q8_116 q1_9 q8_117 (n := 3) (by decide +kernel) rfl ⟨rfl, rfl⟩ ⟨Nat.le_of_ble_eq_true rfl, Nat.le_of_ble_eq_true rfl⟩ ⟨Nat.le_of_ble_eq_true rfl, Nat.le_of_ble_eq_true rfl⟩ hN (hT0.keep hS hAs) hK hP [] (by simp only [List.filterMap_cons, List.filterMap_nil]) [] rfl hl.1 rfl (Nat.le_of_ble_eq_true rfl) d_Model_signed_25) (fun r25 hr25 => ?_)
  refine lv_if_eq (tgt := 45) hx hb d_Model_signed_28 (by decide) (fun c28 => ?_) (fun c28 => ?_)
  · have p28 : r25 = (0 : Int32) := c28
    refine lv_iconst (v := 1) hx hb d_Model_signed_45 (by decide) ?_
    refine lv_goto (tgt := 50) hx hb d_Model_signed_46 (by decide) ?_
    refine lv_iconst (v := 1) hx hb d_Model_signed_50 (by decide) ?_
    have hFc := va_free (wc := G_2) hD hS hA (List.range G_2.length) (rg_is _)
    refine va_calli (mu_runV (As := [.int 1, .int 1]) (rest := []) ⟨hx, hb, hml, hown, hts⟩ tbin (m_Model_fails_1 l dC dI sb γ κ Ad τ gT G_2 mo _ _ _ _ _ _ _ _ _ _ _ _ _ _ _ _ _ _ _ _ _ _ _ _ _ _ _ _ _ _ _ _ H2.size hTy (by have h9 := kmo; rw [eX_3] at h9; exact h9) (by decide)) q8_79 q8_81 qp_36 q1_9 q8_82 (n := 2) (by decide +kernel) rfl ⟨rfl, rfl⟩ ⟨Nat.le_of_ble_eq_true rfl, Nat.le_of_ble_eq_true rfl⟩ ⟨Nat.le_of_ble_eq_true rfl, Nat.le_of_ble_eq_true rfl⟩ hN (hT0.keep hS hAs) hAs (Nat.le_trans hB0 hS.1) hK hP hD (List.range G_2.length) (rg_nd _) (rg_is _) [0, 1, 2, 3, 4] rfl i_1 12 hg_1 rfl rfl hl.1 rfl (Nat.le_of_ble_eq_true rfl) d_Model_signed_51) hS (fun q _ h => hFc q h) hFc (fun r51 G_4 tS H51 locs ht hvm hw51 hB hz1 hk1 hS => ?_)
    obtain ⟨hTy, hF9, hr51⟩ := hw51
    have kmmA := kmmA.fl hF9 (q_nmc (hx_mo_mmA.symm) (q_nmn))
    have kmrA := kmrA.fl hF9 (q_nmc (hx_mo_mrA.symm) (q_nmn))
    have kmsT := kmsT.fl hF9 (q_nmc (hx_mo_msT.symm) (q_nmn))
    have kmrV := kmrV.fl hF9 (q_nmc (hx_mo_mrV.symm) (q_nmn))
    have hFR := hFR.tr (hF9.up (q_gac (by simp) (q_gan)))
    obtain ⟨hP1, hK1, hD1⟩ := hB
    rw [ht] at hP1
    have hP : va_P (dC, dI) classes G_4 H51 := hP1
    have hD : va_D A G_4 := hD1.weaken (fun _ _ _ h => hFc _ h)
    obtain ⟨hq51, kmo⟩ := hr51
    subst hq51
    obtain ⟨cX_5, eX_5⟩ : ∃ z : va_E, z = .inr (12, (.int 1 :: .int (nI fd) :: .int mwr :: .int (nI K9) :: .int (nI KL) :: .ref moc :: .ref msT :: .ref mrV :: .ref msP :: .int mqs :: .ref mrA :: .ref mbA :: .ref mwA :: .ref mhA :: .ref mfA :: .ref mpA :: .ref mxA :: .ref myA :: .ref mmA :: .ref mqA :: .ref mzA :: .ref mwy :: .ref mfd :: .int msz :: .int (nI cz) :: .int mch :: .int mft :: .int mpt :: .int mdp :: .int mvd :: .long mnw :: .int mmk :: [])) := ⟨_, rfl⟩
    rw [← eX_5] at kmo
    refine lv_if_eq (tgt := 59) hx hb d_Model_signed_54 (by decide) (fun c54 => ?_) (fun c54 => ?_)
    · exact absurd c54 (by decide)
    refine lv_iconst (v := 0) hx hb d_Model_signed_57 (by decide) ?_
    exact W.zret (v := 0) hx hb hr rfl (fun t ht hW => ⟨⟨_, G_4, rfl, ⟨hTy, hFR, Or.inr ⟨fun q => bz_0 hr25 p28 (in_rng (by omega) q.1), (by rw [eX_5] at kmo; exact kmo)⟩, ⟨_, hfm, kmmA⟩, ⟨_, hfr, kmrA⟩⟩, by rw [ht]; exact hP, va_K.moved hW.alike hK, hD⟩, hS.F ht⟩) hS.2.2 d_Model_signed_58
  · have p28 : ¬ (r25 = (0 : Int32)) := c28
    refine lv_iload_n hx hb d_Model_signed_31 rfl (lv_at hl 3 rfl) ?_
    refine lv_iconst (v := 0) hx hb d_Model_signed_32 (by decide) ?_
    refine lv_aload_n hx hb d_Model_signed_33 rfl (lv_at hl 0 rfl) ?_
    refine va_get (v := .int (nI K9)) hx hb htb i_Model hown hK hP i_1 hg_1 rfl 3 (by decide) (htb _ q7_217) (fun _ h9 => h9) rfl d_Model_signed_34 ?_
    refine lv_iconst (v := 1) hx hb d_Model_signed_37 (by decide) ?_
    refine lv_isub hx hb d_Model_signed_38 ?_
    refine vp_callSi (pu_callS (As := [.int bi, .int 0, .int ((nI K9) - 1)]) (rest := [.ref mo]) ⟨hx, hb, hml, hown, hts⟩ tbin (c_Model_in l dC dI sb bi (0 : Int32) ((nI K9) - 1)) q9_68 q8_116 q1_9 q8_117 (n := 3) (by decide +kernel) rfl ⟨rfl, rfl⟩ ⟨Nat.le_of_ble_eq_true rfl, Nat.le_of_ble_eq_true rfl⟩ ⟨Nat.le_of_ble_eq_true rfl, Nat.le_of_ble_eq_true rfl⟩ hN (hT0.keep hS hAs) hK hP [] (by simp only [List.filterMap_cons, List.filterMap_nil]) [] rfl hl.1 rfl (Nat.le_of_ble_eq_true rfl) d_Model_signed_39) (fun r39 hr39 => ?_)
    refine lv_if_ne (tgt := 49) hx hb d_Model_signed_42 (by decide) (fun c42 => ?_) (fun c42 => ?_)
    · have p42 : ¬ (r39 = (0 : Int32)) := c42
      refine lv_iconst (v := 0) hx hb d_Model_signed_49 (by decide) ?_
      refine lv_iconst (v := 1) hx hb d_Model_signed_50 (by decide) ?_
      have hFc := va_free (wc := G_2) hD hS hA (List.range G_2.length) (rg_is _)
      refine va_calli (mu_runV (As := [.int 0, .int 1]) (rest := []) ⟨hx, hb, hml, hown, hts⟩ tbin (m_Model_fails_0 l dC dI sb γ κ Ad τ gT G_2 mo _ _ _ _ _ _ _ _ _ _ _ _ _ _ _ _ _ _ _ _ _ _ _ _ _ _ _ _ _ _ _ _ H2.size hTy (by have h9 := kmo; rw [eX_3] at h9; exact h9) ) q8_79 q8_81 qp_36 q1_9 q8_82 (n := 2) (by decide +kernel) rfl ⟨rfl, rfl⟩ ⟨Nat.le_of_ble_eq_true rfl, Nat.le_of_ble_eq_true rfl⟩ ⟨Nat.le_of_ble_eq_true rfl, Nat.le_of_ble_eq_true rfl⟩ hN (hT0.keep hS hAs) hAs (Nat.le_trans hB0 hS.1) hK hP hD (List.range G_2.length) (rg_nd _) (rg_is _) [0, 1, 2, 3, 4] rfl i_1 12 hg_1 rfl rfl hl.1 rfl (Nat.le_of_ble_eq_true rfl) d_Model_signed_51) hS (fun q _ h => hFc q h) hFc (fun r51 G_6 tS H51 locs ht hvm hw51 hB hz1 hk1 hS => ?_)
      obtain ⟨hTy, hF9, hr51⟩ := hw51
      have kmo := kmo.fl hF9 (q_nmn)
      have kmmA := kmmA.fl hF9 (q_nmn)
      have kmrA := kmrA.fl hF9 (q_nmn)
      have kmsT := kmsT.fl hF9 (q_nmn)
      have kmrV := kmrV.fl hF9 (q_nmn)
      have hFR := hFR.tr (hF9.up (q_gan))
      obtain ⟨hP1, hK1, hD1⟩ := hB
      rw [ht] at hP1
      have hP : va_P (dC, dI) classes G_6 H51 := hP1
      have hD : va_D A G_6 := hD1.weaken (fun _ _ _ h => hFc _ h)
      subst hr51
      refine lv_if_eq (tgt := 59) hx hb d_Model_signed_54 (by decide) (fun c54 => ?_) (fun c54 => ?_)
      rotate_left
      · exact absurd c54 (by decide)
      obtain ⟨k9, hk9, rfl⟩ := in_k (by omega) (bz_1 hr25 p28)
      obtain ⟨k8, hk8, rfl⟩ := in_k (by omega) (bz_1 hr39 p42)
      refine lv_aload_n hx hb d_Model_signed_59 rfl (lv_at hl 0 rfl) ?_
      refine lv_iload_n hx hb d_Model_signed_60 rfl (lv_at hl 1 rfl) ?_
      refine lv_if_eq (tgt := 73) hx hb d_Model_signed_61 (by decide) (fun c61 => ?_) (fun c61 => ?_)
      · exact absurd c61 (by decide)
      refine lv_aload_n hx hb d_Model_signed_64 rfl (lv_at hl 0 rfl) ?_
      obtain ⟨i_7, hg_7⟩ := List.getElem?_of_mem kmo.2
      rw [eX_3] at hg_7
      refine va_get (v := .ref mrV) hx hb htb i_Model hown hK hP i_7 hg_7 rfl 7 (by decide) (htb _ q7_221) (fun _ h9 => h9) rfl d_Model_signed_65 ?_
      refine lv_iload_n hx hb d_Model_signed_68 rfl (lv_at hl 2 rfl) ?_
      obtain ⟨i_8, hg_8⟩ := List.getElem?_of_mem kmrV.2
      have h69 : vp_in (nI k9) 8 := vp_in_nI (by omega) (by omega)
      refine va_aldq hx hb hK hP i_8 4 hg_8 rfl h69 d_Model_signed_69 ?_
      obtain ⟨t69, ft69, kt69, hc_t69⟩ := hrv k9 (by omega)
      rw [show va_rf (fV (nI k9).toNatClampNeg) = .ref t69 from by rw [nI_clamp (by omega), ft69]; rfl]
      have b1_t69 := hc_t69.b1
      have b2_t69 := hc_t69.b2
      have b3_t69 := hc_t69.b3
      have b4_t69 := hc_t69.b4
      refine lv_goto (tgt := 79) hx hb d_Model_signed_70 (by decide) ?_
      refine lv_aload_n hx hb d_Model_signed_79 rfl (lv_at hl 0 rfl) ?_
      refine va_get (v := .ref msT) hx hb htb i_Model hown hK hP i_7 hg_7 rfl 6 (by decide) (htb _ q7_220) (fun _ h9 => h9) rfl d_Model_signed_80 ?_
      refine lv_iload_n hx hb d_Model_signed_83 rfl (lv_at hl 3 rfl) ?_
      obtain ⟨i_9, hg_9⟩ := List.getElem?_of_mem kmsT.2
      have h84 : vp_in (nI k8) 16 := vp_in_nI (by omega) (by omega)
      refine va_aldq hx hb hK hP i_9 4 hg_9 rfl h84 d_Model_signed_84 ?_
      obtain ⟨t84, ft84, kt84, hc_t84⟩ := hst k8 (by omega)
      rw [show va_rf (fS (nI k8).toNatClampNeg) = .ref t84 from by rw [nI_clamp (by omega), ft84]; rfl]
      have b1_t84 := hc_t84.b1
      have b2_t84 := hc_t84.b2
      have b3_t84 := hc_t84.b3
      have b4_t84 := hc_t84.b4
      have b5_t84 := hc_t84.b5
      have b6_t84 := hc_t84.b6
      have b8_t84 := hc_t84.b8
      have b9_t84 := hc_t84.b9
      have hFc := va_free (wc := G_6) hD hS hA (List.range G_6.length) (rg_is _)
      refine va_calli (mu_runV (As := [.ref t69, .ref t84]) (rest := []) ⟨hx, hb, hml, hown, hts⟩ tbin (m9_Model_isSigned l dC dI sb γ κ Ad τ gT G_6 mo t69 t84 _ _ _ _ _ _ _ _ _ _ _ _ _ _ _ _ _ _ _ _ _ _ _ _ _ _ _ _ _ _ _ _ _ _ H51.size hTy (by have h9 := kmo; rw [eX_3] at h9; exact h9) kt69 kt84 kmmA kmrA kmzA kmqA kmyA kmxA kmbA kmwA kmhA kmpA kmfA hx_mo_mmA hx_mo_mrA hx_mmA_mrA hc_t69.toTB hc_t84 hfm hfr) q9_96 q9_98 qp_42 q1_9 q9_99 (n := 2) (by decide +kernel) rfl ⟨rfl, rfl⟩ ⟨Nat.le_of_ble_eq_true rfl, Nat.le_of_ble_eq_true rfl⟩ ⟨Nat.le_of_ble_eq_true rfl, Nat.le_of_ble_eq_true rfl⟩ hN (hT0.keep hS hAs) hAs (Nat.le_trans hB0 hS.1) hK hP hD (List.range G_6.length) (rg_nd _) (rg_is _) [0, 1, 2, 3, 4] rfl i_7 12 hg_7 rfl rfl hl.1 rfl (Nat.le_of_ble_eq_true rfl) d_Model_signed_85) hS (fun q _ h => hFc q h) hFc (fun r85 G_10 tS H85 locs ht hvm hw85 hB hz1 hk1 hS => ?_)
      obtain ⟨hTy, hF9, hr85⟩ := hw85
      have kmsT := kmsT.fl hF9 (q_nmc (hx_mo_msT.symm) (q_nmc (hx_mmA_msT.symm) (q_nmc (hx_mrA_msT.symm) (q_nmn))))
      have kmrV := kmrV.fl hF9 (q_nmc (hx_mo_mrV.symm) (q_nmc (hx_mmA_mrV.symm) (q_nmc (hx_mrA_mrV.symm) (q_nmn))))
      have hFR := hFR.tr (hF9.up (q_gac (by simp) (q_gac (by simp) (q_gac (by simp) (q_gan)))))
      obtain ⟨hP1, hK1, hD1⟩ := hB
      rw [ht] at hP1
      have hP : va_P (dC, dI) classes G_10 H85 := hP1
      have hD : va_D A G_10 := hD1.weaken (fun _ _ _ h => hFc _ h)
      obtain ⟨hz85, ⟨q85, kmo⟩, ⟨fa85, hfm, kmmA⟩, ⟨fb85, hfr, kmrA⟩⟩ := hr85
      obtain ⟨cX_11, eX_11⟩ : ∃ z : va_E, z = .inr (12, (.int 0 :: .int (nI fd) :: .int mwr :: .int (nI K9) :: .int (nI KL) :: .ref moc :: .ref msT :: .ref mrV :: .ref msP :: .int q85 :: .ref mrA :: .ref mbA :: .ref mwA :: .ref mhA :: .ref mfA :: .ref mpA :: .ref mxA :: .ref myA :: .ref mmA :: .ref mqA :: .ref mzA :: .ref mwy :: .ref mfd :: .int msz :: .int (nI cz) :: .int mch :: .int mft :: .int mpt :: .int mdp :: .int mvd :: .long mnw :: .int mmk :: [])) := ⟨_, rfl⟩
      rw [← eX_11] at kmo
      exact W.zret (v := r85) hx hb hr (bz_n hz85) (fun t ht hW => ⟨⟨_, G_10, rfl, ⟨hTy, hFR, Or.inl ⟨k9, k8, t69, t84, _, hk9, rfl, hk8, rfl, ft69, ft84, hz85, (by rw [eX_11] at kmo; exact kmo)⟩, ⟨_, hfm, kmmA⟩, ⟨_, hfr, kmrA⟩⟩, by rw [ht]; exact hP, va_K.moved hW.alike hK, hD⟩, hS.F ht⟩) hS.2.2 d_Model_signed_88
    · have p42 : r39 = (0 : Int32) := c42
      refine lv_iconst (v := 1) hx hb d_Model_signed_45 (by decide) ?_
      refine lv_goto (tgt := 50) hx hb d_Model_signed_46 (by decide) ?_
      refine lv_iconst (v := 1) hx hb d_Model_signed_50 (by decide) ?_
      have hFc := va_free (wc := G_2) hD hS hA (List.range G_2.length) (rg_is _)
      refine va_calli (mu_runV (As := [.int 1, .int 1]) (rest := []) ⟨hx, hb, hml, hown, hts⟩ tbin (m_Model_fails_1 l dC dI sb γ κ Ad τ gT G_2 mo _ _ _ _ _ _ _ _ _ _ _ _ _ _ _ _ _ _ _ _ _ _ _ _ _ _ _ _ _ _ _ _ H2.size hTy (by have h9 := kmo; rw [eX_3] at h9; exact h9) (by decide)) q8_79 q8_81 qp_36 q1_9 q8_82 (n := 2) (by decide +kernel) rfl ⟨rfl, rfl⟩ ⟨Nat.le_of_ble_eq_true rfl, Nat.le_of_ble_eq_true rfl⟩ ⟨Nat.le_of_ble_eq_true rfl, Nat.le_of_ble_eq_true rfl⟩ hN (hT0.keep hS hAs) hAs (Nat.le_trans hB0 hS.1) hK hP hD (List.range G_2.length) (rg_nd _) (rg_is _) [0, 1, 2, 3, 4] rfl i_1 12 hg_1 rfl rfl hl.1 rfl (Nat.le_of_ble_eq_true rfl) d_Model_signed_51) hS (fun q _ h => hFc q h) hFc (fun r51 G_12 tS H51 locs ht hvm hw51 hB hz1 hk1 hS => ?_)
      obtain ⟨hTy, hF9, hr51⟩ := hw51
      have kmmA := kmmA.fl hF9 (q_nmc (hx_mo_mmA.symm) (q_nmn))
      have kmrA := kmrA.fl hF9 (q_nmc (hx_mo_mrA.symm) (q_nmn))
      have kmsT := kmsT.fl hF9 (q_nmc (hx_mo_msT.symm) (q_nmn))
      have kmrV := kmrV.fl hF9 (q_nmc (hx_mo_mrV.symm) (q_nmn))
      have hFR := hFR.tr (hF9.up (q_gac (by simp) (q_gan)))
      obtain ⟨hP1, hK1, hD1⟩ := hB
      rw [ht] at hP1
      have hP : va_P (dC, dI) classes G_12 H51 := hP1
      have hD : va_D A G_12 := hD1.weaken (fun _ _ _ h => hFc _ h)
      obtain ⟨hq51, kmo⟩ := hr51
      subst hq51
      obtain ⟨cX_13, eX_13⟩ : ∃ z : va_E, z = .inr (12, (.int 1 :: .int (nI fd) :: .int mwr :: .int (nI K9) :: .int (nI KL) :: .ref moc :: .ref msT :: .ref mrV :: .ref msP :: .int mqs :: .ref mrA :: .ref mbA :: .ref mwA :: .ref mhA :: .ref mfA :: .ref mpA :: .ref mxA :: .ref myA :: .ref mmA :: .ref mqA :: .ref mzA :: .ref mwy :: .ref mfd :: .int msz :: .int (nI cz) :: .int mch :: .int mft :: .int mpt :: .int mdp :: .int mvd :: .long mnw :: .int mmk :: [])) := ⟨_, rfl⟩
      rw [← eX_13] at kmo
      refine lv_if_eq (tgt := 59) hx hb d_Model_signed_54 (by decide) (fun c54 => ?_) (fun c54 => ?_)
      · exact absurd c54 (by decide)
      refine lv_iconst (v := 0) hx hb d_Model_signed_57 (by decide) ?_
      exact W.zret (v := 0) hx hb hr rfl (fun t ht hW => ⟨⟨_, G_12, rfl, ⟨hTy, hFR, Or.inr ⟨fun q => bz_0 hr39 p42 (in_rng (by omega) q.2), (by rw [eX_13] at kmo; exact kmo)⟩, ⟨_, hfm, kmmA⟩, ⟨_, hfr, kmrA⟩⟩, by rw [ht]; exact hP, va_K.moved hW.alike hK, hD⟩, hS.F ht⟩) hS.2.2 d_Model_signed_58
theorem d_Model_covers_17 : decode b_Model_covers 17 = .ok (.istore 10, 2) := by decide +kernel
theorem d_Model_covers_19 : decode b_Model_covers 19 = .ok (.iconst 0, 1) := by decide +kernel
theorem d_Model_covers_20 : decode b_Model_covers 20 = .ok (.istore 11, 2) := by decide +kernel
theorem d_Model_covers_22 : decode b_Model_covers 22 = .ok (.iload 11, 2) := by decide +kernel
theorem d_Model_covers_24 : decode b_Model_covers 24 = .ok (.bipush 32, 2) := by decide +kernel
theorem d_Model_covers_26 : decode b_Model_covers 26 = .ok (.if_icmp .ge 93, 3) := by decide +kernel
theorem d_Model_covers_29 : decode b_Model_covers 29 = .ok (.iload 10, 2) := by decide +kernel
theorem d_Model_covers_31 : decode b_Model_covers 31 = .ok (.iload 11, 2) := by decide +kernel
theorem d_Model_covers_33 : decode b_Model_covers 33 = .ok (.if_icmp .ne 86, 3) := by decide +kernel
theorem d_Model_covers_36 : decode b_Model_covers 36 = .ok (.iload 11, 2) := by decide +kernel
theorem d_Model_covers_38 : decode b_Model_covers 38 = .ok (.bipush 8, 2) := by decide +kernel
theorem d_Model_covers_40 : decode b_Model_covers 40 = .ok (.if_icmp .ge 7, 3) := by decide +kernel
theorem d_Model_covers_43 : decode b_Model_covers 43 = .ok (.lload_n 2, 1) := by decide +kernel
theorem d_Model_covers_44 : decode b_Model_covers 44 = .ok (.goto 29, 3) := by decide +kernel
theorem d_Model_covers_47 : decode b_Model_covers 47 = .ok (.iload 11, 2) := by decide +kernel
theorem d_Model_covers_49 : decode b_Model_covers 49 = .ok (.bipush 16, 2) := by decide +kernel
theorem d_Model_covers_51 : decode b_Model_covers 51 = .ok (.if_icmp .ge 8, 3) := by decide +kernel
theorem d_Model_covers_54 : decode b_Model_covers 54 = .ok (.lload 4, 2) := by decide +kernel
theorem d_Model_covers_56 : decode b_Model_covers 56 = .ok (.goto 17, 3) := by decide +kernel
theorem d_Model_covers_59 : decode b_Model_covers 59 = .ok (.iload 11, 2) := by decide +kernel
theorem d_Model_covers_61 : decode b_Model_covers 61 = .ok (.bipush 24, 2) := by decide +kernel
theorem d_Model_covers_63 : decode b_Model_covers 63 = .ok (.if_icmp .ge 8, 3) := by decide +kernel
theorem d_Model_covers_66 : decode b_Model_covers 66 = .ok (.lload 6, 2) := by decide +kernel
theorem d_Model_covers_68 : decode b_Model_covers 68 = .ok (.goto 5, 3) := by decide +kernel
theorem d_Model_covers_71 : decode b_Model_covers 71 = .ok (.lload 8, 2) := by decide +kernel
theorem d_Model_covers_73 : decode b_Model_covers 73 = .ok (.lstore 12, 2) := by decide +kernel
theorem d_Model_covers_75 : decode b_Model_covers 75 = .ok (.lload 12, 2) := by decide +kernel
theorem d_Model_covers_77 : decode b_Model_covers 77 = .ok (.bipush 56, 2) := by decide +kernel
theorem d_Model_covers_79 : decode b_Model_covers 79 = .ok (.bipush 8, 2) := by decide +kernel
theorem d_Model_covers_81 : decode b_Model_covers 81 = .ok (.iload 11, 2) := by decide +kernel
theorem d_Model_covers_83 : decode b_Model_covers 83 = .ok (.bipush 7, 2) := by decide +kernel
theorem d_Model_covers_85 : decode b_Model_covers 85 = .ok (.iand, 1) := by decide +kernel
theorem d_Model_covers_86 : decode b_Model_covers 86 = .ok (.imul, 1) := by decide +kernel
theorem d_Model_covers_87 : decode b_Model_covers 87 = .ok (.isub, 1) := by decide +kernel
theorem d_Model_covers_88 : decode b_Model_covers 88 = .ok (.lushr, 1) := by decide +kernel
theorem d_Model_covers_89 : decode b_Model_covers 89 = .ok (.l2i, 1) := by decide +kernel
theorem d_Model_covers_90 : decode b_Model_covers 90 = .ok (.sipush 255, 3) := by decide +kernel
theorem d_Model_covers_93 : decode b_Model_covers 93 = .ok (.iand, 1) := by decide +kernel
theorem d_Model_covers_94 : decode b_Model_covers 94 = .ok (.istore 14, 2) := by decide +kernel
theorem d_Model_covers_96 : decode b_Model_covers 96 = .ok (.iload 14, 2) := by decide +kernel
theorem d_Model_covers_98 : decode b_Model_covers 98 = .ok (.ifCond .eq 15, 3) := by decide +kernel
theorem d_Model_covers_101 : decode b_Model_covers 101 = .ok (.aload_n 0, 1) := by decide +kernel
theorem d_Model_covers_102 : decode b_Model_covers 102 = .ok (.getfield 121, 3) := by decide +kernel
theorem d_Model_covers_105 : decode b_Model_covers 105 = .ok (.iload 10, 2) := by decide +kernel
theorem d_Model_covers_107 : decode b_Model_covers 107 = .ok (.iinc 10 1, 3) := by decide +kernel
theorem d_Model_covers_110 : decode b_Model_covers 110 = .ok (.iload 14, 2) := by decide +kernel
theorem d_Model_covers_112 : decode b_Model_covers 112 = .ok (.iastore, 1) := by decide +kernel
theorem d_Model_covers_113 : decode b_Model_covers 113 = .ok (.iinc 11 1, 3) := by decide +kernel
theorem d_Model_covers_116 : decode b_Model_covers 116 = .ok (.goto (-94), 3) := by decide +kernel
theorem d_Model_covers_119 : decode b_Model_covers 119 = .ok (.iconst 0, 1) := by decide +kernel
theorem d_Model_covers_120 : decode b_Model_covers 120 = .ok (.istore 11, 2) := by decide +kernel
theorem d_Model_covers_122 : decode b_Model_covers 122 = .ok (.iload 11, 2) := by decide +kernel
theorem d_Model_covers_124 : decode b_Model_covers 124 = .ok (.iload 10, 2) := by decide +kernel
theorem d_Model_covers_126 : decode b_Model_covers 126 = .ok (.if_icmp .ge 21, 3) := by decide +kernel
theorem d_Model_covers_129 : decode b_Model_covers 129 = .ok (.aload_n 0, 1) := by decide +kernel
theorem d_Model_covers_130 : decode b_Model_covers 130 = .ok (.getfield 121, 3) := by decide +kernel
theorem d_Model_covers_133 : decode b_Model_covers 133 = .ok (.iload 11, 2) := by decide +kernel
theorem d_Model_covers_135 : decode b_Model_covers 135 = .ok (.iaload, 1) := by decide +kernel
theorem d_Model_covers_136 : decode b_Model_covers 136 = .ok (.bipush 46, 2) := by decide +kernel
theorem d_Model_covers_138 : decode b_Model_covers 138 = .ok (.if_icmp .eq 9, 3) := by decide +kernel
theorem d_Model_covers_141 : decode b_Model_covers 141 = .ok (.iinc 11 1, 3) := by decide +kernel
theorem d_Model_covers_144 : decode b_Model_covers 144 = .ok (.goto (-22), 3) := by decide +kernel
theorem d_Model_covers_147 : decode b_Model_covers 147 = .ok (.aload_n 0, 1) := by decide +kernel
theorem d_Model_covers_148 : decode b_Model_covers 148 = .ok (.getfield 19, 3) := by decide +kernel
theorem d_Model_covers_151 : decode b_Model_covers 151 = .ok (.iload_n 1, 1) := by decide +kernel
theorem d_Model_covers_152 : decode b_Model_covers 152 = .ok (.aaload, 1) := by decide +kernel
theorem d_Model_covers_153 : decode b_Model_covers 153 = .ok (.astore 12, 2) := by decide +kernel
theorem d_Model_covers_155 : decode b_Model_covers 155 = .ok (.iconst 0, 1) := by decide +kernel
theorem d_Model_covers_156 : decode b_Model_covers 156 = .ok (.istore 13, 2) := by decide +kernel
theorem d_Model_covers_158 : decode b_Model_covers 158 = .ok (.iload 13, 2) := by decide +kernel
theorem d_Model_covers_160 : decode b_Model_covers 160 = .ok (.aload 12, 2) := by decide +kernel
theorem d_Model_covers_162 : decode b_Model_covers 162 = .ok (.getfield 237, 3) := by decide +kernel
theorem d_Model_covers_165 : decode b_Model_covers 165 = .ok (.if_icmp .ge 121, 3) := by decide +kernel
theorem d_Model_covers_168 : decode b_Model_covers 168 = .ok (.aload 12, 2) := by decide +kernel
theorem d_Model_covers_170 : decode b_Model_covers 170 = .ok (.getfield 403, 3) := by decide +kernel
theorem d_Model_covers_173 : decode b_Model_covers 173 = .ok (.iload 13, 2) := by decide +kernel
theorem d_Model_covers_175 : decode b_Model_covers 175 = .ok (.iaload, 1) := by decide +kernel
theorem d_Model_covers_176 : decode b_Model_covers 176 = .ok (.istore 14, 2) := by decide +kernel
theorem d_Model_covers_178 : decode b_Model_covers 178 = .ok (.aload 12, 2) := by decide +kernel
theorem d_Model_covers_180 : decode b_Model_covers 180 = .ok (.getfield 406, 3) := by decide +kernel
theorem d_Model_covers_183 : decode b_Model_covers 183 = .ok (.iload 13, 2) := by decide +kernel
theorem d_Model_covers_185 : decode b_Model_covers 185 = .ok (.iaload, 1) := by decide +kernel
theorem d_Model_covers_186 : decode b_Model_covers 186 = .ok (.iload 14, 2) := by decide +kernel
theorem d_Model_covers_188 : decode b_Model_covers 188 = .ok (.isub, 1) := by decide +kernel
theorem d_Model_covers_189 : decode b_Model_covers 189 = .ok (.istore 15, 2) := by decide +kernel
theorem d_Model_covers_191 : decode b_Model_covers 191 = .ok (.aload_n 0, 1) := by decide +kernel
theorem d_Model_covers_192 : decode b_Model_covers 192 = .ok (.aload 12, 2) := by decide +kernel
theorem d_Model_covers_194 : decode b_Model_covers 194 = .ok (.iload 14, 2) := by decide +kernel
theorem d_Model_covers_196 : decode b_Model_covers 196 = .ok (.iload 15, 2) := by decide +kernel
theorem d_Model_covers_198 : decode b_Model_covers 198 = .ok (.iconst 0, 1) := by decide +kernel
theorem d_Model_covers_199 : decode b_Model_covers 199 = .ok (.iload 10, 2) := by decide +kernel
theorem d_Model_covers_201 : decode b_Model_covers 201 = .ok (.invokevirtual 435, 3) := by decide +kernel
theorem d_Model_covers_204 : decode b_Model_covers 204 = .ok (.ifCond .eq 5, 3) := by decide +kernel
theorem d_Model_covers_207 : decode b_Model_covers 207 = .ok (.iconst 1, 1) := by decide +kernel
theorem d_Model_covers_208 : decode b_Model_covers 208 = .ok (.ireturn, 1) := by decide +kernel
theorem d_Model_covers_209 : decode b_Model_covers 209 = .ok (.iload 11, 2) := by decide +kernel
theorem d_Model_covers_211 : decode b_Model_covers 211 = .ok (.iload 10, 2) := by decide +kernel
theorem d_Model_covers_213 : decode b_Model_covers 213 = .ok (.if_icmp .ge 67, 3) := by decide +kernel
theorem d_Model_covers_216 : decode b_Model_covers 216 = .ok (.iload 15, 2) := by decide +kernel
theorem d_Model_covers_218 : decode b_Model_covers 218 = .ok (.iconst 2, 1) := by decide +kernel
theorem d_Model_covers_219 : decode b_Model_covers 219 = .ok (.if_icmp .lt 61, 3) := by decide +kernel
theorem d_Model_covers_222 : decode b_Model_covers 222 = .ok (.aload 12, 2) := by decide +kernel
theorem d_Model_covers_224 : decode b_Model_covers 224 = .ok (.getfield 189, 3) := by decide +kernel
theorem d_Model_covers_227 : decode b_Model_covers 227 = .ok (.iload 14, 2) := by decide +kernel
theorem d_Model_covers_229 : decode b_Model_covers 229 = .ok (.iaload, 1) := by decide +kernel
theorem d_Model_covers_230 : decode b_Model_covers 230 = .ok (.bipush 42, 2) := by decide +kernel
theorem d_Model_covers_232 : decode b_Model_covers 232 = .ok (.if_icmp .ne 48, 3) := by decide +kernel
theorem d_Model_covers_235 : decode b_Model_covers 235 = .ok (.aload 12, 2) := by decide +kernel
theorem d_Model_covers_237 : decode b_Model_covers 237 = .ok (.getfield 189, 3) := by decide +kernel
theorem d_Model_covers_240 : decode b_Model_covers 240 = .ok (.iload 14, 2) := by decide +kernel
theorem d_Model_covers_242 : decode b_Model_covers 242 = .ok (.iconst 1, 1) := by decide +kernel
theorem d_Model_covers_243 : decode b_Model_covers 243 = .ok (.iadd, 1) := by decide +kernel
theorem d_Model_covers_244 : decode b_Model_covers 244 = .ok (.iaload, 1) := by decide +kernel
theorem d_Model_covers_245 : decode b_Model_covers 245 = .ok (.bipush 46, 2) := by decide +kernel
theorem d_Model_covers_247 : decode b_Model_covers 247 = .ok (.if_icmp .ne 33, 3) := by decide +kernel
theorem d_Model_covers_250 : decode b_Model_covers 250 = .ok (.aload_n 0, 1) := by decide +kernel
theorem d_Model_covers_251 : decode b_Model_covers 251 = .ok (.aload 12, 2) := by decide +kernel
theorem d_Model_covers_253 : decode b_Model_covers 253 = .ok (.iload 14, 2) := by decide +kernel
theorem d_Model_covers_255 : decode b_Model_covers 255 = .ok (.iconst 2, 1) := by decide +kernel
theorem d_Model_covers_256 : decode b_Model_covers 256 = .ok (.iadd, 1) := by decide +kernel
theorem d_Model_covers_257 : decode b_Model_covers 257 = .ok (.iload 15, 2) := by decide +kernel
theorem d_Model_covers_259 : decode b_Model_covers 259 = .ok (.iconst 2, 1) := by decide +kernel
theorem d_Model_covers_260 : decode b_Model_covers 260 = .ok (.isub, 1) := by decide +kernel
theorem d_Model_covers_261 : decode b_Model_covers 261 = .ok (.iload 11, 2) := by decide +kernel
theorem d_Model_covers_263 : decode b_Model_covers 263 = .ok (.iconst 1, 1) := by decide +kernel
theorem d_Model_covers_264 : decode b_Model_covers 264 = .ok (.iadd, 1) := by decide +kernel
theorem d_Model_covers_265 : decode b_Model_covers 265 = .ok (.iload 10, 2) := by decide +kernel
theorem d_Model_covers_267 : decode b_Model_covers 267 = .ok (.iload 11, 2) := by decide +kernel
theorem d_Model_covers_269 : decode b_Model_covers 269 = .ok (.isub, 1) := by decide +kernel
theorem d_Model_covers_270 : decode b_Model_covers 270 = .ok (.iconst 1, 1) := by decide +kernel
theorem d_Model_covers_271 : decode b_Model_covers 271 = .ok (.isub, 1) := by decide +kernel
theorem d_Model_covers_272 : decode b_Model_covers 272 = .ok (.invokevirtual 435, 3) := by decide +kernel
theorem d_Model_covers_275 : decode b_Model_covers 275 = .ok (.ifCond .eq 5, 3) := by decide +kernel
theorem d_Model_covers_278 : decode b_Model_covers 278 = .ok (.iconst 1, 1) := by decide +kernel
theorem d_Model_covers_279 : decode b_Model_covers 279 = .ok (.ireturn, 1) := by decide +kernel
theorem d_Model_covers_280 : decode b_Model_covers 280 = .ok (.iinc 13 1, 3) := by decide +kernel
theorem d_Model_covers_283 : decode b_Model_covers 283 = .ok (.goto (-125), 3) := by decide +kernel
theorem d_Model_covers_286 : decode b_Model_covers 286 = .ok (.iconst 0, 1) := by decide +kernel
theorem d_Model_covers_287 : decode b_Model_covers 287 = .ok (.ireturn, 1) := by decide +kernel
set_option maxHeartbeats 4000000 in
set_option maxRecDepth 100000 in
theorem m_Model_covers_1 (l : Launch) (dC : Nat → ClassId) (dI : Nat → Nat → Nat) (sb : sB) (γ : cG) (κ : kE) (Ad : List Nat) (τ : Nat → TD) (gT : ClassId) (G : va_W) (mo : Nat) (moc msT mrV msP mrA mbA mwA mhA mfA mpA mxA myA mmA mqA mzA mwy mfd : Nat) (mer mwr mqs msz mch mft mpt mdp mvd mmk : Int32) (mnw : Int64) (K9 KL cz fd : Nat) (ci : Int32) (la lb ld le : Int64) (sz : Nat) (hTy : TR γ κ Ad τ G) (kmo : Xc Ad mo (.inr (12, (.int mer :: .int (nI fd) :: .int mwr :: .int (nI K9) :: .int (nI KL) :: .ref moc :: .ref msT :: .ref mrV :: .ref msP :: .int mqs :: .ref mrA :: .ref mbA :: .ref mwA :: .ref mhA :: .ref mfA :: .ref mpA :: .ref mxA :: .ref myA :: .ref mmA :: .ref mqA :: .ref mzA :: .ref mwy :: .ref mfd :: .int msz :: .int (nI cz) :: .int mch :: .int mft :: .int mpt :: .int mdp :: .int mvd :: .long mnw :: .int mmk :: []))) G) (hbad : ¬ (¬ ci < 0 ∧ ci < nI K9)) (hK9 : K9 ≤ 16) : Met l y_Model_covers w_Model_covers ({ frames := 3, cells := 0, slots := 0, locals := 68 }) (mu_P [.ref mo, .int ci, .long la, .long lb, .long ld, .long le] (dC, dI) sb G [(γ.1, .byte), (γ.2.1, .int), (γ.2.2.1, .long), (γ.2.2.2, .object "java/lang/Object"), (gT, .object "TrustChainModel$Text")] sz) (va_Qi (fun r (G' : va_W) => TR γ κ Ad τ G' ∧ FL Ad [mo] G G' ∧ (r = 0 ∧ Xc Ad mo (.inr (12, (.int 1 :: .int (nI fd) :: .int mwr :: .int (nI K9) :: .int (nI KL) :: .ref moc :: .ref msT :: .ref mrV :: .ref msP :: .int mqs :: .ref mrA :: .ref mbA :: .ref mwA :: .ref mhA :: .ref mfA :: .ref mpA :: .ref mxA :: .ref myA :: .ref mmA :: .ref mqA :: .ref mzA :: .ref mwy :: .ref mfd :: .int msz :: .int (nI cz) :: .int mch :: .int mft :: .int mpt :: .int mdp :: .int mvd :: .long mnw :: .int mmk :: []))) G')) (mu_B (dC, dI) [(γ.1, .byte), (γ.2.1, .int), (γ.2.2.1, .long), (γ.2.2.2, .object "java/lang/Object"), (gT, .object "TrustChainModel$Text")] (va_A G sz) (fun G' : va_W => G')) (va_A G sz)) 0 0 (va_A G sz) := by
  refine Met.ofW (cc := b_Model_covers) (maxL := 16) (ret := (some FieldType.boolean)) (by decide) rfl ?_
  intro p e s m args below meth c s₁ B hml hv
  obtain ⟨rfl, hsz, hB0, hP, hK, hD0, hN, hT0⟩ := hv
  have hx := B.exec
  have hb := B.bytes
  have hr := B.returns
  have hts := atoms_spec (ws := w_Model_covers) B.pre
  have tbin : ∀ w ∈ tb, w ∈ w_Model_covers := fun w h => List.mem_cons_of_mem _ h
  have htb : ∀ w ∈ tb, w.before _ s = true := fun w h => hts w (tbin w h)
  have hown : s.vm.findClass "TrustChainModel" = some m.cls := findClass_of_methodNamed B.named
  have hlocks := B.notSynchronized
  subst hsz
  have hD := hD0.self (sz := s.heap.size)
  generalize hAe : va_A G s.heap.size = A at hD ⊢
  have hA : ∀ q : Nat, s.heap.size ≤ q → A q := fun q h => by rw [← hAe]; exact Or.inr h
  have hAs : ∀ q : Nat, A q → sb.1 ≤ q := fun q h => by
    rw [← hAe] at h
    rcases h with ⟨k, e, h⟩ | h
    · exact hD0.2 k _ h
    · exact Nat.le_trans hB0 h
  have hS : va_S A s.heap s.heap [] := va_S.rf
  have hFR := FL.rf Ad [mo] G
  have hcs : 0 ≤ (headSpec w_Model_covers ({ frames := 3, cells := 0, slots := 0, locals := 68 })).room.cells ∧ 0 ≤ (headSpec w_Model_covers ({ frames := 3, cells := 0, slots := 0, locals := 68 })).room.slots := ⟨Nat.le_refl _, Nat.le_refl _⟩
  have hP : va_P (dC, dI) classes G s.heap := hP
  have hl := lv_entry ([.ref mo, .int ci, .long la, .long lb, .long ld, .long le]) (n := 16) (Nat.le_of_ble_eq_true rfl)
  rw [lg_entry_eq]
  generalize (lg_sl ([.ref mo, .int ci, .long la, .long lb, .long ld, .long le]) ++ List.replicate (16 - (lg_sl ([.ref mo, .int ci, .long la, .long lb, .long ld, .long le])).length) Slot.unset).toArray = ls at hl ⊢
  have hl : lv_has ls 16 [(0, .ref mo), (1, .int ci), (2, .long la), (4, .long lb), (6, .long ld), (8, .long le)] := hl
  obtain ⟨cX_mo, eX_mo⟩ : ∃ z : va_E, z = .inr (12, (.int mer :: .int (nI fd) :: .int mwr :: .int (nI K9) :: .int (nI KL) :: .ref moc :: .ref msT :: .ref mrV :: .ref msP :: .int mqs :: .ref mrA :: .ref mbA :: .ref mwA :: .ref mhA :: .ref mfA :: .ref mpA :: .ref mxA :: .ref myA :: .ref mmA :: .ref mqA :: .ref mzA :: .ref mwy :: .ref mfd :: .int msz :: .int (nI cz) :: .int mch :: .int mft :: .int mpt :: .int mdp :: .int mvd :: .long mnw :: .int mmk :: [])) := ⟨_, rfl⟩
  rw [← eX_mo] at kmo
  refine lv_aload_n hx hb d_Model_covers_0 rfl (lv_at hl 0 rfl) ?_
  refine lv_iconst (v := 0) hx hb d_Model_covers_1 (by decide) ?_
  obtain ⟨i_1, hg_1⟩ := List.getElem?_of_mem kmo.2
  rw [eX_mo] at hg_1
  refine va_put (v := .int 0) (ty := .int) hx hb htb i_Model t_Model t_Model_ok n_Model hown hK hP hD hS i_1 hg_1 rfl 0 (by decide) (htb _ q7_214) (fun _ h9 => h9) rfl (by decide +kernel) rfl rfl (Nat.le_of_ble_eq_true rfl) d_Model_covers_2 (fun H2 locs hP hD2 hS => ?_)
  have hP : va_P (dC, dI) classes (G.set i_1 (mo, .inr (12, (.int 0 :: .int (nI fd) :: .int mwr :: .int (nI K9) :: .int (nI KL) :: .ref moc :: .ref msT :: .ref mrV :: .ref msP :: .int mqs :: .ref mrA :: .ref mbA :: .ref mwA :: .ref mhA :: .ref mfA :: .ref mpA :: .ref mxA :: .ref myA :: .ref mmA :: .ref mqA :: .ref mzA :: .ref mwy :: .ref mfd :: .int msz :: .int (nI cz) :: .int mch :: .int mft :: .int mpt :: .int mdp :: .int mvd :: .long mnw :: .int mmk :: [])))) H2 := hP
  have hD3 : va_D A (G.set i_1 (mo, .inr (12, (.int 0 :: .int (nI fd) :: .int mwr :: .int (nI K9) :: .int (nI KL) :: .ref moc :: .ref msT :: .ref mrV :: .ref msP :: .int mqs :: .ref mrA :: .ref mbA :: .ref mwA :: .ref mhA :: .ref mfA :: .ref mpA :: .ref mxA :: .ref myA :: .ref mmA :: .ref mqA :: .ref mzA :: .ref mwy :: .ref mfd :: .int msz :: .int (nI cz) :: .int mch :: .int mft :: .int mpt :: .int mdp :: .int mvd :: .long mnw :: .int mmk :: [])))) := hD2
  have hTy := TR.setX (c' := .inr (12, (.int 0 :: .int (nI fd) :: .int mwr :: .int (nI K9) :: .int (nI KL) :: .ref moc :: .ref msT :: .ref mrV :: .ref msP :: .int mqs :: .ref mrA :: .ref mbA :: .ref mwA :: .ref mhA :: .ref mfA :: .ref mpA :: .ref mxA :: .ref myA :: .ref mmA :: .ref mqA :: .ref mzA :: .ref mwy :: .ref mfd :: .int msz :: .int (nI cz) :: .int mch :: .int mft :: .int mpt :: .int mdp :: .int mvd :: .long mnw :: .int mmk :: []))) hTy hg_1 kmo.1
  have hFR := hFR.tr (FL.set (Ad := Ad) (X := [mo]) (c' := .inr (12, (.int 0 :: .int (nI fd) :: .int mwr :: .int (nI K9) :: .int (nI KL) :: .ref moc :: .ref msT :: .ref mrV :: .ref msP :: .int mqs :: .ref mrA :: .ref mbA :: .ref mwA :: .ref mhA :: .ref mfA :: .ref mpA :: .ref mxA :: .ref myA :: .ref mmA :: .ref mqA :: .ref mzA :: .ref mwy :: .ref mfd :: .int msz :: .int (nI cz) :: .int mch :: .int mft :: .int mpt :: .int mdp :: .int mvd :: .long mnw :: .int mmk :: []))) hg_1 (by simp))
  have hg_1 := set_here (c' := .inr (12, (.int 0 :: .int (nI fd) :: .int mwr :: .int (nI K9) :: .int (nI KL) :: .ref moc :: .ref msT :: .ref mrV :: .ref msP :: .int mqs :: .ref mrA :: .ref mbA :: .ref mwA :: .ref mhA :: .ref mfA :: .ref mpA :: .ref mxA :: .ref myA :: .ref mmA :: .ref mqA :: .ref mzA :: .ref mwy :: .ref mfd :: .int msz :: .int (nI cz) :: .int mch :: .int mft :: .int mpt :: .int mdp :: .int mvd :: .long mnw :: .int mmk :: []))) hg_1
  have kmo : Xc Ad mo (.inr (12, (.int 0 :: .int (nI fd) :: .int mwr :: .int (nI K9) :: .int (nI KL) :: .ref moc :: .ref msT :: .ref mrV :: .ref msP :: .int mqs :: .ref mrA :: .ref mbA :: .ref mwA :: .ref mhA :: .ref mfA :: .ref mpA :: .ref mxA :: .ref myA :: .ref mmA :: .ref mqA :: .ref mzA :: .ref mwy :: .ref mfd :: .int msz :: .int (nI cz) :: .int mch :: .int mft :: .int mpt :: .int mdp :: .int mvd :: .long mnw :: .int mmk :: []))) (G.set i_1 (mo, .inr (12, (.int 0 :: .int (nI fd) :: .int mwr :: .int (nI K9) :: .int (nI KL) :: .ref moc :: .ref msT :: .ref mrV :: .ref msP :: .int mqs :: .ref mrA :: .ref mbA :: .ref mwA :: .ref mhA :: .ref mfA :: .ref mpA :: .ref mxA :: .ref myA :: .ref mmA :: .ref mqA :: .ref mzA :: .ref mwy :: .ref mfd :: .int msz :: .int (nI cz) :: .int mch :: .int mft :: .int mpt :: .int mdp :: .int mvd :: .long mnw :: .int mmk :: [])))) := ⟨kmo.1, List.mem_of_getElem? hg_1⟩
  have hD := hD3
  clear hD3 hD2
  generalize G.set i_1 (mo, .inr (12, (.int 0 :: .int (nI fd) :: .int mwr :: .int (nI K9) :: .int (nI KL) :: .ref moc :: .ref msT :: .ref mrV :: .ref msP :: .int mqs :: .ref mrA :: .ref mbA :: .ref mwA :: .ref mhA :: .ref mfA :: .ref mpA :: .ref mxA :: .ref myA :: .ref mmA :: .ref mqA :: .ref mzA :: .ref mwy :: .ref mfd :: .int msz :: .int (nI cz) :: .int mch :: .int mft :: .int mpt :: .int mdp :: .int mvd :: .long mnw :: .int mmk :: []))) = G_2 at hP hD hTy hFR kmo hg_1
  obtain ⟨cX_3, eX_3⟩ : ∃ z : va_E, z = .inr (12, (.int 0 :: .int (nI fd) :: .int mwr :: .int (nI K9) :: .int (nI KL) :: .ref moc :: .ref msT :: .ref mrV :: .ref msP :: .int mqs :: .ref mrA :: .ref mbA :: .ref mwA :: .ref mhA :: .ref mfA :: .ref mpA :: .ref mxA :: .ref myA :: .ref mmA :: .ref mqA :: .ref mzA :: .ref mwy :: .ref mfd :: .int msz :: .int (nI cz) :: .int mch :: .int mft :: .int mpt :: .int mdp :: .int mvd :: .long mnw :: .int mmk :: [])) := ⟨_, rfl⟩
  rw [← eX_3] at kmo
  refine lv_aload_n hx hb d_Model_covers_5 rfl (lv_at hl 0 rfl) ?_
  refine lv_iload_n hx hb d_Model_covers_6 rfl (lv_at hl 1 rfl) ?_
  refine lv_iconst (v := 1) hx hb d_Model_covers_7 (by decide) ?_
  have hFc := va_free (wc := G_2) hD hS hA (List.range G_2.length) (rg_is _)
  refine va_calli (mu_runV (As := [.int ci, .int 1]) (rest := []) ⟨hx, hb, hml, hown, hts⟩ tbin (m_Model_noc_1 l dC dI sb γ κ Ad τ gT G_2 mo _ _ _ _ _ _ _ _ _ _ _ _ _ _ _ _ _ _ _ _ _ _ _ _ _ _ _ _ _ _ _ _ _ H2.size hTy (by have h9 := kmo; rw [eX_3] at h9; exact h9) hbad (by decide) hK9) q9_64 q9_66 qp_39 q1_9 q9_67 (n := 2) (by decide +kernel) rfl ⟨rfl, rfl⟩ ⟨Nat.le_of_ble_eq_true rfl, Nat.le_of_ble_eq_true rfl⟩ ⟨Nat.le_of_ble_eq_true rfl, Nat.le_of_ble_eq_true rfl⟩ hN (hT0.keep hS hAs) hAs (Nat.le_trans hB0 hS.1) hK hP hD (List.range G_2.length) (rg_nd _) (rg_is _) [0, 1, 2, 3, 4] rfl i_1 12 hg_1 rfl rfl hl.1 rfl (Nat.le_of_ble_eq_true rfl) d_Model_covers_8) hS (fun q _ h => hFc q h) hFc (fun r8 G_4 tS H8 locs ht hvm hw8 hB hz1 hk1 hS => ?_)
  obtain ⟨hTy, hF9, hr8⟩ := hw8
  have hFR := hFR.tr (hF9.up (q_gac (by simp) (q_gan)))
  obtain ⟨hP1, hK1, hD1⟩ := hB
  rw [ht] at hP1
  have hP : va_P (dC, dI) classes G_4 H8 := hP1
  have hD : va_D A G_4 := hD1.weaken (fun _ _ _ h => hFc _ h)
  obtain ⟨hq8, kmo⟩ := hr8
  subst hq8
  obtain ⟨cX_5, eX_5⟩ : ∃ z : va_E, z = .inr (12, (.int 1 :: .int (nI fd) :: .int mwr :: .int (nI K9) :: .int (nI KL) :: .ref moc :: .ref msT :: .ref mrV :: .ref msP :: .int mqs :: .ref mrA :: .ref mbA :: .ref mwA :: .ref mhA :: .ref mfA :: .ref mpA :: .ref mxA :: .ref myA :: .ref mmA :: .ref mqA :: .ref mzA :: .ref mwy :: .ref mfd :: .int msz :: .int (nI cz) :: .int mch :: .int mft :: .int mpt :: .int mdp :: .int mvd :: .long mnw :: .int mmk :: [])) := ⟨_, rfl⟩
  rw [← eX_5] at kmo
  refine lv_if_eq (tgt := 16) hx hb d_Model_covers_11 (by decide) (fun c11 => ?_) (fun c11 => ?_)
  · exact absurd c11 (by decide)
  refine lv_iconst (v := 0) hx hb d_Model_covers_14 (by decide) ?_
  exact W.zret (v := 0) hx hb hr rfl (fun t ht hW => ⟨⟨_, G_4, rfl, ⟨hTy, hFR, rfl, (by rw [eX_5] at kmo; exact kmo)⟩, by rw [ht]; exact hP, va_K.moved hW.alike hK, hD⟩, hS.F ht⟩) hS.2.2 d_Model_covers_15
set_option maxHeartbeats 4000000 in
set_option maxRecDepth 100000 in
theorem m_Model_covers_0 (l : Launch) (dC : Nat → ClassId) (dI : Nat → Nat → Nat) (sb : sB) (γ : cG) (κ : kE) (Ad : List Nat) (τ : Nat → TD) (gT : ClassId) (G : va_W) (mo : Nat) (moc msT mrV msP mrA mbA mwA mhA mfA mpA mxA myA mmA mqA mzA mwy mfd : Nat) (mer mwr mqs msz mch mft mpt mdp mvd mmk : Int32) (mnw : Int64) (K9 KL cz fd : Nat) (fS : Nat → Option Nat) (k9 : Nat) (la lb ld le : Int64) (sz : Nat) (hTy : TR γ κ Ad τ G) (kmo : Xc Ad mo (.inr (12, (.int mer :: .int (nI fd) :: .int mwr :: .int (nI K9) :: .int (nI KL) :: .ref moc :: .ref msT :: .ref mrV :: .ref msP :: .int mqs :: .ref mrA :: .ref mbA :: .ref mwA :: .ref mhA :: .ref mfA :: .ref mpA :: .ref mxA :: .ref myA :: .ref mmA :: .ref mqA :: .ref mzA :: .ref mwy :: .ref mfd :: .int msz :: .int (nI cz) :: .int mch :: .int mft :: .int mpt :: .int mdp :: .int mvd :: .long mnw :: .int mmk :: []))) G) (kmsT : Xc Ad msT (.inl (gT, 16, .inr (.inr (.inr (.inr fS))))) G) (kmxA : tK κ Ad mxA (6, 600, 3)) (hx_mo_msT : mo ≠ msT) (hst : STc κ Ad τ K9 fS) (hK9 : K9 ≤ 16) (hk9 : k9 < K9) : Met l y_Model_covers w_Model_covers ({ frames := 3, cells := 0, slots := 0, locals := 68 }) (mu_P [.ref mo, .int (nI k9), .long la, .long lb, .long ld, .long le] (dC, dI) sb G [(γ.1, .byte), (γ.2.1, .int), (γ.2.2.1, .long), (γ.2.2.2, .object "java/lang/Object"), (gT, .object "TrustChainModel$Text")] sz) (va_Qi (fun r (G' : va_W) => TR γ κ Ad τ G' ∧ FL Ad [mo] G G' ∧ (Xc Ad mo (.inr (12, (.int 0 :: .int (nI fd) :: .int mwr :: .int (nI K9) :: .int (nI KL) :: .ref moc :: .ref msT :: .ref mrV :: .ref msP :: .int mqs :: .ref mrA :: .ref mbA :: .ref mwA :: .ref mhA :: .ref mfA :: .ref mpA :: .ref mxA :: .ref myA :: .ref mmA :: .ref mqA :: .ref mzA :: .ref mwy :: .ref mfd :: .int msz :: .int (nI cz) :: .int mch :: .int mft :: .int mpt :: .int mdp :: .int mvd :: .long mnw :: .int mmk :: []))) G')) (mu_B (dC, dI) [(γ.1, .byte), (γ.2.1, .int), (γ.2.2.1, .long), (γ.2.2.2, .object "java/lang/Object"), (gT, .object "TrustChainModel$Text")] (va_A G sz) (fun G' : va_W => G')) (va_A G sz)) 0 0 (va_A G sz) := by
  refine Met.ofW (cc := b_Model_covers) (maxL := 16) (ret := (some FieldType.boolean)) (by decide) rfl ?_
  intro p e s m args below meth c s₁ B hml hv
  obtain ⟨rfl, hsz, hB0, hP, hK, hD0, hN, hT0⟩ := hv
  have hx := B.exec
  have hb := B.bytes
  have hr := B.returns
  have hts := atoms_spec (ws := w_Model_covers) B.pre
  have tbin : ∀ w ∈ tb, w ∈ w_Model_covers := fun w h => List.mem_cons_of_mem _ h
  have htb : ∀ w ∈ tb, w.before _ s = true := fun w h => hts w (tbin w h)
  have hown : s.vm.findClass "TrustChainModel" = some m.cls := findClass_of_methodNamed B.named
  have hlocks := B.notSynchronized
  subst hsz
  have hD := hD0.self (sz := s.heap.size)
  generalize hAe : va_A G s.heap.size = A at hD ⊢
  have hA : ∀ q : Nat, s.heap.size ≤ q → A q := fun q h => by rw [← hAe]; exact Or.inr h
  have hAs : ∀ q : Nat, A q → sb.1 ≤ q := fun q h => by
    rw [← hAe] at h
    rcases h with ⟨k, e, h⟩ | h
    · exact hD0.2 k _ h
    · exact Nat.le_trans hB0 h
  have hS : va_S A s.heap s.heap [] := va_S.rf
  have hFR := FL.rf Ad [mo] G
  have hcs : 0 ≤ (headSpec w_Model_covers ({ frames := 3, cells := 0, slots := 0, locals := 68 })).room.cells ∧ 0 ≤ (headSpec w_Model_covers ({ frames := 3, cells := 0, slots := 0, locals := 68 })).room.slots := ⟨Nat.le_refl _, Nat.le_refl _⟩
  have hP : va_P (dC, dI) classes G s.heap := hP
  have hl := lv_entry ([.ref mo, .int (nI k9), .long la, .long lb, .long ld, .long le]) (n := 16) (Nat.le_of_ble_eq_true rfl)
  rw [lg_entry_eq]
  generalize (lg_sl ([.ref mo, .int (nI k9), .long la, .long lb, .long ld, .long le]) ++ List.replicate (16 - (lg_sl ([.ref mo, .int (nI k9), .long la, .long lb, .long ld, .long le])).length) Slot.unset).toArray = ls at hl ⊢
  have hl : lv_has ls 16 [(0, .ref mo), (1, .int (nI k9)), (2, .long la), (4, .long lb), (6, .long ld), (8, .long le)] := hl
  obtain ⟨cX_mo, eX_mo⟩ : ∃ z : va_E, z = .inr (12, (.int mer :: .int (nI fd) :: .int mwr :: .int (nI K9) :: .int (nI KL) :: .ref moc :: .ref msT :: .ref mrV :: .ref msP :: .int mqs :: .ref mrA :: .ref mbA :: .ref mwA :: .ref mhA :: .ref mfA :: .ref mpA :: .ref mxA :: .ref myA :: .ref mmA :: .ref mqA :: .ref mzA :: .ref mwy :: .ref mfd :: .int msz :: .int (nI cz) :: .int mch :: .int mft :: .int mpt :: .int mdp :: .int mvd :: .long mnw :: .int mmk :: [])) := ⟨_, rfl⟩
  rw [← eX_mo] at kmo
  refine lv_aload_n hx hb d_Model_covers_0 rfl (lv_at hl 0 rfl) ?_
  refine lv_iconst (v := 0) hx hb d_Model_covers_1 (by decide) ?_
  obtain ⟨i_1, hg_1⟩ := List.getElem?_of_mem kmo.2
  rw [eX_mo] at hg_1
  refine va_put (v := .int 0) (ty := .int) hx hb htb i_Model t_Model t_Model_ok n_Model hown hK hP hD hS i_1 hg_1 rfl 0 (by decide) (htb _ q7_214) (fun _ h9 => h9) rfl (by decide +kernel) rfl rfl (Nat.le_of_ble_eq_true rfl) d_Model_covers_2 (fun H2 locs hP hD2 hS => ?_)
  have hP : va_P (dC, dI) classes (G.set i_1 (mo, .inr (12, (.int 0 :: .int (nI fd) :: .int mwr :: .int (nI K9) :: .int (nI KL) :: .ref moc :: .ref msT :: .ref mrV :: .ref msP :: .int mqs :: .ref mrA :: .ref mbA :: .ref mwA :: .ref mhA :: .ref mfA :: .ref mpA :: .ref mxA :: .ref myA :: .ref mmA :: .ref mqA :: .ref mzA :: .ref mwy :: .ref mfd :: .int msz :: .int (nI cz) :: .int mch :: .int mft :: .int mpt :: .int mdp :: .int mvd :: .long mnw :: .int mmk :: [])))) H2 := hP
  have hD3 : va_D A (G.set i_1 (mo, .inr (12, (.int 0 :: .int (nI fd) :: .int mwr :: .int (nI K9) :: .int (nI KL) :: .ref moc :: .ref msT :: .ref mrV :: .ref msP :: .int mqs :: .ref mrA :: .ref mbA :: .ref mwA :: .ref mhA :: .ref mfA :: .ref mpA :: .ref mxA :: .ref myA :: .ref mmA :: .ref mqA :: .ref mzA :: .ref mwy :: .ref mfd :: .int msz :: .int (nI cz) :: .int mch :: .int mft :: .int mpt :: .int mdp :: .int mvd :: .long mnw :: .int mmk :: [])))) := hD2
  have hTy := TR.setX (c' := .inr (12, (.int 0 :: .int (nI fd) :: .int mwr :: .int (nI K9) :: .int (nI KL) :: .ref moc :: .ref msT :: .ref mrV :: .ref msP :: .int mqs :: .ref mrA :: .ref mbA :: .ref mwA :: .ref mhA :: .ref mfA :: .ref mpA :: .ref mxA :: .ref myA :: .ref mmA :: .ref mqA :: .ref mzA :: .ref mwy :: .ref mfd :: .int msz :: .int (nI cz) :: .int mch :: .int mft :: .int mpt :: .int mdp :: .int mvd :: .long mnw :: .int mmk :: []))) hTy hg_1 kmo.1
  have kmsT := Xc.setX (c' := .inr (12, (.int 0 :: .int (nI fd) :: .int mwr :: .int (nI K9) :: .int (nI KL) :: .ref moc :: .ref msT :: .ref mrV :: .ref msP :: .int mqs :: .ref mrA :: .ref mbA :: .ref mwA :: .ref mhA :: .ref mfA :: .ref mpA :: .ref mxA :: .ref myA :: .ref mmA :: .ref mqA :: .ref mzA :: .ref mwy :: .ref mfd :: .int msz :: .int (nI cz) :: .int mch :: .int mft :: .int mpt :: .int mdp :: .int mvd :: .long mnw :: .int mmk :: []))) kmsT hg_1 (fun e => hx_mo_msT.symm (congrArg Prod.fst e))
  have hFR := hFR.tr (FL.set (Ad := Ad) (X := [mo]) (c' := .inr (12, (.int 0 :: .int (nI fd) :: .int mwr :: .int (nI K9) :: .int (nI KL) :: .ref moc :: .ref msT :: .ref mrV :: .ref msP :: .int mqs :: .ref mrA :: .ref mbA :: .ref mwA :: .ref mhA :: .ref mfA :: .ref mpA :: .ref mxA :: .ref myA :: .ref mmA :: .ref mqA :: .ref mzA :: .ref mwy :: .ref mfd :: .int msz :: .int (nI cz) :: .int mch :: .int mft :: .int mpt :: .int mdp :: .int mvd :: .long mnw :: .int mmk :: []))) hg_1 (by simp))
  have hg_1 := set_here (c' := .inr (12, (.int 0 :: .int (nI fd) :: .int mwr :: .int (nI K9) :: .int (nI KL) :: .ref moc :: .ref msT :: .ref mrV :: .ref msP :: .int mqs :: .ref mrA :: .ref mbA :: .ref mwA :: .ref mhA :: .ref mfA :: .ref mpA :: .ref mxA :: .ref myA :: .ref mmA :: .ref mqA :: .ref mzA :: .ref mwy :: .ref mfd :: .int msz :: .int (nI cz) :: .int mch :: .int mft :: .int mpt :: .int mdp :: .int mvd :: .long mnw :: .int mmk :: []))) hg_1
  have kmo : Xc Ad mo (.inr (12, (.int 0 :: .int (nI fd) :: .int mwr :: .int (nI K9) :: .int (nI KL) :: .ref moc :: .ref msT :: .ref mrV :: .ref msP :: .int mqs :: .ref mrA :: .ref mbA :: .ref mwA :: .ref mhA :: .ref mfA :: .ref mpA :: .ref mxA :: .ref myA :: .ref mmA :: .ref mqA :: .ref mzA :: .ref mwy :: .ref mfd :: .int msz :: .int (nI cz) :: .int mch :: .int mft :: .int mpt :: .int mdp :: .int mvd :: .long mnw :: .int mmk :: []))) (G.set i_1 (mo, .inr (12, (.int 0 :: .int (nI fd) :: .int mwr :: .int (nI K9) :: .int (nI KL) :: .ref moc :: .ref msT :: .ref mrV :: .ref msP :: .int mqs :: .ref mrA :: .ref mbA :: .ref mwA :: .ref mhA :: .ref mfA :: .ref mpA :: .ref mxA :: .ref myA :: .ref mmA :: .ref mqA :: .ref mzA :: .ref mwy :: .ref mfd :: .int msz :: .int (nI cz) :: .int mch :: .int mft :: .int mpt :: .int mdp :: .int mvd :: .long mnw :: .int mmk :: [])))) := ⟨kmo.1, List.mem_of_getElem? hg_1⟩
  have hD := hD3
  clear hD3 hD2
  generalize G.set i_1 (mo, .inr (12, (.int 0 :: .int (nI fd) :: .int mwr :: .int (nI K9) :: .int (nI KL) :: .ref moc :: .ref msT :: .ref mrV :: .ref msP :: .int mqs :: .ref mrA :: .ref mbA :: .ref mwA :: .ref mhA :: .ref mfA :: .ref mpA :: .ref mxA :: .ref myA :: .ref mmA :: .ref mqA :: .ref mzA :: .ref mwy :: .ref mfd :: .int msz :: .int (nI cz) :: .int mch :: .int mft :: .int mpt :: .int mdp :: .int mvd :: .long mnw :: .int mmk :: []))) = G_2 at hP hD hTy hFR kmo kmsT hg_1
  obtain ⟨cX_3, eX_3⟩ : ∃ z : va_E, z = .inr (12, (.int 0 :: .int (nI fd) :: .int mwr :: .int (nI K9) :: .int (nI KL) :: .ref moc :: .ref msT :: .ref mrV :: .ref msP :: .int mqs :: .ref mrA :: .ref mbA :: .ref mwA :: .ref mhA :: .ref mfA :: .ref mpA :: .ref mxA :: .ref myA :: .ref mmA :: .ref mqA :: .ref mzA :: .ref mwy :: .ref mfd :: .int msz :: .int (nI cz) :: .int mch :: .int mft :: .int mpt :: .int mdp :: .int mvd :: .long mnw :: .int mmk :: [])) := ⟨_, rfl⟩
  rw [← eX_3] at kmo
  refine lv_aload_n hx hb d_Model_covers_5 rfl (lv_at hl 0 rfl) ?_
  refine lv_iload_n hx hb d_Model_covers_6 rfl (lv_at hl 1 rfl) ?_
  refine lv_iconst (v := 1) hx hb d_Model_covers_7 (by decide) ?_
  have hFc := va_free (wc := G_2) hD hS hA (List.range G_2.length) (rg_is _)
  refine va_calli (mu_runV (As := [.int (nI k9), .int 1]) (rest := []) ⟨hx, hb, hml, hown, hts⟩ tbin (m_Model_noc_0 l dC dI sb γ κ Ad τ gT G_2 mo _ _ _ _ _ _ _ _ _ _ _ _ _ _ _ _ _ _ _ _ _ _ _ _ _ _ _ _ _ _ _ _ _ H2.size hTy (by have h9 := kmo; rw [eX_3] at h9; exact h9) hk9 hK9) q9_64 q9_66 qp_39 q1_9 q9_67 (n := 2) (by decide +kernel) rfl ⟨rfl, rfl⟩ ⟨Nat.le_of_ble_eq_true rfl, Nat.le_of_ble_eq_true rfl⟩ ⟨Nat.le_of_ble_eq_true rfl, Nat.le_of_ble_eq_true rfl⟩ hN (hT0.keep hS hAs) hAs (Nat.le_trans hB0 hS.1) hK hP hD (List.range G_2.length) (rg_nd _) (rg_is _) [0, 1, 2, 3, 4] rfl i_1 12 hg_1 rfl rfl hl.1 rfl (Nat.le_of_ble_eq_true rfl) d_Model_covers_8) hS (fun q _ h => hFc q h) hFc (fun r8 G_4 tS H8 locs ht hvm hw8 hB hz1 hk1 hS => ?_)
  obtain ⟨hTy, hF9, hr8⟩ := hw8
  have kmo := kmo.fl hF9 (q_nmn)
  have kmsT := kmsT.fl hF9 (q_nmn)
  have hFR := hFR.tr (hF9.up (q_gan))
  obtain ⟨hP1, hK1, hD1⟩ := hB
  rw [ht] at hP1
  have hP : va_P (dC, dI) classes G_4 H8 := hP1
  have hD : va_D A G_4 := hD1.weaken (fun _ _ _ h => hFc _ h)
  subst hr8
  refine lv_if_eq (tgt := 16) hx hb d_Model_covers_11 (by decide) (fun c11 => ?_) (fun c11 => ?_)
  rotate_left
  · exact absurd c11 (by decide)
  refine lv_iconst (v := 0) hx hb d_Model_covers_16 (by decide) ?_
  refine lv_istore (lv' := [(10, .int 0), (0, .ref mo), (1, .int (nI k9)), (2, .long la), (4, .long lb), (6, .long ld), (8, .long le)]) hx hb d_Model_covers_17 hl (by decide) rfl (fun ls hl => ?_)
  refine lv_iconst (v := 0) hx hb d_Model_covers_19 (by decide) ?_
  refine lv_istore (lv' := [(11, .int 0), (10, .int 0), (0, .ref mo), (1, .int (nI k9)), (2, .long la), (4, .long lb), (6, .long ld), (8, .long le)]) hx hb d_Model_covers_20 hl (by decide) rfl (fun ls hl => ?_)
  refine w_loopW (α := Nat × Nat × va_W) (fun a9 => 0 ≤ a9.1 ∧ a9.1 ≤ 32 ∧ a9.2.1 ≤ 32 ∧ TR γ κ Ad τ a9.2.2 ∧ FL Ad [mo] G a9.2.2 ∧ Xc Ad mo cX_3 a9.2.2 ∧ Xc Ad msT (.inl (gT, 16, .inr (.inr (.inr (.inr fS))))) a9.2.2) (fun a9 => 32 - a9.1) (fun a9 => [(11, .int (nI a9.1)), (10, .int (nI a9.2.1)), (0, .ref mo), (1, .int (nI k9)), (2, .long la), (4, .long lb), (6, .long ld), (8, .long le)]) (fun _ => []) (fun a9 => a9.2.2) 16 22 (fun a9 HL22 locs ls hJ hP hD hS hl ih22 => ?_) (0, 0, G_4) _ _ ls ⟨by omega, by omega, by dsimp only; omega, hTy, hFR, kmo, kmsT⟩ hP hD hS (lv_sub hl [0, 1, 2, 3, 4, 5, 6, 7] rfl)
  obtain ⟨z22, y22_10, G22⟩ := a9
  obtain ⟨hy22, hz22, hn22_10, hTy, hFR, kmo, kmsT⟩ := hJ
  dsimp only at hy22 hz22 hn22_10 hTy hFR kmo kmsT hP hD hl ih22
  refine lv_iload hx hb d_Model_covers_22 (lv_at hl 0 rfl) ?_
  refine lv_bipush (v := 32) hx hb d_Model_covers_24 (by decide) ?_
  refine lv_icmp_ge (tgt := 119) hx hb d_Model_covers_26 (by decide) (fun c26 => ?_) (fun c26 => ?_)
  · have p26 : 32 ≤ z22 := ((nI_leI (a := 32) (b := z22) (by omega) (by omega)).mp c26)
    refine lv_iconst (v := 0) hx hb d_Model_covers_119 (by decide) ?_
    refine lv_istore (lv' := [(11, .int 0), (10, .int (nI y22_10)), (0, .ref mo), (1, .int (nI k9)), (2, .long la), (4, .long lb), (6, .long ld), (8, .long le)]) hx hb d_Model_covers_120 hl (by decide) rfl (fun ls hl => ?_)
    refine w_loop (α := Nat) (fun a9 => 0 ≤ a9 ∧ a9 ≤ y22_10) (fun a9 => y22_10 - a9) (fun a9 => [(11, .int (nI a9)), (10, .int (nI y22_10)), (0, .ref mo), (1, .int (nI k9)), (2, .long la), (4, .long lb), (6, .long ld), (8, .long le)]) (fun _ => []) 16 122 (fun z122 ls hJ hl ih122 => ?_) (0) ls ⟨by omega, by omega⟩ (lv_sub hl [0, 1, 2, 3, 4, 5, 6, 7] rfl)
    skip
    obtain ⟨hy122, hz122⟩ := hJ
    refine lv_iload hx hb d_Model_covers_122 (lv_at hl 0 rfl) ?_
    refine lv_iload hx hb d_Model_covers_124 (lv_at hl 1 rfl) ?_
    refine lv_icmp_ge (tgt := 147) hx hb d_Model_covers_126 (by decide) (fun c126 => ?_) (fun c126 => ?_)
    · have p126 : y22_10 ≤ z122 := ((nI_leI (a := y22_10) (b := z122) (by omega) (by omega)).mp c126)
      refine lv_aload_n hx hb d_Model_covers_147 rfl (lv_at hl 2 rfl) ?_
      obtain ⟨i_5, hg_5⟩ := List.getElem?_of_mem kmo.2
      rw [eX_3] at hg_5
      refine va_get (v := .ref msT) hx hb htb i_Model hown hK hP i_5 hg_5 rfl 6 (by decide) (htb _ q7_220) (fun _ h9 => h9) rfl d_Model_covers_148 ?_
      refine lv_iload_n hx hb d_Model_covers_151 rfl (lv_at hl 3 rfl) ?_
      obtain ⟨i_6, hg_6⟩ := List.getElem?_of_mem kmsT.2
      have h152 : vp_in (nI k9) 16 := vp_in_nI (by omega) (by omega)
      refine va_aldq hx hb hK hP i_6 4 hg_6 rfl h152 d_Model_covers_152 ?_
      obtain ⟨t152, ft152, kt152, hc_t152⟩ := hst k9 (by omega)
      rw [show va_rf (fS (nI k9).toNatClampNeg) = .ref t152 from by rw [nI_clamp (by omega), ft152]; rfl]
      have b1_t152 := hc_t152.b1
      have b2_t152 := hc_t152.b2
      have b3_t152 := hc_t152.b3
      have b4_t152 := hc_t152.b4
      have b5_t152 := hc_t152.b5
      have b6_t152 := hc_t152.b6
      have b8_t152 := hc_t152.b8
      have b9_t152 := hc_t152.b9
      refine lv_astore (lv' := [(12, .ref t152), (11, .int (nI z122)), (10, .int (nI y22_10)), (0, .ref mo), (1, .int (nI k9)), (2, .long la), (4, .long lb), (6, .long ld), (8, .long le)]) hx hb d_Model_covers_153 hl (by decide) rfl (fun ls hl => ?_)
      refine lv_iconst (v := 0) hx hb d_Model_covers_155 (by decide) ?_
      refine lv_istore (lv' := [(13, .int 0), (12, .ref t152), (11, .int (nI z122)), (10, .int (nI y22_10)), (0, .ref mo), (1, .int (nI k9)), (2, .long la), (4, .long lb), (6, .long ld), (8, .long le)]) hx hb d_Model_covers_156 hl (by decide) rfl (fun ls hl => ?_)
      refine w_loop (α := Nat) (fun a9 => 0 ≤ a9 ∧ a9 ≤ ((τ t152).nd)) (fun a9 => ((τ t152).nd) - a9) (fun a9 => [(13, .int (nI a9)), (12, .ref t152), (11, .int (nI z122)), (10, .int (nI y22_10)), (0, .ref mo), (1, .int (nI k9)), (2, .long la), (4, .long lb), (6, .long ld), (8, .long le)]) (fun _ => []) 16 158 (fun z158 ls hJ hl ih158 => ?_) (0) ls ⟨by omega, by omega⟩ (lv_sub hl [0, 1, 2, 3, 4, 5, 6, 7, 8, 9] rfl)
      skip
      obtain ⟨hy158, hz158⟩ := hJ
      refine lv_iload hx hb d_Model_covers_158 (lv_at hl 0 rfl) ?_
      refine lv_aload hx hb d_Model_covers_160 (lv_at hl 1 rfl) ?_
      obtain ⟨i_7, kA_7, hg_7⟩ := tr_20 hTy kt152
      refine va_get (v := .int ((τ t152).I 27)) hx hb htb i_Text hown hK hP i_7 hg_7 rfl 27 (by decide) (htb _ q6_226) (fun _ h9 => h9) rfl d_Model_covers_162 ?_
      rw [hc_t152.e27]
      refine lv_icmp_ge (tgt := 286) hx hb d_Model_covers_165 (by decide) (fun c165 => ?_) (fun c165 => ?_)
      · have p165 : ((τ t152).nd) ≤ z158 := ((nI_leI (a := ((τ t152).nd)) (b := z158) (by omega) (by omega)).mp c165)
        refine lv_iconst (v := 0) hx hb d_Model_covers_286 (by decide) ?_
        exact W.zret (v := 0) hx hb hr rfl (fun t ht hW => ⟨⟨_, G22, rfl, ⟨hTy, hFR, (by rw [eX_3] at kmo; exact kmo)⟩, by rw [ht]; exact hP, va_K.moved hW.alike hK, hD⟩, hS.F ht⟩) hS.2.2 d_Model_covers_287
      · have p165 : ¬ (((τ t152).nd) ≤ z158) := (fun q9 => c165 ((nI_leI (a := ((τ t152).nd)) (b := z158) (by omega) (by omega)).mpr q9))
        refine lv_aload hx hb d_Model_covers_168 (lv_at hl 1 rfl) ?_
        refine va_get (v := .ref ((τ t152).A 1)) hx hb htb i_Text hown hK hP i_7 hg_7 rfl 43 (by decide) (htb _ q7_14) (fun _ h9 => h9) rfl d_Model_covers_170 ?_
        refine lv_iload hx hb d_Model_covers_173 (lv_at hl 0 rfl) ?_
        obtain ⟨i_8, hg_8⟩ := tr_18 hTy (kA_7 1 (by decide))
        have hg_8 : G22[i_8]? = some (((τ t152).A 1), .inl (γ.2.1, 700, .inl ((τ t152).D 1))) := hg_8
        have h175 : vp_in (nI z158) 700 := vp_in_nI (by omega) (by omega)
        refine va_iald hx hb hK hP i_8 1 hg_8 rfl h175 d_Model_covers_175 ?_
        refine lv_topi (fun e175 he175 => ?_)
        obtain ⟨q1_175, q2_175, q3_175, q4_175⟩ := hc_t152.l1 z158 (by omega)
        rw [nI_clamp (by omega), q1_175] at he175
        subst he175
        refine lv_istore (lv' := [(14, .int (nI ((τ t152).da z158))), (13, .int (nI z158)), (12, .ref t152), (11, .int (nI z122)), (10, .int (nI y22_10)), (0, .ref mo), (1, .int (nI k9)), (2, .long la), (4, .long lb), (6, .long ld), (8, .long le)]) hx hb d_Model_covers_176 hl (by decide) rfl (fun ls hl => ?_)
        refine lv_aload hx hb d_Model_covers_178 (lv_at hl 2 rfl) ?_
        refine va_get (v := .ref ((τ t152).A 2)) hx hb htb i_Text hown hK hP i_7 hg_7 rfl 44 (by decide) (htb _ q7_16) (fun _ h9 => h9) rfl d_Model_covers_180 ?_
        refine lv_iload hx hb d_Model_covers_183 (lv_at hl 1 rfl) ?_
        obtain ⟨i_9, hg_9⟩ := tr_18 hTy (kA_7 2 (by decide))
        have hg_9 : G22[i_9]? = some (((τ t152).A 2), .inl (γ.2.1, 700, .inl ((τ t152).D 2))) := hg_9
        have h185 : vp_in (nI z158) 700 := vp_in_nI (by omega) (by omega)
        refine va_iald hx hb hK hP i_9 1 hg_9 rfl h185 d_Model_covers_185 ?_
        refine lv_topi (fun e185 he185 => ?_)
        obtain ⟨q1_185, q2_185, q3_185, q4_185⟩ := hc_t152.l1 z158 (by omega)
        rw [nI_clamp (by omega), q2_185] at he185
        subst he185
        refine lv_iload hx hb d_Model_covers_186 (lv_at hl 0 rfl) ?_
        refine lv_isub hx hb d_Model_covers_188 ?_
        rw [show ((nI ((τ t152).de z158)) - (nI ((τ t152).da z158)) : Int32) = nI (((τ t152).de z158) - ((τ t152).da z158)) from pk_sub (a := ((τ t152).de z158)) (b := ((τ t152).da z158)) (by omega)]
        refine lv_istore (lv' := [(15, .int (nI (((τ t152).de z158) - ((τ t152).da z158)))), (14, .int (nI ((τ t152).da z158))), (13, .int (nI z158)), (12, .ref t152), (11, .int (nI z122)), (10, .int (nI y22_10)), (0, .ref mo), (1, .int (nI k9)), (2, .long la), (4, .long lb), (6, .long ld), (8, .long le)]) hx hb d_Model_covers_189 hl (by decide) rfl (fun ls hl => ?_)
        refine lv_aload_n hx hb d_Model_covers_191 rfl (lv_at hl 6 rfl) ?_
        refine lv_aload hx hb d_Model_covers_192 (lv_at hl 3 rfl) ?_
        refine lv_iload hx hb d_Model_covers_194 (lv_at hl 1 rfl) ?_
        refine lv_iload hx hb d_Model_covers_196 (lv_at hl 0 rfl) ?_
        refine lv_iconst (v := 0) hx hb d_Model_covers_198 (by decide) ?_
        refine lv_iload hx hb d_Model_covers_199 (lv_at hl 5 rfl) ?_
        refine vp_callSi (pu_callV (As := [.ref t152, .int (nI ((τ t152).da z158)), .int (nI (((τ t152).de z158) - ((τ t152).da z158))), .int 0, .int (nI y22_10)]) (rest := []) ⟨hx, hb, hml, hown, hts⟩ tbin (p_Model_alike l dC dI sb γ κ Ad τ gT G22 mo t152 _ _ _ _ _ _ _ _ _ _ _ _ _ _ _ _ _ _ _ _ _ _ _ _ _ _ _ _ _ _ _ _ ((τ t152).da z158) (((τ t152).de z158) - ((τ t152).da z158)) 0 y22_10 hTy (by have h9 := kmo; rw [eX_3] at h9; exact h9) kt152 kmxA (by omega) (by omega)) q9_186 q9_188 qp_51 q1_9 q9_189 (n := 5) (by decide +kernel) rfl ⟨rfl, rfl⟩ ⟨Nat.le_of_ble_eq_true rfl, Nat.le_of_ble_eq_true rfl⟩ ⟨Nat.le_of_ble_eq_true rfl, Nat.le_of_ble_eq_true rfl⟩ hN (hT0.keep hS hAs) hK hP (List.range G22.length) (rg_all G22) [0, 1, 2, 3, 4] rfl i_5 12 hg_5 rfl rfl hl.1 rfl (Nat.le_of_ble_eq_true rfl) d_Model_covers_201) (fun r201 hr201 => ?_)
        refine lv_if_eq (tgt := 209) hx hb d_Model_covers_204 (by decide) (fun c204 => ?_) (fun c204 => ?_)
        · have p204 : r201 = (0 : Int32) := c204
          refine lv_iload hx hb d_Model_covers_209 (lv_at hl 4 rfl) ?_
          refine lv_iload hx hb d_Model_covers_211 (lv_at hl 5 rfl) ?_
          refine lv_icmp_ge (tgt := 280) hx hb d_Model_covers_213 (by decide) (fun c213 => ?_) (fun c213 => ?_)
          · have p213 : y22_10 ≤ z122 := ((nI_leI (a := y22_10) (b := z122) (by omega) (by omega)).mp c213)
            refine lv_iinc (v := nI (z158 + 1)) (lv' := [(13, .int (nI (z158 + 1))), (15, .int (nI (((τ t152).de z158) - ((τ t152).da z158)))), (14, .int (nI ((τ t152).da z158))), (12, .ref t152), (11, .int (nI z122)), (10, .int (nI y22_10)), (0, .ref mo), (1, .int (nI k9)), (2, .long la), (4, .long lb), (6, .long ld), (8, .long le)]) hx hb d_Model_covers_280 hl (k := 2) rfl (nI_1 _) (by decide) rfl (fun ls hl => ?_)
            refine lv_goto (tgt := 158) hx hb d_Model_covers_283 (by decide) ?_
            exact ih158 ((z158 + 1)) ls (by omega) ⟨by omega, by omega⟩ (lv_sub hl [0, 3, 4, 5, 6, 7, 8, 9, 10, 11] rfl)
          · have p213 : ¬ (y22_10 ≤ z122) := (fun q9 => c213 ((nI_leI (a := y22_10) (b := z122) (by omega) (by omega)).mpr q9))
            refine lv_iload hx hb d_Model_covers_216 (lv_at hl 0 rfl) ?_
            refine lv_iconst (v := 2) hx hb d_Model_covers_218 (by decide) ?_
            refine lv_icmp_lt (tgt := 280) hx hb d_Model_covers_219 (by decide) (fun c219 => ?_) (fun c219 => ?_)
            · have p219 : (((τ t152).de z158) - ((τ t152).da z158)) < 2 := ((nI_ltI (a := (((τ t152).de z158) - ((τ t152).da z158))) (b := 2) (by omega) (by omega)).mp c219)
              refine lv_iinc (v := nI (z158 + 1)) (lv' := [(13, .int (nI (z158 + 1))), (15, .int (nI (((τ t152).de z158) - ((τ t152).da z158)))), (14, .int (nI ((τ t152).da z158))), (12, .ref t152), (11, .int (nI z122)), (10, .int (nI y22_10)), (0, .ref mo), (1, .int (nI k9)), (2, .long la), (4, .long lb), (6, .long ld), (8, .long le)]) hx hb d_Model_covers_280 hl (k := 2) rfl (nI_1 _) (by decide) rfl (fun ls hl => ?_)
              refine lv_goto (tgt := 158) hx hb d_Model_covers_283 (by decide) ?_
              exact ih158 ((z158 + 1)) ls (by omega) ⟨by omega, by omega⟩ (lv_sub hl [0, 3, 4, 5, 6, 7, 8, 9, 10, 11] rfl)
            · have p219 : ¬ ((((τ t152).de z158) - ((τ t152).da z158)) < 2) := (fun q9 => c219 ((nI_ltI (a := (((τ t152).de z158) - ((τ t152).da z158))) (b := 2) (by omega) (by omega)).mpr q9))
              refine lv_aload hx hb d_Model_covers_222 (lv_at hl 3 rfl) ?_
              refine va_get (v := .ref ((τ t152).A 0)) hx hb htb i_Text hown hK hP i_7 hg_7 rfl 0 (by decide) (htb _ q6_179) (fun _ h9 => h9) rfl d_Model_covers_224 ?_
              refine lv_iload hx hb d_Model_covers_227 (lv_at hl 1 rfl) ?_
              obtain ⟨i_10, hg_10⟩ := tr_18 hTy (kA_7 0 (by decide))
              have hg_10 : G22[i_10]? = some (((τ t152).A 0), .inl (γ.2.1, 2048, .inl ((τ t152).D 0))) := hg_10
              have h229 : vp_in (nI ((τ t152).da z158)) 2048 := vp_in_nI (by omega) (by omega)
              refine va_iald hx hb hK hP i_10 1 hg_10 rfl h229 d_Model_covers_229 ?_
              refine lv_topi (fun e229 he229 => ?_)
              refine lv_bipush (v := 42) hx hb d_Model_covers_230 (by decide) ?_
              refine lv_icmp_ne (tgt := 280) hx hb d_Model_covers_232 (by decide) (fun c232 => ?_) (fun c232 => ?_)
              · have p232 : ¬ (e229 = (42 : Int32)) := c232
                refine lv_iinc (v := nI (z158 + 1)) (lv' := [(13, .int (nI (z158 + 1))), (15, .int (nI (((τ t152).de z158) - ((τ t152).da z158)))), (14, .int (nI ((τ t152).da z158))), (12, .ref t152), (11, .int (nI z122)), (10, .int (nI y22_10)), (0, .ref mo), (1, .int (nI k9)), (2, .long la), (4, .long lb), (6, .long ld), (8, .long le)]) hx hb d_Model_covers_280 hl (k := 2) rfl (nI_1 _) (by decide) rfl (fun ls hl => ?_)
                refine lv_goto (tgt := 158) hx hb d_Model_covers_283 (by decide) ?_
                exact ih158 ((z158 + 1)) ls (by omega) ⟨by omega, by omega⟩ (lv_sub hl [0, 3, 4, 5, 6, 7, 8, 9, 10, 11] rfl)
              · have p232 : e229 = (42 : Int32) := c232
                refine lv_aload hx hb d_Model_covers_235 (lv_at hl 3 rfl) ?_
                refine va_get (v := .ref ((τ t152).A 0)) hx hb htb i_Text hown hK hP i_7 hg_7 rfl 0 (by decide) (htb _ q6_179) (fun _ h9 => h9) rfl d_Model_covers_237 ?_
                refine lv_iload hx hb d_Model_covers_240 (lv_at hl 1 rfl) ?_
                refine lv_iconst (v := 1) hx hb d_Model_covers_242 (by decide) ?_
                refine lv_iadd hx hb d_Model_covers_243 ?_
                rw [show ((nI ((τ t152).da z158)) + 1 : Int32) = nI (((τ t152).da z158) + 1) from nI_add ((τ t152).da z158) 1]
                have h244 : vp_in (nI (((τ t152).da z158) + 1)) 2048 := vp_in_nI (by omega) (by omega)
                refine va_iald hx hb hK hP i_10 1 hg_10 rfl h244 d_Model_covers_244 ?_
                refine lv_topi (fun e244 he244 => ?_)
                refine lv_bipush (v := 46) hx hb d_Model_covers_245 (by decide) ?_
                refine lv_icmp_ne (tgt := 280) hx hb d_Model_covers_247 (by decide) (fun c247 => ?_) (fun c247 => ?_)
                · have p247 : ¬ (e244 = (46 : Int32)) := c247
                  refine lv_iinc (v := nI (z158 + 1)) (lv' := [(13, .int (nI (z158 + 1))), (15, .int (nI (((τ t152).de z158) - ((τ t152).da z158)))), (14, .int (nI ((τ t152).da z158))), (12, .ref t152), (11, .int (nI z122)), (10, .int (nI y22_10)), (0, .ref mo), (1, .int (nI k9)), (2, .long la), (4, .long lb), (6, .long ld), (8, .long le)]) hx hb d_Model_covers_280 hl (k := 2) rfl (nI_1 _) (by decide) rfl (fun ls hl => ?_)
                  refine lv_goto (tgt := 158) hx hb d_Model_covers_283 (by decide) ?_
                  exact ih158 ((z158 + 1)) ls (by omega) ⟨by omega, by omega⟩ (lv_sub hl [0, 3, 4, 5, 6, 7, 8, 9, 10, 11] rfl)
                · have p247 : e244 = (46 : Int32) := c247
                  refine lv_aload_n hx hb d_Model_covers_250 rfl (lv_at hl 6 rfl) ?_
                  refine lv_aload hx hb d_Model_covers_251 (lv_at hl 3 rfl) ?_
                  refine lv_iload hx hb d_Model_covers_253 (lv_at hl 1 rfl) ?_
                  refine lv_iconst (v := 2) hx hb d_Model_covers_255 (by decide) ?_
                  refine lv_iadd hx hb d_Model_covers_256 ?_
                  rw [show ((nI ((τ t152).da z158)) + 2 : Int32) = nI (((τ t152).da z158) + 2) from nI_add ((τ t152).da z158) 2]
                  refine lv_iload hx hb d_Model_covers_257 (lv_at hl 0 rfl) ?_
                  refine lv_iconst (v := 2) hx hb d_Model_covers_259 (by decide) ?_
                  refine lv_isub hx hb d_Model_covers_260 ?_
                  rw [show ((nI (((τ t152).de z158) - ((τ t152).da z158))) - 2 : Int32) = nI ((((τ t152).de z158) - ((τ t152).da z158)) - 2) from pk_sub (a := (((τ t152).de z158) - ((τ t152).da z158))) (b := 2) (by omega)]
                  refine lv_iload hx hb d_Model_covers_261 (lv_at hl 4 rfl) ?_
                  refine lv_iconst (v := 1) hx hb d_Model_covers_263 (by decide) ?_
                  refine lv_iadd hx hb d_Model_covers_264 ?_
                  rw [show ((nI z122) + 1 : Int32) = nI (z122 + 1) from nI_add z122 1]
                  refine lv_iload hx hb d_Model_covers_265 (lv_at hl 5 rfl) ?_
                  refine lv_iload hx hb d_Model_covers_267 (lv_at hl 4 rfl) ?_
                  refine lv_isub hx hb d_Model_covers_269 ?_
                  rw [show ((nI y22_10) - (nI z122) : Int32) = nI (y22_10 - z122) from pk_sub (a := y22_10) (b := z122) (by omega)]
                  refine lv_iconst (v := 1) hx hb d_Model_covers_270 (by decide) ?_
                  refine lv_isub hx hb d_Model_covers_271 ?_
                  rw [show ((nI (y22_10 - z122)) - 1 : Int32) = nI ((y22_10 - z122) - 1) from pk_sub (a := (y22_10 - z122)) (b := 1) (by omega)]
                  refine vp_callSi (pu_callV (As := [.ref t152, .int (nI (((τ t152).da z158) + 2)), .int (nI ((((τ t152).de z158) - ((τ t152).da z158)) - 2)), .int (nI (z122 + 1)), .int (nI ((y22_10 - z122) - 1))]) (rest := []) ⟨hx, hb, hml, hown, hts⟩ tbin (p_Model_alike l dC dI sb γ κ Ad τ gT G22 mo t152 _ _ _ _ _ _ _ _ _ _ _ _ _ _ _ _ _ _ _ _ _ _ _ _ _ _ _ _ _ _ _ _ (((τ t152).da z158) + 2) ((((τ t152).de z158) - ((τ t152).da z158)) - 2) (z122 + 1) ((y22_10 - z122) - 1) hTy (by have h9 := kmo; rw [eX_3] at h9; exact h9) kt152 kmxA (by omega) (by omega)) q9_186 q9_188 qp_51 q1_9 q9_189 (n := 5) (by decide +kernel) rfl ⟨rfl, rfl⟩ ⟨Nat.le_of_ble_eq_true rfl, Nat.le_of_ble_eq_true rfl⟩ ⟨Nat.le_of_ble_eq_true rfl, Nat.le_of_ble_eq_true rfl⟩ hN (hT0.keep hS hAs) hK hP (List.range G22.length) (rg_all G22) [0, 1, 2, 3, 4] rfl i_5 12 hg_5 rfl rfl hl.1 rfl (Nat.le_of_ble_eq_true rfl) d_Model_covers_272) (fun r272 hr272 => ?_)
                  refine lv_if_eq (tgt := 280) hx hb d_Model_covers_275 (by decide) (fun c275 => ?_) (fun c275 => ?_)
                  · have p275 : r272 = (0 : Int32) := c275
                    refine lv_iinc (v := nI (z158 + 1)) (lv' := [(13, .int (nI (z158 + 1))), (15, .int (nI (((τ t152).de z158) - ((τ t152).da z158)))), (14, .int (nI ((τ t152).da z158))), (12, .ref t152), (11, .int (nI z122)), (10, .int (nI y22_10)), (0, .ref mo), (1, .int (nI k9)), (2, .long la), (4, .long lb), (6, .long ld), (8, .long le)]) hx hb d_Model_covers_280 hl (k := 2) rfl (nI_1 _) (by decide) rfl (fun ls hl => ?_)
                    refine lv_goto (tgt := 158) hx hb d_Model_covers_283 (by decide) ?_
                    exact ih158 ((z158 + 1)) ls (by omega) ⟨by omega, by omega⟩ (lv_sub hl [0, 3, 4, 5, 6, 7, 8, 9, 10, 11] rfl)
                  · have p275 : ¬ (r272 = (0 : Int32)) := c275
                    refine lv_iconst (v := 1) hx hb d_Model_covers_278 (by decide) ?_
                    exact W.zret (v := 1) hx hb hr rfl (fun t ht hW => ⟨⟨_, G22, rfl, ⟨hTy, hFR, (by rw [eX_3] at kmo; exact kmo)⟩, by rw [ht]; exact hP, va_K.moved hW.alike hK, hD⟩, hS.F ht⟩) hS.2.2 d_Model_covers_279
        · have p204 : ¬ (r201 = (0 : Int32)) := c204
          refine lv_iconst (v := 1) hx hb d_Model_covers_207 (by decide) ?_
          exact W.zret (v := 1) hx hb hr rfl (fun t ht hW => ⟨⟨_, G22, rfl, ⟨hTy, hFR, (by rw [eX_3] at kmo; exact kmo)⟩, by rw [ht]; exact hP, va_K.moved hW.alike hK, hD⟩, hS.F ht⟩) hS.2.2 d_Model_covers_208
    · have p126 : ¬ (y22_10 ≤ z122) := (fun q9 => c126 ((nI_leI (a := y22_10) (b := z122) (by omega) (by omega)).mpr q9))
      refine lv_aload_n hx hb d_Model_covers_129 rfl (lv_at hl 2 rfl) ?_
      obtain ⟨i_11, hg_11⟩ := List.getElem?_of_mem kmo.2
      rw [eX_3] at hg_11
      refine va_get (v := .ref mxA) hx hb htb i_Model hown hK hP i_11 hg_11 rfl 16 (by decide) (htb _ q7_230) (fun _ h9 => h9) rfl d_Model_covers_130 ?_
      refine lv_iload hx hb d_Model_covers_133 (lv_at hl 0 rfl) ?_
      obtain ⟨i_12, f_12, hb_12, hn_12, hg_12⟩ := tr_63x hTy kmxA (by decide)
      have h135 : vp_in (nI z122) 600 := vp_in_nI (by omega) (by omega)
      refine va_iald hx hb hK hP i_12 1 hg_12 rfl h135 d_Model_covers_135 ?_
      refine lv_topi (fun e135 he135 => ?_)
      refine lv_bipush (v := 46) hx hb d_Model_covers_136 (by decide) ?_
      refine lv_icmp_eq (tgt := 147) hx hb d_Model_covers_138 (by decide) (fun c138 => ?_) (fun c138 => ?_)
      · have p138 : e135 = (46 : Int32) := c138
        refine lv_aload_n hx hb d_Model_covers_147 rfl (lv_at hl 2 rfl) ?_
        refine va_get (v := .ref msT) hx hb htb i_Model hown hK hP i_11 hg_11 rfl 6 (by decide) (htb _ q7_220) (fun _ h9 => h9) rfl d_Model_covers_148 ?_
        refine lv_iload_n hx hb d_Model_covers_151 rfl (lv_at hl 3 rfl) ?_
        obtain ⟨i_13, hg_13⟩ := List.getElem?_of_mem kmsT.2
        have h152 : vp_in (nI k9) 16 := vp_in_nI (by omega) (by omega)
        refine va_aldq hx hb hK hP i_13 4 hg_13 rfl h152 d_Model_covers_152 ?_
        obtain ⟨t152, ft152, kt152, hc_t152⟩ := hst k9 (by omega)
        rw [show va_rf (fS (nI k9).toNatClampNeg) = .ref t152 from by rw [nI_clamp (by omega), ft152]; rfl]
        have b1_t152 := hc_t152.b1
        have b2_t152 := hc_t152.b2
        have b3_t152 := hc_t152.b3
        have b4_t152 := hc_t152.b4
        have b5_t152 := hc_t152.b5
        have b6_t152 := hc_t152.b6
        have b8_t152 := hc_t152.b8
        have b9_t152 := hc_t152.b9
        refine lv_astore (lv' := [(12, .ref t152), (11, .int (nI z122)), (10, .int (nI y22_10)), (0, .ref mo), (1, .int (nI k9)), (2, .long la), (4, .long lb), (6, .long ld), (8, .long le)]) hx hb d_Model_covers_153 hl (by decide) rfl (fun ls hl => ?_)
        refine lv_iconst (v := 0) hx hb d_Model_covers_155 (by decide) ?_
        refine lv_istore (lv' := [(13, .int 0), (12, .ref t152), (11, .int (nI z122)), (10, .int (nI y22_10)), (0, .ref mo), (1, .int (nI k9)), (2, .long la), (4, .long lb), (6, .long ld), (8, .long le)]) hx hb d_Model_covers_156 hl (by decide) rfl (fun ls hl => ?_)
        refine w_loop (α := Nat) (fun a9 => 0 ≤ a9 ∧ a9 ≤ ((τ t152).nd)) (fun a9 => ((τ t152).nd) - a9) (fun a9 => [(13, .int (nI a9)), (12, .ref t152), (11, .int (nI z122)), (10, .int (nI y22_10)), (0, .ref mo), (1, .int (nI k9)), (2, .long la), (4, .long lb), (6, .long ld), (8, .long le)]) (fun _ => []) 16 158 (fun z158 ls hJ hl ih158 => ?_) (0) ls ⟨by omega, by omega⟩ (lv_sub hl [0, 1, 2, 3, 4, 5, 6, 7, 8, 9] rfl)
        skip
        obtain ⟨hy158, hz158⟩ := hJ
        refine lv_iload hx hb d_Model_covers_158 (lv_at hl 0 rfl) ?_
        refine lv_aload hx hb d_Model_covers_160 (lv_at hl 1 rfl) ?_
        obtain ⟨i_14, kA_14, hg_14⟩ := tr_20 hTy kt152
        refine va_get (v := .int ((τ t152).I 27)) hx hb htb i_Text hown hK hP i_14 hg_14 rfl 27 (by decide) (htb _ q6_226) (fun _ h9 => h9) rfl d_Model_covers_162 ?_
        rw [hc_t152.e27]
        refine lv_icmp_ge (tgt := 286) hx hb d_Model_covers_165 (by decide) (fun c165 => ?_) (fun c165 => ?_)
        · have p165 : ((τ t152).nd) ≤ z158 := ((nI_leI (a := ((τ t152).nd)) (b := z158) (by omega) (by omega)).mp c165)
          refine lv_iconst (v := 0) hx hb d_Model_covers_286 (by decide) ?_
          exact W.zret (v := 0) hx hb hr rfl (fun t ht hW => ⟨⟨_, G22, rfl, ⟨hTy, hFR, (by rw [eX_3] at kmo; exact kmo)⟩, by rw [ht]; exact hP, va_K.moved hW.alike hK, hD⟩, hS.F ht⟩) hS.2.2 d_Model_covers_287
        · have p165 : ¬ (((τ t152).nd) ≤ z158) := (fun q9 => c165 ((nI_leI (a := ((τ t152).nd)) (b := z158) (by omega) (by omega)).mpr q9))
          refine lv_aload hx hb d_Model_covers_168 (lv_at hl 1 rfl) ?_
          refine va_get (v := .ref ((τ t152).A 1)) hx hb htb i_Text hown hK hP i_14 hg_14 rfl 43 (by decide) (htb _ q7_14) (fun _ h9 => h9) rfl d_Model_covers_170 ?_
          refine lv_iload hx hb d_Model_covers_173 (lv_at hl 0 rfl) ?_
          obtain ⟨i_15, hg_15⟩ := tr_18 hTy (kA_14 1 (by decide))
          have hg_15 : G22[i_15]? = some (((τ t152).A 1), .inl (γ.2.1, 700, .inl ((τ t152).D 1))) := hg_15
          have h175 : vp_in (nI z158) 700 := vp_in_nI (by omega) (by omega)
          refine va_iald hx hb hK hP i_15 1 hg_15 rfl h175 d_Model_covers_175 ?_
          refine lv_topi (fun e175 he175 => ?_)
          obtain ⟨q1_175, q2_175, q3_175, q4_175⟩ := hc_t152.l1 z158 (by omega)
          rw [nI_clamp (by omega), q1_175] at he175
          subst he175
          refine lv_istore (lv' := [(14, .int (nI ((τ t152).da z158))), (13, .int (nI z158)), (12, .ref t152), (11, .int (nI z122)), (10, .int (nI y22_10)), (0, .ref mo), (1, .int (nI k9)), (2, .long la), (4, .long lb), (6, .long ld), (8, .long le)]) hx hb d_Model_covers_176 hl (by decide) rfl (fun ls hl => ?_)
          refine lv_aload hx hb d_Model_covers_178 (lv_at hl 2 rfl) ?_
          refine va_get (v := .ref ((τ t152).A 2)) hx hb htb i_Text hown hK hP i_14 hg_14 rfl 44 (by decide) (htb _ q7_16) (fun _ h9 => h9) rfl d_Model_covers_180 ?_
          refine lv_iload hx hb d_Model_covers_183 (lv_at hl 1 rfl) ?_
          obtain ⟨i_16, hg_16⟩ := tr_18 hTy (kA_14 2 (by decide))
          have hg_16 : G22[i_16]? = some (((τ t152).A 2), .inl (γ.2.1, 700, .inl ((τ t152).D 2))) := hg_16
          have h185 : vp_in (nI z158) 700 := vp_in_nI (by omega) (by omega)
          refine va_iald hx hb hK hP i_16 1 hg_16 rfl h185 d_Model_covers_185 ?_
          refine lv_topi (fun e185 he185 => ?_)
          obtain ⟨q1_185, q2_185, q3_185, q4_185⟩ := hc_t152.l1 z158 (by omega)
          rw [nI_clamp (by omega), q2_185] at he185
          subst he185
          refine lv_iload hx hb d_Model_covers_186 (lv_at hl 0 rfl) ?_
          refine lv_isub hx hb d_Model_covers_188 ?_
          rw [show ((nI ((τ t152).de z158)) - (nI ((τ t152).da z158)) : Int32) = nI (((τ t152).de z158) - ((τ t152).da z158)) from pk_sub (a := ((τ t152).de z158)) (b := ((τ t152).da z158)) (by omega)]
          refine lv_istore (lv' := [(15, .int (nI (((τ t152).de z158) - ((τ t152).da z158)))), (14, .int (nI ((τ t152).da z158))), (13, .int (nI z158)), (12, .ref t152), (11, .int (nI z122)), (10, .int (nI y22_10)), (0, .ref mo), (1, .int (nI k9)), (2, .long la), (4, .long lb), (6, .long ld), (8, .long le)]) hx hb d_Model_covers_189 hl (by decide) rfl (fun ls hl => ?_)
          refine lv_aload_n hx hb d_Model_covers_191 rfl (lv_at hl 6 rfl) ?_
          refine lv_aload hx hb d_Model_covers_192 (lv_at hl 3 rfl) ?_
          refine lv_iload hx hb d_Model_covers_194 (lv_at hl 1 rfl) ?_
          refine lv_iload hx hb d_Model_covers_196 (lv_at hl 0 rfl) ?_
          refine lv_iconst (v := 0) hx hb d_Model_covers_198 (by decide) ?_
          refine lv_iload hx hb d_Model_covers_199 (lv_at hl 5 rfl) ?_
          refine vp_callSi (pu_callV (As := [.ref t152, .int (nI ((τ t152).da z158)), .int (nI (((τ t152).de z158) - ((τ t152).da z158))), .int 0, .int (nI y22_10)]) (rest := []) ⟨hx, hb, hml, hown, hts⟩ tbin (p_Model_alike l dC dI sb γ κ Ad τ gT G22 mo t152 _ _ _ _ _ _ _ _ _ _ _ _ _ _ _ _ _ _ _ _ _ _ _ _ _ _ _ _ _ _ _ _ ((τ t152).da z158) (((τ t152).de z158) - ((τ t152).da z158)) 0 y22_10 hTy (by have h9 := kmo; rw [eX_3] at h9; exact h9) kt152 kmxA (by omega) (by omega)) q9_186 q9_188 qp_51 q1_9 q9_189 (n := 5) (by decide +kernel) rfl ⟨rfl, rfl⟩ ⟨Nat.le_of_ble_eq_true rfl, Nat.le_of_ble_eq_true rfl⟩ ⟨Nat.le_of_ble_eq_true rfl, Nat.le_of_ble_eq_true rfl⟩ hN (hT0.keep hS hAs) hK hP (List.range G22.length) (rg_all G22) [0, 1, 2, 3, 4] rfl i_11 12 hg_11 rfl rfl hl.1 rfl (Nat.le_of_ble_eq_true rfl) d_Model_covers_201) (fun r201 hr201 => ?_)
          refine lv_if_eq (tgt := 209) hx hb d_Model_covers_204 (by decide) (fun c204 => ?_) (fun c204 => ?_)
          · have p204 : r201 = (0 : Int32) := c204
            refine lv_iload hx hb d_Model_covers_209 (lv_at hl 4 rfl) ?_
            refine lv_iload hx hb d_Model_covers_211 (lv_at hl 5 rfl) ?_
            refine lv_icmp_ge (tgt := 280) hx hb d_Model_covers_213 (by decide) (fun c213 => ?_) (fun c213 => ?_)
            · have p213 : y22_10 ≤ z122 := ((nI_leI (a := y22_10) (b := z122) (by omega) (by omega)).mp c213)
              refine lv_iinc (v := nI (z158 + 1)) (lv' := [(13, .int (nI (z158 + 1))), (15, .int (nI (((τ t152).de z158) - ((τ t152).da z158)))), (14, .int (nI ((τ t152).da z158))), (12, .ref t152), (11, .int (nI z122)), (10, .int (nI y22_10)), (0, .ref mo), (1, .int (nI k9)), (2, .long la), (4, .long lb), (6, .long ld), (8, .long le)]) hx hb d_Model_covers_280 hl (k := 2) rfl (nI_1 _) (by decide) rfl (fun ls hl => ?_)
              refine lv_goto (tgt := 158) hx hb d_Model_covers_283 (by decide) ?_
              exact ih158 ((z158 + 1)) ls (by omega) ⟨by omega, by omega⟩ (lv_sub hl [0, 3, 4, 5, 6, 7, 8, 9, 10, 11] rfl)
            · have p213 : ¬ (y22_10 ≤ z122) := (fun q9 => c213 ((nI_leI (a := y22_10) (b := z122) (by omega) (by omega)).mpr q9))
              refine lv_iload hx hb d_Model_covers_216 (lv_at hl 0 rfl) ?_
              refine lv_iconst (v := 2) hx hb d_Model_covers_218 (by decide) ?_
              refine lv_icmp_lt (tgt := 280) hx hb d_Model_covers_219 (by decide) (fun c219 => ?_) (fun c219 => ?_)
              · have p219 : (((τ t152).de z158) - ((τ t152).da z158)) < 2 := ((nI_ltI (a := (((τ t152).de z158) - ((τ t152).da z158))) (b := 2) (by omega) (by omega)).mp c219)
                refine lv_iinc (v := nI (z158 + 1)) (lv' := [(13, .int (nI (z158 + 1))), (15, .int (nI (((τ t152).de z158) - ((τ t152).da z158)))), (14, .int (nI ((τ t152).da z158))), (12, .ref t152), (11, .int (nI z122)), (10, .int (nI y22_10)), (0, .ref mo), (1, .int (nI k9)), (2, .long la), (4, .long lb), (6, .long ld), (8, .long le)]) hx hb d_Model_covers_280 hl (k := 2) rfl (nI_1 _) (by decide) rfl (fun ls hl => ?_)
                refine lv_goto (tgt := 158) hx hb d_Model_covers_283 (by decide) ?_
                exact ih158 ((z158 + 1)) ls (by omega) ⟨by omega, by omega⟩ (lv_sub hl [0, 3, 4, 5, 6, 7, 8, 9, 10, 11] rfl)
              · have p219 : ¬ ((((τ t152).de z158) - ((τ t152).da z158)) < 2) := (fun q9 => c219 ((nI_ltI (a := (((τ t152).de z158) - ((τ t152).da z158))) (b := 2) (by omega) (by omega)).mpr q9))
                refine lv_aload hx hb d_Model_covers_222 (lv_at hl 3 rfl) ?_
                refine va_get (v := .ref ((τ t152).A 0)) hx hb htb i_Text hown hK hP i_14 hg_14 rfl 0 (by decide) (htb _ q6_179) (fun _ h9 => h9) rfl d_Model_covers_224 ?_
                refine lv_iload hx hb d_Model_covers_227 (lv_at hl 1 rfl) ?_
                obtain ⟨i_17, hg_17⟩ := tr_18 hTy (kA_14 0 (by decide))
                have hg_17 : G22[i_17]? = some (((τ t152).A 0), .inl (γ.2.1, 2048, .inl ((τ t152).D 0))) := hg_17
                have h229 : vp_in (nI ((τ t152).da z158)) 2048 := vp_in_nI (by omega) (by omega)
                refine va_iald hx hb hK hP i_17 1 hg_17 rfl h229 d_Model_covers_229 ?_
                refine lv_topi (fun e229 he229 => ?_)
                refine lv_bipush (v := 42) hx hb d_Model_covers_230 (by decide) ?_
                refine lv_icmp_ne (tgt := 280) hx hb d_Model_covers_232 (by decide) (fun c232 => ?_) (fun c232 => ?_)
                · have p232 : ¬ (e229 = (42 : Int32)) := c232
                  refine lv_iinc (v := nI (z158 + 1)) (lv' := [(13, .int (nI (z158 + 1))), (15, .int (nI (((τ t152).de z158) - ((τ t152).da z158)))), (14, .int (nI ((τ t152).da z158))), (12, .ref t152), (11, .int (nI z122)), (10, .int (nI y22_10)), (0, .ref mo), (1, .int (nI k9)), (2, .long la), (4, .long lb), (6, .long ld), (8, .long le)]) hx hb d_Model_covers_280 hl (k := 2) rfl (nI_1 _) (by decide) rfl (fun ls hl => ?_)
                  refine lv_goto (tgt := 158) hx hb d_Model_covers_283 (by decide) ?_
                  exact ih158 ((z158 + 1)) ls (by omega) ⟨by omega, by omega⟩ (lv_sub hl [0, 3, 4, 5, 6, 7, 8, 9, 10, 11] rfl)
                · have p232 : e229 = (42 : Int32) := c232
                  refine lv_aload hx hb d_Model_covers_235 (lv_at hl 3 rfl) ?_
                  refine va_get (v := .ref ((τ t152).A 0)) hx hb htb i_Text hown hK hP i_14 hg_14 rfl 0 (by decide) (htb _ q6_179) (fun _ h9 => h9) rfl d_Model_covers_237 ?_
                  refine lv_iload hx hb d_Model_covers_240 (lv_at hl 1 rfl) ?_
                  refine lv_iconst (v := 1) hx hb d_Model_covers_242 (by decide) ?_
                  refine lv_iadd hx hb d_Model_covers_243 ?_
                  rw [show ((nI ((τ t152).da z158)) + 1 : Int32) = nI (((τ t152).da z158) + 1) from nI_add ((τ t152).da z158) 1]
                  have h244 : vp_in (nI (((τ t152).da z158) + 1)) 2048 := vp_in_nI (by omega) (by omega)
                  refine va_iald hx hb hK hP i_17 1 hg_17 rfl h244 d_Model_covers_244 ?_
                  refine lv_topi (fun e244 he244 => ?_)
                  refine lv_bipush (v := 46) hx hb d_Model_covers_245 (by decide) ?_
                  refine lv_icmp_ne (tgt := 280) hx hb d_Model_covers_247 (by decide) (fun c247 => ?_) (fun c247 => ?_)
                  · have p247 : ¬ (e244 = (46 : Int32)) := c247
                    refine lv_iinc (v := nI (z158 + 1)) (lv' := [(13, .int (nI (z158 + 1))), (15, .int (nI (((τ t152).de z158) - ((τ t152).da z158)))), (14, .int (nI ((τ t152).da z158))), (12, .ref t152), (11, .int (nI z122)), (10, .int (nI y22_10)), (0, .ref mo), (1, .int (nI k9)), (2, .long la), (4, .long lb), (6, .long ld), (8, .long le)]) hx hb d_Model_covers_280 hl (k := 2) rfl (nI_1 _) (by decide) rfl (fun ls hl => ?_)
                    refine lv_goto (tgt := 158) hx hb d_Model_covers_283 (by decide) ?_
                    exact ih158 ((z158 + 1)) ls (by omega) ⟨by omega, by omega⟩ (lv_sub hl [0, 3, 4, 5, 6, 7, 8, 9, 10, 11] rfl)
                  · have p247 : e244 = (46 : Int32) := c247
                    refine lv_aload_n hx hb d_Model_covers_250 rfl (lv_at hl 6 rfl) ?_
                    refine lv_aload hx hb d_Model_covers_251 (lv_at hl 3 rfl) ?_
                    refine lv_iload hx hb d_Model_covers_253 (lv_at hl 1 rfl) ?_
                    refine lv_iconst (v := 2) hx hb d_Model_covers_255 (by decide) ?_
                    refine lv_iadd hx hb d_Model_covers_256 ?_
                    rw [show ((nI ((τ t152).da z158)) + 2 : Int32) = nI (((τ t152).da z158) + 2) from nI_add ((τ t152).da z158) 2]
                    refine lv_iload hx hb d_Model_covers_257 (lv_at hl 0 rfl) ?_
                    refine lv_iconst (v := 2) hx hb d_Model_covers_259 (by decide) ?_
                    refine lv_isub hx hb d_Model_covers_260 ?_
                    rw [show ((nI (((τ t152).de z158) - ((τ t152).da z158))) - 2 : Int32) = nI ((((τ t152).de z158) - ((τ t152).da z158)) - 2) from pk_sub (a := (((τ t152).de z158) - ((τ t152).da z158))) (b := 2) (by omega)]
                    refine lv_iload hx hb d_Model_covers_261 (lv_at hl 4 rfl) ?_
                    refine lv_iconst (v := 1) hx hb d_Model_covers_263 (by decide) ?_
                    refine lv_iadd hx hb d_Model_covers_264 ?_
                    rw [show ((nI z122) + 1 : Int32) = nI (z122 + 1) from nI_add z122 1]
                    refine lv_iload hx hb d_Model_covers_265 (lv_at hl 5 rfl) ?_
                    refine lv_iload hx hb d_Model_covers_267 (lv_at hl 4 rfl) ?_
                    refine lv_isub hx hb d_Model_covers_269 ?_
                    rw [show ((nI y22_10) - (nI z122) : Int32) = nI (y22_10 - z122) from pk_sub (a := y22_10) (b := z122) (by omega)]
                    refine lv_iconst (v := 1) hx hb d_Model_covers_270 (by decide) ?_
                    refine lv_isub hx hb d_Model_covers_271 ?_
                    rw [show ((nI (y22_10 - z122)) - 1 : Int32) = nI ((y22_10 - z122) - 1) from pk_sub (a := (y22_10 - z122)) (b := 1) (by omega)]
                    refine vp_callSi (pu_callV (As := [.ref t152, .int (nI (((τ t152).da z158) + 2)), .int (nI ((((τ t152).de z158) - ((τ t152).da z158)) - 2)), .int (nI (z122 + 1)), .int (nI ((y22_10 - z122) - 1))]) (rest := []) ⟨hx, hb, hml, hown, hts⟩ tbin (p_Model_alike l dC dI sb γ κ Ad τ gT G22 mo t152 _ _ _ _ _ _ _ _ _ _ _ _ _ _ _ _ _ _ _ _ _ _ _ _ _ _ _ _ _ _ _ _ (((τ t152).da z158) + 2) ((((τ t152).de z158) - ((τ t152).da z158)) - 2) (z122 + 1) ((y22_10 - z122) - 1) hTy (by have h9 := kmo; rw [eX_3] at h9; exact h9) kt152 kmxA (by omega) (by omega)) q9_186 q9_188 qp_51 q1_9 q9_189 (n := 5) (by decide +kernel) rfl ⟨rfl, rfl⟩ ⟨Nat.le_of_ble_eq_true rfl, Nat.le_of_ble_eq_true rfl⟩ ⟨Nat.le_of_ble_eq_true rfl, Nat.le_of_ble_eq_true rfl⟩ hN (hT0.keep hS hAs) hK hP (List.range G22.length) (rg_all G22) [0, 1, 2, 3, 4] rfl i_11 12 hg_11 rfl rfl hl.1 rfl (Nat.le_of_ble_eq_true rfl) d_Model_covers_272) (fun r272 hr272 => ?_)
                    refine lv_if_eq (tgt := 280) hx hb d_Model_covers_275 (by decide) (fun c275 => ?_) (fun c275 => ?_)
                    · have p275 : r272 = (0 : Int32) := c275
                      refine lv_iinc (v := nI (z158 + 1)) (lv' := [(13, .int (nI (z158 + 1))), (15, .int (nI (((τ t152).de z158) - ((τ t152).da z158)))), (14, .int (nI ((τ t152).da z158))), (12, .ref t152), (11, .int (nI z122)), (10, .int (nI y22_10)), (0, .ref mo), (1, .int (nI k9)), (2, .long la), (4, .long lb), (6, .long ld), (8, .long le)]) hx hb d_Model_covers_280 hl (k := 2) rfl (nI_1 _) (by decide) rfl (fun ls hl => ?_)
                      refine lv_goto (tgt := 158) hx hb d_Model_covers_283 (by decide) ?_
                      exact ih158 ((z158 + 1)) ls (by omega) ⟨by omega, by omega⟩ (lv_sub hl [0, 3, 4, 5, 6, 7, 8, 9, 10, 11] rfl)
                    · have p275 : ¬ (r272 = (0 : Int32)) := c275
                      refine lv_iconst (v := 1) hx hb d_Model_covers_278 (by decide) ?_
                      exact W.zret (v := 1) hx hb hr rfl (fun t ht hW => ⟨⟨_, G22, rfl, ⟨hTy, hFR, (by rw [eX_3] at kmo; exact kmo)⟩, by rw [ht]; exact hP, va_K.moved hW.alike hK, hD⟩, hS.F ht⟩) hS.2.2 d_Model_covers_279
          · have p204 : ¬ (r201 = (0 : Int32)) := c204
            refine lv_iconst (v := 1) hx hb d_Model_covers_207 (by decide) ?_
            exact W.zret (v := 1) hx hb hr rfl (fun t ht hW => ⟨⟨_, G22, rfl, ⟨hTy, hFR, (by rw [eX_3] at kmo; exact kmo)⟩, by rw [ht]; exact hP, va_K.moved hW.alike hK, hD⟩, hS.F ht⟩) hS.2.2 d_Model_covers_208
      · have p138 : ¬ (e135 = (46 : Int32)) := c138
        refine lv_iinc (v := nI (z122 + 1)) (lv' := [(11, .int (nI (z122 + 1))), (10, .int (nI y22_10)), (0, .ref mo), (1, .int (nI k9)), (2, .long la), (4, .long lb), (6, .long ld), (8, .long le)]) hx hb d_Model_covers_141 hl (k := 0) rfl (nI_1 _) (by decide) rfl (fun ls hl => ?_)
        refine lv_goto (tgt := 122) hx hb d_Model_covers_144 (by decide) ?_
        exact ih122 ((z122 + 1)) ls (by omega) ⟨by omega, by omega⟩ (lv_sub hl [0, 1, 2, 3, 4, 5, 6, 7] rfl)
  · have p26 : ¬ (32 ≤ z22) := (fun q9 => c26 ((nI_leI (a := 32) (b := z22) (by omega) (by omega)).mpr q9))
    refine lv_iload hx hb d_Model_covers_29 (lv_at hl 1 rfl) ?_
    refine lv_iload hx hb d_Model_covers_31 (lv_at hl 0 rfl) ?_
    refine lv_icmp_ne (tgt := 119) hx hb d_Model_covers_33 (by decide) (fun c33 => ?_) (fun c33 => ?_)
    · have p33 : ¬ (y22_10 = z22) := (fun q9 => c33 ((nI_eq (a := y22_10) (b := z22) (by omega) (by omega)).mpr q9))
      refine lv_iconst (v := 0) hx hb d_Model_covers_119 (by decide) ?_
      refine lv_istore (lv' := [(11, .int 0), (10, .int (nI y22_10)), (0, .ref mo), (1, .int (nI k9)), (2, .long la), (4, .long lb), (6, .long ld), (8, .long le)]) hx hb d_Model_covers_120 hl (by decide) rfl (fun ls hl => ?_)
      refine w_loop (α := Nat) (fun a9 => 0 ≤ a9 ∧ a9 ≤ y22_10) (fun a9 => y22_10 - a9) (fun a9 => [(11, .int (nI a9)), (10, .int (nI y22_10)), (0, .ref mo), (1, .int (nI k9)), (2, .long la), (4, .long lb), (6, .long ld), (8, .long le)]) (fun _ => []) 16 122 (fun z122 ls hJ hl ih122 => ?_) (0) ls ⟨by omega, by omega⟩ (lv_sub hl [0, 1, 2, 3, 4, 5, 6, 7] rfl)
      skip
      obtain ⟨hy122, hz122⟩ := hJ
      refine lv_iload hx hb d_Model_covers_122 (lv_at hl 0 rfl) ?_
      refine lv_iload hx hb d_Model_covers_124 (lv_at hl 1 rfl) ?_
      refine lv_icmp_ge (tgt := 147) hx hb d_Model_covers_126 (by decide) (fun c126 => ?_) (fun c126 => ?_)
      · have p126 : y22_10 ≤ z122 := ((nI_leI (a := y22_10) (b := z122) (by omega) (by omega)).mp c126)
        refine lv_aload_n hx hb d_Model_covers_147 rfl (lv_at hl 2 rfl) ?_
        obtain ⟨i_18, hg_18⟩ := List.getElem?_of_mem kmo.2
        rw [eX_3] at hg_18
        refine va_get (v := .ref msT) hx hb htb i_Model hown hK hP i_18 hg_18 rfl 6 (by decide) (htb _ q7_220) (fun _ h9 => h9) rfl d_Model_covers_148 ?_
        refine lv_iload_n hx hb d_Model_covers_151 rfl (lv_at hl 3 rfl) ?_
        obtain ⟨i_19, hg_19⟩ := List.getElem?_of_mem kmsT.2
        have h152 : vp_in (nI k9) 16 := vp_in_nI (by omega) (by omega)
        refine va_aldq hx hb hK hP i_19 4 hg_19 rfl h152 d_Model_covers_152 ?_
        obtain ⟨t152, ft152, kt152, hc_t152⟩ := hst k9 (by omega)
        rw [show va_rf (fS (nI k9).toNatClampNeg) = .ref t152 from by rw [nI_clamp (by omega), ft152]; rfl]
        have b1_t152 := hc_t152.b1
        have b2_t152 := hc_t152.b2
        have b3_t152 := hc_t152.b3
        have b4_t152 := hc_t152.b4
        have b5_t152 := hc_t152.b5
        have b6_t152 := hc_t152.b6
        have b8_t152 := hc_t152.b8
        have b9_t152 := hc_t152.b9
        refine lv_astore (lv' := [(12, .ref t152), (11, .int (nI z122)), (10, .int (nI y22_10)), (0, .ref mo), (1, .int (nI k9)), (2, .long la), (4, .long lb), (6, .long ld), (8, .long le)]) hx hb d_Model_covers_153 hl (by decide) rfl (fun ls hl => ?_)
        refine lv_iconst (v := 0) hx hb d_Model_covers_155 (by decide) ?_
        refine lv_istore (lv' := [(13, .int 0), (12, .ref t152), (11, .int (nI z122)), (10, .int (nI y22_10)), (0, .ref mo), (1, .int (nI k9)), (2, .long la), (4, .long lb), (6, .long ld), (8, .long le)]) hx hb d_Model_covers_156 hl (by decide) rfl (fun ls hl => ?_)
        refine w_loop (α := Nat) (fun a9 => 0 ≤ a9 ∧ a9 ≤ ((τ t152).nd)) (fun a9 => ((τ t152).nd) - a9) (fun a9 => [(13, .int (nI a9)), (12, .ref t152), (11, .int (nI z122)), (10, .int (nI y22_10)), (0, .ref mo), (1, .int (nI k9)), (2, .long la), (4, .long lb), (6, .long ld), (8, .long le)]) (fun _ => []) 16 158 (fun z158 ls hJ hl ih158 => ?_) (0) ls ⟨by omega, by omega⟩ (lv_sub hl [0, 1, 2, 3, 4, 5, 6, 7, 8, 9] rfl)
        skip
        obtain ⟨hy158, hz158⟩ := hJ
        refine lv_iload hx hb d_Model_covers_158 (lv_at hl 0 rfl) ?_
        refine lv_aload hx hb d_Model_covers_160 (lv_at hl 1 rfl) ?_
        obtain ⟨i_20, kA_20, hg_20⟩ := tr_20 hTy kt152
        refine va_get (v := .int ((τ t152).I 27)) hx hb htb i_Text hown hK hP i_20 hg_20 rfl 27 (by decide) (htb _ q6_226) (fun _ h9 => h9) rfl d_Model_covers_162 ?_
        rw [hc_t152.e27]
        refine lv_icmp_ge (tgt := 286) hx hb d_Model_covers_165 (by decide) (fun c165 => ?_) (fun c165 => ?_)
        · have p165 : ((τ t152).nd) ≤ z158 := ((nI_leI (a := ((τ t152).nd)) (b := z158) (by omega) (by omega)).mp c165)
          refine lv_iconst (v := 0) hx hb d_Model_covers_286 (by decide) ?_
          exact W.zret (v := 0) hx hb hr rfl (fun t ht hW => ⟨⟨_, G22, rfl, ⟨hTy, hFR, (by rw [eX_3] at kmo; exact kmo)⟩, by rw [ht]; exact hP, va_K.moved hW.alike hK, hD⟩, hS.F ht⟩) hS.2.2 d_Model_covers_287
        · have p165 : ¬ (((τ t152).nd) ≤ z158) := (fun q9 => c165 ((nI_leI (a := ((τ t152).nd)) (b := z158) (by omega) (by omega)).mpr q9))
          refine lv_aload hx hb d_Model_covers_168 (lv_at hl 1 rfl) ?_
          refine va_get (v := .ref ((τ t152).A 1)) hx hb htb i_Text hown hK hP i_20 hg_20 rfl 43 (by decide) (htb _ q7_14) (fun _ h9 => h9) rfl d_Model_covers_170 ?_
          refine lv_iload hx hb d_Model_covers_173 (lv_at hl 0 rfl) ?_
          obtain ⟨i_21, hg_21⟩ := tr_18 hTy (kA_20 1 (by decide))
          have hg_21 : G22[i_21]? = some (((τ t152).A 1), .inl (γ.2.1, 700, .inl ((τ t152).D 1))) := hg_21
          have h175 : vp_in (nI z158) 700 := vp_in_nI (by omega) (by omega)
          refine va_iald hx hb hK hP i_21 1 hg_21 rfl h175 d_Model_covers_175 ?_
          refine lv_topi (fun e175 he175 => ?_)
          obtain ⟨q1_175, q2_175, q3_175, q4_175⟩ := hc_t152.l1 z158 (by omega)
          rw [nI_clamp (by omega), q1_175] at he175
          subst he175
          refine lv_istore (lv' := [(14, .int (nI ((τ t152).da z158))), (13, .int (nI z158)), (12, .ref t152), (11, .int (nI z122)), (10, .int (nI y22_10)), (0, .ref mo), (1, .int (nI k9)), (2, .long la), (4, .long lb), (6, .long ld), (8, .long le)]) hx hb d_Model_covers_176 hl (by decide) rfl (fun ls hl => ?_)
          refine lv_aload hx hb d_Model_covers_178 (lv_at hl 2 rfl) ?_
          refine va_get (v := .ref ((τ t152).A 2)) hx hb htb i_Text hown hK hP i_20 hg_20 rfl 44 (by decide) (htb _ q7_16) (fun _ h9 => h9) rfl d_Model_covers_180 ?_
          refine lv_iload hx hb d_Model_covers_183 (lv_at hl 1 rfl) ?_
          obtain ⟨i_22, hg_22⟩ := tr_18 hTy (kA_20 2 (by decide))
          have hg_22 : G22[i_22]? = some (((τ t152).A 2), .inl (γ.2.1, 700, .inl ((τ t152).D 2))) := hg_22
          have h185 : vp_in (nI z158) 700 := vp_in_nI (by omega) (by omega)
          refine va_iald hx hb hK hP i_22 1 hg_22 rfl h185 d_Model_covers_185 ?_
          refine lv_topi (fun e185 he185 => ?_)
          obtain ⟨q1_185, q2_185, q3_185, q4_185⟩ := hc_t152.l1 z158 (by omega)
          rw [nI_clamp (by omega), q2_185] at he185
          subst he185
          refine lv_iload hx hb d_Model_covers_186 (lv_at hl 0 rfl) ?_
          refine lv_isub hx hb d_Model_covers_188 ?_
          rw [show ((nI ((τ t152).de z158)) - (nI ((τ t152).da z158)) : Int32) = nI (((τ t152).de z158) - ((τ t152).da z158)) from pk_sub (a := ((τ t152).de z158)) (b := ((τ t152).da z158)) (by omega)]
          refine lv_istore (lv' := [(15, .int (nI (((τ t152).de z158) - ((τ t152).da z158)))), (14, .int (nI ((τ t152).da z158))), (13, .int (nI z158)), (12, .ref t152), (11, .int (nI z122)), (10, .int (nI y22_10)), (0, .ref mo), (1, .int (nI k9)), (2, .long la), (4, .long lb), (6, .long ld), (8, .long le)]) hx hb d_Model_covers_189 hl (by decide) rfl (fun ls hl => ?_)
          refine lv_aload_n hx hb d_Model_covers_191 rfl (lv_at hl 6 rfl) ?_
          refine lv_aload hx hb d_Model_covers_192 (lv_at hl 3 rfl) ?_
          refine lv_iload hx hb d_Model_covers_194 (lv_at hl 1 rfl) ?_
          refine lv_iload hx hb d_Model_covers_196 (lv_at hl 0 rfl) ?_
          refine lv_iconst (v := 0) hx hb d_Model_covers_198 (by decide) ?_
          refine lv_iload hx hb d_Model_covers_199 (lv_at hl 5 rfl) ?_
          refine vp_callSi (pu_callV (As := [.ref t152, .int (nI ((τ t152).da z158)), .int (nI (((τ t152).de z158) - ((τ t152).da z158))), .int 0, .int (nI y22_10)]) (rest := []) ⟨hx, hb, hml, hown, hts⟩ tbin (p_Model_alike l dC dI sb γ κ Ad τ gT G22 mo t152 _ _ _ _ _ _ _ _ _ _ _ _ _ _ _ _ _ _ _ _ _ _ _ _ _ _ _ _ _ _ _ _ ((τ t152).da z158) (((τ t152).de z158) - ((τ t152).da z158)) 0 y22_10 hTy (by have h9 := kmo; rw [eX_3] at h9; exact h9) kt152 kmxA (by omega) (by omega)) q9_186 q9_188 qp_51 q1_9 q9_189 (n := 5) (by decide +kernel) rfl ⟨rfl, rfl⟩ ⟨Nat.le_of_ble_eq_true rfl, Nat.le_of_ble_eq_true rfl⟩ ⟨Nat.le_of_ble_eq_true rfl, Nat.le_of_ble_eq_true rfl⟩ hN (hT0.keep hS hAs) hK hP (List.range G22.length) (rg_all G22) [0, 1, 2, 3, 4] rfl i_18 12 hg_18 rfl rfl hl.1 rfl (Nat.le_of_ble_eq_true rfl) d_Model_covers_201) (fun r201 hr201 => ?_)
          refine lv_if_eq (tgt := 209) hx hb d_Model_covers_204 (by decide) (fun c204 => ?_) (fun c204 => ?_)
          · have p204 : r201 = (0 : Int32) := c204
            refine lv_iload hx hb d_Model_covers_209 (lv_at hl 4 rfl) ?_
            refine lv_iload hx hb d_Model_covers_211 (lv_at hl 5 rfl) ?_
            refine lv_icmp_ge (tgt := 280) hx hb d_Model_covers_213 (by decide) (fun c213 => ?_) (fun c213 => ?_)
            · have p213 : y22_10 ≤ z122 := ((nI_leI (a := y22_10) (b := z122) (by omega) (by omega)).mp c213)
              refine lv_iinc (v := nI (z158 + 1)) (lv' := [(13, .int (nI (z158 + 1))), (15, .int (nI (((τ t152).de z158) - ((τ t152).da z158)))), (14, .int (nI ((τ t152).da z158))), (12, .ref t152), (11, .int (nI z122)), (10, .int (nI y22_10)), (0, .ref mo), (1, .int (nI k9)), (2, .long la), (4, .long lb), (6, .long ld), (8, .long le)]) hx hb d_Model_covers_280 hl (k := 2) rfl (nI_1 _) (by decide) rfl (fun ls hl => ?_)
              refine lv_goto (tgt := 158) hx hb d_Model_covers_283 (by decide) ?_
              exact ih158 ((z158 + 1)) ls (by omega) ⟨by omega, by omega⟩ (lv_sub hl [0, 3, 4, 5, 6, 7, 8, 9, 10, 11] rfl)
            · have p213 : ¬ (y22_10 ≤ z122) := (fun q9 => c213 ((nI_leI (a := y22_10) (b := z122) (by omega) (by omega)).mpr q9))
              refine lv_iload hx hb d_Model_covers_216 (lv_at hl 0 rfl) ?_
              refine lv_iconst (v := 2) hx hb d_Model_covers_218 (by decide) ?_
              refine lv_icmp_lt (tgt := 280) hx hb d_Model_covers_219 (by decide) (fun c219 => ?_) (fun c219 => ?_)
              · have p219 : (((τ t152).de z158) - ((τ t152).da z158)) < 2 := ((nI_ltI (a := (((τ t152).de z158) - ((τ t152).da z158))) (b := 2) (by omega) (by omega)).mp c219)
                refine lv_iinc (v := nI (z158 + 1)) (lv' := [(13, .int (nI (z158 + 1))), (15, .int (nI (((τ t152).de z158) - ((τ t152).da z158)))), (14, .int (nI ((τ t152).da z158))), (12, .ref t152), (11, .int (nI z122)), (10, .int (nI y22_10)), (0, .ref mo), (1, .int (nI k9)), (2, .long la), (4, .long lb), (6, .long ld), (8, .long le)]) hx hb d_Model_covers_280 hl (k := 2) rfl (nI_1 _) (by decide) rfl (fun ls hl => ?_)
                refine lv_goto (tgt := 158) hx hb d_Model_covers_283 (by decide) ?_
                exact ih158 ((z158 + 1)) ls (by omega) ⟨by omega, by omega⟩ (lv_sub hl [0, 3, 4, 5, 6, 7, 8, 9, 10, 11] rfl)
              · have p219 : ¬ ((((τ t152).de z158) - ((τ t152).da z158)) < 2) := (fun q9 => c219 ((nI_ltI (a := (((τ t152).de z158) - ((τ t152).da z158))) (b := 2) (by omega) (by omega)).mpr q9))
                refine lv_aload hx hb d_Model_covers_222 (lv_at hl 3 rfl) ?_
                refine va_get (v := .ref ((τ t152).A 0)) hx hb htb i_Text hown hK hP i_20 hg_20 rfl 0 (by decide) (htb _ q6_179) (fun _ h9 => h9) rfl d_Model_covers_224 ?_
                refine lv_iload hx hb d_Model_covers_227 (lv_at hl 1 rfl) ?_
                obtain ⟨i_23, hg_23⟩ := tr_18 hTy (kA_20 0 (by decide))
                have hg_23 : G22[i_23]? = some (((τ t152).A 0), .inl (γ.2.1, 2048, .inl ((τ t152).D 0))) := hg_23
                have h229 : vp_in (nI ((τ t152).da z158)) 2048 := vp_in_nI (by omega) (by omega)
                refine va_iald hx hb hK hP i_23 1 hg_23 rfl h229 d_Model_covers_229 ?_
                refine lv_topi (fun e229 he229 => ?_)
                refine lv_bipush (v := 42) hx hb d_Model_covers_230 (by decide) ?_
                refine lv_icmp_ne (tgt := 280) hx hb d_Model_covers_232 (by decide) (fun c232 => ?_) (fun c232 => ?_)
                · have p232 : ¬ (e229 = (42 : Int32)) := c232
                  refine lv_iinc (v := nI (z158 + 1)) (lv' := [(13, .int (nI (z158 + 1))), (15, .int (nI (((τ t152).de z158) - ((τ t152).da z158)))), (14, .int (nI ((τ t152).da z158))), (12, .ref t152), (11, .int (nI z122)), (10, .int (nI y22_10)), (0, .ref mo), (1, .int (nI k9)), (2, .long la), (4, .long lb), (6, .long ld), (8, .long le)]) hx hb d_Model_covers_280 hl (k := 2) rfl (nI_1 _) (by decide) rfl (fun ls hl => ?_)
                  refine lv_goto (tgt := 158) hx hb d_Model_covers_283 (by decide) ?_
                  exact ih158 ((z158 + 1)) ls (by omega) ⟨by omega, by omega⟩ (lv_sub hl [0, 3, 4, 5, 6, 7, 8, 9, 10, 11] rfl)
                · have p232 : e229 = (42 : Int32) := c232
                  refine lv_aload hx hb d_Model_covers_235 (lv_at hl 3 rfl) ?_
                  refine va_get (v := .ref ((τ t152).A 0)) hx hb htb i_Text hown hK hP i_20 hg_20 rfl 0 (by decide) (htb _ q6_179) (fun _ h9 => h9) rfl d_Model_covers_237 ?_
                  refine lv_iload hx hb d_Model_covers_240 (lv_at hl 1 rfl) ?_
                  refine lv_iconst (v := 1) hx hb d_Model_covers_242 (by decide) ?_
                  refine lv_iadd hx hb d_Model_covers_243 ?_
                  rw [show ((nI ((τ t152).da z158)) + 1 : Int32) = nI (((τ t152).da z158) + 1) from nI_add ((τ t152).da z158) 1]
                  have h244 : vp_in (nI (((τ t152).da z158) + 1)) 2048 := vp_in_nI (by omega) (by omega)
                  refine va_iald hx hb hK hP i_23 1 hg_23 rfl h244 d_Model_covers_244 ?_
                  refine lv_topi (fun e244 he244 => ?_)
                  refine lv_bipush (v := 46) hx hb d_Model_covers_245 (by decide) ?_
                  refine lv_icmp_ne (tgt := 280) hx hb d_Model_covers_247 (by decide) (fun c247 => ?_) (fun c247 => ?_)
                  · have p247 : ¬ (e244 = (46 : Int32)) := c247
                    refine lv_iinc (v := nI (z158 + 1)) (lv' := [(13, .int (nI (z158 + 1))), (15, .int (nI (((τ t152).de z158) - ((τ t152).da z158)))), (14, .int (nI ((τ t152).da z158))), (12, .ref t152), (11, .int (nI z122)), (10, .int (nI y22_10)), (0, .ref mo), (1, .int (nI k9)), (2, .long la), (4, .long lb), (6, .long ld), (8, .long le)]) hx hb d_Model_covers_280 hl (k := 2) rfl (nI_1 _) (by decide) rfl (fun ls hl => ?_)
                    refine lv_goto (tgt := 158) hx hb d_Model_covers_283 (by decide) ?_
                    exact ih158 ((z158 + 1)) ls (by omega) ⟨by omega, by omega⟩ (lv_sub hl [0, 3, 4, 5, 6, 7, 8, 9, 10, 11] rfl)
                  · have p247 : e244 = (46 : Int32) := c247
                    refine lv_aload_n hx hb d_Model_covers_250 rfl (lv_at hl 6 rfl) ?_
                    refine lv_aload hx hb d_Model_covers_251 (lv_at hl 3 rfl) ?_
                    refine lv_iload hx hb d_Model_covers_253 (lv_at hl 1 rfl) ?_
                    refine lv_iconst (v := 2) hx hb d_Model_covers_255 (by decide) ?_
                    refine lv_iadd hx hb d_Model_covers_256 ?_
                    rw [show ((nI ((τ t152).da z158)) + 2 : Int32) = nI (((τ t152).da z158) + 2) from nI_add ((τ t152).da z158) 2]
                    refine lv_iload hx hb d_Model_covers_257 (lv_at hl 0 rfl) ?_
                    refine lv_iconst (v := 2) hx hb d_Model_covers_259 (by decide) ?_
                    refine lv_isub hx hb d_Model_covers_260 ?_
                    rw [show ((nI (((τ t152).de z158) - ((τ t152).da z158))) - 2 : Int32) = nI ((((τ t152).de z158) - ((τ t152).da z158)) - 2) from pk_sub (a := (((τ t152).de z158) - ((τ t152).da z158))) (b := 2) (by omega)]
                    refine lv_iload hx hb d_Model_covers_261 (lv_at hl 4 rfl) ?_
                    refine lv_iconst (v := 1) hx hb d_Model_covers_263 (by decide) ?_
                    refine lv_iadd hx hb d_Model_covers_264 ?_
                    rw [show ((nI z122) + 1 : Int32) = nI (z122 + 1) from nI_add z122 1]
                    refine lv_iload hx hb d_Model_covers_265 (lv_at hl 5 rfl) ?_
                    refine lv_iload hx hb d_Model_covers_267 (lv_at hl 4 rfl) ?_
                    refine lv_isub hx hb d_Model_covers_269 ?_
                    rw [show ((nI y22_10) - (nI z122) : Int32) = nI (y22_10 - z122) from pk_sub (a := y22_10) (b := z122) (by omega)]
                    refine lv_iconst (v := 1) hx hb d_Model_covers_270 (by decide) ?_
                    refine lv_isub hx hb d_Model_covers_271 ?_
                    rw [show ((nI (y22_10 - z122)) - 1 : Int32) = nI ((y22_10 - z122) - 1) from pk_sub (a := (y22_10 - z122)) (b := 1) (by omega)]
                    refine vp_callSi (pu_callV (As := [.ref t152, .int (nI (((τ t152).da z158) + 2)), .int (nI ((((τ t152).de z158) - ((τ t152).da z158)) - 2)), .int (nI (z122 + 1)), .int (nI ((y22_10 - z122) - 1))]) (rest := []) ⟨hx, hb, hml, hown, hts⟩ tbin (p_Model_alike l dC dI sb γ κ Ad τ gT G22 mo t152 _ _ _ _ _ _ _ _ _ _ _ _ _ _ _ _ _ _ _ _ _ _ _ _ _ _ _ _ _ _ _ _ (((τ t152).da z158) + 2) ((((τ t152).de z158) - ((τ t152).da z158)) - 2) (z122 + 1) ((y22_10 - z122) - 1) hTy (by have h9 := kmo; rw [eX_3] at h9; exact h9) kt152 kmxA (by omega) (by omega)) q9_186 q9_188 qp_51 q1_9 q9_189 (n := 5) (by decide +kernel) rfl ⟨rfl, rfl⟩ ⟨Nat.le_of_ble_eq_true rfl, Nat.le_of_ble_eq_true rfl⟩ ⟨Nat.le_of_ble_eq_true rfl, Nat.le_of_ble_eq_true rfl⟩ hN (hT0.keep hS hAs) hK hP (List.range G22.length) (rg_all G22) [0, 1, 2, 3, 4] rfl i_18 12 hg_18 rfl rfl hl.1 rfl (Nat.le_of_ble_eq_true rfl) d_Model_covers_272) (fun r272 hr272 => ?_)
                    refine lv_if_eq (tgt := 280) hx hb d_Model_covers_275 (by decide) (fun c275 => ?_) (fun c275 => ?_)
                    · have p275 : r272 = (0 : Int32) := c275
                      refine lv_iinc (v := nI (z158 + 1)) (lv' := [(13, .int (nI (z158 + 1))), (15, .int (nI (((τ t152).de z158) - ((τ t152).da z158)))), (14, .int (nI ((τ t152).da z158))), (12, .ref t152), (11, .int (nI z122)), (10, .int (nI y22_10)), (0, .ref mo), (1, .int (nI k9)), (2, .long la), (4, .long lb), (6, .long ld), (8, .long le)]) hx hb d_Model_covers_280 hl (k := 2) rfl (nI_1 _) (by decide) rfl (fun ls hl => ?_)
                      refine lv_goto (tgt := 158) hx hb d_Model_covers_283 (by decide) ?_
                      exact ih158 ((z158 + 1)) ls (by omega) ⟨by omega, by omega⟩ (lv_sub hl [0, 3, 4, 5, 6, 7, 8, 9, 10, 11] rfl)
                    · have p275 : ¬ (r272 = (0 : Int32)) := c275
                      refine lv_iconst (v := 1) hx hb d_Model_covers_278 (by decide) ?_
                      exact W.zret (v := 1) hx hb hr rfl (fun t ht hW => ⟨⟨_, G22, rfl, ⟨hTy, hFR, (by rw [eX_3] at kmo; exact kmo)⟩, by rw [ht]; exact hP, va_K.moved hW.alike hK, hD⟩, hS.F ht⟩) hS.2.2 d_Model_covers_279
          · have p204 : ¬ (r201 = (0 : Int32)) := c204
            refine lv_iconst (v := 1) hx hb d_Model_covers_207 (by decide) ?_
            exact W.zret (v := 1) hx hb hr rfl (fun t ht hW => ⟨⟨_, G22, rfl, ⟨hTy, hFR, (by rw [eX_3] at kmo; exact kmo)⟩, by rw [ht]; exact hP, va_K.moved hW.alike hK, hD⟩, hS.F ht⟩) hS.2.2 d_Model_covers_208
      · have p126 : ¬ (y22_10 ≤ z122) := (fun q9 => c126 ((nI_leI (a := y22_10) (b := z122) (by omega) (by omega)).mpr q9))
        refine lv_aload_n hx hb d_Model_covers_129 rfl (lv_at hl 2 rfl) ?_
        obtain ⟨i_24, hg_24⟩ := List.getElem?_of_mem kmo.2
        rw [eX_3] at hg_24
        refine va_get (v := .ref mxA) hx hb htb i_Model hown hK hP i_24 hg_24 rfl 16 (by decide) (htb _ q7_230) (fun _ h9 => h9) rfl d_Model_covers_130 ?_
        refine lv_iload hx hb d_Model_covers_133 (lv_at hl 0 rfl) ?_
        obtain ⟨i_25, f_25, hb_25, hn_25, hg_25⟩ := tr_63x hTy kmxA (by decide)
        have h135 : vp_in (nI z122) 600 := vp_in_nI (by omega) (by omega)
        refine va_iald hx hb hK hP i_25 1 hg_25 rfl h135 d_Model_covers_135 ?_
        refine lv_topi (fun e135 he135 => ?_)
        refine lv_bipush (v := 46) hx hb d_Model_covers_136 (by decide) ?_
        refine lv_icmp_eq (tgt := 147) hx hb d_Model_covers_138 (by decide) (fun c138 => ?_) (fun c138 => ?_)
        · have p138 : e135 = (46 : Int32) := c138
          refine lv_aload_n hx hb d_Model_covers_147 rfl (lv_at hl 2 rfl) ?_
          refine va_get (v := .ref msT) hx hb htb i_Model hown hK hP i_24 hg_24 rfl 6 (by decide) (htb _ q7_220) (fun _ h9 => h9) rfl d_Model_covers_148 ?_
          refine lv_iload_n hx hb d_Model_covers_151 rfl (lv_at hl 3 rfl) ?_
          obtain ⟨i_26, hg_26⟩ := List.getElem?_of_mem kmsT.2
          have h152 : vp_in (nI k9) 16 := vp_in_nI (by omega) (by omega)
          refine va_aldq hx hb hK hP i_26 4 hg_26 rfl h152 d_Model_covers_152 ?_
          obtain ⟨t152, ft152, kt152, hc_t152⟩ := hst k9 (by omega)
          rw [show va_rf (fS (nI k9).toNatClampNeg) = .ref t152 from by rw [nI_clamp (by omega), ft152]; rfl]
          have b1_t152 := hc_t152.b1
          have b2_t152 := hc_t152.b2
          have b3_t152 := hc_t152.b3
          have b4_t152 := hc_t152.b4
          have b5_t152 := hc_t152.b5
          have b6_t152 := hc_t152.b6
          have b8_t152 := hc_t152.b8
          have b9_t152 := hc_t152.b9
          refine lv_astore (lv' := [(12, .ref t152), (11, .int (nI z122)), (10, .int (nI y22_10)), (0, .ref mo), (1, .int (nI k9)), (2, .long la), (4, .long lb), (6, .long ld), (8, .long le)]) hx hb d_Model_covers_153 hl (by decide) rfl (fun ls hl => ?_)
          refine lv_iconst (v := 0) hx hb d_Model_covers_155 (by decide) ?_
          refine lv_istore (lv' := [(13, .int 0), (12, .ref t152), (11, .int (nI z122)), (10, .int (nI y22_10)), (0, .ref mo), (1, .int (nI k9)), (2, .long la), (4, .long lb), (6, .long ld), (8, .long le)]) hx hb d_Model_covers_156 hl (by decide) rfl (fun ls hl => ?_)
          refine w_loop (α := Nat) (fun a9 => 0 ≤ a9 ∧ a9 ≤ ((τ t152).nd)) (fun a9 => ((τ t152).nd) - a9) (fun a9 => [(13, .int (nI a9)), (12, .ref t152), (11, .int (nI z122)), (10, .int (nI y22_10)), (0, .ref mo), (1, .int (nI k9)), (2, .long la), (4, .long lb), (6, .long ld), (8, .long le)]) (fun _ => []) 16 158 (fun z158 ls hJ hl ih158 => ?_) (0) ls ⟨by omega, by omega⟩ (lv_sub hl [0, 1, 2, 3, 4, 5, 6, 7, 8, 9] rfl)
          skip
          obtain ⟨hy158, hz158⟩ := hJ
          refine lv_iload hx hb d_Model_covers_158 (lv_at hl 0 rfl) ?_
          refine lv_aload hx hb d_Model_covers_160 (lv_at hl 1 rfl) ?_
          obtain ⟨i_27, kA_27, hg_27⟩ := tr_20 hTy kt152
          refine va_get (v := .int ((τ t152).I 27)) hx hb htb i_Text hown hK hP i_27 hg_27 rfl 27 (by decide) (htb _ q6_226) (fun _ h9 => h9) rfl d_Model_covers_162 ?_
          rw [hc_t152.e27]
          refine lv_icmp_ge (tgt := 286) hx hb d_Model_covers_165 (by decide) (fun c165 => ?_) (fun c165 => ?_)
          · have p165 : ((τ t152).nd) ≤ z158 := ((nI_leI (a := ((τ t152).nd)) (b := z158) (by omega) (by omega)).mp c165)
            refine lv_iconst (v := 0) hx hb d_Model_covers_286 (by decide) ?_
            exact W.zret (v := 0) hx hb hr rfl (fun t ht hW => ⟨⟨_, G22, rfl, ⟨hTy, hFR, (by rw [eX_3] at kmo; exact kmo)⟩, by rw [ht]; exact hP, va_K.moved hW.alike hK, hD⟩, hS.F ht⟩) hS.2.2 d_Model_covers_287
          · have p165 : ¬ (((τ t152).nd) ≤ z158) := (fun q9 => c165 ((nI_leI (a := ((τ t152).nd)) (b := z158) (by omega) (by omega)).mpr q9))
            refine lv_aload hx hb d_Model_covers_168 (lv_at hl 1 rfl) ?_
            refine va_get (v := .ref ((τ t152).A 1)) hx hb htb i_Text hown hK hP i_27 hg_27 rfl 43 (by decide) (htb _ q7_14) (fun _ h9 => h9) rfl d_Model_covers_170 ?_
            refine lv_iload hx hb d_Model_covers_173 (lv_at hl 0 rfl) ?_
            obtain ⟨i_28, hg_28⟩ := tr_18 hTy (kA_27 1 (by decide))
            have hg_28 : G22[i_28]? = some (((τ t152).A 1), .inl (γ.2.1, 700, .inl ((τ t152).D 1))) := hg_28
            have h175 : vp_in (nI z158) 700 := vp_in_nI (by omega) (by omega)
            refine va_iald hx hb hK hP i_28 1 hg_28 rfl h175 d_Model_covers_175 ?_
            refine lv_topi (fun e175 he175 => ?_)
            obtain ⟨q1_175, q2_175, q3_175, q4_175⟩ := hc_t152.l1 z158 (by omega)
            rw [nI_clamp (by omega), q1_175] at he175
            subst he175
            refine lv_istore (lv' := [(14, .int (nI ((τ t152).da z158))), (13, .int (nI z158)), (12, .ref t152), (11, .int (nI z122)), (10, .int (nI y22_10)), (0, .ref mo), (1, .int (nI k9)), (2, .long la), (4, .long lb), (6, .long ld), (8, .long le)]) hx hb d_Model_covers_176 hl (by decide) rfl (fun ls hl => ?_)
            refine lv_aload hx hb d_Model_covers_178 (lv_at hl 2 rfl) ?_
            refine va_get (v := .ref ((τ t152).A 2)) hx hb htb i_Text hown hK hP i_27 hg_27 rfl 44 (by decide) (htb _ q7_16) (fun _ h9 => h9) rfl d_Model_covers_180 ?_
            refine lv_iload hx hb d_Model_covers_183 (lv_at hl 1 rfl) ?_
            obtain ⟨i_29, hg_29⟩ := tr_18 hTy (kA_27 2 (by decide))
            have hg_29 : G22[i_29]? = some (((τ t152).A 2), .inl (γ.2.1, 700, .inl ((τ t152).D 2))) := hg_29
            have h185 : vp_in (nI z158) 700 := vp_in_nI (by omega) (by omega)
            refine va_iald hx hb hK hP i_29 1 hg_29 rfl h185 d_Model_covers_185 ?_
            refine lv_topi (fun e185 he185 => ?_)
            obtain ⟨q1_185, q2_185, q3_185, q4_185⟩ := hc_t152.l1 z158 (by omega)
            rw [nI_clamp (by omega), q2_185] at he185
            subst he185
            refine lv_iload hx hb d_Model_covers_186 (lv_at hl 0 rfl) ?_
            refine lv_isub hx hb d_Model_covers_188 ?_
            rw [show ((nI ((τ t152).de z158)) - (nI ((τ t152).da z158)) : Int32) = nI (((τ t152).de z158) - ((τ t152).da z158)) from pk_sub (a := ((τ t152).de z158)) (b := ((τ t152).da z158)) (by omega)]
            refine lv_istore (lv' := [(15, .int (nI (((τ t152).de z158) - ((τ t152).da z158)))), (14, .int (nI ((τ t152).da z158))), (13, .int (nI z158)), (12, .ref t152), (11, .int (nI z122)), (10, .int (nI y22_10)), (0, .ref mo), (1, .int (nI k9)), (2, .long la), (4, .long lb), (6, .long ld), (8, .long le)]) hx hb d_Model_covers_189 hl (by decide) rfl (fun ls hl => ?_)
            refine lv_aload_n hx hb d_Model_covers_191 rfl (lv_at hl 6 rfl) ?_
            refine lv_aload hx hb d_Model_covers_192 (lv_at hl 3 rfl) ?_
            refine lv_iload hx hb d_Model_covers_194 (lv_at hl 1 rfl) ?_
            refine lv_iload hx hb d_Model_covers_196 (lv_at hl 0 rfl) ?_
            refine lv_iconst (v := 0) hx hb d_Model_covers_198 (by decide) ?_
            refine lv_iload hx hb d_Model_covers_199 (lv_at hl 5 rfl) ?_
            refine vp_callSi (pu_callV (As := [.ref t152, .int (nI ((τ t152).da z158)), .int (nI (((τ t152).de z158) - ((τ t152).da z158))), .int 0, .int (nI y22_10)]) (rest := []) ⟨hx, hb, hml, hown, hts⟩ tbin (p_Model_alike l dC dI sb γ κ Ad τ gT G22 mo t152 _ _ _ _ _ _ _ _ _ _ _ _ _ _ _ _ _ _ _ _ _ _ _ _ _ _ _ _ _ _ _ _ ((τ t152).da z158) (((τ t152).de z158) - ((τ t152).da z158)) 0 y22_10 hTy (by have h9 := kmo; rw [eX_3] at h9; exact h9) kt152 kmxA (by omega) (by omega)) q9_186 q9_188 qp_51 q1_9 q9_189 (n := 5) (by decide +kernel) rfl ⟨rfl, rfl⟩ ⟨Nat.le_of_ble_eq_true rfl, Nat.le_of_ble_eq_true rfl⟩ ⟨Nat.le_of_ble_eq_true rfl, Nat.le_of_ble_eq_true rfl⟩ hN (hT0.keep hS hAs) hK hP (List.range G22.length) (rg_all G22) [0, 1, 2, 3, 4] rfl i_24 12 hg_24 rfl rfl hl.1 rfl (Nat.le_of_ble_eq_true rfl) d_Model_covers_201) (fun r201 hr201 => ?_)
            refine lv_if_eq (tgt := 209) hx hb d_Model_covers_204 (by decide) (fun c204 => ?_) (fun c204 => ?_)
            · have p204 : r201 = (0 : Int32) := c204
              refine lv_iload hx hb d_Model_covers_209 (lv_at hl 4 rfl) ?_
              refine lv_iload hx hb d_Model_covers_211 (lv_at hl 5 rfl) ?_
              refine lv_icmp_ge (tgt := 280) hx hb d_Model_covers_213 (by decide) (fun c213 => ?_) (fun c213 => ?_)
              · have p213 : y22_10 ≤ z122 := ((nI_leI (a := y22_10) (b := z122) (by omega) (by omega)).mp c213)
                refine lv_iinc (v := nI (z158 + 1)) (lv' := [(13, .int (nI (z158 + 1))), (15, .int (nI (((τ t152).de z158) - ((τ t152).da z158)))), (14, .int (nI ((τ t152).da z158))), (12, .ref t152), (11, .int (nI z122)), (10, .int (nI y22_10)), (0, .ref mo), (1, .int (nI k9)), (2, .long la), (4, .long lb), (6, .long ld), (8, .long le)]) hx hb d_Model_covers_280 hl (k := 2) rfl (nI_1 _) (by decide) rfl (fun ls hl => ?_)
                refine lv_goto (tgt := 158) hx hb d_Model_covers_283 (by decide) ?_
                exact ih158 ((z158 + 1)) ls (by omega) ⟨by omega, by omega⟩ (lv_sub hl [0, 3, 4, 5, 6, 7, 8, 9, 10, 11] rfl)
              · have p213 : ¬ (y22_10 ≤ z122) := (fun q9 => c213 ((nI_leI (a := y22_10) (b := z122) (by omega) (by omega)).mpr q9))
                refine lv_iload hx hb d_Model_covers_216 (lv_at hl 0 rfl) ?_
                refine lv_iconst (v := 2) hx hb d_Model_covers_218 (by decide) ?_
                refine lv_icmp_lt (tgt := 280) hx hb d_Model_covers_219 (by decide) (fun c219 => ?_) (fun c219 => ?_)
                · have p219 : (((τ t152).de z158) - ((τ t152).da z158)) < 2 := ((nI_ltI (a := (((τ t152).de z158) - ((τ t152).da z158))) (b := 2) (by omega) (by omega)).mp c219)
                  refine lv_iinc (v := nI (z158 + 1)) (lv' := [(13, .int (nI (z158 + 1))), (15, .int (nI (((τ t152).de z158) - ((τ t152).da z158)))), (14, .int (nI ((τ t152).da z158))), (12, .ref t152), (11, .int (nI z122)), (10, .int (nI y22_10)), (0, .ref mo), (1, .int (nI k9)), (2, .long la), (4, .long lb), (6, .long ld), (8, .long le)]) hx hb d_Model_covers_280 hl (k := 2) rfl (nI_1 _) (by decide) rfl (fun ls hl => ?_)
                  refine lv_goto (tgt := 158) hx hb d_Model_covers_283 (by decide) ?_
                  exact ih158 ((z158 + 1)) ls (by omega) ⟨by omega, by omega⟩ (lv_sub hl [0, 3, 4, 5, 6, 7, 8, 9, 10, 11] rfl)
                · have p219 : ¬ ((((τ t152).de z158) - ((τ t152).da z158)) < 2) := (fun q9 => c219 ((nI_ltI (a := (((τ t152).de z158) - ((τ t152).da z158))) (b := 2) (by omega) (by omega)).mpr q9))
                  refine lv_aload hx hb d_Model_covers_222 (lv_at hl 3 rfl) ?_
                  refine va_get (v := .ref ((τ t152).A 0)) hx hb htb i_Text hown hK hP i_27 hg_27 rfl 0 (by decide) (htb _ q6_179) (fun _ h9 => h9) rfl d_Model_covers_224 ?_
                  refine lv_iload hx hb d_Model_covers_227 (lv_at hl 1 rfl) ?_
                  obtain ⟨i_30, hg_30⟩ := tr_18 hTy (kA_27 0 (by decide))
                  have hg_30 : G22[i_30]? = some (((τ t152).A 0), .inl (γ.2.1, 2048, .inl ((τ t152).D 0))) := hg_30
                  have h229 : vp_in (nI ((τ t152).da z158)) 2048 := vp_in_nI (by omega) (by omega)
                  refine va_iald hx hb hK hP i_30 1 hg_30 rfl h229 d_Model_covers_229 ?_
                  refine lv_topi (fun e229 he229 => ?_)
                  refine lv_bipush (v := 42) hx hb d_Model_covers_230 (by decide) ?_
                  refine lv_icmp_ne (tgt := 280) hx hb d_Model_covers_232 (by decide) (fun c232 => ?_) (fun c232 => ?_)
                  · have p232 : ¬ (e229 = (42 : Int32)) := c232
                    refine lv_iinc (v := nI (z158 + 1)) (lv' := [(13, .int (nI (z158 + 1))), (15, .int (nI (((τ t152).de z158) - ((τ t152).da z158)))), (14, .int (nI ((τ t152).da z158))), (12, .ref t152), (11, .int (nI z122)), (10, .int (nI y22_10)), (0, .ref mo), (1, .int (nI k9)), (2, .long la), (4, .long lb), (6, .long ld), (8, .long le)]) hx hb d_Model_covers_280 hl (k := 2) rfl (nI_1 _) (by decide) rfl (fun ls hl => ?_)
                    refine lv_goto (tgt := 158) hx hb d_Model_covers_283 (by decide) ?_
                    exact ih158 ((z158 + 1)) ls (by omega) ⟨by omega, by omega⟩ (lv_sub hl [0, 3, 4, 5, 6, 7, 8, 9, 10, 11] rfl)
                  · have p232 : e229 = (42 : Int32) := c232
                    refine lv_aload hx hb d_Model_covers_235 (lv_at hl 3 rfl) ?_
                    refine va_get (v := .ref ((τ t152).A 0)) hx hb htb i_Text hown hK hP i_27 hg_27 rfl 0 (by decide) (htb _ q6_179) (fun _ h9 => h9) rfl d_Model_covers_237 ?_
                    refine lv_iload hx hb d_Model_covers_240 (lv_at hl 1 rfl) ?_
                    refine lv_iconst (v := 1) hx hb d_Model_covers_242 (by decide) ?_
                    refine lv_iadd hx hb d_Model_covers_243 ?_
                    rw [show ((nI ((τ t152).da z158)) + 1 : Int32) = nI (((τ t152).da z158) + 1) from nI_add ((τ t152).da z158) 1]
                    have h244 : vp_in (nI (((τ t152).da z158) + 1)) 2048 := vp_in_nI (by omega) (by omega)
                    refine va_iald hx hb hK hP i_30 1 hg_30 rfl h244 d_Model_covers_244 ?_
                    refine lv_topi (fun e244 he244 => ?_)
                    refine lv_bipush (v := 46) hx hb d_Model_covers_245 (by decide) ?_
                    refine lv_icmp_ne (tgt := 280) hx hb d_Model_covers_247 (by decide) (fun c247 => ?_) (fun c247 => ?_)
                    · have p247 : ¬ (e244 = (46 : Int32)) := c247
                      refine lv_iinc (v := nI (z158 + 1)) (lv' := [(13, .int (nI (z158 + 1))), (15, .int (nI (((τ t152).de z158) - ((τ t152).da z158)))), (14, .int (nI ((τ t152).da z158))), (12, .ref t152), (11, .int (nI z122)), (10, .int (nI y22_10)), (0, .ref mo), (1, .int (nI k9)), (2, .long la), (4, .long lb), (6, .long ld), (8, .long le)]) hx hb d_Model_covers_280 hl (k := 2) rfl (nI_1 _) (by decide) rfl (fun ls hl => ?_)
                      refine lv_goto (tgt := 158) hx hb d_Model_covers_283 (by decide) ?_
                      exact ih158 ((z158 + 1)) ls (by omega) ⟨by omega, by omega⟩ (lv_sub hl [0, 3, 4, 5, 6, 7, 8, 9, 10, 11] rfl)
                    · have p247 : e244 = (46 : Int32) := c247
                      refine lv_aload_n hx hb d_Model_covers_250 rfl (lv_at hl 6 rfl) ?_
                      refine lv_aload hx hb d_Model_covers_251 (lv_at hl 3 rfl) ?_
                      refine lv_iload hx hb d_Model_covers_253 (lv_at hl 1 rfl) ?_
                      refine lv_iconst (v := 2) hx hb d_Model_covers_255 (by decide) ?_
                      refine lv_iadd hx hb d_Model_covers_256 ?_
                      rw [show ((nI ((τ t152).da z158)) + 2 : Int32) = nI (((τ t152).da z158) + 2) from nI_add ((τ t152).da z158) 2]
                      refine lv_iload hx hb d_Model_covers_257 (lv_at hl 0 rfl) ?_
                      refine lv_iconst (v := 2) hx hb d_Model_covers_259 (by decide) ?_
                      refine lv_isub hx hb d_Model_covers_260 ?_
                      rw [show ((nI (((τ t152).de z158) - ((τ t152).da z158))) - 2 : Int32) = nI ((((τ t152).de z158) - ((τ t152).da z158)) - 2) from pk_sub (a := (((τ t152).de z158) - ((τ t152).da z158))) (b := 2) (by omega)]
                      refine lv_iload hx hb d_Model_covers_261 (lv_at hl 4 rfl) ?_
                      refine lv_iconst (v := 1) hx hb d_Model_covers_263 (by decide) ?_
                      refine lv_iadd hx hb d_Model_covers_264 ?_
                      rw [show ((nI z122) + 1 : Int32) = nI (z122 + 1) from nI_add z122 1]
                      refine lv_iload hx hb d_Model_covers_265 (lv_at hl 5 rfl) ?_
                      refine lv_iload hx hb d_Model_covers_267 (lv_at hl 4 rfl) ?_
                      refine lv_isub hx hb d_Model_covers_269 ?_
                      rw [show ((nI y22_10) - (nI z122) : Int32) = nI (y22_10 - z122) from pk_sub (a := y22_10) (b := z122) (by omega)]
                      refine lv_iconst (v := 1) hx hb d_Model_covers_270 (by decide) ?_
                      refine lv_isub hx hb d_Model_covers_271 ?_
                      rw [show ((nI (y22_10 - z122)) - 1 : Int32) = nI ((y22_10 - z122) - 1) from pk_sub (a := (y22_10 - z122)) (b := 1) (by omega)]
                      refine vp_callSi (pu_callV (As := [.ref t152, .int (nI (((τ t152).da z158) + 2)), .int (nI ((((τ t152).de z158) - ((τ t152).da z158)) - 2)), .int (nI (z122 + 1)), .int (nI ((y22_10 - z122) - 1))]) (rest := []) ⟨hx, hb, hml, hown, hts⟩ tbin (p_Model_alike l dC dI sb γ κ Ad τ gT G22 mo t152 _ _ _ _ _ _ _ _ _ _ _ _ _ _ _ _ _ _ _ _ _ _ _ _ _ _ _ _ _ _ _ _ (((τ t152).da z158) + 2) ((((τ t152).de z158) - ((τ t152).da z158)) - 2) (z122 + 1) ((y22_10 - z122) - 1) hTy (by have h9 := kmo; rw [eX_3] at h9; exact h9) kt152 kmxA (by omega) (by omega)) q9_186 q9_188 qp_51 q1_9 q9_189 (n := 5) (by decide +kernel) rfl ⟨rfl, rfl⟩ ⟨Nat.le_of_ble_eq_true rfl, Nat.le_of_ble_eq_true rfl⟩ ⟨Nat.le_of_ble_eq_true rfl, Nat.le_of_ble_eq_true rfl⟩ hN (hT0.keep hS hAs) hK hP (List.range G22.length) (rg_all G22) [0, 1, 2, 3, 4] rfl i_24 12 hg_24 rfl rfl hl.1 rfl (Nat.le_of_ble_eq_true rfl) d_Model_covers_272) (fun r272 hr272 => ?_)
                      refine lv_if_eq (tgt := 280) hx hb d_Model_covers_275 (by decide) (fun c275 => ?_) (fun c275 => ?_)
                      · have p275 : r272 = (0 : Int32) := c275
                        refine lv_iinc (v := nI (z158 + 1)) (lv' := [(13, .int (nI (z158 + 1))), (15, .int (nI (((τ t152).de z158) - ((τ t152).da z158)))), (14, .int (nI ((τ t152).da z158))), (12, .ref t152), (11, .int (nI z122)), (10, .int (nI y22_10)), (0, .ref mo), (1, .int (nI k9)), (2, .long la), (4, .long lb), (6, .long ld), (8, .long le)]) hx hb d_Model_covers_280 hl (k := 2) rfl (nI_1 _) (by decide) rfl (fun ls hl => ?_)
                        refine lv_goto (tgt := 158) hx hb d_Model_covers_283 (by decide) ?_
                        exact ih158 ((z158 + 1)) ls (by omega) ⟨by omega, by omega⟩ (lv_sub hl [0, 3, 4, 5, 6, 7, 8, 9, 10, 11] rfl)
                      · have p275 : ¬ (r272 = (0 : Int32)) := c275
                        refine lv_iconst (v := 1) hx hb d_Model_covers_278 (by decide) ?_
                        exact W.zret (v := 1) hx hb hr rfl (fun t ht hW => ⟨⟨_, G22, rfl, ⟨hTy, hFR, (by rw [eX_3] at kmo; exact kmo)⟩, by rw [ht]; exact hP, va_K.moved hW.alike hK, hD⟩, hS.F ht⟩) hS.2.2 d_Model_covers_279
            · have p204 : ¬ (r201 = (0 : Int32)) := c204
              refine lv_iconst (v := 1) hx hb d_Model_covers_207 (by decide) ?_
              exact W.zret (v := 1) hx hb hr rfl (fun t ht hW => ⟨⟨_, G22, rfl, ⟨hTy, hFR, (by rw [eX_3] at kmo; exact kmo)⟩, by rw [ht]; exact hP, va_K.moved hW.alike hK, hD⟩, hS.F ht⟩) hS.2.2 d_Model_covers_208
        · have p138 : ¬ (e135 = (46 : Int32)) := c138
          refine lv_iinc (v := nI (z122 + 1)) (lv' := [(11, .int (nI (z122 + 1))), (10, .int (nI y22_10)), (0, .ref mo), (1, .int (nI k9)), (2, .long la), (4, .long lb), (6, .long ld), (8, .long le)]) hx hb d_Model_covers_141 hl (k := 0) rfl (nI_1 _) (by decide) rfl (fun ls hl => ?_)
          refine lv_goto (tgt := 122) hx hb d_Model_covers_144 (by decide) ?_
          exact ih122 ((z122 + 1)) ls (by omega) ⟨by omega, by omega⟩ (lv_sub hl [0, 1, 2, 3, 4, 5, 6, 7] rfl)
    · have p33 : y22_10 = z22 := ((nI_eq (a := y22_10) (b := z22) (by omega) (by omega)).mp c33)
      refine lv_iload hx hb d_Model_covers_36 (lv_at hl 0 rfl) ?_
      refine lv_bipush (v := 8) hx hb d_Model_covers_38 (by decide) ?_
      refine lv_icmp_ge (tgt := 47) hx hb d_Model_covers_40 (by decide) (fun c40 => ?_) (fun c40 => ?_)
      · have p40 : 8 ≤ z22 := ((nI_leI (a := 8) (b := z22) (by omega) (by omega)).mp c40)
        refine lv_iload hx hb d_Model_covers_47 (lv_at hl 0 rfl) ?_
        refine lv_bipush (v := 16) hx hb d_Model_covers_49 (by decide) ?_
        refine lv_icmp_ge (tgt := 59) hx hb d_Model_covers_51 (by decide) (fun c51 => ?_) (fun c51 => ?_)
        · have p51 : 16 ≤ z22 := ((nI_leI (a := 16) (b := z22) (by omega) (by omega)).mp c51)
          refine lv_iload hx hb d_Model_covers_59 (lv_at hl 0 rfl) ?_
          refine lv_bipush (v := 24) hx hb d_Model_covers_61 (by decide) ?_
          refine lv_icmp_ge (tgt := 71) hx hb d_Model_covers_63 (by decide) (fun c63 => ?_) (fun c63 => ?_)
          · have p63 : 24 ≤ z22 := ((nI_leI (a := 24) (b := z22) (by omega) (by omega)).mp c63)
            refine lv_lload hx hb d_Model_covers_71 (lv_at hl 7 rfl) ?_
            refine lv_lstore (lv' := [(12, .long le), (11, .int (nI z22)), (10, .int (nI y22_10)), (0, .ref mo), (1, .int (nI k9)), (2, .long la), (4, .long lb), (6, .long ld), (8, .long le)]) hx hb d_Model_covers_73 hl (by decide) rfl (fun ls hl => ?_)
            refine lv_lload hx hb d_Model_covers_75 (lv_at hl 0 rfl) ?_
            refine lv_bipush (v := 56) hx hb d_Model_covers_77 (by decide) ?_
            refine lv_bipush (v := 8) hx hb d_Model_covers_79 (by decide) ?_
            refine lv_iload hx hb d_Model_covers_81 (lv_at hl 1 rfl) ?_
            refine lv_bipush (v := 7) hx hb d_Model_covers_83 (by decide) ?_
            refine lv_iand hx hb d_Model_covers_85 ?_
            refine lv_imul hx hb d_Model_covers_86 ?_
            refine lv_isub hx hb d_Model_covers_87 ?_
            refine lv_lushr (v := (le.toUInt64 >>> ((56 - (8 * ((nI z22) &&& 7))).toInt64.toUInt64 &&& Int64.toUInt64 63)).toInt64) hx hb d_Model_covers_88 rfl ?_
            refine lv_l2i (v := ((le.toUInt64 >>> ((56 - (8 * ((nI z22) &&& 7))).toInt64.toUInt64 &&& Int64.toUInt64 63)).toInt64).toInt32) hx hb d_Model_covers_89 rfl ?_
            refine lv_sipush (v := 255) hx hb d_Model_covers_90 (by decide) ?_
            refine lv_iand hx hb d_Model_covers_93 ?_
            refine lv_topi (fun v94 ev94 => ?_)
            refine lv_istore (lv' := [(14, .int v94), (12, .long le), (11, .int (nI z22)), (10, .int (nI y22_10)), (0, .ref mo), (1, .int (nI k9)), (2, .long la), (4, .long lb), (6, .long ld), (8, .long le)]) hx hb d_Model_covers_94 hl (by decide) rfl (fun ls hl => ?_)
            refine lv_iload hx hb d_Model_covers_96 (lv_at hl 0 rfl) ?_
            refine lv_if_eq (tgt := 113) hx hb d_Model_covers_98 (by decide) (fun c98 => ?_) (fun c98 => ?_)
            · have p98 : v94 = (0 : Int32) := c98
              refine lv_iinc (v := nI (z22 + 1)) (lv' := [(11, .int (nI (z22 + 1))), (14, .int v94), (12, .long le), (10, .int (nI y22_10)), (0, .ref mo), (1, .int (nI k9)), (2, .long la), (4, .long lb), (6, .long ld), (8, .long le)]) hx hb d_Model_covers_113 hl (k := 2) rfl (nI_1 _) (by decide) rfl (fun ls hl => ?_)
              refine lv_goto (tgt := 22) hx hb d_Model_covers_116 (by decide) ?_
              exact ih22 (z22 + 1, y22_10, G22) _ _ ls (by dsimp only; omega) ⟨by dsimp only; omega, by dsimp only; omega, by dsimp only; omega, hTy, hFR, kmo, kmsT⟩ hP hD hS (lv_sub hl [0, 3, 4, 5, 6, 7, 8, 9] rfl)
            · have p98 : ¬ (v94 = (0 : Int32)) := c98
              refine lv_aload_n hx hb d_Model_covers_101 rfl (lv_at hl 4 rfl) ?_
              obtain ⟨i_31, hg_31⟩ := List.getElem?_of_mem kmo.2
              rw [eX_3] at hg_31
              refine va_get (v := .ref mxA) hx hb htb i_Model hown hK hP i_31 hg_31 rfl 16 (by decide) (htb _ q7_230) (fun _ h9 => h9) rfl d_Model_covers_102 ?_
              refine lv_iload hx hb d_Model_covers_105 (lv_at hl 3 rfl) ?_
              refine lv_iinc (v := nI (y22_10 + 1)) (lv' := [(10, .int (nI (y22_10 + 1))), (14, .int v94), (12, .long le), (11, .int (nI z22)), (0, .ref mo), (1, .int (nI k9)), (2, .long la), (4, .long lb), (6, .long ld), (8, .long le)]) hx hb d_Model_covers_107 hl (k := 3) rfl (nI_1 _) (by decide) rfl (fun ls hl => ?_)
              refine lv_iload hx hb d_Model_covers_110 (lv_at hl 1 rfl) ?_
              obtain ⟨i_32, f_32, hb_32, hn_32, hg_32⟩ := tr_63x hTy kmxA (by decide)
              have h112 : vp_in (nI y22_10) 600 := vp_in_nI (by omega) (by omega)
              refine va_iast hx hb hK hP hD hS i_32 1 hg_32 rfl h112 d_Model_covers_112 (fun H112 locs hP hD2 hS => ?_)
              have hP : va_P (dC, dI) classes (G22.set i_32 (mxA, .inl (γ.2.1, 600, .inl (upd f_32 (nI y22_10).toNatClampNeg v94)))) H112 := hP
              have hD3 : va_D A (G22.set i_32 (mxA, .inl (γ.2.1, 600, .inl (upd f_32 (nI y22_10).toNatClampNeg v94)))) := hD2
              have hF1 := FR.set (c' := .inl (γ.2.1, 600, .inl (upd f_32 (nI y22_10).toNatClampNeg v94))) hg_32 kmxA.1
              have kmo := kmo.fr hF1
              have kmsT := kmsT.fr hF1
              have hFR := hFR.tr hF1.l
              clear hF1
              have hTy := TR.set (c' := .inl (γ.2.1, 600, .inl (upd f_32 (nI y22_10).toNatClampNeg v94))) hTy hg_32 (okr_63f kmxA (by decide) hn_32 (by first | exact bR_255 hb_32 _ _ | (rw [ev94]; exact bR_255 hb_32 _ _)))
              have hD := hD3
              clear hD3 hD2
              generalize G22.set i_32 (mxA, .inl (γ.2.1, 600, .inl (upd f_32 (nI y22_10).toNatClampNeg v94))) = G_33 at hP hD hTy hFR kmo kmsT 
              refine lv_iinc (v := nI (z22 + 1)) (lv' := [(11, .int (nI (z22 + 1))), (10, .int (nI (y22_10 + 1))), (14, .int v94), (12, .long le), (0, .ref mo), (1, .int (nI k9)), (2, .long la), (4, .long lb), (6, .long ld), (8, .long le)]) hx hb d_Model_covers_113 hl (k := 3) rfl (nI_1 _) (by decide) rfl (fun ls hl => ?_)
              refine lv_goto (tgt := 22) hx hb d_Model_covers_116 (by decide) ?_
              exact ih22 (z22 + 1, (y22_10 + 1), G_33) _ _ ls (by dsimp only; omega) ⟨by dsimp only; omega, by dsimp only; omega, by dsimp only; omega, hTy, hFR, kmo, kmsT⟩ hP hD hS (lv_sub hl [0, 1, 4, 5, 6, 7, 8, 9] rfl)
          · have p63 : ¬ (24 ≤ z22) := (fun q9 => c63 ((nI_leI (a := 24) (b := z22) (by omega) (by omega)).mpr q9))
            refine lv_lload hx hb d_Model_covers_66 (lv_at hl 6 rfl) ?_
            refine lv_goto (tgt := 73) hx hb d_Model_covers_68 (by decide) ?_
            refine lv_lstore (lv' := [(12, .long ld), (11, .int (nI z22)), (10, .int (nI y22_10)), (0, .ref mo), (1, .int (nI k9)), (2, .long la), (4, .long lb), (6, .long ld), (8, .long le)]) hx hb d_Model_covers_73 hl (by decide) rfl (fun ls hl => ?_)
            refine lv_lload hx hb d_Model_covers_75 (lv_at hl 0 rfl) ?_
            refine lv_bipush (v := 56) hx hb d_Model_covers_77 (by decide) ?_
            refine lv_bipush (v := 8) hx hb d_Model_covers_79 (by decide) ?_
            refine lv_iload hx hb d_Model_covers_81 (lv_at hl 1 rfl) ?_
            refine lv_bipush (v := 7) hx hb d_Model_covers_83 (by decide) ?_
            refine lv_iand hx hb d_Model_covers_85 ?_
            refine lv_imul hx hb d_Model_covers_86 ?_
            refine lv_isub hx hb d_Model_covers_87 ?_
            refine lv_lushr (v := (ld.toUInt64 >>> ((56 - (8 * ((nI z22) &&& 7))).toInt64.toUInt64 &&& Int64.toUInt64 63)).toInt64) hx hb d_Model_covers_88 rfl ?_
            refine lv_l2i (v := ((ld.toUInt64 >>> ((56 - (8 * ((nI z22) &&& 7))).toInt64.toUInt64 &&& Int64.toUInt64 63)).toInt64).toInt32) hx hb d_Model_covers_89 rfl ?_
            refine lv_sipush (v := 255) hx hb d_Model_covers_90 (by decide) ?_
            refine lv_iand hx hb d_Model_covers_93 ?_
            refine lv_topi (fun v94 ev94 => ?_)
            refine lv_istore (lv' := [(14, .int v94), (12, .long ld), (11, .int (nI z22)), (10, .int (nI y22_10)), (0, .ref mo), (1, .int (nI k9)), (2, .long la), (4, .long lb), (6, .long ld), (8, .long le)]) hx hb d_Model_covers_94 hl (by decide) rfl (fun ls hl => ?_)
            refine lv_iload hx hb d_Model_covers_96 (lv_at hl 0 rfl) ?_
            refine lv_if_eq (tgt := 113) hx hb d_Model_covers_98 (by decide) (fun c98 => ?_) (fun c98 => ?_)
            · have p98 : v94 = (0 : Int32) := c98
              refine lv_iinc (v := nI (z22 + 1)) (lv' := [(11, .int (nI (z22 + 1))), (14, .int v94), (12, .long ld), (10, .int (nI y22_10)), (0, .ref mo), (1, .int (nI k9)), (2, .long la), (4, .long lb), (6, .long ld), (8, .long le)]) hx hb d_Model_covers_113 hl (k := 2) rfl (nI_1 _) (by decide) rfl (fun ls hl => ?_)
              refine lv_goto (tgt := 22) hx hb d_Model_covers_116 (by decide) ?_
              exact ih22 (z22 + 1, y22_10, G22) _ _ ls (by dsimp only; omega) ⟨by dsimp only; omega, by dsimp only; omega, by dsimp only; omega, hTy, hFR, kmo, kmsT⟩ hP hD hS (lv_sub hl [0, 3, 4, 5, 6, 7, 8, 9] rfl)
            · have p98 : ¬ (v94 = (0 : Int32)) := c98
              refine lv_aload_n hx hb d_Model_covers_101 rfl (lv_at hl 4 rfl) ?_
              obtain ⟨i_34, hg_34⟩ := List.getElem?_of_mem kmo.2
              rw [eX_3] at hg_34
              refine va_get (v := .ref mxA) hx hb htb i_Model hown hK hP i_34 hg_34 rfl 16 (by decide) (htb _ q7_230) (fun _ h9 => h9) rfl d_Model_covers_102 ?_
              refine lv_iload hx hb d_Model_covers_105 (lv_at hl 3 rfl) ?_
              refine lv_iinc (v := nI (y22_10 + 1)) (lv' := [(10, .int (nI (y22_10 + 1))), (14, .int v94), (12, .long ld), (11, .int (nI z22)), (0, .ref mo), (1, .int (nI k9)), (2, .long la), (4, .long lb), (6, .long ld), (8, .long le)]) hx hb d_Model_covers_107 hl (k := 3) rfl (nI_1 _) (by decide) rfl (fun ls hl => ?_)
              refine lv_iload hx hb d_Model_covers_110 (lv_at hl 1 rfl) ?_
              obtain ⟨i_35, f_35, hb_35, hn_35, hg_35⟩ := tr_63x hTy kmxA (by decide)
              have h112 : vp_in (nI y22_10) 600 := vp_in_nI (by omega) (by omega)
              refine va_iast hx hb hK hP hD hS i_35 1 hg_35 rfl h112 d_Model_covers_112 (fun H112 locs hP hD2 hS => ?_)
              have hP : va_P (dC, dI) classes (G22.set i_35 (mxA, .inl (γ.2.1, 600, .inl (upd f_35 (nI y22_10).toNatClampNeg v94)))) H112 := hP
              have hD3 : va_D A (G22.set i_35 (mxA, .inl (γ.2.1, 600, .inl (upd f_35 (nI y22_10).toNatClampNeg v94)))) := hD2
              have hF1 := FR.set (c' := .inl (γ.2.1, 600, .inl (upd f_35 (nI y22_10).toNatClampNeg v94))) hg_35 kmxA.1
              have kmo := kmo.fr hF1
              have kmsT := kmsT.fr hF1
              have hFR := hFR.tr hF1.l
              clear hF1
              have hTy := TR.set (c' := .inl (γ.2.1, 600, .inl (upd f_35 (nI y22_10).toNatClampNeg v94))) hTy hg_35 (okr_63f kmxA (by decide) hn_35 (by first | exact bR_255 hb_35 _ _ | (rw [ev94]; exact bR_255 hb_35 _ _)))
              have hD := hD3
              clear hD3 hD2
              generalize G22.set i_35 (mxA, .inl (γ.2.1, 600, .inl (upd f_35 (nI y22_10).toNatClampNeg v94))) = G_36 at hP hD hTy hFR kmo kmsT 
              refine lv_iinc (v := nI (z22 + 1)) (lv' := [(11, .int (nI (z22 + 1))), (10, .int (nI (y22_10 + 1))), (14, .int v94), (12, .long ld), (0, .ref mo), (1, .int (nI k9)), (2, .long la), (4, .long lb), (6, .long ld), (8, .long le)]) hx hb d_Model_covers_113 hl (k := 3) rfl (nI_1 _) (by decide) rfl (fun ls hl => ?_)
              refine lv_goto (tgt := 22) hx hb d_Model_covers_116 (by decide) ?_
              exact ih22 (z22 + 1, (y22_10 + 1), G_36) _ _ ls (by dsimp only; omega) ⟨by dsimp only; omega, by dsimp only; omega, by dsimp only; omega, hTy, hFR, kmo, kmsT⟩ hP hD hS (lv_sub hl [0, 1, 4, 5, 6, 7, 8, 9] rfl)
        · have p51 : ¬ (16 ≤ z22) := (fun q9 => c51 ((nI_leI (a := 16) (b := z22) (by omega) (by omega)).mpr q9))
          refine lv_lload hx hb d_Model_covers_54 (lv_at hl 5 rfl) ?_
          refine lv_goto (tgt := 73) hx hb d_Model_covers_56 (by decide) ?_
          refine lv_lstore (lv' := [(12, .long lb), (11, .int (nI z22)), (10, .int (nI y22_10)), (0, .ref mo), (1, .int (nI k9)), (2, .long la), (4, .long lb), (6, .long ld), (8, .long le)]) hx hb d_Model_covers_73 hl (by decide) rfl (fun ls hl => ?_)
          refine lv_lload hx hb d_Model_covers_75 (lv_at hl 0 rfl) ?_
          refine lv_bipush (v := 56) hx hb d_Model_covers_77 (by decide) ?_
          refine lv_bipush (v := 8) hx hb d_Model_covers_79 (by decide) ?_
          refine lv_iload hx hb d_Model_covers_81 (lv_at hl 1 rfl) ?_
          refine lv_bipush (v := 7) hx hb d_Model_covers_83 (by decide) ?_
          refine lv_iand hx hb d_Model_covers_85 ?_
          refine lv_imul hx hb d_Model_covers_86 ?_
          refine lv_isub hx hb d_Model_covers_87 ?_
          refine lv_lushr (v := (lb.toUInt64 >>> ((56 - (8 * ((nI z22) &&& 7))).toInt64.toUInt64 &&& Int64.toUInt64 63)).toInt64) hx hb d_Model_covers_88 rfl ?_
          refine lv_l2i (v := ((lb.toUInt64 >>> ((56 - (8 * ((nI z22) &&& 7))).toInt64.toUInt64 &&& Int64.toUInt64 63)).toInt64).toInt32) hx hb d_Model_covers_89 rfl ?_
          refine lv_sipush (v := 255) hx hb d_Model_covers_90 (by decide) ?_
          refine lv_iand hx hb d_Model_covers_93 ?_
          refine lv_topi (fun v94 ev94 => ?_)
          refine lv_istore (lv' := [(14, .int v94), (12, .long lb), (11, .int (nI z22)), (10, .int (nI y22_10)), (0, .ref mo), (1, .int (nI k9)), (2, .long la), (4, .long lb), (6, .long ld), (8, .long le)]) hx hb d_Model_covers_94 hl (by decide) rfl (fun ls hl => ?_)
          refine lv_iload hx hb d_Model_covers_96 (lv_at hl 0 rfl) ?_
          refine lv_if_eq (tgt := 113) hx hb d_Model_covers_98 (by decide) (fun c98 => ?_) (fun c98 => ?_)
          · have p98 : v94 = (0 : Int32) := c98
            refine lv_iinc (v := nI (z22 + 1)) (lv' := [(11, .int (nI (z22 + 1))), (14, .int v94), (12, .long lb), (10, .int (nI y22_10)), (0, .ref mo), (1, .int (nI k9)), (2, .long la), (4, .long lb), (6, .long ld), (8, .long le)]) hx hb d_Model_covers_113 hl (k := 2) rfl (nI_1 _) (by decide) rfl (fun ls hl => ?_)
            refine lv_goto (tgt := 22) hx hb d_Model_covers_116 (by decide) ?_
            exact ih22 (z22 + 1, y22_10, G22) _ _ ls (by dsimp only; omega) ⟨by dsimp only; omega, by dsimp only; omega, by dsimp only; omega, hTy, hFR, kmo, kmsT⟩ hP hD hS (lv_sub hl [0, 3, 4, 5, 6, 7, 8, 9] rfl)
          · have p98 : ¬ (v94 = (0 : Int32)) := c98
            refine lv_aload_n hx hb d_Model_covers_101 rfl (lv_at hl 4 rfl) ?_
            obtain ⟨i_37, hg_37⟩ := List.getElem?_of_mem kmo.2
            rw [eX_3] at hg_37
            refine va_get (v := .ref mxA) hx hb htb i_Model hown hK hP i_37 hg_37 rfl 16 (by decide) (htb _ q7_230) (fun _ h9 => h9) rfl d_Model_covers_102 ?_
            refine lv_iload hx hb d_Model_covers_105 (lv_at hl 3 rfl) ?_
            refine lv_iinc (v := nI (y22_10 + 1)) (lv' := [(10, .int (nI (y22_10 + 1))), (14, .int v94), (12, .long lb), (11, .int (nI z22)), (0, .ref mo), (1, .int (nI k9)), (2, .long la), (4, .long lb), (6, .long ld), (8, .long le)]) hx hb d_Model_covers_107 hl (k := 3) rfl (nI_1 _) (by decide) rfl (fun ls hl => ?_)
            refine lv_iload hx hb d_Model_covers_110 (lv_at hl 1 rfl) ?_
            obtain ⟨i_38, f_38, hb_38, hn_38, hg_38⟩ := tr_63x hTy kmxA (by decide)
            have h112 : vp_in (nI y22_10) 600 := vp_in_nI (by omega) (by omega)
            refine va_iast hx hb hK hP hD hS i_38 1 hg_38 rfl h112 d_Model_covers_112 (fun H112 locs hP hD2 hS => ?_)
            have hP : va_P (dC, dI) classes (G22.set i_38 (mxA, .inl (γ.2.1, 600, .inl (upd f_38 (nI y22_10).toNatClampNeg v94)))) H112 := hP
            have hD3 : va_D A (G22.set i_38 (mxA, .inl (γ.2.1, 600, .inl (upd f_38 (nI y22_10).toNatClampNeg v94)))) := hD2
            have hF1 := FR.set (c' := .inl (γ.2.1, 600, .inl (upd f_38 (nI y22_10).toNatClampNeg v94))) hg_38 kmxA.1
            have kmo := kmo.fr hF1
            have kmsT := kmsT.fr hF1
            have hFR := hFR.tr hF1.l
            clear hF1
            have hTy := TR.set (c' := .inl (γ.2.1, 600, .inl (upd f_38 (nI y22_10).toNatClampNeg v94))) hTy hg_38 (okr_63f kmxA (by decide) hn_38 (by first | exact bR_255 hb_38 _ _ | (rw [ev94]; exact bR_255 hb_38 _ _)))
            have hD := hD3
            clear hD3 hD2
            generalize G22.set i_38 (mxA, .inl (γ.2.1, 600, .inl (upd f_38 (nI y22_10).toNatClampNeg v94))) = G_39 at hP hD hTy hFR kmo kmsT 
            refine lv_iinc (v := nI (z22 + 1)) (lv' := [(11, .int (nI (z22 + 1))), (10, .int (nI (y22_10 + 1))), (14, .int v94), (12, .long lb), (0, .ref mo), (1, .int (nI k9)), (2, .long la), (4, .long lb), (6, .long ld), (8, .long le)]) hx hb d_Model_covers_113 hl (k := 3) rfl (nI_1 _) (by decide) rfl (fun ls hl => ?_)
            refine lv_goto (tgt := 22) hx hb d_Model_covers_116 (by decide) ?_
            exact ih22 (z22 + 1, (y22_10 + 1), G_39) _ _ ls (by dsimp only; omega) ⟨by dsimp only; omega, by dsimp only; omega, by dsimp only; omega, hTy, hFR, kmo, kmsT⟩ hP hD hS (lv_sub hl [0, 1, 4, 5, 6, 7, 8, 9] rfl)
      · have p40 : ¬ (8 ≤ z22) := (fun q9 => c40 ((nI_leI (a := 8) (b := z22) (by omega) (by omega)).mpr q9))
        refine lv_lload_n hx hb d_Model_covers_43 rfl (lv_at hl 4 rfl) ?_
        refine lv_goto (tgt := 73) hx hb d_Model_covers_44 (by decide) ?_
        refine lv_lstore (lv' := [(12, .long la), (11, .int (nI z22)), (10, .int (nI y22_10)), (0, .ref mo), (1, .int (nI k9)), (2, .long la), (4, .long lb), (6, .long ld), (8, .long le)]) hx hb d_Model_covers_73 hl (by decide) rfl (fun ls hl => ?_)
        refine lv_lload hx hb d_Model_covers_75 (lv_at hl 0 rfl) ?_
        refine lv_bipush (v := 56) hx hb d_Model_covers_77 (by decide) ?_
        refine lv_bipush (v := 8) hx hb d_Model_covers_79 (by decide) ?_
        refine lv_iload hx hb d_Model_covers_81 (lv_at hl 1 rfl) ?_
        refine lv_bipush (v := 7) hx hb d_Model_covers_83 (by decide) ?_
        refine lv_iand hx hb d_Model_covers_85 ?_
        refine lv_imul hx hb d_Model_covers_86 ?_
        refine lv_isub hx hb d_Model_covers_87 ?_
        refine lv_lushr (v := (la.toUInt64 >>> ((56 - (8 * ((nI z22) &&& 7))).toInt64.toUInt64 &&& Int64.toUInt64 63)).toInt64) hx hb d_Model_covers_88 rfl ?_
        refine lv_l2i (v := ((la.toUInt64 >>> ((56 - (8 * ((nI z22) &&& 7))).toInt64.toUInt64 &&& Int64.toUInt64 63)).toInt64).toInt32) hx hb d_Model_covers_89 rfl ?_
        refine lv_sipush (v := 255) hx hb d_Model_covers_90 (by decide) ?_
        refine lv_iand hx hb d_Model_covers_93 ?_
        refine lv_topi (fun v94 ev94 => ?_)
        refine lv_istore (lv' := [(14, .int v94), (12, .long la), (11, .int (nI z22)), (10, .int (nI y22_10)), (0, .ref mo), (1, .int (nI k9)), (2, .long la), (4, .long lb), (6, .long ld), (8, .long le)]) hx hb d_Model_covers_94 hl (by decide) rfl (fun ls hl => ?_)
        refine lv_iload hx hb d_Model_covers_96 (lv_at hl 0 rfl) ?_
        refine lv_if_eq (tgt := 113) hx hb d_Model_covers_98 (by decide) (fun c98 => ?_) (fun c98 => ?_)
        · have p98 : v94 = (0 : Int32) := c98
          refine lv_iinc (v := nI (z22 + 1)) (lv' := [(11, .int (nI (z22 + 1))), (14, .int v94), (12, .long la), (10, .int (nI y22_10)), (0, .ref mo), (1, .int (nI k9)), (2, .long la), (4, .long lb), (6, .long ld), (8, .long le)]) hx hb d_Model_covers_113 hl (k := 2) rfl (nI_1 _) (by decide) rfl (fun ls hl => ?_)
          refine lv_goto (tgt := 22) hx hb d_Model_covers_116 (by decide) ?_
          exact ih22 (z22 + 1, y22_10, G22) _ _ ls (by dsimp only; omega) ⟨by dsimp only; omega, by dsimp only; omega, by dsimp only; omega, hTy, hFR, kmo, kmsT⟩ hP hD hS (lv_sub hl [0, 3, 4, 5, 6, 7, 8, 9] rfl)
        · have p98 : ¬ (v94 = (0 : Int32)) := c98
          refine lv_aload_n hx hb d_Model_covers_101 rfl (lv_at hl 4 rfl) ?_
          obtain ⟨i_40, hg_40⟩ := List.getElem?_of_mem kmo.2
          rw [eX_3] at hg_40
          refine va_get (v := .ref mxA) hx hb htb i_Model hown hK hP i_40 hg_40 rfl 16 (by decide) (htb _ q7_230) (fun _ h9 => h9) rfl d_Model_covers_102 ?_
          refine lv_iload hx hb d_Model_covers_105 (lv_at hl 3 rfl) ?_
          refine lv_iinc (v := nI (y22_10 + 1)) (lv' := [(10, .int (nI (y22_10 + 1))), (14, .int v94), (12, .long la), (11, .int (nI z22)), (0, .ref mo), (1, .int (nI k9)), (2, .long la), (4, .long lb), (6, .long ld), (8, .long le)]) hx hb d_Model_covers_107 hl (k := 3) rfl (nI_1 _) (by decide) rfl (fun ls hl => ?_)
          refine lv_iload hx hb d_Model_covers_110 (lv_at hl 1 rfl) ?_
          obtain ⟨i_41, f_41, hb_41, hn_41, hg_41⟩ := tr_63x hTy kmxA (by decide)
          have h112 : vp_in (nI y22_10) 600 := vp_in_nI (by omega) (by omega)
          refine va_iast hx hb hK hP hD hS i_41 1 hg_41 rfl h112 d_Model_covers_112 (fun H112 locs hP hD2 hS => ?_)
          have hP : va_P (dC, dI) classes (G22.set i_41 (mxA, .inl (γ.2.1, 600, .inl (upd f_41 (nI y22_10).toNatClampNeg v94)))) H112 := hP
          have hD3 : va_D A (G22.set i_41 (mxA, .inl (γ.2.1, 600, .inl (upd f_41 (nI y22_10).toNatClampNeg v94)))) := hD2
          have hF1 := FR.set (c' := .inl (γ.2.1, 600, .inl (upd f_41 (nI y22_10).toNatClampNeg v94))) hg_41 kmxA.1
          have kmo := kmo.fr hF1
          have kmsT := kmsT.fr hF1
          have hFR := hFR.tr hF1.l
          clear hF1
          have hTy := TR.set (c' := .inl (γ.2.1, 600, .inl (upd f_41 (nI y22_10).toNatClampNeg v94))) hTy hg_41 (okr_63f kmxA (by decide) hn_41 (by first | exact bR_255 hb_41 _ _ | (rw [ev94]; exact bR_255 hb_41 _ _)))
          have hD := hD3
          clear hD3 hD2
          generalize G22.set i_41 (mxA, .inl (γ.2.1, 600, .inl (upd f_41 (nI y22_10).toNatClampNeg v94))) = G_42 at hP hD hTy hFR kmo kmsT 
          refine lv_iinc (v := nI (z22 + 1)) (lv' := [(11, .int (nI (z22 + 1))), (10, .int (nI (y22_10 + 1))), (14, .int v94), (12, .long la), (0, .ref mo), (1, .int (nI k9)), (2, .long la), (4, .long lb), (6, .long ld), (8, .long le)]) hx hb d_Model_covers_113 hl (k := 3) rfl (nI_1 _) (by decide) rfl (fun ls hl => ?_)
          refine lv_goto (tgt := 22) hx hb d_Model_covers_116 (by decide) ?_
          exact ih22 (z22 + 1, (y22_10 + 1), G_42) _ _ ls (by dsimp only; omega) ⟨by dsimp only; omega, by dsimp only; omega, by dsimp only; omega, hTy, hFR, kmo, kmsT⟩ hP hD hS (lv_sub hl [0, 1, 4, 5, 6, 7, 8, 9] rfl)
theorem d_Model_validate_41 : decode b_Model_validate 41 = .ok (.lload_n 2, 1) := by decide +kernel
theorem d_Model_validate_42 : decode b_Model_validate 42 = .ok (.putfield 312, 3) := by decide +kernel
theorem d_Model_validate_45 : decode b_Model_validate 45 = .ok (.aload_n 0, 1) := by decide +kernel
theorem d_Model_validate_46 : decode b_Model_validate 46 = .ok (.iload 4, 2) := by decide +kernel
theorem d_Model_validate_48 : decode b_Model_validate 48 = .ok (.putfield 315, 3) := by decide +kernel
theorem d_Model_validate_51 : decode b_Model_validate 51 = .ok (.aload_n 0, 1) := by decide +kernel
theorem d_Model_validate_52 : decode b_Model_validate 52 = .ok (.iload 5, 2) := by decide +kernel
theorem d_Model_validate_54 : decode b_Model_validate 54 = .ok (.putfield 318, 3) := by decide +kernel
theorem d_Model_validate_57 : decode b_Model_validate 57 = .ok (.aload_n 0, 1) := by decide +kernel
theorem d_Model_validate_58 : decode b_Model_validate 58 = .ok (.iconst 0, 1) := by decide +kernel
theorem d_Model_validate_59 : decode b_Model_validate 59 = .ok (.putfield 321, 3) := by decide +kernel
theorem d_Model_validate_62 : decode b_Model_validate 62 = .ok (.aload_n 0, 1) := by decide +kernel
theorem d_Model_validate_63 : decode b_Model_validate 63 = .ok (.iconst 0, 1) := by decide +kernel
theorem d_Model_validate_64 : decode b_Model_validate 64 = .ok (.putfield 324, 3) := by decide +kernel
theorem d_Model_validate_67 : decode b_Model_validate 67 = .ok (.aload_n 0, 1) := by decide +kernel
theorem d_Model_validate_68 : decode b_Model_validate 68 = .ok (.iconst (-1), 1) := by decide +kernel
theorem d_Model_validate_69 : decode b_Model_validate 69 = .ok (.putfield 142, 3) := by decide +kernel
theorem d_Model_validate_72 : decode b_Model_validate 72 = .ok (.aload_n 0, 1) := by decide +kernel
theorem d_Model_validate_73 : decode b_Model_validate 73 = .ok (.bipush 10, 2) := by decide +kernel
theorem d_Model_validate_75 : decode b_Model_validate 75 = .ok (.putfield 327, 3) := by decide +kernel
theorem d_Model_validate_78 : decode b_Model_validate 78 = .ok (.aload_n 0, 1) := by decide +kernel
theorem d_Model_validate_79 : decode b_Model_validate 79 = .ok (.iconst 1, 1) := by decide +kernel
theorem d_Model_validate_80 : decode b_Model_validate 80 = .ok (.putfield 330, 3) := by decide +kernel
theorem d_Model_validate_83 : decode b_Model_validate 83 = .ok (.aload_n 0, 1) := by decide +kernel
theorem d_Model_validate_84 : decode b_Model_validate 84 = .ok (.getfield 136, 3) := by decide +kernel
theorem d_Model_validate_87 : decode b_Model_validate 87 = .ok (.iconst 0, 1) := by decide +kernel
theorem d_Model_validate_88 : decode b_Model_validate 88 = .ok (.iload_n 1, 1) := by decide +kernel
theorem d_Model_validate_89 : decode b_Model_validate 89 = .ok (.iastore, 1) := by decide +kernel
theorem d_Model_validate_90 : decode b_Model_validate 90 = .ok (.aload_n 0, 1) := by decide +kernel
theorem d_Model_validate_91 : decode b_Model_validate 91 = .ok (.iconst 1, 1) := by decide +kernel
theorem d_Model_validate_92 : decode b_Model_validate 92 = .ok (.putfield 333, 3) := by decide +kernel
theorem d_Model_validate_95 : decode b_Model_validate 95 = .ok (.aload_n 0, 1) := by decide +kernel
theorem d_Model_validate_96 : decode b_Model_validate 96 = .ok (.invokevirtual 336, 3) := by decide +kernel
theorem d_Model_validate_99 : decode b_Model_validate 99 = .ok (.pop, 1) := by decide +kernel
theorem d_Model_validate_100 : decode b_Model_validate 100 = .ok (.aload_n 0, 1) := by decide +kernel
theorem d_Model_validate_101 : decode b_Model_validate 101 = .ok (.getfield 327, 3) := by decide +kernel
theorem d_Model_validate_104 : decode b_Model_validate 104 = .ok (.ifCond .ne 8, 3) := by decide +kernel
theorem d_Model_validate_107 : decode b_Model_validate 107 = .ok (.aload_n 0, 1) := by decide +kernel
theorem d_Model_validate_108 : decode b_Model_validate 108 = .ok (.iconst (-1), 1) := by decide +kernel
theorem d_Model_validate_109 : decode b_Model_validate 109 = .ok (.putfield 142, 3) := by decide +kernel
theorem d_Model_validate_112 : decode b_Model_validate 112 = .ok (.aload_n 0, 1) := by decide +kernel
theorem d_Model_validate_113 : decode b_Model_validate 113 = .ok (.getfield 327, 3) := by decide +kernel
theorem d_Model_validate_116 : decode b_Model_validate 116 = .ok (.ireturn, 1) := by decide +kernel
set_option maxHeartbeats 4000000 in
set_option maxRecDepth 100000 in
theorem m_Model_validate_1 (l : Launch) (dC : Nat → ClassId) (dI : Nat → Nat → Nat) (sb : sB) (γ : cG) (κ : kE) (Ad : List Nat) (τ : Nat → TD) (gT : ClassId) (G : va_W) (mo : Nat) (moc msT mrV msP mrA mbA mwA mhA mfA mpA mxA myA mmA mqA mzA mwy mfd : Nat) (mer mwr mqs msz mch mft mpt mdp mvd mmk : Int32) (mnw : Int64) (K9 KL cz fd : Nat) (ci mi kn : Int32) (tm : Int64) (sz : Nat) (hTy : TR γ κ Ad τ G) (kmo : Xc Ad mo (.inr (12, (.int mer :: .int (nI fd) :: .int mwr :: .int (nI K9) :: .int (nI KL) :: .ref moc :: .ref msT :: .ref mrV :: .ref msP :: .int mqs :: .ref mrA :: .ref mbA :: .ref mwA :: .ref mhA :: .ref mfA :: .ref mpA :: .ref mxA :: .ref myA :: .ref mmA :: .ref mqA :: .ref mzA :: .ref mwy :: .ref mfd :: .int msz :: .int (nI cz) :: .int mch :: .int mft :: .int mpt :: .int mdp :: .int mvd :: .long mnw :: .int mmk :: []))) G) (hmost : ¬ (¬ mi < 1 ∧ ¬ 16 < mi)) : Met l y_Model_validate w_Model_validate ({ frames := 24, cells := 0, slots := 0, locals := 558 }) (mu_P [.ref mo, .int ci, .long tm, .int mi, .int kn] (dC, dI) sb G [(γ.1, .byte), (γ.2.1, .int), (γ.2.2.1, .long), (γ.2.2.2, .object "java/lang/Object"), (gT, .object "TrustChainModel$Text")] sz) (va_Qi (fun r (G' : va_W) => TR γ κ Ad τ G' ∧ FL Ad [mo] G G' ∧ (r = 0 ∧ Xc Ad mo (.inr (12, (.int 1 :: .int (nI fd) :: .int mwr :: .int (nI K9) :: .int (nI KL) :: .ref moc :: .ref msT :: .ref mrV :: .ref msP :: .int mqs :: .ref mrA :: .ref mbA :: .ref mwA :: .ref mhA :: .ref mfA :: .ref mpA :: .ref mxA :: .ref myA :: .ref mmA :: .ref mqA :: .ref mzA :: .ref mwy :: .ref mfd :: .int msz :: .int (nI cz) :: .int mch :: .int mft :: .int mpt :: .int mdp :: .int mvd :: .long mnw :: .int mmk :: []))) G')) (mu_B (dC, dI) [(γ.1, .byte), (γ.2.1, .int), (γ.2.2.1, .long), (γ.2.2.2, .object "java/lang/Object"), (gT, .object "TrustChainModel$Text")] (va_A G sz) (fun G' : va_W => G')) (va_A G sz)) 0 0 (va_A G sz) := by
  refine Met.ofW (cc := b_Model_validate) (maxL := 6) (ret := (some FieldType.int)) (by decide) rfl ?_
  intro p e s m args below meth c s₁ B hml hv
  obtain ⟨rfl, hsz, hB0, hP, hK, hD0, hN, hT0⟩ := hv
  have hx := B.exec
  have hb := B.bytes
  have hr := B.returns
  have hts := atoms_spec (ws := w_Model_validate) B.pre
  have tbin : ∀ w ∈ tb, w ∈ w_Model_validate := fun w h => List.mem_cons_of_mem _ h
  have htb : ∀ w ∈ tb, w.before _ s = true := fun w h => hts w (tbin w h)
  have hown : s.vm.findClass "TrustChainModel" = some m.cls := findClass_of_methodNamed B.named
  have hlocks := B.notSynchronized
  subst hsz
  have hD := hD0.self (sz := s.heap.size)
  generalize hAe : va_A G s.heap.size = A at hD ⊢
  have hA : ∀ q : Nat, s.heap.size ≤ q → A q := fun q h => by rw [← hAe]; exact Or.inr h
  have hAs : ∀ q : Nat, A q → sb.1 ≤ q := fun q h => by
    rw [← hAe] at h
    rcases h with ⟨k, e, h⟩ | h
    · exact hD0.2 k _ h
    · exact Nat.le_trans hB0 h
  have hS : va_S A s.heap s.heap [] := va_S.rf
  have hFR := FL.rf Ad [mo] G
  have hcs : 0 ≤ (headSpec w_Model_validate ({ frames := 24, cells := 0, slots := 0, locals := 558 })).room.cells ∧ 0 ≤ (headSpec w_Model_validate ({ frames := 24, cells := 0, slots := 0, locals := 558 })).room.slots := ⟨Nat.le_refl _, Nat.le_refl _⟩
  have hP : va_P (dC, dI) classes G s.heap := hP
  have hl := lv_entry ([.ref mo, .int ci, .long tm, .int mi, .int kn]) (n := 6) (Nat.le_of_ble_eq_true rfl)
  rw [lg_entry_eq]
  generalize (lg_sl ([.ref mo, .int ci, .long tm, .int mi, .int kn]) ++ List.replicate (6 - (lg_sl ([.ref mo, .int ci, .long tm, .int mi, .int kn])).length) Slot.unset).toArray = ls at hl ⊢
  have hl : lv_has ls 6 [(0, .ref mo), (1, .int ci), (2, .long tm), (4, .int mi), (5, .int kn)] := hl
  obtain ⟨cX_mo, eX_mo⟩ : ∃ z : va_E, z = .inr (12, (.int mer :: .int (nI fd) :: .int mwr :: .int (nI K9) :: .int (nI KL) :: .ref moc :: .ref msT :: .ref mrV :: .ref msP :: .int mqs :: .ref mrA :: .ref mbA :: .ref mwA :: .ref mhA :: .ref mfA :: .ref mpA :: .ref mxA :: .ref myA :: .ref mmA :: .ref mqA :: .ref mzA :: .ref mwy :: .ref mfd :: .int msz :: .int (nI cz) :: .int mch :: .int mft :: .int mpt :: .int mdp :: .int mvd :: .long mnw :: .int mmk :: [])) := ⟨_, rfl⟩
  rw [← eX_mo] at kmo
  refine lv_aload_n hx hb d_Model_validate_0 rfl (lv_at hl 0 rfl) ?_
  refine lv_iconst (v := 0) hx hb d_Model_validate_1 (by decide) ?_
  obtain ⟨i_1, hg_1⟩ := List.getElem?_of_mem kmo.2
  rw [eX_mo] at hg_1
  refine va_put (v := .int 0) (ty := .int) hx hb htb i_Model t_Model t_Model_ok n_Model hown hK hP hD hS i_1 hg_1 rfl 0 (by decide) (htb _ q7_214) (fun _ h9 => h9) rfl (by decide +kernel) rfl rfl (Nat.le_of_ble_eq_true rfl) d_Model_validate_2 (fun H2 locs hP hD2 hS => ?_)
  have hP : va_P (dC, dI) classes (G.set i_1 (mo, .inr (12, (.int 0 :: .int (nI fd) :: .int mwr :: .int (nI K9) :: .int (nI KL) :: .ref moc :: .ref msT :: .ref mrV :: .ref msP :: .int mqs :: .ref mrA :: .ref mbA :: .ref mwA :: .ref mhA :: .ref mfA :: .ref mpA :: .ref mxA :: .ref myA :: .ref mmA :: .ref mqA :: .ref mzA :: .ref mwy :: .ref mfd :: .int msz :: .int (nI cz) :: .int mch :: .int mft :: .int mpt :: .int mdp :: .int mvd :: .long mnw :: .int mmk :: [])))) H2 := hP
  have hD3 : va_D A (G.set i_1 (mo, .inr (12, (.int 0 :: .int (nI fd) :: .int mwr :: .int (nI K9) :: .int (nI KL) :: .ref moc :: .ref msT :: .ref mrV :: .ref msP :: .int mqs :: .ref mrA :: .ref mbA :: .ref mwA :: .ref mhA :: .ref mfA :: .ref mpA :: .ref mxA :: .ref myA :: .ref mmA :: .ref mqA :: .ref mzA :: .ref mwy :: .ref mfd :: .int msz :: .int (nI cz) :: .int mch :: .int mft :: .int mpt :: .int mdp :: .int mvd :: .long mnw :: .int mmk :: [])))) := hD2
  have hTy := TR.setX (c' := .inr (12, (.int 0 :: .int (nI fd) :: .int mwr :: .int (nI K9) :: .int (nI KL) :: .ref moc :: .ref msT :: .ref mrV :: .ref msP :: .int mqs :: .ref mrA :: .ref mbA :: .ref mwA :: .ref mhA :: .ref mfA :: .ref mpA :: .ref mxA :: .ref myA :: .ref mmA :: .ref mqA :: .ref mzA :: .ref mwy :: .ref mfd :: .int msz :: .int (nI cz) :: .int mch :: .int mft :: .int mpt :: .int mdp :: .int mvd :: .long mnw :: .int mmk :: []))) hTy hg_1 kmo.1
  have hFR := hFR.tr (FL.set (Ad := Ad) (X := [mo]) (c' := .inr (12, (.int 0 :: .int (nI fd) :: .int mwr :: .int (nI K9) :: .int (nI KL) :: .ref moc :: .ref msT :: .ref mrV :: .ref msP :: .int mqs :: .ref mrA :: .ref mbA :: .ref mwA :: .ref mhA :: .ref mfA :: .ref mpA :: .ref mxA :: .ref myA :: .ref mmA :: .ref mqA :: .ref mzA :: .ref mwy :: .ref mfd :: .int msz :: .int (nI cz) :: .int mch :: .int mft :: .int mpt :: .int mdp :: .int mvd :: .long mnw :: .int mmk :: []))) hg_1 (by simp))
  have hg_1 := set_here (c' := .inr (12, (.int 0 :: .int (nI fd) :: .int mwr :: .int (nI K9) :: .int (nI KL) :: .ref moc :: .ref msT :: .ref mrV :: .ref msP :: .int mqs :: .ref mrA :: .ref mbA :: .ref mwA :: .ref mhA :: .ref mfA :: .ref mpA :: .ref mxA :: .ref myA :: .ref mmA :: .ref mqA :: .ref mzA :: .ref mwy :: .ref mfd :: .int msz :: .int (nI cz) :: .int mch :: .int mft :: .int mpt :: .int mdp :: .int mvd :: .long mnw :: .int mmk :: []))) hg_1
  have kmo : Xc Ad mo (.inr (12, (.int 0 :: .int (nI fd) :: .int mwr :: .int (nI K9) :: .int (nI KL) :: .ref moc :: .ref msT :: .ref mrV :: .ref msP :: .int mqs :: .ref mrA :: .ref mbA :: .ref mwA :: .ref mhA :: .ref mfA :: .ref mpA :: .ref mxA :: .ref myA :: .ref mmA :: .ref mqA :: .ref mzA :: .ref mwy :: .ref mfd :: .int msz :: .int (nI cz) :: .int mch :: .int mft :: .int mpt :: .int mdp :: .int mvd :: .long mnw :: .int mmk :: []))) (G.set i_1 (mo, .inr (12, (.int 0 :: .int (nI fd) :: .int mwr :: .int (nI K9) :: .int (nI KL) :: .ref moc :: .ref msT :: .ref mrV :: .ref msP :: .int mqs :: .ref mrA :: .ref mbA :: .ref mwA :: .ref mhA :: .ref mfA :: .ref mpA :: .ref mxA :: .ref myA :: .ref mmA :: .ref mqA :: .ref mzA :: .ref mwy :: .ref mfd :: .int msz :: .int (nI cz) :: .int mch :: .int mft :: .int mpt :: .int mdp :: .int mvd :: .long mnw :: .int mmk :: [])))) := ⟨kmo.1, List.mem_of_getElem? hg_1⟩
  have hD := hD3
  clear hD3 hD2
  generalize G.set i_1 (mo, .inr (12, (.int 0 :: .int (nI fd) :: .int mwr :: .int (nI K9) :: .int (nI KL) :: .ref moc :: .ref msT :: .ref mrV :: .ref msP :: .int mqs :: .ref mrA :: .ref mbA :: .ref mwA :: .ref mhA :: .ref mfA :: .ref mpA :: .ref mxA :: .ref myA :: .ref mmA :: .ref mqA :: .ref mzA :: .ref mwy :: .ref mfd :: .int msz :: .int (nI cz) :: .int mch :: .int mft :: .int mpt :: .int mdp :: .int mvd :: .long mnw :: .int mmk :: []))) = G_2 at hP hD hTy hFR kmo hg_1
  obtain ⟨cX_3, eX_3⟩ : ∃ z : va_E, z = .inr (12, (.int 0 :: .int (nI fd) :: .int mwr :: .int (nI K9) :: .int (nI KL) :: .ref moc :: .ref msT :: .ref mrV :: .ref msP :: .int mqs :: .ref mrA :: .ref mbA :: .ref mwA :: .ref mhA :: .ref mfA :: .ref mpA :: .ref mxA :: .ref myA :: .ref mmA :: .ref mqA :: .ref mzA :: .ref mwy :: .ref mfd :: .int msz :: .int (nI cz) :: .int mch :: .int mft :: .int mpt :: .int mdp :: .int mvd :: .long mnw :: .int mmk :: [])) := ⟨_, rfl⟩
  rw [← eX_3] at kmo
  refine lv_aload_n hx hb d_Model_validate_5 rfl (lv_at hl 0 rfl) ?_
  refine lv_iload hx hb d_Model_validate_6 (lv_at hl 3 rfl) ?_
  refine lv_iconst (v := 1) hx hb d_Model_validate_8 (by decide) ?_
  refine lv_bipush (v := 16) hx hb d_Model_validate_9 (by decide) ?_
  refine vp_callSi (pu_callS (As := [.int mi, .int 1, .int 16]) (rest := [.ref mo]) ⟨hx, hb, hml, hown, hts⟩ tbin (c_Model_in l dC dI sb mi (1 : Int32) (16 : Int32)) q9_68 q8_116 q1_9 q8_117 (n := 3) (by decide +kernel) rfl ⟨rfl, rfl⟩ ⟨Nat.le_of_ble_eq_true rfl, Nat.le_of_ble_eq_true rfl⟩ ⟨Nat.le_of_ble_eq_true rfl, Nat.le_of_ble_eq_true rfl⟩ hN (hT0.keep hS hAs) hK hP [] (by simp only [List.filterMap_cons, List.filterMap_nil]) [] rfl hl.1 rfl (Nat.le_of_ble_eq_true rfl) d_Model_validate_11) (fun r11 hr11 => ?_)
  refine lv_if_ne (tgt := 21) hx hb d_Model_validate_14 (by decide) (fun c14 => ?_) (fun c14 => ?_)
  · have p14 : ¬ (r11 = (0 : Int32)) := c14
    exact absurd (bz_1 hr11 p14) hmost
  · have p14 : r11 = (0 : Int32) := c14
    refine lv_iconst (v := 1) hx hb d_Model_validate_17 (by decide) ?_
    refine lv_goto (tgt := 22) hx hb d_Model_validate_18 (by decide) ?_
    refine lv_iconst (v := 1) hx hb d_Model_validate_22 (by decide) ?_
    have hFc := va_free (wc := G_2) hD hS hA (List.range G_2.length) (rg_is _)
    refine va_calli (mu_runV (As := [.int 1, .int 1]) (rest := []) ⟨hx, hb, hml, hown, hts⟩ tbin (m_Model_fails_1 l dC dI sb γ κ Ad τ gT G_2 mo _ _ _ _ _ _ _ _ _ _ _ _ _ _ _ _ _ _ _ _ _ _ _ _ _ _ _ _ _ _ _ _ H2.size hTy (by have h9 := kmo; rw [eX_3] at h9; exact h9) (by decide)) q8_79 q8_81 qp_36 q1_9 q8_82 (n := 2) (by decide +kernel) rfl ⟨rfl, rfl⟩ ⟨Nat.le_of_ble_eq_true rfl, Nat.le_of_ble_eq_true rfl⟩ ⟨Nat.le_of_ble_eq_true rfl, Nat.le_of_ble_eq_true rfl⟩ hN (hT0.keep hS hAs) hAs (Nat.le_trans hB0 hS.1) hK hP hD (List.range G_2.length) (rg_nd _) (rg_is _) [0, 1, 2, 3, 4] rfl i_1 12 hg_1 rfl rfl hl.1 rfl (Nat.le_of_ble_eq_true rfl) d_Model_validate_23) hS (fun q _ h => hFc q h) hFc (fun r23 G_4 tS H23 locs ht hvm hw23 hB hz1 hk1 hS => ?_)
    obtain ⟨hTy, hF9, hr23⟩ := hw23
    have hFR := hFR.tr (hF9.up (q_gac (by simp) (q_gan)))
    obtain ⟨hP1, hK1, hD1⟩ := hB
    rw [ht] at hP1
    have hP : va_P (dC, dI) classes G_4 H23 := hP1
    have hD : va_D A G_4 := hD1.weaken (fun _ _ _ h => hFc _ h)
    obtain ⟨hq23, kmo⟩ := hr23
    subst hq23
    obtain ⟨cX_5, eX_5⟩ : ∃ z : va_E, z = .inr (12, (.int 1 :: .int (nI fd) :: .int mwr :: .int (nI K9) :: .int (nI KL) :: .ref moc :: .ref msT :: .ref mrV :: .ref msP :: .int mqs :: .ref mrA :: .ref mbA :: .ref mwA :: .ref mhA :: .ref mfA :: .ref mpA :: .ref mxA :: .ref myA :: .ref mmA :: .ref mqA :: .ref mzA :: .ref mwy :: .ref mfd :: .int msz :: .int (nI cz) :: .int mch :: .int mft :: .int mpt :: .int mdp :: .int mvd :: .long mnw :: .int mmk :: [])) := ⟨_, rfl⟩
    rw [← eX_5] at kmo
    refine lv_if_ne (tgt := 38) hx hb d_Model_validate_26 (by decide) (fun c26 => ?_) (fun c26 => ?_)
    rotate_left
    · exact absurd c26 (by decide)
    refine lv_iconst (v := 0) hx hb d_Model_validate_38 (by decide) ?_
    exact W.iret (v := 0) hx hb hr (fun t ht hW => ⟨⟨_, G_4, rfl, ⟨hTy, hFR, rfl, (by rw [eX_5] at kmo; exact kmo)⟩, by rw [ht]; exact hP, va_K.moved hW.alike hK, hD⟩, hS.F ht⟩) hS.2.2 d_Model_validate_39
set_option maxHeartbeats 4000000 in
set_option maxRecDepth 100000 in
theorem m_Model_validate_2 (l : Launch) (dC : Nat → ClassId) (dI : Nat → Nat → Nat) (sb : sB) (γ : cG) (κ : kE) (Ad : List Nat) (τ : Nat → TD) (gT : ClassId) (G : va_W) (mo : Nat) (moc msT mrV msP mrA mbA mwA mhA mfA mpA mxA myA mmA mqA mzA mwy mfd : Nat) (mer mwr mqs msz mch mft mpt mdp mvd mmk : Int32) (mnw : Int64) (K9 KL cz fd : Nat) (ci mi kn : Int32) (tm : Int64) (sz : Nat) (hTy : TR γ κ Ad τ G) (kmo : Xc Ad mo (.inr (12, (.int mer :: .int (nI fd) :: .int mwr :: .int (nI K9) :: .int (nI KL) :: .ref moc :: .ref msT :: .ref mrV :: .ref msP :: .int mqs :: .ref mrA :: .ref mbA :: .ref mwA :: .ref mhA :: .ref mfA :: .ref mpA :: .ref mxA :: .ref myA :: .ref mmA :: .ref mqA :: .ref mzA :: .ref mwy :: .ref mfd :: .int msz :: .int (nI cz) :: .int mch :: .int mft :: .int mpt :: .int mdp :: .int mvd :: .long mnw :: .int mmk :: []))) G) (hmost : ¬ mi < 1 ∧ ¬ 16 < mi) (hbad : ¬ (¬ ci < 0 ∧ ci < nI K9)) (hK9 : K9 ≤ 16) : Met l y_Model_validate w_Model_validate ({ frames := 24, cells := 0, slots := 0, locals := 558 }) (mu_P [.ref mo, .int ci, .long tm, .int mi, .int kn] (dC, dI) sb G [(γ.1, .byte), (γ.2.1, .int), (γ.2.2.1, .long), (γ.2.2.2, .object "java/lang/Object"), (gT, .object "TrustChainModel$Text")] sz) (va_Qi (fun r (G' : va_W) => TR γ κ Ad τ G' ∧ FL Ad [mo] G G' ∧ (r = 0 ∧ Xc Ad mo (.inr (12, (.int 2 :: .int (nI fd) :: .int mwr :: .int (nI K9) :: .int (nI KL) :: .ref moc :: .ref msT :: .ref mrV :: .ref msP :: .int mqs :: .ref mrA :: .ref mbA :: .ref mwA :: .ref mhA :: .ref mfA :: .ref mpA :: .ref mxA :: .ref myA :: .ref mmA :: .ref mqA :: .ref mzA :: .ref mwy :: .ref mfd :: .int msz :: .int (nI cz) :: .int mch :: .int mft :: .int mpt :: .int mdp :: .int mvd :: .long mnw :: .int mmk :: []))) G')) (mu_B (dC, dI) [(γ.1, .byte), (γ.2.1, .int), (γ.2.2.1, .long), (γ.2.2.2, .object "java/lang/Object"), (gT, .object "TrustChainModel$Text")] (va_A G sz) (fun G' : va_W => G')) (va_A G sz)) 0 0 (va_A G sz) := by
  refine Met.ofW (cc := b_Model_validate) (maxL := 6) (ret := (some FieldType.int)) (by decide) rfl ?_
  intro p e s m args below meth c s₁ B hml hv
  obtain ⟨rfl, hsz, hB0, hP, hK, hD0, hN, hT0⟩ := hv
  have hx := B.exec
  have hb := B.bytes
  have hr := B.returns
  have hts := atoms_spec (ws := w_Model_validate) B.pre
  have tbin : ∀ w ∈ tb, w ∈ w_Model_validate := fun w h => List.mem_cons_of_mem _ h
  have htb : ∀ w ∈ tb, w.before _ s = true := fun w h => hts w (tbin w h)
  have hown : s.vm.findClass "TrustChainModel" = some m.cls := findClass_of_methodNamed B.named
  have hlocks := B.notSynchronized
  subst hsz
  have hD := hD0.self (sz := s.heap.size)
  generalize hAe : va_A G s.heap.size = A at hD ⊢
  have hA : ∀ q : Nat, s.heap.size ≤ q → A q := fun q h => by rw [← hAe]; exact Or.inr h
  have hAs : ∀ q : Nat, A q → sb.1 ≤ q := fun q h => by
    rw [← hAe] at h
    rcases h with ⟨k, e, h⟩ | h
    · exact hD0.2 k _ h
    · exact Nat.le_trans hB0 h
  have hS : va_S A s.heap s.heap [] := va_S.rf
  have hFR := FL.rf Ad [mo] G
  have hcs : 0 ≤ (headSpec w_Model_validate ({ frames := 24, cells := 0, slots := 0, locals := 558 })).room.cells ∧ 0 ≤ (headSpec w_Model_validate ({ frames := 24, cells := 0, slots := 0, locals := 558 })).room.slots := ⟨Nat.le_refl _, Nat.le_refl _⟩
  have hP : va_P (dC, dI) classes G s.heap := hP
  have hl := lv_entry ([.ref mo, .int ci, .long tm, .int mi, .int kn]) (n := 6) (Nat.le_of_ble_eq_true rfl)
  rw [lg_entry_eq]
  generalize (lg_sl ([.ref mo, .int ci, .long tm, .int mi, .int kn]) ++ List.replicate (6 - (lg_sl ([.ref mo, .int ci, .long tm, .int mi, .int kn])).length) Slot.unset).toArray = ls at hl ⊢
  have hl : lv_has ls 6 [(0, .ref mo), (1, .int ci), (2, .long tm), (4, .int mi), (5, .int kn)] := hl
  obtain ⟨cX_mo, eX_mo⟩ : ∃ z : va_E, z = .inr (12, (.int mer :: .int (nI fd) :: .int mwr :: .int (nI K9) :: .int (nI KL) :: .ref moc :: .ref msT :: .ref mrV :: .ref msP :: .int mqs :: .ref mrA :: .ref mbA :: .ref mwA :: .ref mhA :: .ref mfA :: .ref mpA :: .ref mxA :: .ref myA :: .ref mmA :: .ref mqA :: .ref mzA :: .ref mwy :: .ref mfd :: .int msz :: .int (nI cz) :: .int mch :: .int mft :: .int mpt :: .int mdp :: .int mvd :: .long mnw :: .int mmk :: [])) := ⟨_, rfl⟩
  rw [← eX_mo] at kmo
  refine lv_aload_n hx hb d_Model_validate_0 rfl (lv_at hl 0 rfl) ?_
  refine lv_iconst (v := 0) hx hb d_Model_validate_1 (by decide) ?_
  obtain ⟨i_1, hg_1⟩ := List.getElem?_of_mem kmo.2
  rw [eX_mo] at hg_1
  refine va_put (v := .int 0) (ty := .int) hx hb htb i_Model t_Model t_Model_ok n_Model hown hK hP hD hS i_1 hg_1 rfl 0 (by decide) (htb _ q7_214) (fun _ h9 => h9) rfl (by decide +kernel) rfl rfl (Nat.le_of_ble_eq_true rfl) d_Model_validate_2 (fun H2 locs hP hD2 hS => ?_)
  have hP : va_P (dC, dI) classes (G.set i_1 (mo, .inr (12, (.int 0 :: .int (nI fd) :: .int mwr :: .int (nI K9) :: .int (nI KL) :: .ref moc :: .ref msT :: .ref mrV :: .ref msP :: .int mqs :: .ref mrA :: .ref mbA :: .ref mwA :: .ref mhA :: .ref mfA :: .ref mpA :: .ref mxA :: .ref myA :: .ref mmA :: .ref mqA :: .ref mzA :: .ref mwy :: .ref mfd :: .int msz :: .int (nI cz) :: .int mch :: .int mft :: .int mpt :: .int mdp :: .int mvd :: .long mnw :: .int mmk :: [])))) H2 := hP
  have hD3 : va_D A (G.set i_1 (mo, .inr (12, (.int 0 :: .int (nI fd) :: .int mwr :: .int (nI K9) :: .int (nI KL) :: .ref moc :: .ref msT :: .ref mrV :: .ref msP :: .int mqs :: .ref mrA :: .ref mbA :: .ref mwA :: .ref mhA :: .ref mfA :: .ref mpA :: .ref mxA :: .ref myA :: .ref mmA :: .ref mqA :: .ref mzA :: .ref mwy :: .ref mfd :: .int msz :: .int (nI cz) :: .int mch :: .int mft :: .int mpt :: .int mdp :: .int mvd :: .long mnw :: .int mmk :: [])))) := hD2
  have hTy := TR.setX (c' := .inr (12, (.int 0 :: .int (nI fd) :: .int mwr :: .int (nI K9) :: .int (nI KL) :: .ref moc :: .ref msT :: .ref mrV :: .ref msP :: .int mqs :: .ref mrA :: .ref mbA :: .ref mwA :: .ref mhA :: .ref mfA :: .ref mpA :: .ref mxA :: .ref myA :: .ref mmA :: .ref mqA :: .ref mzA :: .ref mwy :: .ref mfd :: .int msz :: .int (nI cz) :: .int mch :: .int mft :: .int mpt :: .int mdp :: .int mvd :: .long mnw :: .int mmk :: []))) hTy hg_1 kmo.1
  have hFR := hFR.tr (FL.set (Ad := Ad) (X := [mo]) (c' := .inr (12, (.int 0 :: .int (nI fd) :: .int mwr :: .int (nI K9) :: .int (nI KL) :: .ref moc :: .ref msT :: .ref mrV :: .ref msP :: .int mqs :: .ref mrA :: .ref mbA :: .ref mwA :: .ref mhA :: .ref mfA :: .ref mpA :: .ref mxA :: .ref myA :: .ref mmA :: .ref mqA :: .ref mzA :: .ref mwy :: .ref mfd :: .int msz :: .int (nI cz) :: .int mch :: .int mft :: .int mpt :: .int mdp :: .int mvd :: .long mnw :: .int mmk :: []))) hg_1 (by simp))
  have hg_1 := set_here (c' := .inr (12, (.int 0 :: .int (nI fd) :: .int mwr :: .int (nI K9) :: .int (nI KL) :: .ref moc :: .ref msT :: .ref mrV :: .ref msP :: .int mqs :: .ref mrA :: .ref mbA :: .ref mwA :: .ref mhA :: .ref mfA :: .ref mpA :: .ref mxA :: .ref myA :: .ref mmA :: .ref mqA :: .ref mzA :: .ref mwy :: .ref mfd :: .int msz :: .int (nI cz) :: .int mch :: .int mft :: .int mpt :: .int mdp :: .int mvd :: .long mnw :: .int mmk :: []))) hg_1
  have kmo : Xc Ad mo (.inr (12, (.int 0 :: .int (nI fd) :: .int mwr :: .int (nI K9) :: .int (nI KL) :: .ref moc :: .ref msT :: .ref mrV :: .ref msP :: .int mqs :: .ref mrA :: .ref mbA :: .ref mwA :: .ref mhA :: .ref mfA :: .ref mpA :: .ref mxA :: .ref myA :: .ref mmA :: .ref mqA :: .ref mzA :: .ref mwy :: .ref mfd :: .int msz :: .int (nI cz) :: .int mch :: .int mft :: .int mpt :: .int mdp :: .int mvd :: .long mnw :: .int mmk :: []))) (G.set i_1 (mo, .inr (12, (.int 0 :: .int (nI fd) :: .int mwr :: .int (nI K9) :: .int (nI KL) :: .ref moc :: .ref msT :: .ref mrV :: .ref msP :: .int mqs :: .ref mrA :: .ref mbA :: .ref mwA :: .ref mhA :: .ref mfA :: .ref mpA :: .ref mxA :: .ref myA :: .ref mmA :: .ref mqA :: .ref mzA :: .ref mwy :: .ref mfd :: .int msz :: .int (nI cz) :: .int mch :: .int mft :: .int mpt :: .int mdp :: .int mvd :: .long mnw :: .int mmk :: [])))) := ⟨kmo.1, List.mem_of_getElem? hg_1⟩
  have hD := hD3
  clear hD3 hD2
  generalize G.set i_1 (mo, .inr (12, (.int 0 :: .int (nI fd) :: .int mwr :: .int (nI K9) :: .int (nI KL) :: .ref moc :: .ref msT :: .ref mrV :: .ref msP :: .int mqs :: .ref mrA :: .ref mbA :: .ref mwA :: .ref mhA :: .ref mfA :: .ref mpA :: .ref mxA :: .ref myA :: .ref mmA :: .ref mqA :: .ref mzA :: .ref mwy :: .ref mfd :: .int msz :: .int (nI cz) :: .int mch :: .int mft :: .int mpt :: .int mdp :: .int mvd :: .long mnw :: .int mmk :: []))) = G_2 at hP hD hTy hFR kmo hg_1
  obtain ⟨cX_3, eX_3⟩ : ∃ z : va_E, z = .inr (12, (.int 0 :: .int (nI fd) :: .int mwr :: .int (nI K9) :: .int (nI KL) :: .ref moc :: .ref msT :: .ref mrV :: .ref msP :: .int mqs :: .ref mrA :: .ref mbA :: .ref mwA :: .ref mhA :: .ref mfA :: .ref mpA :: .ref mxA :: .ref myA :: .ref mmA :: .ref mqA :: .ref mzA :: .ref mwy :: .ref mfd :: .int msz :: .int (nI cz) :: .int mch :: .int mft :: .int mpt :: .int mdp :: .int mvd :: .long mnw :: .int mmk :: [])) := ⟨_, rfl⟩
  rw [← eX_3] at kmo
  refine lv_aload_n hx hb d_Model_validate_5 rfl (lv_at hl 0 rfl) ?_
  refine lv_iload hx hb d_Model_validate_6 (lv_at hl 3 rfl) ?_
  refine lv_iconst (v := 1) hx hb d_Model_validate_8 (by decide) ?_
  refine lv_bipush (v := 16) hx hb d_Model_validate_9 (by decide) ?_
  refine vp_callSi (pu_callS (As := [.int mi, .int 1, .int 16]) (rest := [.ref mo]) ⟨hx, hb, hml, hown, hts⟩ tbin (c_Model_in l dC dI sb mi (1 : Int32) (16 : Int32)) q9_68 q8_116 q1_9 q8_117 (n := 3) (by decide +kernel) rfl ⟨rfl, rfl⟩ ⟨Nat.le_of_ble_eq_true rfl, Nat.le_of_ble_eq_true rfl⟩ ⟨Nat.le_of_ble_eq_true rfl, Nat.le_of_ble_eq_true rfl⟩ hN (hT0.keep hS hAs) hK hP [] (by simp only [List.filterMap_cons, List.filterMap_nil]) [] rfl hl.1 rfl (Nat.le_of_ble_eq_true rfl) d_Model_validate_11) (fun r11 hr11 => ?_)
  refine lv_if_ne (tgt := 21) hx hb d_Model_validate_14 (by decide) (fun c14 => ?_) (fun c14 => ?_)
  · have p14 : ¬ (r11 = (0 : Int32)) := c14
    refine lv_iconst (v := 0) hx hb d_Model_validate_21 (by decide) ?_
    refine lv_iconst (v := 1) hx hb d_Model_validate_22 (by decide) ?_
    have hFc := va_free (wc := G_2) hD hS hA (List.range G_2.length) (rg_is _)
    refine va_calli (mu_runV (As := [.int 0, .int 1]) (rest := []) ⟨hx, hb, hml, hown, hts⟩ tbin (m_Model_fails_0 l dC dI sb γ κ Ad τ gT G_2 mo _ _ _ _ _ _ _ _ _ _ _ _ _ _ _ _ _ _ _ _ _ _ _ _ _ _ _ _ _ _ _ _ H2.size hTy (by have h9 := kmo; rw [eX_3] at h9; exact h9) ) q8_79 q8_81 qp_36 q1_9 q8_82 (n := 2) (by decide +kernel) rfl ⟨rfl, rfl⟩ ⟨Nat.le_of_ble_eq_true rfl, Nat.le_of_ble_eq_true rfl⟩ ⟨Nat.le_of_ble_eq_true rfl, Nat.le_of_ble_eq_true rfl⟩ hN (hT0.keep hS hAs) hAs (Nat.le_trans hB0 hS.1) hK hP hD (List.range G_2.length) (rg_nd _) (rg_is _) [0, 1, 2, 3, 4] rfl i_1 12 hg_1 rfl rfl hl.1 rfl (Nat.le_of_ble_eq_true rfl) d_Model_validate_23) hS (fun q _ h => hFc q h) hFc (fun r23 G_4 tS H23 locs ht hvm hw23 hB hz1 hk1 hS => ?_)
    obtain ⟨hTy, hF9, hr23⟩ := hw23
    have kmo := kmo.fl hF9 (q_nmn)
    have hFR := hFR.tr (hF9.up (q_gan))
    obtain ⟨hP1, hK1, hD1⟩ := hB
    rw [ht] at hP1
    have hP : va_P (dC, dI) classes G_4 H23 := hP1
    have hD : va_D A G_4 := hD1.weaken (fun _ _ _ h => hFc _ h)
    subst hr23
    refine lv_if_ne (tgt := 38) hx hb d_Model_validate_26 (by decide) (fun c26 => ?_) (fun c26 => ?_)
    · exact absurd c26 (by decide)
    refine lv_aload_n hx hb d_Model_validate_29 rfl (lv_at hl 0 rfl) ?_
    refine lv_iload_n hx hb d_Model_validate_30 rfl (lv_at hl 1 rfl) ?_
    refine lv_iconst (v := 2) hx hb d_Model_validate_31 (by decide) ?_
    have hFc := va_free (wc := G_4) hD hS hA (List.range G_4.length) (rg_is _)
    obtain ⟨i_6, hg_6⟩ := List.getElem?_of_mem kmo.2
    rw [eX_3] at hg_6
    refine va_calli (mu_runV (As := [.int ci, .int 2]) (rest := []) ⟨hx, hb, hml, hown, hts⟩ tbin (m_Model_noc_1 l dC dI sb γ κ Ad τ gT G_4 mo _ _ _ _ _ _ _ _ _ _ _ _ _ _ _ _ _ _ _ _ _ _ _ _ _ _ _ _ _ _ _ _ _ H23.size hTy (by have h9 := kmo; rw [eX_3] at h9; exact h9) hbad (by decide) hK9) q9_64 q9_66 qp_39 q1_9 q9_67 (n := 2) (by decide +kernel) rfl ⟨rfl, rfl⟩ ⟨Nat.le_of_ble_eq_true rfl, Nat.le_of_ble_eq_true rfl⟩ ⟨Nat.le_of_ble_eq_true rfl, Nat.le_of_ble_eq_true rfl⟩ hN (hT0.keep hS hAs) hAs (Nat.le_trans hB0 hS.1) hK hP hD (List.range G_4.length) (rg_nd _) (rg_is _) [0, 1, 2, 3, 4] rfl i_6 12 hg_6 rfl rfl hl.1 rfl (Nat.le_of_ble_eq_true rfl) d_Model_validate_32) hS (fun q _ h => hFc q h) hFc (fun r32 G_5 tS H32 locs ht hvm hw32 hB hz1 hk1 hS => ?_)
    obtain ⟨hTy, hF9, hr32⟩ := hw32
    have hFR := hFR.tr (hF9.up (q_gac (by simp) (q_gan)))
    obtain ⟨hP1, hK1, hD1⟩ := hB
    rw [ht] at hP1
    have hP : va_P (dC, dI) classes G_5 H32 := hP1
    have hD : va_D A G_5 := hD1.weaken (fun _ _ _ h => hFc _ h)
    obtain ⟨hq32, kmo⟩ := hr32
    subst hq32
    obtain ⟨cX_7, eX_7⟩ : ∃ z : va_E, z = .inr (12, (.int 2 :: .int (nI fd) :: .int mwr :: .int (nI K9) :: .int (nI KL) :: .ref moc :: .ref msT :: .ref mrV :: .ref msP :: .int mqs :: .ref mrA :: .ref mbA :: .ref mwA :: .ref mhA :: .ref mfA :: .ref mpA :: .ref mxA :: .ref myA :: .ref mmA :: .ref mqA :: .ref mzA :: .ref mwy :: .ref mfd :: .int msz :: .int (nI cz) :: .int mch :: .int mft :: .int mpt :: .int mdp :: .int mvd :: .long mnw :: .int mmk :: [])) := ⟨_, rfl⟩
    rw [← eX_7] at kmo
    refine lv_if_eq (tgt := 40) hx hb d_Model_validate_35 (by decide) (fun c35 => ?_) (fun c35 => ?_)
    · exact absurd c35 (by decide)
    refine lv_iconst (v := 0) hx hb d_Model_validate_38 (by decide) ?_
    exact W.iret (v := 0) hx hb hr (fun t ht hW => ⟨⟨_, G_5, rfl, ⟨hTy, hFR, rfl, (by rw [eX_7] at kmo; exact kmo)⟩, by rw [ht]; exact hP, va_K.moved hW.alike hK, hD⟩, hS.F ht⟩) hS.2.2 d_Model_validate_39
  · have p14 : r11 = (0 : Int32) := c14
    exact absurd hmost (bz_0 hr11 p14)
set_option maxHeartbeats 4000000 in
set_option maxRecDepth 100000 in
theorem m_Model_validate_ok0 (l : Launch) (dC : Nat → ClassId) (dI : Nat → Nat → Nat) (sb : sB) (γ : cG) (κ : kE) (Ad : List Nat) (τ : Nat → TD) (gT : ClassId) (G : va_W) (mo : Nat) (moc msT mrV msP mrA mbA mwA mhA mfA mpA mxA myA mmA mqA mzA mwy mfd : Nat) (mer mwr mqs msz mch mft mpt mdp mvd mmk : Int32) (mnw : Int64) (K9 KL cz fd : Nat) (k9 m8 : Nat) (tm : Int64) (fm fr fw ff : Nat → Int32) (fS fV : Nat → Option Nat) (sz : Nat) (hTy : TR γ κ Ad τ G) (kmo : Xc Ad mo (.inr (12, (.int mer :: .int (nI fd) :: .int mwr :: .int (nI K9) :: .int (nI KL) :: .ref moc :: .ref msT :: .ref mrV :: .ref msP :: .int mqs :: .ref mrA :: .ref mbA :: .ref mwA :: .ref mhA :: .ref mfA :: .ref mpA :: .ref mxA :: .ref myA :: .ref mmA :: .ref mqA :: .ref mzA :: .ref mwy :: .ref mfd :: .int msz :: .int (nI cz) :: .int mch :: .int mft :: .int mpt :: .int mdp :: .int mvd :: .long mnw :: .int mmk :: []))) G) (kmmA : Xc Ad mmA (.inl (γ.2.1, 600, .inl fm)) G) (kmrA : Xc Ad mrA (.inl (γ.2.1, 600, .inl fr)) G) (kmwy : Xc Ad mwy (.inl (γ.2.1, 16, .inl fw)) G) (kmsT : Xc Ad msT (.inl (gT, 16, .inr (.inr (.inr (.inr fS))))) G) (kmrV : Xc Ad mrV (.inl (gT, 8, .inr (.inr (.inr (.inr fV))))) G) (kmfd : Xc Ad mfd (.inl (γ.2.1, 16, .inl ff)) G) (kmzA : tK κ Ad mzA (6, 600, 6)) (kmqA : tK κ Ad mqA (6, 600, 4)) (kmyA : tK κ Ad myA (6, 600, 5)) (kmxA : tK κ Ad mxA (6, 600, 3)) (kmbA : tK κ Ad mbA (6, 2176, 0)) (kmwA : tK κ Ad mwA (6, 64, 0)) (kmhA : tK κ Ad mhA (6, 8, 0)) (kmpA : tK κ Ad mpA (6, 64, 2)) (kmfA : tK κ Ad mfA (6, 8, 1)) (hx_mo_mmA : mo ≠ mmA) (hx_mo_mrA : mo ≠ mrA) (hx_mo_mwy : mo ≠ mwy) (hx_mo_msT : mo ≠ msT) (hx_mo_mrV : mo ≠ mrV) (hx_mo_mfd : mo ≠ mfd) (hx_mmA_mrA : mmA ≠ mrA) (hx_mmA_mwy : mmA ≠ mwy) (hx_mmA_msT : mmA ≠ msT) (hx_mmA_mrV : mmA ≠ mrV) (hx_mmA_mfd : mmA ≠ mfd) (hx_mrA_mwy : mrA ≠ mwy) (hx_mrA_msT : mrA ≠ msT) (hx_mrA_mrV : mrA ≠ mrV) (hx_mrA_mfd : mrA ≠ mfd) (hx_mwy_msT : mwy ≠ msT) (hx_mwy_mrV : mwy ≠ mrV) (hx_mwy_mfd : mwy ≠ mfd) (hx_msT_mrV : msT ≠ mrV) (hx_msT_mfd : msT ≠ mfd) (hx_mrV_mfd : mrV ≠ mfd) (hmost : ¬ nI m8 < 1 ∧ ¬ 16 < nI m8) (hm1 : 1 ≤ m8) (hm2 : m8 ≤ 16) (hst : STc κ Ad τ K9 fS) (hrv : STl κ Ad τ KL fV) (hK9 : K9 ≤ 16) (hKL : KL ≤ 8) (hk9 : k9 < K9) (hfm : bR fm) (hfr : bR fr) (hma : ∀ l9, l9 < KL → ¬ (τ ((fV l9).getD 0)).I 30 < 0) : Met l y_Model_validate w_Model_validate ({ frames := 24, cells := 0, slots := 0, locals := 558 }) (mu_P [.ref mo, .int (nI k9), .long tm, .int (nI m8), .int 0] (dC, dI) sb G [(γ.1, .byte), (γ.2.1, .int), (γ.2.2.1, .long), (γ.2.2.2, .object "java/lang/Object"), (gT, .object "TrustChainModel$Text")] sz) (va_Qi (fun r (G' : va_W) => TR γ κ Ad τ G' ∧ FL Ad [mo, mmA, mrA, mwy, mfd] G G' ∧ (r = (rVQ τ fS fV K9 KL tm 0 k9 m8).2.2.2.1 ∧ (∃ q9 : Int32, Xc Ad mo (.inr (12, (.int 0 :: .int (nI fd) :: .int mwr :: .int (nI K9) :: .int (nI KL) :: .ref moc :: .ref msT :: .ref mrV :: .ref msP :: .int q9 :: .ref mrA :: .ref mbA :: .ref mwA :: .ref mhA :: .ref mfA :: .ref mpA :: .ref mxA :: .ref myA :: .ref mmA :: .ref mqA :: .ref mzA :: .ref mwy :: .ref mfd :: .int (nI 1) :: .int (nI (rVQ τ fS fV K9 KL tm 0 k9 m8).2.2.1.length) :: .int (nI (rVQ τ fS fV K9 KL tm 0 k9 m8).2.1) :: .int ((rVQ τ fS fV K9 KL tm 0 k9 m8).2.2.2.2) :: .int (nI (rVQ τ fS fV K9 KL tm 0 k9 m8).1) :: .int (nI m8) :: .int ((rVQ τ fS fV K9 KL tm 0 k9 m8).2.2.2.1) :: .long tm :: .int 0 :: []))) G') ∧ (∃ f9 : Nat → Int32, bR f9 ∧ Xc Ad mmA (.inl (γ.2.1, 600, .inl f9)) G') ∧ (∃ f9 : Nat → Int32, bR f9 ∧ Xc Ad mrA (.inl (γ.2.1, 600, .inl f9)) G') ∧ (∃ f9 : Nat → Int32, Xc Ad mwy (.inl (γ.2.1, 16, .inl f9)) G') ∧ (∃ f9 : Nat → Int32, fdR (rVQ τ fS fV K9 KL tm 0 k9 m8).2.2.1 f9 ∧ Xc Ad mfd (.inl (γ.2.1, 16, .inl f9)) G'))) (mu_B (dC, dI) [(γ.1, .byte), (γ.2.1, .int), (γ.2.2.1, .long), (γ.2.2.2, .object "java/lang/Object"), (gT, .object "TrustChainModel$Text")] (va_A G sz) (fun G' : va_W => G')) (va_A G sz)) 0 0 (va_A G sz) := by
  refine Met.ofW (cc := b_Model_validate) (maxL := 6) (ret := (some FieldType.int)) (by decide) rfl ?_
  intro p e s m args below meth c s₁ B hml hv
  obtain ⟨rfl, hsz, hB0, hP, hK, hD0, hN, hT0⟩ := hv
  have hx := B.exec
  have hb := B.bytes
  have hr := B.returns
  have hts := atoms_spec (ws := w_Model_validate) B.pre
  have tbin : ∀ w ∈ tb, w ∈ w_Model_validate := fun w h => List.mem_cons_of_mem _ h
  have htb : ∀ w ∈ tb, w.before _ s = true := fun w h => hts w (tbin w h)
  have hown : s.vm.findClass "TrustChainModel" = some m.cls := findClass_of_methodNamed B.named
  have hlocks := B.notSynchronized
  subst hsz
  have hD := hD0.self (sz := s.heap.size)
  generalize hAe : va_A G s.heap.size = A at hD ⊢
  have hA : ∀ q : Nat, s.heap.size ≤ q → A q := fun q h => by rw [← hAe]; exact Or.inr h
  have hAs : ∀ q : Nat, A q → sb.1 ≤ q := fun q h => by
    rw [← hAe] at h
    rcases h with ⟨k, e, h⟩ | h
    · exact hD0.2 k _ h
    · exact Nat.le_trans hB0 h
  have hS : va_S A s.heap s.heap [] := va_S.rf
  have hFR := FL.rf Ad [mo, mmA, mrA, mwy, mfd] G
  have hcs : 0 ≤ (headSpec w_Model_validate ({ frames := 24, cells := 0, slots := 0, locals := 558 })).room.cells ∧ 0 ≤ (headSpec w_Model_validate ({ frames := 24, cells := 0, slots := 0, locals := 558 })).room.slots := ⟨Nat.le_refl _, Nat.le_refl _⟩
  have hP : va_P (dC, dI) classes G s.heap := hP
  have hl := lv_entry ([.ref mo, .int (nI k9), .long tm, .int (nI m8), .int 0]) (n := 6) (Nat.le_of_ble_eq_true rfl)
  rw [lg_entry_eq]
  generalize (lg_sl ([.ref mo, .int (nI k9), .long tm, .int (nI m8), .int 0]) ++ List.replicate (6 - (lg_sl ([.ref mo, .int (nI k9), .long tm, .int (nI m8), .int 0])).length) Slot.unset).toArray = ls at hl ⊢
  have hl : lv_has ls 6 [(0, .ref mo), (1, .int (nI k9)), (2, .long tm), (4, .int (nI m8)), (5, .int 0)] := hl
  obtain ⟨cX_mo, eX_mo⟩ : ∃ z : va_E, z = .inr (12, (.int mer :: .int (nI fd) :: .int mwr :: .int (nI K9) :: .int (nI KL) :: .ref moc :: .ref msT :: .ref mrV :: .ref msP :: .int mqs :: .ref mrA :: .ref mbA :: .ref mwA :: .ref mhA :: .ref mfA :: .ref mpA :: .ref mxA :: .ref myA :: .ref mmA :: .ref mqA :: .ref mzA :: .ref mwy :: .ref mfd :: .int msz :: .int (nI cz) :: .int mch :: .int mft :: .int mpt :: .int mdp :: .int mvd :: .long mnw :: .int mmk :: [])) := ⟨_, rfl⟩
  rw [← eX_mo] at kmo
  refine lv_aload_n hx hb d_Model_validate_0 rfl (lv_at hl 0 rfl) ?_
  refine lv_iconst (v := 0) hx hb d_Model_validate_1 (by decide) ?_
  obtain ⟨i_1, hg_1⟩ := List.getElem?_of_mem kmo.2
  rw [eX_mo] at hg_1
  refine va_put (v := .int 0) (ty := .int) hx hb htb i_Model t_Model t_Model_ok n_Model hown hK hP hD hS i_1 hg_1 rfl 0 (by decide) (htb _ q7_214) (fun _ h9 => h9) rfl (by decide +kernel) rfl rfl (Nat.le_of_ble_eq_true rfl) d_Model_validate_2 (fun H2 locs hP hD2 hS => ?_)
  have hP : va_P (dC, dI) classes (G.set i_1 (mo, .inr (12, (.int 0 :: .int (nI fd) :: .int mwr :: .int (nI K9) :: .int (nI KL) :: .ref moc :: .ref msT :: .ref mrV :: .ref msP :: .int mqs :: .ref mrA :: .ref mbA :: .ref mwA :: .ref mhA :: .ref mfA :: .ref mpA :: .ref mxA :: .ref myA :: .ref mmA :: .ref mqA :: .ref mzA :: .ref mwy :: .ref mfd :: .int msz :: .int (nI cz) :: .int mch :: .int mft :: .int mpt :: .int mdp :: .int mvd :: .long mnw :: .int mmk :: [])))) H2 := hP
  have hD3 : va_D A (G.set i_1 (mo, .inr (12, (.int 0 :: .int (nI fd) :: .int mwr :: .int (nI K9) :: .int (nI KL) :: .ref moc :: .ref msT :: .ref mrV :: .ref msP :: .int mqs :: .ref mrA :: .ref mbA :: .ref mwA :: .ref mhA :: .ref mfA :: .ref mpA :: .ref mxA :: .ref myA :: .ref mmA :: .ref mqA :: .ref mzA :: .ref mwy :: .ref mfd :: .int msz :: .int (nI cz) :: .int mch :: .int mft :: .int mpt :: .int mdp :: .int mvd :: .long mnw :: .int mmk :: [])))) := hD2
  have hTy := TR.setX (c' := .inr (12, (.int 0 :: .int (nI fd) :: .int mwr :: .int (nI K9) :: .int (nI KL) :: .ref moc :: .ref msT :: .ref mrV :: .ref msP :: .int mqs :: .ref mrA :: .ref mbA :: .ref mwA :: .ref mhA :: .ref mfA :: .ref mpA :: .ref mxA :: .ref myA :: .ref mmA :: .ref mqA :: .ref mzA :: .ref mwy :: .ref mfd :: .int msz :: .int (nI cz) :: .int mch :: .int mft :: .int mpt :: .int mdp :: .int mvd :: .long mnw :: .int mmk :: []))) hTy hg_1 kmo.1
  have kmmA := Xc.setX (c' := .inr (12, (.int 0 :: .int (nI fd) :: .int mwr :: .int (nI K9) :: .int (nI KL) :: .ref moc :: .ref msT :: .ref mrV :: .ref msP :: .int mqs :: .ref mrA :: .ref mbA :: .ref mwA :: .ref mhA :: .ref mfA :: .ref mpA :: .ref mxA :: .ref myA :: .ref mmA :: .ref mqA :: .ref mzA :: .ref mwy :: .ref mfd :: .int msz :: .int (nI cz) :: .int mch :: .int mft :: .int mpt :: .int mdp :: .int mvd :: .long mnw :: .int mmk :: []))) kmmA hg_1 (fun e => hx_mo_mmA.symm (congrArg Prod.fst e))
  have kmrA := Xc.setX (c' := .inr (12, (.int 0 :: .int (nI fd) :: .int mwr :: .int (nI K9) :: .int (nI KL) :: .ref moc :: .ref msT :: .ref mrV :: .ref msP :: .int mqs :: .ref mrA :: .ref mbA :: .ref mwA :: .ref mhA :: .ref mfA :: .ref mpA :: .ref mxA :: .ref myA :: .ref mmA :: .ref mqA :: .ref mzA :: .ref mwy :: .ref mfd :: .int msz :: .int (nI cz) :: .int mch :: .int mft :: .int mpt :: .int mdp :: .int mvd :: .long mnw :: .int mmk :: []))) kmrA hg_1 (fun e => hx_mo_mrA.symm (congrArg Prod.fst e))
  have kmwy := Xc.setX (c' := .inr (12, (.int 0 :: .int (nI fd) :: .int mwr :: .int (nI K9) :: .int (nI KL) :: .ref moc :: .ref msT :: .ref mrV :: .ref msP :: .int mqs :: .ref mrA :: .ref mbA :: .ref mwA :: .ref mhA :: .ref mfA :: .ref mpA :: .ref mxA :: .ref myA :: .ref mmA :: .ref mqA :: .ref mzA :: .ref mwy :: .ref mfd :: .int msz :: .int (nI cz) :: .int mch :: .int mft :: .int mpt :: .int mdp :: .int mvd :: .long mnw :: .int mmk :: []))) kmwy hg_1 (fun e => hx_mo_mwy.symm (congrArg Prod.fst e))
  have kmsT := Xc.setX (c' := .inr (12, (.int 0 :: .int (nI fd) :: .int mwr :: .int (nI K9) :: .int (nI KL) :: .ref moc :: .ref msT :: .ref mrV :: .ref msP :: .int mqs :: .ref mrA :: .ref mbA :: .ref mwA :: .ref mhA :: .ref mfA :: .ref mpA :: .ref mxA :: .ref myA :: .ref mmA :: .ref mqA :: .ref mzA :: .ref mwy :: .ref mfd :: .int msz :: .int (nI cz) :: .int mch :: .int mft :: .int mpt :: .int mdp :: .int mvd :: .long mnw :: .int mmk :: []))) kmsT hg_1 (fun e => hx_mo_msT.symm (congrArg Prod.fst e))
  have kmrV := Xc.setX (c' := .inr (12, (.int 0 :: .int (nI fd) :: .int mwr :: .int (nI K9) :: .int (nI KL) :: .ref moc :: .ref msT :: .ref mrV :: .ref msP :: .int mqs :: .ref mrA :: .ref mbA :: .ref mwA :: .ref mhA :: .ref mfA :: .ref mpA :: .ref mxA :: .ref myA :: .ref mmA :: .ref mqA :: .ref mzA :: .ref mwy :: .ref mfd :: .int msz :: .int (nI cz) :: .int mch :: .int mft :: .int mpt :: .int mdp :: .int mvd :: .long mnw :: .int mmk :: []))) kmrV hg_1 (fun e => hx_mo_mrV.symm (congrArg Prod.fst e))
  have kmfd := Xc.setX (c' := .inr (12, (.int 0 :: .int (nI fd) :: .int mwr :: .int (nI K9) :: .int (nI KL) :: .ref moc :: .ref msT :: .ref mrV :: .ref msP :: .int mqs :: .ref mrA :: .ref mbA :: .ref mwA :: .ref mhA :: .ref mfA :: .ref mpA :: .ref mxA :: .ref myA :: .ref mmA :: .ref mqA :: .ref mzA :: .ref mwy :: .ref mfd :: .int msz :: .int (nI cz) :: .int mch :: .int mft :: .int mpt :: .int mdp :: .int mvd :: .long mnw :: .int mmk :: []))) kmfd hg_1 (fun e => hx_mo_mfd.symm (congrArg Prod.fst e))
  have hFR := hFR.tr (FL.set (Ad := Ad) (X := [mo, mmA, mrA, mwy, mfd]) (c' := .inr (12, (.int 0 :: .int (nI fd) :: .int mwr :: .int (nI K9) :: .int (nI KL) :: .ref moc :: .ref msT :: .ref mrV :: .ref msP :: .int mqs :: .ref mrA :: .ref mbA :: .ref mwA :: .ref mhA :: .ref mfA :: .ref mpA :: .ref mxA :: .ref myA :: .ref mmA :: .ref mqA :: .ref mzA :: .ref mwy :: .ref mfd :: .int msz :: .int (nI cz) :: .int mch :: .int mft :: .int mpt :: .int mdp :: .int mvd :: .long mnw :: .int mmk :: []))) hg_1 (by simp))
  have hg_1 := set_here (c' := .inr (12, (.int 0 :: .int (nI fd) :: .int mwr :: .int (nI K9) :: .int (nI KL) :: .ref moc :: .ref msT :: .ref mrV :: .ref msP :: .int mqs :: .ref mrA :: .ref mbA :: .ref mwA :: .ref mhA :: .ref mfA :: .ref mpA :: .ref mxA :: .ref myA :: .ref mmA :: .ref mqA :: .ref mzA :: .ref mwy :: .ref mfd :: .int msz :: .int (nI cz) :: .int mch :: .int mft :: .int mpt :: .int mdp :: .int mvd :: .long mnw :: .int mmk :: []))) hg_1
  have kmo : Xc Ad mo (.inr (12, (.int 0 :: .int (nI fd) :: .int mwr :: .int (nI K9) :: .int (nI KL) :: .ref moc :: .ref msT :: .ref mrV :: .ref msP :: .int mqs :: .ref mrA :: .ref mbA :: .ref mwA :: .ref mhA :: .ref mfA :: .ref mpA :: .ref mxA :: .ref myA :: .ref mmA :: .ref mqA :: .ref mzA :: .ref mwy :: .ref mfd :: .int msz :: .int (nI cz) :: .int mch :: .int mft :: .int mpt :: .int mdp :: .int mvd :: .long mnw :: .int mmk :: []))) (G.set i_1 (mo, .inr (12, (.int 0 :: .int (nI fd) :: .int mwr :: .int (nI K9) :: .int (nI KL) :: .ref moc :: .ref msT :: .ref mrV :: .ref msP :: .int mqs :: .ref mrA :: .ref mbA :: .ref mwA :: .ref mhA :: .ref mfA :: .ref mpA :: .ref mxA :: .ref myA :: .ref mmA :: .ref mqA :: .ref mzA :: .ref mwy :: .ref mfd :: .int msz :: .int (nI cz) :: .int mch :: .int mft :: .int mpt :: .int mdp :: .int mvd :: .long mnw :: .int mmk :: [])))) := ⟨kmo.1, List.mem_of_getElem? hg_1⟩
  have hD := hD3
  clear hD3 hD2
  generalize G.set i_1 (mo, .inr (12, (.int 0 :: .int (nI fd) :: .int mwr :: .int (nI K9) :: .int (nI KL) :: .ref moc :: .ref msT :: .ref mrV :: .ref msP :: .int mqs :: .ref mrA :: .ref mbA :: .ref mwA :: .ref mhA :: .ref mfA :: .ref mpA :: .ref mxA :: .ref myA :: .ref mmA :: .ref mqA :: .ref mzA :: .ref mwy :: .ref mfd :: .int msz :: .int (nI cz) :: .int mch :: .int mft :: .int mpt :: .int mdp :: .int mvd :: .long mnw :: .int mmk :: []))) = G_2 at hP hD hTy hFR kmo kmmA kmrA kmwy kmsT kmrV kmfd hg_1
  obtain ⟨cX_3, eX_3⟩ : ∃ z : va_E, z = .inr (12, (.int 0 :: .int (nI fd) :: .int mwr :: .int (nI K9) :: .int (nI KL) :: .ref moc :: .ref msT :: .ref mrV :: .ref msP :: .int mqs :: .ref mrA :: .ref mbA :: .ref mwA :: .ref mhA :: .ref mfA :: .ref mpA :: .ref mxA :: .ref myA :: .ref mmA :: .ref mqA :: .ref mzA :: .ref mwy :: .ref mfd :: .int msz :: .int (nI cz) :: .int mch :: .int mft :: .int mpt :: .int mdp :: .int mvd :: .long mnw :: .int mmk :: [])) := ⟨_, rfl⟩
  rw [← eX_3] at kmo
  refine lv_aload_n hx hb d_Model_validate_5 rfl (lv_at hl 0 rfl) ?_
  refine lv_iload hx hb d_Model_validate_6 (lv_at hl 3 rfl) ?_
  refine lv_iconst (v := 1) hx hb d_Model_validate_8 (by decide) ?_
  refine lv_bipush (v := 16) hx hb d_Model_validate_9 (by decide) ?_
  refine vp_callSi (pu_callS (As := [.int (nI m8), .int 1, .int 16]) (rest := [.ref mo]) ⟨hx, hb, hml, hown, hts⟩ tbin (c_Model_in l dC dI sb (nI m8) (1 : Int32) (16 : Int32)) q9_68 q8_116 q1_9 q8_117 (n := 3) (by decide +kernel) rfl ⟨rfl, rfl⟩ ⟨Nat.le_of_ble_eq_true rfl, Nat.le_of_ble_eq_true rfl⟩ ⟨Nat.le_of_ble_eq_true rfl, Nat.le_of_ble_eq_true rfl⟩ hN (hT0.keep hS hAs) hK hP [] (by simp only [List.filterMap_cons, List.filterMap_nil]) [] rfl hl.1 rfl (Nat.le_of_ble_eq_true rfl) d_Model_validate_11) (fun r11 hr11 => ?_)
  refine lv_if_ne (tgt := 21) hx hb d_Model_validate_14 (by decide) (fun c14 => ?_) (fun c14 => ?_)
  · have p14 : ¬ (r11 = (0 : Int32)) := c14
    refine lv_iconst (v := 0) hx hb d_Model_validate_21 (by decide) ?_
    refine lv_iconst (v := 1) hx hb d_Model_validate_22 (by decide) ?_
    have hFc := va_free (wc := G_2) hD hS hA (List.range G_2.length) (rg_is _)
    refine va_calli (mu_runV (As := [.int 0, .int 1]) (rest := []) ⟨hx, hb, hml, hown, hts⟩ tbin (m_Model_fails_0 l dC dI sb γ κ Ad τ gT G_2 mo _ _ _ _ _ _ _ _ _ _ _ _ _ _ _ _ _ _ _ _ _ _ _ _ _ _ _ _ _ _ _ _ H2.size hTy (by have h9 := kmo; rw [eX_3] at h9; exact h9) ) q8_79 q8_81 qp_36 q1_9 q8_82 (n := 2) (by decide +kernel) rfl ⟨rfl, rfl⟩ ⟨Nat.le_of_ble_eq_true rfl, Nat.le_of_ble_eq_true rfl⟩ ⟨Nat.le_of_ble_eq_true rfl, Nat.le_of_ble_eq_true rfl⟩ hN (hT0.keep hS hAs) hAs (Nat.le_trans hB0 hS.1) hK hP hD (List.range G_2.length) (rg_nd _) (rg_is _) [0, 1, 2, 3, 4] rfl i_1 12 hg_1 rfl rfl hl.1 rfl (Nat.le_of_ble_eq_true rfl) d_Model_validate_23) hS (fun q _ h => hFc q h) hFc (fun r23 G_4 tS H23 locs ht hvm hw23 hB hz1 hk1 hS => ?_)
    obtain ⟨hTy, hF9, hr23⟩ := hw23
    have kmo := kmo.fl hF9 (q_nmn)
    have kmmA := kmmA.fl hF9 (q_nmn)
    have kmrA := kmrA.fl hF9 (q_nmn)
    have kmwy := kmwy.fl hF9 (q_nmn)
    have kmsT := kmsT.fl hF9 (q_nmn)
    have kmrV := kmrV.fl hF9 (q_nmn)
    have kmfd := kmfd.fl hF9 (q_nmn)
    have hFR := hFR.tr (hF9.up (q_gan))
    obtain ⟨hP1, hK1, hD1⟩ := hB
    rw [ht] at hP1
    have hP : va_P (dC, dI) classes G_4 H23 := hP1
    have hD : va_D A G_4 := hD1.weaken (fun _ _ _ h => hFc _ h)
    subst hr23
    refine lv_if_ne (tgt := 38) hx hb d_Model_validate_26 (by decide) (fun c26 => ?_) (fun c26 => ?_)
    · exact absurd c26 (by decide)
    refine lv_aload_n hx hb d_Model_validate_29 rfl (lv_at hl 0 rfl) ?_
    refine lv_iload_n hx hb d_Model_validate_30 rfl (lv_at hl 1 rfl) ?_
    refine lv_iconst (v := 2) hx hb d_Model_validate_31 (by decide) ?_
    have hFc := va_free (wc := G_4) hD hS hA (List.range G_4.length) (rg_is _)
    obtain ⟨i_6, hg_6⟩ := List.getElem?_of_mem kmo.2
    rw [eX_3] at hg_6
    refine va_calli (mu_runV (As := [.int (nI k9), .int 2]) (rest := []) ⟨hx, hb, hml, hown, hts⟩ tbin (m_Model_noc_0 l dC dI sb γ κ Ad τ gT G_4 mo _ _ _ _ _ _ _ _ _ _ _ _ _ _ _ _ _ _ _ _ _ _ _ _ _ _ _ _ _ _ _ _ _ H23.size hTy (by have h9 := kmo; rw [eX_3] at h9; exact h9) hk9 hK9) q9_64 q9_66 qp_39 q1_9 q9_67 (n := 2) (by decide +kernel) rfl ⟨rfl, rfl⟩ ⟨Nat.le_of_ble_eq_true rfl, Nat.le_of_ble_eq_true rfl⟩ ⟨Nat.le_of_ble_eq_true rfl, Nat.le_of_ble_eq_true rfl⟩ hN (hT0.keep hS hAs) hAs (Nat.le_trans hB0 hS.1) hK hP hD (List.range G_4.length) (rg_nd _) (rg_is _) [0, 1, 2, 3, 4] rfl i_6 12 hg_6 rfl rfl hl.1 rfl (Nat.le_of_ble_eq_true rfl) d_Model_validate_32) hS (fun q _ h => hFc q h) hFc (fun r32 G_5 tS H32 locs ht hvm hw32 hB hz1 hk1 hS => ?_)
    obtain ⟨hTy, hF9, hr32⟩ := hw32
    have kmo := kmo.fl hF9 (q_nmn)
    have kmmA := kmmA.fl hF9 (q_nmn)
    have kmrA := kmrA.fl hF9 (q_nmn)
    have kmwy := kmwy.fl hF9 (q_nmn)
    have kmsT := kmsT.fl hF9 (q_nmn)
    have kmrV := kmrV.fl hF9 (q_nmn)
    have kmfd := kmfd.fl hF9 (q_nmn)
    have hFR := hFR.tr (hF9.up (q_gan))
    obtain ⟨hP1, hK1, hD1⟩ := hB
    rw [ht] at hP1
    have hP : va_P (dC, dI) classes G_5 H32 := hP1
    have hD : va_D A G_5 := hD1.weaken (fun _ _ _ h => hFc _ h)
    subst hr32
    refine lv_if_eq (tgt := 40) hx hb d_Model_validate_35 (by decide) (fun c35 => ?_) (fun c35 => ?_)
    rotate_left
    · exact absurd c35 (by decide)
    refine lv_aload_n hx hb d_Model_validate_40 rfl (lv_at hl 0 rfl) ?_
    refine lv_lload_n hx hb d_Model_validate_41 rfl (lv_at hl 2 rfl) ?_
    obtain ⟨i_7, hg_7⟩ := List.getElem?_of_mem kmo.2
    rw [eX_3] at hg_7
    refine va_put (v := .long tm) (ty := .long) hx hb htb i_Model t_Model t_Model_ok n_Model hown hK hP hD hS i_7 hg_7 rfl 30 (by decide) (htb _ q8_4) (fun _ h9 => h9) rfl (by decide +kernel) rfl rfl (Nat.le_of_ble_eq_true rfl) d_Model_validate_42 (fun H42 locs hP hD2 hS => ?_)
    have hP : va_P (dC, dI) classes (G_5.set i_7 (mo, .inr (12, (.int 0 :: .int (nI fd) :: .int mwr :: .int (nI K9) :: .int (nI KL) :: .ref moc :: .ref msT :: .ref mrV :: .ref msP :: .int mqs :: .ref mrA :: .ref mbA :: .ref mwA :: .ref mhA :: .ref mfA :: .ref mpA :: .ref mxA :: .ref myA :: .ref mmA :: .ref mqA :: .ref mzA :: .ref mwy :: .ref mfd :: .int msz :: .int (nI cz) :: .int mch :: .int mft :: .int mpt :: .int mdp :: .int mvd :: .long tm :: .int mmk :: [])))) H42 := hP
    have hD3 : va_D A (G_5.set i_7 (mo, .inr (12, (.int 0 :: .int (nI fd) :: .int mwr :: .int (nI K9) :: .int (nI KL) :: .ref moc :: .ref msT :: .ref mrV :: .ref msP :: .int mqs :: .ref mrA :: .ref mbA :: .ref mwA :: .ref mhA :: .ref mfA :: .ref mpA :: .ref mxA :: .ref myA :: .ref mmA :: .ref mqA :: .ref mzA :: .ref mwy :: .ref mfd :: .int msz :: .int (nI cz) :: .int mch :: .int mft :: .int mpt :: .int mdp :: .int mvd :: .long tm :: .int mmk :: [])))) := hD2
    have hTy := TR.setX (c' := .inr (12, (.int 0 :: .int (nI fd) :: .int mwr :: .int (nI K9) :: .int (nI KL) :: .ref moc :: .ref msT :: .ref mrV :: .ref msP :: .int mqs :: .ref mrA :: .ref mbA :: .ref mwA :: .ref mhA :: .ref mfA :: .ref mpA :: .ref mxA :: .ref myA :: .ref mmA :: .ref mqA :: .ref mzA :: .ref mwy :: .ref mfd :: .int msz :: .int (nI cz) :: .int mch :: .int mft :: .int mpt :: .int mdp :: .int mvd :: .long tm :: .int mmk :: []))) hTy hg_7 kmo.1
    have kmmA := Xc.setX (c' := .inr (12, (.int 0 :: .int (nI fd) :: .int mwr :: .int (nI K9) :: .int (nI KL) :: .ref moc :: .ref msT :: .ref mrV :: .ref msP :: .int mqs :: .ref mrA :: .ref mbA :: .ref mwA :: .ref mhA :: .ref mfA :: .ref mpA :: .ref mxA :: .ref myA :: .ref mmA :: .ref mqA :: .ref mzA :: .ref mwy :: .ref mfd :: .int msz :: .int (nI cz) :: .int mch :: .int mft :: .int mpt :: .int mdp :: .int mvd :: .long tm :: .int mmk :: []))) kmmA hg_7 (fun e => hx_mo_mmA.symm (congrArg Prod.fst e))
    have kmrA := Xc.setX (c' := .inr (12, (.int 0 :: .int (nI fd) :: .int mwr :: .int (nI K9) :: .int (nI KL) :: .ref moc :: .ref msT :: .ref mrV :: .ref msP :: .int mqs :: .ref mrA :: .ref mbA :: .ref mwA :: .ref mhA :: .ref mfA :: .ref mpA :: .ref mxA :: .ref myA :: .ref mmA :: .ref mqA :: .ref mzA :: .ref mwy :: .ref mfd :: .int msz :: .int (nI cz) :: .int mch :: .int mft :: .int mpt :: .int mdp :: .int mvd :: .long tm :: .int mmk :: []))) kmrA hg_7 (fun e => hx_mo_mrA.symm (congrArg Prod.fst e))
    have kmwy := Xc.setX (c' := .inr (12, (.int 0 :: .int (nI fd) :: .int mwr :: .int (nI K9) :: .int (nI KL) :: .ref moc :: .ref msT :: .ref mrV :: .ref msP :: .int mqs :: .ref mrA :: .ref mbA :: .ref mwA :: .ref mhA :: .ref mfA :: .ref mpA :: .ref mxA :: .ref myA :: .ref mmA :: .ref mqA :: .ref mzA :: .ref mwy :: .ref mfd :: .int msz :: .int (nI cz) :: .int mch :: .int mft :: .int mpt :: .int mdp :: .int mvd :: .long tm :: .int mmk :: []))) kmwy hg_7 (fun e => hx_mo_mwy.symm (congrArg Prod.fst e))
    have kmsT := Xc.setX (c' := .inr (12, (.int 0 :: .int (nI fd) :: .int mwr :: .int (nI K9) :: .int (nI KL) :: .ref moc :: .ref msT :: .ref mrV :: .ref msP :: .int mqs :: .ref mrA :: .ref mbA :: .ref mwA :: .ref mhA :: .ref mfA :: .ref mpA :: .ref mxA :: .ref myA :: .ref mmA :: .ref mqA :: .ref mzA :: .ref mwy :: .ref mfd :: .int msz :: .int (nI cz) :: .int mch :: .int mft :: .int mpt :: .int mdp :: .int mvd :: .long tm :: .int mmk :: []))) kmsT hg_7 (fun e => hx_mo_msT.symm (congrArg Prod.fst e))
    have kmrV := Xc.setX (c' := .inr (12, (.int 0 :: .int (nI fd) :: .int mwr :: .int (nI K9) :: .int (nI KL) :: .ref moc :: .ref msT :: .ref mrV :: .ref msP :: .int mqs :: .ref mrA :: .ref mbA :: .ref mwA :: .ref mhA :: .ref mfA :: .ref mpA :: .ref mxA :: .ref myA :: .ref mmA :: .ref mqA :: .ref mzA :: .ref mwy :: .ref mfd :: .int msz :: .int (nI cz) :: .int mch :: .int mft :: .int mpt :: .int mdp :: .int mvd :: .long tm :: .int mmk :: []))) kmrV hg_7 (fun e => hx_mo_mrV.symm (congrArg Prod.fst e))
    have kmfd := Xc.setX (c' := .inr (12, (.int 0 :: .int (nI fd) :: .int mwr :: .int (nI K9) :: .int (nI KL) :: .ref moc :: .ref msT :: .ref mrV :: .ref msP :: .int mqs :: .ref mrA :: .ref mbA :: .ref mwA :: .ref mhA :: .ref mfA :: .ref mpA :: .ref mxA :: .ref myA :: .ref mmA :: .ref mqA :: .ref mzA :: .ref mwy :: .ref mfd :: .int msz :: .int (nI cz) :: .int mch :: .int mft :: .int mpt :: .int mdp :: .int mvd :: .long tm :: .int mmk :: []))) kmfd hg_7 (fun e => hx_mo_mfd.symm (congrArg Prod.fst e))
    have hFR := hFR.tr (FL.set (Ad := Ad) (X := [mo, mmA, mrA, mwy, mfd]) (c' := .inr (12, (.int 0 :: .int (nI fd) :: .int mwr :: .int (nI K9) :: .int (nI KL) :: .ref moc :: .ref msT :: .ref mrV :: .ref msP :: .int mqs :: .ref mrA :: .ref mbA :: .ref mwA :: .ref mhA :: .ref mfA :: .ref mpA :: .ref mxA :: .ref myA :: .ref mmA :: .ref mqA :: .ref mzA :: .ref mwy :: .ref mfd :: .int msz :: .int (nI cz) :: .int mch :: .int mft :: .int mpt :: .int mdp :: .int mvd :: .long tm :: .int mmk :: []))) hg_7 (by simp))
    have hg_7 := set_here (c' := .inr (12, (.int 0 :: .int (nI fd) :: .int mwr :: .int (nI K9) :: .int (nI KL) :: .ref moc :: .ref msT :: .ref mrV :: .ref msP :: .int mqs :: .ref mrA :: .ref mbA :: .ref mwA :: .ref mhA :: .ref mfA :: .ref mpA :: .ref mxA :: .ref myA :: .ref mmA :: .ref mqA :: .ref mzA :: .ref mwy :: .ref mfd :: .int msz :: .int (nI cz) :: .int mch :: .int mft :: .int mpt :: .int mdp :: .int mvd :: .long tm :: .int mmk :: []))) hg_7
    have kmo : Xc Ad mo (.inr (12, (.int 0 :: .int (nI fd) :: .int mwr :: .int (nI K9) :: .int (nI KL) :: .ref moc :: .ref msT :: .ref mrV :: .ref msP :: .int mqs :: .ref mrA :: .ref mbA :: .ref mwA :: .ref mhA :: .ref mfA :: .ref mpA :: .ref mxA :: .ref myA :: .ref mmA :: .ref mqA :: .ref mzA :: .ref mwy :: .ref mfd :: .int msz :: .int (nI cz) :: .int mch :: .int mft :: .int mpt :: .int mdp :: .int mvd :: .long tm :: .int mmk :: []))) (G_5.set i_7 (mo, .inr (12, (.int 0 :: .int (nI fd) :: .int mwr :: .int (nI K9) :: .int (nI KL) :: .ref moc :: .ref msT :: .ref mrV :: .ref msP :: .int mqs :: .ref mrA :: .ref mbA :: .ref mwA :: .ref mhA :: .ref mfA :: .ref mpA :: .ref mxA :: .ref myA :: .ref mmA :: .ref mqA :: .ref mzA :: .ref mwy :: .ref mfd :: .int msz :: .int (nI cz) :: .int mch :: .int mft :: .int mpt :: .int mdp :: .int mvd :: .long tm :: .int mmk :: [])))) := ⟨kmo.1, List.mem_of_getElem? hg_7⟩
    have hD := hD3
    clear hD3 hD2
    generalize G_5.set i_7 (mo, .inr (12, (.int 0 :: .int (nI fd) :: .int mwr :: .int (nI K9) :: .int (nI KL) :: .ref moc :: .ref msT :: .ref mrV :: .ref msP :: .int mqs :: .ref mrA :: .ref mbA :: .ref mwA :: .ref mhA :: .ref mfA :: .ref mpA :: .ref mxA :: .ref myA :: .ref mmA :: .ref mqA :: .ref mzA :: .ref mwy :: .ref mfd :: .int msz :: .int (nI cz) :: .int mch :: .int mft :: .int mpt :: .int mdp :: .int mvd :: .long tm :: .int mmk :: []))) = G_8 at hP hD hTy hFR kmo kmmA kmrA kmwy kmsT kmrV kmfd hg_7
    obtain ⟨cX_9, eX_9⟩ : ∃ z : va_E, z = .inr (12, (.int 0 :: .int (nI fd) :: .int mwr :: .int (nI K9) :: .int (nI KL) :: .ref moc :: .ref msT :: .ref mrV :: .ref msP :: .int mqs :: .ref mrA :: .ref mbA :: .ref mwA :: .ref mhA :: .ref mfA :: .ref mpA :: .ref mxA :: .ref myA :: .ref mmA :: .ref mqA :: .ref mzA :: .ref mwy :: .ref mfd :: .int msz :: .int (nI cz) :: .int mch :: .int mft :: .int mpt :: .int mdp :: .int mvd :: .long tm :: .int mmk :: [])) := ⟨_, rfl⟩
    rw [← eX_9] at kmo
    refine lv_aload_n hx hb d_Model_validate_45 rfl (lv_at hl 0 rfl) ?_
    refine lv_iload hx hb d_Model_validate_46 (lv_at hl 3 rfl) ?_
    refine va_put (v := .int (nI m8)) (ty := .int) hx hb htb i_Model t_Model t_Model_ok n_Model hown hK hP hD hS i_7 hg_7 rfl 28 (by decide) (htb _ q8_2) (fun _ h9 => h9) rfl (by decide +kernel) rfl rfl (Nat.le_of_ble_eq_true rfl) d_Model_validate_48 (fun H48 locs hP hD2 hS => ?_)
    have hP : va_P (dC, dI) classes (G_8.set i_7 (mo, .inr (12, (.int 0 :: .int (nI fd) :: .int mwr :: .int (nI K9) :: .int (nI KL) :: .ref moc :: .ref msT :: .ref mrV :: .ref msP :: .int mqs :: .ref mrA :: .ref mbA :: .ref mwA :: .ref mhA :: .ref mfA :: .ref mpA :: .ref mxA :: .ref myA :: .ref mmA :: .ref mqA :: .ref mzA :: .ref mwy :: .ref mfd :: .int msz :: .int (nI cz) :: .int mch :: .int mft :: .int mpt :: .int (nI m8) :: .int mvd :: .long tm :: .int mmk :: [])))) H48 := hP
    have hD3 : va_D A (G_8.set i_7 (mo, .inr (12, (.int 0 :: .int (nI fd) :: .int mwr :: .int (nI K9) :: .int (nI KL) :: .ref moc :: .ref msT :: .ref mrV :: .ref msP :: .int mqs :: .ref mrA :: .ref mbA :: .ref mwA :: .ref mhA :: .ref mfA :: .ref mpA :: .ref mxA :: .ref myA :: .ref mmA :: .ref mqA :: .ref mzA :: .ref mwy :: .ref mfd :: .int msz :: .int (nI cz) :: .int mch :: .int mft :: .int mpt :: .int (nI m8) :: .int mvd :: .long tm :: .int mmk :: [])))) := hD2
    have hTy := TR.setX (c' := .inr (12, (.int 0 :: .int (nI fd) :: .int mwr :: .int (nI K9) :: .int (nI KL) :: .ref moc :: .ref msT :: .ref mrV :: .ref msP :: .int mqs :: .ref mrA :: .ref mbA :: .ref mwA :: .ref mhA :: .ref mfA :: .ref mpA :: .ref mxA :: .ref myA :: .ref mmA :: .ref mqA :: .ref mzA :: .ref mwy :: .ref mfd :: .int msz :: .int (nI cz) :: .int mch :: .int mft :: .int mpt :: .int (nI m8) :: .int mvd :: .long tm :: .int mmk :: []))) hTy hg_7 kmo.1
    have kmmA := Xc.setX (c' := .inr (12, (.int 0 :: .int (nI fd) :: .int mwr :: .int (nI K9) :: .int (nI KL) :: .ref moc :: .ref msT :: .ref mrV :: .ref msP :: .int mqs :: .ref mrA :: .ref mbA :: .ref mwA :: .ref mhA :: .ref mfA :: .ref mpA :: .ref mxA :: .ref myA :: .ref mmA :: .ref mqA :: .ref mzA :: .ref mwy :: .ref mfd :: .int msz :: .int (nI cz) :: .int mch :: .int mft :: .int mpt :: .int (nI m8) :: .int mvd :: .long tm :: .int mmk :: []))) kmmA hg_7 (fun e => hx_mo_mmA.symm (congrArg Prod.fst e))
    have kmrA := Xc.setX (c' := .inr (12, (.int 0 :: .int (nI fd) :: .int mwr :: .int (nI K9) :: .int (nI KL) :: .ref moc :: .ref msT :: .ref mrV :: .ref msP :: .int mqs :: .ref mrA :: .ref mbA :: .ref mwA :: .ref mhA :: .ref mfA :: .ref mpA :: .ref mxA :: .ref myA :: .ref mmA :: .ref mqA :: .ref mzA :: .ref mwy :: .ref mfd :: .int msz :: .int (nI cz) :: .int mch :: .int mft :: .int mpt :: .int (nI m8) :: .int mvd :: .long tm :: .int mmk :: []))) kmrA hg_7 (fun e => hx_mo_mrA.symm (congrArg Prod.fst e))
    have kmwy := Xc.setX (c' := .inr (12, (.int 0 :: .int (nI fd) :: .int mwr :: .int (nI K9) :: .int (nI KL) :: .ref moc :: .ref msT :: .ref mrV :: .ref msP :: .int mqs :: .ref mrA :: .ref mbA :: .ref mwA :: .ref mhA :: .ref mfA :: .ref mpA :: .ref mxA :: .ref myA :: .ref mmA :: .ref mqA :: .ref mzA :: .ref mwy :: .ref mfd :: .int msz :: .int (nI cz) :: .int mch :: .int mft :: .int mpt :: .int (nI m8) :: .int mvd :: .long tm :: .int mmk :: []))) kmwy hg_7 (fun e => hx_mo_mwy.symm (congrArg Prod.fst e))
    have kmsT := Xc.setX (c' := .inr (12, (.int 0 :: .int (nI fd) :: .int mwr :: .int (nI K9) :: .int (nI KL) :: .ref moc :: .ref msT :: .ref mrV :: .ref msP :: .int mqs :: .ref mrA :: .ref mbA :: .ref mwA :: .ref mhA :: .ref mfA :: .ref mpA :: .ref mxA :: .ref myA :: .ref mmA :: .ref mqA :: .ref mzA :: .ref mwy :: .ref mfd :: .int msz :: .int (nI cz) :: .int mch :: .int mft :: .int mpt :: .int (nI m8) :: .int mvd :: .long tm :: .int mmk :: []))) kmsT hg_7 (fun e => hx_mo_msT.symm (congrArg Prod.fst e))
    have kmrV := Xc.setX (c' := .inr (12, (.int 0 :: .int (nI fd) :: .int mwr :: .int (nI K9) :: .int (nI KL) :: .ref moc :: .ref msT :: .ref mrV :: .ref msP :: .int mqs :: .ref mrA :: .ref mbA :: .ref mwA :: .ref mhA :: .ref mfA :: .ref mpA :: .ref mxA :: .ref myA :: .ref mmA :: .ref mqA :: .ref mzA :: .ref mwy :: .ref mfd :: .int msz :: .int (nI cz) :: .int mch :: .int mft :: .int mpt :: .int (nI m8) :: .int mvd :: .long tm :: .int mmk :: []))) kmrV hg_7 (fun e => hx_mo_mrV.symm (congrArg Prod.fst e))
    have kmfd := Xc.setX (c' := .inr (12, (.int 0 :: .int (nI fd) :: .int mwr :: .int (nI K9) :: .int (nI KL) :: .ref moc :: .ref msT :: .ref mrV :: .ref msP :: .int mqs :: .ref mrA :: .ref mbA :: .ref mwA :: .ref mhA :: .ref mfA :: .ref mpA :: .ref mxA :: .ref myA :: .ref mmA :: .ref mqA :: .ref mzA :: .ref mwy :: .ref mfd :: .int msz :: .int (nI cz) :: .int mch :: .int mft :: .int mpt :: .int (nI m8) :: .int mvd :: .long tm :: .int mmk :: []))) kmfd hg_7 (fun e => hx_mo_mfd.symm (congrArg Prod.fst e))
    have hFR := hFR.tr (FL.set (Ad := Ad) (X := [mo, mmA, mrA, mwy, mfd]) (c' := .inr (12, (.int 0 :: .int (nI fd) :: .int mwr :: .int (nI K9) :: .int (nI KL) :: .ref moc :: .ref msT :: .ref mrV :: .ref msP :: .int mqs :: .ref mrA :: .ref mbA :: .ref mwA :: .ref mhA :: .ref mfA :: .ref mpA :: .ref mxA :: .ref myA :: .ref mmA :: .ref mqA :: .ref mzA :: .ref mwy :: .ref mfd :: .int msz :: .int (nI cz) :: .int mch :: .int mft :: .int mpt :: .int (nI m8) :: .int mvd :: .long tm :: .int mmk :: []))) hg_7 (by simp))
    have hg_7 := set_here (c' := .inr (12, (.int 0 :: .int (nI fd) :: .int mwr :: .int (nI K9) :: .int (nI KL) :: .ref moc :: .ref msT :: .ref mrV :: .ref msP :: .int mqs :: .ref mrA :: .ref mbA :: .ref mwA :: .ref mhA :: .ref mfA :: .ref mpA :: .ref mxA :: .ref myA :: .ref mmA :: .ref mqA :: .ref mzA :: .ref mwy :: .ref mfd :: .int msz :: .int (nI cz) :: .int mch :: .int mft :: .int mpt :: .int (nI m8) :: .int mvd :: .long tm :: .int mmk :: []))) hg_7
    have kmo : Xc Ad mo (.inr (12, (.int 0 :: .int (nI fd) :: .int mwr :: .int (nI K9) :: .int (nI KL) :: .ref moc :: .ref msT :: .ref mrV :: .ref msP :: .int mqs :: .ref mrA :: .ref mbA :: .ref mwA :: .ref mhA :: .ref mfA :: .ref mpA :: .ref mxA :: .ref myA :: .ref mmA :: .ref mqA :: .ref mzA :: .ref mwy :: .ref mfd :: .int msz :: .int (nI cz) :: .int mch :: .int mft :: .int mpt :: .int (nI m8) :: .int mvd :: .long tm :: .int mmk :: []))) (G_8.set i_7 (mo, .inr (12, (.int 0 :: .int (nI fd) :: .int mwr :: .int (nI K9) :: .int (nI KL) :: .ref moc :: .ref msT :: .ref mrV :: .ref msP :: .int mqs :: .ref mrA :: .ref mbA :: .ref mwA :: .ref mhA :: .ref mfA :: .ref mpA :: .ref mxA :: .ref myA :: .ref mmA :: .ref mqA :: .ref mzA :: .ref mwy :: .ref mfd :: .int msz :: .int (nI cz) :: .int mch :: .int mft :: .int mpt :: .int (nI m8) :: .int mvd :: .long tm :: .int mmk :: [])))) := ⟨kmo.1, List.mem_of_getElem? hg_7⟩
    have hD := hD3
    clear hD3 hD2
    generalize G_8.set i_7 (mo, .inr (12, (.int 0 :: .int (nI fd) :: .int mwr :: .int (nI K9) :: .int (nI KL) :: .ref moc :: .ref msT :: .ref mrV :: .ref msP :: .int mqs :: .ref mrA :: .ref mbA :: .ref mwA :: .ref mhA :: .ref mfA :: .ref mpA :: .ref mxA :: .ref myA :: .ref mmA :: .ref mqA :: .ref mzA :: .ref mwy :: .ref mfd :: .int msz :: .int (nI cz) :: .int mch :: .int mft :: .int mpt :: .int (nI m8) :: .int mvd :: .long tm :: .int mmk :: []))) = G_10 at hP hD hTy hFR kmo kmmA kmrA kmwy kmsT kmrV kmfd hg_7
    obtain ⟨cX_11, eX_11⟩ : ∃ z : va_E, z = .inr (12, (.int 0 :: .int (nI fd) :: .int mwr :: .int (nI K9) :: .int (nI KL) :: .ref moc :: .ref msT :: .ref mrV :: .ref msP :: .int mqs :: .ref mrA :: .ref mbA :: .ref mwA :: .ref mhA :: .ref mfA :: .ref mpA :: .ref mxA :: .ref myA :: .ref mmA :: .ref mqA :: .ref mzA :: .ref mwy :: .ref mfd :: .int msz :: .int (nI cz) :: .int mch :: .int mft :: .int mpt :: .int (nI m8) :: .int mvd :: .long tm :: .int mmk :: [])) := ⟨_, rfl⟩
    rw [← eX_11] at kmo
    refine lv_aload_n hx hb d_Model_validate_51 rfl (lv_at hl 0 rfl) ?_
    refine lv_iload hx hb d_Model_validate_52 (lv_at hl 4 rfl) ?_
    refine va_put (v := .int 0) (ty := .boolean) hx hb htb i_Model t_Model t_Model_ok n_Model hown hK hP hD hS i_7 hg_7 rfl 31 (by decide) (htb _ q8_5) (fun _ h9 => h9) rfl (by decide +kernel) rfl rfl (Nat.le_of_ble_eq_true rfl) d_Model_validate_54 (fun H54 locs hP hD2 hS => ?_)
    have hP : va_P (dC, dI) classes (G_10.set i_7 (mo, .inr (12, (.int 0 :: .int (nI fd) :: .int mwr :: .int (nI K9) :: .int (nI KL) :: .ref moc :: .ref msT :: .ref mrV :: .ref msP :: .int mqs :: .ref mrA :: .ref mbA :: .ref mwA :: .ref mhA :: .ref mfA :: .ref mpA :: .ref mxA :: .ref myA :: .ref mmA :: .ref mqA :: .ref mzA :: .ref mwy :: .ref mfd :: .int msz :: .int (nI cz) :: .int mch :: .int mft :: .int mpt :: .int (nI m8) :: .int mvd :: .long tm :: .int 0 :: [])))) H54 := hP
    have hD3 : va_D A (G_10.set i_7 (mo, .inr (12, (.int 0 :: .int (nI fd) :: .int mwr :: .int (nI K9) :: .int (nI KL) :: .ref moc :: .ref msT :: .ref mrV :: .ref msP :: .int mqs :: .ref mrA :: .ref mbA :: .ref mwA :: .ref mhA :: .ref mfA :: .ref mpA :: .ref mxA :: .ref myA :: .ref mmA :: .ref mqA :: .ref mzA :: .ref mwy :: .ref mfd :: .int msz :: .int (nI cz) :: .int mch :: .int mft :: .int mpt :: .int (nI m8) :: .int mvd :: .long tm :: .int 0 :: [])))) := hD2
    have hTy := TR.setX (c' := .inr (12, (.int 0 :: .int (nI fd) :: .int mwr :: .int (nI K9) :: .int (nI KL) :: .ref moc :: .ref msT :: .ref mrV :: .ref msP :: .int mqs :: .ref mrA :: .ref mbA :: .ref mwA :: .ref mhA :: .ref mfA :: .ref mpA :: .ref mxA :: .ref myA :: .ref mmA :: .ref mqA :: .ref mzA :: .ref mwy :: .ref mfd :: .int msz :: .int (nI cz) :: .int mch :: .int mft :: .int mpt :: .int (nI m8) :: .int mvd :: .long tm :: .int 0 :: []))) hTy hg_7 kmo.1
    have kmmA := Xc.setX (c' := .inr (12, (.int 0 :: .int (nI fd) :: .int mwr :: .int (nI K9) :: .int (nI KL) :: .ref moc :: .ref msT :: .ref mrV :: .ref msP :: .int mqs :: .ref mrA :: .ref mbA :: .ref mwA :: .ref mhA :: .ref mfA :: .ref mpA :: .ref mxA :: .ref myA :: .ref mmA :: .ref mqA :: .ref mzA :: .ref mwy :: .ref mfd :: .int msz :: .int (nI cz) :: .int mch :: .int mft :: .int mpt :: .int (nI m8) :: .int mvd :: .long tm :: .int 0 :: []))) kmmA hg_7 (fun e => hx_mo_mmA.symm (congrArg Prod.fst e))
    have kmrA := Xc.setX (c' := .inr (12, (.int 0 :: .int (nI fd) :: .int mwr :: .int (nI K9) :: .int (nI KL) :: .ref moc :: .ref msT :: .ref mrV :: .ref msP :: .int mqs :: .ref mrA :: .ref mbA :: .ref mwA :: .ref mhA :: .ref mfA :: .ref mpA :: .ref mxA :: .ref myA :: .ref mmA :: .ref mqA :: .ref mzA :: .ref mwy :: .ref mfd :: .int msz :: .int (nI cz) :: .int mch :: .int mft :: .int mpt :: .int (nI m8) :: .int mvd :: .long tm :: .int 0 :: []))) kmrA hg_7 (fun e => hx_mo_mrA.symm (congrArg Prod.fst e))
    have kmwy := Xc.setX (c' := .inr (12, (.int 0 :: .int (nI fd) :: .int mwr :: .int (nI K9) :: .int (nI KL) :: .ref moc :: .ref msT :: .ref mrV :: .ref msP :: .int mqs :: .ref mrA :: .ref mbA :: .ref mwA :: .ref mhA :: .ref mfA :: .ref mpA :: .ref mxA :: .ref myA :: .ref mmA :: .ref mqA :: .ref mzA :: .ref mwy :: .ref mfd :: .int msz :: .int (nI cz) :: .int mch :: .int mft :: .int mpt :: .int (nI m8) :: .int mvd :: .long tm :: .int 0 :: []))) kmwy hg_7 (fun e => hx_mo_mwy.symm (congrArg Prod.fst e))
    have kmsT := Xc.setX (c' := .inr (12, (.int 0 :: .int (nI fd) :: .int mwr :: .int (nI K9) :: .int (nI KL) :: .ref moc :: .ref msT :: .ref mrV :: .ref msP :: .int mqs :: .ref mrA :: .ref mbA :: .ref mwA :: .ref mhA :: .ref mfA :: .ref mpA :: .ref mxA :: .ref myA :: .ref mmA :: .ref mqA :: .ref mzA :: .ref mwy :: .ref mfd :: .int msz :: .int (nI cz) :: .int mch :: .int mft :: .int mpt :: .int (nI m8) :: .int mvd :: .long tm :: .int 0 :: []))) kmsT hg_7 (fun e => hx_mo_msT.symm (congrArg Prod.fst e))
    have kmrV := Xc.setX (c' := .inr (12, (.int 0 :: .int (nI fd) :: .int mwr :: .int (nI K9) :: .int (nI KL) :: .ref moc :: .ref msT :: .ref mrV :: .ref msP :: .int mqs :: .ref mrA :: .ref mbA :: .ref mwA :: .ref mhA :: .ref mfA :: .ref mpA :: .ref mxA :: .ref myA :: .ref mmA :: .ref mqA :: .ref mzA :: .ref mwy :: .ref mfd :: .int msz :: .int (nI cz) :: .int mch :: .int mft :: .int mpt :: .int (nI m8) :: .int mvd :: .long tm :: .int 0 :: []))) kmrV hg_7 (fun e => hx_mo_mrV.symm (congrArg Prod.fst e))
    have kmfd := Xc.setX (c' := .inr (12, (.int 0 :: .int (nI fd) :: .int mwr :: .int (nI K9) :: .int (nI KL) :: .ref moc :: .ref msT :: .ref mrV :: .ref msP :: .int mqs :: .ref mrA :: .ref mbA :: .ref mwA :: .ref mhA :: .ref mfA :: .ref mpA :: .ref mxA :: .ref myA :: .ref mmA :: .ref mqA :: .ref mzA :: .ref mwy :: .ref mfd :: .int msz :: .int (nI cz) :: .int mch :: .int mft :: .int mpt :: .int (nI m8) :: .int mvd :: .long tm :: .int 0 :: []))) kmfd hg_7 (fun e => hx_mo_mfd.symm (congrArg Prod.fst e))
    have hFR := hFR.tr (FL.set (Ad := Ad) (X := [mo, mmA, mrA, mwy, mfd]) (c' := .inr (12, (.int 0 :: .int (nI fd) :: .int mwr :: .int (nI K9) :: .int (nI KL) :: .ref moc :: .ref msT :: .ref mrV :: .ref msP :: .int mqs :: .ref mrA :: .ref mbA :: .ref mwA :: .ref mhA :: .ref mfA :: .ref mpA :: .ref mxA :: .ref myA :: .ref mmA :: .ref mqA :: .ref mzA :: .ref mwy :: .ref mfd :: .int msz :: .int (nI cz) :: .int mch :: .int mft :: .int mpt :: .int (nI m8) :: .int mvd :: .long tm :: .int 0 :: []))) hg_7 (by simp))
    have hg_7 := set_here (c' := .inr (12, (.int 0 :: .int (nI fd) :: .int mwr :: .int (nI K9) :: .int (nI KL) :: .ref moc :: .ref msT :: .ref mrV :: .ref msP :: .int mqs :: .ref mrA :: .ref mbA :: .ref mwA :: .ref mhA :: .ref mfA :: .ref mpA :: .ref mxA :: .ref myA :: .ref mmA :: .ref mqA :: .ref mzA :: .ref mwy :: .ref mfd :: .int msz :: .int (nI cz) :: .int mch :: .int mft :: .int mpt :: .int (nI m8) :: .int mvd :: .long tm :: .int 0 :: []))) hg_7
    have kmo : Xc Ad mo (.inr (12, (.int 0 :: .int (nI fd) :: .int mwr :: .int (nI K9) :: .int (nI KL) :: .ref moc :: .ref msT :: .ref mrV :: .ref msP :: .int mqs :: .ref mrA :: .ref mbA :: .ref mwA :: .ref mhA :: .ref mfA :: .ref mpA :: .ref mxA :: .ref myA :: .ref mmA :: .ref mqA :: .ref mzA :: .ref mwy :: .ref mfd :: .int msz :: .int (nI cz) :: .int mch :: .int mft :: .int mpt :: .int (nI m8) :: .int mvd :: .long tm :: .int 0 :: []))) (G_10.set i_7 (mo, .inr (12, (.int 0 :: .int (nI fd) :: .int mwr :: .int (nI K9) :: .int (nI KL) :: .ref moc :: .ref msT :: .ref mrV :: .ref msP :: .int mqs :: .ref mrA :: .ref mbA :: .ref mwA :: .ref mhA :: .ref mfA :: .ref mpA :: .ref mxA :: .ref myA :: .ref mmA :: .ref mqA :: .ref mzA :: .ref mwy :: .ref mfd :: .int msz :: .int (nI cz) :: .int mch :: .int mft :: .int mpt :: .int (nI m8) :: .int mvd :: .long tm :: .int 0 :: [])))) := ⟨kmo.1, List.mem_of_getElem? hg_7⟩
    have hD := hD3
    clear hD3 hD2
    generalize G_10.set i_7 (mo, .inr (12, (.int 0 :: .int (nI fd) :: .int mwr :: .int (nI K9) :: .int (nI KL) :: .ref moc :: .ref msT :: .ref mrV :: .ref msP :: .int mqs :: .ref mrA :: .ref mbA :: .ref mwA :: .ref mhA :: .ref mfA :: .ref mpA :: .ref mxA :: .ref myA :: .ref mmA :: .ref mqA :: .ref mzA :: .ref mwy :: .ref mfd :: .int msz :: .int (nI cz) :: .int mch :: .int mft :: .int mpt :: .int (nI m8) :: .int mvd :: .long tm :: .int 0 :: []))) = G_12 at hP hD hTy hFR kmo kmmA kmrA kmwy kmsT kmrV kmfd hg_7
    obtain ⟨cX_13, eX_13⟩ : ∃ z : va_E, z = .inr (12, (.int 0 :: .int (nI fd) :: .int mwr :: .int (nI K9) :: .int (nI KL) :: .ref moc :: .ref msT :: .ref mrV :: .ref msP :: .int mqs :: .ref mrA :: .ref mbA :: .ref mwA :: .ref mhA :: .ref mfA :: .ref mpA :: .ref mxA :: .ref myA :: .ref mmA :: .ref mqA :: .ref mzA :: .ref mwy :: .ref mfd :: .int msz :: .int (nI cz) :: .int mch :: .int mft :: .int mpt :: .int (nI m8) :: .int mvd :: .long tm :: .int 0 :: [])) := ⟨_, rfl⟩
    rw [← eX_13] at kmo
    refine lv_aload_n hx hb d_Model_validate_57 rfl (lv_at hl 0 rfl) ?_
    refine lv_iconst (v := 0) hx hb d_Model_validate_58 (by decide) ?_
    rw [show (0 : Int32) = nI 0 from rfl]
    refine va_put (v := .int (nI 0)) (ty := .int) hx hb htb i_Model t_Model t_Model_ok n_Model hown hK hP hD hS i_7 hg_7 rfl 25 (by decide) (htb _ q7_239) (fun _ h9 => h9) rfl (by decide +kernel) rfl rfl (Nat.le_of_ble_eq_true rfl) d_Model_validate_59 (fun H59 locs hP hD2 hS => ?_)
    have hP : va_P (dC, dI) classes (G_12.set i_7 (mo, .inr (12, (.int 0 :: .int (nI fd) :: .int mwr :: .int (nI K9) :: .int (nI KL) :: .ref moc :: .ref msT :: .ref mrV :: .ref msP :: .int mqs :: .ref mrA :: .ref mbA :: .ref mwA :: .ref mhA :: .ref mfA :: .ref mpA :: .ref mxA :: .ref myA :: .ref mmA :: .ref mqA :: .ref mzA :: .ref mwy :: .ref mfd :: .int msz :: .int (nI cz) :: .int (nI 0) :: .int mft :: .int mpt :: .int (nI m8) :: .int mvd :: .long tm :: .int 0 :: [])))) H59 := hP
    have hD3 : va_D A (G_12.set i_7 (mo, .inr (12, (.int 0 :: .int (nI fd) :: .int mwr :: .int (nI K9) :: .int (nI KL) :: .ref moc :: .ref msT :: .ref mrV :: .ref msP :: .int mqs :: .ref mrA :: .ref mbA :: .ref mwA :: .ref mhA :: .ref mfA :: .ref mpA :: .ref mxA :: .ref myA :: .ref mmA :: .ref mqA :: .ref mzA :: .ref mwy :: .ref mfd :: .int msz :: .int (nI cz) :: .int (nI 0) :: .int mft :: .int mpt :: .int (nI m8) :: .int mvd :: .long tm :: .int 0 :: [])))) := hD2
    have hTy := TR.setX (c' := .inr (12, (.int 0 :: .int (nI fd) :: .int mwr :: .int (nI K9) :: .int (nI KL) :: .ref moc :: .ref msT :: .ref mrV :: .ref msP :: .int mqs :: .ref mrA :: .ref mbA :: .ref mwA :: .ref mhA :: .ref mfA :: .ref mpA :: .ref mxA :: .ref myA :: .ref mmA :: .ref mqA :: .ref mzA :: .ref mwy :: .ref mfd :: .int msz :: .int (nI cz) :: .int (nI 0) :: .int mft :: .int mpt :: .int (nI m8) :: .int mvd :: .long tm :: .int 0 :: []))) hTy hg_7 kmo.1
    have kmmA := Xc.setX (c' := .inr (12, (.int 0 :: .int (nI fd) :: .int mwr :: .int (nI K9) :: .int (nI KL) :: .ref moc :: .ref msT :: .ref mrV :: .ref msP :: .int mqs :: .ref mrA :: .ref mbA :: .ref mwA :: .ref mhA :: .ref mfA :: .ref mpA :: .ref mxA :: .ref myA :: .ref mmA :: .ref mqA :: .ref mzA :: .ref mwy :: .ref mfd :: .int msz :: .int (nI cz) :: .int (nI 0) :: .int mft :: .int mpt :: .int (nI m8) :: .int mvd :: .long tm :: .int 0 :: []))) kmmA hg_7 (fun e => hx_mo_mmA.symm (congrArg Prod.fst e))
    have kmrA := Xc.setX (c' := .inr (12, (.int 0 :: .int (nI fd) :: .int mwr :: .int (nI K9) :: .int (nI KL) :: .ref moc :: .ref msT :: .ref mrV :: .ref msP :: .int mqs :: .ref mrA :: .ref mbA :: .ref mwA :: .ref mhA :: .ref mfA :: .ref mpA :: .ref mxA :: .ref myA :: .ref mmA :: .ref mqA :: .ref mzA :: .ref mwy :: .ref mfd :: .int msz :: .int (nI cz) :: .int (nI 0) :: .int mft :: .int mpt :: .int (nI m8) :: .int mvd :: .long tm :: .int 0 :: []))) kmrA hg_7 (fun e => hx_mo_mrA.symm (congrArg Prod.fst e))
    have kmwy := Xc.setX (c' := .inr (12, (.int 0 :: .int (nI fd) :: .int mwr :: .int (nI K9) :: .int (nI KL) :: .ref moc :: .ref msT :: .ref mrV :: .ref msP :: .int mqs :: .ref mrA :: .ref mbA :: .ref mwA :: .ref mhA :: .ref mfA :: .ref mpA :: .ref mxA :: .ref myA :: .ref mmA :: .ref mqA :: .ref mzA :: .ref mwy :: .ref mfd :: .int msz :: .int (nI cz) :: .int (nI 0) :: .int mft :: .int mpt :: .int (nI m8) :: .int mvd :: .long tm :: .int 0 :: []))) kmwy hg_7 (fun e => hx_mo_mwy.symm (congrArg Prod.fst e))
    have kmsT := Xc.setX (c' := .inr (12, (.int 0 :: .int (nI fd) :: .int mwr :: .int (nI K9) :: .int (nI KL) :: .ref moc :: .ref msT :: .ref mrV :: .ref msP :: .int mqs :: .ref mrA :: .ref mbA :: .ref mwA :: .ref mhA :: .ref mfA :: .ref mpA :: .ref mxA :: .ref myA :: .ref mmA :: .ref mqA :: .ref mzA :: .ref mwy :: .ref mfd :: .int msz :: .int (nI cz) :: .int (nI 0) :: .int mft :: .int mpt :: .int (nI m8) :: .int mvd :: .long tm :: .int 0 :: []))) kmsT hg_7 (fun e => hx_mo_msT.symm (congrArg Prod.fst e))
    have kmrV := Xc.setX (c' := .inr (12, (.int 0 :: .int (nI fd) :: .int mwr :: .int (nI K9) :: .int (nI KL) :: .ref moc :: .ref msT :: .ref mrV :: .ref msP :: .int mqs :: .ref mrA :: .ref mbA :: .ref mwA :: .ref mhA :: .ref mfA :: .ref mpA :: .ref mxA :: .ref myA :: .ref mmA :: .ref mqA :: .ref mzA :: .ref mwy :: .ref mfd :: .int msz :: .int (nI cz) :: .int (nI 0) :: .int mft :: .int mpt :: .int (nI m8) :: .int mvd :: .long tm :: .int 0 :: []))) kmrV hg_7 (fun e => hx_mo_mrV.symm (congrArg Prod.fst e))
    have kmfd := Xc.setX (c' := .inr (12, (.int 0 :: .int (nI fd) :: .int mwr :: .int (nI K9) :: .int (nI KL) :: .ref moc :: .ref msT :: .ref mrV :: .ref msP :: .int mqs :: .ref mrA :: .ref mbA :: .ref mwA :: .ref mhA :: .ref mfA :: .ref mpA :: .ref mxA :: .ref myA :: .ref mmA :: .ref mqA :: .ref mzA :: .ref mwy :: .ref mfd :: .int msz :: .int (nI cz) :: .int (nI 0) :: .int mft :: .int mpt :: .int (nI m8) :: .int mvd :: .long tm :: .int 0 :: []))) kmfd hg_7 (fun e => hx_mo_mfd.symm (congrArg Prod.fst e))
    have hFR := hFR.tr (FL.set (Ad := Ad) (X := [mo, mmA, mrA, mwy, mfd]) (c' := .inr (12, (.int 0 :: .int (nI fd) :: .int mwr :: .int (nI K9) :: .int (nI KL) :: .ref moc :: .ref msT :: .ref mrV :: .ref msP :: .int mqs :: .ref mrA :: .ref mbA :: .ref mwA :: .ref mhA :: .ref mfA :: .ref mpA :: .ref mxA :: .ref myA :: .ref mmA :: .ref mqA :: .ref mzA :: .ref mwy :: .ref mfd :: .int msz :: .int (nI cz) :: .int (nI 0) :: .int mft :: .int mpt :: .int (nI m8) :: .int mvd :: .long tm :: .int 0 :: []))) hg_7 (by simp))
    have hg_7 := set_here (c' := .inr (12, (.int 0 :: .int (nI fd) :: .int mwr :: .int (nI K9) :: .int (nI KL) :: .ref moc :: .ref msT :: .ref mrV :: .ref msP :: .int mqs :: .ref mrA :: .ref mbA :: .ref mwA :: .ref mhA :: .ref mfA :: .ref mpA :: .ref mxA :: .ref myA :: .ref mmA :: .ref mqA :: .ref mzA :: .ref mwy :: .ref mfd :: .int msz :: .int (nI cz) :: .int (nI 0) :: .int mft :: .int mpt :: .int (nI m8) :: .int mvd :: .long tm :: .int 0 :: []))) hg_7
    have kmo : Xc Ad mo (.inr (12, (.int 0 :: .int (nI fd) :: .int mwr :: .int (nI K9) :: .int (nI KL) :: .ref moc :: .ref msT :: .ref mrV :: .ref msP :: .int mqs :: .ref mrA :: .ref mbA :: .ref mwA :: .ref mhA :: .ref mfA :: .ref mpA :: .ref mxA :: .ref myA :: .ref mmA :: .ref mqA :: .ref mzA :: .ref mwy :: .ref mfd :: .int msz :: .int (nI cz) :: .int (nI 0) :: .int mft :: .int mpt :: .int (nI m8) :: .int mvd :: .long tm :: .int 0 :: []))) (G_12.set i_7 (mo, .inr (12, (.int 0 :: .int (nI fd) :: .int mwr :: .int (nI K9) :: .int (nI KL) :: .ref moc :: .ref msT :: .ref mrV :: .ref msP :: .int mqs :: .ref mrA :: .ref mbA :: .ref mwA :: .ref mhA :: .ref mfA :: .ref mpA :: .ref mxA :: .ref myA :: .ref mmA :: .ref mqA :: .ref mzA :: .ref mwy :: .ref mfd :: .int msz :: .int (nI cz) :: .int (nI 0) :: .int mft :: .int mpt :: .int (nI m8) :: .int mvd :: .long tm :: .int 0 :: [])))) := ⟨kmo.1, List.mem_of_getElem? hg_7⟩
    have hD := hD3
    clear hD3 hD2
    generalize G_12.set i_7 (mo, .inr (12, (.int 0 :: .int (nI fd) :: .int mwr :: .int (nI K9) :: .int (nI KL) :: .ref moc :: .ref msT :: .ref mrV :: .ref msP :: .int mqs :: .ref mrA :: .ref mbA :: .ref mwA :: .ref mhA :: .ref mfA :: .ref mpA :: .ref mxA :: .ref myA :: .ref mmA :: .ref mqA :: .ref mzA :: .ref mwy :: .ref mfd :: .int msz :: .int (nI cz) :: .int (nI 0) :: .int mft :: .int mpt :: .int (nI m8) :: .int mvd :: .long tm :: .int 0 :: []))) = G_14 at hP hD hTy hFR kmo kmmA kmrA kmwy kmsT kmrV kmfd hg_7
    obtain ⟨cX_15, eX_15⟩ : ∃ z : va_E, z = .inr (12, (.int 0 :: .int (nI fd) :: .int mwr :: .int (nI K9) :: .int (nI KL) :: .ref moc :: .ref msT :: .ref mrV :: .ref msP :: .int mqs :: .ref mrA :: .ref mbA :: .ref mwA :: .ref mhA :: .ref mfA :: .ref mpA :: .ref mxA :: .ref myA :: .ref mmA :: .ref mqA :: .ref mzA :: .ref mwy :: .ref mfd :: .int msz :: .int (nI cz) :: .int (nI 0) :: .int mft :: .int mpt :: .int (nI m8) :: .int mvd :: .long tm :: .int 0 :: [])) := ⟨_, rfl⟩
    rw [← eX_15] at kmo
    refine lv_aload_n hx hb d_Model_validate_62 rfl (lv_at hl 0 rfl) ?_
    refine lv_iconst (v := 0) hx hb d_Model_validate_63 (by decide) ?_
    rw [show (0 : Int32) = nI ([] : List Nat).length from rfl]
    refine va_put (v := .int (nI ([] : List Nat).length)) (ty := .int) hx hb htb i_Model t_Model t_Model_ok n_Model hown hK hP hD hS i_7 hg_7 rfl 24 (by decide) (htb _ q7_238) (fun _ h9 => h9) rfl (by decide +kernel) rfl rfl (Nat.le_of_ble_eq_true rfl) d_Model_validate_64 (fun H64 locs hP hD2 hS => ?_)
    have hP : va_P (dC, dI) classes (G_14.set i_7 (mo, .inr (12, (.int 0 :: .int (nI fd) :: .int mwr :: .int (nI K9) :: .int (nI KL) :: .ref moc :: .ref msT :: .ref mrV :: .ref msP :: .int mqs :: .ref mrA :: .ref mbA :: .ref mwA :: .ref mhA :: .ref mfA :: .ref mpA :: .ref mxA :: .ref myA :: .ref mmA :: .ref mqA :: .ref mzA :: .ref mwy :: .ref mfd :: .int msz :: .int (nI ([] : List Nat).length) :: .int (nI 0) :: .int mft :: .int mpt :: .int (nI m8) :: .int mvd :: .long tm :: .int 0 :: [])))) H64 := hP
    have hD3 : va_D A (G_14.set i_7 (mo, .inr (12, (.int 0 :: .int (nI fd) :: .int mwr :: .int (nI K9) :: .int (nI KL) :: .ref moc :: .ref msT :: .ref mrV :: .ref msP :: .int mqs :: .ref mrA :: .ref mbA :: .ref mwA :: .ref mhA :: .ref mfA :: .ref mpA :: .ref mxA :: .ref myA :: .ref mmA :: .ref mqA :: .ref mzA :: .ref mwy :: .ref mfd :: .int msz :: .int (nI ([] : List Nat).length) :: .int (nI 0) :: .int mft :: .int mpt :: .int (nI m8) :: .int mvd :: .long tm :: .int 0 :: [])))) := hD2
    have hTy := TR.setX (c' := .inr (12, (.int 0 :: .int (nI fd) :: .int mwr :: .int (nI K9) :: .int (nI KL) :: .ref moc :: .ref msT :: .ref mrV :: .ref msP :: .int mqs :: .ref mrA :: .ref mbA :: .ref mwA :: .ref mhA :: .ref mfA :: .ref mpA :: .ref mxA :: .ref myA :: .ref mmA :: .ref mqA :: .ref mzA :: .ref mwy :: .ref mfd :: .int msz :: .int (nI ([] : List Nat).length) :: .int (nI 0) :: .int mft :: .int mpt :: .int (nI m8) :: .int mvd :: .long tm :: .int 0 :: []))) hTy hg_7 kmo.1
    have kmmA := Xc.setX (c' := .inr (12, (.int 0 :: .int (nI fd) :: .int mwr :: .int (nI K9) :: .int (nI KL) :: .ref moc :: .ref msT :: .ref mrV :: .ref msP :: .int mqs :: .ref mrA :: .ref mbA :: .ref mwA :: .ref mhA :: .ref mfA :: .ref mpA :: .ref mxA :: .ref myA :: .ref mmA :: .ref mqA :: .ref mzA :: .ref mwy :: .ref mfd :: .int msz :: .int (nI ([] : List Nat).length) :: .int (nI 0) :: .int mft :: .int mpt :: .int (nI m8) :: .int mvd :: .long tm :: .int 0 :: []))) kmmA hg_7 (fun e => hx_mo_mmA.symm (congrArg Prod.fst e))
    have kmrA := Xc.setX (c' := .inr (12, (.int 0 :: .int (nI fd) :: .int mwr :: .int (nI K9) :: .int (nI KL) :: .ref moc :: .ref msT :: .ref mrV :: .ref msP :: .int mqs :: .ref mrA :: .ref mbA :: .ref mwA :: .ref mhA :: .ref mfA :: .ref mpA :: .ref mxA :: .ref myA :: .ref mmA :: .ref mqA :: .ref mzA :: .ref mwy :: .ref mfd :: .int msz :: .int (nI ([] : List Nat).length) :: .int (nI 0) :: .int mft :: .int mpt :: .int (nI m8) :: .int mvd :: .long tm :: .int 0 :: []))) kmrA hg_7 (fun e => hx_mo_mrA.symm (congrArg Prod.fst e))
    have kmwy := Xc.setX (c' := .inr (12, (.int 0 :: .int (nI fd) :: .int mwr :: .int (nI K9) :: .int (nI KL) :: .ref moc :: .ref msT :: .ref mrV :: .ref msP :: .int mqs :: .ref mrA :: .ref mbA :: .ref mwA :: .ref mhA :: .ref mfA :: .ref mpA :: .ref mxA :: .ref myA :: .ref mmA :: .ref mqA :: .ref mzA :: .ref mwy :: .ref mfd :: .int msz :: .int (nI ([] : List Nat).length) :: .int (nI 0) :: .int mft :: .int mpt :: .int (nI m8) :: .int mvd :: .long tm :: .int 0 :: []))) kmwy hg_7 (fun e => hx_mo_mwy.symm (congrArg Prod.fst e))
    have kmsT := Xc.setX (c' := .inr (12, (.int 0 :: .int (nI fd) :: .int mwr :: .int (nI K9) :: .int (nI KL) :: .ref moc :: .ref msT :: .ref mrV :: .ref msP :: .int mqs :: .ref mrA :: .ref mbA :: .ref mwA :: .ref mhA :: .ref mfA :: .ref mpA :: .ref mxA :: .ref myA :: .ref mmA :: .ref mqA :: .ref mzA :: .ref mwy :: .ref mfd :: .int msz :: .int (nI ([] : List Nat).length) :: .int (nI 0) :: .int mft :: .int mpt :: .int (nI m8) :: .int mvd :: .long tm :: .int 0 :: []))) kmsT hg_7 (fun e => hx_mo_msT.symm (congrArg Prod.fst e))
    have kmrV := Xc.setX (c' := .inr (12, (.int 0 :: .int (nI fd) :: .int mwr :: .int (nI K9) :: .int (nI KL) :: .ref moc :: .ref msT :: .ref mrV :: .ref msP :: .int mqs :: .ref mrA :: .ref mbA :: .ref mwA :: .ref mhA :: .ref mfA :: .ref mpA :: .ref mxA :: .ref myA :: .ref mmA :: .ref mqA :: .ref mzA :: .ref mwy :: .ref mfd :: .int msz :: .int (nI ([] : List Nat).length) :: .int (nI 0) :: .int mft :: .int mpt :: .int (nI m8) :: .int mvd :: .long tm :: .int 0 :: []))) kmrV hg_7 (fun e => hx_mo_mrV.symm (congrArg Prod.fst e))
    have kmfd := Xc.setX (c' := .inr (12, (.int 0 :: .int (nI fd) :: .int mwr :: .int (nI K9) :: .int (nI KL) :: .ref moc :: .ref msT :: .ref mrV :: .ref msP :: .int mqs :: .ref mrA :: .ref mbA :: .ref mwA :: .ref mhA :: .ref mfA :: .ref mpA :: .ref mxA :: .ref myA :: .ref mmA :: .ref mqA :: .ref mzA :: .ref mwy :: .ref mfd :: .int msz :: .int (nI ([] : List Nat).length) :: .int (nI 0) :: .int mft :: .int mpt :: .int (nI m8) :: .int mvd :: .long tm :: .int 0 :: []))) kmfd hg_7 (fun e => hx_mo_mfd.symm (congrArg Prod.fst e))
    have hFR := hFR.tr (FL.set (Ad := Ad) (X := [mo, mmA, mrA, mwy, mfd]) (c' := .inr (12, (.int 0 :: .int (nI fd) :: .int mwr :: .int (nI K9) :: .int (nI KL) :: .ref moc :: .ref msT :: .ref mrV :: .ref msP :: .int mqs :: .ref mrA :: .ref mbA :: .ref mwA :: .ref mhA :: .ref mfA :: .ref mpA :: .ref mxA :: .ref myA :: .ref mmA :: .ref mqA :: .ref mzA :: .ref mwy :: .ref mfd :: .int msz :: .int (nI ([] : List Nat).length) :: .int (nI 0) :: .int mft :: .int mpt :: .int (nI m8) :: .int mvd :: .long tm :: .int 0 :: []))) hg_7 (by simp))
    have hg_7 := set_here (c' := .inr (12, (.int 0 :: .int (nI fd) :: .int mwr :: .int (nI K9) :: .int (nI KL) :: .ref moc :: .ref msT :: .ref mrV :: .ref msP :: .int mqs :: .ref mrA :: .ref mbA :: .ref mwA :: .ref mhA :: .ref mfA :: .ref mpA :: .ref mxA :: .ref myA :: .ref mmA :: .ref mqA :: .ref mzA :: .ref mwy :: .ref mfd :: .int msz :: .int (nI ([] : List Nat).length) :: .int (nI 0) :: .int mft :: .int mpt :: .int (nI m8) :: .int mvd :: .long tm :: .int 0 :: []))) hg_7
    have kmo : Xc Ad mo (.inr (12, (.int 0 :: .int (nI fd) :: .int mwr :: .int (nI K9) :: .int (nI KL) :: .ref moc :: .ref msT :: .ref mrV :: .ref msP :: .int mqs :: .ref mrA :: .ref mbA :: .ref mwA :: .ref mhA :: .ref mfA :: .ref mpA :: .ref mxA :: .ref myA :: .ref mmA :: .ref mqA :: .ref mzA :: .ref mwy :: .ref mfd :: .int msz :: .int (nI ([] : List Nat).length) :: .int (nI 0) :: .int mft :: .int mpt :: .int (nI m8) :: .int mvd :: .long tm :: .int 0 :: []))) (G_14.set i_7 (mo, .inr (12, (.int 0 :: .int (nI fd) :: .int mwr :: .int (nI K9) :: .int (nI KL) :: .ref moc :: .ref msT :: .ref mrV :: .ref msP :: .int mqs :: .ref mrA :: .ref mbA :: .ref mwA :: .ref mhA :: .ref mfA :: .ref mpA :: .ref mxA :: .ref myA :: .ref mmA :: .ref mqA :: .ref mzA :: .ref mwy :: .ref mfd :: .int msz :: .int (nI ([] : List Nat).length) :: .int (nI 0) :: .int mft :: .int mpt :: .int (nI m8) :: .int mvd :: .long tm :: .int 0 :: [])))) := ⟨kmo.1, List.mem_of_getElem? hg_7⟩
    have hD := hD3
    clear hD3 hD2
    generalize G_14.set i_7 (mo, .inr (12, (.int 0 :: .int (nI fd) :: .int mwr :: .int (nI K9) :: .int (nI KL) :: .ref moc :: .ref msT :: .ref mrV :: .ref msP :: .int mqs :: .ref mrA :: .ref mbA :: .ref mwA :: .ref mhA :: .ref mfA :: .ref mpA :: .ref mxA :: .ref myA :: .ref mmA :: .ref mqA :: .ref mzA :: .ref mwy :: .ref mfd :: .int msz :: .int (nI ([] : List Nat).length) :: .int (nI 0) :: .int mft :: .int mpt :: .int (nI m8) :: .int mvd :: .long tm :: .int 0 :: []))) = G_16 at hP hD hTy hFR kmo kmmA kmrA kmwy kmsT kmrV kmfd hg_7
    obtain ⟨cX_17, eX_17⟩ : ∃ z : va_E, z = .inr (12, (.int 0 :: .int (nI fd) :: .int mwr :: .int (nI K9) :: .int (nI KL) :: .ref moc :: .ref msT :: .ref mrV :: .ref msP :: .int mqs :: .ref mrA :: .ref mbA :: .ref mwA :: .ref mhA :: .ref mfA :: .ref mpA :: .ref mxA :: .ref myA :: .ref mmA :: .ref mqA :: .ref mzA :: .ref mwy :: .ref mfd :: .int msz :: .int (nI ([] : List Nat).length) :: .int (nI 0) :: .int mft :: .int mpt :: .int (nI m8) :: .int mvd :: .long tm :: .int 0 :: [])) := ⟨_, rfl⟩
    rw [← eX_17] at kmo
    refine lv_aload_n hx hb d_Model_validate_67 rfl (lv_at hl 0 rfl) ?_
    refine lv_iconst (v := -1) hx hb d_Model_validate_68 (by decide) ?_
    refine va_put (v := .int (-1)) (ty := .int) hx hb htb i_Model t_Model t_Model_ok n_Model hown hK hP hD hS i_7 hg_7 rfl 26 (by decide) (htb _ q8_0) (fun _ h9 => h9) rfl (by decide +kernel) rfl rfl (Nat.le_of_ble_eq_true rfl) d_Model_validate_69 (fun H69 locs hP hD2 hS => ?_)
    have hP : va_P (dC, dI) classes (G_16.set i_7 (mo, .inr (12, (.int 0 :: .int (nI fd) :: .int mwr :: .int (nI K9) :: .int (nI KL) :: .ref moc :: .ref msT :: .ref mrV :: .ref msP :: .int mqs :: .ref mrA :: .ref mbA :: .ref mwA :: .ref mhA :: .ref mfA :: .ref mpA :: .ref mxA :: .ref myA :: .ref mmA :: .ref mqA :: .ref mzA :: .ref mwy :: .ref mfd :: .int msz :: .int (nI ([] : List Nat).length) :: .int (nI 0) :: .int (-1) :: .int mpt :: .int (nI m8) :: .int mvd :: .long tm :: .int 0 :: [])))) H69 := hP
    have hD3 : va_D A (G_16.set i_7 (mo, .inr (12, (.int 0 :: .int (nI fd) :: .int mwr :: .int (nI K9) :: .int (nI KL) :: .ref moc :: .ref msT :: .ref mrV :: .ref msP :: .int mqs :: .ref mrA :: .ref mbA :: .ref mwA :: .ref mhA :: .ref mfA :: .ref mpA :: .ref mxA :: .ref myA :: .ref mmA :: .ref mqA :: .ref mzA :: .ref mwy :: .ref mfd :: .int msz :: .int (nI ([] : List Nat).length) :: .int (nI 0) :: .int (-1) :: .int mpt :: .int (nI m8) :: .int mvd :: .long tm :: .int 0 :: [])))) := hD2
    have hTy := TR.setX (c' := .inr (12, (.int 0 :: .int (nI fd) :: .int mwr :: .int (nI K9) :: .int (nI KL) :: .ref moc :: .ref msT :: .ref mrV :: .ref msP :: .int mqs :: .ref mrA :: .ref mbA :: .ref mwA :: .ref mhA :: .ref mfA :: .ref mpA :: .ref mxA :: .ref myA :: .ref mmA :: .ref mqA :: .ref mzA :: .ref mwy :: .ref mfd :: .int msz :: .int (nI ([] : List Nat).length) :: .int (nI 0) :: .int (-1) :: .int mpt :: .int (nI m8) :: .int mvd :: .long tm :: .int 0 :: []))) hTy hg_7 kmo.1
    have kmmA := Xc.setX (c' := .inr (12, (.int 0 :: .int (nI fd) :: .int mwr :: .int (nI K9) :: .int (nI KL) :: .ref moc :: .ref msT :: .ref mrV :: .ref msP :: .int mqs :: .ref mrA :: .ref mbA :: .ref mwA :: .ref mhA :: .ref mfA :: .ref mpA :: .ref mxA :: .ref myA :: .ref mmA :: .ref mqA :: .ref mzA :: .ref mwy :: .ref mfd :: .int msz :: .int (nI ([] : List Nat).length) :: .int (nI 0) :: .int (-1) :: .int mpt :: .int (nI m8) :: .int mvd :: .long tm :: .int 0 :: []))) kmmA hg_7 (fun e => hx_mo_mmA.symm (congrArg Prod.fst e))
    have kmrA := Xc.setX (c' := .inr (12, (.int 0 :: .int (nI fd) :: .int mwr :: .int (nI K9) :: .int (nI KL) :: .ref moc :: .ref msT :: .ref mrV :: .ref msP :: .int mqs :: .ref mrA :: .ref mbA :: .ref mwA :: .ref mhA :: .ref mfA :: .ref mpA :: .ref mxA :: .ref myA :: .ref mmA :: .ref mqA :: .ref mzA :: .ref mwy :: .ref mfd :: .int msz :: .int (nI ([] : List Nat).length) :: .int (nI 0) :: .int (-1) :: .int mpt :: .int (nI m8) :: .int mvd :: .long tm :: .int 0 :: []))) kmrA hg_7 (fun e => hx_mo_mrA.symm (congrArg Prod.fst e))
    have kmwy := Xc.setX (c' := .inr (12, (.int 0 :: .int (nI fd) :: .int mwr :: .int (nI K9) :: .int (nI KL) :: .ref moc :: .ref msT :: .ref mrV :: .ref msP :: .int mqs :: .ref mrA :: .ref mbA :: .ref mwA :: .ref mhA :: .ref mfA :: .ref mpA :: .ref mxA :: .ref myA :: .ref mmA :: .ref mqA :: .ref mzA :: .ref mwy :: .ref mfd :: .int msz :: .int (nI ([] : List Nat).length) :: .int (nI 0) :: .int (-1) :: .int mpt :: .int (nI m8) :: .int mvd :: .long tm :: .int 0 :: []))) kmwy hg_7 (fun e => hx_mo_mwy.symm (congrArg Prod.fst e))
    have kmsT := Xc.setX (c' := .inr (12, (.int 0 :: .int (nI fd) :: .int mwr :: .int (nI K9) :: .int (nI KL) :: .ref moc :: .ref msT :: .ref mrV :: .ref msP :: .int mqs :: .ref mrA :: .ref mbA :: .ref mwA :: .ref mhA :: .ref mfA :: .ref mpA :: .ref mxA :: .ref myA :: .ref mmA :: .ref mqA :: .ref mzA :: .ref mwy :: .ref mfd :: .int msz :: .int (nI ([] : List Nat).length) :: .int (nI 0) :: .int (-1) :: .int mpt :: .int (nI m8) :: .int mvd :: .long tm :: .int 0 :: []))) kmsT hg_7 (fun e => hx_mo_msT.symm (congrArg Prod.fst e))
    have kmrV := Xc.setX (c' := .inr (12, (.int 0 :: .int (nI fd) :: .int mwr :: .int (nI K9) :: .int (nI KL) :: .ref moc :: .ref msT :: .ref mrV :: .ref msP :: .int mqs :: .ref mrA :: .ref mbA :: .ref mwA :: .ref mhA :: .ref mfA :: .ref mpA :: .ref mxA :: .ref myA :: .ref mmA :: .ref mqA :: .ref mzA :: .ref mwy :: .ref mfd :: .int msz :: .int (nI ([] : List Nat).length) :: .int (nI 0) :: .int (-1) :: .int mpt :: .int (nI m8) :: .int mvd :: .long tm :: .int 0 :: []))) kmrV hg_7 (fun e => hx_mo_mrV.symm (congrArg Prod.fst e))
    have kmfd := Xc.setX (c' := .inr (12, (.int 0 :: .int (nI fd) :: .int mwr :: .int (nI K9) :: .int (nI KL) :: .ref moc :: .ref msT :: .ref mrV :: .ref msP :: .int mqs :: .ref mrA :: .ref mbA :: .ref mwA :: .ref mhA :: .ref mfA :: .ref mpA :: .ref mxA :: .ref myA :: .ref mmA :: .ref mqA :: .ref mzA :: .ref mwy :: .ref mfd :: .int msz :: .int (nI ([] : List Nat).length) :: .int (nI 0) :: .int (-1) :: .int mpt :: .int (nI m8) :: .int mvd :: .long tm :: .int 0 :: []))) kmfd hg_7 (fun e => hx_mo_mfd.symm (congrArg Prod.fst e))
    have hFR := hFR.tr (FL.set (Ad := Ad) (X := [mo, mmA, mrA, mwy, mfd]) (c' := .inr (12, (.int 0 :: .int (nI fd) :: .int mwr :: .int (nI K9) :: .int (nI KL) :: .ref moc :: .ref msT :: .ref mrV :: .ref msP :: .int mqs :: .ref mrA :: .ref mbA :: .ref mwA :: .ref mhA :: .ref mfA :: .ref mpA :: .ref mxA :: .ref myA :: .ref mmA :: .ref mqA :: .ref mzA :: .ref mwy :: .ref mfd :: .int msz :: .int (nI ([] : List Nat).length) :: .int (nI 0) :: .int (-1) :: .int mpt :: .int (nI m8) :: .int mvd :: .long tm :: .int 0 :: []))) hg_7 (by simp))
    have hg_7 := set_here (c' := .inr (12, (.int 0 :: .int (nI fd) :: .int mwr :: .int (nI K9) :: .int (nI KL) :: .ref moc :: .ref msT :: .ref mrV :: .ref msP :: .int mqs :: .ref mrA :: .ref mbA :: .ref mwA :: .ref mhA :: .ref mfA :: .ref mpA :: .ref mxA :: .ref myA :: .ref mmA :: .ref mqA :: .ref mzA :: .ref mwy :: .ref mfd :: .int msz :: .int (nI ([] : List Nat).length) :: .int (nI 0) :: .int (-1) :: .int mpt :: .int (nI m8) :: .int mvd :: .long tm :: .int 0 :: []))) hg_7
    have kmo : Xc Ad mo (.inr (12, (.int 0 :: .int (nI fd) :: .int mwr :: .int (nI K9) :: .int (nI KL) :: .ref moc :: .ref msT :: .ref mrV :: .ref msP :: .int mqs :: .ref mrA :: .ref mbA :: .ref mwA :: .ref mhA :: .ref mfA :: .ref mpA :: .ref mxA :: .ref myA :: .ref mmA :: .ref mqA :: .ref mzA :: .ref mwy :: .ref mfd :: .int msz :: .int (nI ([] : List Nat).length) :: .int (nI 0) :: .int (-1) :: .int mpt :: .int (nI m8) :: .int mvd :: .long tm :: .int 0 :: []))) (G_16.set i_7 (mo, .inr (12, (.int 0 :: .int (nI fd) :: .int mwr :: .int (nI K9) :: .int (nI KL) :: .ref moc :: .ref msT :: .ref mrV :: .ref msP :: .int mqs :: .ref mrA :: .ref mbA :: .ref mwA :: .ref mhA :: .ref mfA :: .ref mpA :: .ref mxA :: .ref myA :: .ref mmA :: .ref mqA :: .ref mzA :: .ref mwy :: .ref mfd :: .int msz :: .int (nI ([] : List Nat).length) :: .int (nI 0) :: .int (-1) :: .int mpt :: .int (nI m8) :: .int mvd :: .long tm :: .int 0 :: [])))) := ⟨kmo.1, List.mem_of_getElem? hg_7⟩
    have hD := hD3
    clear hD3 hD2
    generalize G_16.set i_7 (mo, .inr (12, (.int 0 :: .int (nI fd) :: .int mwr :: .int (nI K9) :: .int (nI KL) :: .ref moc :: .ref msT :: .ref mrV :: .ref msP :: .int mqs :: .ref mrA :: .ref mbA :: .ref mwA :: .ref mhA :: .ref mfA :: .ref mpA :: .ref mxA :: .ref myA :: .ref mmA :: .ref mqA :: .ref mzA :: .ref mwy :: .ref mfd :: .int msz :: .int (nI ([] : List Nat).length) :: .int (nI 0) :: .int (-1) :: .int mpt :: .int (nI m8) :: .int mvd :: .long tm :: .int 0 :: []))) = G_18 at hP hD hTy hFR kmo kmmA kmrA kmwy kmsT kmrV kmfd hg_7
    obtain ⟨cX_19, eX_19⟩ : ∃ z : va_E, z = .inr (12, (.int 0 :: .int (nI fd) :: .int mwr :: .int (nI K9) :: .int (nI KL) :: .ref moc :: .ref msT :: .ref mrV :: .ref msP :: .int mqs :: .ref mrA :: .ref mbA :: .ref mwA :: .ref mhA :: .ref mfA :: .ref mpA :: .ref mxA :: .ref myA :: .ref mmA :: .ref mqA :: .ref mzA :: .ref mwy :: .ref mfd :: .int msz :: .int (nI ([] : List Nat).length) :: .int (nI 0) :: .int (-1) :: .int mpt :: .int (nI m8) :: .int mvd :: .long tm :: .int 0 :: [])) := ⟨_, rfl⟩
    rw [← eX_19] at kmo
    refine lv_aload_n hx hb d_Model_validate_72 rfl (lv_at hl 0 rfl) ?_
    refine lv_bipush (v := 10) hx hb d_Model_validate_73 (by decide) ?_
    refine va_put (v := .int 10) (ty := .int) hx hb htb i_Model t_Model t_Model_ok n_Model hown hK hP hD hS i_7 hg_7 rfl 29 (by decide) (htb _ q8_3) (fun _ h9 => h9) rfl (by decide +kernel) rfl rfl (Nat.le_of_ble_eq_true rfl) d_Model_validate_75 (fun H75 locs hP hD2 hS => ?_)
    have hP : va_P (dC, dI) classes (G_18.set i_7 (mo, .inr (12, (.int 0 :: .int (nI fd) :: .int mwr :: .int (nI K9) :: .int (nI KL) :: .ref moc :: .ref msT :: .ref mrV :: .ref msP :: .int mqs :: .ref mrA :: .ref mbA :: .ref mwA :: .ref mhA :: .ref mfA :: .ref mpA :: .ref mxA :: .ref myA :: .ref mmA :: .ref mqA :: .ref mzA :: .ref mwy :: .ref mfd :: .int msz :: .int (nI ([] : List Nat).length) :: .int (nI 0) :: .int (-1) :: .int mpt :: .int (nI m8) :: .int 10 :: .long tm :: .int 0 :: [])))) H75 := hP
    have hD3 : va_D A (G_18.set i_7 (mo, .inr (12, (.int 0 :: .int (nI fd) :: .int mwr :: .int (nI K9) :: .int (nI KL) :: .ref moc :: .ref msT :: .ref mrV :: .ref msP :: .int mqs :: .ref mrA :: .ref mbA :: .ref mwA :: .ref mhA :: .ref mfA :: .ref mpA :: .ref mxA :: .ref myA :: .ref mmA :: .ref mqA :: .ref mzA :: .ref mwy :: .ref mfd :: .int msz :: .int (nI ([] : List Nat).length) :: .int (nI 0) :: .int (-1) :: .int mpt :: .int (nI m8) :: .int 10 :: .long tm :: .int 0 :: [])))) := hD2
    have hTy := TR.setX (c' := .inr (12, (.int 0 :: .int (nI fd) :: .int mwr :: .int (nI K9) :: .int (nI KL) :: .ref moc :: .ref msT :: .ref mrV :: .ref msP :: .int mqs :: .ref mrA :: .ref mbA :: .ref mwA :: .ref mhA :: .ref mfA :: .ref mpA :: .ref mxA :: .ref myA :: .ref mmA :: .ref mqA :: .ref mzA :: .ref mwy :: .ref mfd :: .int msz :: .int (nI ([] : List Nat).length) :: .int (nI 0) :: .int (-1) :: .int mpt :: .int (nI m8) :: .int 10 :: .long tm :: .int 0 :: []))) hTy hg_7 kmo.1
    have kmmA := Xc.setX (c' := .inr (12, (.int 0 :: .int (nI fd) :: .int mwr :: .int (nI K9) :: .int (nI KL) :: .ref moc :: .ref msT :: .ref mrV :: .ref msP :: .int mqs :: .ref mrA :: .ref mbA :: .ref mwA :: .ref mhA :: .ref mfA :: .ref mpA :: .ref mxA :: .ref myA :: .ref mmA :: .ref mqA :: .ref mzA :: .ref mwy :: .ref mfd :: .int msz :: .int (nI ([] : List Nat).length) :: .int (nI 0) :: .int (-1) :: .int mpt :: .int (nI m8) :: .int 10 :: .long tm :: .int 0 :: []))) kmmA hg_7 (fun e => hx_mo_mmA.symm (congrArg Prod.fst e))
    have kmrA := Xc.setX (c' := .inr (12, (.int 0 :: .int (nI fd) :: .int mwr :: .int (nI K9) :: .int (nI KL) :: .ref moc :: .ref msT :: .ref mrV :: .ref msP :: .int mqs :: .ref mrA :: .ref mbA :: .ref mwA :: .ref mhA :: .ref mfA :: .ref mpA :: .ref mxA :: .ref myA :: .ref mmA :: .ref mqA :: .ref mzA :: .ref mwy :: .ref mfd :: .int msz :: .int (nI ([] : List Nat).length) :: .int (nI 0) :: .int (-1) :: .int mpt :: .int (nI m8) :: .int 10 :: .long tm :: .int 0 :: []))) kmrA hg_7 (fun e => hx_mo_mrA.symm (congrArg Prod.fst e))
    have kmwy := Xc.setX (c' := .inr (12, (.int 0 :: .int (nI fd) :: .int mwr :: .int (nI K9) :: .int (nI KL) :: .ref moc :: .ref msT :: .ref mrV :: .ref msP :: .int mqs :: .ref mrA :: .ref mbA :: .ref mwA :: .ref mhA :: .ref mfA :: .ref mpA :: .ref mxA :: .ref myA :: .ref mmA :: .ref mqA :: .ref mzA :: .ref mwy :: .ref mfd :: .int msz :: .int (nI ([] : List Nat).length) :: .int (nI 0) :: .int (-1) :: .int mpt :: .int (nI m8) :: .int 10 :: .long tm :: .int 0 :: []))) kmwy hg_7 (fun e => hx_mo_mwy.symm (congrArg Prod.fst e))
    have kmsT := Xc.setX (c' := .inr (12, (.int 0 :: .int (nI fd) :: .int mwr :: .int (nI K9) :: .int (nI KL) :: .ref moc :: .ref msT :: .ref mrV :: .ref msP :: .int mqs :: .ref mrA :: .ref mbA :: .ref mwA :: .ref mhA :: .ref mfA :: .ref mpA :: .ref mxA :: .ref myA :: .ref mmA :: .ref mqA :: .ref mzA :: .ref mwy :: .ref mfd :: .int msz :: .int (nI ([] : List Nat).length) :: .int (nI 0) :: .int (-1) :: .int mpt :: .int (nI m8) :: .int 10 :: .long tm :: .int 0 :: []))) kmsT hg_7 (fun e => hx_mo_msT.symm (congrArg Prod.fst e))
    have kmrV := Xc.setX (c' := .inr (12, (.int 0 :: .int (nI fd) :: .int mwr :: .int (nI K9) :: .int (nI KL) :: .ref moc :: .ref msT :: .ref mrV :: .ref msP :: .int mqs :: .ref mrA :: .ref mbA :: .ref mwA :: .ref mhA :: .ref mfA :: .ref mpA :: .ref mxA :: .ref myA :: .ref mmA :: .ref mqA :: .ref mzA :: .ref mwy :: .ref mfd :: .int msz :: .int (nI ([] : List Nat).length) :: .int (nI 0) :: .int (-1) :: .int mpt :: .int (nI m8) :: .int 10 :: .long tm :: .int 0 :: []))) kmrV hg_7 (fun e => hx_mo_mrV.symm (congrArg Prod.fst e))
    have kmfd := Xc.setX (c' := .inr (12, (.int 0 :: .int (nI fd) :: .int mwr :: .int (nI K9) :: .int (nI KL) :: .ref moc :: .ref msT :: .ref mrV :: .ref msP :: .int mqs :: .ref mrA :: .ref mbA :: .ref mwA :: .ref mhA :: .ref mfA :: .ref mpA :: .ref mxA :: .ref myA :: .ref mmA :: .ref mqA :: .ref mzA :: .ref mwy :: .ref mfd :: .int msz :: .int (nI ([] : List Nat).length) :: .int (nI 0) :: .int (-1) :: .int mpt :: .int (nI m8) :: .int 10 :: .long tm :: .int 0 :: []))) kmfd hg_7 (fun e => hx_mo_mfd.symm (congrArg Prod.fst e))
    have hFR := hFR.tr (FL.set (Ad := Ad) (X := [mo, mmA, mrA, mwy, mfd]) (c' := .inr (12, (.int 0 :: .int (nI fd) :: .int mwr :: .int (nI K9) :: .int (nI KL) :: .ref moc :: .ref msT :: .ref mrV :: .ref msP :: .int mqs :: .ref mrA :: .ref mbA :: .ref mwA :: .ref mhA :: .ref mfA :: .ref mpA :: .ref mxA :: .ref myA :: .ref mmA :: .ref mqA :: .ref mzA :: .ref mwy :: .ref mfd :: .int msz :: .int (nI ([] : List Nat).length) :: .int (nI 0) :: .int (-1) :: .int mpt :: .int (nI m8) :: .int 10 :: .long tm :: .int 0 :: []))) hg_7 (by simp))
    have hg_7 := set_here (c' := .inr (12, (.int 0 :: .int (nI fd) :: .int mwr :: .int (nI K9) :: .int (nI KL) :: .ref moc :: .ref msT :: .ref mrV :: .ref msP :: .int mqs :: .ref mrA :: .ref mbA :: .ref mwA :: .ref mhA :: .ref mfA :: .ref mpA :: .ref mxA :: .ref myA :: .ref mmA :: .ref mqA :: .ref mzA :: .ref mwy :: .ref mfd :: .int msz :: .int (nI ([] : List Nat).length) :: .int (nI 0) :: .int (-1) :: .int mpt :: .int (nI m8) :: .int 10 :: .long tm :: .int 0 :: []))) hg_7
    have kmo : Xc Ad mo (.inr (12, (.int 0 :: .int (nI fd) :: .int mwr :: .int (nI K9) :: .int (nI KL) :: .ref moc :: .ref msT :: .ref mrV :: .ref msP :: .int mqs :: .ref mrA :: .ref mbA :: .ref mwA :: .ref mhA :: .ref mfA :: .ref mpA :: .ref mxA :: .ref myA :: .ref mmA :: .ref mqA :: .ref mzA :: .ref mwy :: .ref mfd :: .int msz :: .int (nI ([] : List Nat).length) :: .int (nI 0) :: .int (-1) :: .int mpt :: .int (nI m8) :: .int 10 :: .long tm :: .int 0 :: []))) (G_18.set i_7 (mo, .inr (12, (.int 0 :: .int (nI fd) :: .int mwr :: .int (nI K9) :: .int (nI KL) :: .ref moc :: .ref msT :: .ref mrV :: .ref msP :: .int mqs :: .ref mrA :: .ref mbA :: .ref mwA :: .ref mhA :: .ref mfA :: .ref mpA :: .ref mxA :: .ref myA :: .ref mmA :: .ref mqA :: .ref mzA :: .ref mwy :: .ref mfd :: .int msz :: .int (nI ([] : List Nat).length) :: .int (nI 0) :: .int (-1) :: .int mpt :: .int (nI m8) :: .int 10 :: .long tm :: .int 0 :: [])))) := ⟨kmo.1, List.mem_of_getElem? hg_7⟩
    have hD := hD3
    clear hD3 hD2
    generalize G_18.set i_7 (mo, .inr (12, (.int 0 :: .int (nI fd) :: .int mwr :: .int (nI K9) :: .int (nI KL) :: .ref moc :: .ref msT :: .ref mrV :: .ref msP :: .int mqs :: .ref mrA :: .ref mbA :: .ref mwA :: .ref mhA :: .ref mfA :: .ref mpA :: .ref mxA :: .ref myA :: .ref mmA :: .ref mqA :: .ref mzA :: .ref mwy :: .ref mfd :: .int msz :: .int (nI ([] : List Nat).length) :: .int (nI 0) :: .int (-1) :: .int mpt :: .int (nI m8) :: .int 10 :: .long tm :: .int 0 :: []))) = G_20 at hP hD hTy hFR kmo kmmA kmrA kmwy kmsT kmrV kmfd hg_7
    obtain ⟨cX_21, eX_21⟩ : ∃ z : va_E, z = .inr (12, (.int 0 :: .int (nI fd) :: .int mwr :: .int (nI K9) :: .int (nI KL) :: .ref moc :: .ref msT :: .ref mrV :: .ref msP :: .int mqs :: .ref mrA :: .ref mbA :: .ref mwA :: .ref mhA :: .ref mfA :: .ref mpA :: .ref mxA :: .ref myA :: .ref mmA :: .ref mqA :: .ref mzA :: .ref mwy :: .ref mfd :: .int msz :: .int (nI ([] : List Nat).length) :: .int (nI 0) :: .int (-1) :: .int mpt :: .int (nI m8) :: .int 10 :: .long tm :: .int 0 :: [])) := ⟨_, rfl⟩
    rw [← eX_21] at kmo
    refine lv_aload_n hx hb d_Model_validate_78 rfl (lv_at hl 0 rfl) ?_
    refine lv_iconst (v := 1) hx hb d_Model_validate_79 (by decide) ?_
    rw [show (1 : Int32) = nI 1 from rfl]
    refine va_put (v := .int (nI 1)) (ty := .int) hx hb htb i_Model t_Model t_Model_ok n_Model hown hK hP hD hS i_7 hg_7 rfl 27 (by decide) (htb _ q8_1) (fun _ h9 => h9) rfl (by decide +kernel) rfl rfl (Nat.le_of_ble_eq_true rfl) d_Model_validate_80 (fun H80 locs hP hD2 hS => ?_)
    have hP : va_P (dC, dI) classes (G_20.set i_7 (mo, .inr (12, (.int 0 :: .int (nI fd) :: .int mwr :: .int (nI K9) :: .int (nI KL) :: .ref moc :: .ref msT :: .ref mrV :: .ref msP :: .int mqs :: .ref mrA :: .ref mbA :: .ref mwA :: .ref mhA :: .ref mfA :: .ref mpA :: .ref mxA :: .ref myA :: .ref mmA :: .ref mqA :: .ref mzA :: .ref mwy :: .ref mfd :: .int msz :: .int (nI ([] : List Nat).length) :: .int (nI 0) :: .int (-1) :: .int (nI 1) :: .int (nI m8) :: .int 10 :: .long tm :: .int 0 :: [])))) H80 := hP
    have hD3 : va_D A (G_20.set i_7 (mo, .inr (12, (.int 0 :: .int (nI fd) :: .int mwr :: .int (nI K9) :: .int (nI KL) :: .ref moc :: .ref msT :: .ref mrV :: .ref msP :: .int mqs :: .ref mrA :: .ref mbA :: .ref mwA :: .ref mhA :: .ref mfA :: .ref mpA :: .ref mxA :: .ref myA :: .ref mmA :: .ref mqA :: .ref mzA :: .ref mwy :: .ref mfd :: .int msz :: .int (nI ([] : List Nat).length) :: .int (nI 0) :: .int (-1) :: .int (nI 1) :: .int (nI m8) :: .int 10 :: .long tm :: .int 0 :: [])))) := hD2
    have hTy := TR.setX (c' := .inr (12, (.int 0 :: .int (nI fd) :: .int mwr :: .int (nI K9) :: .int (nI KL) :: .ref moc :: .ref msT :: .ref mrV :: .ref msP :: .int mqs :: .ref mrA :: .ref mbA :: .ref mwA :: .ref mhA :: .ref mfA :: .ref mpA :: .ref mxA :: .ref myA :: .ref mmA :: .ref mqA :: .ref mzA :: .ref mwy :: .ref mfd :: .int msz :: .int (nI ([] : List Nat).length) :: .int (nI 0) :: .int (-1) :: .int (nI 1) :: .int (nI m8) :: .int 10 :: .long tm :: .int 0 :: []))) hTy hg_7 kmo.1
    have kmmA := Xc.setX (c' := .inr (12, (.int 0 :: .int (nI fd) :: .int mwr :: .int (nI K9) :: .int (nI KL) :: .ref moc :: .ref msT :: .ref mrV :: .ref msP :: .int mqs :: .ref mrA :: .ref mbA :: .ref mwA :: .ref mhA :: .ref mfA :: .ref mpA :: .ref mxA :: .ref myA :: .ref mmA :: .ref mqA :: .ref mzA :: .ref mwy :: .ref mfd :: .int msz :: .int (nI ([] : List Nat).length) :: .int (nI 0) :: .int (-1) :: .int (nI 1) :: .int (nI m8) :: .int 10 :: .long tm :: .int 0 :: []))) kmmA hg_7 (fun e => hx_mo_mmA.symm (congrArg Prod.fst e))
    have kmrA := Xc.setX (c' := .inr (12, (.int 0 :: .int (nI fd) :: .int mwr :: .int (nI K9) :: .int (nI KL) :: .ref moc :: .ref msT :: .ref mrV :: .ref msP :: .int mqs :: .ref mrA :: .ref mbA :: .ref mwA :: .ref mhA :: .ref mfA :: .ref mpA :: .ref mxA :: .ref myA :: .ref mmA :: .ref mqA :: .ref mzA :: .ref mwy :: .ref mfd :: .int msz :: .int (nI ([] : List Nat).length) :: .int (nI 0) :: .int (-1) :: .int (nI 1) :: .int (nI m8) :: .int 10 :: .long tm :: .int 0 :: []))) kmrA hg_7 (fun e => hx_mo_mrA.symm (congrArg Prod.fst e))
    have kmwy := Xc.setX (c' := .inr (12, (.int 0 :: .int (nI fd) :: .int mwr :: .int (nI K9) :: .int (nI KL) :: .ref moc :: .ref msT :: .ref mrV :: .ref msP :: .int mqs :: .ref mrA :: .ref mbA :: .ref mwA :: .ref mhA :: .ref mfA :: .ref mpA :: .ref mxA :: .ref myA :: .ref mmA :: .ref mqA :: .ref mzA :: .ref mwy :: .ref mfd :: .int msz :: .int (nI ([] : List Nat).length) :: .int (nI 0) :: .int (-1) :: .int (nI 1) :: .int (nI m8) :: .int 10 :: .long tm :: .int 0 :: []))) kmwy hg_7 (fun e => hx_mo_mwy.symm (congrArg Prod.fst e))
    have kmsT := Xc.setX (c' := .inr (12, (.int 0 :: .int (nI fd) :: .int mwr :: .int (nI K9) :: .int (nI KL) :: .ref moc :: .ref msT :: .ref mrV :: .ref msP :: .int mqs :: .ref mrA :: .ref mbA :: .ref mwA :: .ref mhA :: .ref mfA :: .ref mpA :: .ref mxA :: .ref myA :: .ref mmA :: .ref mqA :: .ref mzA :: .ref mwy :: .ref mfd :: .int msz :: .int (nI ([] : List Nat).length) :: .int (nI 0) :: .int (-1) :: .int (nI 1) :: .int (nI m8) :: .int 10 :: .long tm :: .int 0 :: []))) kmsT hg_7 (fun e => hx_mo_msT.symm (congrArg Prod.fst e))
    have kmrV := Xc.setX (c' := .inr (12, (.int 0 :: .int (nI fd) :: .int mwr :: .int (nI K9) :: .int (nI KL) :: .ref moc :: .ref msT :: .ref mrV :: .ref msP :: .int mqs :: .ref mrA :: .ref mbA :: .ref mwA :: .ref mhA :: .ref mfA :: .ref mpA :: .ref mxA :: .ref myA :: .ref mmA :: .ref mqA :: .ref mzA :: .ref mwy :: .ref mfd :: .int msz :: .int (nI ([] : List Nat).length) :: .int (nI 0) :: .int (-1) :: .int (nI 1) :: .int (nI m8) :: .int 10 :: .long tm :: .int 0 :: []))) kmrV hg_7 (fun e => hx_mo_mrV.symm (congrArg Prod.fst e))
    have kmfd := Xc.setX (c' := .inr (12, (.int 0 :: .int (nI fd) :: .int mwr :: .int (nI K9) :: .int (nI KL) :: .ref moc :: .ref msT :: .ref mrV :: .ref msP :: .int mqs :: .ref mrA :: .ref mbA :: .ref mwA :: .ref mhA :: .ref mfA :: .ref mpA :: .ref mxA :: .ref myA :: .ref mmA :: .ref mqA :: .ref mzA :: .ref mwy :: .ref mfd :: .int msz :: .int (nI ([] : List Nat).length) :: .int (nI 0) :: .int (-1) :: .int (nI 1) :: .int (nI m8) :: .int 10 :: .long tm :: .int 0 :: []))) kmfd hg_7 (fun e => hx_mo_mfd.symm (congrArg Prod.fst e))
    have hFR := hFR.tr (FL.set (Ad := Ad) (X := [mo, mmA, mrA, mwy, mfd]) (c' := .inr (12, (.int 0 :: .int (nI fd) :: .int mwr :: .int (nI K9) :: .int (nI KL) :: .ref moc :: .ref msT :: .ref mrV :: .ref msP :: .int mqs :: .ref mrA :: .ref mbA :: .ref mwA :: .ref mhA :: .ref mfA :: .ref mpA :: .ref mxA :: .ref myA :: .ref mmA :: .ref mqA :: .ref mzA :: .ref mwy :: .ref mfd :: .int msz :: .int (nI ([] : List Nat).length) :: .int (nI 0) :: .int (-1) :: .int (nI 1) :: .int (nI m8) :: .int 10 :: .long tm :: .int 0 :: []))) hg_7 (by simp))
    have hg_7 := set_here (c' := .inr (12, (.int 0 :: .int (nI fd) :: .int mwr :: .int (nI K9) :: .int (nI KL) :: .ref moc :: .ref msT :: .ref mrV :: .ref msP :: .int mqs :: .ref mrA :: .ref mbA :: .ref mwA :: .ref mhA :: .ref mfA :: .ref mpA :: .ref mxA :: .ref myA :: .ref mmA :: .ref mqA :: .ref mzA :: .ref mwy :: .ref mfd :: .int msz :: .int (nI ([] : List Nat).length) :: .int (nI 0) :: .int (-1) :: .int (nI 1) :: .int (nI m8) :: .int 10 :: .long tm :: .int 0 :: []))) hg_7
    have kmo : Xc Ad mo (.inr (12, (.int 0 :: .int (nI fd) :: .int mwr :: .int (nI K9) :: .int (nI KL) :: .ref moc :: .ref msT :: .ref mrV :: .ref msP :: .int mqs :: .ref mrA :: .ref mbA :: .ref mwA :: .ref mhA :: .ref mfA :: .ref mpA :: .ref mxA :: .ref myA :: .ref mmA :: .ref mqA :: .ref mzA :: .ref mwy :: .ref mfd :: .int msz :: .int (nI ([] : List Nat).length) :: .int (nI 0) :: .int (-1) :: .int (nI 1) :: .int (nI m8) :: .int 10 :: .long tm :: .int 0 :: []))) (G_20.set i_7 (mo, .inr (12, (.int 0 :: .int (nI fd) :: .int mwr :: .int (nI K9) :: .int (nI KL) :: .ref moc :: .ref msT :: .ref mrV :: .ref msP :: .int mqs :: .ref mrA :: .ref mbA :: .ref mwA :: .ref mhA :: .ref mfA :: .ref mpA :: .ref mxA :: .ref myA :: .ref mmA :: .ref mqA :: .ref mzA :: .ref mwy :: .ref mfd :: .int msz :: .int (nI ([] : List Nat).length) :: .int (nI 0) :: .int (-1) :: .int (nI 1) :: .int (nI m8) :: .int 10 :: .long tm :: .int 0 :: [])))) := ⟨kmo.1, List.mem_of_getElem? hg_7⟩
    have hD := hD3
    clear hD3 hD2
    generalize G_20.set i_7 (mo, .inr (12, (.int 0 :: .int (nI fd) :: .int mwr :: .int (nI K9) :: .int (nI KL) :: .ref moc :: .ref msT :: .ref mrV :: .ref msP :: .int mqs :: .ref mrA :: .ref mbA :: .ref mwA :: .ref mhA :: .ref mfA :: .ref mpA :: .ref mxA :: .ref myA :: .ref mmA :: .ref mqA :: .ref mzA :: .ref mwy :: .ref mfd :: .int msz :: .int (nI ([] : List Nat).length) :: .int (nI 0) :: .int (-1) :: .int (nI 1) :: .int (nI m8) :: .int 10 :: .long tm :: .int 0 :: []))) = G_22 at hP hD hTy hFR kmo kmmA kmrA kmwy kmsT kmrV kmfd hg_7
    obtain ⟨cX_23, eX_23⟩ : ∃ z : va_E, z = .inr (12, (.int 0 :: .int (nI fd) :: .int mwr :: .int (nI K9) :: .int (nI KL) :: .ref moc :: .ref msT :: .ref mrV :: .ref msP :: .int mqs :: .ref mrA :: .ref mbA :: .ref mwA :: .ref mhA :: .ref mfA :: .ref mpA :: .ref mxA :: .ref myA :: .ref mmA :: .ref mqA :: .ref mzA :: .ref mwy :: .ref mfd :: .int msz :: .int (nI ([] : List Nat).length) :: .int (nI 0) :: .int (-1) :: .int (nI 1) :: .int (nI m8) :: .int 10 :: .long tm :: .int 0 :: [])) := ⟨_, rfl⟩
    rw [← eX_23] at kmo
    refine lv_aload_n hx hb d_Model_validate_83 rfl (lv_at hl 0 rfl) ?_
    refine va_get (v := .ref mwy) hx hb htb i_Model hown hK hP i_7 hg_7 rfl 21 (by decide) (htb _ q7_235) (fun _ h9 => h9) rfl d_Model_validate_84 ?_
    refine lv_iconst (v := 0) hx hb d_Model_validate_87 (by decide) ?_
    refine lv_iload_n hx hb d_Model_validate_88 rfl (lv_at hl 1 rfl) ?_
    obtain ⟨i_24, hg_24⟩ := List.getElem?_of_mem kmwy.2
    have h89 : vp_in (0 : Int32) 16 := (by unfold vp_in; decide)
    refine va_iast hx hb hK hP hD hS i_24 1 hg_24 rfl h89 d_Model_validate_89 (fun H89 locs hP hD2 hS => ?_)
    obtain ⟨f89, ef89⟩ : ∃ z : Nat → Int32, z = upd fw (0 : Int32).toNatClampNeg (nI k9) := ⟨_, rfl⟩
    rw [← ef89] at hP hD2
    have hP : va_P (dC, dI) classes (G_22.set i_24 (mwy, .inl (γ.2.1, 16, .inl f89))) H89 := hP
    have hD3 : va_D A (G_22.set i_24 (mwy, .inl (γ.2.1, 16, .inl f89))) := hD2
    have hTy := TR.setX (c' := .inl (γ.2.1, 16, .inl f89)) hTy hg_24 kmwy.1
    have kmo := Xc.setX (c' := .inl (γ.2.1, 16, .inl f89)) kmo hg_24 (fun e => hx_mo_mwy (congrArg Prod.fst e))
    have kmmA := Xc.setX (c' := .inl (γ.2.1, 16, .inl f89)) kmmA hg_24 (fun e => hx_mmA_mwy (congrArg Prod.fst e))
    have kmrA := Xc.setX (c' := .inl (γ.2.1, 16, .inl f89)) kmrA hg_24 (fun e => hx_mrA_mwy (congrArg Prod.fst e))
    have kmsT := Xc.setX (c' := .inl (γ.2.1, 16, .inl f89)) kmsT hg_24 (fun e => hx_mwy_msT.symm (congrArg Prod.fst e))
    have kmrV := Xc.setX (c' := .inl (γ.2.1, 16, .inl f89)) kmrV hg_24 (fun e => hx_mwy_mrV.symm (congrArg Prod.fst e))
    have kmfd := Xc.setX (c' := .inl (γ.2.1, 16, .inl f89)) kmfd hg_24 (fun e => hx_mwy_mfd.symm (congrArg Prod.fst e))
    have hFR := hFR.tr (FL.set (Ad := Ad) (X := [mo, mmA, mrA, mwy, mfd]) (c' := .inl (γ.2.1, 16, .inl f89)) hg_24 (by simp))
    have hg_24 := set_here (c' := .inl (γ.2.1, 16, .inl f89)) hg_24
    have kmwy : Xc Ad mwy (.inl (γ.2.1, 16, .inl f89)) (G_22.set i_24 (mwy, .inl (γ.2.1, 16, .inl f89))) := ⟨kmwy.1, List.mem_of_getElem? hg_24⟩
    have hD := hD3
    clear hD3 hD2
    generalize G_22.set i_24 (mwy, .inl (γ.2.1, 16, .inl f89)) = G_25 at hP hD hTy hFR kmo kmmA kmrA kmwy kmsT kmrV kmfd hg_24
    refine lv_aload_n hx hb d_Model_validate_90 rfl (lv_at hl 0 rfl) ?_
    refine lv_iconst (v := 1) hx hb d_Model_validate_91 (by decide) ?_
    rw [show (1 : Int32) = nI 1 from rfl]
    obtain ⟨i_26, hg_26⟩ := List.getElem?_of_mem kmo.2
    rw [eX_23] at hg_26
    refine va_put (v := .int (nI 1)) (ty := .int) hx hb htb i_Model t_Model t_Model_ok n_Model hown hK hP hD hS i_26 hg_26 rfl 23 (by decide) (htb _ q7_237) (fun _ h9 => h9) rfl (by decide +kernel) rfl rfl (Nat.le_of_ble_eq_true rfl) d_Model_validate_92 (fun H92 locs hP hD2 hS => ?_)
    have hP : va_P (dC, dI) classes (G_25.set i_26 (mo, .inr (12, (.int 0 :: .int (nI fd) :: .int mwr :: .int (nI K9) :: .int (nI KL) :: .ref moc :: .ref msT :: .ref mrV :: .ref msP :: .int mqs :: .ref mrA :: .ref mbA :: .ref mwA :: .ref mhA :: .ref mfA :: .ref mpA :: .ref mxA :: .ref myA :: .ref mmA :: .ref mqA :: .ref mzA :: .ref mwy :: .ref mfd :: .int (nI 1) :: .int (nI ([] : List Nat).length) :: .int (nI 0) :: .int (-1) :: .int (nI 1) :: .int (nI m8) :: .int 10 :: .long tm :: .int 0 :: [])))) H92 := hP
    have hD3 : va_D A (G_25.set i_26 (mo, .inr (12, (.int 0 :: .int (nI fd) :: .int mwr :: .int (nI K9) :: .int (nI KL) :: .ref moc :: .ref msT :: .ref mrV :: .ref msP :: .int mqs :: .ref mrA :: .ref mbA :: .ref mwA :: .ref mhA :: .ref mfA :: .ref mpA :: .ref mxA :: .ref myA :: .ref mmA :: .ref mqA :: .ref mzA :: .ref mwy :: .ref mfd :: .int (nI 1) :: .int (nI ([] : List Nat).length) :: .int (nI 0) :: .int (-1) :: .int (nI 1) :: .int (nI m8) :: .int 10 :: .long tm :: .int 0 :: [])))) := hD2
    have hTy := TR.setX (c' := .inr (12, (.int 0 :: .int (nI fd) :: .int mwr :: .int (nI K9) :: .int (nI KL) :: .ref moc :: .ref msT :: .ref mrV :: .ref msP :: .int mqs :: .ref mrA :: .ref mbA :: .ref mwA :: .ref mhA :: .ref mfA :: .ref mpA :: .ref mxA :: .ref myA :: .ref mmA :: .ref mqA :: .ref mzA :: .ref mwy :: .ref mfd :: .int (nI 1) :: .int (nI ([] : List Nat).length) :: .int (nI 0) :: .int (-1) :: .int (nI 1) :: .int (nI m8) :: .int 10 :: .long tm :: .int 0 :: []))) hTy hg_26 kmo.1
    have kmmA := Xc.setX (c' := .inr (12, (.int 0 :: .int (nI fd) :: .int mwr :: .int (nI K9) :: .int (nI KL) :: .ref moc :: .ref msT :: .ref mrV :: .ref msP :: .int mqs :: .ref mrA :: .ref mbA :: .ref mwA :: .ref mhA :: .ref mfA :: .ref mpA :: .ref mxA :: .ref myA :: .ref mmA :: .ref mqA :: .ref mzA :: .ref mwy :: .ref mfd :: .int (nI 1) :: .int (nI ([] : List Nat).length) :: .int (nI 0) :: .int (-1) :: .int (nI 1) :: .int (nI m8) :: .int 10 :: .long tm :: .int 0 :: []))) kmmA hg_26 (fun e => hx_mo_mmA.symm (congrArg Prod.fst e))
    have kmrA := Xc.setX (c' := .inr (12, (.int 0 :: .int (nI fd) :: .int mwr :: .int (nI K9) :: .int (nI KL) :: .ref moc :: .ref msT :: .ref mrV :: .ref msP :: .int mqs :: .ref mrA :: .ref mbA :: .ref mwA :: .ref mhA :: .ref mfA :: .ref mpA :: .ref mxA :: .ref myA :: .ref mmA :: .ref mqA :: .ref mzA :: .ref mwy :: .ref mfd :: .int (nI 1) :: .int (nI ([] : List Nat).length) :: .int (nI 0) :: .int (-1) :: .int (nI 1) :: .int (nI m8) :: .int 10 :: .long tm :: .int 0 :: []))) kmrA hg_26 (fun e => hx_mo_mrA.symm (congrArg Prod.fst e))
    have kmwy := Xc.setX (c' := .inr (12, (.int 0 :: .int (nI fd) :: .int mwr :: .int (nI K9) :: .int (nI KL) :: .ref moc :: .ref msT :: .ref mrV :: .ref msP :: .int mqs :: .ref mrA :: .ref mbA :: .ref mwA :: .ref mhA :: .ref mfA :: .ref mpA :: .ref mxA :: .ref myA :: .ref mmA :: .ref mqA :: .ref mzA :: .ref mwy :: .ref mfd :: .int (nI 1) :: .int (nI ([] : List Nat).length) :: .int (nI 0) :: .int (-1) :: .int (nI 1) :: .int (nI m8) :: .int 10 :: .long tm :: .int 0 :: []))) kmwy hg_26 (fun e => hx_mo_mwy.symm (congrArg Prod.fst e))
    have kmsT := Xc.setX (c' := .inr (12, (.int 0 :: .int (nI fd) :: .int mwr :: .int (nI K9) :: .int (nI KL) :: .ref moc :: .ref msT :: .ref mrV :: .ref msP :: .int mqs :: .ref mrA :: .ref mbA :: .ref mwA :: .ref mhA :: .ref mfA :: .ref mpA :: .ref mxA :: .ref myA :: .ref mmA :: .ref mqA :: .ref mzA :: .ref mwy :: .ref mfd :: .int (nI 1) :: .int (nI ([] : List Nat).length) :: .int (nI 0) :: .int (-1) :: .int (nI 1) :: .int (nI m8) :: .int 10 :: .long tm :: .int 0 :: []))) kmsT hg_26 (fun e => hx_mo_msT.symm (congrArg Prod.fst e))
    have kmrV := Xc.setX (c' := .inr (12, (.int 0 :: .int (nI fd) :: .int mwr :: .int (nI K9) :: .int (nI KL) :: .ref moc :: .ref msT :: .ref mrV :: .ref msP :: .int mqs :: .ref mrA :: .ref mbA :: .ref mwA :: .ref mhA :: .ref mfA :: .ref mpA :: .ref mxA :: .ref myA :: .ref mmA :: .ref mqA :: .ref mzA :: .ref mwy :: .ref mfd :: .int (nI 1) :: .int (nI ([] : List Nat).length) :: .int (nI 0) :: .int (-1) :: .int (nI 1) :: .int (nI m8) :: .int 10 :: .long tm :: .int 0 :: []))) kmrV hg_26 (fun e => hx_mo_mrV.symm (congrArg Prod.fst e))
    have kmfd := Xc.setX (c' := .inr (12, (.int 0 :: .int (nI fd) :: .int mwr :: .int (nI K9) :: .int (nI KL) :: .ref moc :: .ref msT :: .ref mrV :: .ref msP :: .int mqs :: .ref mrA :: .ref mbA :: .ref mwA :: .ref mhA :: .ref mfA :: .ref mpA :: .ref mxA :: .ref myA :: .ref mmA :: .ref mqA :: .ref mzA :: .ref mwy :: .ref mfd :: .int (nI 1) :: .int (nI ([] : List Nat).length) :: .int (nI 0) :: .int (-1) :: .int (nI 1) :: .int (nI m8) :: .int 10 :: .long tm :: .int 0 :: []))) kmfd hg_26 (fun e => hx_mo_mfd.symm (congrArg Prod.fst e))
    have hFR := hFR.tr (FL.set (Ad := Ad) (X := [mo, mmA, mrA, mwy, mfd]) (c' := .inr (12, (.int 0 :: .int (nI fd) :: .int mwr :: .int (nI K9) :: .int (nI KL) :: .ref moc :: .ref msT :: .ref mrV :: .ref msP :: .int mqs :: .ref mrA :: .ref mbA :: .ref mwA :: .ref mhA :: .ref mfA :: .ref mpA :: .ref mxA :: .ref myA :: .ref mmA :: .ref mqA :: .ref mzA :: .ref mwy :: .ref mfd :: .int (nI 1) :: .int (nI ([] : List Nat).length) :: .int (nI 0) :: .int (-1) :: .int (nI 1) :: .int (nI m8) :: .int 10 :: .long tm :: .int 0 :: []))) hg_26 (by simp))
    have hg_26 := set_here (c' := .inr (12, (.int 0 :: .int (nI fd) :: .int mwr :: .int (nI K9) :: .int (nI KL) :: .ref moc :: .ref msT :: .ref mrV :: .ref msP :: .int mqs :: .ref mrA :: .ref mbA :: .ref mwA :: .ref mhA :: .ref mfA :: .ref mpA :: .ref mxA :: .ref myA :: .ref mmA :: .ref mqA :: .ref mzA :: .ref mwy :: .ref mfd :: .int (nI 1) :: .int (nI ([] : List Nat).length) :: .int (nI 0) :: .int (-1) :: .int (nI 1) :: .int (nI m8) :: .int 10 :: .long tm :: .int 0 :: []))) hg_26
    have kmo : Xc Ad mo (.inr (12, (.int 0 :: .int (nI fd) :: .int mwr :: .int (nI K9) :: .int (nI KL) :: .ref moc :: .ref msT :: .ref mrV :: .ref msP :: .int mqs :: .ref mrA :: .ref mbA :: .ref mwA :: .ref mhA :: .ref mfA :: .ref mpA :: .ref mxA :: .ref myA :: .ref mmA :: .ref mqA :: .ref mzA :: .ref mwy :: .ref mfd :: .int (nI 1) :: .int (nI ([] : List Nat).length) :: .int (nI 0) :: .int (-1) :: .int (nI 1) :: .int (nI m8) :: .int 10 :: .long tm :: .int 0 :: []))) (G_25.set i_26 (mo, .inr (12, (.int 0 :: .int (nI fd) :: .int mwr :: .int (nI K9) :: .int (nI KL) :: .ref moc :: .ref msT :: .ref mrV :: .ref msP :: .int mqs :: .ref mrA :: .ref mbA :: .ref mwA :: .ref mhA :: .ref mfA :: .ref mpA :: .ref mxA :: .ref myA :: .ref mmA :: .ref mqA :: .ref mzA :: .ref mwy :: .ref mfd :: .int (nI 1) :: .int (nI ([] : List Nat).length) :: .int (nI 0) :: .int (-1) :: .int (nI 1) :: .int (nI m8) :: .int 10 :: .long tm :: .int 0 :: [])))) := ⟨kmo.1, List.mem_of_getElem? hg_26⟩
    have hD := hD3
    clear hD3 hD2
    generalize G_25.set i_26 (mo, .inr (12, (.int 0 :: .int (nI fd) :: .int mwr :: .int (nI K9) :: .int (nI KL) :: .ref moc :: .ref msT :: .ref mrV :: .ref msP :: .int mqs :: .ref mrA :: .ref mbA :: .ref mwA :: .ref mhA :: .ref mfA :: .ref mpA :: .ref mxA :: .ref myA :: .ref mmA :: .ref mqA :: .ref mzA :: .ref mwy :: .ref mfd :: .int (nI 1) :: .int (nI ([] : List Nat).length) :: .int (nI 0) :: .int (-1) :: .int (nI 1) :: .int (nI m8) :: .int 10 :: .long tm :: .int 0 :: []))) = G_27 at hP hD hTy hFR kmo kmmA kmrA kmwy kmsT kmrV kmfd hg_26
    obtain ⟨cX_28, eX_28⟩ : ∃ z : va_E, z = .inr (12, (.int 0 :: .int (nI fd) :: .int mwr :: .int (nI K9) :: .int (nI KL) :: .ref moc :: .ref msT :: .ref mrV :: .ref msP :: .int mqs :: .ref mrA :: .ref mbA :: .ref mwA :: .ref mhA :: .ref mfA :: .ref mpA :: .ref mxA :: .ref myA :: .ref mmA :: .ref mqA :: .ref mzA :: .ref mwy :: .ref mfd :: .int (nI 1) :: .int (nI ([] : List Nat).length) :: .int (nI 0) :: .int (-1) :: .int (nI 1) :: .int (nI m8) :: .int 10 :: .long tm :: .int 0 :: [])) := ⟨_, rfl⟩
    rw [← eX_28] at kmo
    have hwx : wyR [k9] K9 f89 := wy_1 ef89 hk9
    refine lv_aload_n hx hb d_Model_validate_95 rfl (lv_at hl 0 rfl) ?_
    have hFc := va_free (wc := G_27) hD hS hA (List.range G_27.length) (rg_is _)
    refine va_calli (mu_runV (As := []) (rest := []) ⟨hx, hb, hml, hown, hts⟩ tbin (m_Model_goOn_all l dC dI sb γ κ Ad τ gT (m8 - 1) G_27 mo _ _ _ _ _ _ _ _ _ _ _ _ _ _ _ _ _ _ _ _ _ _ _ _ _ _ _ _ _ _ _ _ _ _ _ _ _ _ _ H92.size hTy (by have h9 := kmo; rw [eX_28] at h9; exact h9) kmmA kmrA kmwy kmsT kmrV kmfd kmzA kmqA kmyA kmxA kmbA kmwA kmhA kmpA kmfA hx_mo_mmA hx_mo_mrA hx_mo_mwy hx_mo_msT hx_mo_mrV hx_mo_mfd hx_mmA_mrA hx_mmA_mwy hx_mmA_msT hx_mmA_mrV hx_mmA_mfd hx_mrA_mwy hx_mrA_msT hx_mrA_mrV hx_mrA_mfd hx_mwy_msT hx_mwy_mrV hx_mwy_mfd hx_msT_mrV hx_msT_mfd hx_mrV_mfd hst hrv hwx (show [k9].length = 1 from rfl) (by omega) (by omega) (by omega) hfm hfr (Or.inl rfl) hma (by omega) (fdR_0 ff) (by omega) (by omega) (by omega) (by omega)) q9_133 q9_135 qp_45 q1_9 q9_136 (n := 0) (by decide +kernel) rfl ⟨rfl, rfl⟩ ⟨show (m8 - 1 + 8) + 1 ≤ 24 by omega, show 8 + (4 + 11) + ((m8 - 1) * 23 + 190) ≤ 558 by omega⟩ ⟨Nat.le_of_ble_eq_true rfl, Nat.le_of_ble_eq_true rfl⟩ hN (hT0.keep hS hAs) hAs (Nat.le_trans hB0 hS.1) hK hP hD (List.range G_27.length) (rg_nd _) (rg_is _) [0, 1, 2, 3, 4] rfl i_26 12 hg_26 rfl rfl hl.1 rfl (Nat.le_of_ble_eq_true rfl) d_Model_validate_96) hS (fun q _ h => hFc q h) hFc (fun r96 G_29 tS H96 locs ht hvm hw96 hB hz1 hk1 hS => ?_)
    obtain ⟨hTy, hF9, hr96⟩ := hw96
    have kmsT := kmsT.fl hF9 (q_nmc (hx_mo_msT.symm) (q_nmc (hx_mmA_msT.symm) (q_nmc (hx_mrA_msT.symm) (q_nmc (hx_mwy_msT.symm) (q_nmc (hx_msT_mfd) (q_nmn))))))
    have kmrV := kmrV.fl hF9 (q_nmc (hx_mo_mrV.symm) (q_nmc (hx_mmA_mrV.symm) (q_nmc (hx_mrA_mrV.symm) (q_nmc (hx_mwy_mrV.symm) (q_nmc (hx_mrV_mfd) (q_nmn))))))
    have hFR := hFR.tr (hF9.up (q_gac (by simp) (q_gac (by simp) (q_gac (by simp) (q_gac (by simp) (q_gac (by simp) (q_gan)))))))
    obtain ⟨hP1, hK1, hD1⟩ := hB
    rw [ht] at hP1
    have hP : va_P (dC, dI) classes G_29 H96 := hP1
    have hD : va_D A G_29 := hD1.weaken (fun _ _ _ h => hFc _ h)
    obtain ⟨hr96, ⟨q96, kmo⟩, ⟨fa96, hfm, kmmA⟩, ⟨fb96, hfr, kmrA⟩, ⟨fd96, hfd, kmfd⟩, ⟨fc96, hfc96, kmwy⟩⟩ := hr96
    obtain ⟨qv, eqv⟩ : ∃ q : Bool × sS, q = gR K9 (rFO τ fS) (rTR τ fS) (rFL τ fS fV KL tm 0) (m8 - 1) [k9].reverse (1, 0, [], 10, -1) := ⟨_, rfl⟩
    rw [← eqv] at hr96 kmo hfd
    have eV : rVQ τ fS fV K9 KL tm (nI 0) k9 m8 = qv.2 := by rw [eqv]; rfl
    have hv0 : qv.2.2.2.2.1 = 0 → qv.2.2.2.2.2 = -1 := by rw [eqv]; exact gR_v (fun w => flG_z _) _ _ _ (fun h9 => absurd h9 (by decide))
    obtain ⟨cX_30, eX_30⟩ : ∃ z : va_E, z = .inr (12, (.int 0 :: .int (nI fd) :: .int mwr :: .int (nI K9) :: .int (nI KL) :: .ref moc :: .ref msT :: .ref mrV :: .ref msP :: .int q96 :: .ref mrA :: .ref mbA :: .ref mwA :: .ref mhA :: .ref mfA :: .ref mpA :: .ref mxA :: .ref myA :: .ref mmA :: .ref mqA :: .ref mzA :: .ref mwy :: .ref mfd :: .int (nI 1) :: .int (nI qv.2.2.2.1.length) :: .int (nI qv.2.2.1) :: .int qv.2.2.2.2.2 :: .int (nI qv.2.1) :: .int (nI m8) :: .int qv.2.2.2.2.1 :: .long tm :: .int 0 :: [])) := ⟨_, rfl⟩
    rw [← eX_30] at kmo
    refine lv_pop hx hb d_Model_validate_99 rfl ?_
    refine lv_aload_n hx hb d_Model_validate_100 rfl (lv_at hl 0 rfl) ?_
    obtain ⟨i_31, hg_31⟩ := List.getElem?_of_mem kmo.2
    rw [eX_30] at hg_31
    refine va_get (v := .int qv.2.2.2.2.1) hx hb htb i_Model hown hK hP i_31 hg_31 rfl 29 (by decide) (htb _ q8_3) (fun _ h9 => h9) rfl d_Model_validate_101 ?_
    refine lv_if_ne (tgt := 112) hx hb d_Model_validate_104 (by decide) (fun c104 => ?_) (fun c104 => ?_)
    · have p104 : ¬ (qv.2.2.2.2.1 = (0 : Int32)) := c104
      refine lv_aload_n hx hb d_Model_validate_112 rfl (lv_at hl 0 rfl) ?_
      refine va_get (v := .int qv.2.2.2.2.1) hx hb htb i_Model hown hK hP i_31 hg_31 rfl 29 (by decide) (htb _ q8_3) (fun _ h9 => h9) rfl d_Model_validate_113 ?_
      exact W.iret (v := qv.2.2.2.2.1) hx hb hr (fun t ht hW => ⟨⟨_, G_29, rfl, ⟨hTy, hFR, by rw [eV], ⟨_, by rw [eV]; rw [eX_30] at kmo; exact kmo⟩, ⟨_, hfm, kmmA⟩, ⟨_, hfr, kmrA⟩, ⟨_, kmwy⟩, ⟨_, by rw [eV]; exact hfd, kmfd⟩⟩, by rw [ht]; exact hP, va_K.moved hW.alike hK, hD⟩, hS.F ht⟩) hS.2.2 d_Model_validate_116
    · have p104 : qv.2.2.2.2.1 = (0 : Int32) := c104
      refine lv_aload_n hx hb d_Model_validate_107 rfl (lv_at hl 0 rfl) ?_
      refine lv_iconst (v := -1) hx hb d_Model_validate_108 (by decide) ?_
      refine va_put (v := .int (-1)) (ty := .int) hx hb htb i_Model t_Model t_Model_ok n_Model hown hK hP hD hS i_31 hg_31 rfl 26 (by decide) (htb _ q8_0) (fun _ h9 => h9) rfl (by decide +kernel) rfl rfl (Nat.le_of_ble_eq_true rfl) d_Model_validate_109 (fun H109 locs hP hD2 hS => ?_)
      have hP : va_P (dC, dI) classes (G_29.set i_31 (mo, .inr (12, (.int 0 :: .int (nI fd) :: .int mwr :: .int (nI K9) :: .int (nI KL) :: .ref moc :: .ref msT :: .ref mrV :: .ref msP :: .int q96 :: .ref mrA :: .ref mbA :: .ref mwA :: .ref mhA :: .ref mfA :: .ref mpA :: .ref mxA :: .ref myA :: .ref mmA :: .ref mqA :: .ref mzA :: .ref mwy :: .ref mfd :: .int (nI 1) :: .int (nI qv.2.2.2.1.length) :: .int (nI qv.2.2.1) :: .int (-1) :: .int (nI qv.2.1) :: .int (nI m8) :: .int qv.2.2.2.2.1 :: .long tm :: .int 0 :: [])))) H109 := hP
      have hD3 : va_D A (G_29.set i_31 (mo, .inr (12, (.int 0 :: .int (nI fd) :: .int mwr :: .int (nI K9) :: .int (nI KL) :: .ref moc :: .ref msT :: .ref mrV :: .ref msP :: .int q96 :: .ref mrA :: .ref mbA :: .ref mwA :: .ref mhA :: .ref mfA :: .ref mpA :: .ref mxA :: .ref myA :: .ref mmA :: .ref mqA :: .ref mzA :: .ref mwy :: .ref mfd :: .int (nI 1) :: .int (nI qv.2.2.2.1.length) :: .int (nI qv.2.2.1) :: .int (-1) :: .int (nI qv.2.1) :: .int (nI m8) :: .int qv.2.2.2.2.1 :: .long tm :: .int 0 :: [])))) := hD2
      have hTy := TR.setX (c' := .inr (12, (.int 0 :: .int (nI fd) :: .int mwr :: .int (nI K9) :: .int (nI KL) :: .ref moc :: .ref msT :: .ref mrV :: .ref msP :: .int q96 :: .ref mrA :: .ref mbA :: .ref mwA :: .ref mhA :: .ref mfA :: .ref mpA :: .ref mxA :: .ref myA :: .ref mmA :: .ref mqA :: .ref mzA :: .ref mwy :: .ref mfd :: .int (nI 1) :: .int (nI qv.2.2.2.1.length) :: .int (nI qv.2.2.1) :: .int (-1) :: .int (nI qv.2.1) :: .int (nI m8) :: .int qv.2.2.2.2.1 :: .long tm :: .int 0 :: []))) hTy hg_31 kmo.1
      have kmmA := Xc.setX (c' := .inr (12, (.int 0 :: .int (nI fd) :: .int mwr :: .int (nI K9) :: .int (nI KL) :: .ref moc :: .ref msT :: .ref mrV :: .ref msP :: .int q96 :: .ref mrA :: .ref mbA :: .ref mwA :: .ref mhA :: .ref mfA :: .ref mpA :: .ref mxA :: .ref myA :: .ref mmA :: .ref mqA :: .ref mzA :: .ref mwy :: .ref mfd :: .int (nI 1) :: .int (nI qv.2.2.2.1.length) :: .int (nI qv.2.2.1) :: .int (-1) :: .int (nI qv.2.1) :: .int (nI m8) :: .int qv.2.2.2.2.1 :: .long tm :: .int 0 :: []))) kmmA hg_31 (fun e => hx_mo_mmA.symm (congrArg Prod.fst e))
      have kmrA := Xc.setX (c' := .inr (12, (.int 0 :: .int (nI fd) :: .int mwr :: .int (nI K9) :: .int (nI KL) :: .ref moc :: .ref msT :: .ref mrV :: .ref msP :: .int q96 :: .ref mrA :: .ref mbA :: .ref mwA :: .ref mhA :: .ref mfA :: .ref mpA :: .ref mxA :: .ref myA :: .ref mmA :: .ref mqA :: .ref mzA :: .ref mwy :: .ref mfd :: .int (nI 1) :: .int (nI qv.2.2.2.1.length) :: .int (nI qv.2.2.1) :: .int (-1) :: .int (nI qv.2.1) :: .int (nI m8) :: .int qv.2.2.2.2.1 :: .long tm :: .int 0 :: []))) kmrA hg_31 (fun e => hx_mo_mrA.symm (congrArg Prod.fst e))
      have kmwy := Xc.setX (c' := .inr (12, (.int 0 :: .int (nI fd) :: .int mwr :: .int (nI K9) :: .int (nI KL) :: .ref moc :: .ref msT :: .ref mrV :: .ref msP :: .int q96 :: .ref mrA :: .ref mbA :: .ref mwA :: .ref mhA :: .ref mfA :: .ref mpA :: .ref mxA :: .ref myA :: .ref mmA :: .ref mqA :: .ref mzA :: .ref mwy :: .ref mfd :: .int (nI 1) :: .int (nI qv.2.2.2.1.length) :: .int (nI qv.2.2.1) :: .int (-1) :: .int (nI qv.2.1) :: .int (nI m8) :: .int qv.2.2.2.2.1 :: .long tm :: .int 0 :: []))) kmwy hg_31 (fun e => hx_mo_mwy.symm (congrArg Prod.fst e))
      have kmsT := Xc.setX (c' := .inr (12, (.int 0 :: .int (nI fd) :: .int mwr :: .int (nI K9) :: .int (nI KL) :: .ref moc :: .ref msT :: .ref mrV :: .ref msP :: .int q96 :: .ref mrA :: .ref mbA :: .ref mwA :: .ref mhA :: .ref mfA :: .ref mpA :: .ref mxA :: .ref myA :: .ref mmA :: .ref mqA :: .ref mzA :: .ref mwy :: .ref mfd :: .int (nI 1) :: .int (nI qv.2.2.2.1.length) :: .int (nI qv.2.2.1) :: .int (-1) :: .int (nI qv.2.1) :: .int (nI m8) :: .int qv.2.2.2.2.1 :: .long tm :: .int 0 :: []))) kmsT hg_31 (fun e => hx_mo_msT.symm (congrArg Prod.fst e))
      have kmrV := Xc.setX (c' := .inr (12, (.int 0 :: .int (nI fd) :: .int mwr :: .int (nI K9) :: .int (nI KL) :: .ref moc :: .ref msT :: .ref mrV :: .ref msP :: .int q96 :: .ref mrA :: .ref mbA :: .ref mwA :: .ref mhA :: .ref mfA :: .ref mpA :: .ref mxA :: .ref myA :: .ref mmA :: .ref mqA :: .ref mzA :: .ref mwy :: .ref mfd :: .int (nI 1) :: .int (nI qv.2.2.2.1.length) :: .int (nI qv.2.2.1) :: .int (-1) :: .int (nI qv.2.1) :: .int (nI m8) :: .int qv.2.2.2.2.1 :: .long tm :: .int 0 :: []))) kmrV hg_31 (fun e => hx_mo_mrV.symm (congrArg Prod.fst e))
      have kmfd := Xc.setX (c' := .inr (12, (.int 0 :: .int (nI fd) :: .int mwr :: .int (nI K9) :: .int (nI KL) :: .ref moc :: .ref msT :: .ref mrV :: .ref msP :: .int q96 :: .ref mrA :: .ref mbA :: .ref mwA :: .ref mhA :: .ref mfA :: .ref mpA :: .ref mxA :: .ref myA :: .ref mmA :: .ref mqA :: .ref mzA :: .ref mwy :: .ref mfd :: .int (nI 1) :: .int (nI qv.2.2.2.1.length) :: .int (nI qv.2.2.1) :: .int (-1) :: .int (nI qv.2.1) :: .int (nI m8) :: .int qv.2.2.2.2.1 :: .long tm :: .int 0 :: []))) kmfd hg_31 (fun e => hx_mo_mfd.symm (congrArg Prod.fst e))
      have hFR := hFR.tr (FL.set (Ad := Ad) (X := [mo, mmA, mrA, mwy, mfd]) (c' := .inr (12, (.int 0 :: .int (nI fd) :: .int mwr :: .int (nI K9) :: .int (nI KL) :: .ref moc :: .ref msT :: .ref mrV :: .ref msP :: .int q96 :: .ref mrA :: .ref mbA :: .ref mwA :: .ref mhA :: .ref mfA :: .ref mpA :: .ref mxA :: .ref myA :: .ref mmA :: .ref mqA :: .ref mzA :: .ref mwy :: .ref mfd :: .int (nI 1) :: .int (nI qv.2.2.2.1.length) :: .int (nI qv.2.2.1) :: .int (-1) :: .int (nI qv.2.1) :: .int (nI m8) :: .int qv.2.2.2.2.1 :: .long tm :: .int 0 :: []))) hg_31 (by simp))
      have hg_31 := set_here (c' := .inr (12, (.int 0 :: .int (nI fd) :: .int mwr :: .int (nI K9) :: .int (nI KL) :: .ref moc :: .ref msT :: .ref mrV :: .ref msP :: .int q96 :: .ref mrA :: .ref mbA :: .ref mwA :: .ref mhA :: .ref mfA :: .ref mpA :: .ref mxA :: .ref myA :: .ref mmA :: .ref mqA :: .ref mzA :: .ref mwy :: .ref mfd :: .int (nI 1) :: .int (nI qv.2.2.2.1.length) :: .int (nI qv.2.2.1) :: .int (-1) :: .int (nI qv.2.1) :: .int (nI m8) :: .int qv.2.2.2.2.1 :: .long tm :: .int 0 :: []))) hg_31
      have kmo : Xc Ad mo (.inr (12, (.int 0 :: .int (nI fd) :: .int mwr :: .int (nI K9) :: .int (nI KL) :: .ref moc :: .ref msT :: .ref mrV :: .ref msP :: .int q96 :: .ref mrA :: .ref mbA :: .ref mwA :: .ref mhA :: .ref mfA :: .ref mpA :: .ref mxA :: .ref myA :: .ref mmA :: .ref mqA :: .ref mzA :: .ref mwy :: .ref mfd :: .int (nI 1) :: .int (nI qv.2.2.2.1.length) :: .int (nI qv.2.2.1) :: .int (-1) :: .int (nI qv.2.1) :: .int (nI m8) :: .int qv.2.2.2.2.1 :: .long tm :: .int 0 :: []))) (G_29.set i_31 (mo, .inr (12, (.int 0 :: .int (nI fd) :: .int mwr :: .int (nI K9) :: .int (nI KL) :: .ref moc :: .ref msT :: .ref mrV :: .ref msP :: .int q96 :: .ref mrA :: .ref mbA :: .ref mwA :: .ref mhA :: .ref mfA :: .ref mpA :: .ref mxA :: .ref myA :: .ref mmA :: .ref mqA :: .ref mzA :: .ref mwy :: .ref mfd :: .int (nI 1) :: .int (nI qv.2.2.2.1.length) :: .int (nI qv.2.2.1) :: .int (-1) :: .int (nI qv.2.1) :: .int (nI m8) :: .int qv.2.2.2.2.1 :: .long tm :: .int 0 :: [])))) := ⟨kmo.1, List.mem_of_getElem? hg_31⟩
      have hD := hD3
      clear hD3 hD2
      generalize G_29.set i_31 (mo, .inr (12, (.int 0 :: .int (nI fd) :: .int mwr :: .int (nI K9) :: .int (nI KL) :: .ref moc :: .ref msT :: .ref mrV :: .ref msP :: .int q96 :: .ref mrA :: .ref mbA :: .ref mwA :: .ref mhA :: .ref mfA :: .ref mpA :: .ref mxA :: .ref myA :: .ref mmA :: .ref mqA :: .ref mzA :: .ref mwy :: .ref mfd :: .int (nI 1) :: .int (nI qv.2.2.2.1.length) :: .int (nI qv.2.2.1) :: .int (-1) :: .int (nI qv.2.1) :: .int (nI m8) :: .int qv.2.2.2.2.1 :: .long tm :: .int 0 :: []))) = G_32 at hP hD hTy hFR kmo kmmA kmrA kmwy kmsT kmrV kmfd hg_31
      obtain ⟨cX_33, eX_33⟩ : ∃ z : va_E, z = .inr (12, (.int 0 :: .int (nI fd) :: .int mwr :: .int (nI K9) :: .int (nI KL) :: .ref moc :: .ref msT :: .ref mrV :: .ref msP :: .int q96 :: .ref mrA :: .ref mbA :: .ref mwA :: .ref mhA :: .ref mfA :: .ref mpA :: .ref mxA :: .ref myA :: .ref mmA :: .ref mqA :: .ref mzA :: .ref mwy :: .ref mfd :: .int (nI 1) :: .int (nI qv.2.2.2.1.length) :: .int (nI qv.2.2.1) :: .int (-1) :: .int (nI qv.2.1) :: .int (nI m8) :: .int qv.2.2.2.2.1 :: .long tm :: .int 0 :: [])) := ⟨_, rfl⟩
      rw [← eX_33] at kmo
      refine lv_aload_n hx hb d_Model_validate_112 rfl (lv_at hl 0 rfl) ?_
      refine va_get (v := .int qv.2.2.2.2.1) hx hb htb i_Model hown hK hP i_31 hg_31 rfl 29 (by decide) (htb _ q8_3) (fun _ h9 => h9) rfl d_Model_validate_113 ?_
      exact W.iret (v := qv.2.2.2.2.1) hx hb hr (fun t ht hW => ⟨⟨_, G_32, rfl, ⟨hTy, hFR, by rw [eV], ⟨_, by rw [eV, hv0 p104]; rw [eX_33] at kmo; exact kmo⟩, ⟨_, hfm, kmmA⟩, ⟨_, hfr, kmrA⟩, ⟨_, kmwy⟩, ⟨_, by rw [eV]; exact hfd, kmfd⟩⟩, by rw [ht]; exact hP, va_K.moved hW.alike hK, hD⟩, hS.F ht⟩) hS.2.2 d_Model_validate_116
  · have p14 : r11 = (0 : Int32) := c14
    exact absurd hmost (bz_0 hr11 p14)
set_option maxHeartbeats 4000000 in
set_option maxRecDepth 100000 in
theorem m_Model_validate_ok1 (l : Launch) (dC : Nat → ClassId) (dI : Nat → Nat → Nat) (sb : sB) (γ : cG) (κ : kE) (Ad : List Nat) (τ : Nat → TD) (gT : ClassId) (G : va_W) (mo : Nat) (moc msT mrV msP mrA mbA mwA mhA mfA mpA mxA myA mmA mqA mzA mwy mfd : Nat) (mer mwr mqs msz mch mft mpt mdp mvd mmk : Int32) (mnw : Int64) (K9 KL cz fd : Nat) (k9 m8 : Nat) (tm : Int64) (fm fr fw ff : Nat → Int32) (fS fV : Nat → Option Nat) (sz : Nat) (hTy : TR γ κ Ad τ G) (kmo : Xc Ad mo (.inr (12, (.int mer :: .int (nI fd) :: .int mwr :: .int (nI K9) :: .int (nI KL) :: .ref moc :: .ref msT :: .ref mrV :: .ref msP :: .int mqs :: .ref mrA :: .ref mbA :: .ref mwA :: .ref mhA :: .ref mfA :: .ref mpA :: .ref mxA :: .ref myA :: .ref mmA :: .ref mqA :: .ref mzA :: .ref mwy :: .ref mfd :: .int msz :: .int (nI cz) :: .int mch :: .int mft :: .int mpt :: .int mdp :: .int mvd :: .long mnw :: .int mmk :: []))) G) (kmmA : Xc Ad mmA (.inl (γ.2.1, 600, .inl fm)) G) (kmrA : Xc Ad mrA (.inl (γ.2.1, 600, .inl fr)) G) (kmwy : Xc Ad mwy (.inl (γ.2.1, 16, .inl fw)) G) (kmsT : Xc Ad msT (.inl (gT, 16, .inr (.inr (.inr (.inr fS))))) G) (kmrV : Xc Ad mrV (.inl (gT, 8, .inr (.inr (.inr (.inr fV))))) G) (kmfd : Xc Ad mfd (.inl (γ.2.1, 16, .inl ff)) G) (kmzA : tK κ Ad mzA (6, 600, 6)) (kmqA : tK κ Ad mqA (6, 600, 4)) (kmyA : tK κ Ad myA (6, 600, 5)) (kmxA : tK κ Ad mxA (6, 600, 3)) (kmbA : tK κ Ad mbA (6, 2176, 0)) (kmwA : tK κ Ad mwA (6, 64, 0)) (kmhA : tK κ Ad mhA (6, 8, 0)) (kmpA : tK κ Ad mpA (6, 64, 2)) (kmfA : tK κ Ad mfA (6, 8, 1)) (hx_mo_mmA : mo ≠ mmA) (hx_mo_mrA : mo ≠ mrA) (hx_mo_mwy : mo ≠ mwy) (hx_mo_msT : mo ≠ msT) (hx_mo_mrV : mo ≠ mrV) (hx_mo_mfd : mo ≠ mfd) (hx_mmA_mrA : mmA ≠ mrA) (hx_mmA_mwy : mmA ≠ mwy) (hx_mmA_msT : mmA ≠ msT) (hx_mmA_mrV : mmA ≠ mrV) (hx_mmA_mfd : mmA ≠ mfd) (hx_mrA_mwy : mrA ≠ mwy) (hx_mrA_msT : mrA ≠ msT) (hx_mrA_mrV : mrA ≠ mrV) (hx_mrA_mfd : mrA ≠ mfd) (hx_mwy_msT : mwy ≠ msT) (hx_mwy_mrV : mwy ≠ mrV) (hx_mwy_mfd : mwy ≠ mfd) (hx_msT_mrV : msT ≠ mrV) (hx_msT_mfd : msT ≠ mfd) (hx_mrV_mfd : mrV ≠ mfd) (hmost : ¬ nI m8 < 1 ∧ ¬ 16 < nI m8) (hm1 : 1 ≤ m8) (hm2 : m8 ≤ 16) (hst : STc κ Ad τ K9 fS) (hrv : STl κ Ad τ KL fV) (hK9 : K9 ≤ 16) (hKL : KL ≤ 8) (hk9 : k9 < K9) (hfm : bR fm) (hfr : bR fr) (hma : ∀ l9, l9 < KL → ¬ (τ ((fV l9).getD 0)).I 30 < 0) : Met l y_Model_validate w_Model_validate ({ frames := 24, cells := 0, slots := 0, locals := 558 }) (mu_P [.ref mo, .int (nI k9), .long tm, .int (nI m8), .int 1] (dC, dI) sb G [(γ.1, .byte), (γ.2.1, .int), (γ.2.2.1, .long), (γ.2.2.2, .object "java/lang/Object"), (gT, .object "TrustChainModel$Text")] sz) (va_Qi (fun r (G' : va_W) => TR γ κ Ad τ G' ∧ FL Ad [mo, mmA, mrA, mwy, mfd] G G' ∧ (r = (rVQ τ fS fV K9 KL tm 1 k9 m8).2.2.2.1 ∧ (∃ q9 : Int32, Xc Ad mo (.inr (12, (.int 0 :: .int (nI fd) :: .int mwr :: .int (nI K9) :: .int (nI KL) :: .ref moc :: .ref msT :: .ref mrV :: .ref msP :: .int q9 :: .ref mrA :: .ref mbA :: .ref mwA :: .ref mhA :: .ref mfA :: .ref mpA :: .ref mxA :: .ref myA :: .ref mmA :: .ref mqA :: .ref mzA :: .ref mwy :: .ref mfd :: .int (nI 1) :: .int (nI (rVQ τ fS fV K9 KL tm 1 k9 m8).2.2.1.length) :: .int (nI (rVQ τ fS fV K9 KL tm 1 k9 m8).2.1) :: .int ((rVQ τ fS fV K9 KL tm 1 k9 m8).2.2.2.2) :: .int (nI (rVQ τ fS fV K9 KL tm 1 k9 m8).1) :: .int (nI m8) :: .int ((rVQ τ fS fV K9 KL tm 1 k9 m8).2.2.2.1) :: .long tm :: .int 1 :: []))) G') ∧ (∃ f9 : Nat → Int32, bR f9 ∧ Xc Ad mmA (.inl (γ.2.1, 600, .inl f9)) G') ∧ (∃ f9 : Nat → Int32, bR f9 ∧ Xc Ad mrA (.inl (γ.2.1, 600, .inl f9)) G') ∧ (∃ f9 : Nat → Int32, Xc Ad mwy (.inl (γ.2.1, 16, .inl f9)) G') ∧ (∃ f9 : Nat → Int32, fdR (rVQ τ fS fV K9 KL tm 1 k9 m8).2.2.1 f9 ∧ Xc Ad mfd (.inl (γ.2.1, 16, .inl f9)) G'))) (mu_B (dC, dI) [(γ.1, .byte), (γ.2.1, .int), (γ.2.2.1, .long), (γ.2.2.2, .object "java/lang/Object"), (gT, .object "TrustChainModel$Text")] (va_A G sz) (fun G' : va_W => G')) (va_A G sz)) 0 0 (va_A G sz) := by
  refine Met.ofW (cc := b_Model_validate) (maxL := 6) (ret := (some FieldType.int)) (by decide) rfl ?_
  intro p e s m args below meth c s₁ B hml hv
  obtain ⟨rfl, hsz, hB0, hP, hK, hD0, hN, hT0⟩ := hv
  have hx := B.exec
  have hb := B.bytes
  have hr := B.returns
  have hts := atoms_spec (ws := w_Model_validate) B.pre
  have tbin : ∀ w ∈ tb, w ∈ w_Model_validate := fun w h => List.mem_cons_of_mem _ h
  have htb : ∀ w ∈ tb, w.before _ s = true := fun w h => hts w (tbin w h)
  have hown : s.vm.findClass "TrustChainModel" = some m.cls := findClass_of_methodNamed B.named
  have hlocks := B.notSynchronized
  subst hsz
  have hD := hD0.self (sz := s.heap.size)
  generalize hAe : va_A G s.heap.size = A at hD ⊢
  have hA : ∀ q : Nat, s.heap.size ≤ q → A q := fun q h => by rw [← hAe]; exact Or.inr h
  have hAs : ∀ q : Nat, A q → sb.1 ≤ q := fun q h => by
    rw [← hAe] at h
    rcases h with ⟨k, e, h⟩ | h
    · exact hD0.2 k _ h
    · exact Nat.le_trans hB0 h
  have hS : va_S A s.heap s.heap [] := va_S.rf
  have hFR := FL.rf Ad [mo, mmA, mrA, mwy, mfd] G
  have hcs : 0 ≤ (headSpec w_Model_validate ({ frames := 24, cells := 0, slots := 0, locals := 558 })).room.cells ∧ 0 ≤ (headSpec w_Model_validate ({ frames := 24, cells := 0, slots := 0, locals := 558 })).room.slots := ⟨Nat.le_refl _, Nat.le_refl _⟩
  have hP : va_P (dC, dI) classes G s.heap := hP
  have hl := lv_entry ([.ref mo, .int (nI k9), .long tm, .int (nI m8), .int 1]) (n := 6) (Nat.le_of_ble_eq_true rfl)
  rw [lg_entry_eq]
  generalize (lg_sl ([.ref mo, .int (nI k9), .long tm, .int (nI m8), .int 1]) ++ List.replicate (6 - (lg_sl ([.ref mo, .int (nI k9), .long tm, .int (nI m8), .int 1])).length) Slot.unset).toArray = ls at hl ⊢
  have hl : lv_has ls 6 [(0, .ref mo), (1, .int (nI k9)), (2, .long tm), (4, .int (nI m8)), (5, .int 1)] := hl
  obtain ⟨cX_mo, eX_mo⟩ : ∃ z : va_E, z = .inr (12, (.int mer :: .int (nI fd) :: .int mwr :: .int (nI K9) :: .int (nI KL) :: .ref moc :: .ref msT :: .ref mrV :: .ref msP :: .int mqs :: .ref mrA :: .ref mbA :: .ref mwA :: .ref mhA :: .ref mfA :: .ref mpA :: .ref mxA :: .ref myA :: .ref mmA :: .ref mqA :: .ref mzA :: .ref mwy :: .ref mfd :: .int msz :: .int (nI cz) :: .int mch :: .int mft :: .int mpt :: .int mdp :: .int mvd :: .long mnw :: .int mmk :: [])) := ⟨_, rfl⟩
  rw [← eX_mo] at kmo
  refine lv_aload_n hx hb d_Model_validate_0 rfl (lv_at hl 0 rfl) ?_
  refine lv_iconst (v := 0) hx hb d_Model_validate_1 (by decide) ?_
  obtain ⟨i_1, hg_1⟩ := List.getElem?_of_mem kmo.2
  rw [eX_mo] at hg_1
  refine va_put (v := .int 0) (ty := .int) hx hb htb i_Model t_Model t_Model_ok n_Model hown hK hP hD hS i_1 hg_1 rfl 0 (by decide) (htb _ q7_214) (fun _ h9 => h9) rfl (by decide +kernel) rfl rfl (Nat.le_of_ble_eq_true rfl) d_Model_validate_2 (fun H2 locs hP hD2 hS => ?_)
  have hP : va_P (dC, dI) classes (G.set i_1 (mo, .inr (12, (.int 0 :: .int (nI fd) :: .int mwr :: .int (nI K9) :: .int (nI KL) :: .ref moc :: .ref msT :: .ref mrV :: .ref msP :: .int mqs :: .ref mrA :: .ref mbA :: .ref mwA :: .ref mhA :: .ref mfA :: .ref mpA :: .ref mxA :: .ref myA :: .ref mmA :: .ref mqA :: .ref mzA :: .ref mwy :: .ref mfd :: .int msz :: .int (nI cz) :: .int mch :: .int mft :: .int mpt :: .int mdp :: .int mvd :: .long mnw :: .int mmk :: [])))) H2 := hP
  have hD3 : va_D A (G.set i_1 (mo, .inr (12, (.int 0 :: .int (nI fd) :: .int mwr :: .int (nI K9) :: .int (nI KL) :: .ref moc :: .ref msT :: .ref mrV :: .ref msP :: .int mqs :: .ref mrA :: .ref mbA :: .ref mwA :: .ref mhA :: .ref mfA :: .ref mpA :: .ref mxA :: .ref myA :: .ref mmA :: .ref mqA :: .ref mzA :: .ref mwy :: .ref mfd :: .int msz :: .int (nI cz) :: .int mch :: .int mft :: .int mpt :: .int mdp :: .int mvd :: .long mnw :: .int mmk :: [])))) := hD2
  have hTy := TR.setX (c' := .inr (12, (.int 0 :: .int (nI fd) :: .int mwr :: .int (nI K9) :: .int (nI KL) :: .ref moc :: .ref msT :: .ref mrV :: .ref msP :: .int mqs :: .ref mrA :: .ref mbA :: .ref mwA :: .ref mhA :: .ref mfA :: .ref mpA :: .ref mxA :: .ref myA :: .ref mmA :: .ref mqA :: .ref mzA :: .ref mwy :: .ref mfd :: .int msz :: .int (nI cz) :: .int mch :: .int mft :: .int mpt :: .int mdp :: .int mvd :: .long mnw :: .int mmk :: []))) hTy hg_1 kmo.1
  have kmmA := Xc.setX (c' := .inr (12, (.int 0 :: .int (nI fd) :: .int mwr :: .int (nI K9) :: .int (nI KL) :: .ref moc :: .ref msT :: .ref mrV :: .ref msP :: .int mqs :: .ref mrA :: .ref mbA :: .ref mwA :: .ref mhA :: .ref mfA :: .ref mpA :: .ref mxA :: .ref myA :: .ref mmA :: .ref mqA :: .ref mzA :: .ref mwy :: .ref mfd :: .int msz :: .int (nI cz) :: .int mch :: .int mft :: .int mpt :: .int mdp :: .int mvd :: .long mnw :: .int mmk :: []))) kmmA hg_1 (fun e => hx_mo_mmA.symm (congrArg Prod.fst e))
  have kmrA := Xc.setX (c' := .inr (12, (.int 0 :: .int (nI fd) :: .int mwr :: .int (nI K9) :: .int (nI KL) :: .ref moc :: .ref msT :: .ref mrV :: .ref msP :: .int mqs :: .ref mrA :: .ref mbA :: .ref mwA :: .ref mhA :: .ref mfA :: .ref mpA :: .ref mxA :: .ref myA :: .ref mmA :: .ref mqA :: .ref mzA :: .ref mwy :: .ref mfd :: .int msz :: .int (nI cz) :: .int mch :: .int mft :: .int mpt :: .int mdp :: .int mvd :: .long mnw :: .int mmk :: []))) kmrA hg_1 (fun e => hx_mo_mrA.symm (congrArg Prod.fst e))
  have kmwy := Xc.setX (c' := .inr (12, (.int 0 :: .int (nI fd) :: .int mwr :: .int (nI K9) :: .int (nI KL) :: .ref moc :: .ref msT :: .ref mrV :: .ref msP :: .int mqs :: .ref mrA :: .ref mbA :: .ref mwA :: .ref mhA :: .ref mfA :: .ref mpA :: .ref mxA :: .ref myA :: .ref mmA :: .ref mqA :: .ref mzA :: .ref mwy :: .ref mfd :: .int msz :: .int (nI cz) :: .int mch :: .int mft :: .int mpt :: .int mdp :: .int mvd :: .long mnw :: .int mmk :: []))) kmwy hg_1 (fun e => hx_mo_mwy.symm (congrArg Prod.fst e))
  have kmsT := Xc.setX (c' := .inr (12, (.int 0 :: .int (nI fd) :: .int mwr :: .int (nI K9) :: .int (nI KL) :: .ref moc :: .ref msT :: .ref mrV :: .ref msP :: .int mqs :: .ref mrA :: .ref mbA :: .ref mwA :: .ref mhA :: .ref mfA :: .ref mpA :: .ref mxA :: .ref myA :: .ref mmA :: .ref mqA :: .ref mzA :: .ref mwy :: .ref mfd :: .int msz :: .int (nI cz) :: .int mch :: .int mft :: .int mpt :: .int mdp :: .int mvd :: .long mnw :: .int mmk :: []))) kmsT hg_1 (fun e => hx_mo_msT.symm (congrArg Prod.fst e))
  have kmrV := Xc.setX (c' := .inr (12, (.int 0 :: .int (nI fd) :: .int mwr :: .int (nI K9) :: .int (nI KL) :: .ref moc :: .ref msT :: .ref mrV :: .ref msP :: .int mqs :: .ref mrA :: .ref mbA :: .ref mwA :: .ref mhA :: .ref mfA :: .ref mpA :: .ref mxA :: .ref myA :: .ref mmA :: .ref mqA :: .ref mzA :: .ref mwy :: .ref mfd :: .int msz :: .int (nI cz) :: .int mch :: .int mft :: .int mpt :: .int mdp :: .int mvd :: .long mnw :: .int mmk :: []))) kmrV hg_1 (fun e => hx_mo_mrV.symm (congrArg Prod.fst e))
  have kmfd := Xc.setX (c' := .inr (12, (.int 0 :: .int (nI fd) :: .int mwr :: .int (nI K9) :: .int (nI KL) :: .ref moc :: .ref msT :: .ref mrV :: .ref msP :: .int mqs :: .ref mrA :: .ref mbA :: .ref mwA :: .ref mhA :: .ref mfA :: .ref mpA :: .ref mxA :: .ref myA :: .ref mmA :: .ref mqA :: .ref mzA :: .ref mwy :: .ref mfd :: .int msz :: .int (nI cz) :: .int mch :: .int mft :: .int mpt :: .int mdp :: .int mvd :: .long mnw :: .int mmk :: []))) kmfd hg_1 (fun e => hx_mo_mfd.symm (congrArg Prod.fst e))
  have hFR := hFR.tr (FL.set (Ad := Ad) (X := [mo, mmA, mrA, mwy, mfd]) (c' := .inr (12, (.int 0 :: .int (nI fd) :: .int mwr :: .int (nI K9) :: .int (nI KL) :: .ref moc :: .ref msT :: .ref mrV :: .ref msP :: .int mqs :: .ref mrA :: .ref mbA :: .ref mwA :: .ref mhA :: .ref mfA :: .ref mpA :: .ref mxA :: .ref myA :: .ref mmA :: .ref mqA :: .ref mzA :: .ref mwy :: .ref mfd :: .int msz :: .int (nI cz) :: .int mch :: .int mft :: .int mpt :: .int mdp :: .int mvd :: .long mnw :: .int mmk :: []))) hg_1 (by simp))
  have hg_1 := set_here (c' := .inr (12, (.int 0 :: .int (nI fd) :: .int mwr :: .int (nI K9) :: .int (nI KL) :: .ref moc :: .ref msT :: .ref mrV :: .ref msP :: .int mqs :: .ref mrA :: .ref mbA :: .ref mwA :: .ref mhA :: .ref mfA :: .ref mpA :: .ref mxA :: .ref myA :: .ref mmA :: .ref mqA :: .ref mzA :: .ref mwy :: .ref mfd :: .int msz :: .int (nI cz) :: .int mch :: .int mft :: .int mpt :: .int mdp :: .int mvd :: .long mnw :: .int mmk :: []))) hg_1
  have kmo : Xc Ad mo (.inr (12, (.int 0 :: .int (nI fd) :: .int mwr :: .int (nI K9) :: .int (nI KL) :: .ref moc :: .ref msT :: .ref mrV :: .ref msP :: .int mqs :: .ref mrA :: .ref mbA :: .ref mwA :: .ref mhA :: .ref mfA :: .ref mpA :: .ref mxA :: .ref myA :: .ref mmA :: .ref mqA :: .ref mzA :: .ref mwy :: .ref mfd :: .int msz :: .int (nI cz) :: .int mch :: .int mft :: .int mpt :: .int mdp :: .int mvd :: .long mnw :: .int mmk :: []))) (G.set i_1 (mo, .inr (12, (.int 0 :: .int (nI fd) :: .int mwr :: .int (nI K9) :: .int (nI KL) :: .ref moc :: .ref msT :: .ref mrV :: .ref msP :: .int mqs :: .ref mrA :: .ref mbA :: .ref mwA :: .ref mhA :: .ref mfA :: .ref mpA :: .ref mxA :: .ref myA :: .ref mmA :: .ref mqA :: .ref mzA :: .ref mwy :: .ref mfd :: .int msz :: .int (nI cz) :: .int mch :: .int mft :: .int mpt :: .int mdp :: .int mvd :: .long mnw :: .int mmk :: [])))) := ⟨kmo.1, List.mem_of_getElem? hg_1⟩
  have hD := hD3
  clear hD3 hD2
  generalize G.set i_1 (mo, .inr (12, (.int 0 :: .int (nI fd) :: .int mwr :: .int (nI K9) :: .int (nI KL) :: .ref moc :: .ref msT :: .ref mrV :: .ref msP :: .int mqs :: .ref mrA :: .ref mbA :: .ref mwA :: .ref mhA :: .ref mfA :: .ref mpA :: .ref mxA :: .ref myA :: .ref mmA :: .ref mqA :: .ref mzA :: .ref mwy :: .ref mfd :: .int msz :: .int (nI cz) :: .int mch :: .int mft :: .int mpt :: .int mdp :: .int mvd :: .long mnw :: .int mmk :: []))) = G_2 at hP hD hTy hFR kmo kmmA kmrA kmwy kmsT kmrV kmfd hg_1
  obtain ⟨cX_3, eX_3⟩ : ∃ z : va_E, z = .inr (12, (.int 0 :: .int (nI fd) :: .int mwr :: .int (nI K9) :: .int (nI KL) :: .ref moc :: .ref msT :: .ref mrV :: .ref msP :: .int mqs :: .ref mrA :: .ref mbA :: .ref mwA :: .ref mhA :: .ref mfA :: .ref mpA :: .ref mxA :: .ref myA :: .ref mmA :: .ref mqA :: .ref mzA :: .ref mwy :: .ref mfd :: .int msz :: .int (nI cz) :: .int mch :: .int mft :: .int mpt :: .int mdp :: .int mvd :: .long mnw :: .int mmk :: [])) := ⟨_, rfl⟩
  rw [← eX_3] at kmo
  refine lv_aload_n hx hb d_Model_validate_5 rfl (lv_at hl 0 rfl) ?_
  refine lv_iload hx hb d_Model_validate_6 (lv_at hl 3 rfl) ?_
  refine lv_iconst (v := 1) hx hb d_Model_validate_8 (by decide) ?_
  refine lv_bipush (v := 16) hx hb d_Model_validate_9 (by decide) ?_
  refine vp_callSi (pu_callS (As := [.int (nI m8), .int 1, .int 16]) (rest := [.ref mo]) ⟨hx, hb, hml, hown, hts⟩ tbin (c_Model_in l dC dI sb (nI m8) (1 : Int32) (16 : Int32)) q9_68 q8_116 q1_9 q8_117 (n := 3) (by decide +kernel) rfl ⟨rfl, rfl⟩ ⟨Nat.le_of_ble_eq_true rfl, Nat.le_of_ble_eq_true rfl⟩ ⟨Nat.le_of_ble_eq_true rfl, Nat.le_of_ble_eq_true rfl⟩ hN (hT0.keep hS hAs) hK hP [] (by simp only [List.filterMap_cons, List.filterMap_nil]) [] rfl hl.1 rfl (Nat.le_of_ble_eq_true rfl) d_Model_validate_11) (fun r11 hr11 => ?_)
  refine lv_if_ne (tgt := 21) hx hb d_Model_validate_14 (by decide) (fun c14 => ?_) (fun c14 => ?_)
  · have p14 : ¬ (r11 = (0 : Int32)) := c14
    refine lv_iconst (v := 0) hx hb d_Model_validate_21 (by decide) ?_
    refine lv_iconst (v := 1) hx hb d_Model_validate_22 (by decide) ?_
    have hFc := va_free (wc := G_2) hD hS hA (List.range G_2.length) (rg_is _)
    refine va_calli (mu_runV (As := [.int 0, .int 1]) (rest := []) ⟨hx, hb, hml, hown, hts⟩ tbin (m_Model_fails_0 l dC dI sb γ κ Ad τ gT G_2 mo _ _ _ _ _ _ _ _ _ _ _ _ _ _ _ _ _ _ _ _ _ _ _ _ _ _ _ _ _ _ _ _ H2.size hTy (by have h9 := kmo; rw [eX_3] at h9; exact h9) ) q8_79 q8_81 qp_36 q1_9 q8_82 (n := 2) (by decide +kernel) rfl ⟨rfl, rfl⟩ ⟨Nat.le_of_ble_eq_true rfl, Nat.le_of_ble_eq_true rfl⟩ ⟨Nat.le_of_ble_eq_true rfl, Nat.le_of_ble_eq_true rfl⟩ hN (hT0.keep hS hAs) hAs (Nat.le_trans hB0 hS.1) hK hP hD (List.range G_2.length) (rg_nd _) (rg_is _) [0, 1, 2, 3, 4] rfl i_1 12 hg_1 rfl rfl hl.1 rfl (Nat.le_of_ble_eq_true rfl) d_Model_validate_23) hS (fun q _ h => hFc q h) hFc (fun r23 G_4 tS H23 locs ht hvm hw23 hB hz1 hk1 hS => ?_)
    obtain ⟨hTy, hF9, hr23⟩ := hw23
    have kmo := kmo.fl hF9 (q_nmn)
    have kmmA := kmmA.fl hF9 (q_nmn)
    have kmrA := kmrA.fl hF9 (q_nmn)
    have kmwy := kmwy.fl hF9 (q_nmn)
    have kmsT := kmsT.fl hF9 (q_nmn)
    have kmrV := kmrV.fl hF9 (q_nmn)
    have kmfd := kmfd.fl hF9 (q_nmn)
    have hFR := hFR.tr (hF9.up (q_gan))
    obtain ⟨hP1, hK1, hD1⟩ := hB
    rw [ht] at hP1
    have hP : va_P (dC, dI) classes G_4 H23 := hP1
    have hD : va_D A G_4 := hD1.weaken (fun _ _ _ h => hFc _ h)
    subst hr23
    refine lv_if_ne (tgt := 38) hx hb d_Model_validate_26 (by decide) (fun c26 => ?_) (fun c26 => ?_)
    · exact absurd c26 (by decide)
    refine lv_aload_n hx hb d_Model_validate_29 rfl (lv_at hl 0 rfl) ?_
    refine lv_iload_n hx hb d_Model_validate_30 rfl (lv_at hl 1 rfl) ?_
    refine lv_iconst (v := 2) hx hb d_Model_validate_31 (by decide) ?_
    have hFc := va_free (wc := G_4) hD hS hA (List.range G_4.length) (rg_is _)
    obtain ⟨i_6, hg_6⟩ := List.getElem?_of_mem kmo.2
    rw [eX_3] at hg_6
    refine va_calli (mu_runV (As := [.int (nI k9), .int 2]) (rest := []) ⟨hx, hb, hml, hown, hts⟩ tbin (m_Model_noc_0 l dC dI sb γ κ Ad τ gT G_4 mo _ _ _ _ _ _ _ _ _ _ _ _ _ _ _ _ _ _ _ _ _ _ _ _ _ _ _ _ _ _ _ _ _ H23.size hTy (by have h9 := kmo; rw [eX_3] at h9; exact h9) hk9 hK9) q9_64 q9_66 qp_39 q1_9 q9_67 (n := 2) (by decide +kernel) rfl ⟨rfl, rfl⟩ ⟨Nat.le_of_ble_eq_true rfl, Nat.le_of_ble_eq_true rfl⟩ ⟨Nat.le_of_ble_eq_true rfl, Nat.le_of_ble_eq_true rfl⟩ hN (hT0.keep hS hAs) hAs (Nat.le_trans hB0 hS.1) hK hP hD (List.range G_4.length) (rg_nd _) (rg_is _) [0, 1, 2, 3, 4] rfl i_6 12 hg_6 rfl rfl hl.1 rfl (Nat.le_of_ble_eq_true rfl) d_Model_validate_32) hS (fun q _ h => hFc q h) hFc (fun r32 G_5 tS H32 locs ht hvm hw32 hB hz1 hk1 hS => ?_)
    obtain ⟨hTy, hF9, hr32⟩ := hw32
    have kmo := kmo.fl hF9 (q_nmn)
    have kmmA := kmmA.fl hF9 (q_nmn)
    have kmrA := kmrA.fl hF9 (q_nmn)
    have kmwy := kmwy.fl hF9 (q_nmn)
    have kmsT := kmsT.fl hF9 (q_nmn)
    have kmrV := kmrV.fl hF9 (q_nmn)
    have kmfd := kmfd.fl hF9 (q_nmn)
    have hFR := hFR.tr (hF9.up (q_gan))
    obtain ⟨hP1, hK1, hD1⟩ := hB
    rw [ht] at hP1
    have hP : va_P (dC, dI) classes G_5 H32 := hP1
    have hD : va_D A G_5 := hD1.weaken (fun _ _ _ h => hFc _ h)
    subst hr32
    refine lv_if_eq (tgt := 40) hx hb d_Model_validate_35 (by decide) (fun c35 => ?_) (fun c35 => ?_)
    rotate_left
    · exact absurd c35 (by decide)
    refine lv_aload_n hx hb d_Model_validate_40 rfl (lv_at hl 0 rfl) ?_
    refine lv_lload_n hx hb d_Model_validate_41 rfl (lv_at hl 2 rfl) ?_
    obtain ⟨i_7, hg_7⟩ := List.getElem?_of_mem kmo.2
    rw [eX_3] at hg_7
    refine va_put (v := .long tm) (ty := .long) hx hb htb i_Model t_Model t_Model_ok n_Model hown hK hP hD hS i_7 hg_7 rfl 30 (by decide) (htb _ q8_4) (fun _ h9 => h9) rfl (by decide +kernel) rfl rfl (Nat.le_of_ble_eq_true rfl) d_Model_validate_42 (fun H42 locs hP hD2 hS => ?_)
    have hP : va_P (dC, dI) classes (G_5.set i_7 (mo, .inr (12, (.int 0 :: .int (nI fd) :: .int mwr :: .int (nI K9) :: .int (nI KL) :: .ref moc :: .ref msT :: .ref mrV :: .ref msP :: .int mqs :: .ref mrA :: .ref mbA :: .ref mwA :: .ref mhA :: .ref mfA :: .ref mpA :: .ref mxA :: .ref myA :: .ref mmA :: .ref mqA :: .ref mzA :: .ref mwy :: .ref mfd :: .int msz :: .int (nI cz) :: .int mch :: .int mft :: .int mpt :: .int mdp :: .int mvd :: .long tm :: .int mmk :: [])))) H42 := hP
    have hD3 : va_D A (G_5.set i_7 (mo, .inr (12, (.int 0 :: .int (nI fd) :: .int mwr :: .int (nI K9) :: .int (nI KL) :: .ref moc :: .ref msT :: .ref mrV :: .ref msP :: .int mqs :: .ref mrA :: .ref mbA :: .ref mwA :: .ref mhA :: .ref mfA :: .ref mpA :: .ref mxA :: .ref myA :: .ref mmA :: .ref mqA :: .ref mzA :: .ref mwy :: .ref mfd :: .int msz :: .int (nI cz) :: .int mch :: .int mft :: .int mpt :: .int mdp :: .int mvd :: .long tm :: .int mmk :: [])))) := hD2
    have hTy := TR.setX (c' := .inr (12, (.int 0 :: .int (nI fd) :: .int mwr :: .int (nI K9) :: .int (nI KL) :: .ref moc :: .ref msT :: .ref mrV :: .ref msP :: .int mqs :: .ref mrA :: .ref mbA :: .ref mwA :: .ref mhA :: .ref mfA :: .ref mpA :: .ref mxA :: .ref myA :: .ref mmA :: .ref mqA :: .ref mzA :: .ref mwy :: .ref mfd :: .int msz :: .int (nI cz) :: .int mch :: .int mft :: .int mpt :: .int mdp :: .int mvd :: .long tm :: .int mmk :: []))) hTy hg_7 kmo.1
    have kmmA := Xc.setX (c' := .inr (12, (.int 0 :: .int (nI fd) :: .int mwr :: .int (nI K9) :: .int (nI KL) :: .ref moc :: .ref msT :: .ref mrV :: .ref msP :: .int mqs :: .ref mrA :: .ref mbA :: .ref mwA :: .ref mhA :: .ref mfA :: .ref mpA :: .ref mxA :: .ref myA :: .ref mmA :: .ref mqA :: .ref mzA :: .ref mwy :: .ref mfd :: .int msz :: .int (nI cz) :: .int mch :: .int mft :: .int mpt :: .int mdp :: .int mvd :: .long tm :: .int mmk :: []))) kmmA hg_7 (fun e => hx_mo_mmA.symm (congrArg Prod.fst e))
    have kmrA := Xc.setX (c' := .inr (12, (.int 0 :: .int (nI fd) :: .int mwr :: .int (nI K9) :: .int (nI KL) :: .ref moc :: .ref msT :: .ref mrV :: .ref msP :: .int mqs :: .ref mrA :: .ref mbA :: .ref mwA :: .ref mhA :: .ref mfA :: .ref mpA :: .ref mxA :: .ref myA :: .ref mmA :: .ref mqA :: .ref mzA :: .ref mwy :: .ref mfd :: .int msz :: .int (nI cz) :: .int mch :: .int mft :: .int mpt :: .int mdp :: .int mvd :: .long tm :: .int mmk :: []))) kmrA hg_7 (fun e => hx_mo_mrA.symm (congrArg Prod.fst e))
    have kmwy := Xc.setX (c' := .inr (12, (.int 0 :: .int (nI fd) :: .int mwr :: .int (nI K9) :: .int (nI KL) :: .ref moc :: .ref msT :: .ref mrV :: .ref msP :: .int mqs :: .ref mrA :: .ref mbA :: .ref mwA :: .ref mhA :: .ref mfA :: .ref mpA :: .ref mxA :: .ref myA :: .ref mmA :: .ref mqA :: .ref mzA :: .ref mwy :: .ref mfd :: .int msz :: .int (nI cz) :: .int mch :: .int mft :: .int mpt :: .int mdp :: .int mvd :: .long tm :: .int mmk :: []))) kmwy hg_7 (fun e => hx_mo_mwy.symm (congrArg Prod.fst e))
    have kmsT := Xc.setX (c' := .inr (12, (.int 0 :: .int (nI fd) :: .int mwr :: .int (nI K9) :: .int (nI KL) :: .ref moc :: .ref msT :: .ref mrV :: .ref msP :: .int mqs :: .ref mrA :: .ref mbA :: .ref mwA :: .ref mhA :: .ref mfA :: .ref mpA :: .ref mxA :: .ref myA :: .ref mmA :: .ref mqA :: .ref mzA :: .ref mwy :: .ref mfd :: .int msz :: .int (nI cz) :: .int mch :: .int mft :: .int mpt :: .int mdp :: .int mvd :: .long tm :: .int mmk :: []))) kmsT hg_7 (fun e => hx_mo_msT.symm (congrArg Prod.fst e))
    have kmrV := Xc.setX (c' := .inr (12, (.int 0 :: .int (nI fd) :: .int mwr :: .int (nI K9) :: .int (nI KL) :: .ref moc :: .ref msT :: .ref mrV :: .ref msP :: .int mqs :: .ref mrA :: .ref mbA :: .ref mwA :: .ref mhA :: .ref mfA :: .ref mpA :: .ref mxA :: .ref myA :: .ref mmA :: .ref mqA :: .ref mzA :: .ref mwy :: .ref mfd :: .int msz :: .int (nI cz) :: .int mch :: .int mft :: .int mpt :: .int mdp :: .int mvd :: .long tm :: .int mmk :: []))) kmrV hg_7 (fun e => hx_mo_mrV.symm (congrArg Prod.fst e))
    have kmfd := Xc.setX (c' := .inr (12, (.int 0 :: .int (nI fd) :: .int mwr :: .int (nI K9) :: .int (nI KL) :: .ref moc :: .ref msT :: .ref mrV :: .ref msP :: .int mqs :: .ref mrA :: .ref mbA :: .ref mwA :: .ref mhA :: .ref mfA :: .ref mpA :: .ref mxA :: .ref myA :: .ref mmA :: .ref mqA :: .ref mzA :: .ref mwy :: .ref mfd :: .int msz :: .int (nI cz) :: .int mch :: .int mft :: .int mpt :: .int mdp :: .int mvd :: .long tm :: .int mmk :: []))) kmfd hg_7 (fun e => hx_mo_mfd.symm (congrArg Prod.fst e))
    have hFR := hFR.tr (FL.set (Ad := Ad) (X := [mo, mmA, mrA, mwy, mfd]) (c' := .inr (12, (.int 0 :: .int (nI fd) :: .int mwr :: .int (nI K9) :: .int (nI KL) :: .ref moc :: .ref msT :: .ref mrV :: .ref msP :: .int mqs :: .ref mrA :: .ref mbA :: .ref mwA :: .ref mhA :: .ref mfA :: .ref mpA :: .ref mxA :: .ref myA :: .ref mmA :: .ref mqA :: .ref mzA :: .ref mwy :: .ref mfd :: .int msz :: .int (nI cz) :: .int mch :: .int mft :: .int mpt :: .int mdp :: .int mvd :: .long tm :: .int mmk :: []))) hg_7 (by simp))
    have hg_7 := set_here (c' := .inr (12, (.int 0 :: .int (nI fd) :: .int mwr :: .int (nI K9) :: .int (nI KL) :: .ref moc :: .ref msT :: .ref mrV :: .ref msP :: .int mqs :: .ref mrA :: .ref mbA :: .ref mwA :: .ref mhA :: .ref mfA :: .ref mpA :: .ref mxA :: .ref myA :: .ref mmA :: .ref mqA :: .ref mzA :: .ref mwy :: .ref mfd :: .int msz :: .int (nI cz) :: .int mch :: .int mft :: .int mpt :: .int mdp :: .int mvd :: .long tm :: .int mmk :: []))) hg_7
    have kmo : Xc Ad mo (.inr (12, (.int 0 :: .int (nI fd) :: .int mwr :: .int (nI K9) :: .int (nI KL) :: .ref moc :: .ref msT :: .ref mrV :: .ref msP :: .int mqs :: .ref mrA :: .ref mbA :: .ref mwA :: .ref mhA :: .ref mfA :: .ref mpA :: .ref mxA :: .ref myA :: .ref mmA :: .ref mqA :: .ref mzA :: .ref mwy :: .ref mfd :: .int msz :: .int (nI cz) :: .int mch :: .int mft :: .int mpt :: .int mdp :: .int mvd :: .long tm :: .int mmk :: []))) (G_5.set i_7 (mo, .inr (12, (.int 0 :: .int (nI fd) :: .int mwr :: .int (nI K9) :: .int (nI KL) :: .ref moc :: .ref msT :: .ref mrV :: .ref msP :: .int mqs :: .ref mrA :: .ref mbA :: .ref mwA :: .ref mhA :: .ref mfA :: .ref mpA :: .ref mxA :: .ref myA :: .ref mmA :: .ref mqA :: .ref mzA :: .ref mwy :: .ref mfd :: .int msz :: .int (nI cz) :: .int mch :: .int mft :: .int mpt :: .int mdp :: .int mvd :: .long tm :: .int mmk :: [])))) := ⟨kmo.1, List.mem_of_getElem? hg_7⟩
    have hD := hD3
    clear hD3 hD2
    generalize G_5.set i_7 (mo, .inr (12, (.int 0 :: .int (nI fd) :: .int mwr :: .int (nI K9) :: .int (nI KL) :: .ref moc :: .ref msT :: .ref mrV :: .ref msP :: .int mqs :: .ref mrA :: .ref mbA :: .ref mwA :: .ref mhA :: .ref mfA :: .ref mpA :: .ref mxA :: .ref myA :: .ref mmA :: .ref mqA :: .ref mzA :: .ref mwy :: .ref mfd :: .int msz :: .int (nI cz) :: .int mch :: .int mft :: .int mpt :: .int mdp :: .int mvd :: .long tm :: .int mmk :: []))) = G_8 at hP hD hTy hFR kmo kmmA kmrA kmwy kmsT kmrV kmfd hg_7
    obtain ⟨cX_9, eX_9⟩ : ∃ z : va_E, z = .inr (12, (.int 0 :: .int (nI fd) :: .int mwr :: .int (nI K9) :: .int (nI KL) :: .ref moc :: .ref msT :: .ref mrV :: .ref msP :: .int mqs :: .ref mrA :: .ref mbA :: .ref mwA :: .ref mhA :: .ref mfA :: .ref mpA :: .ref mxA :: .ref myA :: .ref mmA :: .ref mqA :: .ref mzA :: .ref mwy :: .ref mfd :: .int msz :: .int (nI cz) :: .int mch :: .int mft :: .int mpt :: .int mdp :: .int mvd :: .long tm :: .int mmk :: [])) := ⟨_, rfl⟩
    rw [← eX_9] at kmo
    refine lv_aload_n hx hb d_Model_validate_45 rfl (lv_at hl 0 rfl) ?_
    refine lv_iload hx hb d_Model_validate_46 (lv_at hl 3 rfl) ?_
    refine va_put (v := .int (nI m8)) (ty := .int) hx hb htb i_Model t_Model t_Model_ok n_Model hown hK hP hD hS i_7 hg_7 rfl 28 (by decide) (htb _ q8_2) (fun _ h9 => h9) rfl (by decide +kernel) rfl rfl (Nat.le_of_ble_eq_true rfl) d_Model_validate_48 (fun H48 locs hP hD2 hS => ?_)
    have hP : va_P (dC, dI) classes (G_8.set i_7 (mo, .inr (12, (.int 0 :: .int (nI fd) :: .int mwr :: .int (nI K9) :: .int (nI KL) :: .ref moc :: .ref msT :: .ref mrV :: .ref msP :: .int mqs :: .ref mrA :: .ref mbA :: .ref mwA :: .ref mhA :: .ref mfA :: .ref mpA :: .ref mxA :: .ref myA :: .ref mmA :: .ref mqA :: .ref mzA :: .ref mwy :: .ref mfd :: .int msz :: .int (nI cz) :: .int mch :: .int mft :: .int mpt :: .int (nI m8) :: .int mvd :: .long tm :: .int mmk :: [])))) H48 := hP
    have hD3 : va_D A (G_8.set i_7 (mo, .inr (12, (.int 0 :: .int (nI fd) :: .int mwr :: .int (nI K9) :: .int (nI KL) :: .ref moc :: .ref msT :: .ref mrV :: .ref msP :: .int mqs :: .ref mrA :: .ref mbA :: .ref mwA :: .ref mhA :: .ref mfA :: .ref mpA :: .ref mxA :: .ref myA :: .ref mmA :: .ref mqA :: .ref mzA :: .ref mwy :: .ref mfd :: .int msz :: .int (nI cz) :: .int mch :: .int mft :: .int mpt :: .int (nI m8) :: .int mvd :: .long tm :: .int mmk :: [])))) := hD2
    have hTy := TR.setX (c' := .inr (12, (.int 0 :: .int (nI fd) :: .int mwr :: .int (nI K9) :: .int (nI KL) :: .ref moc :: .ref msT :: .ref mrV :: .ref msP :: .int mqs :: .ref mrA :: .ref mbA :: .ref mwA :: .ref mhA :: .ref mfA :: .ref mpA :: .ref mxA :: .ref myA :: .ref mmA :: .ref mqA :: .ref mzA :: .ref mwy :: .ref mfd :: .int msz :: .int (nI cz) :: .int mch :: .int mft :: .int mpt :: .int (nI m8) :: .int mvd :: .long tm :: .int mmk :: []))) hTy hg_7 kmo.1
    have kmmA := Xc.setX (c' := .inr (12, (.int 0 :: .int (nI fd) :: .int mwr :: .int (nI K9) :: .int (nI KL) :: .ref moc :: .ref msT :: .ref mrV :: .ref msP :: .int mqs :: .ref mrA :: .ref mbA :: .ref mwA :: .ref mhA :: .ref mfA :: .ref mpA :: .ref mxA :: .ref myA :: .ref mmA :: .ref mqA :: .ref mzA :: .ref mwy :: .ref mfd :: .int msz :: .int (nI cz) :: .int mch :: .int mft :: .int mpt :: .int (nI m8) :: .int mvd :: .long tm :: .int mmk :: []))) kmmA hg_7 (fun e => hx_mo_mmA.symm (congrArg Prod.fst e))
    have kmrA := Xc.setX (c' := .inr (12, (.int 0 :: .int (nI fd) :: .int mwr :: .int (nI K9) :: .int (nI KL) :: .ref moc :: .ref msT :: .ref mrV :: .ref msP :: .int mqs :: .ref mrA :: .ref mbA :: .ref mwA :: .ref mhA :: .ref mfA :: .ref mpA :: .ref mxA :: .ref myA :: .ref mmA :: .ref mqA :: .ref mzA :: .ref mwy :: .ref mfd :: .int msz :: .int (nI cz) :: .int mch :: .int mft :: .int mpt :: .int (nI m8) :: .int mvd :: .long tm :: .int mmk :: []))) kmrA hg_7 (fun e => hx_mo_mrA.symm (congrArg Prod.fst e))
    have kmwy := Xc.setX (c' := .inr (12, (.int 0 :: .int (nI fd) :: .int mwr :: .int (nI K9) :: .int (nI KL) :: .ref moc :: .ref msT :: .ref mrV :: .ref msP :: .int mqs :: .ref mrA :: .ref mbA :: .ref mwA :: .ref mhA :: .ref mfA :: .ref mpA :: .ref mxA :: .ref myA :: .ref mmA :: .ref mqA :: .ref mzA :: .ref mwy :: .ref mfd :: .int msz :: .int (nI cz) :: .int mch :: .int mft :: .int mpt :: .int (nI m8) :: .int mvd :: .long tm :: .int mmk :: []))) kmwy hg_7 (fun e => hx_mo_mwy.symm (congrArg Prod.fst e))
    have kmsT := Xc.setX (c' := .inr (12, (.int 0 :: .int (nI fd) :: .int mwr :: .int (nI K9) :: .int (nI KL) :: .ref moc :: .ref msT :: .ref mrV :: .ref msP :: .int mqs :: .ref mrA :: .ref mbA :: .ref mwA :: .ref mhA :: .ref mfA :: .ref mpA :: .ref mxA :: .ref myA :: .ref mmA :: .ref mqA :: .ref mzA :: .ref mwy :: .ref mfd :: .int msz :: .int (nI cz) :: .int mch :: .int mft :: .int mpt :: .int (nI m8) :: .int mvd :: .long tm :: .int mmk :: []))) kmsT hg_7 (fun e => hx_mo_msT.symm (congrArg Prod.fst e))
    have kmrV := Xc.setX (c' := .inr (12, (.int 0 :: .int (nI fd) :: .int mwr :: .int (nI K9) :: .int (nI KL) :: .ref moc :: .ref msT :: .ref mrV :: .ref msP :: .int mqs :: .ref mrA :: .ref mbA :: .ref mwA :: .ref mhA :: .ref mfA :: .ref mpA :: .ref mxA :: .ref myA :: .ref mmA :: .ref mqA :: .ref mzA :: .ref mwy :: .ref mfd :: .int msz :: .int (nI cz) :: .int mch :: .int mft :: .int mpt :: .int (nI m8) :: .int mvd :: .long tm :: .int mmk :: []))) kmrV hg_7 (fun e => hx_mo_mrV.symm (congrArg Prod.fst e))
    have kmfd := Xc.setX (c' := .inr (12, (.int 0 :: .int (nI fd) :: .int mwr :: .int (nI K9) :: .int (nI KL) :: .ref moc :: .ref msT :: .ref mrV :: .ref msP :: .int mqs :: .ref mrA :: .ref mbA :: .ref mwA :: .ref mhA :: .ref mfA :: .ref mpA :: .ref mxA :: .ref myA :: .ref mmA :: .ref mqA :: .ref mzA :: .ref mwy :: .ref mfd :: .int msz :: .int (nI cz) :: .int mch :: .int mft :: .int mpt :: .int (nI m8) :: .int mvd :: .long tm :: .int mmk :: []))) kmfd hg_7 (fun e => hx_mo_mfd.symm (congrArg Prod.fst e))
    have hFR := hFR.tr (FL.set (Ad := Ad) (X := [mo, mmA, mrA, mwy, mfd]) (c' := .inr (12, (.int 0 :: .int (nI fd) :: .int mwr :: .int (nI K9) :: .int (nI KL) :: .ref moc :: .ref msT :: .ref mrV :: .ref msP :: .int mqs :: .ref mrA :: .ref mbA :: .ref mwA :: .ref mhA :: .ref mfA :: .ref mpA :: .ref mxA :: .ref myA :: .ref mmA :: .ref mqA :: .ref mzA :: .ref mwy :: .ref mfd :: .int msz :: .int (nI cz) :: .int mch :: .int mft :: .int mpt :: .int (nI m8) :: .int mvd :: .long tm :: .int mmk :: []))) hg_7 (by simp))
    have hg_7 := set_here (c' := .inr (12, (.int 0 :: .int (nI fd) :: .int mwr :: .int (nI K9) :: .int (nI KL) :: .ref moc :: .ref msT :: .ref mrV :: .ref msP :: .int mqs :: .ref mrA :: .ref mbA :: .ref mwA :: .ref mhA :: .ref mfA :: .ref mpA :: .ref mxA :: .ref myA :: .ref mmA :: .ref mqA :: .ref mzA :: .ref mwy :: .ref mfd :: .int msz :: .int (nI cz) :: .int mch :: .int mft :: .int mpt :: .int (nI m8) :: .int mvd :: .long tm :: .int mmk :: []))) hg_7
    have kmo : Xc Ad mo (.inr (12, (.int 0 :: .int (nI fd) :: .int mwr :: .int (nI K9) :: .int (nI KL) :: .ref moc :: .ref msT :: .ref mrV :: .ref msP :: .int mqs :: .ref mrA :: .ref mbA :: .ref mwA :: .ref mhA :: .ref mfA :: .ref mpA :: .ref mxA :: .ref myA :: .ref mmA :: .ref mqA :: .ref mzA :: .ref mwy :: .ref mfd :: .int msz :: .int (nI cz) :: .int mch :: .int mft :: .int mpt :: .int (nI m8) :: .int mvd :: .long tm :: .int mmk :: []))) (G_8.set i_7 (mo, .inr (12, (.int 0 :: .int (nI fd) :: .int mwr :: .int (nI K9) :: .int (nI KL) :: .ref moc :: .ref msT :: .ref mrV :: .ref msP :: .int mqs :: .ref mrA :: .ref mbA :: .ref mwA :: .ref mhA :: .ref mfA :: .ref mpA :: .ref mxA :: .ref myA :: .ref mmA :: .ref mqA :: .ref mzA :: .ref mwy :: .ref mfd :: .int msz :: .int (nI cz) :: .int mch :: .int mft :: .int mpt :: .int (nI m8) :: .int mvd :: .long tm :: .int mmk :: [])))) := ⟨kmo.1, List.mem_of_getElem? hg_7⟩
    have hD := hD3
    clear hD3 hD2
    generalize G_8.set i_7 (mo, .inr (12, (.int 0 :: .int (nI fd) :: .int mwr :: .int (nI K9) :: .int (nI KL) :: .ref moc :: .ref msT :: .ref mrV :: .ref msP :: .int mqs :: .ref mrA :: .ref mbA :: .ref mwA :: .ref mhA :: .ref mfA :: .ref mpA :: .ref mxA :: .ref myA :: .ref mmA :: .ref mqA :: .ref mzA :: .ref mwy :: .ref mfd :: .int msz :: .int (nI cz) :: .int mch :: .int mft :: .int mpt :: .int (nI m8) :: .int mvd :: .long tm :: .int mmk :: []))) = G_10 at hP hD hTy hFR kmo kmmA kmrA kmwy kmsT kmrV kmfd hg_7
    obtain ⟨cX_11, eX_11⟩ : ∃ z : va_E, z = .inr (12, (.int 0 :: .int (nI fd) :: .int mwr :: .int (nI K9) :: .int (nI KL) :: .ref moc :: .ref msT :: .ref mrV :: .ref msP :: .int mqs :: .ref mrA :: .ref mbA :: .ref mwA :: .ref mhA :: .ref mfA :: .ref mpA :: .ref mxA :: .ref myA :: .ref mmA :: .ref mqA :: .ref mzA :: .ref mwy :: .ref mfd :: .int msz :: .int (nI cz) :: .int mch :: .int mft :: .int mpt :: .int (nI m8) :: .int mvd :: .long tm :: .int mmk :: [])) := ⟨_, rfl⟩
    rw [← eX_11] at kmo
    refine lv_aload_n hx hb d_Model_validate_51 rfl (lv_at hl 0 rfl) ?_
    refine lv_iload hx hb d_Model_validate_52 (lv_at hl 4 rfl) ?_
    refine va_put (v := .int 1) (ty := .boolean) hx hb htb i_Model t_Model t_Model_ok n_Model hown hK hP hD hS i_7 hg_7 rfl 31 (by decide) (htb _ q8_5) (fun _ h9 => h9) rfl (by decide +kernel) rfl rfl (Nat.le_of_ble_eq_true rfl) d_Model_validate_54 (fun H54 locs hP hD2 hS => ?_)
    have hP : va_P (dC, dI) classes (G_10.set i_7 (mo, .inr (12, (.int 0 :: .int (nI fd) :: .int mwr :: .int (nI K9) :: .int (nI KL) :: .ref moc :: .ref msT :: .ref mrV :: .ref msP :: .int mqs :: .ref mrA :: .ref mbA :: .ref mwA :: .ref mhA :: .ref mfA :: .ref mpA :: .ref mxA :: .ref myA :: .ref mmA :: .ref mqA :: .ref mzA :: .ref mwy :: .ref mfd :: .int msz :: .int (nI cz) :: .int mch :: .int mft :: .int mpt :: .int (nI m8) :: .int mvd :: .long tm :: .int 1 :: [])))) H54 := hP
    have hD3 : va_D A (G_10.set i_7 (mo, .inr (12, (.int 0 :: .int (nI fd) :: .int mwr :: .int (nI K9) :: .int (nI KL) :: .ref moc :: .ref msT :: .ref mrV :: .ref msP :: .int mqs :: .ref mrA :: .ref mbA :: .ref mwA :: .ref mhA :: .ref mfA :: .ref mpA :: .ref mxA :: .ref myA :: .ref mmA :: .ref mqA :: .ref mzA :: .ref mwy :: .ref mfd :: .int msz :: .int (nI cz) :: .int mch :: .int mft :: .int mpt :: .int (nI m8) :: .int mvd :: .long tm :: .int 1 :: [])))) := hD2
    have hTy := TR.setX (c' := .inr (12, (.int 0 :: .int (nI fd) :: .int mwr :: .int (nI K9) :: .int (nI KL) :: .ref moc :: .ref msT :: .ref mrV :: .ref msP :: .int mqs :: .ref mrA :: .ref mbA :: .ref mwA :: .ref mhA :: .ref mfA :: .ref mpA :: .ref mxA :: .ref myA :: .ref mmA :: .ref mqA :: .ref mzA :: .ref mwy :: .ref mfd :: .int msz :: .int (nI cz) :: .int mch :: .int mft :: .int mpt :: .int (nI m8) :: .int mvd :: .long tm :: .int 1 :: []))) hTy hg_7 kmo.1
    have kmmA := Xc.setX (c' := .inr (12, (.int 0 :: .int (nI fd) :: .int mwr :: .int (nI K9) :: .int (nI KL) :: .ref moc :: .ref msT :: .ref mrV :: .ref msP :: .int mqs :: .ref mrA :: .ref mbA :: .ref mwA :: .ref mhA :: .ref mfA :: .ref mpA :: .ref mxA :: .ref myA :: .ref mmA :: .ref mqA :: .ref mzA :: .ref mwy :: .ref mfd :: .int msz :: .int (nI cz) :: .int mch :: .int mft :: .int mpt :: .int (nI m8) :: .int mvd :: .long tm :: .int 1 :: []))) kmmA hg_7 (fun e => hx_mo_mmA.symm (congrArg Prod.fst e))
    have kmrA := Xc.setX (c' := .inr (12, (.int 0 :: .int (nI fd) :: .int mwr :: .int (nI K9) :: .int (nI KL) :: .ref moc :: .ref msT :: .ref mrV :: .ref msP :: .int mqs :: .ref mrA :: .ref mbA :: .ref mwA :: .ref mhA :: .ref mfA :: .ref mpA :: .ref mxA :: .ref myA :: .ref mmA :: .ref mqA :: .ref mzA :: .ref mwy :: .ref mfd :: .int msz :: .int (nI cz) :: .int mch :: .int mft :: .int mpt :: .int (nI m8) :: .int mvd :: .long tm :: .int 1 :: []))) kmrA hg_7 (fun e => hx_mo_mrA.symm (congrArg Prod.fst e))
    have kmwy := Xc.setX (c' := .inr (12, (.int 0 :: .int (nI fd) :: .int mwr :: .int (nI K9) :: .int (nI KL) :: .ref moc :: .ref msT :: .ref mrV :: .ref msP :: .int mqs :: .ref mrA :: .ref mbA :: .ref mwA :: .ref mhA :: .ref mfA :: .ref mpA :: .ref mxA :: .ref myA :: .ref mmA :: .ref mqA :: .ref mzA :: .ref mwy :: .ref mfd :: .int msz :: .int (nI cz) :: .int mch :: .int mft :: .int mpt :: .int (nI m8) :: .int mvd :: .long tm :: .int 1 :: []))) kmwy hg_7 (fun e => hx_mo_mwy.symm (congrArg Prod.fst e))
    have kmsT := Xc.setX (c' := .inr (12, (.int 0 :: .int (nI fd) :: .int mwr :: .int (nI K9) :: .int (nI KL) :: .ref moc :: .ref msT :: .ref mrV :: .ref msP :: .int mqs :: .ref mrA :: .ref mbA :: .ref mwA :: .ref mhA :: .ref mfA :: .ref mpA :: .ref mxA :: .ref myA :: .ref mmA :: .ref mqA :: .ref mzA :: .ref mwy :: .ref mfd :: .int msz :: .int (nI cz) :: .int mch :: .int mft :: .int mpt :: .int (nI m8) :: .int mvd :: .long tm :: .int 1 :: []))) kmsT hg_7 (fun e => hx_mo_msT.symm (congrArg Prod.fst e))
    have kmrV := Xc.setX (c' := .inr (12, (.int 0 :: .int (nI fd) :: .int mwr :: .int (nI K9) :: .int (nI KL) :: .ref moc :: .ref msT :: .ref mrV :: .ref msP :: .int mqs :: .ref mrA :: .ref mbA :: .ref mwA :: .ref mhA :: .ref mfA :: .ref mpA :: .ref mxA :: .ref myA :: .ref mmA :: .ref mqA :: .ref mzA :: .ref mwy :: .ref mfd :: .int msz :: .int (nI cz) :: .int mch :: .int mft :: .int mpt :: .int (nI m8) :: .int mvd :: .long tm :: .int 1 :: []))) kmrV hg_7 (fun e => hx_mo_mrV.symm (congrArg Prod.fst e))
    have kmfd := Xc.setX (c' := .inr (12, (.int 0 :: .int (nI fd) :: .int mwr :: .int (nI K9) :: .int (nI KL) :: .ref moc :: .ref msT :: .ref mrV :: .ref msP :: .int mqs :: .ref mrA :: .ref mbA :: .ref mwA :: .ref mhA :: .ref mfA :: .ref mpA :: .ref mxA :: .ref myA :: .ref mmA :: .ref mqA :: .ref mzA :: .ref mwy :: .ref mfd :: .int msz :: .int (nI cz) :: .int mch :: .int mft :: .int mpt :: .int (nI m8) :: .int mvd :: .long tm :: .int 1 :: []))) kmfd hg_7 (fun e => hx_mo_mfd.symm (congrArg Prod.fst e))
    have hFR := hFR.tr (FL.set (Ad := Ad) (X := [mo, mmA, mrA, mwy, mfd]) (c' := .inr (12, (.int 0 :: .int (nI fd) :: .int mwr :: .int (nI K9) :: .int (nI KL) :: .ref moc :: .ref msT :: .ref mrV :: .ref msP :: .int mqs :: .ref mrA :: .ref mbA :: .ref mwA :: .ref mhA :: .ref mfA :: .ref mpA :: .ref mxA :: .ref myA :: .ref mmA :: .ref mqA :: .ref mzA :: .ref mwy :: .ref mfd :: .int msz :: .int (nI cz) :: .int mch :: .int mft :: .int mpt :: .int (nI m8) :: .int mvd :: .long tm :: .int 1 :: []))) hg_7 (by simp))
    have hg_7 := set_here (c' := .inr (12, (.int 0 :: .int (nI fd) :: .int mwr :: .int (nI K9) :: .int (nI KL) :: .ref moc :: .ref msT :: .ref mrV :: .ref msP :: .int mqs :: .ref mrA :: .ref mbA :: .ref mwA :: .ref mhA :: .ref mfA :: .ref mpA :: .ref mxA :: .ref myA :: .ref mmA :: .ref mqA :: .ref mzA :: .ref mwy :: .ref mfd :: .int msz :: .int (nI cz) :: .int mch :: .int mft :: .int mpt :: .int (nI m8) :: .int mvd :: .long tm :: .int 1 :: []))) hg_7
    have kmo : Xc Ad mo (.inr (12, (.int 0 :: .int (nI fd) :: .int mwr :: .int (nI K9) :: .int (nI KL) :: .ref moc :: .ref msT :: .ref mrV :: .ref msP :: .int mqs :: .ref mrA :: .ref mbA :: .ref mwA :: .ref mhA :: .ref mfA :: .ref mpA :: .ref mxA :: .ref myA :: .ref mmA :: .ref mqA :: .ref mzA :: .ref mwy :: .ref mfd :: .int msz :: .int (nI cz) :: .int mch :: .int mft :: .int mpt :: .int (nI m8) :: .int mvd :: .long tm :: .int 1 :: []))) (G_10.set i_7 (mo, .inr (12, (.int 0 :: .int (nI fd) :: .int mwr :: .int (nI K9) :: .int (nI KL) :: .ref moc :: .ref msT :: .ref mrV :: .ref msP :: .int mqs :: .ref mrA :: .ref mbA :: .ref mwA :: .ref mhA :: .ref mfA :: .ref mpA :: .ref mxA :: .ref myA :: .ref mmA :: .ref mqA :: .ref mzA :: .ref mwy :: .ref mfd :: .int msz :: .int (nI cz) :: .int mch :: .int mft :: .int mpt :: .int (nI m8) :: .int mvd :: .long tm :: .int 1 :: [])))) := ⟨kmo.1, List.mem_of_getElem? hg_7⟩
    have hD := hD3
    clear hD3 hD2
    generalize G_10.set i_7 (mo, .inr (12, (.int 0 :: .int (nI fd) :: .int mwr :: .int (nI K9) :: .int (nI KL) :: .ref moc :: .ref msT :: .ref mrV :: .ref msP :: .int mqs :: .ref mrA :: .ref mbA :: .ref mwA :: .ref mhA :: .ref mfA :: .ref mpA :: .ref mxA :: .ref myA :: .ref mmA :: .ref mqA :: .ref mzA :: .ref mwy :: .ref mfd :: .int msz :: .int (nI cz) :: .int mch :: .int mft :: .int mpt :: .int (nI m8) :: .int mvd :: .long tm :: .int 1 :: []))) = G_12 at hP hD hTy hFR kmo kmmA kmrA kmwy kmsT kmrV kmfd hg_7
    obtain ⟨cX_13, eX_13⟩ : ∃ z : va_E, z = .inr (12, (.int 0 :: .int (nI fd) :: .int mwr :: .int (nI K9) :: .int (nI KL) :: .ref moc :: .ref msT :: .ref mrV :: .ref msP :: .int mqs :: .ref mrA :: .ref mbA :: .ref mwA :: .ref mhA :: .ref mfA :: .ref mpA :: .ref mxA :: .ref myA :: .ref mmA :: .ref mqA :: .ref mzA :: .ref mwy :: .ref mfd :: .int msz :: .int (nI cz) :: .int mch :: .int mft :: .int mpt :: .int (nI m8) :: .int mvd :: .long tm :: .int 1 :: [])) := ⟨_, rfl⟩
    rw [← eX_13] at kmo
    refine lv_aload_n hx hb d_Model_validate_57 rfl (lv_at hl 0 rfl) ?_
    refine lv_iconst (v := 0) hx hb d_Model_validate_58 (by decide) ?_
    rw [show (0 : Int32) = nI 0 from rfl]
    refine va_put (v := .int (nI 0)) (ty := .int) hx hb htb i_Model t_Model t_Model_ok n_Model hown hK hP hD hS i_7 hg_7 rfl 25 (by decide) (htb _ q7_239) (fun _ h9 => h9) rfl (by decide +kernel) rfl rfl (Nat.le_of_ble_eq_true rfl) d_Model_validate_59 (fun H59 locs hP hD2 hS => ?_)
    have hP : va_P (dC, dI) classes (G_12.set i_7 (mo, .inr (12, (.int 0 :: .int (nI fd) :: .int mwr :: .int (nI K9) :: .int (nI KL) :: .ref moc :: .ref msT :: .ref mrV :: .ref msP :: .int mqs :: .ref mrA :: .ref mbA :: .ref mwA :: .ref mhA :: .ref mfA :: .ref mpA :: .ref mxA :: .ref myA :: .ref mmA :: .ref mqA :: .ref mzA :: .ref mwy :: .ref mfd :: .int msz :: .int (nI cz) :: .int (nI 0) :: .int mft :: .int mpt :: .int (nI m8) :: .int mvd :: .long tm :: .int 1 :: [])))) H59 := hP
    have hD3 : va_D A (G_12.set i_7 (mo, .inr (12, (.int 0 :: .int (nI fd) :: .int mwr :: .int (nI K9) :: .int (nI KL) :: .ref moc :: .ref msT :: .ref mrV :: .ref msP :: .int mqs :: .ref mrA :: .ref mbA :: .ref mwA :: .ref mhA :: .ref mfA :: .ref mpA :: .ref mxA :: .ref myA :: .ref mmA :: .ref mqA :: .ref mzA :: .ref mwy :: .ref mfd :: .int msz :: .int (nI cz) :: .int (nI 0) :: .int mft :: .int mpt :: .int (nI m8) :: .int mvd :: .long tm :: .int 1 :: [])))) := hD2
    have hTy := TR.setX (c' := .inr (12, (.int 0 :: .int (nI fd) :: .int mwr :: .int (nI K9) :: .int (nI KL) :: .ref moc :: .ref msT :: .ref mrV :: .ref msP :: .int mqs :: .ref mrA :: .ref mbA :: .ref mwA :: .ref mhA :: .ref mfA :: .ref mpA :: .ref mxA :: .ref myA :: .ref mmA :: .ref mqA :: .ref mzA :: .ref mwy :: .ref mfd :: .int msz :: .int (nI cz) :: .int (nI 0) :: .int mft :: .int mpt :: .int (nI m8) :: .int mvd :: .long tm :: .int 1 :: []))) hTy hg_7 kmo.1
    have kmmA := Xc.setX (c' := .inr (12, (.int 0 :: .int (nI fd) :: .int mwr :: .int (nI K9) :: .int (nI KL) :: .ref moc :: .ref msT :: .ref mrV :: .ref msP :: .int mqs :: .ref mrA :: .ref mbA :: .ref mwA :: .ref mhA :: .ref mfA :: .ref mpA :: .ref mxA :: .ref myA :: .ref mmA :: .ref mqA :: .ref mzA :: .ref mwy :: .ref mfd :: .int msz :: .int (nI cz) :: .int (nI 0) :: .int mft :: .int mpt :: .int (nI m8) :: .int mvd :: .long tm :: .int 1 :: []))) kmmA hg_7 (fun e => hx_mo_mmA.symm (congrArg Prod.fst e))
    have kmrA := Xc.setX (c' := .inr (12, (.int 0 :: .int (nI fd) :: .int mwr :: .int (nI K9) :: .int (nI KL) :: .ref moc :: .ref msT :: .ref mrV :: .ref msP :: .int mqs :: .ref mrA :: .ref mbA :: .ref mwA :: .ref mhA :: .ref mfA :: .ref mpA :: .ref mxA :: .ref myA :: .ref mmA :: .ref mqA :: .ref mzA :: .ref mwy :: .ref mfd :: .int msz :: .int (nI cz) :: .int (nI 0) :: .int mft :: .int mpt :: .int (nI m8) :: .int mvd :: .long tm :: .int 1 :: []))) kmrA hg_7 (fun e => hx_mo_mrA.symm (congrArg Prod.fst e))
    have kmwy := Xc.setX (c' := .inr (12, (.int 0 :: .int (nI fd) :: .int mwr :: .int (nI K9) :: .int (nI KL) :: .ref moc :: .ref msT :: .ref mrV :: .ref msP :: .int mqs :: .ref mrA :: .ref mbA :: .ref mwA :: .ref mhA :: .ref mfA :: .ref mpA :: .ref mxA :: .ref myA :: .ref mmA :: .ref mqA :: .ref mzA :: .ref mwy :: .ref mfd :: .int msz :: .int (nI cz) :: .int (nI 0) :: .int mft :: .int mpt :: .int (nI m8) :: .int mvd :: .long tm :: .int 1 :: []))) kmwy hg_7 (fun e => hx_mo_mwy.symm (congrArg Prod.fst e))
    have kmsT := Xc.setX (c' := .inr (12, (.int 0 :: .int (nI fd) :: .int mwr :: .int (nI K9) :: .int (nI KL) :: .ref moc :: .ref msT :: .ref mrV :: .ref msP :: .int mqs :: .ref mrA :: .ref mbA :: .ref mwA :: .ref mhA :: .ref mfA :: .ref mpA :: .ref mxA :: .ref myA :: .ref mmA :: .ref mqA :: .ref mzA :: .ref mwy :: .ref mfd :: .int msz :: .int (nI cz) :: .int (nI 0) :: .int mft :: .int mpt :: .int (nI m8) :: .int mvd :: .long tm :: .int 1 :: []))) kmsT hg_7 (fun e => hx_mo_msT.symm (congrArg Prod.fst e))
    have kmrV := Xc.setX (c' := .inr (12, (.int 0 :: .int (nI fd) :: .int mwr :: .int (nI K9) :: .int (nI KL) :: .ref moc :: .ref msT :: .ref mrV :: .ref msP :: .int mqs :: .ref mrA :: .ref mbA :: .ref mwA :: .ref mhA :: .ref mfA :: .ref mpA :: .ref mxA :: .ref myA :: .ref mmA :: .ref mqA :: .ref mzA :: .ref mwy :: .ref mfd :: .int msz :: .int (nI cz) :: .int (nI 0) :: .int mft :: .int mpt :: .int (nI m8) :: .int mvd :: .long tm :: .int 1 :: []))) kmrV hg_7 (fun e => hx_mo_mrV.symm (congrArg Prod.fst e))
    have kmfd := Xc.setX (c' := .inr (12, (.int 0 :: .int (nI fd) :: .int mwr :: .int (nI K9) :: .int (nI KL) :: .ref moc :: .ref msT :: .ref mrV :: .ref msP :: .int mqs :: .ref mrA :: .ref mbA :: .ref mwA :: .ref mhA :: .ref mfA :: .ref mpA :: .ref mxA :: .ref myA :: .ref mmA :: .ref mqA :: .ref mzA :: .ref mwy :: .ref mfd :: .int msz :: .int (nI cz) :: .int (nI 0) :: .int mft :: .int mpt :: .int (nI m8) :: .int mvd :: .long tm :: .int 1 :: []))) kmfd hg_7 (fun e => hx_mo_mfd.symm (congrArg Prod.fst e))
    have hFR := hFR.tr (FL.set (Ad := Ad) (X := [mo, mmA, mrA, mwy, mfd]) (c' := .inr (12, (.int 0 :: .int (nI fd) :: .int mwr :: .int (nI K9) :: .int (nI KL) :: .ref moc :: .ref msT :: .ref mrV :: .ref msP :: .int mqs :: .ref mrA :: .ref mbA :: .ref mwA :: .ref mhA :: .ref mfA :: .ref mpA :: .ref mxA :: .ref myA :: .ref mmA :: .ref mqA :: .ref mzA :: .ref mwy :: .ref mfd :: .int msz :: .int (nI cz) :: .int (nI 0) :: .int mft :: .int mpt :: .int (nI m8) :: .int mvd :: .long tm :: .int 1 :: []))) hg_7 (by simp))
    have hg_7 := set_here (c' := .inr (12, (.int 0 :: .int (nI fd) :: .int mwr :: .int (nI K9) :: .int (nI KL) :: .ref moc :: .ref msT :: .ref mrV :: .ref msP :: .int mqs :: .ref mrA :: .ref mbA :: .ref mwA :: .ref mhA :: .ref mfA :: .ref mpA :: .ref mxA :: .ref myA :: .ref mmA :: .ref mqA :: .ref mzA :: .ref mwy :: .ref mfd :: .int msz :: .int (nI cz) :: .int (nI 0) :: .int mft :: .int mpt :: .int (nI m8) :: .int mvd :: .long tm :: .int 1 :: []))) hg_7
    have kmo : Xc Ad mo (.inr (12, (.int 0 :: .int (nI fd) :: .int mwr :: .int (nI K9) :: .int (nI KL) :: .ref moc :: .ref msT :: .ref mrV :: .ref msP :: .int mqs :: .ref mrA :: .ref mbA :: .ref mwA :: .ref mhA :: .ref mfA :: .ref mpA :: .ref mxA :: .ref myA :: .ref mmA :: .ref mqA :: .ref mzA :: .ref mwy :: .ref mfd :: .int msz :: .int (nI cz) :: .int (nI 0) :: .int mft :: .int mpt :: .int (nI m8) :: .int mvd :: .long tm :: .int 1 :: []))) (G_12.set i_7 (mo, .inr (12, (.int 0 :: .int (nI fd) :: .int mwr :: .int (nI K9) :: .int (nI KL) :: .ref moc :: .ref msT :: .ref mrV :: .ref msP :: .int mqs :: .ref mrA :: .ref mbA :: .ref mwA :: .ref mhA :: .ref mfA :: .ref mpA :: .ref mxA :: .ref myA :: .ref mmA :: .ref mqA :: .ref mzA :: .ref mwy :: .ref mfd :: .int msz :: .int (nI cz) :: .int (nI 0) :: .int mft :: .int mpt :: .int (nI m8) :: .int mvd :: .long tm :: .int 1 :: [])))) := ⟨kmo.1, List.mem_of_getElem? hg_7⟩
    have hD := hD3
    clear hD3 hD2
    generalize G_12.set i_7 (mo, .inr (12, (.int 0 :: .int (nI fd) :: .int mwr :: .int (nI K9) :: .int (nI KL) :: .ref moc :: .ref msT :: .ref mrV :: .ref msP :: .int mqs :: .ref mrA :: .ref mbA :: .ref mwA :: .ref mhA :: .ref mfA :: .ref mpA :: .ref mxA :: .ref myA :: .ref mmA :: .ref mqA :: .ref mzA :: .ref mwy :: .ref mfd :: .int msz :: .int (nI cz) :: .int (nI 0) :: .int mft :: .int mpt :: .int (nI m8) :: .int mvd :: .long tm :: .int 1 :: []))) = G_14 at hP hD hTy hFR kmo kmmA kmrA kmwy kmsT kmrV kmfd hg_7
    obtain ⟨cX_15, eX_15⟩ : ∃ z : va_E, z = .inr (12, (.int 0 :: .int (nI fd) :: .int mwr :: .int (nI K9) :: .int (nI KL) :: .ref moc :: .ref msT :: .ref mrV :: .ref msP :: .int mqs :: .ref mrA :: .ref mbA :: .ref mwA :: .ref mhA :: .ref mfA :: .ref mpA :: .ref mxA :: .ref myA :: .ref mmA :: .ref mqA :: .ref mzA :: .ref mwy :: .ref mfd :: .int msz :: .int (nI cz) :: .int (nI 0) :: .int mft :: .int mpt :: .int (nI m8) :: .int mvd :: .long tm :: .int 1 :: [])) := ⟨_, rfl⟩
    rw [← eX_15] at kmo
    refine lv_aload_n hx hb d_Model_validate_62 rfl (lv_at hl 0 rfl) ?_
    refine lv_iconst (v := 0) hx hb d_Model_validate_63 (by decide) ?_
    rw [show (0 : Int32) = nI ([] : List Nat).length from rfl]
    refine va_put (v := .int (nI ([] : List Nat).length)) (ty := .int) hx hb htb i_Model t_Model t_Model_ok n_Model hown hK hP hD hS i_7 hg_7 rfl 24 (by decide) (htb _ q7_238) (fun _ h9 => h9) rfl (by decide +kernel) rfl rfl (Nat.le_of_ble_eq_true rfl) d_Model_validate_64 (fun H64 locs hP hD2 hS => ?_)
    have hP : va_P (dC, dI) classes (G_14.set i_7 (mo, .inr (12, (.int 0 :: .int (nI fd) :: .int mwr :: .int (nI K9) :: .int (nI KL) :: .ref moc :: .ref msT :: .ref mrV :: .ref msP :: .int mqs :: .ref mrA :: .ref mbA :: .ref mwA :: .ref mhA :: .ref mfA :: .ref mpA :: .ref mxA :: .ref myA :: .ref mmA :: .ref mqA :: .ref mzA :: .ref mwy :: .ref mfd :: .int msz :: .int (nI ([] : List Nat).length) :: .int (nI 0) :: .int mft :: .int mpt :: .int (nI m8) :: .int mvd :: .long tm :: .int 1 :: [])))) H64 := hP
    have hD3 : va_D A (G_14.set i_7 (mo, .inr (12, (.int 0 :: .int (nI fd) :: .int mwr :: .int (nI K9) :: .int (nI KL) :: .ref moc :: .ref msT :: .ref mrV :: .ref msP :: .int mqs :: .ref mrA :: .ref mbA :: .ref mwA :: .ref mhA :: .ref mfA :: .ref mpA :: .ref mxA :: .ref myA :: .ref mmA :: .ref mqA :: .ref mzA :: .ref mwy :: .ref mfd :: .int msz :: .int (nI ([] : List Nat).length) :: .int (nI 0) :: .int mft :: .int mpt :: .int (nI m8) :: .int mvd :: .long tm :: .int 1 :: [])))) := hD2
    have hTy := TR.setX (c' := .inr (12, (.int 0 :: .int (nI fd) :: .int mwr :: .int (nI K9) :: .int (nI KL) :: .ref moc :: .ref msT :: .ref mrV :: .ref msP :: .int mqs :: .ref mrA :: .ref mbA :: .ref mwA :: .ref mhA :: .ref mfA :: .ref mpA :: .ref mxA :: .ref myA :: .ref mmA :: .ref mqA :: .ref mzA :: .ref mwy :: .ref mfd :: .int msz :: .int (nI ([] : List Nat).length) :: .int (nI 0) :: .int mft :: .int mpt :: .int (nI m8) :: .int mvd :: .long tm :: .int 1 :: []))) hTy hg_7 kmo.1
    have kmmA := Xc.setX (c' := .inr (12, (.int 0 :: .int (nI fd) :: .int mwr :: .int (nI K9) :: .int (nI KL) :: .ref moc :: .ref msT :: .ref mrV :: .ref msP :: .int mqs :: .ref mrA :: .ref mbA :: .ref mwA :: .ref mhA :: .ref mfA :: .ref mpA :: .ref mxA :: .ref myA :: .ref mmA :: .ref mqA :: .ref mzA :: .ref mwy :: .ref mfd :: .int msz :: .int (nI ([] : List Nat).length) :: .int (nI 0) :: .int mft :: .int mpt :: .int (nI m8) :: .int mvd :: .long tm :: .int 1 :: []))) kmmA hg_7 (fun e => hx_mo_mmA.symm (congrArg Prod.fst e))
    have kmrA := Xc.setX (c' := .inr (12, (.int 0 :: .int (nI fd) :: .int mwr :: .int (nI K9) :: .int (nI KL) :: .ref moc :: .ref msT :: .ref mrV :: .ref msP :: .int mqs :: .ref mrA :: .ref mbA :: .ref mwA :: .ref mhA :: .ref mfA :: .ref mpA :: .ref mxA :: .ref myA :: .ref mmA :: .ref mqA :: .ref mzA :: .ref mwy :: .ref mfd :: .int msz :: .int (nI ([] : List Nat).length) :: .int (nI 0) :: .int mft :: .int mpt :: .int (nI m8) :: .int mvd :: .long tm :: .int 1 :: []))) kmrA hg_7 (fun e => hx_mo_mrA.symm (congrArg Prod.fst e))
    have kmwy := Xc.setX (c' := .inr (12, (.int 0 :: .int (nI fd) :: .int mwr :: .int (nI K9) :: .int (nI KL) :: .ref moc :: .ref msT :: .ref mrV :: .ref msP :: .int mqs :: .ref mrA :: .ref mbA :: .ref mwA :: .ref mhA :: .ref mfA :: .ref mpA :: .ref mxA :: .ref myA :: .ref mmA :: .ref mqA :: .ref mzA :: .ref mwy :: .ref mfd :: .int msz :: .int (nI ([] : List Nat).length) :: .int (nI 0) :: .int mft :: .int mpt :: .int (nI m8) :: .int mvd :: .long tm :: .int 1 :: []))) kmwy hg_7 (fun e => hx_mo_mwy.symm (congrArg Prod.fst e))
    have kmsT := Xc.setX (c' := .inr (12, (.int 0 :: .int (nI fd) :: .int mwr :: .int (nI K9) :: .int (nI KL) :: .ref moc :: .ref msT :: .ref mrV :: .ref msP :: .int mqs :: .ref mrA :: .ref mbA :: .ref mwA :: .ref mhA :: .ref mfA :: .ref mpA :: .ref mxA :: .ref myA :: .ref mmA :: .ref mqA :: .ref mzA :: .ref mwy :: .ref mfd :: .int msz :: .int (nI ([] : List Nat).length) :: .int (nI 0) :: .int mft :: .int mpt :: .int (nI m8) :: .int mvd :: .long tm :: .int 1 :: []))) kmsT hg_7 (fun e => hx_mo_msT.symm (congrArg Prod.fst e))
    have kmrV := Xc.setX (c' := .inr (12, (.int 0 :: .int (nI fd) :: .int mwr :: .int (nI K9) :: .int (nI KL) :: .ref moc :: .ref msT :: .ref mrV :: .ref msP :: .int mqs :: .ref mrA :: .ref mbA :: .ref mwA :: .ref mhA :: .ref mfA :: .ref mpA :: .ref mxA :: .ref myA :: .ref mmA :: .ref mqA :: .ref mzA :: .ref mwy :: .ref mfd :: .int msz :: .int (nI ([] : List Nat).length) :: .int (nI 0) :: .int mft :: .int mpt :: .int (nI m8) :: .int mvd :: .long tm :: .int 1 :: []))) kmrV hg_7 (fun e => hx_mo_mrV.symm (congrArg Prod.fst e))
    have kmfd := Xc.setX (c' := .inr (12, (.int 0 :: .int (nI fd) :: .int mwr :: .int (nI K9) :: .int (nI KL) :: .ref moc :: .ref msT :: .ref mrV :: .ref msP :: .int mqs :: .ref mrA :: .ref mbA :: .ref mwA :: .ref mhA :: .ref mfA :: .ref mpA :: .ref mxA :: .ref myA :: .ref mmA :: .ref mqA :: .ref mzA :: .ref mwy :: .ref mfd :: .int msz :: .int (nI ([] : List Nat).length) :: .int (nI 0) :: .int mft :: .int mpt :: .int (nI m8) :: .int mvd :: .long tm :: .int 1 :: []))) kmfd hg_7 (fun e => hx_mo_mfd.symm (congrArg Prod.fst e))
    have hFR := hFR.tr (FL.set (Ad := Ad) (X := [mo, mmA, mrA, mwy, mfd]) (c' := .inr (12, (.int 0 :: .int (nI fd) :: .int mwr :: .int (nI K9) :: .int (nI KL) :: .ref moc :: .ref msT :: .ref mrV :: .ref msP :: .int mqs :: .ref mrA :: .ref mbA :: .ref mwA :: .ref mhA :: .ref mfA :: .ref mpA :: .ref mxA :: .ref myA :: .ref mmA :: .ref mqA :: .ref mzA :: .ref mwy :: .ref mfd :: .int msz :: .int (nI ([] : List Nat).length) :: .int (nI 0) :: .int mft :: .int mpt :: .int (nI m8) :: .int mvd :: .long tm :: .int 1 :: []))) hg_7 (by simp))
    have hg_7 := set_here (c' := .inr (12, (.int 0 :: .int (nI fd) :: .int mwr :: .int (nI K9) :: .int (nI KL) :: .ref moc :: .ref msT :: .ref mrV :: .ref msP :: .int mqs :: .ref mrA :: .ref mbA :: .ref mwA :: .ref mhA :: .ref mfA :: .ref mpA :: .ref mxA :: .ref myA :: .ref mmA :: .ref mqA :: .ref mzA :: .ref mwy :: .ref mfd :: .int msz :: .int (nI ([] : List Nat).length) :: .int (nI 0) :: .int mft :: .int mpt :: .int (nI m8) :: .int mvd :: .long tm :: .int 1 :: []))) hg_7
    have kmo : Xc Ad mo (.inr (12, (.int 0 :: .int (nI fd) :: .int mwr :: .int (nI K9) :: .int (nI KL) :: .ref moc :: .ref msT :: .ref mrV :: .ref msP :: .int mqs :: .ref mrA :: .ref mbA :: .ref mwA :: .ref mhA :: .ref mfA :: .ref mpA :: .ref mxA :: .ref myA :: .ref mmA :: .ref mqA :: .ref mzA :: .ref mwy :: .ref mfd :: .int msz :: .int (nI ([] : List Nat).length) :: .int (nI 0) :: .int mft :: .int mpt :: .int (nI m8) :: .int mvd :: .long tm :: .int 1 :: []))) (G_14.set i_7 (mo, .inr (12, (.int 0 :: .int (nI fd) :: .int mwr :: .int (nI K9) :: .int (nI KL) :: .ref moc :: .ref msT :: .ref mrV :: .ref msP :: .int mqs :: .ref mrA :: .ref mbA :: .ref mwA :: .ref mhA :: .ref mfA :: .ref mpA :: .ref mxA :: .ref myA :: .ref mmA :: .ref mqA :: .ref mzA :: .ref mwy :: .ref mfd :: .int msz :: .int (nI ([] : List Nat).length) :: .int (nI 0) :: .int mft :: .int mpt :: .int (nI m8) :: .int mvd :: .long tm :: .int 1 :: [])))) := ⟨kmo.1, List.mem_of_getElem? hg_7⟩
    have hD := hD3
    clear hD3 hD2
    generalize G_14.set i_7 (mo, .inr (12, (.int 0 :: .int (nI fd) :: .int mwr :: .int (nI K9) :: .int (nI KL) :: .ref moc :: .ref msT :: .ref mrV :: .ref msP :: .int mqs :: .ref mrA :: .ref mbA :: .ref mwA :: .ref mhA :: .ref mfA :: .ref mpA :: .ref mxA :: .ref myA :: .ref mmA :: .ref mqA :: .ref mzA :: .ref mwy :: .ref mfd :: .int msz :: .int (nI ([] : List Nat).length) :: .int (nI 0) :: .int mft :: .int mpt :: .int (nI m8) :: .int mvd :: .long tm :: .int 1 :: []))) = G_16 at hP hD hTy hFR kmo kmmA kmrA kmwy kmsT kmrV kmfd hg_7
    obtain ⟨cX_17, eX_17⟩ : ∃ z : va_E, z = .inr (12, (.int 0 :: .int (nI fd) :: .int mwr :: .int (nI K9) :: .int (nI KL) :: .ref moc :: .ref msT :: .ref mrV :: .ref msP :: .int mqs :: .ref mrA :: .ref mbA :: .ref mwA :: .ref mhA :: .ref mfA :: .ref mpA :: .ref mxA :: .ref myA :: .ref mmA :: .ref mqA :: .ref mzA :: .ref mwy :: .ref mfd :: .int msz :: .int (nI ([] : List Nat).length) :: .int (nI 0) :: .int mft :: .int mpt :: .int (nI m8) :: .int mvd :: .long tm :: .int 1 :: [])) := ⟨_, rfl⟩
    rw [← eX_17] at kmo
    refine lv_aload_n hx hb d_Model_validate_67 rfl (lv_at hl 0 rfl) ?_
    refine lv_iconst (v := -1) hx hb d_Model_validate_68 (by decide) ?_
    refine va_put (v := .int (-1)) (ty := .int) hx hb htb i_Model t_Model t_Model_ok n_Model hown hK hP hD hS i_7 hg_7 rfl 26 (by decide) (htb _ q8_0) (fun _ h9 => h9) rfl (by decide +kernel) rfl rfl (Nat.le_of_ble_eq_true rfl) d_Model_validate_69 (fun H69 locs hP hD2 hS => ?_)
    have hP : va_P (dC, dI) classes (G_16.set i_7 (mo, .inr (12, (.int 0 :: .int (nI fd) :: .int mwr :: .int (nI K9) :: .int (nI KL) :: .ref moc :: .ref msT :: .ref mrV :: .ref msP :: .int mqs :: .ref mrA :: .ref mbA :: .ref mwA :: .ref mhA :: .ref mfA :: .ref mpA :: .ref mxA :: .ref myA :: .ref mmA :: .ref mqA :: .ref mzA :: .ref mwy :: .ref mfd :: .int msz :: .int (nI ([] : List Nat).length) :: .int (nI 0) :: .int (-1) :: .int mpt :: .int (nI m8) :: .int mvd :: .long tm :: .int 1 :: [])))) H69 := hP
    have hD3 : va_D A (G_16.set i_7 (mo, .inr (12, (.int 0 :: .int (nI fd) :: .int mwr :: .int (nI K9) :: .int (nI KL) :: .ref moc :: .ref msT :: .ref mrV :: .ref msP :: .int mqs :: .ref mrA :: .ref mbA :: .ref mwA :: .ref mhA :: .ref mfA :: .ref mpA :: .ref mxA :: .ref myA :: .ref mmA :: .ref mqA :: .ref mzA :: .ref mwy :: .ref mfd :: .int msz :: .int (nI ([] : List Nat).length) :: .int (nI 0) :: .int (-1) :: .int mpt :: .int (nI m8) :: .int mvd :: .long tm :: .int 1 :: [])))) := hD2
    have hTy := TR.setX (c' := .inr (12, (.int 0 :: .int (nI fd) :: .int mwr :: .int (nI K9) :: .int (nI KL) :: .ref moc :: .ref msT :: .ref mrV :: .ref msP :: .int mqs :: .ref mrA :: .ref mbA :: .ref mwA :: .ref mhA :: .ref mfA :: .ref mpA :: .ref mxA :: .ref myA :: .ref mmA :: .ref mqA :: .ref mzA :: .ref mwy :: .ref mfd :: .int msz :: .int (nI ([] : List Nat).length) :: .int (nI 0) :: .int (-1) :: .int mpt :: .int (nI m8) :: .int mvd :: .long tm :: .int 1 :: []))) hTy hg_7 kmo.1
    have kmmA := Xc.setX (c' := .inr (12, (.int 0 :: .int (nI fd) :: .int mwr :: .int (nI K9) :: .int (nI KL) :: .ref moc :: .ref msT :: .ref mrV :: .ref msP :: .int mqs :: .ref mrA :: .ref mbA :: .ref mwA :: .ref mhA :: .ref mfA :: .ref mpA :: .ref mxA :: .ref myA :: .ref mmA :: .ref mqA :: .ref mzA :: .ref mwy :: .ref mfd :: .int msz :: .int (nI ([] : List Nat).length) :: .int (nI 0) :: .int (-1) :: .int mpt :: .int (nI m8) :: .int mvd :: .long tm :: .int 1 :: []))) kmmA hg_7 (fun e => hx_mo_mmA.symm (congrArg Prod.fst e))
    have kmrA := Xc.setX (c' := .inr (12, (.int 0 :: .int (nI fd) :: .int mwr :: .int (nI K9) :: .int (nI KL) :: .ref moc :: .ref msT :: .ref mrV :: .ref msP :: .int mqs :: .ref mrA :: .ref mbA :: .ref mwA :: .ref mhA :: .ref mfA :: .ref mpA :: .ref mxA :: .ref myA :: .ref mmA :: .ref mqA :: .ref mzA :: .ref mwy :: .ref mfd :: .int msz :: .int (nI ([] : List Nat).length) :: .int (nI 0) :: .int (-1) :: .int mpt :: .int (nI m8) :: .int mvd :: .long tm :: .int 1 :: []))) kmrA hg_7 (fun e => hx_mo_mrA.symm (congrArg Prod.fst e))
    have kmwy := Xc.setX (c' := .inr (12, (.int 0 :: .int (nI fd) :: .int mwr :: .int (nI K9) :: .int (nI KL) :: .ref moc :: .ref msT :: .ref mrV :: .ref msP :: .int mqs :: .ref mrA :: .ref mbA :: .ref mwA :: .ref mhA :: .ref mfA :: .ref mpA :: .ref mxA :: .ref myA :: .ref mmA :: .ref mqA :: .ref mzA :: .ref mwy :: .ref mfd :: .int msz :: .int (nI ([] : List Nat).length) :: .int (nI 0) :: .int (-1) :: .int mpt :: .int (nI m8) :: .int mvd :: .long tm :: .int 1 :: []))) kmwy hg_7 (fun e => hx_mo_mwy.symm (congrArg Prod.fst e))
    have kmsT := Xc.setX (c' := .inr (12, (.int 0 :: .int (nI fd) :: .int mwr :: .int (nI K9) :: .int (nI KL) :: .ref moc :: .ref msT :: .ref mrV :: .ref msP :: .int mqs :: .ref mrA :: .ref mbA :: .ref mwA :: .ref mhA :: .ref mfA :: .ref mpA :: .ref mxA :: .ref myA :: .ref mmA :: .ref mqA :: .ref mzA :: .ref mwy :: .ref mfd :: .int msz :: .int (nI ([] : List Nat).length) :: .int (nI 0) :: .int (-1) :: .int mpt :: .int (nI m8) :: .int mvd :: .long tm :: .int 1 :: []))) kmsT hg_7 (fun e => hx_mo_msT.symm (congrArg Prod.fst e))
    have kmrV := Xc.setX (c' := .inr (12, (.int 0 :: .int (nI fd) :: .int mwr :: .int (nI K9) :: .int (nI KL) :: .ref moc :: .ref msT :: .ref mrV :: .ref msP :: .int mqs :: .ref mrA :: .ref mbA :: .ref mwA :: .ref mhA :: .ref mfA :: .ref mpA :: .ref mxA :: .ref myA :: .ref mmA :: .ref mqA :: .ref mzA :: .ref mwy :: .ref mfd :: .int msz :: .int (nI ([] : List Nat).length) :: .int (nI 0) :: .int (-1) :: .int mpt :: .int (nI m8) :: .int mvd :: .long tm :: .int 1 :: []))) kmrV hg_7 (fun e => hx_mo_mrV.symm (congrArg Prod.fst e))
    have kmfd := Xc.setX (c' := .inr (12, (.int 0 :: .int (nI fd) :: .int mwr :: .int (nI K9) :: .int (nI KL) :: .ref moc :: .ref msT :: .ref mrV :: .ref msP :: .int mqs :: .ref mrA :: .ref mbA :: .ref mwA :: .ref mhA :: .ref mfA :: .ref mpA :: .ref mxA :: .ref myA :: .ref mmA :: .ref mqA :: .ref mzA :: .ref mwy :: .ref mfd :: .int msz :: .int (nI ([] : List Nat).length) :: .int (nI 0) :: .int (-1) :: .int mpt :: .int (nI m8) :: .int mvd :: .long tm :: .int 1 :: []))) kmfd hg_7 (fun e => hx_mo_mfd.symm (congrArg Prod.fst e))
    have hFR := hFR.tr (FL.set (Ad := Ad) (X := [mo, mmA, mrA, mwy, mfd]) (c' := .inr (12, (.int 0 :: .int (nI fd) :: .int mwr :: .int (nI K9) :: .int (nI KL) :: .ref moc :: .ref msT :: .ref mrV :: .ref msP :: .int mqs :: .ref mrA :: .ref mbA :: .ref mwA :: .ref mhA :: .ref mfA :: .ref mpA :: .ref mxA :: .ref myA :: .ref mmA :: .ref mqA :: .ref mzA :: .ref mwy :: .ref mfd :: .int msz :: .int (nI ([] : List Nat).length) :: .int (nI 0) :: .int (-1) :: .int mpt :: .int (nI m8) :: .int mvd :: .long tm :: .int 1 :: []))) hg_7 (by simp))
    have hg_7 := set_here (c' := .inr (12, (.int 0 :: .int (nI fd) :: .int mwr :: .int (nI K9) :: .int (nI KL) :: .ref moc :: .ref msT :: .ref mrV :: .ref msP :: .int mqs :: .ref mrA :: .ref mbA :: .ref mwA :: .ref mhA :: .ref mfA :: .ref mpA :: .ref mxA :: .ref myA :: .ref mmA :: .ref mqA :: .ref mzA :: .ref mwy :: .ref mfd :: .int msz :: .int (nI ([] : List Nat).length) :: .int (nI 0) :: .int (-1) :: .int mpt :: .int (nI m8) :: .int mvd :: .long tm :: .int 1 :: []))) hg_7
    have kmo : Xc Ad mo (.inr (12, (.int 0 :: .int (nI fd) :: .int mwr :: .int (nI K9) :: .int (nI KL) :: .ref moc :: .ref msT :: .ref mrV :: .ref msP :: .int mqs :: .ref mrA :: .ref mbA :: .ref mwA :: .ref mhA :: .ref mfA :: .ref mpA :: .ref mxA :: .ref myA :: .ref mmA :: .ref mqA :: .ref mzA :: .ref mwy :: .ref mfd :: .int msz :: .int (nI ([] : List Nat).length) :: .int (nI 0) :: .int (-1) :: .int mpt :: .int (nI m8) :: .int mvd :: .long tm :: .int 1 :: []))) (G_16.set i_7 (mo, .inr (12, (.int 0 :: .int (nI fd) :: .int mwr :: .int (nI K9) :: .int (nI KL) :: .ref moc :: .ref msT :: .ref mrV :: .ref msP :: .int mqs :: .ref mrA :: .ref mbA :: .ref mwA :: .ref mhA :: .ref mfA :: .ref mpA :: .ref mxA :: .ref myA :: .ref mmA :: .ref mqA :: .ref mzA :: .ref mwy :: .ref mfd :: .int msz :: .int (nI ([] : List Nat).length) :: .int (nI 0) :: .int (-1) :: .int mpt :: .int (nI m8) :: .int mvd :: .long tm :: .int 1 :: [])))) := ⟨kmo.1, List.mem_of_getElem? hg_7⟩
    have hD := hD3
    clear hD3 hD2
    generalize G_16.set i_7 (mo, .inr (12, (.int 0 :: .int (nI fd) :: .int mwr :: .int (nI K9) :: .int (nI KL) :: .ref moc :: .ref msT :: .ref mrV :: .ref msP :: .int mqs :: .ref mrA :: .ref mbA :: .ref mwA :: .ref mhA :: .ref mfA :: .ref mpA :: .ref mxA :: .ref myA :: .ref mmA :: .ref mqA :: .ref mzA :: .ref mwy :: .ref mfd :: .int msz :: .int (nI ([] : List Nat).length) :: .int (nI 0) :: .int (-1) :: .int mpt :: .int (nI m8) :: .int mvd :: .long tm :: .int 1 :: []))) = G_18 at hP hD hTy hFR kmo kmmA kmrA kmwy kmsT kmrV kmfd hg_7
    obtain ⟨cX_19, eX_19⟩ : ∃ z : va_E, z = .inr (12, (.int 0 :: .int (nI fd) :: .int mwr :: .int (nI K9) :: .int (nI KL) :: .ref moc :: .ref msT :: .ref mrV :: .ref msP :: .int mqs :: .ref mrA :: .ref mbA :: .ref mwA :: .ref mhA :: .ref mfA :: .ref mpA :: .ref mxA :: .ref myA :: .ref mmA :: .ref mqA :: .ref mzA :: .ref mwy :: .ref mfd :: .int msz :: .int (nI ([] : List Nat).length) :: .int (nI 0) :: .int (-1) :: .int mpt :: .int (nI m8) :: .int mvd :: .long tm :: .int 1 :: [])) := ⟨_, rfl⟩
    rw [← eX_19] at kmo
    refine lv_aload_n hx hb d_Model_validate_72 rfl (lv_at hl 0 rfl) ?_
    refine lv_bipush (v := 10) hx hb d_Model_validate_73 (by decide) ?_
    refine va_put (v := .int 10) (ty := .int) hx hb htb i_Model t_Model t_Model_ok n_Model hown hK hP hD hS i_7 hg_7 rfl 29 (by decide) (htb _ q8_3) (fun _ h9 => h9) rfl (by decide +kernel) rfl rfl (Nat.le_of_ble_eq_true rfl) d_Model_validate_75 (fun H75 locs hP hD2 hS => ?_)
    have hP : va_P (dC, dI) classes (G_18.set i_7 (mo, .inr (12, (.int 0 :: .int (nI fd) :: .int mwr :: .int (nI K9) :: .int (nI KL) :: .ref moc :: .ref msT :: .ref mrV :: .ref msP :: .int mqs :: .ref mrA :: .ref mbA :: .ref mwA :: .ref mhA :: .ref mfA :: .ref mpA :: .ref mxA :: .ref myA :: .ref mmA :: .ref mqA :: .ref mzA :: .ref mwy :: .ref mfd :: .int msz :: .int (nI ([] : List Nat).length) :: .int (nI 0) :: .int (-1) :: .int mpt :: .int (nI m8) :: .int 10 :: .long tm :: .int 1 :: [])))) H75 := hP
    have hD3 : va_D A (G_18.set i_7 (mo, .inr (12, (.int 0 :: .int (nI fd) :: .int mwr :: .int (nI K9) :: .int (nI KL) :: .ref moc :: .ref msT :: .ref mrV :: .ref msP :: .int mqs :: .ref mrA :: .ref mbA :: .ref mwA :: .ref mhA :: .ref mfA :: .ref mpA :: .ref mxA :: .ref myA :: .ref mmA :: .ref mqA :: .ref mzA :: .ref mwy :: .ref mfd :: .int msz :: .int (nI ([] : List Nat).length) :: .int (nI 0) :: .int (-1) :: .int mpt :: .int (nI m8) :: .int 10 :: .long tm :: .int 1 :: [])))) := hD2
    have hTy := TR.setX (c' := .inr (12, (.int 0 :: .int (nI fd) :: .int mwr :: .int (nI K9) :: .int (nI KL) :: .ref moc :: .ref msT :: .ref mrV :: .ref msP :: .int mqs :: .ref mrA :: .ref mbA :: .ref mwA :: .ref mhA :: .ref mfA :: .ref mpA :: .ref mxA :: .ref myA :: .ref mmA :: .ref mqA :: .ref mzA :: .ref mwy :: .ref mfd :: .int msz :: .int (nI ([] : List Nat).length) :: .int (nI 0) :: .int (-1) :: .int mpt :: .int (nI m8) :: .int 10 :: .long tm :: .int 1 :: []))) hTy hg_7 kmo.1
    have kmmA := Xc.setX (c' := .inr (12, (.int 0 :: .int (nI fd) :: .int mwr :: .int (nI K9) :: .int (nI KL) :: .ref moc :: .ref msT :: .ref mrV :: .ref msP :: .int mqs :: .ref mrA :: .ref mbA :: .ref mwA :: .ref mhA :: .ref mfA :: .ref mpA :: .ref mxA :: .ref myA :: .ref mmA :: .ref mqA :: .ref mzA :: .ref mwy :: .ref mfd :: .int msz :: .int (nI ([] : List Nat).length) :: .int (nI 0) :: .int (-1) :: .int mpt :: .int (nI m8) :: .int 10 :: .long tm :: .int 1 :: []))) kmmA hg_7 (fun e => hx_mo_mmA.symm (congrArg Prod.fst e))
    have kmrA := Xc.setX (c' := .inr (12, (.int 0 :: .int (nI fd) :: .int mwr :: .int (nI K9) :: .int (nI KL) :: .ref moc :: .ref msT :: .ref mrV :: .ref msP :: .int mqs :: .ref mrA :: .ref mbA :: .ref mwA :: .ref mhA :: .ref mfA :: .ref mpA :: .ref mxA :: .ref myA :: .ref mmA :: .ref mqA :: .ref mzA :: .ref mwy :: .ref mfd :: .int msz :: .int (nI ([] : List Nat).length) :: .int (nI 0) :: .int (-1) :: .int mpt :: .int (nI m8) :: .int 10 :: .long tm :: .int 1 :: []))) kmrA hg_7 (fun e => hx_mo_mrA.symm (congrArg Prod.fst e))
    have kmwy := Xc.setX (c' := .inr (12, (.int 0 :: .int (nI fd) :: .int mwr :: .int (nI K9) :: .int (nI KL) :: .ref moc :: .ref msT :: .ref mrV :: .ref msP :: .int mqs :: .ref mrA :: .ref mbA :: .ref mwA :: .ref mhA :: .ref mfA :: .ref mpA :: .ref mxA :: .ref myA :: .ref mmA :: .ref mqA :: .ref mzA :: .ref mwy :: .ref mfd :: .int msz :: .int (nI ([] : List Nat).length) :: .int (nI 0) :: .int (-1) :: .int mpt :: .int (nI m8) :: .int 10 :: .long tm :: .int 1 :: []))) kmwy hg_7 (fun e => hx_mo_mwy.symm (congrArg Prod.fst e))
    have kmsT := Xc.setX (c' := .inr (12, (.int 0 :: .int (nI fd) :: .int mwr :: .int (nI K9) :: .int (nI KL) :: .ref moc :: .ref msT :: .ref mrV :: .ref msP :: .int mqs :: .ref mrA :: .ref mbA :: .ref mwA :: .ref mhA :: .ref mfA :: .ref mpA :: .ref mxA :: .ref myA :: .ref mmA :: .ref mqA :: .ref mzA :: .ref mwy :: .ref mfd :: .int msz :: .int (nI ([] : List Nat).length) :: .int (nI 0) :: .int (-1) :: .int mpt :: .int (nI m8) :: .int 10 :: .long tm :: .int 1 :: []))) kmsT hg_7 (fun e => hx_mo_msT.symm (congrArg Prod.fst e))
    have kmrV := Xc.setX (c' := .inr (12, (.int 0 :: .int (nI fd) :: .int mwr :: .int (nI K9) :: .int (nI KL) :: .ref moc :: .ref msT :: .ref mrV :: .ref msP :: .int mqs :: .ref mrA :: .ref mbA :: .ref mwA :: .ref mhA :: .ref mfA :: .ref mpA :: .ref mxA :: .ref myA :: .ref mmA :: .ref mqA :: .ref mzA :: .ref mwy :: .ref mfd :: .int msz :: .int (nI ([] : List Nat).length) :: .int (nI 0) :: .int (-1) :: .int mpt :: .int (nI m8) :: .int 10 :: .long tm :: .int 1 :: []))) kmrV hg_7 (fun e => hx_mo_mrV.symm (congrArg Prod.fst e))
    have kmfd := Xc.setX (c' := .inr (12, (.int 0 :: .int (nI fd) :: .int mwr :: .int (nI K9) :: .int (nI KL) :: .ref moc :: .ref msT :: .ref mrV :: .ref msP :: .int mqs :: .ref mrA :: .ref mbA :: .ref mwA :: .ref mhA :: .ref mfA :: .ref mpA :: .ref mxA :: .ref myA :: .ref mmA :: .ref mqA :: .ref mzA :: .ref mwy :: .ref mfd :: .int msz :: .int (nI ([] : List Nat).length) :: .int (nI 0) :: .int (-1) :: .int mpt :: .int (nI m8) :: .int 10 :: .long tm :: .int 1 :: []))) kmfd hg_7 (fun e => hx_mo_mfd.symm (congrArg Prod.fst e))
    have hFR := hFR.tr (FL.set (Ad := Ad) (X := [mo, mmA, mrA, mwy, mfd]) (c' := .inr (12, (.int 0 :: .int (nI fd) :: .int mwr :: .int (nI K9) :: .int (nI KL) :: .ref moc :: .ref msT :: .ref mrV :: .ref msP :: .int mqs :: .ref mrA :: .ref mbA :: .ref mwA :: .ref mhA :: .ref mfA :: .ref mpA :: .ref mxA :: .ref myA :: .ref mmA :: .ref mqA :: .ref mzA :: .ref mwy :: .ref mfd :: .int msz :: .int (nI ([] : List Nat).length) :: .int (nI 0) :: .int (-1) :: .int mpt :: .int (nI m8) :: .int 10 :: .long tm :: .int 1 :: []))) hg_7 (by simp))
    have hg_7 := set_here (c' := .inr (12, (.int 0 :: .int (nI fd) :: .int mwr :: .int (nI K9) :: .int (nI KL) :: .ref moc :: .ref msT :: .ref mrV :: .ref msP :: .int mqs :: .ref mrA :: .ref mbA :: .ref mwA :: .ref mhA :: .ref mfA :: .ref mpA :: .ref mxA :: .ref myA :: .ref mmA :: .ref mqA :: .ref mzA :: .ref mwy :: .ref mfd :: .int msz :: .int (nI ([] : List Nat).length) :: .int (nI 0) :: .int (-1) :: .int mpt :: .int (nI m8) :: .int 10 :: .long tm :: .int 1 :: []))) hg_7
    have kmo : Xc Ad mo (.inr (12, (.int 0 :: .int (nI fd) :: .int mwr :: .int (nI K9) :: .int (nI KL) :: .ref moc :: .ref msT :: .ref mrV :: .ref msP :: .int mqs :: .ref mrA :: .ref mbA :: .ref mwA :: .ref mhA :: .ref mfA :: .ref mpA :: .ref mxA :: .ref myA :: .ref mmA :: .ref mqA :: .ref mzA :: .ref mwy :: .ref mfd :: .int msz :: .int (nI ([] : List Nat).length) :: .int (nI 0) :: .int (-1) :: .int mpt :: .int (nI m8) :: .int 10 :: .long tm :: .int 1 :: []))) (G_18.set i_7 (mo, .inr (12, (.int 0 :: .int (nI fd) :: .int mwr :: .int (nI K9) :: .int (nI KL) :: .ref moc :: .ref msT :: .ref mrV :: .ref msP :: .int mqs :: .ref mrA :: .ref mbA :: .ref mwA :: .ref mhA :: .ref mfA :: .ref mpA :: .ref mxA :: .ref myA :: .ref mmA :: .ref mqA :: .ref mzA :: .ref mwy :: .ref mfd :: .int msz :: .int (nI ([] : List Nat).length) :: .int (nI 0) :: .int (-1) :: .int mpt :: .int (nI m8) :: .int 10 :: .long tm :: .int 1 :: [])))) := ⟨kmo.1, List.mem_of_getElem? hg_7⟩
    have hD := hD3
    clear hD3 hD2
    generalize G_18.set i_7 (mo, .inr (12, (.int 0 :: .int (nI fd) :: .int mwr :: .int (nI K9) :: .int (nI KL) :: .ref moc :: .ref msT :: .ref mrV :: .ref msP :: .int mqs :: .ref mrA :: .ref mbA :: .ref mwA :: .ref mhA :: .ref mfA :: .ref mpA :: .ref mxA :: .ref myA :: .ref mmA :: .ref mqA :: .ref mzA :: .ref mwy :: .ref mfd :: .int msz :: .int (nI ([] : List Nat).length) :: .int (nI 0) :: .int (-1) :: .int mpt :: .int (nI m8) :: .int 10 :: .long tm :: .int 1 :: []))) = G_20 at hP hD hTy hFR kmo kmmA kmrA kmwy kmsT kmrV kmfd hg_7
    obtain ⟨cX_21, eX_21⟩ : ∃ z : va_E, z = .inr (12, (.int 0 :: .int (nI fd) :: .int mwr :: .int (nI K9) :: .int (nI KL) :: .ref moc :: .ref msT :: .ref mrV :: .ref msP :: .int mqs :: .ref mrA :: .ref mbA :: .ref mwA :: .ref mhA :: .ref mfA :: .ref mpA :: .ref mxA :: .ref myA :: .ref mmA :: .ref mqA :: .ref mzA :: .ref mwy :: .ref mfd :: .int msz :: .int (nI ([] : List Nat).length) :: .int (nI 0) :: .int (-1) :: .int mpt :: .int (nI m8) :: .int 10 :: .long tm :: .int 1 :: [])) := ⟨_, rfl⟩
    rw [← eX_21] at kmo
    refine lv_aload_n hx hb d_Model_validate_78 rfl (lv_at hl 0 rfl) ?_
    refine lv_iconst (v := 1) hx hb d_Model_validate_79 (by decide) ?_
    rw [show (1 : Int32) = nI 1 from rfl]
    refine va_put (v := .int (nI 1)) (ty := .int) hx hb htb i_Model t_Model t_Model_ok n_Model hown hK hP hD hS i_7 hg_7 rfl 27 (by decide) (htb _ q8_1) (fun _ h9 => h9) rfl (by decide +kernel) rfl rfl (Nat.le_of_ble_eq_true rfl) d_Model_validate_80 (fun H80 locs hP hD2 hS => ?_)
    have hP : va_P (dC, dI) classes (G_20.set i_7 (mo, .inr (12, (.int 0 :: .int (nI fd) :: .int mwr :: .int (nI K9) :: .int (nI KL) :: .ref moc :: .ref msT :: .ref mrV :: .ref msP :: .int mqs :: .ref mrA :: .ref mbA :: .ref mwA :: .ref mhA :: .ref mfA :: .ref mpA :: .ref mxA :: .ref myA :: .ref mmA :: .ref mqA :: .ref mzA :: .ref mwy :: .ref mfd :: .int msz :: .int (nI ([] : List Nat).length) :: .int (nI 0) :: .int (-1) :: .int (nI 1) :: .int (nI m8) :: .int 10 :: .long tm :: .int 1 :: [])))) H80 := hP
    have hD3 : va_D A (G_20.set i_7 (mo, .inr (12, (.int 0 :: .int (nI fd) :: .int mwr :: .int (nI K9) :: .int (nI KL) :: .ref moc :: .ref msT :: .ref mrV :: .ref msP :: .int mqs :: .ref mrA :: .ref mbA :: .ref mwA :: .ref mhA :: .ref mfA :: .ref mpA :: .ref mxA :: .ref myA :: .ref mmA :: .ref mqA :: .ref mzA :: .ref mwy :: .ref mfd :: .int msz :: .int (nI ([] : List Nat).length) :: .int (nI 0) :: .int (-1) :: .int (nI 1) :: .int (nI m8) :: .int 10 :: .long tm :: .int 1 :: [])))) := hD2
    have hTy := TR.setX (c' := .inr (12, (.int 0 :: .int (nI fd) :: .int mwr :: .int (nI K9) :: .int (nI KL) :: .ref moc :: .ref msT :: .ref mrV :: .ref msP :: .int mqs :: .ref mrA :: .ref mbA :: .ref mwA :: .ref mhA :: .ref mfA :: .ref mpA :: .ref mxA :: .ref myA :: .ref mmA :: .ref mqA :: .ref mzA :: .ref mwy :: .ref mfd :: .int msz :: .int (nI ([] : List Nat).length) :: .int (nI 0) :: .int (-1) :: .int (nI 1) :: .int (nI m8) :: .int 10 :: .long tm :: .int 1 :: []))) hTy hg_7 kmo.1
    have kmmA := Xc.setX (c' := .inr (12, (.int 0 :: .int (nI fd) :: .int mwr :: .int (nI K9) :: .int (nI KL) :: .ref moc :: .ref msT :: .ref mrV :: .ref msP :: .int mqs :: .ref mrA :: .ref mbA :: .ref mwA :: .ref mhA :: .ref mfA :: .ref mpA :: .ref mxA :: .ref myA :: .ref mmA :: .ref mqA :: .ref mzA :: .ref mwy :: .ref mfd :: .int msz :: .int (nI ([] : List Nat).length) :: .int (nI 0) :: .int (-1) :: .int (nI 1) :: .int (nI m8) :: .int 10 :: .long tm :: .int 1 :: []))) kmmA hg_7 (fun e => hx_mo_mmA.symm (congrArg Prod.fst e))
    have kmrA := Xc.setX (c' := .inr (12, (.int 0 :: .int (nI fd) :: .int mwr :: .int (nI K9) :: .int (nI KL) :: .ref moc :: .ref msT :: .ref mrV :: .ref msP :: .int mqs :: .ref mrA :: .ref mbA :: .ref mwA :: .ref mhA :: .ref mfA :: .ref mpA :: .ref mxA :: .ref myA :: .ref mmA :: .ref mqA :: .ref mzA :: .ref mwy :: .ref mfd :: .int msz :: .int (nI ([] : List Nat).length) :: .int (nI 0) :: .int (-1) :: .int (nI 1) :: .int (nI m8) :: .int 10 :: .long tm :: .int 1 :: []))) kmrA hg_7 (fun e => hx_mo_mrA.symm (congrArg Prod.fst e))
    have kmwy := Xc.setX (c' := .inr (12, (.int 0 :: .int (nI fd) :: .int mwr :: .int (nI K9) :: .int (nI KL) :: .ref moc :: .ref msT :: .ref mrV :: .ref msP :: .int mqs :: .ref mrA :: .ref mbA :: .ref mwA :: .ref mhA :: .ref mfA :: .ref mpA :: .ref mxA :: .ref myA :: .ref mmA :: .ref mqA :: .ref mzA :: .ref mwy :: .ref mfd :: .int msz :: .int (nI ([] : List Nat).length) :: .int (nI 0) :: .int (-1) :: .int (nI 1) :: .int (nI m8) :: .int 10 :: .long tm :: .int 1 :: []))) kmwy hg_7 (fun e => hx_mo_mwy.symm (congrArg Prod.fst e))
    have kmsT := Xc.setX (c' := .inr (12, (.int 0 :: .int (nI fd) :: .int mwr :: .int (nI K9) :: .int (nI KL) :: .ref moc :: .ref msT :: .ref mrV :: .ref msP :: .int mqs :: .ref mrA :: .ref mbA :: .ref mwA :: .ref mhA :: .ref mfA :: .ref mpA :: .ref mxA :: .ref myA :: .ref mmA :: .ref mqA :: .ref mzA :: .ref mwy :: .ref mfd :: .int msz :: .int (nI ([] : List Nat).length) :: .int (nI 0) :: .int (-1) :: .int (nI 1) :: .int (nI m8) :: .int 10 :: .long tm :: .int 1 :: []))) kmsT hg_7 (fun e => hx_mo_msT.symm (congrArg Prod.fst e))
    have kmrV := Xc.setX (c' := .inr (12, (.int 0 :: .int (nI fd) :: .int mwr :: .int (nI K9) :: .int (nI KL) :: .ref moc :: .ref msT :: .ref mrV :: .ref msP :: .int mqs :: .ref mrA :: .ref mbA :: .ref mwA :: .ref mhA :: .ref mfA :: .ref mpA :: .ref mxA :: .ref myA :: .ref mmA :: .ref mqA :: .ref mzA :: .ref mwy :: .ref mfd :: .int msz :: .int (nI ([] : List Nat).length) :: .int (nI 0) :: .int (-1) :: .int (nI 1) :: .int (nI m8) :: .int 10 :: .long tm :: .int 1 :: []))) kmrV hg_7 (fun e => hx_mo_mrV.symm (congrArg Prod.fst e))
    have kmfd := Xc.setX (c' := .inr (12, (.int 0 :: .int (nI fd) :: .int mwr :: .int (nI K9) :: .int (nI KL) :: .ref moc :: .ref msT :: .ref mrV :: .ref msP :: .int mqs :: .ref mrA :: .ref mbA :: .ref mwA :: .ref mhA :: .ref mfA :: .ref mpA :: .ref mxA :: .ref myA :: .ref mmA :: .ref mqA :: .ref mzA :: .ref mwy :: .ref mfd :: .int msz :: .int (nI ([] : List Nat).length) :: .int (nI 0) :: .int (-1) :: .int (nI 1) :: .int (nI m8) :: .int 10 :: .long tm :: .int 1 :: []))) kmfd hg_7 (fun e => hx_mo_mfd.symm (congrArg Prod.fst e))
    have hFR := hFR.tr (FL.set (Ad := Ad) (X := [mo, mmA, mrA, mwy, mfd]) (c' := .inr (12, (.int 0 :: .int (nI fd) :: .int mwr :: .int (nI K9) :: .int (nI KL) :: .ref moc :: .ref msT :: .ref mrV :: .ref msP :: .int mqs :: .ref mrA :: .ref mbA :: .ref mwA :: .ref mhA :: .ref mfA :: .ref mpA :: .ref mxA :: .ref myA :: .ref mmA :: .ref mqA :: .ref mzA :: .ref mwy :: .ref mfd :: .int msz :: .int (nI ([] : List Nat).length) :: .int (nI 0) :: .int (-1) :: .int (nI 1) :: .int (nI m8) :: .int 10 :: .long tm :: .int 1 :: []))) hg_7 (by simp))
    have hg_7 := set_here (c' := .inr (12, (.int 0 :: .int (nI fd) :: .int mwr :: .int (nI K9) :: .int (nI KL) :: .ref moc :: .ref msT :: .ref mrV :: .ref msP :: .int mqs :: .ref mrA :: .ref mbA :: .ref mwA :: .ref mhA :: .ref mfA :: .ref mpA :: .ref mxA :: .ref myA :: .ref mmA :: .ref mqA :: .ref mzA :: .ref mwy :: .ref mfd :: .int msz :: .int (nI ([] : List Nat).length) :: .int (nI 0) :: .int (-1) :: .int (nI 1) :: .int (nI m8) :: .int 10 :: .long tm :: .int 1 :: []))) hg_7
    have kmo : Xc Ad mo (.inr (12, (.int 0 :: .int (nI fd) :: .int mwr :: .int (nI K9) :: .int (nI KL) :: .ref moc :: .ref msT :: .ref mrV :: .ref msP :: .int mqs :: .ref mrA :: .ref mbA :: .ref mwA :: .ref mhA :: .ref mfA :: .ref mpA :: .ref mxA :: .ref myA :: .ref mmA :: .ref mqA :: .ref mzA :: .ref mwy :: .ref mfd :: .int msz :: .int (nI ([] : List Nat).length) :: .int (nI 0) :: .int (-1) :: .int (nI 1) :: .int (nI m8) :: .int 10 :: .long tm :: .int 1 :: []))) (G_20.set i_7 (mo, .inr (12, (.int 0 :: .int (nI fd) :: .int mwr :: .int (nI K9) :: .int (nI KL) :: .ref moc :: .ref msT :: .ref mrV :: .ref msP :: .int mqs :: .ref mrA :: .ref mbA :: .ref mwA :: .ref mhA :: .ref mfA :: .ref mpA :: .ref mxA :: .ref myA :: .ref mmA :: .ref mqA :: .ref mzA :: .ref mwy :: .ref mfd :: .int msz :: .int (nI ([] : List Nat).length) :: .int (nI 0) :: .int (-1) :: .int (nI 1) :: .int (nI m8) :: .int 10 :: .long tm :: .int 1 :: [])))) := ⟨kmo.1, List.mem_of_getElem? hg_7⟩
    have hD := hD3
    clear hD3 hD2
    generalize G_20.set i_7 (mo, .inr (12, (.int 0 :: .int (nI fd) :: .int mwr :: .int (nI K9) :: .int (nI KL) :: .ref moc :: .ref msT :: .ref mrV :: .ref msP :: .int mqs :: .ref mrA :: .ref mbA :: .ref mwA :: .ref mhA :: .ref mfA :: .ref mpA :: .ref mxA :: .ref myA :: .ref mmA :: .ref mqA :: .ref mzA :: .ref mwy :: .ref mfd :: .int msz :: .int (nI ([] : List Nat).length) :: .int (nI 0) :: .int (-1) :: .int (nI 1) :: .int (nI m8) :: .int 10 :: .long tm :: .int 1 :: []))) = G_22 at hP hD hTy hFR kmo kmmA kmrA kmwy kmsT kmrV kmfd hg_7
    obtain ⟨cX_23, eX_23⟩ : ∃ z : va_E, z = .inr (12, (.int 0 :: .int (nI fd) :: .int mwr :: .int (nI K9) :: .int (nI KL) :: .ref moc :: .ref msT :: .ref mrV :: .ref msP :: .int mqs :: .ref mrA :: .ref mbA :: .ref mwA :: .ref mhA :: .ref mfA :: .ref mpA :: .ref mxA :: .ref myA :: .ref mmA :: .ref mqA :: .ref mzA :: .ref mwy :: .ref mfd :: .int msz :: .int (nI ([] : List Nat).length) :: .int (nI 0) :: .int (-1) :: .int (nI 1) :: .int (nI m8) :: .int 10 :: .long tm :: .int 1 :: [])) := ⟨_, rfl⟩
    rw [← eX_23] at kmo
    refine lv_aload_n hx hb d_Model_validate_83 rfl (lv_at hl 0 rfl) ?_
    refine va_get (v := .ref mwy) hx hb htb i_Model hown hK hP i_7 hg_7 rfl 21 (by decide) (htb _ q7_235) (fun _ h9 => h9) rfl d_Model_validate_84 ?_
    refine lv_iconst (v := 0) hx hb d_Model_validate_87 (by decide) ?_
    refine lv_iload_n hx hb d_Model_validate_88 rfl (lv_at hl 1 rfl) ?_
    obtain ⟨i_24, hg_24⟩ := List.getElem?_of_mem kmwy.2
    have h89 : vp_in (0 : Int32) 16 := (by unfold vp_in; decide)
    refine va_iast hx hb hK hP hD hS i_24 1 hg_24 rfl h89 d_Model_validate_89 (fun H89 locs hP hD2 hS => ?_)
    obtain ⟨f89, ef89⟩ : ∃ z : Nat → Int32, z = upd fw (0 : Int32).toNatClampNeg (nI k9) := ⟨_, rfl⟩
    rw [← ef89] at hP hD2
    have hP : va_P (dC, dI) classes (G_22.set i_24 (mwy, .inl (γ.2.1, 16, .inl f89))) H89 := hP
    have hD3 : va_D A (G_22.set i_24 (mwy, .inl (γ.2.1, 16, .inl f89))) := hD2
    have hTy := TR.setX (c' := .inl (γ.2.1, 16, .inl f89)) hTy hg_24 kmwy.1
    have kmo := Xc.setX (c' := .inl (γ.2.1, 16, .inl f89)) kmo hg_24 (fun e => hx_mo_mwy (congrArg Prod.fst e))
    have kmmA := Xc.setX (c' := .inl (γ.2.1, 16, .inl f89)) kmmA hg_24 (fun e => hx_mmA_mwy (congrArg Prod.fst e))
    have kmrA := Xc.setX (c' := .inl (γ.2.1, 16, .inl f89)) kmrA hg_24 (fun e => hx_mrA_mwy (congrArg Prod.fst e))
    have kmsT := Xc.setX (c' := .inl (γ.2.1, 16, .inl f89)) kmsT hg_24 (fun e => hx_mwy_msT.symm (congrArg Prod.fst e))
    have kmrV := Xc.setX (c' := .inl (γ.2.1, 16, .inl f89)) kmrV hg_24 (fun e => hx_mwy_mrV.symm (congrArg Prod.fst e))
    have kmfd := Xc.setX (c' := .inl (γ.2.1, 16, .inl f89)) kmfd hg_24 (fun e => hx_mwy_mfd.symm (congrArg Prod.fst e))
    have hFR := hFR.tr (FL.set (Ad := Ad) (X := [mo, mmA, mrA, mwy, mfd]) (c' := .inl (γ.2.1, 16, .inl f89)) hg_24 (by simp))
    have hg_24 := set_here (c' := .inl (γ.2.1, 16, .inl f89)) hg_24
    have kmwy : Xc Ad mwy (.inl (γ.2.1, 16, .inl f89)) (G_22.set i_24 (mwy, .inl (γ.2.1, 16, .inl f89))) := ⟨kmwy.1, List.mem_of_getElem? hg_24⟩
    have hD := hD3
    clear hD3 hD2
    generalize G_22.set i_24 (mwy, .inl (γ.2.1, 16, .inl f89)) = G_25 at hP hD hTy hFR kmo kmmA kmrA kmwy kmsT kmrV kmfd hg_24
    refine lv_aload_n hx hb d_Model_validate_90 rfl (lv_at hl 0 rfl) ?_
    refine lv_iconst (v := 1) hx hb d_Model_validate_91 (by decide) ?_
    rw [show (1 : Int32) = nI 1 from rfl]
    obtain ⟨i_26, hg_26⟩ := List.getElem?_of_mem kmo.2
    rw [eX_23] at hg_26
    refine va_put (v := .int (nI 1)) (ty := .int) hx hb htb i_Model t_Model t_Model_ok n_Model hown hK hP hD hS i_26 hg_26 rfl 23 (by decide) (htb _ q7_237) (fun _ h9 => h9) rfl (by decide +kernel) rfl rfl (Nat.le_of_ble_eq_true rfl) d_Model_validate_92 (fun H92 locs hP hD2 hS => ?_)
    have hP : va_P (dC, dI) classes (G_25.set i_26 (mo, .inr (12, (.int 0 :: .int (nI fd) :: .int mwr :: .int (nI K9) :: .int (nI KL) :: .ref moc :: .ref msT :: .ref mrV :: .ref msP :: .int mqs :: .ref mrA :: .ref mbA :: .ref mwA :: .ref mhA :: .ref mfA :: .ref mpA :: .ref mxA :: .ref myA :: .ref mmA :: .ref mqA :: .ref mzA :: .ref mwy :: .ref mfd :: .int (nI 1) :: .int (nI ([] : List Nat).length) :: .int (nI 0) :: .int (-1) :: .int (nI 1) :: .int (nI m8) :: .int 10 :: .long tm :: .int 1 :: [])))) H92 := hP
    have hD3 : va_D A (G_25.set i_26 (mo, .inr (12, (.int 0 :: .int (nI fd) :: .int mwr :: .int (nI K9) :: .int (nI KL) :: .ref moc :: .ref msT :: .ref mrV :: .ref msP :: .int mqs :: .ref mrA :: .ref mbA :: .ref mwA :: .ref mhA :: .ref mfA :: .ref mpA :: .ref mxA :: .ref myA :: .ref mmA :: .ref mqA :: .ref mzA :: .ref mwy :: .ref mfd :: .int (nI 1) :: .int (nI ([] : List Nat).length) :: .int (nI 0) :: .int (-1) :: .int (nI 1) :: .int (nI m8) :: .int 10 :: .long tm :: .int 1 :: [])))) := hD2
    have hTy := TR.setX (c' := .inr (12, (.int 0 :: .int (nI fd) :: .int mwr :: .int (nI K9) :: .int (nI KL) :: .ref moc :: .ref msT :: .ref mrV :: .ref msP :: .int mqs :: .ref mrA :: .ref mbA :: .ref mwA :: .ref mhA :: .ref mfA :: .ref mpA :: .ref mxA :: .ref myA :: .ref mmA :: .ref mqA :: .ref mzA :: .ref mwy :: .ref mfd :: .int (nI 1) :: .int (nI ([] : List Nat).length) :: .int (nI 0) :: .int (-1) :: .int (nI 1) :: .int (nI m8) :: .int 10 :: .long tm :: .int 1 :: []))) hTy hg_26 kmo.1
    have kmmA := Xc.setX (c' := .inr (12, (.int 0 :: .int (nI fd) :: .int mwr :: .int (nI K9) :: .int (nI KL) :: .ref moc :: .ref msT :: .ref mrV :: .ref msP :: .int mqs :: .ref mrA :: .ref mbA :: .ref mwA :: .ref mhA :: .ref mfA :: .ref mpA :: .ref mxA :: .ref myA :: .ref mmA :: .ref mqA :: .ref mzA :: .ref mwy :: .ref mfd :: .int (nI 1) :: .int (nI ([] : List Nat).length) :: .int (nI 0) :: .int (-1) :: .int (nI 1) :: .int (nI m8) :: .int 10 :: .long tm :: .int 1 :: []))) kmmA hg_26 (fun e => hx_mo_mmA.symm (congrArg Prod.fst e))
    have kmrA := Xc.setX (c' := .inr (12, (.int 0 :: .int (nI fd) :: .int mwr :: .int (nI K9) :: .int (nI KL) :: .ref moc :: .ref msT :: .ref mrV :: .ref msP :: .int mqs :: .ref mrA :: .ref mbA :: .ref mwA :: .ref mhA :: .ref mfA :: .ref mpA :: .ref mxA :: .ref myA :: .ref mmA :: .ref mqA :: .ref mzA :: .ref mwy :: .ref mfd :: .int (nI 1) :: .int (nI ([] : List Nat).length) :: .int (nI 0) :: .int (-1) :: .int (nI 1) :: .int (nI m8) :: .int 10 :: .long tm :: .int 1 :: []))) kmrA hg_26 (fun e => hx_mo_mrA.symm (congrArg Prod.fst e))
    have kmwy := Xc.setX (c' := .inr (12, (.int 0 :: .int (nI fd) :: .int mwr :: .int (nI K9) :: .int (nI KL) :: .ref moc :: .ref msT :: .ref mrV :: .ref msP :: .int mqs :: .ref mrA :: .ref mbA :: .ref mwA :: .ref mhA :: .ref mfA :: .ref mpA :: .ref mxA :: .ref myA :: .ref mmA :: .ref mqA :: .ref mzA :: .ref mwy :: .ref mfd :: .int (nI 1) :: .int (nI ([] : List Nat).length) :: .int (nI 0) :: .int (-1) :: .int (nI 1) :: .int (nI m8) :: .int 10 :: .long tm :: .int 1 :: []))) kmwy hg_26 (fun e => hx_mo_mwy.symm (congrArg Prod.fst e))
    have kmsT := Xc.setX (c' := .inr (12, (.int 0 :: .int (nI fd) :: .int mwr :: .int (nI K9) :: .int (nI KL) :: .ref moc :: .ref msT :: .ref mrV :: .ref msP :: .int mqs :: .ref mrA :: .ref mbA :: .ref mwA :: .ref mhA :: .ref mfA :: .ref mpA :: .ref mxA :: .ref myA :: .ref mmA :: .ref mqA :: .ref mzA :: .ref mwy :: .ref mfd :: .int (nI 1) :: .int (nI ([] : List Nat).length) :: .int (nI 0) :: .int (-1) :: .int (nI 1) :: .int (nI m8) :: .int 10 :: .long tm :: .int 1 :: []))) kmsT hg_26 (fun e => hx_mo_msT.symm (congrArg Prod.fst e))
    have kmrV := Xc.setX (c' := .inr (12, (.int 0 :: .int (nI fd) :: .int mwr :: .int (nI K9) :: .int (nI KL) :: .ref moc :: .ref msT :: .ref mrV :: .ref msP :: .int mqs :: .ref mrA :: .ref mbA :: .ref mwA :: .ref mhA :: .ref mfA :: .ref mpA :: .ref mxA :: .ref myA :: .ref mmA :: .ref mqA :: .ref mzA :: .ref mwy :: .ref mfd :: .int (nI 1) :: .int (nI ([] : List Nat).length) :: .int (nI 0) :: .int (-1) :: .int (nI 1) :: .int (nI m8) :: .int 10 :: .long tm :: .int 1 :: []))) kmrV hg_26 (fun e => hx_mo_mrV.symm (congrArg Prod.fst e))
    have kmfd := Xc.setX (c' := .inr (12, (.int 0 :: .int (nI fd) :: .int mwr :: .int (nI K9) :: .int (nI KL) :: .ref moc :: .ref msT :: .ref mrV :: .ref msP :: .int mqs :: .ref mrA :: .ref mbA :: .ref mwA :: .ref mhA :: .ref mfA :: .ref mpA :: .ref mxA :: .ref myA :: .ref mmA :: .ref mqA :: .ref mzA :: .ref mwy :: .ref mfd :: .int (nI 1) :: .int (nI ([] : List Nat).length) :: .int (nI 0) :: .int (-1) :: .int (nI 1) :: .int (nI m8) :: .int 10 :: .long tm :: .int 1 :: []))) kmfd hg_26 (fun e => hx_mo_mfd.symm (congrArg Prod.fst e))
    have hFR := hFR.tr (FL.set (Ad := Ad) (X := [mo, mmA, mrA, mwy, mfd]) (c' := .inr (12, (.int 0 :: .int (nI fd) :: .int mwr :: .int (nI K9) :: .int (nI KL) :: .ref moc :: .ref msT :: .ref mrV :: .ref msP :: .int mqs :: .ref mrA :: .ref mbA :: .ref mwA :: .ref mhA :: .ref mfA :: .ref mpA :: .ref mxA :: .ref myA :: .ref mmA :: .ref mqA :: .ref mzA :: .ref mwy :: .ref mfd :: .int (nI 1) :: .int (nI ([] : List Nat).length) :: .int (nI 0) :: .int (-1) :: .int (nI 1) :: .int (nI m8) :: .int 10 :: .long tm :: .int 1 :: []))) hg_26 (by simp))
    have hg_26 := set_here (c' := .inr (12, (.int 0 :: .int (nI fd) :: .int mwr :: .int (nI K9) :: .int (nI KL) :: .ref moc :: .ref msT :: .ref mrV :: .ref msP :: .int mqs :: .ref mrA :: .ref mbA :: .ref mwA :: .ref mhA :: .ref mfA :: .ref mpA :: .ref mxA :: .ref myA :: .ref mmA :: .ref mqA :: .ref mzA :: .ref mwy :: .ref mfd :: .int (nI 1) :: .int (nI ([] : List Nat).length) :: .int (nI 0) :: .int (-1) :: .int (nI 1) :: .int (nI m8) :: .int 10 :: .long tm :: .int 1 :: []))) hg_26
    have kmo : Xc Ad mo (.inr (12, (.int 0 :: .int (nI fd) :: .int mwr :: .int (nI K9) :: .int (nI KL) :: .ref moc :: .ref msT :: .ref mrV :: .ref msP :: .int mqs :: .ref mrA :: .ref mbA :: .ref mwA :: .ref mhA :: .ref mfA :: .ref mpA :: .ref mxA :: .ref myA :: .ref mmA :: .ref mqA :: .ref mzA :: .ref mwy :: .ref mfd :: .int (nI 1) :: .int (nI ([] : List Nat).length) :: .int (nI 0) :: .int (-1) :: .int (nI 1) :: .int (nI m8) :: .int 10 :: .long tm :: .int 1 :: []))) (G_25.set i_26 (mo, .inr (12, (.int 0 :: .int (nI fd) :: .int mwr :: .int (nI K9) :: .int (nI KL) :: .ref moc :: .ref msT :: .ref mrV :: .ref msP :: .int mqs :: .ref mrA :: .ref mbA :: .ref mwA :: .ref mhA :: .ref mfA :: .ref mpA :: .ref mxA :: .ref myA :: .ref mmA :: .ref mqA :: .ref mzA :: .ref mwy :: .ref mfd :: .int (nI 1) :: .int (nI ([] : List Nat).length) :: .int (nI 0) :: .int (-1) :: .int (nI 1) :: .int (nI m8) :: .int 10 :: .long tm :: .int 1 :: [])))) := ⟨kmo.1, List.mem_of_getElem? hg_26⟩
    have hD := hD3
    clear hD3 hD2
    generalize G_25.set i_26 (mo, .inr (12, (.int 0 :: .int (nI fd) :: .int mwr :: .int (nI K9) :: .int (nI KL) :: .ref moc :: .ref msT :: .ref mrV :: .ref msP :: .int mqs :: .ref mrA :: .ref mbA :: .ref mwA :: .ref mhA :: .ref mfA :: .ref mpA :: .ref mxA :: .ref myA :: .ref mmA :: .ref mqA :: .ref mzA :: .ref mwy :: .ref mfd :: .int (nI 1) :: .int (nI ([] : List Nat).length) :: .int (nI 0) :: .int (-1) :: .int (nI 1) :: .int (nI m8) :: .int 10 :: .long tm :: .int 1 :: []))) = G_27 at hP hD hTy hFR kmo kmmA kmrA kmwy kmsT kmrV kmfd hg_26
    obtain ⟨cX_28, eX_28⟩ : ∃ z : va_E, z = .inr (12, (.int 0 :: .int (nI fd) :: .int mwr :: .int (nI K9) :: .int (nI KL) :: .ref moc :: .ref msT :: .ref mrV :: .ref msP :: .int mqs :: .ref mrA :: .ref mbA :: .ref mwA :: .ref mhA :: .ref mfA :: .ref mpA :: .ref mxA :: .ref myA :: .ref mmA :: .ref mqA :: .ref mzA :: .ref mwy :: .ref mfd :: .int (nI 1) :: .int (nI ([] : List Nat).length) :: .int (nI 0) :: .int (-1) :: .int (nI 1) :: .int (nI m8) :: .int 10 :: .long tm :: .int 1 :: [])) := ⟨_, rfl⟩
    rw [← eX_28] at kmo
    have hwx : wyR [k9] K9 f89 := wy_1 ef89 hk9
    refine lv_aload_n hx hb d_Model_validate_95 rfl (lv_at hl 0 rfl) ?_
    have hFc := va_free (wc := G_27) hD hS hA (List.range G_27.length) (rg_is _)
    refine va_calli (mu_runV (As := []) (rest := []) ⟨hx, hb, hml, hown, hts⟩ tbin (m_Model_goOn_all l dC dI sb γ κ Ad τ gT (m8 - 1) G_27 mo _ _ _ _ _ _ _ _ _ _ _ _ _ _ _ _ _ _ _ _ _ _ _ _ _ _ _ _ _ _ _ _ _ _ _ _ _ _ _ H92.size hTy (by have h9 := kmo; rw [eX_28] at h9; exact h9) kmmA kmrA kmwy kmsT kmrV kmfd kmzA kmqA kmyA kmxA kmbA kmwA kmhA kmpA kmfA hx_mo_mmA hx_mo_mrA hx_mo_mwy hx_mo_msT hx_mo_mrV hx_mo_mfd hx_mmA_mrA hx_mmA_mwy hx_mmA_msT hx_mmA_mrV hx_mmA_mfd hx_mrA_mwy hx_mrA_msT hx_mrA_mrV hx_mrA_mfd hx_mwy_msT hx_mwy_mrV hx_mwy_mfd hx_msT_mrV hx_msT_mfd hx_mrV_mfd hst hrv hwx (show [k9].length = 1 from rfl) (by omega) (by omega) (by omega) hfm hfr (Or.inr rfl) hma (by omega) (fdR_0 ff) (by omega) (by omega) (by omega) (by omega)) q9_133 q9_135 qp_45 q1_9 q9_136 (n := 0) (by decide +kernel) rfl ⟨rfl, rfl⟩ ⟨show (m8 - 1 + 8) + 1 ≤ 24 by omega, show 8 + (4 + 11) + ((m8 - 1) * 23 + 190) ≤ 558 by omega⟩ ⟨Nat.le_of_ble_eq_true rfl, Nat.le_of_ble_eq_true rfl⟩ hN (hT0.keep hS hAs) hAs (Nat.le_trans hB0 hS.1) hK hP hD (List.range G_27.length) (rg_nd _) (rg_is _) [0, 1, 2, 3, 4] rfl i_26 12 hg_26 rfl rfl hl.1 rfl (Nat.le_of_ble_eq_true rfl) d_Model_validate_96) hS (fun q _ h => hFc q h) hFc (fun r96 G_29 tS H96 locs ht hvm hw96 hB hz1 hk1 hS => ?_)
    obtain ⟨hTy, hF9, hr96⟩ := hw96
    have kmsT := kmsT.fl hF9 (q_nmc (hx_mo_msT.symm) (q_nmc (hx_mmA_msT.symm) (q_nmc (hx_mrA_msT.symm) (q_nmc (hx_mwy_msT.symm) (q_nmc (hx_msT_mfd) (q_nmn))))))
    have kmrV := kmrV.fl hF9 (q_nmc (hx_mo_mrV.symm) (q_nmc (hx_mmA_mrV.symm) (q_nmc (hx_mrA_mrV.symm) (q_nmc (hx_mwy_mrV.symm) (q_nmc (hx_mrV_mfd) (q_nmn))))))
    have hFR := hFR.tr (hF9.up (q_gac (by simp) (q_gac (by simp) (q_gac (by simp) (q_gac (by simp) (q_gac (by simp) (q_gan)))))))
    obtain ⟨hP1, hK1, hD1⟩ := hB
    rw [ht] at hP1
    have hP : va_P (dC, dI) classes G_29 H96 := hP1
    have hD : va_D A G_29 := hD1.weaken (fun _ _ _ h => hFc _ h)
    obtain ⟨hr96, ⟨q96, kmo⟩, ⟨fa96, hfm, kmmA⟩, ⟨fb96, hfr, kmrA⟩, ⟨fd96, hfd, kmfd⟩, ⟨fc96, hfc96, kmwy⟩⟩ := hr96
    obtain ⟨qv, eqv⟩ : ∃ q : Bool × sS, q = gR K9 (rFO τ fS) (rTR τ fS) (rFL τ fS fV KL tm 1) (m8 - 1) [k9].reverse (1, 0, [], 10, -1) := ⟨_, rfl⟩
    rw [← eqv] at hr96 kmo hfd
    have eV : rVQ τ fS fV K9 KL tm (nI 1) k9 m8 = qv.2 := by rw [eqv]; rfl
    have hv0 : qv.2.2.2.2.1 = 0 → qv.2.2.2.2.2 = -1 := by rw [eqv]; exact gR_v (fun w => flG_z _) _ _ _ (fun h9 => absurd h9 (by decide))
    obtain ⟨cX_30, eX_30⟩ : ∃ z : va_E, z = .inr (12, (.int 0 :: .int (nI fd) :: .int mwr :: .int (nI K9) :: .int (nI KL) :: .ref moc :: .ref msT :: .ref mrV :: .ref msP :: .int q96 :: .ref mrA :: .ref mbA :: .ref mwA :: .ref mhA :: .ref mfA :: .ref mpA :: .ref mxA :: .ref myA :: .ref mmA :: .ref mqA :: .ref mzA :: .ref mwy :: .ref mfd :: .int (nI 1) :: .int (nI qv.2.2.2.1.length) :: .int (nI qv.2.2.1) :: .int qv.2.2.2.2.2 :: .int (nI qv.2.1) :: .int (nI m8) :: .int qv.2.2.2.2.1 :: .long tm :: .int 1 :: [])) := ⟨_, rfl⟩
    rw [← eX_30] at kmo
    refine lv_pop hx hb d_Model_validate_99 rfl ?_
    refine lv_aload_n hx hb d_Model_validate_100 rfl (lv_at hl 0 rfl) ?_
    obtain ⟨i_31, hg_31⟩ := List.getElem?_of_mem kmo.2
    rw [eX_30] at hg_31
    refine va_get (v := .int qv.2.2.2.2.1) hx hb htb i_Model hown hK hP i_31 hg_31 rfl 29 (by decide) (htb _ q8_3) (fun _ h9 => h9) rfl d_Model_validate_101 ?_
    refine lv_if_ne (tgt := 112) hx hb d_Model_validate_104 (by decide) (fun c104 => ?_) (fun c104 => ?_)
    · have p104 : ¬ (qv.2.2.2.2.1 = (0 : Int32)) := c104
      refine lv_aload_n hx hb d_Model_validate_112 rfl (lv_at hl 0 rfl) ?_
      refine va_get (v := .int qv.2.2.2.2.1) hx hb htb i_Model hown hK hP i_31 hg_31 rfl 29 (by decide) (htb _ q8_3) (fun _ h9 => h9) rfl d_Model_validate_113 ?_
      exact W.iret (v := qv.2.2.2.2.1) hx hb hr (fun t ht hW => ⟨⟨_, G_29, rfl, ⟨hTy, hFR, by rw [eV], ⟨_, by rw [eV]; rw [eX_30] at kmo; exact kmo⟩, ⟨_, hfm, kmmA⟩, ⟨_, hfr, kmrA⟩, ⟨_, kmwy⟩, ⟨_, by rw [eV]; exact hfd, kmfd⟩⟩, by rw [ht]; exact hP, va_K.moved hW.alike hK, hD⟩, hS.F ht⟩) hS.2.2 d_Model_validate_116
    · have p104 : qv.2.2.2.2.1 = (0 : Int32) := c104
      refine lv_aload_n hx hb d_Model_validate_107 rfl (lv_at hl 0 rfl) ?_
      refine lv_iconst (v := -1) hx hb d_Model_validate_108 (by decide) ?_
      refine va_put (v := .int (-1)) (ty := .int) hx hb htb i_Model t_Model t_Model_ok n_Model hown hK hP hD hS i_31 hg_31 rfl 26 (by decide) (htb _ q8_0) (fun _ h9 => h9) rfl (by decide +kernel) rfl rfl (Nat.le_of_ble_eq_true rfl) d_Model_validate_109 (fun H109 locs hP hD2 hS => ?_)
      have hP : va_P (dC, dI) classes (G_29.set i_31 (mo, .inr (12, (.int 0 :: .int (nI fd) :: .int mwr :: .int (nI K9) :: .int (nI KL) :: .ref moc :: .ref msT :: .ref mrV :: .ref msP :: .int q96 :: .ref mrA :: .ref mbA :: .ref mwA :: .ref mhA :: .ref mfA :: .ref mpA :: .ref mxA :: .ref myA :: .ref mmA :: .ref mqA :: .ref mzA :: .ref mwy :: .ref mfd :: .int (nI 1) :: .int (nI qv.2.2.2.1.length) :: .int (nI qv.2.2.1) :: .int (-1) :: .int (nI qv.2.1) :: .int (nI m8) :: .int qv.2.2.2.2.1 :: .long tm :: .int 1 :: [])))) H109 := hP
      have hD3 : va_D A (G_29.set i_31 (mo, .inr (12, (.int 0 :: .int (nI fd) :: .int mwr :: .int (nI K9) :: .int (nI KL) :: .ref moc :: .ref msT :: .ref mrV :: .ref msP :: .int q96 :: .ref mrA :: .ref mbA :: .ref mwA :: .ref mhA :: .ref mfA :: .ref mpA :: .ref mxA :: .ref myA :: .ref mmA :: .ref mqA :: .ref mzA :: .ref mwy :: .ref mfd :: .int (nI 1) :: .int (nI qv.2.2.2.1.length) :: .int (nI qv.2.2.1) :: .int (-1) :: .int (nI qv.2.1) :: .int (nI m8) :: .int qv.2.2.2.2.1 :: .long tm :: .int 1 :: [])))) := hD2
      have hTy := TR.setX (c' := .inr (12, (.int 0 :: .int (nI fd) :: .int mwr :: .int (nI K9) :: .int (nI KL) :: .ref moc :: .ref msT :: .ref mrV :: .ref msP :: .int q96 :: .ref mrA :: .ref mbA :: .ref mwA :: .ref mhA :: .ref mfA :: .ref mpA :: .ref mxA :: .ref myA :: .ref mmA :: .ref mqA :: .ref mzA :: .ref mwy :: .ref mfd :: .int (nI 1) :: .int (nI qv.2.2.2.1.length) :: .int (nI qv.2.2.1) :: .int (-1) :: .int (nI qv.2.1) :: .int (nI m8) :: .int qv.2.2.2.2.1 :: .long tm :: .int 1 :: []))) hTy hg_31 kmo.1
      have kmmA := Xc.setX (c' := .inr (12, (.int 0 :: .int (nI fd) :: .int mwr :: .int (nI K9) :: .int (nI KL) :: .ref moc :: .ref msT :: .ref mrV :: .ref msP :: .int q96 :: .ref mrA :: .ref mbA :: .ref mwA :: .ref mhA :: .ref mfA :: .ref mpA :: .ref mxA :: .ref myA :: .ref mmA :: .ref mqA :: .ref mzA :: .ref mwy :: .ref mfd :: .int (nI 1) :: .int (nI qv.2.2.2.1.length) :: .int (nI qv.2.2.1) :: .int (-1) :: .int (nI qv.2.1) :: .int (nI m8) :: .int qv.2.2.2.2.1 :: .long tm :: .int 1 :: []))) kmmA hg_31 (fun e => hx_mo_mmA.symm (congrArg Prod.fst e))
      have kmrA := Xc.setX (c' := .inr (12, (.int 0 :: .int (nI fd) :: .int mwr :: .int (nI K9) :: .int (nI KL) :: .ref moc :: .ref msT :: .ref mrV :: .ref msP :: .int q96 :: .ref mrA :: .ref mbA :: .ref mwA :: .ref mhA :: .ref mfA :: .ref mpA :: .ref mxA :: .ref myA :: .ref mmA :: .ref mqA :: .ref mzA :: .ref mwy :: .ref mfd :: .int (nI 1) :: .int (nI qv.2.2.2.1.length) :: .int (nI qv.2.2.1) :: .int (-1) :: .int (nI qv.2.1) :: .int (nI m8) :: .int qv.2.2.2.2.1 :: .long tm :: .int 1 :: []))) kmrA hg_31 (fun e => hx_mo_mrA.symm (congrArg Prod.fst e))
      have kmwy := Xc.setX (c' := .inr (12, (.int 0 :: .int (nI fd) :: .int mwr :: .int (nI K9) :: .int (nI KL) :: .ref moc :: .ref msT :: .ref mrV :: .ref msP :: .int q96 :: .ref mrA :: .ref mbA :: .ref mwA :: .ref mhA :: .ref mfA :: .ref mpA :: .ref mxA :: .ref myA :: .ref mmA :: .ref mqA :: .ref mzA :: .ref mwy :: .ref mfd :: .int (nI 1) :: .int (nI qv.2.2.2.1.length) :: .int (nI qv.2.2.1) :: .int (-1) :: .int (nI qv.2.1) :: .int (nI m8) :: .int qv.2.2.2.2.1 :: .long tm :: .int 1 :: []))) kmwy hg_31 (fun e => hx_mo_mwy.symm (congrArg Prod.fst e))
      have kmsT := Xc.setX (c' := .inr (12, (.int 0 :: .int (nI fd) :: .int mwr :: .int (nI K9) :: .int (nI KL) :: .ref moc :: .ref msT :: .ref mrV :: .ref msP :: .int q96 :: .ref mrA :: .ref mbA :: .ref mwA :: .ref mhA :: .ref mfA :: .ref mpA :: .ref mxA :: .ref myA :: .ref mmA :: .ref mqA :: .ref mzA :: .ref mwy :: .ref mfd :: .int (nI 1) :: .int (nI qv.2.2.2.1.length) :: .int (nI qv.2.2.1) :: .int (-1) :: .int (nI qv.2.1) :: .int (nI m8) :: .int qv.2.2.2.2.1 :: .long tm :: .int 1 :: []))) kmsT hg_31 (fun e => hx_mo_msT.symm (congrArg Prod.fst e))
      have kmrV := Xc.setX (c' := .inr (12, (.int 0 :: .int (nI fd) :: .int mwr :: .int (nI K9) :: .int (nI KL) :: .ref moc :: .ref msT :: .ref mrV :: .ref msP :: .int q96 :: .ref mrA :: .ref mbA :: .ref mwA :: .ref mhA :: .ref mfA :: .ref mpA :: .ref mxA :: .ref myA :: .ref mmA :: .ref mqA :: .ref mzA :: .ref mwy :: .ref mfd :: .int (nI 1) :: .int (nI qv.2.2.2.1.length) :: .int (nI qv.2.2.1) :: .int (-1) :: .int (nI qv.2.1) :: .int (nI m8) :: .int qv.2.2.2.2.1 :: .long tm :: .int 1 :: []))) kmrV hg_31 (fun e => hx_mo_mrV.symm (congrArg Prod.fst e))
      have kmfd := Xc.setX (c' := .inr (12, (.int 0 :: .int (nI fd) :: .int mwr :: .int (nI K9) :: .int (nI KL) :: .ref moc :: .ref msT :: .ref mrV :: .ref msP :: .int q96 :: .ref mrA :: .ref mbA :: .ref mwA :: .ref mhA :: .ref mfA :: .ref mpA :: .ref mxA :: .ref myA :: .ref mmA :: .ref mqA :: .ref mzA :: .ref mwy :: .ref mfd :: .int (nI 1) :: .int (nI qv.2.2.2.1.length) :: .int (nI qv.2.2.1) :: .int (-1) :: .int (nI qv.2.1) :: .int (nI m8) :: .int qv.2.2.2.2.1 :: .long tm :: .int 1 :: []))) kmfd hg_31 (fun e => hx_mo_mfd.symm (congrArg Prod.fst e))
      have hFR := hFR.tr (FL.set (Ad := Ad) (X := [mo, mmA, mrA, mwy, mfd]) (c' := .inr (12, (.int 0 :: .int (nI fd) :: .int mwr :: .int (nI K9) :: .int (nI KL) :: .ref moc :: .ref msT :: .ref mrV :: .ref msP :: .int q96 :: .ref mrA :: .ref mbA :: .ref mwA :: .ref mhA :: .ref mfA :: .ref mpA :: .ref mxA :: .ref myA :: .ref mmA :: .ref mqA :: .ref mzA :: .ref mwy :: .ref mfd :: .int (nI 1) :: .int (nI qv.2.2.2.1.length) :: .int (nI qv.2.2.1) :: .int (-1) :: .int (nI qv.2.1) :: .int (nI m8) :: .int qv.2.2.2.2.1 :: .long tm :: .int 1 :: []))) hg_31 (by simp))
      have hg_31 := set_here (c' := .inr (12, (.int 0 :: .int (nI fd) :: .int mwr :: .int (nI K9) :: .int (nI KL) :: .ref moc :: .ref msT :: .ref mrV :: .ref msP :: .int q96 :: .ref mrA :: .ref mbA :: .ref mwA :: .ref mhA :: .ref mfA :: .ref mpA :: .ref mxA :: .ref myA :: .ref mmA :: .ref mqA :: .ref mzA :: .ref mwy :: .ref mfd :: .int (nI 1) :: .int (nI qv.2.2.2.1.length) :: .int (nI qv.2.2.1) :: .int (-1) :: .int (nI qv.2.1) :: .int (nI m8) :: .int qv.2.2.2.2.1 :: .long tm :: .int 1 :: []))) hg_31
      have kmo : Xc Ad mo (.inr (12, (.int 0 :: .int (nI fd) :: .int mwr :: .int (nI K9) :: .int (nI KL) :: .ref moc :: .ref msT :: .ref mrV :: .ref msP :: .int q96 :: .ref mrA :: .ref mbA :: .ref mwA :: .ref mhA :: .ref mfA :: .ref mpA :: .ref mxA :: .ref myA :: .ref mmA :: .ref mqA :: .ref mzA :: .ref mwy :: .ref mfd :: .int (nI 1) :: .int (nI qv.2.2.2.1.length) :: .int (nI qv.2.2.1) :: .int (-1) :: .int (nI qv.2.1) :: .int (nI m8) :: .int qv.2.2.2.2.1 :: .long tm :: .int 1 :: []))) (G_29.set i_31 (mo, .inr (12, (.int 0 :: .int (nI fd) :: .int mwr :: .int (nI K9) :: .int (nI KL) :: .ref moc :: .ref msT :: .ref mrV :: .ref msP :: .int q96 :: .ref mrA :: .ref mbA :: .ref mwA :: .ref mhA :: .ref mfA :: .ref mpA :: .ref mxA :: .ref myA :: .ref mmA :: .ref mqA :: .ref mzA :: .ref mwy :: .ref mfd :: .int (nI 1) :: .int (nI qv.2.2.2.1.length) :: .int (nI qv.2.2.1) :: .int (-1) :: .int (nI qv.2.1) :: .int (nI m8) :: .int qv.2.2.2.2.1 :: .long tm :: .int 1 :: [])))) := ⟨kmo.1, List.mem_of_getElem? hg_31⟩
      have hD := hD3
      clear hD3 hD2
      generalize G_29.set i_31 (mo, .inr (12, (.int 0 :: .int (nI fd) :: .int mwr :: .int (nI K9) :: .int (nI KL) :: .ref moc :: .ref msT :: .ref mrV :: .ref msP :: .int q96 :: .ref mrA :: .ref mbA :: .ref mwA :: .ref mhA :: .ref mfA :: .ref mpA :: .ref mxA :: .ref myA :: .ref mmA :: .ref mqA :: .ref mzA :: .ref mwy :: .ref mfd :: .int (nI 1) :: .int (nI qv.2.2.2.1.length) :: .int (nI qv.2.2.1) :: .int (-1) :: .int (nI qv.2.1) :: .int (nI m8) :: .int qv.2.2.2.2.1 :: .long tm :: .int 1 :: []))) = G_32 at hP hD hTy hFR kmo kmmA kmrA kmwy kmsT kmrV kmfd hg_31
      obtain ⟨cX_33, eX_33⟩ : ∃ z : va_E, z = .inr (12, (.int 0 :: .int (nI fd) :: .int mwr :: .int (nI K9) :: .int (nI KL) :: .ref moc :: .ref msT :: .ref mrV :: .ref msP :: .int q96 :: .ref mrA :: .ref mbA :: .ref mwA :: .ref mhA :: .ref mfA :: .ref mpA :: .ref mxA :: .ref myA :: .ref mmA :: .ref mqA :: .ref mzA :: .ref mwy :: .ref mfd :: .int (nI 1) :: .int (nI qv.2.2.2.1.length) :: .int (nI qv.2.2.1) :: .int (-1) :: .int (nI qv.2.1) :: .int (nI m8) :: .int qv.2.2.2.2.1 :: .long tm :: .int 1 :: [])) := ⟨_, rfl⟩
      rw [← eX_33] at kmo
      refine lv_aload_n hx hb d_Model_validate_112 rfl (lv_at hl 0 rfl) ?_
      refine va_get (v := .int qv.2.2.2.2.1) hx hb htb i_Model hown hK hP i_31 hg_31 rfl 29 (by decide) (htb _ q8_3) (fun _ h9 => h9) rfl d_Model_validate_113 ?_
      exact W.iret (v := qv.2.2.2.2.1) hx hb hr (fun t ht hW => ⟨⟨_, G_32, rfl, ⟨hTy, hFR, by rw [eV], ⟨_, by rw [eV, hv0 p104]; rw [eX_33] at kmo; exact kmo⟩, ⟨_, hfm, kmmA⟩, ⟨_, hfr, kmrA⟩, ⟨_, kmwy⟩, ⟨_, by rw [eV]; exact hfd, kmfd⟩⟩, by rw [ht]; exact hP, va_K.moved hW.alike hK, hD⟩, hS.F ht⟩) hS.2.2 d_Model_validate_116
  · have p14 : r11 = (0 : Int32) := c14
    exact absurd hmost (bz_0 hr11 p14)
