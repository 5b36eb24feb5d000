/-! The reference's reduced and isSigned return. -/
def kz3 : String × Nat × String × List Int32 := ("TrustChainModel", 296, "3031300D060960864801650304020105000420", (kstr.getD 3 ("", 0, "", [])).2.2.2)
theorem kz3_at : kstr[3]? = some kz3 := rfl
theorem kz3_len : kz3.2.2.2.length = 38 := rfl
theorem shr2_nI : ∀ k, k < 32 → nI k >>> ((2 : Int32) &&& 31) = nI (k / 4) := by decide
/-- a count that runs down below 0 -/
def cI (N : Nat) (x : Int32) (z : Nat) : Prop := x < 0 ∨ ∃ j, j + z + 1 ≤ N ∧ x = nI j
theorem cI_0 : ∃ N : Nat, N ≤ 2 ^ 31 ∧ ∀ x : Int32, cI N x 0 := ⟨2 ^ 31, Nat.le_refl _, fun x => by
  by_cases h : x < 0
  · exact Or.inl h
  · refine Or.inr ⟨x.toNatClampNeg, ?_, ?_⟩
    · have := Int32.toInt_lt x
      unfold Int32.toNatClampNeg
      omega
    · exact (nIof9 h).symm⟩
theorem cI_lt {N z : Nat} {x : Int32} (h : cI N x z) (hx : ¬ x < 0) : z + 1 ≤ N := by
  rcases h with h | ⟨j, h1, h2⟩
  · exact absurd h hx
  · omega
theorem cI_s {N z : Nat} {x : Int32} (h : cI N x z) (hN : N ≤ 2 ^ 31) (hx : ¬ x < 0) : cI N (x + (-1)) (z + 1) := by
  rcases h with h | ⟨j, h1, h2⟩
  · exact absurd h hx
  · subst h2
    rcases j with _ | j
    · exact Or.inl (by decide)
    · exact Or.inr ⟨j, by omega, nI_m1 (by omega)⟩
def y_Model_reduced : MethodName := ⟨"TrustChainModel", "reduced", "([II[III)I"⟩
abbrev b_Model_reduced : ByteArray := prog_14_method_29_code
def w_Model_reduced : List Cond := Cond.code y_Model_reduced b_Model_reduced 8 ((some FieldType.int)) :: tb
theorem d_Model_reduced_0 : decode b_Model_reduced 0 = .ok (.aload_n 1, 1) := by decide +kernel
theorem d_Model_reduced_1 : decode b_Model_reduced 1 = .ok (.iload_n 2, 1) := by decide +kernel
theorem d_Model_reduced_2 : decode b_Model_reduced 2 = .ok (.aload_n 3, 1) := by decide +kernel
theorem d_Model_reduced_3 : decode b_Model_reduced 3 = .ok (.iload 4, 2) := by decide +kernel
theorem d_Model_reduced_5 : decode b_Model_reduced 5 = .ok (.aload_n 0, 1) := by decide +kernel
theorem d_Model_reduced_6 : decode b_Model_reduced 6 = .ok (.getfield 133, 3) := by decide +kernel
theorem d_Model_reduced_9 : decode b_Model_reduced 9 = .ok (.invokestatic 301, 3) := by decide +kernel
theorem d_Model_reduced_12 : decode b_Model_reduced 12 = .ok (.istore 6, 2) := by decide +kernel
theorem d_Model_reduced_14 : decode b_Model_reduced 14 = .ok (.aload_n 0, 1) := by decide +kernel
theorem d_Model_reduced_15 : decode b_Model_reduced 15 = .ok (.aload_n 0, 1) := by decide +kernel
theorem d_Model_reduced_16 : decode b_Model_reduced 16 = .ok (.getfield 133, 3) := by decide +kernel
theorem d_Model_reduced_19 : decode b_Model_reduced 19 = .ok (.iload 6, 2) := by decide +kernel
theorem d_Model_reduced_21 : decode b_Model_reduced 21 = .ok (.aload_n 0, 1) := by decide +kernel
theorem d_Model_reduced_22 : decode b_Model_reduced 22 = .ok (.getfield 127, 3) := by decide +kernel
theorem d_Model_reduced_25 : decode b_Model_reduced 25 = .ok (.iload 5, 2) := by decide +kernel
theorem d_Model_reduced_27 : decode b_Model_reduced 27 = .ok (.aload_n 0, 1) := by decide +kernel
theorem d_Model_reduced_28 : decode b_Model_reduced 28 = .ok (.getfield 130, 3) := by decide +kernel
theorem d_Model_reduced_31 : decode b_Model_reduced 31 = .ok (.invokevirtual 305, 3) := by decide +kernel
theorem d_Model_reduced_34 : decode b_Model_reduced 34 = .ok (.istore 6, 2) := by decide +kernel
theorem d_Model_reduced_36 : decode b_Model_reduced 36 = .ok (.iconst 0, 1) := by decide +kernel
theorem d_Model_reduced_37 : decode b_Model_reduced 37 = .ok (.istore 7, 2) := by decide +kernel
theorem d_Model_reduced_39 : decode b_Model_reduced 39 = .ok (.iload 7, 2) := by decide +kernel
theorem d_Model_reduced_41 : decode b_Model_reduced 41 = .ok (.iload 6, 2) := by decide +kernel
theorem d_Model_reduced_43 : decode b_Model_reduced 43 = .ok (.if_icmp .ge 23, 3) := by decide +kernel
theorem d_Model_reduced_46 : decode b_Model_reduced 46 = .ok (.aload_n 0, 1) := by decide +kernel
theorem d_Model_reduced_47 : decode b_Model_reduced 47 = .ok (.getfield 124, 3) := by decide +kernel
theorem d_Model_reduced_50 : decode b_Model_reduced 50 = .ok (.iload 7, 2) := by decide +kernel
theorem d_Model_reduced_52 : decode b_Model_reduced 52 = .ok (.aload_n 0, 1) := by decide +kernel
theorem d_Model_reduced_53 : decode b_Model_reduced 53 = .ok (.getfield 133, 3) := by decide +kernel
theorem d_Model_reduced_56 : decode b_Model_reduced 56 = .ok (.iload 7, 2) := by decide +kernel
theorem d_Model_reduced_58 : decode b_Model_reduced 58 = .ok (.iaload, 1) := by decide +kernel
theorem d_Model_reduced_59 : decode b_Model_reduced 59 = .ok (.iastore, 1) := by decide +kernel
theorem d_Model_reduced_60 : decode b_Model_reduced 60 = .ok (.iinc 7 1, 3) := by decide +kernel
theorem d_Model_reduced_63 : decode b_Model_reduced 63 = .ok (.goto (-24), 3) := by decide +kernel
theorem d_Model_reduced_66 : decode b_Model_reduced 66 = .ok (.iload 6, 2) := by decide +kernel
theorem d_Model_reduced_68 : decode b_Model_reduced 68 = .ok (.ireturn, 1) := by decide +kernel
set_option maxHeartbeats 4000000 in
set_option maxRecDepth 100000 in
theorem m_Model_reduced (l : Launch) (dC : Nat → ClassId) (dI : Nat → Nat → Nat) (sb : sB) (γ : cG) (κ : kE) (Ad : List Nat) (τ : Nat → TD) (gT : ClassId) (G : va_W) (mo a1 b1 : Nat) (moc msT mrV msP mrA mbA mwA mhA mfA mpA mxA myA mmA mqA mzA mwy mfd : Nat) (mer mfed mwr mct mls mqs msz mcz mch mft mpt mdp mvd mmk : Int32) (mnw : Int64) (n k2 k1 : Nat) (fm fr : Nat → Int32) (sz : Nat) (hTy : TR γ κ Ad τ G) (kmo : Xc Ad mo (.inr (12, (.int mer :: .int mfed :: .int mwr :: .int mct :: .int mls :: .ref moc :: .ref msT :: .ref mrV :: .ref msP :: .int mqs :: .ref mrA :: .ref mbA :: .ref mwA :: .ref mhA :: .ref mfA :: .ref mpA :: .ref mxA :: .ref myA :: .ref mmA :: .ref mqA :: .ref mzA :: .ref mwy :: .ref mfd :: .int msz :: .int mcz :: .int mch :: .int mft :: .int mpt :: .int mdp :: .int mvd :: .long mnw :: .int mmk :: []))) G) (ka1 : tK κ Ad a1 (6, 600, 0)) (kb1 : tK κ Ad b1 (6, 600, 0)) (kmmA : Xc Ad mmA (.inl (γ.2.1, 600, .inl fm)) G) (kmrA : Xc Ad mrA (.inl (γ.2.1, 600, .inl fr)) G) (kmzA : tK κ Ad mzA (6, 600, 0)) (kmqA : tK κ Ad mqA (6, 600, 0)) (kmyA : tK κ Ad myA (6, 600, 0)) (hx_mo_mmA : mo ≠ mmA) (hx_mo_mrA : mo ≠ mrA) (hx_mmA_mrA : mmA ≠ mrA) (hn : n + k2 ≤ 598) (hq1 : 1 ≤ k1) (hq2 : k1 ≤ 300) (hbt : ∃ t, 1 ≤ t ∧ t < 65536 ∧ fm (k1 - 1) = nI t) : Met l y_Model_reduced w_Model_reduced ({ frames := 2, cells := 0, slots := 0, locals := 61 }) (mu_P [.ref mo, .ref a1, .int (nI n), .ref b1, .int (nI k2), .int (nI k1)] (dC, dI) sb G [(γ.1, .byte), (γ.2.1, .int), (γ.2.2.1, .long), (γ.2.2.2, .object "java/lang/Object"), (gT, .object "TrustChainModel$Text")] sz) (va_Qi (fun r (G' : va_W) => TR γ κ Ad τ G' ∧ FL Ad [mo, mrA] G G' ∧ ((∃ k, k ≤ k1 ∧ r = nI k) ∧ (∃ q9 : Int32, Xc Ad mo (.inr (12, (.int mer :: .int mfed :: .int mwr :: .int mct :: .int mls :: .ref moc :: .ref msT :: .ref mrV :: .ref msP :: .int q9 :: .ref mrA :: .ref mbA :: .ref mwA :: .ref mhA :: .ref mfA :: .ref mpA :: .ref mxA :: .ref myA :: .ref mmA :: .ref mqA :: .ref mzA :: .ref mwy :: .ref mfd :: .int msz :: .int mcz :: .int mch :: .int mft :: .int mpt :: .int mdp :: .int mvd :: .long mnw :: .int mmk :: []))) G') ∧ (∃ f9 : Nat → Int32, Xc Ad mrA (.inl (γ.2.1, 600, .inl f9)) G'))) (mu_B (dC, dI) [(γ.1, .byte), (γ.2.1, .int), (γ.2.2.1, .long), (γ.2.2.2, .object "java/lang/Object"), (gT, .object "TrustChainModel$Text")] (va_A G sz) (fun G' : va_W => G')) (va_A G sz)) 0 0 (va_A G sz) := by
  refine Met.ofW (cc := b_Model_reduced) (maxL := 8) (ret := (some FieldType.int)) (by decide) rfl ?_
  intro p e s m args below meth c s₁ B hml hv
  obtain ⟨rfl, hsz, hB0, hP, hK, hD0, hN, hT0⟩ := hv
  have hx := B.exec
  have hb := B.bytes
  have hr := B.returns
  have hts := atoms_spec (ws := w_Model_reduced) B.pre
  have tbin : ∀ w ∈ tb, w ∈ w_Model_reduced := fun w h => List.mem_cons_of_mem _ h
  have htb : ∀ w ∈ tb, w.before _ s = true := fun w h => hts w (tbin w h)
  have hown : s.vm.findClass "TrustChainModel" = some m.cls := findClass_of_methodNamed B.named
  have hlocks := B.notSynchronized
  subst hsz
  have hD := hD0.self (sz := s.heap.size)
  generalize hAe : va_A G s.heap.size = A at hD ⊢
  have hA : ∀ q : Nat, s.heap.size ≤ q → A q := fun q h => by rw [← hAe]; exact Or.inr h
  have hAs : ∀ q : Nat, A q → sb.1 ≤ q := fun q h => by
    rw [← hAe] at h
    rcases h with ⟨k, e, h⟩ | h
    · exact hD0.2 k _ h
    · exact Nat.le_trans hB0 h
  have hS : va_S A s.heap s.heap [] := va_S.rf
  have hFR := FL.rf Ad [mo, mrA] G
  have hcs : 0 ≤ (headSpec w_Model_reduced ({ frames := 2, cells := 0, slots := 0, locals := 61 })).room.cells ∧ 0 ≤ (headSpec w_Model_reduced ({ frames := 2, cells := 0, slots := 0, locals := 61 })).room.slots := ⟨Nat.le_refl _, Nat.le_refl _⟩
  have hP : va_P (dC, dI) classes G s.heap := hP
  have hl := lv_entry ([.ref mo, .ref a1, .int (nI n), .ref b1, .int (nI k2), .int (nI k1)]) (n := 8) (Nat.le_of_ble_eq_true rfl)
  rw [lg_entry_eq]
  generalize (lg_sl ([.ref mo, .ref a1, .int (nI n), .ref b1, .int (nI k2), .int (nI k1)]) ++ List.replicate (8 - (lg_sl ([.ref mo, .ref a1, .int (nI n), .ref b1, .int (nI k2), .int (nI k1)])).length) Slot.unset).toArray = ls at hl ⊢
  have hl : lv_has ls 8 [(0, .ref mo), (1, .ref a1), (2, .int (nI n)), (3, .ref b1), (4, .int (nI k2)), (5, .int (nI k1))] := hl
  obtain ⟨cX_mo, eX_mo⟩ : ∃ z : va_E, z = .inr (12, (.int mer :: .int mfed :: .int mwr :: .int mct :: .int mls :: .ref moc :: .ref msT :: .ref mrV :: .ref msP :: .int mqs :: .ref mrA :: .ref mbA :: .ref mwA :: .ref mhA :: .ref mfA :: .ref mpA :: .ref mxA :: .ref myA :: .ref mmA :: .ref mqA :: .ref mzA :: .ref mwy :: .ref mfd :: .int msz :: .int mcz :: .int mch :: .int mft :: .int mpt :: .int mdp :: .int mvd :: .long mnw :: .int mmk :: [])) := ⟨_, rfl⟩
  rw [← eX_mo] at kmo
  refine lv_aload_n hx hb d_Model_reduced_0 rfl (lv_at hl 1 rfl) ?_
  refine lv_iload_n hx hb d_Model_reduced_1 rfl (lv_at hl 2 rfl) ?_
  refine lv_aload_n hx hb d_Model_reduced_2 rfl (lv_at hl 3 rfl) ?_
  refine lv_iload hx hb d_Model_reduced_3 (lv_at hl 4 rfl) ?_
  refine lv_aload_n hx hb d_Model_reduced_5 rfl (lv_at hl 0 rfl) ?_
  obtain ⟨i_1, hg_1⟩ := List.getElem?_of_mem kmo.2
  rw [eX_mo] at hg_1
  refine va_get (v := .ref mzA) hx hb htb i_Model hown hK hP i_1 hg_1 rfl 20 (by decide) (htb _ q7_234) (fun _ h9 => h9) rfl d_Model_reduced_6 ?_
  have hFc := va_free (wc := G) hD hS hA (List.range G.length) (rg_is _)
  refine va_calli (mu_runS (As := [.ref a1, .int (nI n), .ref b1, .int (nI k2), .ref mzA]) (rest := []) ⟨hx, hb, hml, hown, hts⟩ tbin (m_Model_times l dC dI sb γ κ Ad τ gT G a1 b1 mzA _ _ s.heap.size hTy ka1 kb1 kmzA (by omega)) q9_117 q9_118 q1_9 q9_119 (n := 5) (by decide +kernel) rfl ⟨rfl, rfl⟩ ⟨Nat.le_of_ble_eq_true rfl, Nat.le_of_ble_eq_true rfl⟩ ⟨Nat.le_of_ble_eq_true rfl, Nat.le_of_ble_eq_true rfl⟩ hN (hT0.keep hS hAs) hAs (Nat.le_trans hB0 hS.1) hK hP hD (List.range G.length) (rg_nd _) (rg_is _) [0, 1, 2, 3, 4] rfl hl.1 rfl (Nat.le_of_ble_eq_true rfl) d_Model_reduced_9) hS (fun q _ h => hFc q h) hFc (fun r9 G_2 tS H9 locs ht hvm hw9 hB hz1 hk1 hS => ?_)
  obtain ⟨hTy, hF9, hr9⟩ := hw9
  have kmo := kmo.fl hF9 List.not_mem_nil
  have kmmA := kmmA.fl hF9 List.not_mem_nil
  have kmrA := kmrA.fl hF9 List.not_mem_nil
  have hFR := hFR.tr (hF9.up (fun x h => absurd h List.not_mem_nil))
  obtain ⟨hP1, hK1, hD1⟩ := hB
  rw [ht] at hP1
  have hP : va_P (dC, dI) classes G_2 H9 := hP1
  have hD : va_D A G_2 := hD1.weaken (fun _ _ _ h => hFc _ h)
  obtain ⟨k9, hk9, rk9⟩ := hr9
  subst rk9
  refine lv_istore (lv' := [(6, .int (nI k9)), (0, .ref mo), (1, .ref a1), (2, .int (nI n)), (3, .ref b1), (4, .int (nI k2)), (5, .int (nI k1))]) hx hb d_Model_reduced_12 hl (by decide) rfl (fun ls hl => ?_)
  refine lv_aload_n hx hb d_Model_reduced_14 rfl (lv_at hl 1 rfl) ?_
  refine lv_aload_n hx hb d_Model_reduced_15 rfl (lv_at hl 1 rfl) ?_
  obtain ⟨i_3, hg_3⟩ := List.getElem?_of_mem kmo.2
  rw [eX_mo] at hg_3
  refine va_get (v := .ref mzA) hx hb htb i_Model hown hK hP i_3 hg_3 rfl 20 (by decide) (htb _ q7_234) (fun _ h9 => h9) rfl d_Model_reduced_16 ?_
  refine lv_iload hx hb d_Model_reduced_19 (lv_at hl 0 rfl) ?_
  refine lv_aload_n hx hb d_Model_reduced_21 rfl (lv_at hl 1 rfl) ?_
  refine va_get (v := .ref mmA) hx hb htb i_Model hown hK hP i_3 hg_3 rfl 18 (by decide) (htb _ q7_232) (fun _ h9 => h9) rfl d_Model_reduced_22 ?_
  refine lv_iload hx hb d_Model_reduced_25 (lv_at hl 6 rfl) ?_
  refine lv_aload_n hx hb d_Model_reduced_27 rfl (lv_at hl 1 rfl) ?_
  refine va_get (v := .ref mqA) hx hb htb i_Model hown hK hP i_3 hg_3 rfl 19 (by decide) (htb _ q7_233) (fun _ h9 => h9) rfl d_Model_reduced_28 ?_
  have hFc := va_free (wc := G_2) hD hS hA (List.range G_2.length) (rg_is _)
  refine va_calli (mu_runV (As := [.ref mzA, .int (nI k9), .ref mmA, .int (nI k1), .ref mqA]) (rest := []) ⟨hx, hb, hml, hown, hts⟩ tbin (m_Model_divided l dC dI sb γ κ Ad τ gT G_2 mo mzA mqA _ _ _ _ _ _ _ _ _ _ _ _ _ _ _ _ _ _ _ _ _ _ _ _ _ _ _ _ _ _ _ _ _ _ _ _ H9.size hTy (by have h9 := kmo; rw [eX_mo] at h9; exact h9) kmzA kmmA kmqA kmrA hx_mo_mmA hx_mo_mrA hx_mmA_mrA (by omega) hq1 hq2 hbt) q9_121 q9_123 qp_44 q1_9 q9_124 (n := 5) (by decide +kernel) rfl ⟨rfl, rfl⟩ ⟨Nat.le_of_ble_eq_true rfl, Nat.le_of_ble_eq_true rfl⟩ ⟨Nat.le_of_ble_eq_true rfl, Nat.le_of_ble_eq_true rfl⟩ hN (hT0.keep hS hAs) hAs (Nat.le_trans hB0 hS.1) hK hP hD (List.range G_2.length) (rg_nd _) (rg_is _) [0, 1, 2, 3, 4] rfl i_3 12 hg_3 rfl rfl hl.1 rfl (Nat.le_of_ble_eq_true rfl) d_Model_reduced_31) hS (fun q _ h => hFc q h) hFc (fun r31 G_4 tS H31 locs ht hvm hw31 hB hz1 hk1 hS => ?_)
  obtain ⟨hTy, hF9, hr31⟩ := hw31
  have kmmA := kmmA.fl hF9 (by simp only [List.mem_cons, List.not_mem_nil, or_false]; omega)
  have hFR := hFR.tr (hF9.up (by intro x h; simp only [List.mem_cons, List.not_mem_nil, or_false] at h ⊢; omega))
  obtain ⟨hP1, hK1, hD1⟩ := hB
  rw [ht] at hP1
  have hP : va_P (dC, dI) classes G_4 H31 := hP1
  have hD : va_D A G_4 := hD1.weaken (fun _ _ _ h => hFc _ h)
  obtain ⟨⟨k31, hk31, rk31⟩, ⟨q31, kmo⟩, -, ⟨f31, kmrA⟩⟩ := hr31
  subst rk31
  obtain ⟨cX_5, eX_5⟩ : ∃ z : va_E, z = .inr (12, (.int mer :: .int mfed :: .int mwr :: .int mct :: .int mls :: .ref moc :: .ref msT :: .ref mrV :: .ref msP :: .int q31 :: .ref mrA :: .ref mbA :: .ref mwA :: .ref mhA :: .ref mfA :: .ref mpA :: .ref mxA :: .ref myA :: .ref mmA :: .ref mqA :: .ref mzA :: .ref mwy :: .ref mfd :: .int msz :: .int mcz :: .int mch :: .int mft :: .int mpt :: .int mdp :: .int mvd :: .long mnw :: .int mmk :: [])) := ⟨_, rfl⟩
  rw [← eX_5] at kmo
  refine lv_istore (lv' := [(6, .int (nI k31)), (0, .ref mo), (1, .ref a1), (2, .int (nI n)), (3, .ref b1), (4, .int (nI k2)), (5, .int (nI k1))]) hx hb d_Model_reduced_34 hl (by decide) rfl (fun ls hl => ?_)
  refine lv_iconst (v := 0) hx hb d_Model_reduced_36 (by decide) ?_
  refine lv_istore (lv' := [(7, .int 0), (6, .int (nI k31)), (0, .ref mo), (1, .ref a1), (2, .int (nI n)), (3, .ref b1), (4, .int (nI k2)), (5, .int (nI k1))]) hx hb d_Model_reduced_37 hl (by decide) rfl (fun ls hl => ?_)
  refine w_loopW (α := Nat × va_W) (fun a9 => 0 ≤ a9.1 ∧ a9.1 ≤ k31 ∧ TR γ κ Ad τ a9.2 ∧ FL Ad [mo, mrA] G a9.2 ∧ Xc Ad mo cX_5 a9.2 ∧ Xc Ad mmA (.inl (γ.2.1, 600, .inl fm)) a9.2 ∧ Xc Ad mrA (.inl (γ.2.1, 600, .inl f31)) a9.2) (fun a9 => k31 - a9.1) (fun a9 => [(7, .int (nI a9.1)), (6, .int (nI k31)), (0, .ref mo), (1, .ref a1), (2, .int (nI n)), (3, .ref b1), (4, .int (nI k2)), (5, .int (nI k1))]) (fun _ => []) (fun a9 => a9.2) 8 39 (fun a9 HL39 locs ls hJ hP hD hS hl ih39 => ?_) (0, G_4) _ _ ls ⟨by omega, by omega, hTy, hFR, kmo, kmmA, kmrA⟩ hP hD hS (lv_sub hl [0, 1, 2, 3, 4, 5, 6, 7] rfl)
  obtain ⟨z39, G39⟩ := a9
  obtain ⟨hy39, hz39, hTy, hFR, kmo, kmmA, kmrA⟩ := hJ
  dsimp only at hy39 hz39 hTy hFR kmo kmmA kmrA hP hD hl ih39
  refine lv_iload hx hb d_Model_reduced_39 (lv_at hl 0 rfl) ?_
  refine lv_iload hx hb d_Model_reduced_41 (lv_at hl 1 rfl) ?_
  refine lv_icmp_ge (tgt := 66) hx hb d_Model_reduced_43 (by decide) (fun c43 => ?_) (fun c43 => ?_)
  · have p43 : k31 ≤ z39 := ((nI_leI (a := k31) (b := z39) (by omega) (by omega)).mp c43)
    refine lv_iload hx hb d_Model_reduced_66 (lv_at hl 1 rfl) ?_
    exact W.iret (v := nI k31) hx hb hr (fun t ht hW => ⟨⟨_, G39, rfl, ⟨hTy, hFR, ⟨k31, hk31, rfl⟩, ⟨_, by rw [eX_5] at kmo; exact kmo⟩, ⟨_, kmrA⟩⟩, by rw [ht]; exact hP, va_K.moved hW.alike hK, hD⟩, hS.F ht⟩) hS.2.2 d_Model_reduced_68
  · have p43 : ¬ (k31 ≤ z39) := (fun q9 => c43 ((nI_leI (a := k31) (b := z39) (by omega) (by omega)).mpr q9))
    refine lv_aload_n hx hb d_Model_reduced_46 rfl (lv_at hl 2 rfl) ?_
    obtain ⟨i_6, hg_6⟩ := List.getElem?_of_mem kmo.2
    rw [eX_5] at hg_6
    refine va_get (v := .ref myA) hx hb htb i_Model hown hK hP i_6 hg_6 rfl 17 (by decide) (htb _ q7_231) (fun _ h9 => h9) rfl d_Model_reduced_47 ?_
    refine lv_iload hx hb d_Model_reduced_50 (lv_at hl 0 rfl) ?_
    refine lv_aload_n hx hb d_Model_reduced_52 rfl (lv_at hl 2 rfl) ?_
    refine va_get (v := .ref mzA) hx hb htb i_Model hown hK hP i_6 hg_6 rfl 20 (by decide) (htb _ q7_234) (fun _ h9 => h9) rfl d_Model_reduced_53 ?_
    refine lv_iload hx hb d_Model_reduced_56 (lv_at hl 0 rfl) ?_
    obtain ⟨i_7, f_7, hn_7, hg_7⟩ := tr_6 hTy kmzA
    have h58 : vp_in (nI z39) 600 := vp_in_nI (by omega) (by omega)
    refine va_iald hx hb hK hP i_7 1 hg_7 rfl h58 d_Model_reduced_58 ?_
    refine lv_topi (fun e58 he58 => ?_)
    obtain ⟨i_8, f_8, hn_8, hg_8⟩ := tr_6 hTy kmyA
    have h59 : vp_in (nI z39) 600 := vp_in_nI (by omega) (by omega)
    refine va_iast hx hb hK hP hD hS i_8 1 hg_8 rfl h59 d_Model_reduced_59 (fun H59 locs hP hD2 hS => ?_)
    have hP : va_P (dC, dI) classes (G39.set i_8 (myA, .inl (γ.2.1, 600, .inl (upd f_8 (nI z39).toNatClampNeg e58)))) H59 := hP
    have hD3 : va_D A (G39.set i_8 (myA, .inl (γ.2.1, 600, .inl (upd f_8 (nI z39).toNatClampNeg e58)))) := hD2
    have hF1 := FR.set (c' := .inl (γ.2.1, 600, .inl (upd f_8 (nI z39).toNatClampNeg e58))) hg_8 kmyA.1
    have kmo := kmo.fr hF1
    have kmmA := kmmA.fr hF1
    have kmrA := kmrA.fr hF1
    have hFR := hFR.tr hF1.l
    clear hF1
    have hTy := TR.set (c' := .inl (γ.2.1, 600, .inl (upd f_8 (nI z39).toNatClampNeg e58))) hTy hg_8 (okr_6 kmyA hn_8 _)
    have hD := hD3
    clear hD3 hD2
    generalize G39.set i_8 (myA, .inl (γ.2.1, 600, .inl (upd f_8 (nI z39).toNatClampNeg e58))) = G_9 at hP hD hTy hFR kmo kmmA kmrA 
    refine lv_iinc (v := nI (z39 + 1)) (lv' := [(7, .int (nI (z39 + 1))), (6, .int (nI k31)), (0, .ref mo), (1, .ref a1), (2, .int (nI n)), (3, .ref b1), (4, .int (nI k2)), (5, .int (nI k1))]) hx hb d_Model_reduced_60 hl (k := 0) rfl (nI_1 _) (by decide) rfl (fun ls hl => ?_)
    refine lv_goto (tgt := 39) hx hb d_Model_reduced_63 (by decide) ?_
    exact ih39 (z39 + 1, G_9) _ _ ls (by dsimp only; omega) ⟨by dsimp only; omega, by dsimp only; omega, hTy, hFR, kmo, kmmA, kmrA⟩ hP hD hS (lv_sub hl [0, 1, 2, 3, 4, 5, 6, 7] rfl)
def y_Integer_numberOfLeadingZeros : MethodName := ⟨"java/lang/Integer", "numberOfLeadingZeros", "(I)I"⟩
abbrev b_Integer_numberOfLeadingZeros : ByteArray := prog_21_method_47_code
def w_Integer_numberOfLeadingZeros : List Cond := Cond.code y_Integer_numberOfLeadingZeros b_Integer_numberOfLeadingZeros 2 ((some FieldType.int)) :: tb
theorem d_Integer_numberOfLeadingZeros_0 : decode b_Integer_numberOfLeadingZeros 0 = .ok (.iload_n 0, 1) := by decide +kernel
theorem d_Integer_numberOfLeadingZeros_1 : decode b_Integer_numberOfLeadingZeros 1 = .ok (.ifCond .gt 14, 3) := by decide +kernel
theorem d_Integer_numberOfLeadingZeros_4 : decode b_Integer_numberOfLeadingZeros 4 = .ok (.iload_n 0, 1) := by decide +kernel
theorem d_Integer_numberOfLeadingZeros_5 : decode b_Integer_numberOfLeadingZeros 5 = .ok (.ifCond .ne 8, 3) := by decide +kernel
theorem d_Integer_numberOfLeadingZeros_8 : decode b_Integer_numberOfLeadingZeros 8 = .ok (.bipush 32, 2) := by decide +kernel
theorem d_Integer_numberOfLeadingZeros_10 : decode b_Integer_numberOfLeadingZeros 10 = .ok (.goto 4, 3) := by decide +kernel
theorem d_Integer_numberOfLeadingZeros_13 : decode b_Integer_numberOfLeadingZeros 13 = .ok (.iconst 0, 1) := by decide +kernel
theorem d_Integer_numberOfLeadingZeros_14 : decode b_Integer_numberOfLeadingZeros 14 = .ok (.ireturn, 1) := by decide +kernel
theorem d_Integer_numberOfLeadingZeros_15 : decode b_Integer_numberOfLeadingZeros 15 = .ok (.bipush 31, 2) := by decide +kernel
theorem d_Integer_numberOfLeadingZeros_17 : decode b_Integer_numberOfLeadingZeros 17 = .ok (.istore_n 1, 1) := by decide +kernel
theorem d_Integer_numberOfLeadingZeros_18 : decode b_Integer_numberOfLeadingZeros 18 = .ok (.iload_n 0, 1) := by decide +kernel
theorem d_Integer_numberOfLeadingZeros_19 : decode b_Integer_numberOfLeadingZeros 19 = .ok (.ldc_w 264, 3) := by decide +kernel
theorem d_Integer_numberOfLeadingZeros_22 : decode b_Integer_numberOfLeadingZeros 22 = .ok (.if_icmp .lt 11, 3) := by decide +kernel
theorem d_Integer_numberOfLeadingZeros_25 : decode b_Integer_numberOfLeadingZeros 25 = .ok (.iinc 1 (-16), 3) := by decide +kernel
theorem d_Integer_numberOfLeadingZeros_28 : decode b_Integer_numberOfLeadingZeros 28 = .ok (.iload_n 0, 1) := by decide +kernel
theorem d_Integer_numberOfLeadingZeros_29 : decode b_Integer_numberOfLeadingZeros 29 = .ok (.bipush 16, 2) := by decide +kernel
theorem d_Integer_numberOfLeadingZeros_31 : decode b_Integer_numberOfLeadingZeros 31 = .ok (.iushr, 1) := by decide +kernel
theorem d_Integer_numberOfLeadingZeros_32 : decode b_Integer_numberOfLeadingZeros 32 = .ok (.istore_n 0, 1) := by decide +kernel
theorem d_Integer_numberOfLeadingZeros_33 : decode b_Integer_numberOfLeadingZeros 33 = .ok (.iload_n 0, 1) := by decide +kernel
theorem d_Integer_numberOfLeadingZeros_34 : decode b_Integer_numberOfLeadingZeros 34 = .ok (.sipush 256, 3) := by decide +kernel
theorem d_Integer_numberOfLeadingZeros_37 : decode b_Integer_numberOfLeadingZeros 37 = .ok (.if_icmp .lt 11, 3) := by decide +kernel
theorem d_Integer_numberOfLeadingZeros_40 : decode b_Integer_numberOfLeadingZeros 40 = .ok (.iinc 1 (-8), 3) := by decide +kernel
theorem d_Integer_numberOfLeadingZeros_43 : decode b_Integer_numberOfLeadingZeros 43 = .ok (.iload_n 0, 1) := by decide +kernel
theorem d_Integer_numberOfLeadingZeros_44 : decode b_Integer_numberOfLeadingZeros 44 = .ok (.bipush 8, 2) := by decide +kernel
theorem d_Integer_numberOfLeadingZeros_46 : decode b_Integer_numberOfLeadingZeros 46 = .ok (.iushr, 1) := by decide +kernel
theorem d_Integer_numberOfLeadingZeros_47 : decode b_Integer_numberOfLeadingZeros 47 = .ok (.istore_n 0, 1) := by decide +kernel
theorem d_Integer_numberOfLeadingZeros_48 : decode b_Integer_numberOfLeadingZeros 48 = .ok (.iload_n 0, 1) := by decide +kernel
theorem d_Integer_numberOfLeadingZeros_49 : decode b_Integer_numberOfLeadingZeros 49 = .ok (.bipush 16, 2) := by decide +kernel
theorem d_Integer_numberOfLeadingZeros_51 : decode b_Integer_numberOfLeadingZeros 51 = .ok (.if_icmp .lt 10, 3) := by decide +kernel
theorem d_Integer_numberOfLeadingZeros_54 : decode b_Integer_numberOfLeadingZeros 54 = .ok (.iinc 1 (-4), 3) := by decide +kernel
theorem d_Integer_numberOfLeadingZeros_57 : decode b_Integer_numberOfLeadingZeros 57 = .ok (.iload_n 0, 1) := by decide +kernel
theorem d_Integer_numberOfLeadingZeros_58 : decode b_Integer_numberOfLeadingZeros 58 = .ok (.iconst 4, 1) := by decide +kernel
theorem d_Integer_numberOfLeadingZeros_59 : decode b_Integer_numberOfLeadingZeros 59 = .ok (.iushr, 1) := by decide +kernel
theorem d_Integer_numberOfLeadingZeros_60 : decode b_Integer_numberOfLeadingZeros 60 = .ok (.istore_n 0, 1) := by decide +kernel
theorem d_Integer_numberOfLeadingZeros_61 : decode b_Integer_numberOfLeadingZeros 61 = .ok (.iload_n 0, 1) := by decide +kernel
theorem d_Integer_numberOfLeadingZeros_62 : decode b_Integer_numberOfLeadingZeros 62 = .ok (.iconst 4, 1) := by decide +kernel
theorem d_Integer_numberOfLeadingZeros_63 : decode b_Integer_numberOfLeadingZeros 63 = .ok (.if_icmp .lt 10, 3) := by decide +kernel
theorem d_Integer_numberOfLeadingZeros_66 : decode b_Integer_numberOfLeadingZeros 66 = .ok (.iinc 1 (-2), 3) := by decide +kernel
theorem d_Integer_numberOfLeadingZeros_69 : decode b_Integer_numberOfLeadingZeros 69 = .ok (.iload_n 0, 1) := by decide +kernel
theorem d_Integer_numberOfLeadingZeros_70 : decode b_Integer_numberOfLeadingZeros 70 = .ok (.iconst 2, 1) := by decide +kernel
theorem d_Integer_numberOfLeadingZeros_71 : decode b_Integer_numberOfLeadingZeros 71 = .ok (.iushr, 1) := by decide +kernel
theorem d_Integer_numberOfLeadingZeros_72 : decode b_Integer_numberOfLeadingZeros 72 = .ok (.istore_n 0, 1) := by decide +kernel
theorem d_Integer_numberOfLeadingZeros_73 : decode b_Integer_numberOfLeadingZeros 73 = .ok (.iload_n 1, 1) := by decide +kernel
theorem d_Integer_numberOfLeadingZeros_74 : decode b_Integer_numberOfLeadingZeros 74 = .ok (.iload_n 0, 1) := by decide +kernel
theorem d_Integer_numberOfLeadingZeros_75 : decode b_Integer_numberOfLeadingZeros 75 = .ok (.iconst 1, 1) := by decide +kernel
theorem d_Integer_numberOfLeadingZeros_76 : decode b_Integer_numberOfLeadingZeros 76 = .ok (.iushr, 1) := by decide +kernel
theorem d_Integer_numberOfLeadingZeros_77 : decode b_Integer_numberOfLeadingZeros 77 = .ok (.isub, 1) := by decide +kernel
theorem d_Integer_numberOfLeadingZeros_78 : decode b_Integer_numberOfLeadingZeros 78 = .ok (.ireturn, 1) := by decide +kernel
set_option maxHeartbeats 4000000 in
set_option maxRecDepth 100000 in
theorem p_Integer_numberOfLeadingZeros (l : Launch) (dC : Nat → ClassId) (dI : Nat → Nat → Nat) (sb : sB) (γ : cG) (κ : kE) (Ad : List Nat) (τ : Nat → TD) (gT : ClassId) (G : va_W)  (x9 : Int32) (hTy : TR γ κ Ad τ G)   : Met l y_Integer_numberOfLeadingZeros w_Integer_numberOfLeadingZeros ({ frames := 0, cells := 0, slots := 0, locals := 0 }) (pu_P [.int x9] (dC, dI) sb G [(γ.1, .byte), (γ.2.1, .int), (γ.2.2.1, .long), (γ.2.2.2, .object "java/lang/Object"), (gT, .object "TrustChainModel$Text")]) (vp_Si (fun r => True)) 0 0 (fun _ => False) := by
  refine Met.ofW (cc := b_Integer_numberOfLeadingZeros) (maxL := 2) (ret := (some FieldType.int)) (by decide) rfl ?_
  intro p e s m args below meth c s₁ B hml hv
  obtain ⟨rfl, hP, hK, hN, hT0⟩ := hv
  have hx := B.exec
  have hb := B.bytes
  have hr := B.returns
  have hts := atoms_spec (ws := w_Integer_numberOfLeadingZeros) B.pre
  have tbin : ∀ w ∈ tb, w ∈ w_Integer_numberOfLeadingZeros := fun w h => List.mem_cons_of_mem _ h
  have htb : ∀ w ∈ tb, w.before _ s = true := fun w h => hts w (tbin w h)
  have hown : s.vm.findClass "java/lang/Integer" = some m.cls := findClass_of_methodNamed B.named
  have hlocks := B.notSynchronized
  have hl := lv_entry ([.int x9]) (n := 2) (Nat.le_of_ble_eq_true rfl)
  rw [lg_entry_eq]
  generalize (lg_sl ([.int x9]) ++ List.replicate (2 - (lg_sl ([.int x9])).length) Slot.unset).toArray = ls at hl ⊢
  have hl : lv_has ls 2 [(0, .int x9)] := hl
  refine lv_iload_n hx hb d_Integer_numberOfLeadingZeros_0 rfl (lv_at hl 0 rfl) ?_
  refine lv_if_gt (tgt := 15) hx hb d_Integer_numberOfLeadingZeros_1 (by decide) (fun c1 => ?_) (fun c1 => ?_)
  · have p1 : (0 : Int32) < x9 := c1
    refine lv_bipush (v := 31) hx hb d_Integer_numberOfLeadingZeros_15 (by decide) ?_
    refine lv_istore_n (lv' := [(1, .int 31), (0, .int x9)]) hx hb d_Integer_numberOfLeadingZeros_17 rfl hl (by decide) rfl (fun ls hl => ?_)
    refine lv_iload_n hx hb d_Integer_numberOfLeadingZeros_18 rfl (lv_at hl 1 rfl) ?_
    refine lv_ldcw (v := 65536) hx hb hown (htb _ q9_112) d_Integer_numberOfLeadingZeros_19 ?_
    refine lv_icmp_lt (tgt := 33) hx hb d_Integer_numberOfLeadingZeros_22 (by decide) (fun c22 => ?_) (fun c22 => ?_)
    · have p22 : x9 < (65536 : Int32) := c22
      refine lv_iload_n hx hb d_Integer_numberOfLeadingZeros_33 rfl (lv_at hl 1 rfl) ?_
      refine lv_sipush (v := 256) hx hb d_Integer_numberOfLeadingZeros_34 (by decide) ?_
      refine lv_icmp_lt (tgt := 48) hx hb d_Integer_numberOfLeadingZeros_37 (by decide) (fun c37 => ?_) (fun c37 => ?_)
      · have p37 : x9 < (256 : Int32) := c37
        refine lv_iload_n hx hb d_Integer_numberOfLeadingZeros_48 rfl (lv_at hl 1 rfl) ?_
        refine lv_bipush (v := 16) hx hb d_Integer_numberOfLeadingZeros_49 (by decide) ?_
        refine lv_icmp_lt (tgt := 61) hx hb d_Integer_numberOfLeadingZeros_51 (by decide) (fun c51 => ?_) (fun c51 => ?_)
        · have p51 : x9 < (16 : Int32) := c51
          refine lv_iload_n hx hb d_Integer_numberOfLeadingZeros_61 rfl (lv_at hl 1 rfl) ?_
          refine lv_iconst (v := 4) hx hb d_Integer_numberOfLeadingZeros_62 (by decide) ?_
          refine lv_icmp_lt (tgt := 73) hx hb d_Integer_numberOfLeadingZeros_63 (by decide) (fun c63 => ?_) (fun c63 => ?_)
          · have p63 : x9 < (4 : Int32) := c63
            refine lv_iload_n hx hb d_Integer_numberOfLeadingZeros_73 rfl (lv_at hl 0 rfl) ?_
            refine lv_iload_n hx hb d_Integer_numberOfLeadingZeros_74 rfl (lv_at hl 1 rfl) ?_
            refine lv_iconst (v := 1) hx hb d_Integer_numberOfLeadingZeros_75 (by decide) ?_
            refine lv_iushr (v := (x9.toUInt32 >>> ((1 : Int32).toUInt32 &&& Int32.toUInt32 31)).toInt32) hx hb d_Integer_numberOfLeadingZeros_76 rfl ?_
            refine lv_isub hx hb d_Integer_numberOfLeadingZeros_77 ?_
            exact W.iret (v := 31 - ((x9.toUInt32 >>> ((1 : Int32).toUInt32 &&& Int32.toUInt32 31)).toInt32)) hx hb hr (fun t ht hW => ⟨_, rfl, trivial, ht⟩) (fun q h => by cases h) d_Integer_numberOfLeadingZeros_78
          · have p63 : ¬ (x9 < (4 : Int32)) := c63
            refine lv_iinc (v := 29) (lv' := [(1, .int 29), (0, .int x9)]) hx hb d_Integer_numberOfLeadingZeros_66 hl (k := 0) rfl (by decide) (by decide) rfl (fun ls hl => ?_)
            refine lv_iload_n hx hb d_Integer_numberOfLeadingZeros_69 rfl (lv_at hl 1 rfl) ?_
            refine lv_iconst (v := 2) hx hb d_Integer_numberOfLeadingZeros_70 (by decide) ?_
            refine lv_iushr (v := (x9.toUInt32 >>> ((2 : Int32).toUInt32 &&& Int32.toUInt32 31)).toInt32) hx hb d_Integer_numberOfLeadingZeros_71 rfl ?_
            refine lv_topi (fun v72 ev72 => ?_)
            refine lv_istore_n (lv' := [(0, .int v72), (1, .int 29)]) hx hb d_Integer_numberOfLeadingZeros_72 rfl hl (by decide) rfl (fun ls hl => ?_)
            refine lv_iload_n hx hb d_Integer_numberOfLeadingZeros_73 rfl (lv_at hl 1 rfl) ?_
            refine lv_iload_n hx hb d_Integer_numberOfLeadingZeros_74 rfl (lv_at hl 0 rfl) ?_
            refine lv_iconst (v := 1) hx hb d_Integer_numberOfLeadingZeros_75 (by decide) ?_
            refine lv_iushr (v := (v72.toUInt32 >>> ((1 : Int32).toUInt32 &&& Int32.toUInt32 31)).toInt32) hx hb d_Integer_numberOfLeadingZeros_76 rfl ?_
            refine lv_isub hx hb d_Integer_numberOfLeadingZeros_77 ?_
            exact W.iret (v := 29 - ((v72.toUInt32 >>> ((1 : Int32).toUInt32 &&& Int32.toUInt32 31)).toInt32)) hx hb hr (fun t ht hW => ⟨_, rfl, trivial, ht⟩) (fun q h => by cases h) d_Integer_numberOfLeadingZeros_78
        · have p51 : ¬ (x9 < (16 : Int32)) := c51
          refine lv_iinc (v := 27) (lv' := [(1, .int 27), (0, .int x9)]) hx hb d_Integer_numberOfLeadingZeros_54 hl (k := 0) rfl (by decide) (by decide) rfl (fun ls hl => ?_)
          refine lv_iload_n hx hb d_Integer_numberOfLeadingZeros_57 rfl (lv_at hl 1 rfl) ?_
          refine lv_iconst (v := 4) hx hb d_Integer_numberOfLeadingZeros_58 (by decide) ?_
          refine lv_iushr (v := (x9.toUInt32 >>> ((4 : Int32).toUInt32 &&& Int32.toUInt32 31)).toInt32) hx hb d_Integer_numberOfLeadingZeros_59 rfl ?_
          refine lv_topi (fun v60 ev60 => ?_)
          refine lv_istore_n (lv' := [(0, .int v60), (1, .int 27)]) hx hb d_Integer_numberOfLeadingZeros_60 rfl hl (by decide) rfl (fun ls hl => ?_)
          refine lv_iload_n hx hb d_Integer_numberOfLeadingZeros_61 rfl (lv_at hl 0 rfl) ?_
          refine lv_iconst (v := 4) hx hb d_Integer_numberOfLeadingZeros_62 (by decide) ?_
          refine lv_icmp_lt (tgt := 73) hx hb d_Integer_numberOfLeadingZeros_63 (by decide) (fun c63 => ?_) (fun c63 => ?_)
          · have p63 : v60 < (4 : Int32) := c63
            refine lv_iload_n hx hb d_Integer_numberOfLeadingZeros_73 rfl (lv_at hl 1 rfl) ?_
            refine lv_iload_n hx hb d_Integer_numberOfLeadingZeros_74 rfl (lv_at hl 0 rfl) ?_
            refine lv_iconst (v := 1) hx hb d_Integer_numberOfLeadingZeros_75 (by decide) ?_
            refine lv_iushr (v := (v60.toUInt32 >>> ((1 : Int32).toUInt32 &&& Int32.toUInt32 31)).toInt32) hx hb d_Integer_numberOfLeadingZeros_76 rfl ?_
            refine lv_isub hx hb d_Integer_numberOfLeadingZeros_77 ?_
            exact W.iret (v := 27 - ((v60.toUInt32 >>> ((1 : Int32).toUInt32 &&& Int32.toUInt32 31)).toInt32)) hx hb hr (fun t ht hW => ⟨_, rfl, trivial, ht⟩) (fun q h => by cases h) d_Integer_numberOfLeadingZeros_78
          · have p63 : ¬ (v60 < (4 : Int32)) := c63
            refine lv_iinc (v := 25) (lv' := [(1, .int 25), (0, .int v60)]) hx hb d_Integer_numberOfLeadingZeros_66 hl (k := 1) rfl (by decide) (by decide) rfl (fun ls hl => ?_)
            refine lv_iload_n hx hb d_Integer_numberOfLeadingZeros_69 rfl (lv_at hl 1 rfl) ?_
            refine lv_iconst (v := 2) hx hb d_Integer_numberOfLeadingZeros_70 (by decide) ?_
            refine lv_iushr (v := (v60.toUInt32 >>> ((2 : Int32).toUInt32 &&& Int32.toUInt32 31)).toInt32) hx hb d_Integer_numberOfLeadingZeros_71 rfl ?_
            refine lv_topi (fun v72 ev72 => ?_)
            refine lv_istore_n (lv' := [(0, .int v72), (1, .int 25)]) hx hb d_Integer_numberOfLeadingZeros_72 rfl hl (by decide) rfl (fun ls hl => ?_)
            refine lv_iload_n hx hb d_Integer_numberOfLeadingZeros_73 rfl (lv_at hl 1 rfl) ?_
            refine lv_iload_n hx hb d_Integer_numberOfLeadingZeros_74 rfl (lv_at hl 0 rfl) ?_
            refine lv_iconst (v := 1) hx hb d_Integer_numberOfLeadingZeros_75 (by decide) ?_
            refine lv_iushr (v := (v72.toUInt32 >>> ((1 : Int32).toUInt32 &&& Int32.toUInt32 31)).toInt32) hx hb d_Integer_numberOfLeadingZeros_76 rfl ?_
            refine lv_isub hx hb d_Integer_numberOfLeadingZeros_77 ?_
            exact W.iret (v := 25 - ((v72.toUInt32 >>> ((1 : Int32).toUInt32 &&& Int32.toUInt32 31)).toInt32)) hx hb hr (fun t ht hW => ⟨_, rfl, trivial, ht⟩) (fun q h => by cases h) d_Integer_numberOfLeadingZeros_78
      · have p37 : ¬ (x9 < (256 : Int32)) := c37
        refine lv_iinc (v := 23) (lv' := [(1, .int 23), (0, .int x9)]) hx hb d_Integer_numberOfLeadingZeros_40 hl (k := 0) rfl (by decide) (by decide) rfl (fun ls hl => ?_)
        refine lv_iload_n hx hb d_Integer_numberOfLeadingZeros_43 rfl (lv_at hl 1 rfl) ?_
        refine lv_bipush (v := 8) hx hb d_Integer_numberOfLeadingZeros_44 (by decide) ?_
        refine lv_iushr (v := (x9.toUInt32 >>> ((8 : Int32).toUInt32 &&& Int32.toUInt32 31)).toInt32) hx hb d_Integer_numberOfLeadingZeros_46 rfl ?_
        refine lv_topi (fun v47 ev47 => ?_)
        refine lv_istore_n (lv' := [(0, .int v47), (1, .int 23)]) hx hb d_Integer_numberOfLeadingZeros_47 rfl hl (by decide) rfl (fun ls hl => ?_)
        refine lv_iload_n hx hb d_Integer_numberOfLeadingZeros_48 rfl (lv_at hl 0 rfl) ?_
        refine lv_bipush (v := 16) hx hb d_Integer_numberOfLeadingZeros_49 (by decide) ?_
        refine lv_icmp_lt (tgt := 61) hx hb d_Integer_numberOfLeadingZeros_51 (by decide) (fun c51 => ?_) (fun c51 => ?_)
        · have p51 : v47 < (16 : Int32) := c51
          refine lv_iload_n hx hb d_Integer_numberOfLeadingZeros_61 rfl (lv_at hl 0 rfl) ?_
          refine lv_iconst (v := 4) hx hb d_Integer_numberOfLeadingZeros_62 (by decide) ?_
          refine lv_icmp_lt (tgt := 73) hx hb d_Integer_numberOfLeadingZeros_63 (by decide) (fun c63 => ?_) (fun c63 => ?_)
          · have p63 : v47 < (4 : Int32) := c63
            refine lv_iload_n hx hb d_Integer_numberOfLeadingZeros_73 rfl (lv_at hl 1 rfl) ?_
            refine lv_iload_n hx hb d_Integer_numberOfLeadingZeros_74 rfl (lv_at hl 0 rfl) ?_
            refine lv_iconst (v := 1) hx hb d_Integer_numberOfLeadingZeros_75 (by decide) ?_
            refine lv_iushr (v := (v47.toUInt32 >>> ((1 : Int32).toUInt32 &&& Int32.toUInt32 31)).toInt32) hx hb d_Integer_numberOfLeadingZeros_76 rfl ?_
            refine lv_isub hx hb d_Integer_numberOfLeadingZeros_77 ?_
            exact W.iret (v := 23 - ((v47.toUInt32 >>> ((1 : Int32).toUInt32 &&& Int32.toUInt32 31)).toInt32)) hx hb hr (fun t ht hW => ⟨_, rfl, trivial, ht⟩) (fun q h => by cases h) d_Integer_numberOfLeadingZeros_78
          · have p63 : ¬ (v47 < (4 : Int32)) := c63
            refine lv_iinc (v := 21) (lv' := [(1, .int 21), (0, .int v47)]) hx hb d_Integer_numberOfLeadingZeros_66 hl (k := 1) rfl (by decide) (by decide) rfl (fun ls hl => ?_)
            refine lv_iload_n hx hb d_Integer_numberOfLeadingZeros_69 rfl (lv_at hl 1 rfl) ?_
            refine lv_iconst (v := 2) hx hb d_Integer_numberOfLeadingZeros_70 (by decide) ?_
            refine lv_iushr (v := (v47.toUInt32 >>> ((2 : Int32).toUInt32 &&& Int32.toUInt32 31)).toInt32) hx hb d_Integer_numberOfLeadingZeros_71 rfl ?_
            refine lv_topi (fun v72 ev72 => ?_)
            refine lv_istore_n (lv' := [(0, .int v72), (1, .int 21)]) hx hb d_Integer_numberOfLeadingZeros_72 rfl hl (by decide) rfl (fun ls hl => ?_)
            refine lv_iload_n hx hb d_Integer_numberOfLeadingZeros_73 rfl (lv_at hl 1 rfl) ?_
            refine lv_iload_n hx hb d_Integer_numberOfLeadingZeros_74 rfl (lv_at hl 0 rfl) ?_
            refine lv_iconst (v := 1) hx hb d_Integer_numberOfLeadingZeros_75 (by decide) ?_
            refine lv_iushr (v := (v72.toUInt32 >>> ((1 : Int32).toUInt32 &&& Int32.toUInt32 31)).toInt32) hx hb d_Integer_numberOfLeadingZeros_76 rfl ?_
            refine lv_isub hx hb d_Integer_numberOfLeadingZeros_77 ?_
            exact W.iret (v := 21 - ((v72.toUInt32 >>> ((1 : Int32).toUInt32 &&& Int32.toUInt32 31)).toInt32)) hx hb hr (fun t ht hW => ⟨_, rfl, trivial, ht⟩) (fun q h => by cases h) d_Integer_numberOfLeadingZeros_78
        · have p51 : ¬ (v47 < (16 : Int32)) := c51
          refine lv_iinc (v := 19) (lv' := [(1, .int 19), (0, .int v47)]) hx hb d_Integer_numberOfLeadingZeros_54 hl (k := 1) rfl (by decide) (by decide) rfl (fun ls hl => ?_)
          refine lv_iload_n hx hb d_Integer_numberOfLeadingZeros_57 rfl (lv_at hl 1 rfl) ?_
          refine lv_iconst (v := 4) hx hb d_Integer_numberOfLeadingZeros_58 (by decide) ?_
          refine lv_iushr (v := (v47.toUInt32 >>> ((4 : Int32).toUInt32 &&& Int32.toUInt32 31)).toInt32) hx hb d_Integer_numberOfLeadingZeros_59 rfl ?_
          refine lv_topi (fun v60 ev60 => ?_)
          refine lv_istore_n (lv' := [(0, .int v60), (1, .int 19)]) hx hb d_Integer_numberOfLeadingZeros_60 rfl hl (by decide) rfl (fun ls hl => ?_)
          refine lv_iload_n hx hb d_Integer_numberOfLeadingZeros_61 rfl (lv_at hl 0 rfl) ?_
          refine lv_iconst (v := 4) hx hb d_Integer_numberOfLeadingZeros_62 (by decide) ?_
          refine lv_icmp_lt (tgt := 73) hx hb d_Integer_numberOfLeadingZeros_63 (by decide) (fun c63 => ?_) (fun c63 => ?_)
          · have p63 : v60 < (4 : Int32) := c63
            refine lv_iload_n hx hb d_Integer_numberOfLeadingZeros_73 rfl (lv_at hl 1 rfl) ?_
            refine lv_iload_n hx hb d_Integer_numberOfLeadingZeros_74 rfl (lv_at hl 0 rfl) ?_
            refine lv_iconst (v := 1) hx hb d_Integer_numberOfLeadingZeros_75 (by decide) ?_
            refine lv_iushr (v := (v60.toUInt32 >>> ((1 : Int32).toUInt32 &&& Int32.toUInt32 31)).toInt32) hx hb d_Integer_numberOfLeadingZeros_76 rfl ?_
            refine lv_isub hx hb d_Integer_numberOfLeadingZeros_77 ?_
            exact W.iret (v := 19 - ((v60.toUInt32 >>> ((1 : Int32).toUInt32 &&& Int32.toUInt32 31)).toInt32)) hx hb hr (fun t ht hW => ⟨_, rfl, trivial, ht⟩) (fun q h => by cases h) d_Integer_numberOfLeadingZeros_78
          · have p63 : ¬ (v60 < (4 : Int32)) := c63
            refine lv_iinc (v := 17) (lv' := [(1, .int 17), (0, .int v60)]) hx hb d_Integer_numberOfLeadingZeros_66 hl (k := 1) rfl (by decide) (by decide) rfl (fun ls hl => ?_)
            refine lv_iload_n hx hb d_Integer_numberOfLeadingZeros_69 rfl (lv_at hl 1 rfl) ?_
            refine lv_iconst (v := 2) hx hb d_Integer_numberOfLeadingZeros_70 (by decide) ?_
            refine lv_iushr (v := (v60.toUInt32 >>> ((2 : Int32).toUInt32 &&& Int32.toUInt32 31)).toInt32) hx hb d_Integer_numberOfLeadingZeros_71 rfl ?_
            refine lv_topi (fun v72 ev72 => ?_)
            refine lv_istore_n (lv' := [(0, .int v72), (1, .int 17)]) hx hb d_Integer_numberOfLeadingZeros_72 rfl hl (by decide) rfl (fun ls hl => ?_)
            refine lv_iload_n hx hb d_Integer_numberOfLeadingZeros_73 rfl (lv_at hl 1 rfl) ?_
            refine lv_iload_n hx hb d_Integer_numberOfLeadingZeros_74 rfl (lv_at hl 0 rfl) ?_
            refine lv_iconst (v := 1) hx hb d_Integer_numberOfLeadingZeros_75 (by decide) ?_
            refine lv_iushr (v := (v72.toUInt32 >>> ((1 : Int32).toUInt32 &&& Int32.toUInt32 31)).toInt32) hx hb d_Integer_numberOfLeadingZeros_76 rfl ?_
            refine lv_isub hx hb d_Integer_numberOfLeadingZeros_77 ?_
            exact W.iret (v := 17 - ((v72.toUInt32 >>> ((1 : Int32).toUInt32 &&& Int32.toUInt32 31)).toInt32)) hx hb hr (fun t ht hW => ⟨_, rfl, trivial, ht⟩) (fun q h => by cases h) d_Integer_numberOfLeadingZeros_78
    · have p22 : ¬ (x9 < (65536 : Int32)) := c22
      refine lv_iinc (v := 15) (lv' := [(1, .int 15), (0, .int x9)]) hx hb d_Integer_numberOfLeadingZeros_25 hl (k := 0) rfl (by decide) (by decide) rfl (fun ls hl => ?_)
      refine lv_iload_n hx hb d_Integer_numberOfLeadingZeros_28 rfl (lv_at hl 1 rfl) ?_
      refine lv_bipush (v := 16) hx hb d_Integer_numberOfLeadingZeros_29 (by decide) ?_
      refine lv_iushr (v := (x9.toUInt32 >>> ((16 : Int32).toUInt32 &&& Int32.toUInt32 31)).toInt32) hx hb d_Integer_numberOfLeadingZeros_31 rfl ?_
      refine lv_topi (fun v32 ev32 => ?_)
      refine lv_istore_n (lv' := [(0, .int v32), (1, .int 15)]) hx hb d_Integer_numberOfLeadingZeros_32 rfl hl (by decide) rfl (fun ls hl => ?_)
      refine lv_iload_n hx hb d_Integer_numberOfLeadingZeros_33 rfl (lv_at hl 0 rfl) ?_
      refine lv_sipush (v := 256) hx hb d_Integer_numberOfLeadingZeros_34 (by decide) ?_
      refine lv_icmp_lt (tgt := 48) hx hb d_Integer_numberOfLeadingZeros_37 (by decide) (fun c37 => ?_) (fun c37 => ?_)
      · have p37 : v32 < (256 : Int32) := c37
        refine lv_iload_n hx hb d_Integer_numberOfLeadingZeros_48 rfl (lv_at hl 0 rfl) ?_
        refine lv_bipush (v := 16) hx hb d_Integer_numberOfLeadingZeros_49 (by decide) ?_
        refine lv_icmp_lt (tgt := 61) hx hb d_Integer_numberOfLeadingZeros_51 (by decide) (fun c51 => ?_) (fun c51 => ?_)
        · have p51 : v32 < (16 : Int32) := c51
          refine lv_iload_n hx hb d_Integer_numberOfLeadingZeros_61 rfl (lv_at hl 0 rfl) ?_
          refine lv_iconst (v := 4) hx hb d_Integer_numberOfLeadingZeros_62 (by decide) ?_
          refine lv_icmp_lt (tgt := 73) hx hb d_Integer_numberOfLeadingZeros_63 (by decide) (fun c63 => ?_) (fun c63 => ?_)
          · have p63 : v32 < (4 : Int32) := c63
            refine lv_iload_n hx hb d_Integer_numberOfLeadingZeros_73 rfl (lv_at hl 1 rfl) ?_
            refine lv_iload_n hx hb d_Integer_numberOfLeadingZeros_74 rfl (lv_at hl 0 rfl) ?_
            refine lv_iconst (v := 1) hx hb d_Integer_numberOfLeadingZeros_75 (by decide) ?_
            refine lv_iushr (v := (v32.toUInt32 >>> ((1 : Int32).toUInt32 &&& Int32.toUInt32 31)).toInt32) hx hb d_Integer_numberOfLeadingZeros_76 rfl ?_
            refine lv_isub hx hb d_Integer_numberOfLeadingZeros_77 ?_
            exact W.iret (v := 15 - ((v32.toUInt32 >>> ((1 : Int32).toUInt32 &&& Int32.toUInt32 31)).toInt32)) hx hb hr (fun t ht hW => ⟨_, rfl, trivial, ht⟩) (fun q h => by cases h) d_Integer_numberOfLeadingZeros_78
          · have p63 : ¬ (v32 < (4 : Int32)) := c63
            refine lv_iinc (v := 13) (lv' := [(1, .int 13), (0, .int v32)]) hx hb d_Integer_numberOfLeadingZeros_66 hl (k := 1) rfl (by decide) (by decide) rfl (fun ls hl => ?_)
            refine lv_iload_n hx hb d_Integer_numberOfLeadingZeros_69 rfl (lv_at hl 1 rfl) ?_
            refine lv_iconst (v := 2) hx hb d_Integer_numberOfLeadingZeros_70 (by decide) ?_
            refine lv_iushr (v := (v32.toUInt32 >>> ((2 : Int32).toUInt32 &&& Int32.toUInt32 31)).toInt32) hx hb d_Integer_numberOfLeadingZeros_71 rfl ?_
            refine lv_topi (fun v72 ev72 => ?_)
            refine lv_istore_n (lv' := [(0, .int v72), (1, .int 13)]) hx hb d_Integer_numberOfLeadingZeros_72 rfl hl (by decide) rfl (fun ls hl => ?_)
            refine lv_iload_n hx hb d_Integer_numberOfLeadingZeros_73 rfl (lv_at hl 1 rfl) ?_
            refine lv_iload_n hx hb d_Integer_numberOfLeadingZeros_74 rfl (lv_at hl 0 rfl) ?_
            refine lv_iconst (v := 1) hx hb d_Integer_numberOfLeadingZeros_75 (by decide) ?_
            refine lv_iushr (v := (v72.toUInt32 >>> ((1 : Int32).toUInt32 &&& Int32.toUInt32 31)).toInt32) hx hb d_Integer_numberOfLeadingZeros_76 rfl ?_
            refine lv_isub hx hb d_Integer_numberOfLeadingZeros_77 ?_
            exact W.iret (v := 13 - ((v72.toUInt32 >>> ((1 : Int32).toUInt32 &&& Int32.toUInt32 31)).toInt32)) hx hb hr (fun t ht hW => ⟨_, rfl, trivial, ht⟩) (fun q h => by cases h) d_Integer_numberOfLeadingZeros_78
        · have p51 : ¬ (v32 < (16 : Int32)) := c51
          refine lv_iinc (v := 11) (lv' := [(1, .int 11), (0, .int v32)]) hx hb d_Integer_numberOfLeadingZeros_54 hl (k := 1) rfl (by decide) (by decide) rfl (fun ls hl => ?_)
          refine lv_iload_n hx hb d_Integer_numberOfLeadingZeros_57 rfl (lv_at hl 1 rfl) ?_
          refine lv_iconst (v := 4) hx hb d_Integer_numberOfLeadingZeros_58 (by decide) ?_
          refine lv_iushr (v := (v32.toUInt32 >>> ((4 : Int32).toUInt32 &&& Int32.toUInt32 31)).toInt32) hx hb d_Integer_numberOfLeadingZeros_59 rfl ?_
          refine lv_topi (fun v60 ev60 => ?_)
          refine lv_istore_n (lv' := [(0, .int v60), (1, .int 11)]) hx hb d_Integer_numberOfLeadingZeros_60 rfl hl (by decide) rfl (fun ls hl => ?_)
          refine lv_iload_n hx hb d_Integer_numberOfLeadingZeros_61 rfl (lv_at hl 0 rfl) ?_
          refine lv_iconst (v := 4) hx hb d_Integer_numberOfLeadingZeros_62 (by decide) ?_
          refine lv_icmp_lt (tgt := 73) hx hb d_Integer_numberOfLeadingZeros_63 (by decide) (fun c63 => ?_) (fun c63 => ?_)
          · have p63 : v60 < (4 : Int32) := c63
            refine lv_iload_n hx hb d_Integer_numberOfLeadingZeros_73 rfl (lv_at hl 1 rfl) ?_
            refine lv_iload_n hx hb d_Integer_numberOfLeadingZeros_74 rfl (lv_at hl 0 rfl) ?_
            refine lv_iconst (v := 1) hx hb d_Integer_numberOfLeadingZeros_75 (by decide) ?_
            refine lv_iushr (v := (v60.toUInt32 >>> ((1 : Int32).toUInt32 &&& Int32.toUInt32 31)).toInt32) hx hb d_Integer_numberOfLeadingZeros_76 rfl ?_
            refine lv_isub hx hb d_Integer_numberOfLeadingZeros_77 ?_
            exact W.iret (v := 11 - ((v60.toUInt32 >>> ((1 : Int32).toUInt32 &&& Int32.toUInt32 31)).toInt32)) hx hb hr (fun t ht hW => ⟨_, rfl, trivial, ht⟩) (fun q h => by cases h) d_Integer_numberOfLeadingZeros_78
          · have p63 : ¬ (v60 < (4 : Int32)) := c63
            refine lv_iinc (v := 9) (lv' := [(1, .int 9), (0, .int v60)]) hx hb d_Integer_numberOfLeadingZeros_66 hl (k := 1) rfl (by decide) (by decide) rfl (fun ls hl => ?_)
            refine lv_iload_n hx hb d_Integer_numberOfLeadingZeros_69 rfl (lv_at hl 1 rfl) ?_
            refine lv_iconst (v := 2) hx hb d_Integer_numberOfLeadingZeros_70 (by decide) ?_
            refine lv_iushr (v := (v60.toUInt32 >>> ((2 : Int32).toUInt32 &&& Int32.toUInt32 31)).toInt32) hx hb d_Integer_numberOfLeadingZeros_71 rfl ?_
            refine lv_topi (fun v72 ev72 => ?_)
            refine lv_istore_n (lv' := [(0, .int v72), (1, .int 9)]) hx hb d_Integer_numberOfLeadingZeros_72 rfl hl (by decide) rfl (fun ls hl => ?_)
            refine lv_iload_n hx hb d_Integer_numberOfLeadingZeros_73 rfl (lv_at hl 1 rfl) ?_
            refine lv_iload_n hx hb d_Integer_numberOfLeadingZeros_74 rfl (lv_at hl 0 rfl) ?_
            refine lv_iconst (v := 1) hx hb d_Integer_numberOfLeadingZeros_75 (by decide) ?_
            refine lv_iushr (v := (v72.toUInt32 >>> ((1 : Int32).toUInt32 &&& Int32.toUInt32 31)).toInt32) hx hb d_Integer_numberOfLeadingZeros_76 rfl ?_
            refine lv_isub hx hb d_Integer_numberOfLeadingZeros_77 ?_
            exact W.iret (v := 9 - ((v72.toUInt32 >>> ((1 : Int32).toUInt32 &&& Int32.toUInt32 31)).toInt32)) hx hb hr (fun t ht hW => ⟨_, rfl, trivial, ht⟩) (fun q h => by cases h) d_Integer_numberOfLeadingZeros_78
      · have p37 : ¬ (v32 < (256 : Int32)) := c37
        refine lv_iinc (v := 7) (lv' := [(1, .int 7), (0, .int v32)]) hx hb d_Integer_numberOfLeadingZeros_40 hl (k := 1) rfl (by decide) (by decide) rfl (fun ls hl => ?_)
        refine lv_iload_n hx hb d_Integer_numberOfLeadingZeros_43 rfl (lv_at hl 1 rfl) ?_
        refine lv_bipush (v := 8) hx hb d_Integer_numberOfLeadingZeros_44 (by decide) ?_
        refine lv_iushr (v := (v32.toUInt32 >>> ((8 : Int32).toUInt32 &&& Int32.toUInt32 31)).toInt32) hx hb d_Integer_numberOfLeadingZeros_46 rfl ?_
        refine lv_topi (fun v47 ev47 => ?_)
        refine lv_istore_n (lv' := [(0, .int v47), (1, .int 7)]) hx hb d_Integer_numberOfLeadingZeros_47 rfl hl (by decide) rfl (fun ls hl => ?_)
        refine lv_iload_n hx hb d_Integer_numberOfLeadingZeros_48 rfl (lv_at hl 0 rfl) ?_
        refine lv_bipush (v := 16) hx hb d_Integer_numberOfLeadingZeros_49 (by decide) ?_
        refine lv_icmp_lt (tgt := 61) hx hb d_Integer_numberOfLeadingZeros_51 (by decide) (fun c51 => ?_) (fun c51 => ?_)
        · have p51 : v47 < (16 : Int32) := c51
          refine lv_iload_n hx hb d_Integer_numberOfLeadingZeros_61 rfl (lv_at hl 0 rfl) ?_
          refine lv_iconst (v := 4) hx hb d_Integer_numberOfLeadingZeros_62 (by decide) ?_
          refine lv_icmp_lt (tgt := 73) hx hb d_Integer_numberOfLeadingZeros_63 (by decide) (fun c63 => ?_) (fun c63 => ?_)
          · have p63 : v47 < (4 : Int32) := c63
            refine lv_iload_n hx hb d_Integer_numberOfLeadingZeros_73 rfl (lv_at hl 1 rfl) ?_
            refine lv_iload_n hx hb d_Integer_numberOfLeadingZeros_74 rfl (lv_at hl 0 rfl) ?_
            refine lv_iconst (v := 1) hx hb d_Integer_numberOfLeadingZeros_75 (by decide) ?_
            refine lv_iushr (v := (v47.toUInt32 >>> ((1 : Int32).toUInt32 &&& Int32.toUInt32 31)).toInt32) hx hb d_Integer_numberOfLeadingZeros_76 rfl ?_
            refine lv_isub hx hb d_Integer_numberOfLeadingZeros_77 ?_
            exact W.iret (v := 7 - ((v47.toUInt32 >>> ((1 : Int32).toUInt32 &&& Int32.toUInt32 31)).toInt32)) hx hb hr (fun t ht hW => ⟨_, rfl, trivial, ht⟩) (fun q h => by cases h) d_Integer_numberOfLeadingZeros_78
          · have p63 : ¬ (v47 < (4 : Int32)) := c63
            refine lv_iinc (v := 5) (lv' := [(1, .int 5), (0, .int v47)]) hx hb d_Integer_numberOfLeadingZeros_66 hl (k := 1) rfl (by decide) (by decide) rfl (fun ls hl => ?_)
            refine lv_iload_n hx hb d_Integer_numberOfLeadingZeros_69 rfl (lv_at hl 1 rfl) ?_
            refine lv_iconst (v := 2) hx hb d_Integer_numberOfLeadingZeros_70 (by decide) ?_
            refine lv_iushr (v := (v47.toUInt32 >>> ((2 : Int32).toUInt32 &&& Int32.toUInt32 31)).toInt32) hx hb d_Integer_numberOfLeadingZeros_71 rfl ?_
            refine lv_topi (fun v72 ev72 => ?_)
            refine lv_istore_n (lv' := [(0, .int v72), (1, .int 5)]) hx hb d_Integer_numberOfLeadingZeros_72 rfl hl (by decide) rfl (fun ls hl => ?_)
            refine lv_iload_n hx hb d_Integer_numberOfLeadingZeros_73 rfl (lv_at hl 1 rfl) ?_
            refine lv_iload_n hx hb d_Integer_numberOfLeadingZeros_74 rfl (lv_at hl 0 rfl) ?_
            refine lv_iconst (v := 1) hx hb d_Integer_numberOfLeadingZeros_75 (by decide) ?_
            refine lv_iushr (v := (v72.toUInt32 >>> ((1 : Int32).toUInt32 &&& Int32.toUInt32 31)).toInt32) hx hb d_Integer_numberOfLeadingZeros_76 rfl ?_
            refine lv_isub hx hb d_Integer_numberOfLeadingZeros_77 ?_
            exact W.iret (v := 5 - ((v72.toUInt32 >>> ((1 : Int32).toUInt32 &&& Int32.toUInt32 31)).toInt32)) hx hb hr (fun t ht hW => ⟨_, rfl, trivial, ht⟩) (fun q h => by cases h) d_Integer_numberOfLeadingZeros_78
        · have p51 : ¬ (v47 < (16 : Int32)) := c51
          refine lv_iinc (v := 3) (lv' := [(1, .int 3), (0, .int v47)]) hx hb d_Integer_numberOfLeadingZeros_54 hl (k := 1) rfl (by decide) (by decide) rfl (fun ls hl => ?_)
          refine lv_iload_n hx hb d_Integer_numberOfLeadingZeros_57 rfl (lv_at hl 1 rfl) ?_
          refine lv_iconst (v := 4) hx hb d_Integer_numberOfLeadingZeros_58 (by decide) ?_
          refine lv_iushr (v := (v47.toUInt32 >>> ((4 : Int32).toUInt32 &&& Int32.toUInt32 31)).toInt32) hx hb d_Integer_numberOfLeadingZeros_59 rfl ?_
          refine lv_topi (fun v60 ev60 => ?_)
          refine lv_istore_n (lv' := [(0, .int v60), (1, .int 3)]) hx hb d_Integer_numberOfLeadingZeros_60 rfl hl (by decide) rfl (fun ls hl => ?_)
          refine lv_iload_n hx hb d_Integer_numberOfLeadingZeros_61 rfl (lv_at hl 0 rfl) ?_
          refine lv_iconst (v := 4) hx hb d_Integer_numberOfLeadingZeros_62 (by decide) ?_
          refine lv_icmp_lt (tgt := 73) hx hb d_Integer_numberOfLeadingZeros_63 (by decide) (fun c63 => ?_) (fun c63 => ?_)
          · have p63 : v60 < (4 : Int32) := c63
            refine lv_iload_n hx hb d_Integer_numberOfLeadingZeros_73 rfl (lv_at hl 1 rfl) ?_
            refine lv_iload_n hx hb d_Integer_numberOfLeadingZeros_74 rfl (lv_at hl 0 rfl) ?_
            refine lv_iconst (v := 1) hx hb d_Integer_numberOfLeadingZeros_75 (by decide) ?_
            refine lv_iushr (v := (v60.toUInt32 >>> ((1 : Int32).toUInt32 &&& Int32.toUInt32 31)).toInt32) hx hb d_Integer_numberOfLeadingZeros_76 rfl ?_
            refine lv_isub hx hb d_Integer_numberOfLeadingZeros_77 ?_
            exact W.iret (v := 3 - ((v60.toUInt32 >>> ((1 : Int32).toUInt32 &&& Int32.toUInt32 31)).toInt32)) hx hb hr (fun t ht hW => ⟨_, rfl, trivial, ht⟩) (fun q h => by cases h) d_Integer_numberOfLeadingZeros_78
          · have p63 : ¬ (v60 < (4 : Int32)) := c63
            refine lv_iinc (v := 1) (lv' := [(1, .int 1), (0, .int v60)]) hx hb d_Integer_numberOfLeadingZeros_66 hl (k := 1) rfl (by decide) (by decide) rfl (fun ls hl => ?_)
            refine lv_iload_n hx hb d_Integer_numberOfLeadingZeros_69 rfl (lv_at hl 1 rfl) ?_
            refine lv_iconst (v := 2) hx hb d_Integer_numberOfLeadingZeros_70 (by decide) ?_
            refine lv_iushr (v := (v60.toUInt32 >>> ((2 : Int32).toUInt32 &&& Int32.toUInt32 31)).toInt32) hx hb d_Integer_numberOfLeadingZeros_71 rfl ?_
            refine lv_topi (fun v72 ev72 => ?_)
            refine lv_istore_n (lv' := [(0, .int v72), (1, .int 1)]) hx hb d_Integer_numberOfLeadingZeros_72 rfl hl (by decide) rfl (fun ls hl => ?_)
            refine lv_iload_n hx hb d_Integer_numberOfLeadingZeros_73 rfl (lv_at hl 1 rfl) ?_
            refine lv_iload_n hx hb d_Integer_numberOfLeadingZeros_74 rfl (lv_at hl 0 rfl) ?_
            refine lv_iconst (v := 1) hx hb d_Integer_numberOfLeadingZeros_75 (by decide) ?_
            refine lv_iushr (v := (v72.toUInt32 >>> ((1 : Int32).toUInt32 &&& Int32.toUInt32 31)).toInt32) hx hb d_Integer_numberOfLeadingZeros_76 rfl ?_
            refine lv_isub hx hb d_Integer_numberOfLeadingZeros_77 ?_
            exact W.iret (v := 1 - ((v72.toUInt32 >>> ((1 : Int32).toUInt32 &&& Int32.toUInt32 31)).toInt32)) hx hb hr (fun t ht hW => ⟨_, rfl, trivial, ht⟩) (fun q h => by cases h) d_Integer_numberOfLeadingZeros_78
  · have p1 : ¬ ((0 : Int32) < x9) := c1
    refine lv_iload_n hx hb d_Integer_numberOfLeadingZeros_4 rfl (lv_at hl 0 rfl) ?_
    refine lv_if_ne (tgt := 13) hx hb d_Integer_numberOfLeadingZeros_5 (by decide) (fun c5 => ?_) (fun c5 => ?_)
    · have p5 : ¬ (x9 = (0 : Int32)) := c5
      refine lv_iconst (v := 0) hx hb d_Integer_numberOfLeadingZeros_13 (by decide) ?_
      exact W.iret (v := 0) hx hb hr (fun t ht hW => ⟨_, rfl, trivial, ht⟩) (fun q h => by cases h) d_Integer_numberOfLeadingZeros_14
    · have p5 : x9 = (0 : Int32) := c5
      refine lv_bipush (v := 32) hx hb d_Integer_numberOfLeadingZeros_8 (by decide) ?_
      refine lv_goto (tgt := 14) hx hb d_Integer_numberOfLeadingZeros_10 (by decide) ?_
      exact W.iret (v := 32) hx hb hr (fun t ht hW => ⟨_, rfl, trivial, ht⟩) (fun q h => by cases h) d_Integer_numberOfLeadingZeros_14
def y_Model_isSigned : MethodName := ⟨"TrustChainModel", "isSigned", "(LTrustChainModel$Text;LTrustChainModel$Text;)Z"⟩
abbrev b_Model_isSigned : ByteArray := prog_14_method_28_code
def w_Model_isSigned : List Cond := Cond.code y_Model_isSigned b_Model_isSigned 14 ((some FieldType.boolean)) :: tb
theorem d_Model_isSigned_0 : decode b_Model_isSigned 0 = .ok (.aload_n 2, 1) := by decide +kernel
theorem d_Model_isSigned_1 : decode b_Model_isSigned 1 = .ok (.getfield 220, 3) := by decide +kernel
theorem d_Model_isSigned_4 : decode b_Model_isSigned 4 = .ok (.aload_n 2, 1) := by decide +kernel
theorem d_Model_isSigned_5 : decode b_Model_isSigned 5 = .ok (.getfield 223, 3) := by decide +kernel
theorem d_Model_isSigned_8 : decode b_Model_isSigned 8 = .ok (.isub, 1) := by decide +kernel
theorem d_Model_isSigned_9 : decode b_Model_isSigned 9 = .ok (.istore_n 3, 1) := by decide +kernel
theorem d_Model_isSigned_10 : decode b_Model_isSigned 10 = .ok (.aload_n 1, 1) := by decide +kernel
theorem d_Model_isSigned_11 : decode b_Model_isSigned 11 = .ok (.getfield 276, 3) := by decide +kernel
theorem d_Model_isSigned_14 : decode b_Model_isSigned 14 = .ok (.aload_n 1, 1) := by decide +kernel
theorem d_Model_isSigned_15 : decode b_Model_isSigned 15 = .ok (.getfield 279, 3) := by decide +kernel
theorem d_Model_isSigned_18 : decode b_Model_isSigned 18 = .ok (.isub, 1) := by decide +kernel
theorem d_Model_isSigned_19 : decode b_Model_isSigned 19 = .ok (.iload_n 3, 1) := by decide +kernel
theorem d_Model_isSigned_20 : decode b_Model_isSigned 20 = .ok (.if_icmp .eq 5, 3) := by decide +kernel
theorem d_Model_isSigned_23 : decode b_Model_isSigned 23 = .ok (.iconst 0, 1) := by decide +kernel
theorem d_Model_isSigned_24 : decode b_Model_isSigned 24 = .ok (.ireturn, 1) := by decide +kernel
theorem d_Model_isSigned_25 : decode b_Model_isSigned 25 = .ok (.aload_n 2, 1) := by decide +kernel
theorem d_Model_isSigned_26 : decode b_Model_isSigned 26 = .ok (.aload_n 2, 1) := by decide +kernel
theorem d_Model_isSigned_27 : decode b_Model_isSigned 27 = .ok (.getfield 223, 3) := by decide +kernel
theorem d_Model_isSigned_30 : decode b_Model_isSigned 30 = .ok (.aload_n 2, 1) := by decide +kernel
theorem d_Model_isSigned_31 : decode b_Model_isSigned 31 = .ok (.getfield 220, 3) := by decide +kernel
theorem d_Model_isSigned_34 : decode b_Model_isSigned 34 = .ok (.aload_n 0, 1) := by decide +kernel
theorem d_Model_isSigned_35 : decode b_Model_isSigned 35 = .ok (.getfield 127, 3) := by decide +kernel
theorem d_Model_isSigned_38 : decode b_Model_isSigned 38 = .ok (.invokestatic 282, 3) := by decide +kernel
theorem d_Model_isSigned_41 : decode b_Model_isSigned 41 = .ok (.istore 4, 2) := by decide +kernel
theorem d_Model_isSigned_43 : decode b_Model_isSigned 43 = .ok (.aload_n 1, 1) := by decide +kernel
theorem d_Model_isSigned_44 : decode b_Model_isSigned 44 = .ok (.aload_n 1, 1) := by decide +kernel
theorem d_Model_isSigned_45 : decode b_Model_isSigned 45 = .ok (.getfield 279, 3) := by decide +kernel
theorem d_Model_isSigned_48 : decode b_Model_isSigned 48 = .ok (.aload_n 1, 1) := by decide +kernel
theorem d_Model_isSigned_49 : decode b_Model_isSigned 49 = .ok (.getfield 276, 3) := by decide +kernel
theorem d_Model_isSigned_52 : decode b_Model_isSigned 52 = .ok (.aload_n 0, 1) := by decide +kernel
theorem d_Model_isSigned_53 : decode b_Model_isSigned 53 = .ok (.getfield 121, 3) := by decide +kernel
theorem d_Model_isSigned_56 : decode b_Model_isSigned 56 = .ok (.invokestatic 282, 3) := by decide +kernel
theorem d_Model_isSigned_59 : decode b_Model_isSigned 59 = .ok (.istore 5, 2) := by decide +kernel
theorem d_Model_isSigned_61 : decode b_Model_isSigned 61 = .ok (.iconst 1, 1) := by decide +kernel
theorem d_Model_isSigned_62 : decode b_Model_isSigned 62 = .ok (.istore 6, 2) := by decide +kernel
theorem d_Model_isSigned_64 : decode b_Model_isSigned 64 = .ok (.aload_n 0, 1) := by decide +kernel
theorem d_Model_isSigned_65 : decode b_Model_isSigned 65 = .ok (.getfield 121, 3) := by decide +kernel
theorem d_Model_isSigned_68 : decode b_Model_isSigned 68 = .ok (.iload 5, 2) := by decide +kernel
theorem d_Model_isSigned_70 : decode b_Model_isSigned 70 = .ok (.aload_n 0, 1) := by decide +kernel
theorem d_Model_isSigned_71 : decode b_Model_isSigned 71 = .ok (.getfield 127, 3) := by decide +kernel
theorem d_Model_isSigned_74 : decode b_Model_isSigned 74 = .ok (.iload 4, 2) := by decide +kernel
theorem d_Model_isSigned_76 : decode b_Model_isSigned 76 = .ok (.invokestatic 155, 3) := by decide +kernel
theorem d_Model_isSigned_79 : decode b_Model_isSigned 79 = .ok (.ifCond .lt 5, 3) := by decide +kernel
theorem d_Model_isSigned_82 : decode b_Model_isSigned 82 = .ok (.iconst 0, 1) := by decide +kernel
theorem d_Model_isSigned_83 : decode b_Model_isSigned 83 = .ok (.ireturn, 1) := by decide +kernel
theorem d_Model_isSigned_84 : decode b_Model_isSigned 84 = .ok (.aload_n 0, 1) := by decide +kernel
theorem d_Model_isSigned_85 : decode b_Model_isSigned 85 = .ok (.getfield 124, 3) := by decide +kernel
theorem d_Model_isSigned_88 : decode b_Model_isSigned 88 = .ok (.iconst 0, 1) := by decide +kernel
theorem d_Model_isSigned_89 : decode b_Model_isSigned 89 = .ok (.iconst 1, 1) := by decide +kernel
theorem d_Model_isSigned_90 : decode b_Model_isSigned 90 = .ok (.iastore, 1) := by decide +kernel
theorem d_Model_isSigned_91 : decode b_Model_isSigned 91 = .ok (.bipush 31, 2) := by decide +kernel
theorem d_Model_isSigned_93 : decode b_Model_isSigned 93 = .ok (.aload_n 2, 1) := by decide +kernel
theorem d_Model_isSigned_94 : decode b_Model_isSigned 94 = .ok (.getfield 226, 3) := by decide +kernel
theorem d_Model_isSigned_97 : decode b_Model_isSigned 97 = .ok (.invokestatic 286, 3) := by decide +kernel
theorem d_Model_isSigned_100 : decode b_Model_isSigned 100 = .ok (.isub, 1) := by decide +kernel
theorem d_Model_isSigned_101 : decode b_Model_isSigned 101 = .ok (.istore 7, 2) := by decide +kernel
theorem d_Model_isSigned_103 : decode b_Model_isSigned 103 = .ok (.iload 7, 2) := by decide +kernel
theorem d_Model_isSigned_105 : decode b_Model_isSigned 105 = .ok (.ifCond .lt 61, 3) := by decide +kernel
theorem d_Model_isSigned_108 : decode b_Model_isSigned 108 = .ok (.aload_n 0, 1) := by decide +kernel
theorem d_Model_isSigned_109 : decode b_Model_isSigned 109 = .ok (.aload_n 0, 1) := by decide +kernel
theorem d_Model_isSigned_110 : decode b_Model_isSigned 110 = .ok (.getfield 124, 3) := by decide +kernel
theorem d_Model_isSigned_113 : decode b_Model_isSigned 113 = .ok (.iload 6, 2) := by decide +kernel
theorem d_Model_isSigned_115 : decode b_Model_isSigned 115 = .ok (.aload_n 0, 1) := by decide +kernel
theorem d_Model_isSigned_116 : decode b_Model_isSigned 116 = .ok (.getfield 124, 3) := by decide +kernel
theorem d_Model_isSigned_119 : decode b_Model_isSigned 119 = .ok (.iload 6, 2) := by decide +kernel
theorem d_Model_isSigned_121 : decode b_Model_isSigned 121 = .ok (.iload 4, 2) := by decide +kernel
theorem d_Model_isSigned_123 : decode b_Model_isSigned 123 = .ok (.invokevirtual 292, 3) := by decide +kernel
theorem d_Model_isSigned_126 : decode b_Model_isSigned 126 = .ok (.istore 6, 2) := by decide +kernel
theorem d_Model_isSigned_128 : decode b_Model_isSigned 128 = .ok (.aload_n 2, 1) := by decide +kernel
theorem d_Model_isSigned_129 : decode b_Model_isSigned 129 = .ok (.getfield 226, 3) := by decide +kernel
theorem d_Model_isSigned_132 : decode b_Model_isSigned 132 = .ok (.iload 7, 2) := by decide +kernel
theorem d_Model_isSigned_134 : decode b_Model_isSigned 134 = .ok (.ishr, 1) := by decide +kernel
theorem d_Model_isSigned_135 : decode b_Model_isSigned 135 = .ok (.iconst 1, 1) := by decide +kernel
theorem d_Model_isSigned_136 : decode b_Model_isSigned 136 = .ok (.iand, 1) := by decide +kernel
theorem d_Model_isSigned_137 : decode b_Model_isSigned 137 = .ok (.ifCond .eq 23, 3) := by decide +kernel
theorem d_Model_isSigned_140 : decode b_Model_isSigned 140 = .ok (.aload_n 0, 1) := by decide +kernel
theorem d_Model_isSigned_141 : decode b_Model_isSigned 141 = .ok (.aload_n 0, 1) := by decide +kernel
theorem d_Model_isSigned_142 : decode b_Model_isSigned 142 = .ok (.getfield 124, 3) := by decide +kernel
theorem d_Model_isSigned_145 : decode b_Model_isSigned 145 = .ok (.iload 6, 2) := by decide +kernel
theorem d_Model_isSigned_147 : decode b_Model_isSigned 147 = .ok (.aload_n 0, 1) := by decide +kernel
theorem d_Model_isSigned_148 : decode b_Model_isSigned 148 = .ok (.getfield 121, 3) := by decide +kernel
theorem d_Model_isSigned_151 : decode b_Model_isSigned 151 = .ok (.iload 5, 2) := by decide +kernel
theorem d_Model_isSigned_153 : decode b_Model_isSigned 153 = .ok (.iload 4, 2) := by decide +kernel
theorem d_Model_isSigned_155 : decode b_Model_isSigned 155 = .ok (.invokevirtual 292, 3) := by decide +kernel
theorem d_Model_isSigned_158 : decode b_Model_isSigned 158 = .ok (.istore 6, 2) := by decide +kernel
theorem d_Model_isSigned_160 : decode b_Model_isSigned 160 = .ok (.iinc 7 (-1), 3) := by decide +kernel
theorem d_Model_isSigned_163 : decode b_Model_isSigned 163 = .ok (.goto (-60), 3) := by decide +kernel
theorem d_Model_isSigned_166 : decode b_Model_isSigned 166 = .ok (.aload_n 0, 1) := by decide +kernel
theorem d_Model_isSigned_167 : decode b_Model_isSigned 167 = .ok (.aload_n 1, 1) := by decide +kernel
theorem d_Model_isSigned_168 : decode b_Model_isSigned 168 = .ok (.invokevirtual 272, 3) := by decide +kernel
theorem d_Model_isSigned_171 : decode b_Model_isSigned 171 = .ok (.ldc_w 296, 3) := by decide +kernel
theorem d_Model_isSigned_174 : decode b_Model_isSigned 174 = .ok (.astore 7, 2) := by decide +kernel
theorem d_Model_isSigned_176 : decode b_Model_isSigned 176 = .ok (.iload_n 3, 1) := by decide +kernel
theorem d_Model_isSigned_177 : decode b_Model_isSigned 177 = .ok (.iconst 3, 1) := by decide +kernel
theorem d_Model_isSigned_178 : decode b_Model_isSigned 178 = .ok (.isub, 1) := by decide +kernel
theorem d_Model_isSigned_179 : decode b_Model_isSigned 179 = .ok (.bipush 19, 2) := by decide +kernel
theorem d_Model_isSigned_181 : decode b_Model_isSigned 181 = .ok (.isub, 1) := by decide +kernel
theorem d_Model_isSigned_182 : decode b_Model_isSigned 182 = .ok (.bipush 32, 2) := by decide +kernel
theorem d_Model_isSigned_184 : decode b_Model_isSigned 184 = .ok (.isub, 1) := by decide +kernel
theorem d_Model_isSigned_185 : decode b_Model_isSigned 185 = .ok (.istore 8, 2) := by decide +kernel
theorem d_Model_isSigned_187 : decode b_Model_isSigned 187 = .ok (.iload 8, 2) := by decide +kernel
theorem d_Model_isSigned_189 : decode b_Model_isSigned 189 = .ok (.bipush 8, 2) := by decide +kernel
theorem d_Model_isSigned_191 : decode b_Model_isSigned 191 = .ok (.if_icmp .ge 5, 3) := by decide +kernel
theorem d_Model_isSigned_194 : decode b_Model_isSigned 194 = .ok (.iconst 0, 1) := by decide +kernel
theorem d_Model_isSigned_195 : decode b_Model_isSigned 195 = .ok (.ireturn, 1) := by decide +kernel
theorem d_Model_isSigned_196 : decode b_Model_isSigned 196 = .ok (.iconst 0, 1) := by decide +kernel
theorem d_Model_isSigned_197 : decode b_Model_isSigned 197 = .ok (.istore 9, 2) := by decide +kernel
theorem d_Model_isSigned_199 : decode b_Model_isSigned 199 = .ok (.iload 9, 2) := by decide +kernel
theorem d_Model_isSigned_201 : decode b_Model_isSigned 201 = .ok (.iload_n 3, 1) := by decide +kernel
theorem d_Model_isSigned_202 : decode b_Model_isSigned 202 = .ok (.if_icmp .ge 209, 3) := by decide +kernel
theorem d_Model_isSigned_205 : decode b_Model_isSigned 205 = .ok (.iload_n 3, 1) := by decide +kernel
theorem d_Model_isSigned_206 : decode b_Model_isSigned 206 = .ok (.iconst 1, 1) := by decide +kernel
theorem d_Model_isSigned_207 : decode b_Model_isSigned 207 = .ok (.isub, 1) := by decide +kernel
theorem d_Model_isSigned_208 : decode b_Model_isSigned 208 = .ok (.iload 9, 2) := by decide +kernel
theorem d_Model_isSigned_210 : decode b_Model_isSigned 210 = .ok (.isub, 1) := by decide +kernel
theorem d_Model_isSigned_211 : decode b_Model_isSigned 211 = .ok (.istore 10, 2) := by decide +kernel
theorem d_Model_isSigned_213 : decode b_Model_isSigned 213 = .ok (.iload 10, 2) := by decide +kernel
theorem d_Model_isSigned_215 : decode b_Model_isSigned 215 = .ok (.iconst 1, 1) := by decide +kernel
theorem d_Model_isSigned_216 : decode b_Model_isSigned 216 = .ok (.ishr, 1) := by decide +kernel
theorem d_Model_isSigned_217 : decode b_Model_isSigned 217 = .ok (.iload 6, 2) := by decide +kernel
theorem d_Model_isSigned_219 : decode b_Model_isSigned 219 = .ok (.if_icmp .ge 27, 3) := by decide +kernel
theorem d_Model_isSigned_222 : decode b_Model_isSigned 222 = .ok (.aload_n 0, 1) := by decide +kernel
theorem d_Model_isSigned_223 : decode b_Model_isSigned 223 = .ok (.getfield 124, 3) := by decide +kernel
theorem d_Model_isSigned_226 : decode b_Model_isSigned 226 = .ok (.iload 10, 2) := by decide +kernel
theorem d_Model_isSigned_228 : decode b_Model_isSigned 228 = .ok (.iconst 1, 1) := by decide +kernel
theorem d_Model_isSigned_229 : decode b_Model_isSigned 229 = .ok (.ishr, 1) := by decide +kernel
theorem d_Model_isSigned_230 : decode b_Model_isSigned 230 = .ok (.iaload, 1) := by decide +kernel
theorem d_Model_isSigned_231 : decode b_Model_isSigned 231 = .ok (.bipush 8, 2) := by decide +kernel
theorem d_Model_isSigned_233 : decode b_Model_isSigned 233 = .ok (.iload 10, 2) := by decide +kernel
theorem d_Model_isSigned_235 : decode b_Model_isSigned 235 = .ok (.iconst 1, 1) := by decide +kernel
theorem d_Model_isSigned_236 : decode b_Model_isSigned 236 = .ok (.iand, 1) := by decide +kernel
theorem d_Model_isSigned_237 : decode b_Model_isSigned 237 = .ok (.imul, 1) := by decide +kernel
theorem d_Model_isSigned_238 : decode b_Model_isSigned 238 = .ok (.ishr, 1) := by decide +kernel
theorem d_Model_isSigned_239 : decode b_Model_isSigned 239 = .ok (.sipush 255, 3) := by decide +kernel
theorem d_Model_isSigned_242 : decode b_Model_isSigned 242 = .ok (.iand, 1) := by decide +kernel
theorem d_Model_isSigned_243 : decode b_Model_isSigned 243 = .ok (.goto 4, 3) := by decide +kernel
theorem d_Model_isSigned_246 : decode b_Model_isSigned 246 = .ok (.iconst 0, 1) := by decide +kernel
theorem d_Model_isSigned_247 : decode b_Model_isSigned 247 = .ok (.istore 11, 2) := by decide +kernel
theorem d_Model_isSigned_249 : decode b_Model_isSigned 249 = .ok (.iload 9, 2) := by decide +kernel
theorem d_Model_isSigned_251 : decode b_Model_isSigned 251 = .ok (.ifCond .ne 9, 3) := by decide +kernel
theorem d_Model_isSigned_254 : decode b_Model_isSigned 254 = .ok (.iconst 0, 1) := by decide +kernel
theorem d_Model_isSigned_255 : decode b_Model_isSigned 255 = .ok (.istore 12, 2) := by decide +kernel
theorem d_Model_isSigned_257 : decode b_Model_isSigned 257 = .ok (.goto 139, 3) := by decide +kernel
theorem d_Model_isSigned_260 : decode b_Model_isSigned 260 = .ok (.iload 9, 2) := by decide +kernel
theorem d_Model_isSigned_262 : decode b_Model_isSigned 262 = .ok (.iconst 1, 1) := by decide +kernel
theorem d_Model_isSigned_263 : decode b_Model_isSigned 263 = .ok (.if_icmp .ne 9, 3) := by decide +kernel
theorem d_Model_isSigned_266 : decode b_Model_isSigned 266 = .ok (.iconst 1, 1) := by decide +kernel
theorem d_Model_isSigned_267 : decode b_Model_isSigned 267 = .ok (.istore 12, 2) := by decide +kernel
theorem d_Model_isSigned_269 : decode b_Model_isSigned 269 = .ok (.goto 127, 3) := by decide +kernel
theorem d_Model_isSigned_272 : decode b_Model_isSigned 272 = .ok (.iload 9, 2) := by decide +kernel
theorem d_Model_isSigned_274 : decode b_Model_isSigned 274 = .ok (.iconst 2, 1) := by decide +kernel
theorem d_Model_isSigned_275 : decode b_Model_isSigned 275 = .ok (.iload 8, 2) := by decide +kernel
theorem d_Model_isSigned_277 : decode b_Model_isSigned 277 = .ok (.iadd, 1) := by decide +kernel
theorem d_Model_isSigned_278 : decode b_Model_isSigned 278 = .ok (.if_icmp .ge 11, 3) := by decide +kernel
theorem d_Model_isSigned_281 : decode b_Model_isSigned 281 = .ok (.sipush 255, 3) := by decide +kernel
theorem d_Model_isSigned_284 : decode b_Model_isSigned 284 = .ok (.istore 12, 2) := by decide +kernel
theorem d_Model_isSigned_286 : decode b_Model_isSigned 286 = .ok (.goto 110, 3) := by decide +kernel
theorem d_Model_isSigned_289 : decode b_Model_isSigned 289 = .ok (.iload 9, 2) := by decide +kernel
theorem d_Model_isSigned_291 : decode b_Model_isSigned 291 = .ok (.iconst 2, 1) := by decide +kernel
theorem d_Model_isSigned_292 : decode b_Model_isSigned 292 = .ok (.iload 8, 2) := by decide +kernel
theorem d_Model_isSigned_294 : decode b_Model_isSigned 294 = .ok (.iadd, 1) := by decide +kernel
theorem d_Model_isSigned_295 : decode b_Model_isSigned 295 = .ok (.if_icmp .ne 9, 3) := by decide +kernel
theorem d_Model_isSigned_298 : decode b_Model_isSigned 298 = .ok (.iconst 0, 1) := by decide +kernel
theorem d_Model_isSigned_299 : decode b_Model_isSigned 299 = .ok (.istore 12, 2) := by decide +kernel
theorem d_Model_isSigned_301 : decode b_Model_isSigned 301 = .ok (.goto 95, 3) := by decide +kernel
theorem d_Model_isSigned_304 : decode b_Model_isSigned 304 = .ok (.iload 9, 2) := by decide +kernel
theorem d_Model_isSigned_306 : decode b_Model_isSigned 306 = .ok (.iconst 3, 1) := by decide +kernel
theorem d_Model_isSigned_307 : decode b_Model_isSigned 307 = .ok (.iload 8, 2) := by decide +kernel
theorem d_Model_isSigned_309 : decode b_Model_isSigned 309 = .ok (.iadd, 1) := by decide +kernel
theorem d_Model_isSigned_310 : decode b_Model_isSigned 310 = .ok (.bipush 19, 2) := by decide +kernel
theorem d_Model_isSigned_312 : decode b_Model_isSigned 312 = .ok (.iadd, 1) := by decide +kernel
theorem d_Model_isSigned_313 : decode b_Model_isSigned 313 = .ok (.if_icmp .ge 47, 3) := by decide +kernel
theorem d_Model_isSigned_316 : decode b_Model_isSigned 316 = .ok (.iload 9, 2) := by decide +kernel
theorem d_Model_isSigned_318 : decode b_Model_isSigned 318 = .ok (.iconst 3, 1) := by decide +kernel
theorem d_Model_isSigned_319 : decode b_Model_isSigned 319 = .ok (.isub, 1) := by decide +kernel
theorem d_Model_isSigned_320 : decode b_Model_isSigned 320 = .ok (.iload 8, 2) := by decide +kernel
theorem d_Model_isSigned_322 : decode b_Model_isSigned 322 = .ok (.isub, 1) := by decide +kernel
theorem d_Model_isSigned_323 : decode b_Model_isSigned 323 = .ok (.istore 13, 2) := by decide +kernel
theorem d_Model_isSigned_325 : decode b_Model_isSigned 325 = .ok (.bipush 16, 2) := by decide +kernel
theorem d_Model_isSigned_327 : decode b_Model_isSigned 327 = .ok (.aload 7, 2) := by decide +kernel
theorem d_Model_isSigned_329 : decode b_Model_isSigned 329 = .ok (.iconst 2, 1) := by decide +kernel
theorem d_Model_isSigned_330 : decode b_Model_isSigned 330 = .ok (.iload 13, 2) := by decide +kernel
theorem d_Model_isSigned_332 : decode b_Model_isSigned 332 = .ok (.imul, 1) := by decide +kernel
theorem d_Model_isSigned_333 : decode b_Model_isSigned 333 = .ok (.invokevirtual 169, 3) := by decide +kernel
theorem d_Model_isSigned_336 : decode b_Model_isSigned 336 = .ok (.invokestatic 298, 3) := by decide +kernel
theorem d_Model_isSigned_339 : decode b_Model_isSigned 339 = .ok (.imul, 1) := by decide +kernel
theorem d_Model_isSigned_340 : decode b_Model_isSigned 340 = .ok (.aload 7, 2) := by decide +kernel
theorem d_Model_isSigned_342 : decode b_Model_isSigned 342 = .ok (.iconst 2, 1) := by decide +kernel
theorem d_Model_isSigned_343 : decode b_Model_isSigned 343 = .ok (.iload 13, 2) := by decide +kernel
theorem d_Model_isSigned_345 : decode b_Model_isSigned 345 = .ok (.imul, 1) := by decide +kernel
theorem d_Model_isSigned_346 : decode b_Model_isSigned 346 = .ok (.iconst 1, 1) := by decide +kernel
theorem d_Model_isSigned_347 : decode b_Model_isSigned 347 = .ok (.iadd, 1) := by decide +kernel
theorem d_Model_isSigned_348 : decode b_Model_isSigned 348 = .ok (.invokevirtual 169, 3) := by decide +kernel
theorem d_Model_isSigned_351 : decode b_Model_isSigned 351 = .ok (.invokestatic 298, 3) := by decide +kernel
theorem d_Model_isSigned_354 : decode b_Model_isSigned 354 = .ok (.iadd, 1) := by decide +kernel
theorem d_Model_isSigned_355 : decode b_Model_isSigned 355 = .ok (.istore 12, 2) := by decide +kernel
theorem d_Model_isSigned_357 : decode b_Model_isSigned 357 = .ok (.goto 39, 3) := by decide +kernel
theorem d_Model_isSigned_360 : decode b_Model_isSigned 360 = .ok (.iload 9, 2) := by decide +kernel
theorem d_Model_isSigned_362 : decode b_Model_isSigned 362 = .ok (.bipush 22, 2) := by decide +kernel
theorem d_Model_isSigned_364 : decode b_Model_isSigned 364 = .ok (.isub, 1) := by decide +kernel
theorem d_Model_isSigned_365 : decode b_Model_isSigned 365 = .ok (.iload 8, 2) := by decide +kernel
theorem d_Model_isSigned_367 : decode b_Model_isSigned 367 = .ok (.isub, 1) := by decide +kernel
theorem d_Model_isSigned_368 : decode b_Model_isSigned 368 = .ok (.istore 13, 2) := by decide +kernel
theorem d_Model_isSigned_370 : decode b_Model_isSigned 370 = .ok (.aload_n 0, 1) := by decide +kernel
theorem d_Model_isSigned_371 : decode b_Model_isSigned 371 = .ok (.getfield 40, 3) := by decide +kernel
theorem d_Model_isSigned_374 : decode b_Model_isSigned 374 = .ok (.iload 13, 2) := by decide +kernel
theorem d_Model_isSigned_376 : decode b_Model_isSigned 376 = .ok (.iconst 2, 1) := by decide +kernel
theorem d_Model_isSigned_377 : decode b_Model_isSigned 377 = .ok (.ishr, 1) := by decide +kernel
theorem d_Model_isSigned_378 : decode b_Model_isSigned 378 = .ok (.iaload, 1) := by decide +kernel
theorem d_Model_isSigned_379 : decode b_Model_isSigned 379 = .ok (.bipush 24, 2) := by decide +kernel
theorem d_Model_isSigned_381 : decode b_Model_isSigned 381 = .ok (.bipush 8, 2) := by decide +kernel
theorem d_Model_isSigned_383 : decode b_Model_isSigned 383 = .ok (.iload 13, 2) := by decide +kernel
theorem d_Model_isSigned_385 : decode b_Model_isSigned 385 = .ok (.iconst 3, 1) := by decide +kernel
theorem d_Model_isSigned_386 : decode b_Model_isSigned 386 = .ok (.iand, 1) := by decide +kernel
theorem d_Model_isSigned_387 : decode b_Model_isSigned 387 = .ok (.imul, 1) := by decide +kernel
theorem d_Model_isSigned_388 : decode b_Model_isSigned 388 = .ok (.isub, 1) := by decide +kernel
theorem d_Model_isSigned_389 : decode b_Model_isSigned 389 = .ok (.ishr, 1) := by decide +kernel
theorem d_Model_isSigned_390 : decode b_Model_isSigned 390 = .ok (.sipush 255, 3) := by decide +kernel
theorem d_Model_isSigned_393 : decode b_Model_isSigned 393 = .ok (.iand, 1) := by decide +kernel
theorem d_Model_isSigned_394 : decode b_Model_isSigned 394 = .ok (.istore 12, 2) := by decide +kernel
theorem d_Model_isSigned_396 : decode b_Model_isSigned 396 = .ok (.iload 11, 2) := by decide +kernel
theorem d_Model_isSigned_398 : decode b_Model_isSigned 398 = .ok (.iload 12, 2) := by decide +kernel
theorem d_Model_isSigned_400 : decode b_Model_isSigned 400 = .ok (.if_icmp .eq 5, 3) := by decide +kernel
theorem d_Model_isSigned_403 : decode b_Model_isSigned 403 = .ok (.iconst 0, 1) := by decide +kernel
theorem d_Model_isSigned_404 : decode b_Model_isSigned 404 = .ok (.ireturn, 1) := by decide +kernel
theorem d_Model_isSigned_405 : decode b_Model_isSigned 405 = .ok (.iinc 9 1, 3) := by decide +kernel
theorem d_Model_isSigned_408 : decode b_Model_isSigned 408 = .ok (.goto (-209), 3) := by decide +kernel
theorem d_Model_isSigned_411 : decode b_Model_isSigned 411 = .ok (.iconst 1, 1) := by decide +kernel
theorem d_Model_isSigned_412 : decode b_Model_isSigned 412 = .ok (.ireturn, 1) := by decide +kernel
set_option maxHeartbeats 4000000 in
set_option maxRecDepth 100000 in
theorem m_Model_isSigned (l : Launch) (dC : Nat → ClassId) (dI : Nat → Nat → Nat) (sb : sB) (γ : cG) (κ : kE) (Ad : List Nat) (τ : Nat → TD) (gT : ClassId) (G : va_W) (mo t t2 : Nat) (moc msT mrV msP mrA mbA mwA mhA mfA mpA mxA myA mmA mqA mzA mwy mfd : Nat) (mer mfed mwr mct mls mqs msz mcz mch mft mpt mdp mvd mmk : Int32) (mnw : Int64) (fm fr : Nat → Int32) (sz : Nat) (hTy : TR γ κ Ad τ G) (kmo : Xc Ad mo (.inr (12, (.int mer :: .int mfed :: .int mwr :: .int mct :: .int mls :: .ref moc :: .ref msT :: .ref mrV :: .ref msP :: .int mqs :: .ref mrA :: .ref mbA :: .ref mwA :: .ref mhA :: .ref mfA :: .ref mpA :: .ref mxA :: .ref myA :: .ref mmA :: .ref mqA :: .ref mzA :: .ref mwy :: .ref mfd :: .int msz :: .int mcz :: .int mch :: .int mft :: .int mpt :: .int mdp :: .int mvd :: .long mnw :: .int mmk :: []))) G) (kt : tK κ Ad t (20, 0, 0)) (kt2 : tK κ Ad t2 (20, 0, 0)) (kmmA : Xc Ad mmA (.inl (γ.2.1, 600, .inl fm)) G) (kmrA : Xc Ad mrA (.inl (γ.2.1, 600, .inl fr)) G) (kmzA : tK κ Ad mzA (6, 600, 0)) (kmqA : tK κ Ad mqA (6, 600, 0)) (kmyA : tK κ Ad myA (6, 600, 0)) (kmxA : tK κ Ad mxA (6, 600, 0)) (kmbA : tK κ Ad mbA (6, 2176, 0)) (kmwA : tK κ Ad mwA (6, 64, 0)) (kmhA : tK κ Ad mhA (6, 8, 0)) (kmpA : tK κ Ad mpA (6, 64, 0)) (kmfA : tK κ Ad mfA (6, 8, 0)) (hx_mo_mmA : mo ≠ mmA) (hx_mo_mrA : mo ≠ mrA) (hx_mmA_mrA : mmA ≠ mrA) (hc_t : TB (τ t)) (hc_t2 : TC (τ t2)) : Met l y_Model_isSigned w_Model_isSigned ({ frames := 5, cells := 0, slots := 0, locals := 106 }) (mu_P [.ref mo, .ref t, .ref t2] (dC, dI) sb G [(γ.1, .byte), (γ.2.1, .int), (γ.2.2.1, .long), (γ.2.2.2, .object "java/lang/Object"), (gT, .object "TrustChainModel$Text")] sz) (va_Qi (fun r (G' : va_W) => TR γ κ Ad τ G' ∧ FL Ad [mo, mmA, mrA] G G' ∧ (bz r (r = 1) ∧ (∃ q9 : Int32, Xc Ad mo (.inr (12, (.int mer :: .int mfed :: .int mwr :: .int mct :: .int mls :: .ref moc :: .ref msT :: .ref mrV :: .ref msP :: .int q9 :: .ref mrA :: .ref mbA :: .ref mwA :: .ref mhA :: .ref mfA :: .ref mpA :: .ref mxA :: .ref myA :: .ref mmA :: .ref mqA :: .ref mzA :: .ref mwy :: .ref mfd :: .int msz :: .int mcz :: .int mch :: .int mft :: .int mpt :: .int mdp :: .int mvd :: .long mnw :: .int mmk :: []))) G') ∧ (∃ f9 : Nat → Int32, Xc Ad mmA (.inl (γ.2.1, 600, .inl f9)) G') ∧ (∃ f9 : Nat → Int32, Xc Ad mrA (.inl (γ.2.1, 600, .inl f9)) G'))) (mu_B (dC, dI) [(γ.1, .byte), (γ.2.1, .int), (γ.2.2.1, .long), (γ.2.2.2, .object "java/lang/Object"), (gT, .object "TrustChainModel$Text")] (va_A G sz) (fun G' : va_W => G')) (va_A G sz)) 0 0 (va_A G sz) := by
  refine Met.ofW (cc := b_Model_isSigned) (maxL := 14) (ret := (some FieldType.boolean)) (by decide) rfl ?_
  intro p e s m args below meth c s₁ B hml hv
  obtain ⟨rfl, hsz, hB0, hP, hK, hD0, hN, hT0⟩ := hv
  have hx := B.exec
  have hb := B.bytes
  have hr := B.returns
  have hts := atoms_spec (ws := w_Model_isSigned) B.pre
  have tbin : ∀ w ∈ tb, w ∈ w_Model_isSigned := fun w h => List.mem_cons_of_mem _ h
  have htb : ∀ w ∈ tb, w.before _ s = true := fun w h => hts w (tbin w h)
  have hown : s.vm.findClass "TrustChainModel" = some m.cls := findClass_of_methodNamed B.named
  have hlocks := B.notSynchronized
  subst hsz
  have hD := hD0.self (sz := s.heap.size)
  generalize hAe : va_A G s.heap.size = A at hD ⊢
  have hA : ∀ q : Nat, s.heap.size ≤ q → A q := fun q h => by rw [← hAe]; exact Or.inr h
  have hAs : ∀ q : Nat, A q → sb.1 ≤ q := fun q h => by
    rw [← hAe] at h
    rcases h with ⟨k, e, h⟩ | h
    · exact hD0.2 k _ h
    · exact Nat.le_trans hB0 h
  have hS : va_S A s.heap s.heap [] := va_S.rf
  have hFR := FL.rf Ad [mo, mmA, mrA] G
  have hcs : 0 ≤ (headSpec w_Model_isSigned ({ frames := 5, cells := 0, slots := 0, locals := 106 })).room.cells ∧ 0 ≤ (headSpec w_Model_isSigned ({ frames := 5, cells := 0, slots := 0, locals := 106 })).room.slots := ⟨Nat.le_refl _, Nat.le_refl _⟩
  have hP : va_P (dC, dI) classes G s.heap := hP
  have hl := lv_entry ([.ref mo, .ref t, .ref t2]) (n := 14) (Nat.le_of_ble_eq_true rfl)
  rw [lg_entry_eq]
  generalize (lg_sl ([.ref mo, .ref t, .ref t2]) ++ List.replicate (14 - (lg_sl ([.ref mo, .ref t, .ref t2])).length) Slot.unset).toArray = ls at hl ⊢
  have hl : lv_has ls 14 [(0, .ref mo), (1, .ref t), (2, .ref t2)] := hl
  obtain ⟨cX_mo, eX_mo⟩ : ∃ z : va_E, z = .inr (12, (.int mer :: .int mfed :: .int mwr :: .int mct :: .int mls :: .ref moc :: .ref msT :: .ref mrV :: .ref msP :: .int mqs :: .ref mrA :: .ref mbA :: .ref mwA :: .ref mhA :: .ref mfA :: .ref mpA :: .ref mxA :: .ref myA :: .ref mmA :: .ref mqA :: .ref mzA :: .ref mwy :: .ref mfd :: .int msz :: .int mcz :: .int mch :: .int mft :: .int mpt :: .int mdp :: .int mvd :: .long mnw :: .int mmk :: [])) := ⟨_, rfl⟩
  rw [← eX_mo] at kmo
  have b1_t := hc_t.b1
  have b2_t := hc_t.b2
  have b3_t := hc_t.b3
  have b1_t2 := hc_t2.b1
  have b2_t2 := hc_t2.b2
  have b3_t2 := hc_t2.b3
  have b4_t2 := hc_t2.b4
  have b5_t2 := hc_t2.b5
  have b6_t2 := hc_t2.b6
  have b8_t2 := hc_t2.b8
  have b9_t2 := hc_t2.b9
  refine lv_aload_n hx hb d_Model_isSigned_0 rfl (lv_at hl 2 rfl) ?_
  obtain ⟨i_1, kA_1, hg_1⟩ := tr_20 hTy kt2
  refine va_get (v := .int ((τ t2).I 19)) hx hb htb i_Text hown hK hP i_1 hg_1 rfl 19 (by decide) (htb _ q6_211) (fun _ h9 => h9) rfl d_Model_isSigned_1 ?_
  rw [hc_t2.e19]
  refine lv_aload_n hx hb d_Model_isSigned_4 rfl (lv_at hl 2 rfl) ?_
  refine va_get (v := .int ((τ t2).I 18)) hx hb htb i_Text hown hK hP i_1 hg_1 rfl 18 (by decide) (htb _ q6_209) (fun _ h9 => h9) rfl d_Model_isSigned_5 ?_
  rw [hc_t2.e18]
  refine lv_isub hx hb d_Model_isSigned_8 ?_
  rw [show ((nI ((τ t2).me)) - (nI ((τ t2).mo)) : Int32) = nI (((τ t2).me) - ((τ t2).mo)) from pk_sub (a := ((τ t2).me)) (b := ((τ t2).mo)) (by omega)]
  refine lv_istore_n (lv' := [(3, .int (nI (((τ t2).me) - ((τ t2).mo)))), (0, .ref mo), (1, .ref t), (2, .ref t2)]) hx hb d_Model_isSigned_9 rfl hl (by decide) rfl (fun ls hl => ?_)
  refine lv_aload_n hx hb d_Model_isSigned_10 rfl (lv_at hl 2 rfl) ?_
  obtain ⟨i_2, kA_2, hg_2⟩ := tr_20 hTy kt
  refine va_get (v := .int ((τ t).I 24)) hx hb htb i_Text hown hK hP i_2 hg_2 rfl 24 (by decide) (htb _ q6_220) (fun _ h9 => h9) rfl d_Model_isSigned_11 ?_
  rw [hc_t.e24]
  refine lv_aload_n hx hb d_Model_isSigned_14 rfl (lv_at hl 2 rfl) ?_
  refine va_get (v := .int ((τ t).I 23)) hx hb htb i_Text hown hK hP i_2 hg_2 rfl 23 (by decide) (htb _ q6_218) (fun _ h9 => h9) rfl d_Model_isSigned_15 ?_
  rw [hc_t.e23]
  refine lv_isub hx hb d_Model_isSigned_18 ?_
  rw [show ((nI ((τ t).se)) - (nI ((τ t).sg)) : Int32) = nI (((τ t).se) - ((τ t).sg)) from pk_sub (a := ((τ t).se)) (b := ((τ t).sg)) (by omega)]
  refine lv_iload_n hx hb d_Model_isSigned_19 rfl (lv_at hl 0 rfl) ?_
  refine lv_icmp_eq (tgt := 25) hx hb d_Model_isSigned_20 (by decide) (fun c20 => ?_) (fun c20 => ?_)
  · have p20 : (((τ t).se) - ((τ t).sg)) = (((τ t2).me) - ((τ t2).mo)) := ((nI_eq (a := (((τ t).se) - ((τ t).sg))) (b := (((τ t2).me) - ((τ t2).mo))) (by omega) (by omega)).mp c20)
    refine lv_aload_n hx hb d_Model_isSigned_25 rfl (lv_at hl 3 rfl) ?_
    refine lv_aload_n hx hb d_Model_isSigned_26 rfl (lv_at hl 3 rfl) ?_
    refine va_get (v := .int ((τ t2).I 18)) hx hb htb i_Text hown hK hP i_1 hg_1 rfl 18 (by decide) (htb _ q6_209) (fun _ h9 => h9) rfl d_Model_isSigned_27 ?_
    rw [hc_t2.e18]
    refine lv_aload_n hx hb d_Model_isSigned_30 rfl (lv_at hl 3 rfl) ?_
    refine va_get (v := .int ((τ t2).I 19)) hx hb htb i_Text hown hK hP i_1 hg_1 rfl 19 (by decide) (htb _ q6_211) (fun _ h9 => h9) rfl d_Model_isSigned_31 ?_
    rw [hc_t2.e19]
    refine lv_aload_n hx hb d_Model_isSigned_34 rfl (lv_at hl 1 rfl) ?_
    obtain ⟨i_3, hg_3⟩ := List.getElem?_of_mem kmo.2
    rw [eX_mo] at hg_3
    refine va_get (v := .ref mmA) hx hb htb i_Model hown hK hP i_3 hg_3 rfl 18 (by decide) (htb _ q7_232) (fun _ h9 => h9) rfl d_Model_isSigned_35 ?_
    have hFc := va_free (wc := G) hD hS hA (List.range G.length) (rg_is _)
    refine va_calli (mu_runS (As := [.ref t2, .int (nI ((τ t2).mo)), .int (nI ((τ t2).me)), .ref mmA]) (rest := []) ⟨hx, hb, hml, hown, hts⟩ tbin (mx_Model_limbs l dC dI sb γ κ Ad τ gT G t2 mmA _ _ _ s.heap.size hTy kt2 kmmA hc_t2.toTB (by omega) (by omega) (by omega) (by omega) hc_t2.b7) q9_100 q9_101 q1_9 q9_102 (n := 4) (by decide +kernel) rfl ⟨rfl, rfl⟩ ⟨Nat.le_of_ble_eq_true rfl, Nat.le_of_ble_eq_true rfl⟩ ⟨Nat.le_of_ble_eq_true rfl, Nat.le_of_ble_eq_true rfl⟩ hN (hT0.keep hS hAs) hAs (Nat.le_trans hB0 hS.1) hK hP hD (List.range G.length) (rg_nd _) (rg_is _) [0, 1, 2, 3, 4] rfl hl.1 rfl (Nat.le_of_ble_eq_true rfl) d_Model_isSigned_38) hS (fun q _ h => hFc q h) hFc (fun r38 G_4 tS H38 locs ht hvm hw38 hB hz1 hk1 hS => ?_)
    obtain ⟨hTy, hF9, hr38⟩ := hw38
    have kmo := kmo.fl hF9 (by simp only [List.mem_cons, List.not_mem_nil, or_false]; omega)
    have kmrA := kmrA.fl hF9 (by simp only [List.mem_cons, List.not_mem_nil, or_false]; omega)
    have hFR := hFR.tr (hF9.up (by intro x h; simp only [List.mem_cons, List.not_mem_nil, or_false] at h ⊢; omega))
    obtain ⟨hP1, hK1, hD1⟩ := hB
    rw [ht] at hP1
    have hP : va_P (dC, dI) classes G_4 H38 := hP1
    have hD : va_D A G_4 := hD1.weaken (fun _ _ _ h => hFc _ h)
    obtain ⟨k38, f38, rk38, hl1_38, hl2_38, hbt38, kmmA⟩ := hr38
    subst rk38
    refine lv_istore (lv' := [(4, .int (nI k38)), (3, .int (nI (((τ t2).me) - ((τ t2).mo)))), (0, .ref mo), (1, .ref t), (2, .ref t2)]) hx hb d_Model_isSigned_41 hl (by decide) rfl (fun ls hl => ?_)
    refine lv_aload_n hx hb d_Model_isSigned_43 rfl (lv_at hl 3 rfl) ?_
    refine lv_aload_n hx hb d_Model_isSigned_44 rfl (lv_at hl 3 rfl) ?_
    obtain ⟨i_5, kA_5, hg_5⟩ := tr_20 hTy kt
    refine va_get (v := .int ((τ t).I 23)) hx hb htb i_Text hown hK hP i_5 hg_5 rfl 23 (by decide) (htb _ q6_218) (fun _ h9 => h9) rfl d_Model_isSigned_45 ?_
    rw [hc_t.e23]
    refine lv_aload_n hx hb d_Model_isSigned_48 rfl (lv_at hl 3 rfl) ?_
    refine va_get (v := .int ((τ t).I 24)) hx hb htb i_Text hown hK hP i_5 hg_5 rfl 24 (by decide) (htb _ q6_220) (fun _ h9 => h9) rfl d_Model_isSigned_49 ?_
    rw [hc_t.e24]
    refine lv_aload_n hx hb d_Model_isSigned_52 rfl (lv_at hl 2 rfl) ?_
    obtain ⟨i_6, hg_6⟩ := List.getElem?_of_mem kmo.2
    rw [eX_mo] at hg_6
    refine va_get (v := .ref mxA) hx hb htb i_Model hown hK hP i_6 hg_6 rfl 16 (by decide) (htb _ q7_230) (fun _ h9 => h9) rfl d_Model_isSigned_53 ?_
    have hFc := va_free (wc := G_4) hD hS hA (List.range G_4.length) (rg_is _)
    refine va_calli (mu_runS (As := [.ref t, .int (nI ((τ t).sg)), .int (nI ((τ t).se)), .ref mxA]) (rest := []) ⟨hx, hb, hml, hown, hts⟩ tbin (m_Model_limbs l dC dI sb γ κ Ad τ gT G_4 t mxA _ _ H38.size hTy kt kmxA hc_t (by omega) (by omega) (by omega) (by omega)) q9_100 q9_101 q1_9 q9_102 (n := 4) (by decide +kernel) rfl ⟨rfl, rfl⟩ ⟨Nat.le_of_ble_eq_true rfl, Nat.le_of_ble_eq_true rfl⟩ ⟨Nat.le_of_ble_eq_true rfl, Nat.le_of_ble_eq_true rfl⟩ hN (hT0.keep hS hAs) hAs (Nat.le_trans hB0 hS.1) hK hP hD (List.range G_4.length) (rg_nd _) (rg_is _) [0, 1, 2, 3, 4] rfl hl.1 rfl (Nat.le_of_ble_eq_true rfl) d_Model_isSigned_56) hS (fun q _ h => hFc q h) hFc (fun r56 G_7 tS H56 locs ht hvm hw56 hB hz1 hk1 hS => ?_)
    obtain ⟨hTy, hF9, hr56⟩ := hw56
    have kmo := kmo.fl hF9 List.not_mem_nil
    have kmmA := kmmA.fl hF9 List.not_mem_nil
    have kmrA := kmrA.fl hF9 List.not_mem_nil
    have hFR := hFR.tr (hF9.up (fun x h => absurd h List.not_mem_nil))
    obtain ⟨hP1, hK1, hD1⟩ := hB
    rw [ht] at hP1
    have hP : va_P (dC, dI) classes G_7 H56 := hP1
    have hD : va_D A G_7 := hD1.weaken (fun _ _ _ h => hFc _ h)
    obtain ⟨k56, hl2_56, rk56⟩ := hr56
    subst rk56
    refine lv_istore (lv' := [(5, .int (nI k56)), (4, .int (nI k38)), (3, .int (nI (((τ t2).me) - ((τ t2).mo)))), (0, .ref mo), (1, .ref t), (2, .ref t2)]) hx hb d_Model_isSigned_59 hl (by decide) rfl (fun ls hl => ?_)
    refine lv_iconst (v := 1) hx hb d_Model_isSigned_61 (by decide) ?_
    refine lv_istore (lv' := [(6, .int 1), (5, .int (nI k56)), (4, .int (nI k38)), (3, .int (nI (((τ t2).me) - ((τ t2).mo)))), (0, .ref mo), (1, .ref t), (2, .ref t2)]) hx hb d_Model_isSigned_62 hl (by decide) rfl (fun ls hl => ?_)
    refine lv_aload_n hx hb d_Model_isSigned_64 rfl (lv_at hl 4 rfl) ?_
    obtain ⟨i_8, hg_8⟩ := List.getElem?_of_mem kmo.2
    rw [eX_mo] at hg_8
    refine va_get (v := .ref mxA) hx hb htb i_Model hown hK hP i_8 hg_8 rfl 16 (by decide) (htb _ q7_230) (fun _ h9 => h9) rfl d_Model_isSigned_65 ?_
    refine lv_iload hx hb d_Model_isSigned_68 (lv_at hl 1 rfl) ?_
    refine lv_aload_n hx hb d_Model_isSigned_70 rfl (lv_at hl 4 rfl) ?_
    refine va_get (v := .ref mmA) hx hb htb i_Model hown hK hP i_8 hg_8 rfl 18 (by decide) (htb _ q7_232) (fun _ h9 => h9) rfl d_Model_isSigned_71 ?_
    refine lv_iload hx hb d_Model_isSigned_74 (lv_at hl 2 rfl) ?_
    refine vp_callSi (pu_callS (As := [.ref mxA, .int (nI k56), .ref mmA, .int (nI k38)]) (rest := []) ⟨hx, hb, hml, hown, hts⟩ tbin (p_Model_compared l dC dI sb γ κ Ad τ gT G_7 mxA mmA _ _ _ hTy kmxA kmmA (by omega) (by omega)) q9_106 q9_107 q1_9 q9_108 (n := 4) (by decide +kernel) rfl ⟨rfl, rfl⟩ ⟨Nat.le_of_ble_eq_true rfl, Nat.le_of_ble_eq_true rfl⟩ ⟨Nat.le_of_ble_eq_true rfl, Nat.le_of_ble_eq_true rfl⟩ hN (hT0.keep hS hAs) hK hP (List.range G_7.length) (rg_all G_7) [0, 1, 2, 3, 4] rfl hl.1 rfl (Nat.le_of_ble_eq_true rfl) d_Model_isSigned_76) (fun r76 hr76 => ?_)
    refine lv_if_lt (tgt := 84) hx hb d_Model_isSigned_79 (by decide) (fun c79 => ?_) (fun c79 => ?_)
    · have p79 : r76 < (0 : Int32) := c79
      refine lv_aload_n hx hb d_Model_isSigned_84 rfl (lv_at hl 4 rfl) ?_
      refine va_get (v := .ref myA) hx hb htb i_Model hown hK hP i_8 hg_8 rfl 17 (by decide) (htb _ q7_231) (fun _ h9 => h9) rfl d_Model_isSigned_85 ?_
      refine lv_iconst (v := 0) hx hb d_Model_isSigned_88 (by decide) ?_
      refine lv_iconst (v := 1) hx hb d_Model_isSigned_89 (by decide) ?_
      obtain ⟨i_9, f_9, hn_9, hg_9⟩ := tr_6 hTy kmyA
      have h90 : vp_in (0 : Int32) 600 := (by unfold vp_in; decide)
      refine va_iast hx hb hK hP hD hS i_9 1 hg_9 rfl h90 d_Model_isSigned_90 (fun H90 locs hP hD2 hS => ?_)
      have hP : va_P (dC, dI) classes (G_7.set i_9 (myA, .inl (γ.2.1, 600, .inl (upd f_9 (0 : Int32).toNatClampNeg 1)))) H90 := hP
      have hD3 : va_D A (G_7.set i_9 (myA, .inl (γ.2.1, 600, .inl (upd f_9 (0 : Int32).toNatClampNeg 1)))) := hD2
      have hF1 := FR.set (c' := .inl (γ.2.1, 600, .inl (upd f_9 (0 : Int32).toNatClampNeg 1))) hg_9 kmyA.1
      have kmo := kmo.fr hF1
      have kmmA := kmmA.fr hF1
      have kmrA := kmrA.fr hF1
      have hFR := hFR.tr hF1.l
      clear hF1
      have hTy := TR.set (c' := .inl (γ.2.1, 600, .inl (upd f_9 (0 : Int32).toNatClampNeg 1))) hTy hg_9 (okr_6 kmyA hn_9 _)
      have hD := hD3
      clear hD3 hD2
      generalize G_7.set i_9 (myA, .inl (γ.2.1, 600, .inl (upd f_9 (0 : Int32).toNatClampNeg 1))) = G_10 at hP hD hTy hFR kmo kmmA kmrA 
      refine lv_bipush (v := 31) hx hb d_Model_isSigned_91 (by decide) ?_
      refine lv_aload_n hx hb d_Model_isSigned_93 rfl (lv_at hl 6 rfl) ?_
      obtain ⟨i_11, kA_11, hg_11⟩ := tr_20 hTy kt2
      refine va_get (v := .int ((τ t2).I 20)) hx hb htb i_Text hown hK hP i_11 hg_11 rfl 20 (by decide) (htb _ q6_213) (fun _ h9 => h9) rfl d_Model_isSigned_94 ?_
      rw [hc_t2.e20]
      refine vp_callSi (pu_callS (As := [.int (nI ((τ t2).ex))]) (rest := [.int 31]) ⟨hx, hb, hml, hown, hts⟩ tbin (p_Integer_numberOfLeadingZeros l dC dI sb γ κ Ad τ gT G_10  _ hTy  ) q9_109 q9_110 q1_32 q9_111 (n := 1) (by decide +kernel) rfl ⟨rfl, rfl⟩ ⟨Nat.le_of_ble_eq_true rfl, Nat.le_of_ble_eq_true rfl⟩ ⟨Nat.le_of_ble_eq_true rfl, Nat.le_of_ble_eq_true rfl⟩ hN (hT0.keep hS hAs) hK hP (List.range G_10.length) (rg_all G_10) [0, 1, 2, 3, 4] rfl hl.1 rfl (Nat.le_of_ble_eq_true rfl) d_Model_isSigned_97) (fun r97 hr97 => ?_)
      refine lv_isub hx hb d_Model_isSigned_100 ?_
      refine lv_topi (fun v101 ev101 => ?_)
      refine lv_istore (lv' := [(7, .int v101), (6, .int 1), (5, .int (nI k56)), (4, .int (nI k38)), (3, .int (nI (((τ t2).me) - ((τ t2).mo)))), (0, .ref mo), (1, .ref t), (2, .ref t2)]) hx hb d_Model_isSigned_101 hl (by decide) rfl (fun ls hl => ?_)
      obtain ⟨N9, hN8, hN9⟩ := cI_0
      refine w_loopW (α := Nat × Int32 × Nat × (Nat → Int32) × Int32 × va_W) (fun a9 => 0 ≤ a9.1 ∧ a9.1 ≤ N9 ∧ a9.2.2.1 ≤ k38 ∧ TR γ κ Ad τ a9.2.2.2.2.2 ∧ FL Ad [mo, mmA, mrA] G a9.2.2.2.2.2 ∧ Xc Ad mo (.inr (12, (.int mer :: .int mfed :: .int mwr :: .int mct :: .int mls :: .ref moc :: .ref msT :: .ref mrV :: .ref msP :: .int a9.2.2.2.2.1 :: .ref mrA :: .ref mbA :: .ref mwA :: .ref mhA :: .ref mfA :: .ref mpA :: .ref mxA :: .ref myA :: .ref mmA :: .ref mqA :: .ref mzA :: .ref mwy :: .ref mfd :: .int msz :: .int mcz :: .int mch :: .int mft :: .int mpt :: .int mdp :: .int mvd :: .long mnw :: .int mmk :: []))) a9.2.2.2.2.2 ∧ Xc Ad mmA (.inl (γ.2.1, 600, .inl f38)) a9.2.2.2.2.2 ∧ Xc Ad mrA (.inl (γ.2.1, 600, .inl a9.2.2.2.1)) a9.2.2.2.2.2 ∧ (cI N9 a9.2.1 a9.1)) (fun a9 => N9 - a9.1) (fun a9 => [(7, .int a9.2.1), (6, .int (nI a9.2.2.1)), (5, .int (nI k56)), (4, .int (nI k38)), (3, .int (nI (((τ t2).me) - ((τ t2).mo)))), (0, .ref mo), (1, .ref t), (2, .ref t2)]) (fun _ => []) (fun a9 => a9.2.2.2.2.2) 14 103 (fun a9 HL103 locs ls hJ hP hD hS hl ih103 => ?_) (0, v101, 1, fr, mqs, G_10) _ _ ls ⟨by omega, by omega, by omega, hTy, hFR, (by have h9 := kmo; rw [eX_mo] at h9; exact h9), kmmA, kmrA, hN9 _⟩ hP hD hS (lv_sub hl [0, 1, 2, 3, 4, 5, 6, 7] rfl)
      obtain ⟨z103, x103_7, y103_6, f103_mrA, v103_mqs, G103⟩ := a9
      obtain ⟨hy103, hz103, hn103_6, hTy, hFR, kmo, kmmA, kmrA, hJ103⟩ := hJ
      dsimp only at hy103 hz103 hn103_6 hTy hFR kmo kmmA kmrA hP hD hl ih103 hJ103
      obtain ⟨cX_12, eX_12⟩ : ∃ z : va_E, z = .inr (12, (.int mer :: .int mfed :: .int mwr :: .int mct :: .int mls :: .ref moc :: .ref msT :: .ref mrV :: .ref msP :: .int v103_mqs :: .ref mrA :: .ref mbA :: .ref mwA :: .ref mhA :: .ref mfA :: .ref mpA :: .ref mxA :: .ref myA :: .ref mmA :: .ref mqA :: .ref mzA :: .ref mwy :: .ref mfd :: .int msz :: .int mcz :: .int mch :: .int mft :: .int mpt :: .int mdp :: .int mvd :: .long mnw :: .int mmk :: [])) := ⟨_, rfl⟩
      rw [← eX_12] at kmo
      refine lv_iload hx hb d_Model_isSigned_103 (lv_at hl 0 rfl) ?_
      refine lv_if_lt (tgt := 166) hx hb d_Model_isSigned_105 (by decide) (fun c105 => ?_) (fun c105 => ?_)
      · have p105 : x103_7 < (0 : Int32) := c105
        refine lv_aload_n hx hb d_Model_isSigned_166 rfl (lv_at hl 5 rfl) ?_
        refine lv_aload_n hx hb d_Model_isSigned_167 rfl (lv_at hl 6 rfl) ?_
        have hFc := va_free (wc := G103) hD hS hA (List.range G103.length) (rg_is _)
        obtain ⟨i_14, hg_14⟩ := List.getElem?_of_mem kmo.2
        rw [eX_12] at hg_14
        refine va_callv (mu_runV (As := [.ref t]) (rest := []) ⟨hx, hb, hml, hown, hts⟩ tbin (m_Model_digest1 l dC dI sb γ κ Ad τ gT G103 mo t _ _ _ _ _ _ _ _ _ _ _ _ _ _ _ _ _ _ _ _ _ _ _ _ _ _ _ _ _ _ _ _ HL103.size hTy (by have h9 := kmo; rw [eX_12] at h9; exact h9) kt kmbA kmwA kmhA kmpA kmfA hc_t) q9_81 q9_83 qp_40 q1_9 q9_84 (n := 1) (by decide +kernel) rfl ⟨rfl, rfl⟩ ⟨Nat.le_of_ble_eq_true rfl, Nat.le_of_ble_eq_true rfl⟩ ⟨Nat.le_of_ble_eq_true rfl, Nat.le_of_ble_eq_true rfl⟩ hN (hT0.keep hS hAs) hAs (Nat.le_trans hB0 hS.1) hK hP hD (List.range G103.length) (rg_nd _) (rg_is _) [0, 1, 2, 3, 4] rfl i_14 12 hg_14 rfl rfl hl.1 rfl (Nat.le_of_ble_eq_true rfl) d_Model_isSigned_168) hS (fun q _ h => hFc q h) hFc (fun G_13 tS H168 locs ht hvm hw168 hB hz1 hk1 hS => ?_)
        obtain ⟨hTy, hF9, hr168⟩ := hw168
        have kmo := kmo.fl hF9 List.not_mem_nil
        have kmmA := kmmA.fl hF9 List.not_mem_nil
        have kmrA := kmrA.fl hF9 List.not_mem_nil
        have hFR := hFR.tr (hF9.up (fun x h => absurd h List.not_mem_nil))
        obtain ⟨hP1, hK1, hD1⟩ := hB
        rw [ht] at hP1
        have hP : va_P (dC, dI) classes G_13 H168 := hP1
        have hD : va_D A G_13 := hD1.weaken (fun _ _ _ h => hFc _ h)
        refine my_ldcwS hx hb hown (hN.2.1 3 _ rfl) d_Model_isSigned_171 ?_
        refine lv_astore (lv' := [(7, .ref (sb.2 (10 + 3))), (6, .int (nI y103_6)), (5, .int (nI k56)), (4, .int (nI k38)), (3, .int (nI (((τ t2).me) - ((τ t2).mo)))), (0, .ref mo), (1, .ref t), (2, .ref t2)]) hx hb d_Model_isSigned_174 hl (by decide) rfl (fun ls hl => ?_)
        refine lv_iload_n hx hb d_Model_isSigned_176 rfl (lv_at hl 4 rfl) ?_
        refine lv_iconst (v := 3) hx hb d_Model_isSigned_177 (by decide) ?_
        refine lv_isub hx hb d_Model_isSigned_178 ?_
        rw [show ((nI (((τ t2).me) - ((τ t2).mo))) - 3 : Int32) = nI ((((τ t2).me) - ((τ t2).mo)) - 3) from pk_sub (a := (((τ t2).me) - ((τ t2).mo))) (b := 3) (by omega)]
        refine lv_bipush (v := 19) hx hb d_Model_isSigned_179 (by decide) ?_
        refine lv_isub hx hb d_Model_isSigned_181 ?_
        rw [show ((nI ((((τ t2).me) - ((τ t2).mo)) - 3)) - 19 : Int32) = nI (((((τ t2).me) - ((τ t2).mo)) - 3) - 19) from pk_sub (a := ((((τ t2).me) - ((τ t2).mo)) - 3)) (b := 19) (by omega)]
        refine lv_bipush (v := 32) hx hb d_Model_isSigned_182 (by decide) ?_
        refine lv_isub hx hb d_Model_isSigned_184 ?_
        rw [show ((nI (((((τ t2).me) - ((τ t2).mo)) - 3) - 19)) - 32 : Int32) = nI ((((((τ t2).me) - ((τ t2).mo)) - 3) - 19) - 32) from pk_sub (a := (((((τ t2).me) - ((τ t2).mo)) - 3) - 19)) (b := 32) (by omega)]
        refine lv_istore (lv' := [(8, .int (nI ((((((τ t2).me) - ((τ t2).mo)) - 3) - 19) - 32))), (7, .ref (sb.2 (10 + 3))), (6, .int (nI y103_6)), (5, .int (nI k56)), (4, .int (nI k38)), (3, .int (nI (((τ t2).me) - ((τ t2).mo)))), (0, .ref mo), (1, .ref t), (2, .ref t2)]) hx hb d_Model_isSigned_185 hl (by decide) rfl (fun ls hl => ?_)
        refine lv_iload hx hb d_Model_isSigned_187 (lv_at hl 0 rfl) ?_
        refine lv_bipush (v := 8) hx hb d_Model_isSigned_189 (by decide) ?_
        refine lv_icmp_ge (tgt := 196) hx hb d_Model_isSigned_191 (by decide) (fun c191 => ?_) (fun c191 => ?_)
        · have p191 : 8 ≤ ((((((τ t2).me) - ((τ t2).mo)) - 3) - 19) - 32) := ((nI_leI (a := 8) (b := ((((((τ t2).me) - ((τ t2).mo)) - 3) - 19) - 32)) (by omega) (by omega)).mp c191)
          refine lv_iconst (v := 0) hx hb d_Model_isSigned_196 (by decide) ?_
          refine lv_istore (lv' := [(9, .int 0), (8, .int (nI ((((((τ t2).me) - ((τ t2).mo)) - 3) - 19) - 32))), (7, .ref (sb.2 (10 + 3))), (6, .int (nI y103_6)), (5, .int (nI k56)), (4, .int (nI k38)), (3, .int (nI (((τ t2).me) - ((τ t2).mo)))), (0, .ref mo), (1, .ref t), (2, .ref t2)]) hx hb d_Model_isSigned_197 hl (by decide) rfl (fun ls hl => ?_)
          refine w_loop (α := Nat) (fun a9 => 0 ≤ a9 ∧ a9 ≤ ((τ t2).me - (τ t2).mo)) (fun a9 => ((τ t2).me - (τ t2).mo) - a9) (fun a9 => [(9, .int (nI a9)), (8, .int (nI ((((((τ t2).me) - ((τ t2).mo)) - 3) - 19) - 32))), (7, .ref (sb.2 (10 + 3))), (6, .int (nI y103_6)), (5, .int (nI k56)), (4, .int (nI k38)), (3, .int (nI (((τ t2).me) - ((τ t2).mo)))), (0, .ref mo), (1, .ref t), (2, .ref t2)]) (fun _ => []) 14 199 (fun z199 ls hJ hl ih199 => ?_) (0) ls ⟨by omega, by omega⟩ (lv_sub hl [0, 1, 2, 3, 4, 5, 6, 7, 8, 9] rfl)
          skip
          obtain ⟨hy199, hz199⟩ := hJ
          refine lv_iload hx hb d_Model_isSigned_199 (lv_at hl 0 rfl) ?_
          refine lv_iload_n hx hb d_Model_isSigned_201 rfl (lv_at hl 6 rfl) ?_
          refine lv_icmp_ge (tgt := 411) hx hb d_Model_isSigned_202 (by decide) (fun c202 => ?_) (fun c202 => ?_)
          · have p202 : (((τ t2).me) - ((τ t2).mo)) ≤ z199 := ((nI_leI (a := (((τ t2).me) - ((τ t2).mo))) (b := z199) (by omega) (by omega)).mp c202)
            refine lv_iconst (v := 1) hx hb d_Model_isSigned_411 (by decide) ?_
            exact W.zret (v := 1) hx hb hr rfl (fun t ht hW => ⟨⟨_, G_13, rfl, ⟨hTy, hFR, bz_t rfl, ⟨_, by rw [eX_12] at kmo; exact kmo⟩, ⟨_, kmmA⟩, ⟨_, kmrA⟩⟩, by rw [ht]; exact hP, va_K.moved hW.alike hK, hD⟩, hS.F ht⟩) hS.2.2 d_Model_isSigned_412
          · have p202 : ¬ ((((τ t2).me) - ((τ t2).mo)) ≤ z199) := (fun q9 => c202 ((nI_leI (a := (((τ t2).me) - ((τ t2).mo))) (b := z199) (by omega) (by omega)).mpr q9))
            refine lv_iload_n hx hb d_Model_isSigned_205 rfl (lv_at hl 6 rfl) ?_
            refine lv_iconst (v := 1) hx hb d_Model_isSigned_206 (by decide) ?_
            refine lv_isub hx hb d_Model_isSigned_207 ?_
            rw [show ((nI (((τ t2).me) - ((τ t2).mo))) - 1 : Int32) = nI ((((τ t2).me) - ((τ t2).mo)) - 1) from pk_sub (a := (((τ t2).me) - ((τ t2).mo))) (b := 1) (by omega)]
            refine lv_iload hx hb d_Model_isSigned_208 (lv_at hl 0 rfl) ?_
            refine lv_isub hx hb d_Model_isSigned_210 ?_
            rw [show ((nI ((((τ t2).me) - ((τ t2).mo)) - 1)) - (nI z199) : Int32) = nI (((((τ t2).me) - ((τ t2).mo)) - 1) - z199) from pk_sub (a := ((((τ t2).me) - ((τ t2).mo)) - 1)) (b := z199) (by omega)]
            refine lv_istore (lv' := [(10, .int (nI (((((τ t2).me) - ((τ t2).mo)) - 1) - z199))), (9, .int (nI z199)), (8, .int (nI ((((((τ t2).me) - ((τ t2).mo)) - 3) - 19) - 32))), (7, .ref (sb.2 (10 + 3))), (6, .int (nI y103_6)), (5, .int (nI k56)), (4, .int (nI k38)), (3, .int (nI (((τ t2).me) - ((τ t2).mo)))), (0, .ref mo), (1, .ref t), (2, .ref t2)]) hx hb d_Model_isSigned_211 hl (by decide) rfl (fun ls hl => ?_)
            refine lv_iload hx hb d_Model_isSigned_213 (lv_at hl 0 rfl) ?_
            refine lv_iconst (v := 1) hx hb d_Model_isSigned_215 (by decide) ?_
            refine lv_ishr hx hb d_Model_isSigned_216 ?_
            rw [show ((nI (((((τ t2).me) - ((τ t2).mo)) - 1) - z199)) >>> (1 &&& 31) : Int32) = nI ((((((τ t2).me) - ((τ t2).mo)) - 1) - z199) / 2) from shr1_nI (by omega)]
            refine lv_iload hx hb d_Model_isSigned_217 (lv_at hl 4 rfl) ?_
            refine lv_icmp_ge (tgt := 246) hx hb d_Model_isSigned_219 (by decide) (fun c219 => ?_) (fun c219 => ?_)
            · have p219 : y103_6 ≤ ((((((τ t2).me) - ((τ t2).mo)) - 1) - z199) / 2) := ((nI_leI (a := y103_6) (b := ((((((τ t2).me) - ((τ t2).mo)) - 1) - z199) / 2)) (by omega) (by omega)).mp c219)
              refine lv_iconst (v := 0) hx hb d_Model_isSigned_246 (by decide) ?_
              refine lv_istore (lv' := [(11, .int 0), (10, .int (nI (((((τ t2).me) - ((τ t2).mo)) - 1) - z199))), (9, .int (nI z199)), (8, .int (nI ((((((τ t2).me) - ((τ t2).mo)) - 3) - 19) - 32))), (7, .ref (sb.2 (10 + 3))), (6, .int (nI y103_6)), (5, .int (nI k56)), (4, .int (nI k38)), (3, .int (nI (((τ t2).me) - ((τ t2).mo)))), (0, .ref mo), (1, .ref t), (2, .ref t2)]) hx hb d_Model_isSigned_247 hl (by decide) rfl (fun ls hl => ?_)
              refine lv_iload hx hb d_Model_isSigned_249 (lv_at hl 2 rfl) ?_
              refine lv_if_ne (tgt := 260) hx hb d_Model_isSigned_251 (by decide) (fun c251 => ?_) (fun c251 => ?_)
              · have p251 : ¬ (z199 = 0) := (fun q9 => c251 ((nI_eq (a := z199) (b := 0) (by omega) (by omega)).mpr q9))
                refine lv_iload hx hb d_Model_isSigned_260 (lv_at hl 2 rfl) ?_
                refine lv_iconst (v := 1) hx hb d_Model_isSigned_262 (by decide) ?_
                refine lv_icmp_ne (tgt := 272) hx hb d_Model_isSigned_263 (by decide) (fun c263 => ?_) (fun c263 => ?_)
                · have p263 : ¬ (z199 = 1) := (fun q9 => c263 ((nI_eq (a := z199) (b := 1) (by omega) (by omega)).mpr q9))
                  refine lv_iload hx hb d_Model_isSigned_272 (lv_at hl 2 rfl) ?_
                  refine lv_iconst (v := 2) hx hb d_Model_isSigned_274 (by decide) ?_
                  refine lv_iload hx hb d_Model_isSigned_275 (lv_at hl 3 rfl) ?_
                  refine lv_iadd hx hb d_Model_isSigned_277 ?_
                  rw [show (2 + (nI ((((((τ t2).me) - ((τ t2).mo)) - 3) - 19) - 32)) : Int32) = nI (2 + ((((((τ t2).me) - ((τ t2).mo)) - 3) - 19) - 32)) from nI_add 2 ((((((τ t2).me) - ((τ t2).mo)) - 3) - 19) - 32)]
                  refine lv_icmp_ge (tgt := 289) hx hb d_Model_isSigned_278 (by decide) (fun c278 => ?_) (fun c278 => ?_)
                  · have p278 : (2 + ((((((τ t2).me) - ((τ t2).mo)) - 3) - 19) - 32)) ≤ z199 := ((nI_leI (a := (2 + ((((((τ t2).me) - ((τ t2).mo)) - 3) - 19) - 32))) (b := z199) (by omega) (by omega)).mp c278)
                    refine lv_iload hx hb d_Model_isSigned_289 (lv_at hl 2 rfl) ?_
                    refine lv_iconst (v := 2) hx hb d_Model_isSigned_291 (by decide) ?_
                    refine lv_iload hx hb d_Model_isSigned_292 (lv_at hl 3 rfl) ?_
                    refine lv_iadd hx hb d_Model_isSigned_294 ?_
                    rw [show (2 + (nI ((((((τ t2).me) - ((τ t2).mo)) - 3) - 19) - 32)) : Int32) = nI (2 + ((((((τ t2).me) - ((τ t2).mo)) - 3) - 19) - 32)) from nI_add 2 ((((((τ t2).me) - ((τ t2).mo)) - 3) - 19) - 32)]
                    refine lv_icmp_ne (tgt := 304) hx hb d_Model_isSigned_295 (by decide) (fun c295 => ?_) (fun c295 => ?_)
                    · have p295 : ¬ (z199 = (2 + ((((((τ t2).me) - ((τ t2).mo)) - 3) - 19) - 32))) := (fun q9 => c295 ((nI_eq (a := z199) (b := (2 + ((((((τ t2).me) - ((τ t2).mo)) - 3) - 19) - 32))) (by omega) (by omega)).mpr q9))
                      refine lv_iload hx hb d_Model_isSigned_304 (lv_at hl 2 rfl) ?_
                      refine lv_iconst (v := 3) hx hb d_Model_isSigned_306 (by decide) ?_
                      refine lv_iload hx hb d_Model_isSigned_307 (lv_at hl 3 rfl) ?_
                      refine lv_iadd hx hb d_Model_isSigned_309 ?_
                      rw [show (3 + (nI ((((((τ t2).me) - ((τ t2).mo)) - 3) - 19) - 32)) : Int32) = nI (3 + ((((((τ t2).me) - ((τ t2).mo)) - 3) - 19) - 32)) from nI_add 3 ((((((τ t2).me) - ((τ t2).mo)) - 3) - 19) - 32)]
                      refine lv_bipush (v := 19) hx hb d_Model_isSigned_310 (by decide) ?_
                      refine lv_iadd hx hb d_Model_isSigned_312 ?_
                      rw [show ((nI (3 + ((((((τ t2).me) - ((τ t2).mo)) - 3) - 19) - 32))) + 19 : Int32) = nI ((3 + ((((((τ t2).me) - ((τ t2).mo)) - 3) - 19) - 32)) + 19) from nI_add (3 + ((((((τ t2).me) - ((τ t2).mo)) - 3) - 19) - 32)) 19]
                      refine lv_icmp_ge (tgt := 360) hx hb d_Model_isSigned_313 (by decide) (fun c313 => ?_) (fun c313 => ?_)
                      · have p313 : ((3 + ((((((τ t2).me) - ((τ t2).mo)) - 3) - 19) - 32)) + 19) ≤ z199 := ((nI_leI (a := ((3 + ((((((τ t2).me) - ((τ t2).mo)) - 3) - 19) - 32)) + 19)) (b := z199) (by omega) (by omega)).mp c313)
                        refine lv_iload hx hb d_Model_isSigned_360 (lv_at hl 2 rfl) ?_
                        refine lv_bipush (v := 22) hx hb d_Model_isSigned_362 (by decide) ?_
                        refine lv_isub hx hb d_Model_isSigned_364 ?_
                        rw [show ((nI z199) - 22 : Int32) = nI (z199 - 22) from pk_sub (a := z199) (b := 22) (by omega)]
                        refine lv_iload hx hb d_Model_isSigned_365 (lv_at hl 3 rfl) ?_
                        refine lv_isub hx hb d_Model_isSigned_367 ?_
                        rw [show ((nI (z199 - 22)) - (nI ((((((τ t2).me) - ((τ t2).mo)) - 3) - 19) - 32)) : Int32) = nI ((z199 - 22) - ((((((τ t2).me) - ((τ t2).mo)) - 3) - 19) - 32)) from pk_sub (a := (z199 - 22)) (b := ((((((τ t2).me) - ((τ t2).mo)) - 3) - 19) - 32)) (by omega)]
                        refine lv_istore (lv' := [(13, .int (nI ((z199 - 22) - ((((((τ t2).me) - ((τ t2).mo)) - 3) - 19) - 32)))), (11, .int 0), (10, .int (nI (((((τ t2).me) - ((τ t2).mo)) - 1) - z199))), (9, .int (nI z199)), (8, .int (nI ((((((τ t2).me) - ((τ t2).mo)) - 3) - 19) - 32))), (7, .ref (sb.2 (10 + 3))), (6, .int (nI y103_6)), (5, .int (nI k56)), (4, .int (nI k38)), (3, .int (nI (((τ t2).me) - ((τ t2).mo)))), (0, .ref mo), (1, .ref t), (2, .ref t2)]) hx hb d_Model_isSigned_368 hl (by decide) rfl (fun ls hl => ?_)
                        refine lv_aload_n hx hb d_Model_isSigned_370 rfl (lv_at hl 10 rfl) ?_
                        obtain ⟨i_15, hg_15⟩ := List.getElem?_of_mem kmo.2
                        rw [eX_12] at hg_15
                        refine va_get (v := .ref mhA) hx hb htb i_Model hown hK hP i_15 hg_15 rfl 13 (by decide) (htb _ q7_227) (fun _ h9 => h9) rfl d_Model_isSigned_371 ?_
                        refine lv_iload hx hb d_Model_isSigned_374 (lv_at hl 0 rfl) ?_
                        refine lv_iconst (v := 2) hx hb d_Model_isSigned_376 (by decide) ?_
                        refine lv_ishr hx hb d_Model_isSigned_377 ?_
                        rw [show ((nI ((z199 - 22) - ((((((τ t2).me) - ((τ t2).mo)) - 3) - 19) - 32))) >>> (2 &&& 31) : Int32) = nI (((z199 - 22) - ((((((τ t2).me) - ((τ t2).mo)) - 3) - 19) - 32)) / 4) from shr2_nI _ (by omega)]
                        obtain ⟨i_16, f_16, hn_16, hg_16⟩ := tr_6 hTy kmhA
                        have h378 : vp_in (nI (((z199 - 22) - ((((((τ t2).me) - ((τ t2).mo)) - 3) - 19) - 32)) / 4)) 8 := vp_in_nI (by omega) (by omega)
                        refine va_iald hx hb hK hP i_16 1 hg_16 rfl h378 d_Model_isSigned_378 ?_
                        refine lv_topi (fun e378 he378 => ?_)
                        refine lv_bipush (v := 24) hx hb d_Model_isSigned_379 (by decide) ?_
                        refine lv_bipush (v := 8) hx hb d_Model_isSigned_381 (by decide) ?_
                        refine lv_iload hx hb d_Model_isSigned_383 (lv_at hl 0 rfl) ?_
                        refine lv_iconst (v := 3) hx hb d_Model_isSigned_385 (by decide) ?_
                        refine lv_iand hx hb d_Model_isSigned_386 ?_
                        refine lv_imul hx hb d_Model_isSigned_387 ?_
                        refine lv_isub hx hb d_Model_isSigned_388 ?_
                        refine lv_ishr hx hb d_Model_isSigned_389 ?_
                        refine lv_sipush (v := 255) hx hb d_Model_isSigned_390 (by decide) ?_
                        refine lv_iand hx hb d_Model_isSigned_393 ?_
                        refine lv_topi (fun v394 ev394 => ?_)
                        refine lv_istore (lv' := [(12, .int v394), (13, .int (nI ((z199 - 22) - ((((((τ t2).me) - ((τ t2).mo)) - 3) - 19) - 32)))), (11, .int 0), (10, .int (nI (((((τ t2).me) - ((τ t2).mo)) - 1) - z199))), (9, .int (nI z199)), (8, .int (nI ((((((τ t2).me) - ((τ t2).mo)) - 3) - 19) - 32))), (7, .ref (sb.2 (10 + 3))), (6, .int (nI y103_6)), (5, .int (nI k56)), (4, .int (nI k38)), (3, .int (nI (((τ t2).me) - ((τ t2).mo)))), (0, .ref mo), (1, .ref t), (2, .ref t2)]) hx hb d_Model_isSigned_394 hl (by decide) rfl (fun ls hl => ?_)
                        refine lv_iload hx hb d_Model_isSigned_396 (lv_at hl 2 rfl) ?_
                        refine lv_iload hx hb d_Model_isSigned_398 (lv_at hl 0 rfl) ?_
                        refine lv_icmp_eq (tgt := 405) hx hb d_Model_isSigned_400 (by decide) (fun c400 => ?_) (fun c400 => ?_)
                        · have p400 : (0 : Int32) = v394 := c400
                          refine lv_iinc (v := nI (z199 + 1)) (lv' := [(9, .int (nI (z199 + 1))), (12, .int v394), (13, .int (nI ((z199 - 22) - ((((((τ t2).me) - ((τ t2).mo)) - 3) - 19) - 32)))), (11, .int 0), (10, .int (nI (((((τ t2).me) - ((τ t2).mo)) - 1) - z199))), (8, .int (nI ((((((τ t2).me) - ((τ t2).mo)) - 3) - 19) - 32))), (7, .ref (sb.2 (10 + 3))), (6, .int (nI y103_6)), (5, .int (nI k56)), (4, .int (nI k38)), (3, .int (nI (((τ t2).me) - ((τ t2).mo)))), (0, .ref mo), (1, .ref t), (2, .ref t2)]) hx hb d_Model_isSigned_405 hl (k := 4) rfl (nI_1 _) (by decide) rfl (fun ls hl => ?_)
                          refine lv_goto (tgt := 199) hx hb d_Model_isSigned_408 (by decide) ?_
                          exact ih199 ((z199 + 1)) ls (by omega) ⟨by omega, by omega⟩ (lv_sub hl [0, 5, 6, 7, 8, 9, 10, 11, 12, 13] rfl)
                        · have p400 : ¬ ((0 : Int32) = v394) := c400
                          refine lv_iconst (v := 0) hx hb d_Model_isSigned_403 (by decide) ?_
                          exact W.zret (v := 0) hx hb hr rfl (fun t ht hW => ⟨⟨_, G_13, rfl, ⟨hTy, hFR, bz_f (by decide), ⟨_, by rw [eX_12] at kmo; exact kmo⟩, ⟨_, kmmA⟩, ⟨_, kmrA⟩⟩, by rw [ht]; exact hP, va_K.moved hW.alike hK, hD⟩, hS.F ht⟩) hS.2.2 d_Model_isSigned_404
                      · have p313 : ¬ (((3 + ((((((τ t2).me) - ((τ t2).mo)) - 3) - 19) - 32)) + 19) ≤ z199) := (fun q9 => c313 ((nI_leI (a := ((3 + ((((((τ t2).me) - ((τ t2).mo)) - 3) - 19) - 32)) + 19)) (b := z199) (by omega) (by omega)).mpr q9))
                        refine lv_iload hx hb d_Model_isSigned_316 (lv_at hl 2 rfl) ?_
                        refine lv_iconst (v := 3) hx hb d_Model_isSigned_318 (by decide) ?_
                        refine lv_isub hx hb d_Model_isSigned_319 ?_
                        rw [show ((nI z199) - 3 : Int32) = nI (z199 - 3) from pk_sub (a := z199) (b := 3) (by omega)]
                        refine lv_iload hx hb d_Model_isSigned_320 (lv_at hl 3 rfl) ?_
                        refine lv_isub hx hb d_Model_isSigned_322 ?_
                        rw [show ((nI (z199 - 3)) - (nI ((((((τ t2).me) - ((τ t2).mo)) - 3) - 19) - 32)) : Int32) = nI ((z199 - 3) - ((((((τ t2).me) - ((τ t2).mo)) - 3) - 19) - 32)) from pk_sub (a := (z199 - 3)) (b := ((((((τ t2).me) - ((τ t2).mo)) - 3) - 19) - 32)) (by omega)]
                        refine lv_istore (lv' := [(13, .int (nI ((z199 - 3) - ((((((τ t2).me) - ((τ t2).mo)) - 3) - 19) - 32)))), (11, .int 0), (10, .int (nI (((((τ t2).me) - ((τ t2).mo)) - 1) - z199))), (9, .int (nI z199)), (8, .int (nI ((((((τ t2).me) - ((τ t2).mo)) - 3) - 19) - 32))), (7, .ref (sb.2 (10 + 3))), (6, .int (nI y103_6)), (5, .int (nI k56)), (4, .int (nI k38)), (3, .int (nI (((τ t2).me) - ((τ t2).mo)))), (0, .ref mo), (1, .ref t), (2, .ref t2)]) hx hb d_Model_isSigned_323 hl (by decide) rfl (fun ls hl => ?_)
                        refine lv_bipush (v := 16) hx hb d_Model_isSigned_325 (by decide) ?_
                        refine lv_aload hx hb d_Model_isSigned_327 (lv_at hl 5 rfl) ?_
                        refine lv_iconst (v := 2) hx hb d_Model_isSigned_329 (by decide) ?_
                        refine lv_iload hx hb d_Model_isSigned_330 (lv_at hl 0 rfl) ?_
                        refine lv_imul hx hb d_Model_isSigned_332 ?_
                        rw [show (2 * (nI ((z199 - 3) - ((((((τ t2).me) - ((τ t2).mo)) - 3) - 19) - 32))) : Int32) = nI (2 * ((z199 - 3) - ((((((τ t2).me) - ((τ t2).mo)) - 3) - 19) - 32))) from nI_mul 2 ((z199 - 3) - ((((((τ t2).me) - ((τ t2).mo)) - 3) - 19) - 32))]
                        refine vp_callSi (pu_callK (As := [.int (nI (2 * ((z199 - 3) - ((((((τ t2).me) - ((τ t2).mo)) - 3) - 19) - 32))))]) (rest := [.int 16]) ⟨hx, hb, hml, hown, hts⟩ tbin (c_Str_charAt l dC dI sb 3 kz3 (2 * ((z199 - 3) - ((((((τ t2).me) - ((τ t2).mo)) - 3) - 19) - 32))) kz3_at (by rw [kz3_len]; omega)) q8_209 q8_142 q8_143 q1_28 q8_144 (n := 1) (by decide +kernel) rfl ⟨rfl, rfl⟩ ⟨Nat.le_of_ble_eq_true rfl, Nat.le_of_ble_eq_true rfl⟩ ⟨Nat.le_of_ble_eq_true rfl, Nat.le_of_ble_eq_true rfl⟩ hN (hT0.keep hS hAs) hK hP [] rfl [] rfl (sk_recv ((hT0.keep hS hAs).2.2.2.2.2.2.1 3 kz3 kz3_at)) hl.1 rfl (Nat.le_of_ble_eq_true rfl) d_Model_isSigned_333) (fun r333 hr333 => ?_)
                        refine vp_callSi (pu_callS (As := [.int r333]) (rest := [.int 16]) ⟨hx, hb, hml, hown, hts⟩ tbin (c_Model_hexOf l dC dI sb r333) q9_128 q8_178 q1_9 q8_179 (n := 1) (by decide +kernel) rfl ⟨rfl, rfl⟩ ⟨Nat.le_of_ble_eq_true rfl, Nat.le_of_ble_eq_true rfl⟩ ⟨Nat.le_of_ble_eq_true rfl, Nat.le_of_ble_eq_true rfl⟩ hN (hT0.keep hS hAs) hK hP [] (by simp only [List.filterMap_cons, List.filterMap_nil]) [] rfl hl.1 rfl (Nat.le_of_ble_eq_true rfl) d_Model_isSigned_336) (fun r336 hr336 => ?_)
                        refine lv_imul hx hb d_Model_isSigned_339 ?_
                        refine lv_aload hx hb d_Model_isSigned_340 (lv_at hl 5 rfl) ?_
                        refine lv_iconst (v := 2) hx hb d_Model_isSigned_342 (by decide) ?_
                        refine lv_iload hx hb d_Model_isSigned_343 (lv_at hl 0 rfl) ?_
                        refine lv_imul hx hb d_Model_isSigned_345 ?_
                        rw [show (2 * (nI ((z199 - 3) - ((((((τ t2).me) - ((τ t2).mo)) - 3) - 19) - 32))) : Int32) = nI (2 * ((z199 - 3) - ((((((τ t2).me) - ((τ t2).mo)) - 3) - 19) - 32))) from nI_mul 2 ((z199 - 3) - ((((((τ t2).me) - ((τ t2).mo)) - 3) - 19) - 32))]
                        refine lv_iconst (v := 1) hx hb d_Model_isSigned_346 (by decide) ?_
                        refine lv_iadd hx hb d_Model_isSigned_347 ?_
                        rw [show ((nI (2 * ((z199 - 3) - ((((((τ t2).me) - ((τ t2).mo)) - 3) - 19) - 32)))) + 1 : Int32) = nI ((2 * ((z199 - 3) - ((((((τ t2).me) - ((τ t2).mo)) - 3) - 19) - 32))) + 1) from nI_add (2 * ((z199 - 3) - ((((((τ t2).me) - ((τ t2).mo)) - 3) - 19) - 32))) 1]
                        refine vp_callSi (pu_callK (As := [.int (nI ((2 * ((z199 - 3) - ((((((τ t2).me) - ((τ t2).mo)) - 3) - 19) - 32))) + 1))]) (rest := [.int (16 * r336)]) ⟨hx, hb, hml, hown, hts⟩ tbin (c_Str_charAt l dC dI sb 3 kz3 ((2 * ((z199 - 3) - ((((((τ t2).me) - ((τ t2).mo)) - 3) - 19) - 32))) + 1) kz3_at (by rw [kz3_len]; omega)) q8_209 q8_142 q8_143 q1_28 q8_144 (n := 1) (by decide +kernel) rfl ⟨rfl, rfl⟩ ⟨Nat.le_of_ble_eq_true rfl, Nat.le_of_ble_eq_true rfl⟩ ⟨Nat.le_of_ble_eq_true rfl, Nat.le_of_ble_eq_true rfl⟩ hN (hT0.keep hS hAs) hK hP [] rfl [] rfl (sk_recv ((hT0.keep hS hAs).2.2.2.2.2.2.1 3 kz3 kz3_at)) hl.1 rfl (Nat.le_of_ble_eq_true rfl) d_Model_isSigned_348) (fun r348 hr348 => ?_)
                        refine vp_callSi (pu_callS (As := [.int r348]) (rest := [.int (16 * r336)]) ⟨hx, hb, hml, hown, hts⟩ tbin (c_Model_hexOf l dC dI sb r348) q9_128 q8_178 q1_9 q8_179 (n := 1) (by decide +kernel) rfl ⟨rfl, rfl⟩ ⟨Nat.le_of_ble_eq_true rfl, Nat.le_of_ble_eq_true rfl⟩ ⟨Nat.le_of_ble_eq_true rfl, Nat.le_of_ble_eq_true rfl⟩ hN (hT0.keep hS hAs) hK hP [] (by simp only [List.filterMap_cons, List.filterMap_nil]) [] rfl hl.1 rfl (Nat.le_of_ble_eq_true rfl) d_Model_isSigned_351) (fun r351 hr351 => ?_)
                        refine lv_iadd hx hb d_Model_isSigned_354 ?_
                        refine lv_topi (fun v355 ev355 => ?_)
                        refine lv_istore (lv' := [(12, .int v355), (13, .int (nI ((z199 - 3) - ((((((τ t2).me) - ((τ t2).mo)) - 3) - 19) - 32)))), (11, .int 0), (10, .int (nI (((((τ t2).me) - ((τ t2).mo)) - 1) - z199))), (9, .int (nI z199)), (8, .int (nI ((((((τ t2).me) - ((τ t2).mo)) - 3) - 19) - 32))), (7, .ref (sb.2 (10 + 3))), (6, .int (nI y103_6)), (5, .int (nI k56)), (4, .int (nI k38)), (3, .int (nI (((τ t2).me) - ((τ t2).mo)))), (0, .ref mo), (1, .ref t), (2, .ref t2)]) hx hb d_Model_isSigned_355 hl (by decide) rfl (fun ls hl => ?_)
                        refine lv_goto (tgt := 396) hx hb d_Model_isSigned_357 (by decide) ?_
                        refine lv_iload hx hb d_Model_isSigned_396 (lv_at hl 2 rfl) ?_
                        refine lv_iload hx hb d_Model_isSigned_398 (lv_at hl 0 rfl) ?_
                        refine lv_icmp_eq (tgt := 405) hx hb d_Model_isSigned_400 (by decide) (fun c400 => ?_) (fun c400 => ?_)
                        · have p400 : (0 : Int32) = v355 := c400
                          refine lv_iinc (v := nI (z199 + 1)) (lv' := [(9, .int (nI (z199 + 1))), (12, .int v355), (13, .int (nI ((z199 - 3) - ((((((τ t2).me) - ((τ t2).mo)) - 3) - 19) - 32)))), (11, .int 0), (10, .int (nI (((((τ t2).me) - ((τ t2).mo)) - 1) - z199))), (8, .int (nI ((((((τ t2).me) - ((τ t2).mo)) - 3) - 19) - 32))), (7, .ref (sb.2 (10 + 3))), (6, .int (nI y103_6)), (5, .int (nI k56)), (4, .int (nI k38)), (3, .int (nI (((τ t2).me) - ((τ t2).mo)))), (0, .ref mo), (1, .ref t), (2, .ref t2)]) hx hb d_Model_isSigned_405 hl (k := 4) rfl (nI_1 _) (by decide) rfl (fun ls hl => ?_)
                          refine lv_goto (tgt := 199) hx hb d_Model_isSigned_408 (by decide) ?_
                          exact ih199 ((z199 + 1)) ls (by omega) ⟨by omega, by omega⟩ (lv_sub hl [0, 5, 6, 7, 8, 9, 10, 11, 12, 13] rfl)
                        · have p400 : ¬ ((0 : Int32) = v355) := c400
                          refine lv_iconst (v := 0) hx hb d_Model_isSigned_403 (by decide) ?_
                          exact W.zret (v := 0) hx hb hr rfl (fun t ht hW => ⟨⟨_, G_13, rfl, ⟨hTy, hFR, bz_f (by decide), ⟨_, by rw [eX_12] at kmo; exact kmo⟩, ⟨_, kmmA⟩, ⟨_, kmrA⟩⟩, by rw [ht]; exact hP, va_K.moved hW.alike hK, hD⟩, hS.F ht⟩) hS.2.2 d_Model_isSigned_404
                    · have p295 : z199 = (2 + ((((((τ t2).me) - ((τ t2).mo)) - 3) - 19) - 32)) := ((nI_eq (a := z199) (b := (2 + ((((((τ t2).me) - ((τ t2).mo)) - 3) - 19) - 32))) (by omega) (by omega)).mp c295)
                      refine lv_iconst (v := 0) hx hb d_Model_isSigned_298 (by decide) ?_
                      refine lv_istore (lv' := [(12, .int 0), (11, .int 0), (10, .int (nI (((((τ t2).me) - ((τ t2).mo)) - 1) - z199))), (9, .int (nI z199)), (8, .int (nI ((((((τ t2).me) - ((τ t2).mo)) - 3) - 19) - 32))), (7, .ref (sb.2 (10 + 3))), (6, .int (nI y103_6)), (5, .int (nI k56)), (4, .int (nI k38)), (3, .int (nI (((τ t2).me) - ((τ t2).mo)))), (0, .ref mo), (1, .ref t), (2, .ref t2)]) hx hb d_Model_isSigned_299 hl (by decide) rfl (fun ls hl => ?_)
                      refine lv_goto (tgt := 396) hx hb d_Model_isSigned_301 (by decide) ?_
                      refine lv_iload hx hb d_Model_isSigned_396 (lv_at hl 1 rfl) ?_
                      refine lv_iload hx hb d_Model_isSigned_398 (lv_at hl 0 rfl) ?_
                      refine lv_icmp_eq (tgt := 405) hx hb d_Model_isSigned_400 (by decide) (fun c400 => ?_) (fun c400 => ?_)
                      rotate_left
                      · exact absurd c400 (by decide)
                      refine lv_iinc (v := nI (z199 + 1)) (lv' := [(9, .int (nI (z199 + 1))), (12, .int 0), (11, .int 0), (10, .int (nI (((((τ t2).me) - ((τ t2).mo)) - 1) - z199))), (8, .int (nI ((((((τ t2).me) - ((τ t2).mo)) - 3) - 19) - 32))), (7, .ref (sb.2 (10 + 3))), (6, .int (nI y103_6)), (5, .int (nI k56)), (4, .int (nI k38)), (3, .int (nI (((τ t2).me) - ((τ t2).mo)))), (0, .ref mo), (1, .ref t), (2, .ref t2)]) hx hb d_Model_isSigned_405 hl (k := 3) rfl (nI_1 _) (by decide) rfl (fun ls hl => ?_)
                      refine lv_goto (tgt := 199) hx hb d_Model_isSigned_408 (by decide) ?_
                      exact ih199 ((z199 + 1)) ls (by omega) ⟨by omega, by omega⟩ (lv_sub hl [0, 4, 5, 6, 7, 8, 9, 10, 11, 12] rfl)
                  · have p278 : ¬ ((2 + ((((((τ t2).me) - ((τ t2).mo)) - 3) - 19) - 32)) ≤ z199) := (fun q9 => c278 ((nI_leI (a := (2 + ((((((τ t2).me) - ((τ t2).mo)) - 3) - 19) - 32))) (b := z199) (by omega) (by omega)).mpr q9))
                    refine lv_sipush (v := 255) hx hb d_Model_isSigned_281 (by decide) ?_
                    refine lv_istore (lv' := [(12, .int 255), (11, .int 0), (10, .int (nI (((((τ t2).me) - ((τ t2).mo)) - 1) - z199))), (9, .int (nI z199)), (8, .int (nI ((((((τ t2).me) - ((τ t2).mo)) - 3) - 19) - 32))), (7, .ref (sb.2 (10 + 3))), (6, .int (nI y103_6)), (5, .int (nI k56)), (4, .int (nI k38)), (3, .int (nI (((τ t2).me) - ((τ t2).mo)))), (0, .ref mo), (1, .ref t), (2, .ref t2)]) hx hb d_Model_isSigned_284 hl (by decide) rfl (fun ls hl => ?_)
                    refine lv_goto (tgt := 396) hx hb d_Model_isSigned_286 (by decide) ?_
                    refine lv_iload hx hb d_Model_isSigned_396 (lv_at hl 1 rfl) ?_
                    refine lv_iload hx hb d_Model_isSigned_398 (lv_at hl 0 rfl) ?_
                    refine lv_icmp_eq (tgt := 405) hx hb d_Model_isSigned_400 (by decide) (fun c400 => ?_) (fun c400 => ?_)
                    · exact absurd c400 (by decide)
                    refine lv_iconst (v := 0) hx hb d_Model_isSigned_403 (by decide) ?_
                    exact W.zret (v := 0) hx hb hr rfl (fun t ht hW => ⟨⟨_, G_13, rfl, ⟨hTy, hFR, bz_f (by decide), ⟨_, by rw [eX_12] at kmo; exact kmo⟩, ⟨_, kmmA⟩, ⟨_, kmrA⟩⟩, by rw [ht]; exact hP, va_K.moved hW.alike hK, hD⟩, hS.F ht⟩) hS.2.2 d_Model_isSigned_404
                · have p263 : z199 = 1 := ((nI_eq (a := z199) (b := 1) (by omega) (by omega)).mp c263)
                  refine lv_iconst (v := 1) hx hb d_Model_isSigned_266 (by decide) ?_
                  refine lv_istore (lv' := [(12, .int 1), (11, .int 0), (10, .int (nI (((((τ t2).me) - ((τ t2).mo)) - 1) - z199))), (9, .int (nI z199)), (8, .int (nI ((((((τ t2).me) - ((τ t2).mo)) - 3) - 19) - 32))), (7, .ref (sb.2 (10 + 3))), (6, .int (nI y103_6)), (5, .int (nI k56)), (4, .int (nI k38)), (3, .int (nI (((τ t2).me) - ((τ t2).mo)))), (0, .ref mo), (1, .ref t), (2, .ref t2)]) hx hb d_Model_isSigned_267 hl (by decide) rfl (fun ls hl => ?_)
                  refine lv_goto (tgt := 396) hx hb d_Model_isSigned_269 (by decide) ?_
                  refine lv_iload hx hb d_Model_isSigned_396 (lv_at hl 1 rfl) ?_
                  refine lv_iload hx hb d_Model_isSigned_398 (lv_at hl 0 rfl) ?_
                  refine lv_icmp_eq (tgt := 405) hx hb d_Model_isSigned_400 (by decide) (fun c400 => ?_) (fun c400 => ?_)
                  · exact absurd c400 (by decide)
                  refine lv_iconst (v := 0) hx hb d_Model_isSigned_403 (by decide) ?_
                  exact W.zret (v := 0) hx hb hr rfl (fun t ht hW => ⟨⟨_, G_13, rfl, ⟨hTy, hFR, bz_f (by decide), ⟨_, by rw [eX_12] at kmo; exact kmo⟩, ⟨_, kmmA⟩, ⟨_, kmrA⟩⟩, by rw [ht]; exact hP, va_K.moved hW.alike hK, hD⟩, hS.F ht⟩) hS.2.2 d_Model_isSigned_404
              · have p251 : z199 = 0 := ((nI_eq (a := z199) (b := 0) (by omega) (by omega)).mp c251)
                refine lv_iconst (v := 0) hx hb d_Model_isSigned_254 (by decide) ?_
                refine lv_istore (lv' := [(12, .int 0), (11, .int 0), (10, .int (nI (((((τ t2).me) - ((τ t2).mo)) - 1) - z199))), (9, .int (nI z199)), (8, .int (nI ((((((τ t2).me) - ((τ t2).mo)) - 3) - 19) - 32))), (7, .ref (sb.2 (10 + 3))), (6, .int (nI y103_6)), (5, .int (nI k56)), (4, .int (nI k38)), (3, .int (nI (((τ t2).me) - ((τ t2).mo)))), (0, .ref mo), (1, .ref t), (2, .ref t2)]) hx hb d_Model_isSigned_255 hl (by decide) rfl (fun ls hl => ?_)
                refine lv_goto (tgt := 396) hx hb d_Model_isSigned_257 (by decide) ?_
                refine lv_iload hx hb d_Model_isSigned_396 (lv_at hl 1 rfl) ?_
                refine lv_iload hx hb d_Model_isSigned_398 (lv_at hl 0 rfl) ?_
                refine lv_icmp_eq (tgt := 405) hx hb d_Model_isSigned_400 (by decide) (fun c400 => ?_) (fun c400 => ?_)
                rotate_left
                · exact absurd c400 (by decide)
                refine lv_iinc (v := nI (z199 + 1)) (lv' := [(9, .int (nI (z199 + 1))), (12, .int 0), (11, .int 0), (10, .int (nI (((((τ t2).me) - ((τ t2).mo)) - 1) - z199))), (8, .int (nI ((((((τ t2).me) - ((τ t2).mo)) - 3) - 19) - 32))), (7, .ref (sb.2 (10 + 3))), (6, .int (nI y103_6)), (5, .int (nI k56)), (4, .int (nI k38)), (3, .int (nI (((τ t2).me) - ((τ t2).mo)))), (0, .ref mo), (1, .ref t), (2, .ref t2)]) hx hb d_Model_isSigned_405 hl (k := 3) rfl (nI_1 _) (by decide) rfl (fun ls hl => ?_)
                refine lv_goto (tgt := 199) hx hb d_Model_isSigned_408 (by decide) ?_
                exact ih199 ((z199 + 1)) ls (by omega) ⟨by omega, by omega⟩ (lv_sub hl [0, 4, 5, 6, 7, 8, 9, 10, 11, 12] rfl)
            · have p219 : ¬ (y103_6 ≤ ((((((τ t2).me) - ((τ t2).mo)) - 1) - z199) / 2)) := (fun q9 => c219 ((nI_leI (a := y103_6) (b := ((((((τ t2).me) - ((τ t2).mo)) - 1) - z199) / 2)) (by omega) (by omega)).mpr q9))
              refine lv_aload_n hx hb d_Model_isSigned_222 rfl (lv_at hl 8 rfl) ?_
              obtain ⟨i_17, hg_17⟩ := List.getElem?_of_mem kmo.2
              rw [eX_12] at hg_17
              refine va_get (v := .ref myA) hx hb htb i_Model hown hK hP i_17 hg_17 rfl 17 (by decide) (htb _ q7_231) (fun _ h9 => h9) rfl d_Model_isSigned_223 ?_
              refine lv_iload hx hb d_Model_isSigned_226 (lv_at hl 0 rfl) ?_
              refine lv_iconst (v := 1) hx hb d_Model_isSigned_228 (by decide) ?_
              refine lv_ishr hx hb d_Model_isSigned_229 ?_
              rw [show ((nI (((((τ t2).me) - ((τ t2).mo)) - 1) - z199)) >>> (1 &&& 31) : Int32) = nI ((((((τ t2).me) - ((τ t2).mo)) - 1) - z199) / 2) from shr1_nI (by omega)]
              obtain ⟨i_18, f_18, hn_18, hg_18⟩ := tr_6 hTy kmyA
              have h230 : vp_in (nI ((((((τ t2).me) - ((τ t2).mo)) - 1) - z199) / 2)) 600 := vp_in_nI (by omega) (by omega)
              refine va_iald hx hb hK hP i_18 1 hg_18 rfl h230 d_Model_isSigned_230 ?_
              refine lv_topi (fun e230 he230 => ?_)
              refine lv_bipush (v := 8) hx hb d_Model_isSigned_231 (by decide) ?_
              refine lv_iload hx hb d_Model_isSigned_233 (lv_at hl 0 rfl) ?_
              refine lv_iconst (v := 1) hx hb d_Model_isSigned_235 (by decide) ?_
              refine lv_iand hx hb d_Model_isSigned_236 ?_
              refine lv_imul hx hb d_Model_isSigned_237 ?_
              refine lv_ishr hx hb d_Model_isSigned_238 ?_
              refine lv_sipush (v := 255) hx hb d_Model_isSigned_239 (by decide) ?_
              refine lv_iand hx hb d_Model_isSigned_242 ?_
              refine lv_goto (tgt := 247) hx hb d_Model_isSigned_243 (by decide) ?_
              refine lv_topi (fun v247 ev247 => ?_)
              refine lv_istore (lv' := [(11, .int v247), (10, .int (nI (((((τ t2).me) - ((τ t2).mo)) - 1) - z199))), (9, .int (nI z199)), (8, .int (nI ((((((τ t2).me) - ((τ t2).mo)) - 3) - 19) - 32))), (7, .ref (sb.2 (10 + 3))), (6, .int (nI y103_6)), (5, .int (nI k56)), (4, .int (nI k38)), (3, .int (nI (((τ t2).me) - ((τ t2).mo)))), (0, .ref mo), (1, .ref t), (2, .ref t2)]) hx hb d_Model_isSigned_247 hl (by decide) rfl (fun ls hl => ?_)
              refine lv_iload hx hb d_Model_isSigned_249 (lv_at hl 2 rfl) ?_
              refine lv_if_ne (tgt := 260) hx hb d_Model_isSigned_251 (by decide) (fun c251 => ?_) (fun c251 => ?_)
              · have p251 : ¬ (z199 = 0) := (fun q9 => c251 ((nI_eq (a := z199) (b := 0) (by omega) (by omega)).mpr q9))
                refine lv_iload hx hb d_Model_isSigned_260 (lv_at hl 2 rfl) ?_
                refine lv_iconst (v := 1) hx hb d_Model_isSigned_262 (by decide) ?_
                refine lv_icmp_ne (tgt := 272) hx hb d_Model_isSigned_263 (by decide) (fun c263 => ?_) (fun c263 => ?_)
                · have p263 : ¬ (z199 = 1) := (fun q9 => c263 ((nI_eq (a := z199) (b := 1) (by omega) (by omega)).mpr q9))
                  refine lv_iload hx hb d_Model_isSigned_272 (lv_at hl 2 rfl) ?_
                  refine lv_iconst (v := 2) hx hb d_Model_isSigned_274 (by decide) ?_
                  refine lv_iload hx hb d_Model_isSigned_275 (lv_at hl 3 rfl) ?_
                  refine lv_iadd hx hb d_Model_isSigned_277 ?_
                  rw [show (2 + (nI ((((((τ t2).me) - ((τ t2).mo)) - 3) - 19) - 32)) : Int32) = nI (2 + ((((((τ t2).me) - ((τ t2).mo)) - 3) - 19) - 32)) from nI_add 2 ((((((τ t2).me) - ((τ t2).mo)) - 3) - 19) - 32)]
                  refine lv_icmp_ge (tgt := 289) hx hb d_Model_isSigned_278 (by decide) (fun c278 => ?_) (fun c278 => ?_)
                  · have p278 : (2 + ((((((τ t2).me) - ((τ t2).mo)) - 3) - 19) - 32)) ≤ z199 := ((nI_leI (a := (2 + ((((((τ t2).me) - ((τ t2).mo)) - 3) - 19) - 32))) (b := z199) (by omega) (by omega)).mp c278)
                    refine lv_iload hx hb d_Model_isSigned_289 (lv_at hl 2 rfl) ?_
                    refine lv_iconst (v := 2) hx hb d_Model_isSigned_291 (by decide) ?_
                    refine lv_iload hx hb d_Model_isSigned_292 (lv_at hl 3 rfl) ?_
                    refine lv_iadd hx hb d_Model_isSigned_294 ?_
                    rw [show (2 + (nI ((((((τ t2).me) - ((τ t2).mo)) - 3) - 19) - 32)) : Int32) = nI (2 + ((((((τ t2).me) - ((τ t2).mo)) - 3) - 19) - 32)) from nI_add 2 ((((((τ t2).me) - ((τ t2).mo)) - 3) - 19) - 32)]
                    refine lv_icmp_ne (tgt := 304) hx hb d_Model_isSigned_295 (by decide) (fun c295 => ?_) (fun c295 => ?_)
                    · have p295 : ¬ (z199 = (2 + ((((((τ t2).me) - ((τ t2).mo)) - 3) - 19) - 32))) := (fun q9 => c295 ((nI_eq (a := z199) (b := (2 + ((((((τ t2).me) - ((τ t2).mo)) - 3) - 19) - 32))) (by omega) (by omega)).mpr q9))
                      refine lv_iload hx hb d_Model_isSigned_304 (lv_at hl 2 rfl) ?_
                      refine lv_iconst (v := 3) hx hb d_Model_isSigned_306 (by decide) ?_
                      refine lv_iload hx hb d_Model_isSigned_307 (lv_at hl 3 rfl) ?_
                      refine lv_iadd hx hb d_Model_isSigned_309 ?_
                      rw [show (3 + (nI ((((((τ t2).me) - ((τ t2).mo)) - 3) - 19) - 32)) : Int32) = nI (3 + ((((((τ t2).me) - ((τ t2).mo)) - 3) - 19) - 32)) from nI_add 3 ((((((τ t2).me) - ((τ t2).mo)) - 3) - 19) - 32)]
                      refine lv_bipush (v := 19) hx hb d_Model_isSigned_310 (by decide) ?_
                      refine lv_iadd hx hb d_Model_isSigned_312 ?_
                      rw [show ((nI (3 + ((((((τ t2).me) - ((τ t2).mo)) - 3) - 19) - 32))) + 19 : Int32) = nI ((3 + ((((((τ t2).me) - ((τ t2).mo)) - 3) - 19) - 32)) + 19) from nI_add (3 + ((((((τ t2).me) - ((τ t2).mo)) - 3) - 19) - 32)) 19]
                      refine lv_icmp_ge (tgt := 360) hx hb d_Model_isSigned_313 (by decide) (fun c313 => ?_) (fun c313 => ?_)
                      · have p313 : ((3 + ((((((τ t2).me) - ((τ t2).mo)) - 3) - 19) - 32)) + 19) ≤ z199 := ((nI_leI (a := ((3 + ((((((τ t2).me) - ((τ t2).mo)) - 3) - 19) - 32)) + 19)) (b := z199) (by omega) (by omega)).mp c313)
                        refine lv_iload hx hb d_Model_isSigned_360 (lv_at hl 2 rfl) ?_
                        refine lv_bipush (v := 22) hx hb d_Model_isSigned_362 (by decide) ?_
                        refine lv_isub hx hb d_Model_isSigned_364 ?_
                        rw [show ((nI z199) - 22 : Int32) = nI (z199 - 22) from pk_sub (a := z199) (b := 22) (by omega)]
                        refine lv_iload hx hb d_Model_isSigned_365 (lv_at hl 3 rfl) ?_
                        refine lv_isub hx hb d_Model_isSigned_367 ?_
                        rw [show ((nI (z199 - 22)) - (nI ((((((τ t2).me) - ((τ t2).mo)) - 3) - 19) - 32)) : Int32) = nI ((z199 - 22) - ((((((τ t2).me) - ((τ t2).mo)) - 3) - 19) - 32)) from pk_sub (a := (z199 - 22)) (b := ((((((τ t2).me) - ((τ t2).mo)) - 3) - 19) - 32)) (by omega)]
                        refine lv_istore (lv' := [(13, .int (nI ((z199 - 22) - ((((((τ t2).me) - ((τ t2).mo)) - 3) - 19) - 32)))), (11, .int v247), (10, .int (nI (((((τ t2).me) - ((τ t2).mo)) - 1) - z199))), (9, .int (nI z199)), (8, .int (nI ((((((τ t2).me) - ((τ t2).mo)) - 3) - 19) - 32))), (7, .ref (sb.2 (10 + 3))), (6, .int (nI y103_6)), (5, .int (nI k56)), (4, .int (nI k38)), (3, .int (nI (((τ t2).me) - ((τ t2).mo)))), (0, .ref mo), (1, .ref t), (2, .ref t2)]) hx hb d_Model_isSigned_368 hl (by decide) rfl (fun ls hl => ?_)
                        refine lv_aload_n hx hb d_Model_isSigned_370 rfl (lv_at hl 10 rfl) ?_
                        refine va_get (v := .ref mhA) hx hb htb i_Model hown hK hP i_17 hg_17 rfl 13 (by decide) (htb _ q7_227) (fun _ h9 => h9) rfl d_Model_isSigned_371 ?_
                        refine lv_iload hx hb d_Model_isSigned_374 (lv_at hl 0 rfl) ?_
                        refine lv_iconst (v := 2) hx hb d_Model_isSigned_376 (by decide) ?_
                        refine lv_ishr hx hb d_Model_isSigned_377 ?_
                        rw [show ((nI ((z199 - 22) - ((((((τ t2).me) - ((τ t2).mo)) - 3) - 19) - 32))) >>> (2 &&& 31) : Int32) = nI (((z199 - 22) - ((((((τ t2).me) - ((τ t2).mo)) - 3) - 19) - 32)) / 4) from shr2_nI _ (by omega)]
                        obtain ⟨i_19, f_19, hn_19, hg_19⟩ := tr_6 hTy kmhA
                        have h378 : vp_in (nI (((z199 - 22) - ((((((τ t2).me) - ((τ t2).mo)) - 3) - 19) - 32)) / 4)) 8 := vp_in_nI (by omega) (by omega)
                        refine va_iald hx hb hK hP i_19 1 hg_19 rfl h378 d_Model_isSigned_378 ?_
                        refine lv_topi (fun e378 he378 => ?_)
                        refine lv_bipush (v := 24) hx hb d_Model_isSigned_379 (by decide) ?_
                        refine lv_bipush (v := 8) hx hb d_Model_isSigned_381 (by decide) ?_
                        refine lv_iload hx hb d_Model_isSigned_383 (lv_at hl 0 rfl) ?_
                        refine lv_iconst (v := 3) hx hb d_Model_isSigned_385 (by decide) ?_
                        refine lv_iand hx hb d_Model_isSigned_386 ?_
                        refine lv_imul hx hb d_Model_isSigned_387 ?_
                        refine lv_isub hx hb d_Model_isSigned_388 ?_
                        refine lv_ishr hx hb d_Model_isSigned_389 ?_
                        refine lv_sipush (v := 255) hx hb d_Model_isSigned_390 (by decide) ?_
                        refine lv_iand hx hb d_Model_isSigned_393 ?_
                        refine lv_topi (fun v394 ev394 => ?_)
                        refine lv_istore (lv' := [(12, .int v394), (13, .int (nI ((z199 - 22) - ((((((τ t2).me) - ((τ t2).mo)) - 3) - 19) - 32)))), (11, .int v247), (10, .int (nI (((((τ t2).me) - ((τ t2).mo)) - 1) - z199))), (9, .int (nI z199)), (8, .int (nI ((((((τ t2).me) - ((τ t2).mo)) - 3) - 19) - 32))), (7, .ref (sb.2 (10 + 3))), (6, .int (nI y103_6)), (5, .int (nI k56)), (4, .int (nI k38)), (3, .int (nI (((τ t2).me) - ((τ t2).mo)))), (0, .ref mo), (1, .ref t), (2, .ref t2)]) hx hb d_Model_isSigned_394 hl (by decide) rfl (fun ls hl => ?_)
                        refine lv_iload hx hb d_Model_isSigned_396 (lv_at hl 2 rfl) ?_
                        refine lv_iload hx hb d_Model_isSigned_398 (lv_at hl 0 rfl) ?_
                        refine lv_icmp_eq (tgt := 405) hx hb d_Model_isSigned_400 (by decide) (fun c400 => ?_) (fun c400 => ?_)
                        · have p400 : v247 = v394 := c400
                          refine lv_iinc (v := nI (z199 + 1)) (lv' := [(9, .int (nI (z199 + 1))), (12, .int v394), (13, .int (nI ((z199 - 22) - ((((((τ t2).me) - ((τ t2).mo)) - 3) - 19) - 32)))), (11, .int v247), (10, .int (nI (((((τ t2).me) - ((τ t2).mo)) - 1) - z199))), (8, .int (nI ((((((τ t2).me) - ((τ t2).mo)) - 3) - 19) - 32))), (7, .ref (sb.2 (10 + 3))), (6, .int (nI y103_6)), (5, .int (nI k56)), (4, .int (nI k38)), (3, .int (nI (((τ t2).me) - ((τ t2).mo)))), (0, .ref mo), (1, .ref t), (2, .ref t2)]) hx hb d_Model_isSigned_405 hl (k := 4) rfl (nI_1 _) (by decide) rfl (fun ls hl => ?_)
                          refine lv_goto (tgt := 199) hx hb d_Model_isSigned_408 (by decide) ?_
                          exact ih199 ((z199 + 1)) ls (by omega) ⟨by omega, by omega⟩ (lv_sub hl [0, 5, 6, 7, 8, 9, 10, 11, 12, 13] rfl)
                        · have p400 : ¬ (v247 = v394) := c400
                          refine lv_iconst (v := 0) hx hb d_Model_isSigned_403 (by decide) ?_
                          exact W.zret (v := 0) hx hb hr rfl (fun t ht hW => ⟨⟨_, G_13, rfl, ⟨hTy, hFR, bz_f (by decide), ⟨_, by rw [eX_12] at kmo; exact kmo⟩, ⟨_, kmmA⟩, ⟨_, kmrA⟩⟩, by rw [ht]; exact hP, va_K.moved hW.alike hK, hD⟩, hS.F ht⟩) hS.2.2 d_Model_isSigned_404
                      · have p313 : ¬ (((3 + ((((((τ t2).me) - ((τ t2).mo)) - 3) - 19) - 32)) + 19) ≤ z199) := (fun q9 => c313 ((nI_leI (a := ((3 + ((((((τ t2).me) - ((τ t2).mo)) - 3) - 19) - 32)) + 19)) (b := z199) (by omega) (by omega)).mpr q9))
                        refine lv_iload hx hb d_Model_isSigned_316 (lv_at hl 2 rfl) ?_
                        refine lv_iconst (v := 3) hx hb d_Model_isSigned_318 (by decide) ?_
                        refine lv_isub hx hb d_Model_isSigned_319 ?_
                        rw [show ((nI z199) - 3 : Int32) = nI (z199 - 3) from pk_sub (a := z199) (b := 3) (by omega)]
                        refine lv_iload hx hb d_Model_isSigned_320 (lv_at hl 3 rfl) ?_
                        refine lv_isub hx hb d_Model_isSigned_322 ?_
                        rw [show ((nI (z199 - 3)) - (nI ((((((τ t2).me) - ((τ t2).mo)) - 3) - 19) - 32)) : Int32) = nI ((z199 - 3) - ((((((τ t2).me) - ((τ t2).mo)) - 3) - 19) - 32)) from pk_sub (a := (z199 - 3)) (b := ((((((τ t2).me) - ((τ t2).mo)) - 3) - 19) - 32)) (by omega)]
                        refine lv_istore (lv' := [(13, .int (nI ((z199 - 3) - ((((((τ t2).me) - ((τ t2).mo)) - 3) - 19) - 32)))), (11, .int v247), (10, .int (nI (((((τ t2).me) - ((τ t2).mo)) - 1) - z199))), (9, .int (nI z199)), (8, .int (nI ((((((τ t2).me) - ((τ t2).mo)) - 3) - 19) - 32))), (7, .ref (sb.2 (10 + 3))), (6, .int (nI y103_6)), (5, .int (nI k56)), (4, .int (nI k38)), (3, .int (nI (((τ t2).me) - ((τ t2).mo)))), (0, .ref mo), (1, .ref t), (2, .ref t2)]) hx hb d_Model_isSigned_323 hl (by decide) rfl (fun ls hl => ?_)
                        refine lv_bipush (v := 16) hx hb d_Model_isSigned_325 (by decide) ?_
                        refine lv_aload hx hb d_Model_isSigned_327 (lv_at hl 5 rfl) ?_
                        refine lv_iconst (v := 2) hx hb d_Model_isSigned_329 (by decide) ?_
                        refine lv_iload hx hb d_Model_isSigned_330 (lv_at hl 0 rfl) ?_
                        refine lv_imul hx hb d_Model_isSigned_332 ?_
                        rw [show (2 * (nI ((z199 - 3) - ((((((τ t2).me) - ((τ t2).mo)) - 3) - 19) - 32))) : Int32) = nI (2 * ((z199 - 3) - ((((((τ t2).me) - ((τ t2).mo)) - 3) - 19) - 32))) from nI_mul 2 ((z199 - 3) - ((((((τ t2).me) - ((τ t2).mo)) - 3) - 19) - 32))]
                        refine vp_callSi (pu_callK (As := [.int (nI (2 * ((z199 - 3) - ((((((τ t2).me) - ((τ t2).mo)) - 3) - 19) - 32))))]) (rest := [.int 16]) ⟨hx, hb, hml, hown, hts⟩ tbin (c_Str_charAt l dC dI sb 3 kz3 (2 * ((z199 - 3) - ((((((τ t2).me) - ((τ t2).mo)) - 3) - 19) - 32))) kz3_at (by rw [kz3_len]; omega)) q8_209 q8_142 q8_143 q1_28 q8_144 (n := 1) (by decide +kernel) rfl ⟨rfl, rfl⟩ ⟨Nat.le_of_ble_eq_true rfl, Nat.le_of_ble_eq_true rfl⟩ ⟨Nat.le_of_ble_eq_true rfl, Nat.le_of_ble_eq_true rfl⟩ hN (hT0.keep hS hAs) hK hP [] rfl [] rfl (sk_recv ((hT0.keep hS hAs).2.2.2.2.2.2.1 3 kz3 kz3_at)) hl.1 rfl (Nat.le_of_ble_eq_true rfl) d_Model_isSigned_333) (fun r333 hr333 => ?_)
                        refine vp_callSi (pu_callS (As := [.int r333]) (rest := [.int 16]) ⟨hx, hb, hml, hown, hts⟩ tbin (c_Model_hexOf l dC dI sb r333) q9_128 q8_178 q1_9 q8_179 (n := 1) (by decide +kernel) rfl ⟨rfl, rfl⟩ ⟨Nat.le_of_ble_eq_true rfl, Nat.le_of_ble_eq_true rfl⟩ ⟨Nat.le_of_ble_eq_true rfl, Nat.le_of_ble_eq_true rfl⟩ hN (hT0.keep hS hAs) hK hP [] (by simp only [List.filterMap_cons, List.filterMap_nil]) [] rfl hl.1 rfl (Nat.le_of_ble_eq_true rfl) d_Model_isSigned_336) (fun r336 hr336 => ?_)
                        refine lv_imul hx hb d_Model_isSigned_339 ?_
                        refine lv_aload hx hb d_Model_isSigned_340 (lv_at hl 5 rfl) ?_
                        refine lv_iconst (v := 2) hx hb d_Model_isSigned_342 (by decide) ?_
                        refine lv_iload hx hb d_Model_isSigned_343 (lv_at hl 0 rfl) ?_
                        refine lv_imul hx hb d_Model_isSigned_345 ?_
                        rw [show (2 * (nI ((z199 - 3) - ((((((τ t2).me) - ((τ t2).mo)) - 3) - 19) - 32))) : Int32) = nI (2 * ((z199 - 3) - ((((((τ t2).me) - ((τ t2).mo)) - 3) - 19) - 32))) from nI_mul 2 ((z199 - 3) - ((((((τ t2).me) - ((τ t2).mo)) - 3) - 19) - 32))]
                        refine lv_iconst (v := 1) hx hb d_Model_isSigned_346 (by decide) ?_
                        refine lv_iadd hx hb d_Model_isSigned_347 ?_
                        rw [show ((nI (2 * ((z199 - 3) - ((((((τ t2).me) - ((τ t2).mo)) - 3) - 19) - 32)))) + 1 : Int32) = nI ((2 * ((z199 - 3) - ((((((τ t2).me) - ((τ t2).mo)) - 3) - 19) - 32))) + 1) from nI_add (2 * ((z199 - 3) - ((((((τ t2).me) - ((τ t2).mo)) - 3) - 19) - 32))) 1]
                        refine vp_callSi (pu_callK (As := [.int (nI ((2 * ((z199 - 3) - ((((((τ t2).me) - ((τ t2).mo)) - 3) - 19) - 32))) + 1))]) (rest := [.int (16 * r336)]) ⟨hx, hb, hml, hown, hts⟩ tbin (c_Str_charAt l dC dI sb 3 kz3 ((2 * ((z199 - 3) - ((((((τ t2).me) - ((τ t2).mo)) - 3) - 19) - 32))) + 1) kz3_at (by rw [kz3_len]; omega)) q8_209 q8_142 q8_143 q1_28 q8_144 (n := 1) (by decide +kernel) rfl ⟨rfl, rfl⟩ ⟨Nat.le_of_ble_eq_true rfl, Nat.le_of_ble_eq_true rfl⟩ ⟨Nat.le_of_ble_eq_true rfl, Nat.le_of_ble_eq_true rfl⟩ hN (hT0.keep hS hAs) hK hP [] rfl [] rfl (sk_recv ((hT0.keep hS hAs).2.2.2.2.2.2.1 3 kz3 kz3_at)) hl.1 rfl (Nat.le_of_ble_eq_true rfl) d_Model_isSigned_348) (fun r348 hr348 => ?_)
                        refine vp_callSi (pu_callS (As := [.int r348]) (rest := [.int (16 * r336)]) ⟨hx, hb, hml, hown, hts⟩ tbin (c_Model_hexOf l dC dI sb r348) q9_128 q8_178 q1_9 q8_179 (n := 1) (by decide +kernel) rfl ⟨rfl, rfl⟩ ⟨Nat.le_of_ble_eq_true rfl, Nat.le_of_ble_eq_true rfl⟩ ⟨Nat.le_of_ble_eq_true rfl, Nat.le_of_ble_eq_true rfl⟩ hN (hT0.keep hS hAs) hK hP [] (by simp only [List.filterMap_cons, List.filterMap_nil]) [] rfl hl.1 rfl (Nat.le_of_ble_eq_true rfl) d_Model_isSigned_351) (fun r351 hr351 => ?_)
                        refine lv_iadd hx hb d_Model_isSigned_354 ?_
                        refine lv_topi (fun v355 ev355 => ?_)
                        refine lv_istore (lv' := [(12, .int v355), (13, .int (nI ((z199 - 3) - ((((((τ t2).me) - ((τ t2).mo)) - 3) - 19) - 32)))), (11, .int v247), (10, .int (nI (((((τ t2).me) - ((τ t2).mo)) - 1) - z199))), (9, .int (nI z199)), (8, .int (nI ((((((τ t2).me) - ((τ t2).mo)) - 3) - 19) - 32))), (7, .ref (sb.2 (10 + 3))), (6, .int (nI y103_6)), (5, .int (nI k56)), (4, .int (nI k38)), (3, .int (nI (((τ t2).me) - ((τ t2).mo)))), (0, .ref mo), (1, .ref t), (2, .ref t2)]) hx hb d_Model_isSigned_355 hl (by decide) rfl (fun ls hl => ?_)
                        refine lv_goto (tgt := 396) hx hb d_Model_isSigned_357 (by decide) ?_
                        refine lv_iload hx hb d_Model_isSigned_396 (lv_at hl 2 rfl) ?_
                        refine lv_iload hx hb d_Model_isSigned_398 (lv_at hl 0 rfl) ?_
                        refine lv_icmp_eq (tgt := 405) hx hb d_Model_isSigned_400 (by decide) (fun c400 => ?_) (fun c400 => ?_)
                        · have p400 : v247 = v355 := c400
                          refine lv_iinc (v := nI (z199 + 1)) (lv' := [(9, .int (nI (z199 + 1))), (12, .int v355), (13, .int (nI ((z199 - 3) - ((((((τ t2).me) - ((τ t2).mo)) - 3) - 19) - 32)))), (11, .int v247), (10, .int (nI (((((τ t2).me) - ((τ t2).mo)) - 1) - z199))), (8, .int (nI ((((((τ t2).me) - ((τ t2).mo)) - 3) - 19) - 32))), (7, .ref (sb.2 (10 + 3))), (6, .int (nI y103_6)), (5, .int (nI k56)), (4, .int (nI k38)), (3, .int (nI (((τ t2).me) - ((τ t2).mo)))), (0, .ref mo), (1, .ref t), (2, .ref t2)]) hx hb d_Model_isSigned_405 hl (k := 4) rfl (nI_1 _) (by decide) rfl (fun ls hl => ?_)
                          refine lv_goto (tgt := 199) hx hb d_Model_isSigned_408 (by decide) ?_
                          exact ih199 ((z199 + 1)) ls (by omega) ⟨by omega, by omega⟩ (lv_sub hl [0, 5, 6, 7, 8, 9, 10, 11, 12, 13] rfl)
                        · have p400 : ¬ (v247 = v355) := c400
                          refine lv_iconst (v := 0) hx hb d_Model_isSigned_403 (by decide) ?_
                          exact W.zret (v := 0) hx hb hr rfl (fun t ht hW => ⟨⟨_, G_13, rfl, ⟨hTy, hFR, bz_f (by decide), ⟨_, by rw [eX_12] at kmo; exact kmo⟩, ⟨_, kmmA⟩, ⟨_, kmrA⟩⟩, by rw [ht]; exact hP, va_K.moved hW.alike hK, hD⟩, hS.F ht⟩) hS.2.2 d_Model_isSigned_404
                    · have p295 : z199 = (2 + ((((((τ t2).me) - ((τ t2).mo)) - 3) - 19) - 32)) := ((nI_eq (a := z199) (b := (2 + ((((((τ t2).me) - ((τ t2).mo)) - 3) - 19) - 32))) (by omega) (by omega)).mp c295)
                      refine lv_iconst (v := 0) hx hb d_Model_isSigned_298 (by decide) ?_
                      refine lv_istore (lv' := [(12, .int 0), (11, .int v247), (10, .int (nI (((((τ t2).me) - ((τ t2).mo)) - 1) - z199))), (9, .int (nI z199)), (8, .int (nI ((((((τ t2).me) - ((τ t2).mo)) - 3) - 19) - 32))), (7, .ref (sb.2 (10 + 3))), (6, .int (nI y103_6)), (5, .int (nI k56)), (4, .int (nI k38)), (3, .int (nI (((τ t2).me) - ((τ t2).mo)))), (0, .ref mo), (1, .ref t), (2, .ref t2)]) hx hb d_Model_isSigned_299 hl (by decide) rfl (fun ls hl => ?_)
                      refine lv_goto (tgt := 396) hx hb d_Model_isSigned_301 (by decide) ?_
                      refine lv_iload hx hb d_Model_isSigned_396 (lv_at hl 1 rfl) ?_
                      refine lv_iload hx hb d_Model_isSigned_398 (lv_at hl 0 rfl) ?_
                      refine lv_icmp_eq (tgt := 405) hx hb d_Model_isSigned_400 (by decide) (fun c400 => ?_) (fun c400 => ?_)
                      · have p400 : v247 = (0 : Int32) := c400
                        refine lv_iinc (v := nI (z199 + 1)) (lv' := [(9, .int (nI (z199 + 1))), (12, .int 0), (11, .int v247), (10, .int (nI (((((τ t2).me) - ((τ t2).mo)) - 1) - z199))), (8, .int (nI ((((((τ t2).me) - ((τ t2).mo)) - 3) - 19) - 32))), (7, .ref (sb.2 (10 + 3))), (6, .int (nI y103_6)), (5, .int (nI k56)), (4, .int (nI k38)), (3, .int (nI (((τ t2).me) - ((τ t2).mo)))), (0, .ref mo), (1, .ref t), (2, .ref t2)]) hx hb d_Model_isSigned_405 hl (k := 3) rfl (nI_1 _) (by decide) rfl (fun ls hl => ?_)
                        refine lv_goto (tgt := 199) hx hb d_Model_isSigned_408 (by decide) ?_
                        exact ih199 ((z199 + 1)) ls (by omega) ⟨by omega, by omega⟩ (lv_sub hl [0, 4, 5, 6, 7, 8, 9, 10, 11, 12] rfl)
                      · have p400 : ¬ (v247 = (0 : Int32)) := c400
                        refine lv_iconst (v := 0) hx hb d_Model_isSigned_403 (by decide) ?_
                        exact W.zret (v := 0) hx hb hr rfl (fun t ht hW => ⟨⟨_, G_13, rfl, ⟨hTy, hFR, bz_f (by decide), ⟨_, by rw [eX_12] at kmo; exact kmo⟩, ⟨_, kmmA⟩, ⟨_, kmrA⟩⟩, by rw [ht]; exact hP, va_K.moved hW.alike hK, hD⟩, hS.F ht⟩) hS.2.2 d_Model_isSigned_404
                  · have p278 : ¬ ((2 + ((((((τ t2).me) - ((τ t2).mo)) - 3) - 19) - 32)) ≤ z199) := (fun q9 => c278 ((nI_leI (a := (2 + ((((((τ t2).me) - ((τ t2).mo)) - 3) - 19) - 32))) (b := z199) (by omega) (by omega)).mpr q9))
                    refine lv_sipush (v := 255) hx hb d_Model_isSigned_281 (by decide) ?_
                    refine lv_istore (lv' := [(12, .int 255), (11, .int v247), (10, .int (nI (((((τ t2).me) - ((τ t2).mo)) - 1) - z199))), (9, .int (nI z199)), (8, .int (nI ((((((τ t2).me) - ((τ t2).mo)) - 3) - 19) - 32))), (7, .ref (sb.2 (10 + 3))), (6, .int (nI y103_6)), (5, .int (nI k56)), (4, .int (nI k38)), (3, .int (nI (((τ t2).me) - ((τ t2).mo)))), (0, .ref mo), (1, .ref t), (2, .ref t2)]) hx hb d_Model_isSigned_284 hl (by decide) rfl (fun ls hl => ?_)
                    refine lv_goto (tgt := 396) hx hb d_Model_isSigned_286 (by decide) ?_
                    refine lv_iload hx hb d_Model_isSigned_396 (lv_at hl 1 rfl) ?_
                    refine lv_iload hx hb d_Model_isSigned_398 (lv_at hl 0 rfl) ?_
                    refine lv_icmp_eq (tgt := 405) hx hb d_Model_isSigned_400 (by decide) (fun c400 => ?_) (fun c400 => ?_)
                    · have p400 : v247 = (255 : Int32) := c400
                      refine lv_iinc (v := nI (z199 + 1)) (lv' := [(9, .int (nI (z199 + 1))), (12, .int 255), (11, .int v247), (10, .int (nI (((((τ t2).me) - ((τ t2).mo)) - 1) - z199))), (8, .int (nI ((((((τ t2).me) - ((τ t2).mo)) - 3) - 19) - 32))), (7, .ref (sb.2 (10 + 3))), (6, .int (nI y103_6)), (5, .int (nI k56)), (4, .int (nI k38)), (3, .int (nI (((τ t2).me) - ((τ t2).mo)))), (0, .ref mo), (1, .ref t), (2, .ref t2)]) hx hb d_Model_isSigned_405 hl (k := 3) rfl (nI_1 _) (by decide) rfl (fun ls hl => ?_)
                      refine lv_goto (tgt := 199) hx hb d_Model_isSigned_408 (by decide) ?_
                      exact ih199 ((z199 + 1)) ls (by omega) ⟨by omega, by omega⟩ (lv_sub hl [0, 4, 5, 6, 7, 8, 9, 10, 11, 12] rfl)
                    · have p400 : ¬ (v247 = (255 : Int32)) := c400
                      refine lv_iconst (v := 0) hx hb d_Model_isSigned_403 (by decide) ?_
                      exact W.zret (v := 0) hx hb hr rfl (fun t ht hW => ⟨⟨_, G_13, rfl, ⟨hTy, hFR, bz_f (by decide), ⟨_, by rw [eX_12] at kmo; exact kmo⟩, ⟨_, kmmA⟩, ⟨_, kmrA⟩⟩, by rw [ht]; exact hP, va_K.moved hW.alike hK, hD⟩, hS.F ht⟩) hS.2.2 d_Model_isSigned_404
                · have p263 : z199 = 1 := ((nI_eq (a := z199) (b := 1) (by omega) (by omega)).mp c263)
                  refine lv_iconst (v := 1) hx hb d_Model_isSigned_266 (by decide) ?_
                  refine lv_istore (lv' := [(12, .int 1), (11, .int v247), (10, .int (nI (((((τ t2).me) - ((τ t2).mo)) - 1) - z199))), (9, .int (nI z199)), (8, .int (nI ((((((τ t2).me) - ((τ t2).mo)) - 3) - 19) - 32))), (7, .ref (sb.2 (10 + 3))), (6, .int (nI y103_6)), (5, .int (nI k56)), (4, .int (nI k38)), (3, .int (nI (((τ t2).me) - ((τ t2).mo)))), (0, .ref mo), (1, .ref t), (2, .ref t2)]) hx hb d_Model_isSigned_267 hl (by decide) rfl (fun ls hl => ?_)
                  refine lv_goto (tgt := 396) hx hb d_Model_isSigned_269 (by decide) ?_
                  refine lv_iload hx hb d_Model_isSigned_396 (lv_at hl 1 rfl) ?_
                  refine lv_iload hx hb d_Model_isSigned_398 (lv_at hl 0 rfl) ?_
                  refine lv_icmp_eq (tgt := 405) hx hb d_Model_isSigned_400 (by decide) (fun c400 => ?_) (fun c400 => ?_)
                  · have p400 : v247 = (1 : Int32) := c400
                    refine lv_iinc (v := nI (z199 + 1)) (lv' := [(9, .int (nI (z199 + 1))), (12, .int 1), (11, .int v247), (10, .int (nI (((((τ t2).me) - ((τ t2).mo)) - 1) - z199))), (8, .int (nI ((((((τ t2).me) - ((τ t2).mo)) - 3) - 19) - 32))), (7, .ref (sb.2 (10 + 3))), (6, .int (nI y103_6)), (5, .int (nI k56)), (4, .int (nI k38)), (3, .int (nI (((τ t2).me) - ((τ t2).mo)))), (0, .ref mo), (1, .ref t), (2, .ref t2)]) hx hb d_Model_isSigned_405 hl (k := 3) rfl (nI_1 _) (by decide) rfl (fun ls hl => ?_)
                    refine lv_goto (tgt := 199) hx hb d_Model_isSigned_408 (by decide) ?_
                    exact ih199 ((z199 + 1)) ls (by omega) ⟨by omega, by omega⟩ (lv_sub hl [0, 4, 5, 6, 7, 8, 9, 10, 11, 12] rfl)
                  · have p400 : ¬ (v247 = (1 : Int32)) := c400
                    refine lv_iconst (v := 0) hx hb d_Model_isSigned_403 (by decide) ?_
                    exact W.zret (v := 0) hx hb hr rfl (fun t ht hW => ⟨⟨_, G_13, rfl, ⟨hTy, hFR, bz_f (by decide), ⟨_, by rw [eX_12] at kmo; exact kmo⟩, ⟨_, kmmA⟩, ⟨_, kmrA⟩⟩, by rw [ht]; exact hP, va_K.moved hW.alike hK, hD⟩, hS.F ht⟩) hS.2.2 d_Model_isSigned_404
              · have p251 : z199 = 0 := ((nI_eq (a := z199) (b := 0) (by omega) (by omega)).mp c251)
                refine lv_iconst (v := 0) hx hb d_Model_isSigned_254 (by decide) ?_
                refine lv_istore (lv' := [(12, .int 0), (11, .int v247), (10, .int (nI (((((τ t2).me) - ((τ t2).mo)) - 1) - z199))), (9, .int (nI z199)), (8, .int (nI ((((((τ t2).me) - ((τ t2).mo)) - 3) - 19) - 32))), (7, .ref (sb.2 (10 + 3))), (6, .int (nI y103_6)), (5, .int (nI k56)), (4, .int (nI k38)), (3, .int (nI (((τ t2).me) - ((τ t2).mo)))), (0, .ref mo), (1, .ref t), (2, .ref t2)]) hx hb d_Model_isSigned_255 hl (by decide) rfl (fun ls hl => ?_)
                refine lv_goto (tgt := 396) hx hb d_Model_isSigned_257 (by decide) ?_
                refine lv_iload hx hb d_Model_isSigned_396 (lv_at hl 1 rfl) ?_
                refine lv_iload hx hb d_Model_isSigned_398 (lv_at hl 0 rfl) ?_
                refine lv_icmp_eq (tgt := 405) hx hb d_Model_isSigned_400 (by decide) (fun c400 => ?_) (fun c400 => ?_)
                · have p400 : v247 = (0 : Int32) := c400
                  refine lv_iinc (v := nI (z199 + 1)) (lv' := [(9, .int (nI (z199 + 1))), (12, .int 0), (11, .int v247), (10, .int (nI (((((τ t2).me) - ((τ t2).mo)) - 1) - z199))), (8, .int (nI ((((((τ t2).me) - ((τ t2).mo)) - 3) - 19) - 32))), (7, .ref (sb.2 (10 + 3))), (6, .int (nI y103_6)), (5, .int (nI k56)), (4, .int (nI k38)), (3, .int (nI (((τ t2).me) - ((τ t2).mo)))), (0, .ref mo), (1, .ref t), (2, .ref t2)]) hx hb d_Model_isSigned_405 hl (k := 3) rfl (nI_1 _) (by decide) rfl (fun ls hl => ?_)
                  refine lv_goto (tgt := 199) hx hb d_Model_isSigned_408 (by decide) ?_
                  exact ih199 ((z199 + 1)) ls (by omega) ⟨by omega, by omega⟩ (lv_sub hl [0, 4, 5, 6, 7, 8, 9, 10, 11, 12] rfl)
                · have p400 : ¬ (v247 = (0 : Int32)) := c400
                  refine lv_iconst (v := 0) hx hb d_Model_isSigned_403 (by decide) ?_
                  exact W.zret (v := 0) hx hb hr rfl (fun t ht hW => ⟨⟨_, G_13, rfl, ⟨hTy, hFR, bz_f (by decide), ⟨_, by rw [eX_12] at kmo; exact kmo⟩, ⟨_, kmmA⟩, ⟨_, kmrA⟩⟩, by rw [ht]; exact hP, va_K.moved hW.alike hK, hD⟩, hS.F ht⟩) hS.2.2 d_Model_isSigned_404
        · have p191 : ¬ (8 ≤ ((((((τ t2).me) - ((τ t2).mo)) - 3) - 19) - 32)) := (fun q9 => c191 ((nI_leI (a := 8) (b := ((((((τ t2).me) - ((τ t2).mo)) - 3) - 19) - 32)) (by omega) (by omega)).mpr q9))
          refine lv_iconst (v := 0) hx hb d_Model_isSigned_194 (by decide) ?_
          exact W.zret (v := 0) hx hb hr rfl (fun t ht hW => ⟨⟨_, G_13, rfl, ⟨hTy, hFR, bz_f (by decide), ⟨_, by rw [eX_12] at kmo; exact kmo⟩, ⟨_, kmmA⟩, ⟨_, kmrA⟩⟩, by rw [ht]; exact hP, va_K.moved hW.alike hK, hD⟩, hS.F ht⟩) hS.2.2 d_Model_isSigned_195
      · have p105 : ¬ (x103_7 < (0 : Int32)) := c105
        have hL103 := cI_lt hJ103 p105
        refine lv_aload_n hx hb d_Model_isSigned_108 rfl (lv_at hl 5 rfl) ?_
        refine lv_aload_n hx hb d_Model_isSigned_109 rfl (lv_at hl 5 rfl) ?_
        obtain ⟨i_20, hg_20⟩ := List.getElem?_of_mem kmo.2
        rw [eX_12] at hg_20
        refine va_get (v := .ref myA) hx hb htb i_Model hown hK hP i_20 hg_20 rfl 17 (by decide) (htb _ q7_231) (fun _ h9 => h9) rfl d_Model_isSigned_110 ?_
        refine lv_iload hx hb d_Model_isSigned_113 (lv_at hl 1 rfl) ?_
        refine lv_aload_n hx hb d_Model_isSigned_115 rfl (lv_at hl 5 rfl) ?_
        refine va_get (v := .ref myA) hx hb htb i_Model hown hK hP i_20 hg_20 rfl 17 (by decide) (htb _ q7_231) (fun _ h9 => h9) rfl d_Model_isSigned_116 ?_
        refine lv_iload hx hb d_Model_isSigned_119 (lv_at hl 1 rfl) ?_
        refine lv_iload hx hb d_Model_isSigned_121 (lv_at hl 3 rfl) ?_
        have hFc := va_free (wc := G103) hD hS hA (List.range G103.length) (rg_is _)
        refine va_calli (mu_runV (As := [.ref myA, .int (nI y103_6), .ref myA, .int (nI y103_6), .int (nI k38)]) (rest := []) ⟨hx, hb, hml, hown, hts⟩ tbin (m_Model_reduced l dC dI sb γ κ Ad τ gT G103 mo myA myA _ _ _ _ _ _ _ _ _ _ _ _ _ _ _ _ _ _ _ _ _ _ _ _ _ _ _ _ _ _ _ _ _ _ _ _ _ HL103.size hTy (by have h9 := kmo; rw [eX_12] at h9; exact h9) kmyA kmyA kmmA kmrA kmzA kmqA kmyA hx_mo_mmA hx_mo_mrA hx_mmA_mrA (by omega) (by omega) (by omega) hbt38) q9_113 q9_115 qp_43 q1_9 q9_116 (n := 5) (by decide +kernel) rfl ⟨rfl, rfl⟩ ⟨Nat.le_of_ble_eq_true rfl, Nat.le_of_ble_eq_true rfl⟩ ⟨Nat.le_of_ble_eq_true rfl, Nat.le_of_ble_eq_true rfl⟩ hN (hT0.keep hS hAs) hAs (Nat.le_trans hB0 hS.1) hK hP hD (List.range G103.length) (rg_nd _) (rg_is _) [0, 1, 2, 3, 4] rfl i_20 12 hg_20 rfl rfl hl.1 rfl (Nat.le_of_ble_eq_true rfl) d_Model_isSigned_123) hS (fun q _ h => hFc q h) hFc (fun r123 G_21 tS H123 locs ht hvm hw123 hB hz1 hk1 hS => ?_)
        obtain ⟨hTy, hF9, hr123⟩ := hw123
        have kmmA := kmmA.fl hF9 (by simp only [List.mem_cons, List.not_mem_nil, or_false]; omega)
        have hFR := hFR.tr (hF9.up (by intro x h; simp only [List.mem_cons, List.not_mem_nil, or_false] at h ⊢; omega))
        obtain ⟨hP1, hK1, hD1⟩ := hB
        rw [ht] at hP1
        have hP : va_P (dC, dI) classes G_21 H123 := hP1
        have hD : va_D A G_21 := hD1.weaken (fun _ _ _ h => hFc _ h)
        obtain ⟨⟨k123, hk123, rk123⟩, ⟨q123, kmo⟩, ⟨f123, kmrA⟩⟩ := hr123
        subst rk123
        obtain ⟨cX_22, eX_22⟩ : ∃ z : va_E, z = .inr (12, (.int mer :: .int mfed :: .int mwr :: .int mct :: .int mls :: .ref moc :: .ref msT :: .ref mrV :: .ref msP :: .int q123 :: .ref mrA :: .ref mbA :: .ref mwA :: .ref mhA :: .ref mfA :: .ref mpA :: .ref mxA :: .ref myA :: .ref mmA :: .ref mqA :: .ref mzA :: .ref mwy :: .ref mfd :: .int msz :: .int mcz :: .int mch :: .int mft :: .int mpt :: .int mdp :: .int mvd :: .long mnw :: .int mmk :: [])) := ⟨_, rfl⟩
        rw [← eX_22] at kmo
        refine lv_istore (lv' := [(6, .int (nI k123)), (7, .int x103_7), (5, .int (nI k56)), (4, .int (nI k38)), (3, .int (nI (((τ t2).me) - ((τ t2).mo)))), (0, .ref mo), (1, .ref t), (2, .ref t2)]) hx hb d_Model_isSigned_126 hl (by decide) rfl (fun ls hl => ?_)
        refine lv_aload_n hx hb d_Model_isSigned_128 rfl (lv_at hl 7 rfl) ?_
        obtain ⟨i_23, kA_23, hg_23⟩ := tr_20 hTy kt2
        refine va_get (v := .int ((τ t2).I 20)) hx hb htb i_Text hown hK hP i_23 hg_23 rfl 20 (by decide) (htb _ q6_213) (fun _ h9 => h9) rfl d_Model_isSigned_129 ?_
        rw [hc_t2.e20]
        refine lv_iload hx hb d_Model_isSigned_132 (lv_at hl 1 rfl) ?_
        refine lv_ishr hx hb d_Model_isSigned_134 ?_
        refine lv_iconst (v := 1) hx hb d_Model_isSigned_135 (by decide) ?_
        refine lv_iand hx hb d_Model_isSigned_136 ?_
        refine lv_if_eq (tgt := 160) hx hb d_Model_isSigned_137 (by decide) (fun c137 => ?_) (fun c137 => ?_)
        · have p137 : (((nI ((τ t2).ex)) >>> (x103_7 &&& 31)) &&& 1) = (0 : Int32) := c137
          obtain ⟨v160, ev160⟩ : ∃ y : Int32, y = x103_7 + (-1) := ⟨_, rfl⟩
          refine lv_iinc (v := v160) (lv' := [(7, .int v160), (6, .int (nI k123)), (5, .int (nI k56)), (4, .int (nI k38)), (3, .int (nI (((τ t2).me) - ((τ t2).mo)))), (0, .ref mo), (1, .ref t), (2, .ref t2)]) hx hb d_Model_isSigned_160 hl (k := 1) rfl (by rw [ev160]; exact rfl) (by decide) rfl (fun ls hl => ?_)
          refine lv_goto (tgt := 103) hx hb d_Model_isSigned_163 (by decide) ?_
          exact ih103 (z103 + 1, v160, k123, f123, q123, G_21) _ _ ls (by dsimp only; omega) ⟨by dsimp only; omega, by dsimp only; omega, by dsimp only; omega, hTy, hFR, (by have h9 := kmo; rw [eX_22] at h9; exact h9), kmmA, kmrA, (by dsimp only; rw [ev160]; exact cI_s hJ103 hN8 p105)⟩ hP hD hS (lv_sub hl [0, 1, 2, 3, 4, 5, 6, 7] rfl)
        · have p137 : ¬ ((((nI ((τ t2).ex)) >>> (x103_7 &&& 31)) &&& 1) = (0 : Int32)) := c137
          refine lv_aload_n hx hb d_Model_isSigned_140 rfl (lv_at hl 5 rfl) ?_
          refine lv_aload_n hx hb d_Model_isSigned_141 rfl (lv_at hl 5 rfl) ?_
          obtain ⟨i_24, hg_24⟩ := List.getElem?_of_mem kmo.2
          rw [eX_22] at hg_24
          refine va_get (v := .ref myA) hx hb htb i_Model hown hK hP i_24 hg_24 rfl 17 (by decide) (htb _ q7_231) (fun _ h9 => h9) rfl d_Model_isSigned_142 ?_
          refine lv_iload hx hb d_Model_isSigned_145 (lv_at hl 0 rfl) ?_
          refine lv_aload_n hx hb d_Model_isSigned_147 rfl (lv_at hl 5 rfl) ?_
          refine va_get (v := .ref mxA) hx hb htb i_Model hown hK hP i_24 hg_24 rfl 16 (by decide) (htb _ q7_230) (fun _ h9 => h9) rfl d_Model_isSigned_148 ?_
          refine lv_iload hx hb d_Model_isSigned_151 (lv_at hl 2 rfl) ?_
          refine lv_iload hx hb d_Model_isSigned_153 (lv_at hl 3 rfl) ?_
          have hFc := va_free (wc := G_21) hD hS hA (List.range G_21.length) (rg_is _)
          refine va_calli (mu_runV (As := [.ref myA, .int (nI k123), .ref mxA, .int (nI k56), .int (nI k38)]) (rest := []) ⟨hx, hb, hml, hown, hts⟩ tbin (m_Model_reduced l dC dI sb γ κ Ad τ gT G_21 mo myA mxA _ _ _ _ _ _ _ _ _ _ _ _ _ _ _ _ _ _ _ _ _ _ _ _ _ _ _ _ _ _ _ _ _ _ _ _ _ H123.size hTy (by have h9 := kmo; rw [eX_22] at h9; exact h9) kmyA kmxA kmmA kmrA kmzA kmqA kmyA hx_mo_mmA hx_mo_mrA hx_mmA_mrA (by omega) (by omega) (by omega) hbt38) q9_113 q9_115 qp_43 q1_9 q9_116 (n := 5) (by decide +kernel) rfl ⟨rfl, rfl⟩ ⟨Nat.le_of_ble_eq_true rfl, Nat.le_of_ble_eq_true rfl⟩ ⟨Nat.le_of_ble_eq_true rfl, Nat.le_of_ble_eq_true rfl⟩ hN (hT0.keep hS hAs) hAs (Nat.le_trans hB0 hS.1) hK hP hD (List.range G_21.length) (rg_nd _) (rg_is _) [0, 1, 2, 3, 4] rfl i_24 12 hg_24 rfl rfl hl.1 rfl (Nat.le_of_ble_eq_true rfl) d_Model_isSigned_155) hS (fun q _ h => hFc q h) hFc (fun r155 G_25 tS H155 locs ht hvm hw155 hB hz1 hk1 hS => ?_)
          obtain ⟨hTy, hF9, hr155⟩ := hw155
          have kmmA := kmmA.fl hF9 (by simp only [List.mem_cons, List.not_mem_nil, or_false]; omega)
          have hFR := hFR.tr (hF9.up (by intro x h; simp only [List.mem_cons, List.not_mem_nil, or_false] at h ⊢; omega))
          obtain ⟨hP1, hK1, hD1⟩ := hB
          rw [ht] at hP1
          have hP : va_P (dC, dI) classes G_25 H155 := hP1
          have hD : va_D A G_25 := hD1.weaken (fun _ _ _ h => hFc _ h)
          obtain ⟨⟨k155, hk155, rk155⟩, ⟨q155, kmo⟩, ⟨f155, kmrA⟩⟩ := hr155
          subst rk155
          obtain ⟨cX_26, eX_26⟩ : ∃ z : va_E, z = .inr (12, (.int mer :: .int mfed :: .int mwr :: .int mct :: .int mls :: .ref moc :: .ref msT :: .ref mrV :: .ref msP :: .int q155 :: .ref mrA :: .ref mbA :: .ref mwA :: .ref mhA :: .ref mfA :: .ref mpA :: .ref mxA :: .ref myA :: .ref mmA :: .ref mqA :: .ref mzA :: .ref mwy :: .ref mfd :: .int msz :: .int mcz :: .int mch :: .int mft :: .int mpt :: .int mdp :: .int mvd :: .long mnw :: .int mmk :: [])) := ⟨_, rfl⟩
          rw [← eX_26] at kmo
          refine lv_istore (lv' := [(6, .int (nI k155)), (7, .int x103_7), (5, .int (nI k56)), (4, .int (nI k38)), (3, .int (nI (((τ t2).me) - ((τ t2).mo)))), (0, .ref mo), (1, .ref t), (2, .ref t2)]) hx hb d_Model_isSigned_158 hl (by decide) rfl (fun ls hl => ?_)
          obtain ⟨v160, ev160⟩ : ∃ y : Int32, y = x103_7 + (-1) := ⟨_, rfl⟩
          refine lv_iinc (v := v160) (lv' := [(7, .int v160), (6, .int (nI k155)), (5, .int (nI k56)), (4, .int (nI k38)), (3, .int (nI (((τ t2).me) - ((τ t2).mo)))), (0, .ref mo), (1, .ref t), (2, .ref t2)]) hx hb d_Model_isSigned_160 hl (k := 1) rfl (by rw [ev160]; exact rfl) (by decide) rfl (fun ls hl => ?_)
          refine lv_goto (tgt := 103) hx hb d_Model_isSigned_163 (by decide) ?_
          exact ih103 (z103 + 1, v160, k155, f155, q155, G_25) _ _ ls (by dsimp only; omega) ⟨by dsimp only; omega, by dsimp only; omega, by dsimp only; omega, hTy, hFR, (by have h9 := kmo; rw [eX_26] at h9; exact h9), kmmA, kmrA, (by dsimp only; rw [ev160]; exact cI_s hJ103 hN8 p105)⟩ hP hD hS (lv_sub hl [0, 1, 2, 3, 4, 5, 6, 7] rfl)
    · have p79 : ¬ (r76 < (0 : Int32)) := c79
      refine lv_iconst (v := 0) hx hb d_Model_isSigned_82 (by decide) ?_
      exact W.zret (v := 0) hx hb hr rfl (fun t ht hW => ⟨⟨_, G_7, rfl, ⟨hTy, hFR, bz_f (by decide), ⟨_, by rw [eX_mo] at kmo; exact kmo⟩, ⟨_, kmmA⟩, ⟨_, kmrA⟩⟩, by rw [ht]; exact hP, va_K.moved hW.alike hK, hD⟩, hS.F ht⟩) hS.2.2 d_Model_isSigned_83
  · have p20 : ¬ ((((τ t).se) - ((τ t).sg)) = (((τ t2).me) - ((τ t2).mo))) := (fun q9 => c20 ((nI_eq (a := (((τ t).se) - ((τ t).sg))) (b := (((τ t2).me) - ((τ t2).mo))) (by omega) (by omega)).mpr q9))
    refine lv_iconst (v := 0) hx hb d_Model_isSigned_23 (by decide) ?_
    exact W.zret (v := 0) hx hb hr rfl (fun t ht hW => ⟨⟨_, G, rfl, ⟨hTy, hFR, bz_f (by decide), ⟨_, by rw [eX_mo] at kmo; exact kmo⟩, ⟨_, kmmA⟩, ⟨_, kmrA⟩⟩, by rw [ht]; exact hP, va_K.moved hW.alike hK, hD⟩, hS.F ht⟩) hS.2.2 d_Model_isSigned_24
