/-! The reference's search returns. -/
def JGO (s9 K9 : Nat) (f : Nat → Int32) (x : Int32) : Prop := (∀ j, j < s9 → ∃ c, c < K9 ∧ f j = nI c) ∧ ∃ c, c ≤ 16 ∧ x = nI c
theorem way_s {s9 K9 z : Nat} {f f' : Nat → Int32} (h : ∀ j, j < s9 → ∃ c, c < K9 ∧ f j = nI c) (ef : f' = upd f (nI s9).toNatClampNeg (nI z)) (hz : z < K9) (hs : s9 < 2 ^ 20) : ∀ j, j < s9 + 1 → ∃ c, c < K9 ∧ f' j = nI c := fun j hj => by
  rw [nI_clamp (by omega)] at ef
  by_cases e : j = s9
  · subst e
    exact ⟨z, hz, by rw [ef]; unfold upd; rw [if_pos rfl]⟩
  · obtain ⟨c, h1, h2⟩ := h j (by omega)
    exact ⟨c, h1, by rw [ef]; unfold upd; rw [if_neg e]; exact h2⟩
def y_Model_goOn : MethodName := ⟨"TrustChainModel", "goOn", "()Z"⟩
abbrev b_Model_goOn : ByteArray := prog_14_method_32_code
def w_Model_goOn : List Cond := Cond.code y_Model_goOn b_Model_goOn 4 ((some FieldType.boolean)) :: tb
theorem d_Model_goOn_0 : decode b_Model_goOn 0 = .ok (.aload_n 0, 1) := by decide +kernel
theorem d_Model_goOn_1 : decode b_Model_goOn 1 = .ok (.getfield 19, 3) := by decide +kernel
theorem d_Model_goOn_4 : decode b_Model_goOn 4 = .ok (.aload_n 0, 1) := by decide +kernel
theorem d_Model_goOn_5 : decode b_Model_goOn 5 = .ok (.getfield 136, 3) := by decide +kernel
theorem d_Model_goOn_8 : decode b_Model_goOn 8 = .ok (.aload_n 0, 1) := by decide +kernel
theorem d_Model_goOn_9 : decode b_Model_goOn 9 = .ok (.getfield 333, 3) := by decide +kernel
theorem d_Model_goOn_12 : decode b_Model_goOn 12 = .ok (.iconst 1, 1) := by decide +kernel
theorem d_Model_goOn_13 : decode b_Model_goOn 13 = .ok (.isub, 1) := by decide +kernel
theorem d_Model_goOn_14 : decode b_Model_goOn 14 = .ok (.iaload, 1) := by decide +kernel
theorem d_Model_goOn_15 : decode b_Model_goOn 15 = .ok (.aaload, 1) := by decide +kernel
theorem d_Model_goOn_16 : decode b_Model_goOn 16 = .ok (.astore_n 1, 1) := by decide +kernel
theorem d_Model_goOn_17 : decode b_Model_goOn 17 = .ok (.aload_n 1, 1) := by decide +kernel
theorem d_Model_goOn_18 : decode b_Model_goOn 18 = .ok (.getfield 201, 3) := by decide +kernel
theorem d_Model_goOn_21 : decode b_Model_goOn 21 = .ok (.ifCond .eq 8, 3) := by decide +kernel
theorem d_Model_goOn_24 : decode b_Model_goOn 24 = .ok (.aload_n 0, 1) := by decide +kernel
theorem d_Model_goOn_25 : decode b_Model_goOn 25 = .ok (.invokevirtual 340, 3) := by decide +kernel
theorem d_Model_goOn_28 : decode b_Model_goOn 28 = .ok (.ireturn, 1) := by decide +kernel
theorem d_Model_goOn_29 : decode b_Model_goOn 29 = .ok (.aload_n 0, 1) := by decide +kernel
theorem d_Model_goOn_30 : decode b_Model_goOn 30 = .ok (.getfield 333, 3) := by decide +kernel
theorem d_Model_goOn_33 : decode b_Model_goOn 33 = .ok (.aload_n 0, 1) := by decide +kernel
theorem d_Model_goOn_34 : decode b_Model_goOn 34 = .ok (.getfield 315, 3) := by decide +kernel
theorem d_Model_goOn_37 : decode b_Model_goOn 37 = .ok (.if_icmp .ne 5, 3) := by decide +kernel
theorem d_Model_goOn_40 : decode b_Model_goOn 40 = .ok (.iconst 0, 1) := by decide +kernel
theorem d_Model_goOn_41 : decode b_Model_goOn 41 = .ok (.ireturn, 1) := by decide +kernel
theorem d_Model_goOn_42 : decode b_Model_goOn 42 = .ok (.iconst 0, 1) := by decide +kernel
theorem d_Model_goOn_43 : decode b_Model_goOn 43 = .ok (.istore_n 2, 1) := by decide +kernel
theorem d_Model_goOn_44 : decode b_Model_goOn 44 = .ok (.iload_n 2, 1) := by decide +kernel
theorem d_Model_goOn_45 : decode b_Model_goOn 45 = .ok (.aload_n 0, 1) := by decide +kernel
theorem d_Model_goOn_46 : decode b_Model_goOn 46 = .ok (.getfield 183, 3) := by decide +kernel
theorem d_Model_goOn_49 : decode b_Model_goOn 49 = .ok (.if_icmp .ge 81, 3) := by decide +kernel
theorem d_Model_goOn_52 : decode b_Model_goOn 52 = .ok (.aload_n 0, 1) := by decide +kernel
theorem d_Model_goOn_53 : decode b_Model_goOn 53 = .ok (.aload_n 1, 1) := by decide +kernel
theorem d_Model_goOn_54 : decode b_Model_goOn 54 = .ok (.iload_n 2, 1) := by decide +kernel
theorem d_Model_goOn_55 : decode b_Model_goOn 55 = .ok (.invokevirtual 343, 3) := by decide +kernel
theorem d_Model_goOn_58 : decode b_Model_goOn 58 = .ok (.ifCond .ne 6, 3) := by decide +kernel
theorem d_Model_goOn_61 : decode b_Model_goOn 61 = .ok (.goto 63, 3) := by decide +kernel
theorem d_Model_goOn_64 : decode b_Model_goOn 64 = .ok (.aload_n 0, 1) := by decide +kernel
theorem d_Model_goOn_65 : decode b_Model_goOn 65 = .ok (.getfield 330, 3) := by decide +kernel
theorem d_Model_goOn_68 : decode b_Model_goOn 68 = .ok (.sipush 1000, 3) := by decide +kernel
theorem d_Model_goOn_71 : decode b_Model_goOn 71 = .ok (.if_icmp .ne 5, 3) := by decide +kernel
theorem d_Model_goOn_74 : decode b_Model_goOn 74 = .ok (.iconst 0, 1) := by decide +kernel
theorem d_Model_goOn_75 : decode b_Model_goOn 75 = .ok (.ireturn, 1) := by decide +kernel
theorem d_Model_goOn_76 : decode b_Model_goOn 76 = .ok (.aload_n 0, 1) := by decide +kernel
theorem d_Model_goOn_77 : decode b_Model_goOn 77 = .ok (.dup, 1) := by decide +kernel
theorem d_Model_goOn_78 : decode b_Model_goOn 78 = .ok (.getfield 330, 3) := by decide +kernel
theorem d_Model_goOn_81 : decode b_Model_goOn 81 = .ok (.iconst 1, 1) := by decide +kernel
theorem d_Model_goOn_82 : decode b_Model_goOn 82 = .ok (.iadd, 1) := by decide +kernel
theorem d_Model_goOn_83 : decode b_Model_goOn 83 = .ok (.putfield 330, 3) := by decide +kernel
theorem d_Model_goOn_86 : decode b_Model_goOn 86 = .ok (.aload_n 0, 1) := by decide +kernel
theorem d_Model_goOn_87 : decode b_Model_goOn 87 = .ok (.getfield 136, 3) := by decide +kernel
theorem d_Model_goOn_90 : decode b_Model_goOn 90 = .ok (.aload_n 0, 1) := by decide +kernel
theorem d_Model_goOn_91 : decode b_Model_goOn 91 = .ok (.dup, 1) := by decide +kernel
theorem d_Model_goOn_92 : decode b_Model_goOn 92 = .ok (.getfield 333, 3) := by decide +kernel
theorem d_Model_goOn_95 : decode b_Model_goOn 95 = .ok (.dup_x1, 1) := by decide +kernel
theorem d_Model_goOn_96 : decode b_Model_goOn 96 = .ok (.iconst 1, 1) := by decide +kernel
theorem d_Model_goOn_97 : decode b_Model_goOn 97 = .ok (.iadd, 1) := by decide +kernel
theorem d_Model_goOn_98 : decode b_Model_goOn 98 = .ok (.putfield 333, 3) := by decide +kernel
theorem d_Model_goOn_101 : decode b_Model_goOn 101 = .ok (.iload_n 2, 1) := by decide +kernel
theorem d_Model_goOn_102 : decode b_Model_goOn 102 = .ok (.iastore, 1) := by decide +kernel
theorem d_Model_goOn_103 : decode b_Model_goOn 103 = .ok (.aload_n 0, 1) := by decide +kernel
theorem d_Model_goOn_104 : decode b_Model_goOn 104 = .ok (.invokevirtual 336, 3) := by decide +kernel
theorem d_Model_goOn_107 : decode b_Model_goOn 107 = .ok (.istore_n 3, 1) := by decide +kernel
theorem d_Model_goOn_108 : decode b_Model_goOn 108 = .ok (.aload_n 0, 1) := by decide +kernel
theorem d_Model_goOn_109 : decode b_Model_goOn 109 = .ok (.dup, 1) := by decide +kernel
theorem d_Model_goOn_110 : decode b_Model_goOn 110 = .ok (.getfield 333, 3) := by decide +kernel
theorem d_Model_goOn_113 : decode b_Model_goOn 113 = .ok (.iconst 1, 1) := by decide +kernel
theorem d_Model_goOn_114 : decode b_Model_goOn 114 = .ok (.isub, 1) := by decide +kernel
theorem d_Model_goOn_115 : decode b_Model_goOn 115 = .ok (.putfield 333, 3) := by decide +kernel
theorem d_Model_goOn_118 : decode b_Model_goOn 118 = .ok (.iload_n 3, 1) := by decide +kernel
theorem d_Model_goOn_119 : decode b_Model_goOn 119 = .ok (.ifCond .eq 5, 3) := by decide +kernel
theorem d_Model_goOn_122 : decode b_Model_goOn 122 = .ok (.iconst 1, 1) := by decide +kernel
theorem d_Model_goOn_123 : decode b_Model_goOn 123 = .ok (.ireturn, 1) := by decide +kernel
theorem d_Model_goOn_124 : decode b_Model_goOn 124 = .ok (.iinc 2 1, 3) := by decide +kernel
theorem d_Model_goOn_127 : decode b_Model_goOn 127 = .ok (.goto (-83), 3) := by decide +kernel
theorem d_Model_goOn_130 : decode b_Model_goOn 130 = .ok (.iconst 0, 1) := by decide +kernel
theorem d_Model_goOn_131 : decode b_Model_goOn 131 = .ok (.ireturn, 1) := by decide +kernel
def GOC (l : Launch) (dC : Nat → ClassId) (dI : Nat → Nat → Nat) (sb : sB) (γ : cG) (κ : kE) (Ad : List Nat) (τ : Nat → TD) (gT : ClassId) (r9 : Nat) : Prop := ∀ (G : va_W) (mo : Nat) (moc msT mrV msP mrA mbA mwA mhA mfA mpA mxA myA mmA mqA mzA mwy mfd : Nat) (mer mfed mwr mqs mch mft mpt mvd mmk : Int32) (mnw : Int64) (s9 K9 KL c9 : Nat) (fm fr fw : Nat → Int32) (fS fV : Nat → Option Nat) (dp : Nat) (sz : Nat) (hTy : TR γ κ Ad τ G) (kmo : Xc Ad mo (.inr (12, (.int mer :: .int mfed :: .int mwr :: .int (nI K9) :: .int (nI KL) :: .ref moc :: .ref msT :: .ref mrV :: .ref msP :: .int mqs :: .ref mrA :: .ref mbA :: .ref mwA :: .ref mhA :: .ref mfA :: .ref mpA :: .ref mxA :: .ref myA :: .ref mmA :: .ref mqA :: .ref mzA :: .ref mwy :: .ref mfd :: .int (nI s9) :: .int (nI c9) :: .int mch :: .int mft :: .int mpt :: .int (nI dp) :: .int mvd :: .long mnw :: .int mmk :: []))) G) (kmmA : Xc Ad mmA (.inl (γ.2.1, 600, .inl fm)) G) (kmrA : Xc Ad mrA (.inl (γ.2.1, 600, .inl fr)) G) (kmwy : Xc Ad mwy (.inl (γ.2.1, 16, .inl fw)) G) (kmsT : Xc Ad msT (.inl (gT, 16, .inr (.inr (.inr (.inr fS))))) G) (kmrV : Xc Ad mrV (.inl (gT, 8, .inr (.inr (.inr (.inr fV))))) G) (kmzA : tK κ Ad mzA (6, 600, 6)) (kmqA : tK κ Ad mqA (6, 600, 4)) (kmyA : tK κ Ad myA (6, 600, 5)) (kmxA : tK κ Ad mxA (6, 600, 3)) (kmbA : tK κ Ad mbA (6, 2176, 0)) (kmwA : tK κ Ad mwA (6, 64, 0)) (kmhA : tK κ Ad mhA (6, 8, 0)) (kmpA : tK κ Ad mpA (6, 64, 2)) (kmfA : tK κ Ad mfA (6, 8, 1)) (kmfd : tK κ Ad mfd (6, 16, 0)) (hx_mo_mmA : mo ≠ mmA) (hx_mo_mrA : mo ≠ mrA) (hx_mo_mwy : mo ≠ mwy) (hx_mo_msT : mo ≠ msT) (hx_mo_mrV : mo ≠ mrV) (hx_mmA_mrA : mmA ≠ mrA) (hx_mmA_mwy : mmA ≠ mwy) (hx_mmA_msT : mmA ≠ msT) (hx_mmA_mrV : mmA ≠ mrV) (hx_mrA_mwy : mrA ≠ mwy) (hx_mrA_msT : mrA ≠ msT) (hx_mrA_mrV : mrA ≠ mrV) (hx_mwy_msT : mwy ≠ msT) (hx_mwy_mrV : mwy ≠ mrV) (hx_msT_mrV : msT ≠ mrV) (hst : STc κ Ad τ K9 fS) (hrv : STl κ Ad τ KL fV) (hway : ∀ j, j < s9 → ∃ c, c < K9 ∧ fw j = nI c) (hK9 : K9 ≤ 16) (hKL : KL ≤ 8) (hs9 : s9 ≤ 16) (hfm : bR fm) (hfr : bR fr) (hs1 : 1 ≤ s9) (hc9 : c9 ≤ 16) (hs2 : s9 ≤ dp) (hs3 : dp ≤ 16) (hsr : dp ≤ s9 + r9), Met l y_Model_goOn w_Model_goOn ({ frames := (r9 + 8), cells := 0, slots := 0, locals := (r9 * 23 + 190) }) (mu_P [.ref mo] (dC, dI) sb G [(γ.1, .byte), (γ.2.1, .int), (γ.2.2.1, .long), (γ.2.2.2, .object "java/lang/Object"), (gT, .object "TrustChainModel$Text")] sz) (va_Qi (fun r (G' : va_W) => TR γ κ Ad τ G' ∧ FL Ad [mo, mmA, mrA, mwy] G G' ∧ (bz r (r = 1) ∧ (∃ (q9 d9 e9 f9 p9 : Int32) (c8 : Nat), c8 ≤ 16 ∧ Xc Ad mo (.inr (12, (.int mer :: .int mfed :: .int mwr :: .int (nI K9) :: .int (nI KL) :: .ref moc :: .ref msT :: .ref mrV :: .ref msP :: .int q9 :: .ref mrA :: .ref mbA :: .ref mwA :: .ref mhA :: .ref mfA :: .ref mpA :: .ref mxA :: .ref myA :: .ref mmA :: .ref mqA :: .ref mzA :: .ref mwy :: .ref mfd :: .int (nI s9) :: .int (nI c8) :: .int d9 :: .int f9 :: .int p9 :: .int (nI dp) :: .int e9 :: .long mnw :: .int mmk :: []))) G') ∧ (∃ f9 : Nat → Int32, bR f9 ∧ Xc Ad mmA (.inl (γ.2.1, 600, .inl f9)) G') ∧ (∃ f9 : Nat → Int32, bR f9 ∧ Xc Ad mrA (.inl (γ.2.1, 600, .inl f9)) G') ∧ (∃ f9 : Nat → Int32, Xc Ad mwy (.inl (γ.2.1, 16, .inl f9)) G' ∧ ∀ j, j < s9 → ∃ c, c < K9 ∧ f9 j = nI c))) (mu_B (dC, dI) [(γ.1, .byte), (γ.2.1, .int), (γ.2.2.1, .long), (γ.2.2.2, .object "java/lang/Object"), (gT, .object "TrustChainModel$Text")] (va_A G sz) (fun G' : va_W => G')) (va_A G sz)) 0 0 (va_A G sz)
set_option maxHeartbeats 4000000 in
set_option maxRecDepth 100000 in
theorem m_Model_goOn_0 (l : Launch) (dC : Nat → ClassId) (dI : Nat → Nat → Nat) (sb : sB) (γ : cG) (κ : kE) (Ad : List Nat) (τ : Nat → TD) (gT : ClassId) (G : va_W) (mo : Nat) (moc msT mrV msP mrA mbA mwA mhA mfA mpA mxA myA mmA mqA mzA mwy mfd : Nat) (mer mfed mwr mqs mch mft mpt mvd mmk : Int32) (mnw : Int64) (s9 K9 KL c9 : Nat) (fm fr fw : Nat → Int32) (fS fV : Nat → Option Nat) (dp : Nat) (sz : Nat) (hTy : TR γ κ Ad τ G) (kmo : Xc Ad mo (.inr (12, (.int mer :: .int mfed :: .int mwr :: .int (nI K9) :: .int (nI KL) :: .ref moc :: .ref msT :: .ref mrV :: .ref msP :: .int mqs :: .ref mrA :: .ref mbA :: .ref mwA :: .ref mhA :: .ref mfA :: .ref mpA :: .ref mxA :: .ref myA :: .ref mmA :: .ref mqA :: .ref mzA :: .ref mwy :: .ref mfd :: .int (nI s9) :: .int (nI c9) :: .int mch :: .int mft :: .int mpt :: .int (nI dp) :: .int mvd :: .long mnw :: .int mmk :: []))) G) (kmmA : Xc Ad mmA (.inl (γ.2.1, 600, .inl fm)) G) (kmrA : Xc Ad mrA (.inl (γ.2.1, 600, .inl fr)) G) (kmwy : Xc Ad mwy (.inl (γ.2.1, 16, .inl fw)) G) (kmsT : Xc Ad msT (.inl (gT, 16, .inr (.inr (.inr (.inr fS))))) G) (kmrV : Xc Ad mrV (.inl (gT, 8, .inr (.inr (.inr (.inr fV))))) G) (kmzA : tK κ Ad mzA (6, 600, 6)) (kmqA : tK κ Ad mqA (6, 600, 4)) (kmyA : tK κ Ad myA (6, 600, 5)) (kmxA : tK κ Ad mxA (6, 600, 3)) (kmbA : tK κ Ad mbA (6, 2176, 0)) (kmwA : tK κ Ad mwA (6, 64, 0)) (kmhA : tK κ Ad mhA (6, 8, 0)) (kmpA : tK κ Ad mpA (6, 64, 2)) (kmfA : tK κ Ad mfA (6, 8, 1)) (kmfd : tK κ Ad mfd (6, 16, 0)) (hx_mo_mmA : mo ≠ mmA) (hx_mo_mrA : mo ≠ mrA) (hx_mo_mwy : mo ≠ mwy) (hx_mo_msT : mo ≠ msT) (hx_mo_mrV : mo ≠ mrV) (hx_mmA_mrA : mmA ≠ mrA) (hx_mmA_mwy : mmA ≠ mwy) (hx_mmA_msT : mmA ≠ msT) (hx_mmA_mrV : mmA ≠ mrV) (hx_mrA_mwy : mrA ≠ mwy) (hx_mrA_msT : mrA ≠ msT) (hx_mrA_mrV : mrA ≠ mrV) (hx_mwy_msT : mwy ≠ msT) (hx_mwy_mrV : mwy ≠ mrV) (hx_msT_mrV : msT ≠ mrV) (hst : STc κ Ad τ K9 fS) (hrv : STl κ Ad τ KL fV) (hway : ∀ j, j < s9 → ∃ c, c < K9 ∧ fw j = nI c) (hK9 : K9 ≤ 16) (hKL : KL ≤ 8) (hs9 : s9 ≤ 16) (hfm : bR fm) (hfr : bR fr) (hs1 : 1 ≤ s9) (hc9 : c9 ≤ 16) (hs2 : s9 ≤ dp) (hs3 : dp ≤ 16) (hsr : dp ≤ s9 + 0) : Met l y_Model_goOn w_Model_goOn ({ frames := (0 + 8), cells := 0, slots := 0, locals := (0 * 23 + 190) }) (mu_P [.ref mo] (dC, dI) sb G [(γ.1, .byte), (γ.2.1, .int), (γ.2.2.1, .long), (γ.2.2.2, .object "java/lang/Object"), (gT, .object "TrustChainModel$Text")] sz) (va_Qi (fun r (G' : va_W) => TR γ κ Ad τ G' ∧ FL Ad [mo, mmA, mrA, mwy] G G' ∧ (bz r (r = 1) ∧ (∃ (q9 d9 e9 f9 p9 : Int32) (c8 : Nat), c8 ≤ 16 ∧ Xc Ad mo (.inr (12, (.int mer :: .int mfed :: .int mwr :: .int (nI K9) :: .int (nI KL) :: .ref moc :: .ref msT :: .ref mrV :: .ref msP :: .int q9 :: .ref mrA :: .ref mbA :: .ref mwA :: .ref mhA :: .ref mfA :: .ref mpA :: .ref mxA :: .ref myA :: .ref mmA :: .ref mqA :: .ref mzA :: .ref mwy :: .ref mfd :: .int (nI s9) :: .int (nI c8) :: .int d9 :: .int f9 :: .int p9 :: .int (nI dp) :: .int e9 :: .long mnw :: .int mmk :: []))) G') ∧ (∃ f9 : Nat → Int32, bR f9 ∧ Xc Ad mmA (.inl (γ.2.1, 600, .inl f9)) G') ∧ (∃ f9 : Nat → Int32, bR f9 ∧ Xc Ad mrA (.inl (γ.2.1, 600, .inl f9)) G') ∧ (∃ f9 : Nat → Int32, Xc Ad mwy (.inl (γ.2.1, 16, .inl f9)) G' ∧ ∀ j, j < s9 → ∃ c, c < K9 ∧ f9 j = nI c))) (mu_B (dC, dI) [(γ.1, .byte), (γ.2.1, .int), (γ.2.2.1, .long), (γ.2.2.2, .object "java/lang/Object"), (gT, .object "TrustChainModel$Text")] (va_A G sz) (fun G' : va_W => G')) (va_A G sz)) 0 0 (va_A G sz) := by
  refine Met.ofW (cc := b_Model_goOn) (maxL := 4) (ret := (some FieldType.boolean)) (by decide) rfl ?_
  intro p e s m args below meth c s₁ B hml hv
  obtain ⟨rfl, hsz, hB0, hP, hK, hD0, hN, hT0⟩ := hv
  have hx := B.exec
  have hb := B.bytes
  have hr := B.returns
  have hts := atoms_spec (ws := w_Model_goOn) B.pre
  have tbin : ∀ w ∈ tb, w ∈ w_Model_goOn := fun w h => List.mem_cons_of_mem _ h
  have htb : ∀ w ∈ tb, w.before _ s = true := fun w h => hts w (tbin w h)
  have hown : s.vm.findClass "TrustChainModel" = some m.cls := findClass_of_methodNamed B.named
  have hlocks := B.notSynchronized
  subst hsz
  have hD := hD0.self (sz := s.heap.size)
  generalize hAe : va_A G s.heap.size = A at hD ⊢
  have hA : ∀ q : Nat, s.heap.size ≤ q → A q := fun q h => by rw [← hAe]; exact Or.inr h
  have hAs : ∀ q : Nat, A q → sb.1 ≤ q := fun q h => by
    rw [← hAe] at h
    rcases h with ⟨k, e, h⟩ | h
    · exact hD0.2 k _ h
    · exact Nat.le_trans hB0 h
  have hS : va_S A s.heap s.heap [] := va_S.rf
  have hFR := FL.rf Ad [mo, mmA, mrA, mwy] G
  have hcs : 0 ≤ (headSpec w_Model_goOn ({ frames := (0 + 8), cells := 0, slots := 0, locals := (0 * 23 + 190) })).room.cells ∧ 0 ≤ (headSpec w_Model_goOn ({ frames := (0 + 8), cells := 0, slots := 0, locals := (0 * 23 + 190) })).room.slots := ⟨Nat.le_refl _, Nat.le_refl _⟩
  have hP : va_P (dC, dI) classes G s.heap := hP
  have hl := lv_entry ([.ref mo]) (n := 4) (Nat.le_of_ble_eq_true rfl)
  rw [lg_entry_eq]
  generalize (lg_sl ([.ref mo]) ++ List.replicate (4 - (lg_sl ([.ref mo])).length) Slot.unset).toArray = ls at hl ⊢
  have hl : lv_has ls 4 [(0, .ref mo)] := hl
  obtain ⟨cX_mo, eX_mo⟩ : ∃ z : va_E, z = .inr (12, (.int mer :: .int mfed :: .int mwr :: .int (nI K9) :: .int (nI KL) :: .ref moc :: .ref msT :: .ref mrV :: .ref msP :: .int mqs :: .ref mrA :: .ref mbA :: .ref mwA :: .ref mhA :: .ref mfA :: .ref mpA :: .ref mxA :: .ref myA :: .ref mmA :: .ref mqA :: .ref mzA :: .ref mwy :: .ref mfd :: .int (nI s9) :: .int (nI c9) :: .int mch :: .int mft :: .int mpt :: .int (nI dp) :: .int mvd :: .long mnw :: .int mmk :: [])) := ⟨_, rfl⟩
  rw [← eX_mo] at kmo
  refine lv_aload_n hx hb d_Model_goOn_0 rfl (lv_at hl 0 rfl) ?_
  obtain ⟨i_1, hg_1⟩ := List.getElem?_of_mem kmo.2
  rw [eX_mo] at hg_1
  refine va_get (v := .ref msT) hx hb htb i_Model hown hK hP i_1 hg_1 rfl 6 (by decide) (htb _ q7_220) (fun _ h9 => h9) rfl d_Model_goOn_1 ?_
  refine lv_aload_n hx hb d_Model_goOn_4 rfl (lv_at hl 0 rfl) ?_
  refine va_get (v := .ref mwy) hx hb htb i_Model hown hK hP i_1 hg_1 rfl 21 (by decide) (htb _ q7_235) (fun _ h9 => h9) rfl d_Model_goOn_5 ?_
  refine lv_aload_n hx hb d_Model_goOn_8 rfl (lv_at hl 0 rfl) ?_
  refine va_get (v := .int (nI s9)) hx hb htb i_Model hown hK hP i_1 hg_1 rfl 23 (by decide) (htb _ q7_237) (fun _ h9 => h9) rfl d_Model_goOn_9 ?_
  refine lv_iconst (v := 1) hx hb d_Model_goOn_12 (by decide) ?_
  refine lv_isub hx hb d_Model_goOn_13 ?_
  rw [show ((nI s9) - 1 : Int32) = nI (s9 - 1) from pk_sub (a := s9) (b := 1) (by omega)]
  obtain ⟨i_2, hg_2⟩ := List.getElem?_of_mem kmwy.2
  have h14 : vp_in (nI (s9 - 1)) 16 := vp_in_nI (by omega) (by omega)
  refine va_iald hx hb hK hP i_2 1 hg_2 rfl h14 d_Model_goOn_14 ?_
  refine lv_topi (fun e14 he14 => ?_)
  obtain ⟨cw14, hc1_14, hc2_14⟩ := hway (s9 - 1) (by omega)
  rw [nI_clamp (by omega), hc2_14] at he14
  subst he14
  obtain ⟨i_3, hg_3⟩ := List.getElem?_of_mem kmsT.2
  have h15 : vp_in (nI cw14) 16 := vp_in_nI (by omega) (by omega)
  refine va_aldq hx hb hK hP i_3 4 hg_3 rfl h15 d_Model_goOn_15 ?_
  obtain ⟨t15, ft15, kt15, hc_t15⟩ := hst cw14 (by omega)
  rw [show va_rf (fS (nI cw14).toNatClampNeg) = .ref t15 from by rw [nI_clamp (by omega), ft15]; rfl]
  have b1_t15 := hc_t15.b1
  have b2_t15 := hc_t15.b2
  have b3_t15 := hc_t15.b3
  have b4_t15 := hc_t15.b4
  have b5_t15 := hc_t15.b5
  have b6_t15 := hc_t15.b6
  have b8_t15 := hc_t15.b8
  have b9_t15 := hc_t15.b9
  refine lv_astore_n (lv' := [(1, .ref t15), (0, .ref mo)]) hx hb d_Model_goOn_16 rfl hl (by decide) rfl (fun ls hl => ?_)
  refine lv_aload_n hx hb d_Model_goOn_17 rfl (lv_at hl 0 rfl) ?_
  obtain ⟨i_4, kA_4, hg_4⟩ := tr_20 hTy kt15
  refine va_get (v := .int ((τ t15).I 42)) hx hb htb i_Text hown hK hP i_4 hg_4 rfl 42 (by decide) (htb _ q7_12) (fun _ h9 => h9) rfl d_Model_goOn_18 ?_
  refine lv_if_eq (tgt := 29) hx hb d_Model_goOn_21 (by decide) (fun c21 => ?_) (fun c21 => ?_)
  · have p21 : ((τ t15).I 42) = (0 : Int32) := c21
    refine lv_aload_n hx hb d_Model_goOn_29 rfl (lv_at hl 1 rfl) ?_
    refine va_get (v := .int (nI s9)) hx hb htb i_Model hown hK hP i_1 hg_1 rfl 23 (by decide) (htb _ q7_237) (fun _ h9 => h9) rfl d_Model_goOn_30 ?_
    refine lv_aload_n hx hb d_Model_goOn_33 rfl (lv_at hl 1 rfl) ?_
    refine va_get (v := .int (nI dp)) hx hb htb i_Model hown hK hP i_1 hg_1 rfl 28 (by decide) (htb _ q8_2) (fun _ h9 => h9) rfl d_Model_goOn_34 ?_
    refine lv_icmp_ne (tgt := 42) hx hb d_Model_goOn_37 (by decide) (fun c37 => ?_) (fun c37 => ?_)
    · have p37 : ¬ (s9 = dp) := (fun q9 => c37 ((nI_eq (a := s9) (b := dp) (by omega) (by omega)).mpr q9))
      exact absurd (by omega) p37
    · have p37 : s9 = dp := ((nI_eq (a := s9) (b := dp) (by omega) (by omega)).mp c37)
      refine lv_iconst (v := 0) hx hb d_Model_goOn_40 (by decide) ?_
      exact W.zret (v := 0) hx hb hr rfl (fun t ht hW => ⟨⟨_, G, rfl, ⟨hTy, hFR, bz_f (by decide), ⟨_, _, _, _, _, c9, hc9, by rw [eX_mo] at kmo; exact kmo⟩, ⟨_, hfm, kmmA⟩, ⟨_, hfr, kmrA⟩, ⟨_, kmwy, fun j hj => hway j hj⟩⟩, by rw [ht]; exact hP, va_K.moved hW.alike hK, hD⟩, hS.F ht⟩) hS.2.2 d_Model_goOn_41
  · have p21 : ¬ (((τ t15).I 42) = (0 : Int32)) := c21
    refine lv_aload_n hx hb d_Model_goOn_24 rfl (lv_at hl 1 rfl) ?_
    have hFc := va_free (wc := G) hD hS hA (List.range G.length) (rg_is _)
    refine va_calli (mu_runV (As := []) (rest := []) ⟨hx, hb, hml, hown, hts⟩ tbin (m_Model_judged l dC dI sb γ κ Ad τ gT G mo _ _ _ _ _ _ _ _ _ _ _ _ _ _ _ _ _ _ _ _ _ _ _ _ _ _ _ _ _ _ _ _ _ _ _ _ _ s.heap.size hTy (by have h9 := kmo; rw [eX_mo] at h9; exact h9) kmmA kmrA kmwy kmsT kmrV kmzA kmqA kmyA kmxA kmbA kmwA kmhA kmpA kmfA kmfd hx_mo_mmA hx_mo_mrA hx_mo_mwy hx_mo_msT hx_mo_mrV hx_mmA_mrA hx_mmA_mwy hx_mmA_msT hx_mmA_mrV hx_mrA_mwy hx_mrA_msT hx_mrA_mrV hx_mwy_msT hx_mwy_mrV hx_msT_mrV hst hrv hway (by omega) (by omega) (by omega) hfm hfr (by omega) (by omega)) q9_137 q9_139 qp_46 q1_9 q9_140 (n := 0) (by decide +kernel) rfl ⟨rfl, rfl⟩ ⟨Nat.le_of_ble_eq_true rfl, Nat.le_of_ble_eq_true rfl⟩ ⟨Nat.le_of_ble_eq_true rfl, Nat.le_of_ble_eq_true rfl⟩ hN (hT0.keep hS hAs) hAs (Nat.le_trans hB0 hS.1) hK hP hD (List.range G.length) (rg_nd _) (rg_is _) [0, 1, 2, 3, 4] rfl i_1 12 hg_1 rfl rfl hl.1 rfl (Nat.le_of_ble_eq_true rfl) d_Model_goOn_25) hS (fun q _ h => hFc q h) hFc (fun r25 G_5 tS H25 locs ht hvm hw25 hB hz1 hk1 hS => ?_)
    obtain ⟨hTy, hF9, hr25⟩ := hw25
    have kmwy := kmwy.fl hF9 (by simp only [List.mem_cons, List.not_mem_nil, or_false]; omega)
    have kmsT := kmsT.fl hF9 (by simp only [List.mem_cons, List.not_mem_nil, or_false]; omega)
    have kmrV := kmrV.fl hF9 (by simp only [List.mem_cons, List.not_mem_nil, or_false]; omega)
    have hFR := hFR.tr (hF9.up (by intro x h; simp only [List.mem_cons, List.not_mem_nil, or_false] at h ⊢; omega))
    obtain ⟨hP1, hK1, hD1⟩ := hB
    rw [ht] at hP1
    have hP : va_P (dC, dI) classes G_5 H25 := hP1
    have hD : va_D A G_5 := hD1.weaken (fun _ _ _ h => hFc _ h)
    obtain ⟨hz25, ⟨q25, d25, v25, w25, c8_25, hc8_25, kmo⟩, ⟨fa25, hfm, kmmA⟩, ⟨fb25, hfr, kmrA⟩⟩ := hr25
    obtain ⟨cX_6, eX_6⟩ : ∃ z : va_E, z = .inr (12, (.int mer :: .int mfed :: .int mwr :: .int (nI K9) :: .int (nI KL) :: .ref moc :: .ref msT :: .ref mrV :: .ref msP :: .int q25 :: .ref mrA :: .ref mbA :: .ref mwA :: .ref mhA :: .ref mfA :: .ref mpA :: .ref mxA :: .ref myA :: .ref mmA :: .ref mqA :: .ref mzA :: .ref mwy :: .ref mfd :: .int (nI s9) :: .int (nI c8_25) :: .int d25 :: .int w25 :: .int mpt :: .int (nI dp) :: .int v25 :: .long mnw :: .int mmk :: [])) := ⟨_, rfl⟩
    rw [← eX_6] at kmo
    exact W.zret (v := r25) hx hb hr (bz_n hz25) (fun t ht hW => ⟨⟨_, G_5, rfl, ⟨hTy, hFR, hz25, ⟨_, _, _, _, _, c8_25, hc8_25, by rw [eX_6] at kmo; exact kmo⟩, ⟨_, hfm, kmmA⟩, ⟨_, hfr, kmrA⟩, ⟨_, kmwy, fun j hj => hway j hj⟩⟩, by rw [ht]; exact hP, va_K.moved hW.alike hK, hD⟩, hS.F ht⟩) hS.2.2 d_Model_goOn_28
set_option maxHeartbeats 4000000 in
set_option maxRecDepth 100000 in
theorem m_Model_goOn_s (l : Launch) (dC : Nat → ClassId) (dI : Nat → Nat → Nat) (sb : sB) (γ : cG) (κ : kE) (Ad : List Nat) (τ : Nat → TD) (gT : ClassId) (G : va_W) (mo : Nat) (r9 : Nat) (IH : GOC l dC dI sb γ κ Ad τ gT r9) (moc msT mrV msP mrA mbA mwA mhA mfA mpA mxA myA mmA mqA mzA mwy mfd : Nat) (mer mfed mwr mqs mch mft mpt mvd mmk : Int32) (mnw : Int64) (s9 K9 KL c9 : Nat) (fm fr fw : Nat → Int32) (fS fV : Nat → Option Nat) (dp : Nat) (sz : Nat) (hTy : TR γ κ Ad τ G) (kmo : Xc Ad mo (.inr (12, (.int mer :: .int mfed :: .int mwr :: .int (nI K9) :: .int (nI KL) :: .ref moc :: .ref msT :: .ref mrV :: .ref msP :: .int mqs :: .ref mrA :: .ref mbA :: .ref mwA :: .ref mhA :: .ref mfA :: .ref mpA :: .ref mxA :: .ref myA :: .ref mmA :: .ref mqA :: .ref mzA :: .ref mwy :: .ref mfd :: .int (nI s9) :: .int (nI c9) :: .int mch :: .int mft :: .int mpt :: .int (nI dp) :: .int mvd :: .long mnw :: .int mmk :: []))) G) (kmmA : Xc Ad mmA (.inl (γ.2.1, 600, .inl fm)) G) (kmrA : Xc Ad mrA (.inl (γ.2.1, 600, .inl fr)) G) (kmwy : Xc Ad mwy (.inl (γ.2.1, 16, .inl fw)) G) (kmsT : Xc Ad msT (.inl (gT, 16, .inr (.inr (.inr (.inr fS))))) G) (kmrV : Xc Ad mrV (.inl (gT, 8, .inr (.inr (.inr (.inr fV))))) G) (kmzA : tK κ Ad mzA (6, 600, 6)) (kmqA : tK κ Ad mqA (6, 600, 4)) (kmyA : tK κ Ad myA (6, 600, 5)) (kmxA : tK κ Ad mxA (6, 600, 3)) (kmbA : tK κ Ad mbA (6, 2176, 0)) (kmwA : tK κ Ad mwA (6, 64, 0)) (kmhA : tK κ Ad mhA (6, 8, 0)) (kmpA : tK κ Ad mpA (6, 64, 2)) (kmfA : tK κ Ad mfA (6, 8, 1)) (kmfd : tK κ Ad mfd (6, 16, 0)) (hx_mo_mmA : mo ≠ mmA) (hx_mo_mrA : mo ≠ mrA) (hx_mo_mwy : mo ≠ mwy) (hx_mo_msT : mo ≠ msT) (hx_mo_mrV : mo ≠ mrV) (hx_mmA_mrA : mmA ≠ mrA) (hx_mmA_mwy : mmA ≠ mwy) (hx_mmA_msT : mmA ≠ msT) (hx_mmA_mrV : mmA ≠ mrV) (hx_mrA_mwy : mrA ≠ mwy) (hx_mrA_msT : mrA ≠ msT) (hx_mrA_mrV : mrA ≠ mrV) (hx_mwy_msT : mwy ≠ msT) (hx_mwy_mrV : mwy ≠ mrV) (hx_msT_mrV : msT ≠ mrV) (hst : STc κ Ad τ K9 fS) (hrv : STl κ Ad τ KL fV) (hway : ∀ j, j < s9 → ∃ c, c < K9 ∧ fw j = nI c) (hK9 : K9 ≤ 16) (hKL : KL ≤ 8) (hs9 : s9 ≤ 16) (hfm : bR fm) (hfr : bR fr) (hs1 : 1 ≤ s9) (hc9 : c9 ≤ 16) (hs2 : s9 ≤ dp) (hs3 : dp ≤ 16) (hsr : dp ≤ s9 + (r9 + 1)) : Met l y_Model_goOn w_Model_goOn ({ frames := (r9 + 1 + 8), cells := 0, slots := 0, locals := ((r9 + 1) * 23 + 190) }) (mu_P [.ref mo] (dC, dI) sb G [(γ.1, .byte), (γ.2.1, .int), (γ.2.2.1, .long), (γ.2.2.2, .object "java/lang/Object"), (gT, .object "TrustChainModel$Text")] sz) (va_Qi (fun r (G' : va_W) => TR γ κ Ad τ G' ∧ FL Ad [mo, mmA, mrA, mwy] G G' ∧ (bz r (r = 1) ∧ (∃ (q9 d9 e9 f9 p9 : Int32) (c8 : Nat), c8 ≤ 16 ∧ Xc Ad mo (.inr (12, (.int mer :: .int mfed :: .int mwr :: .int (nI K9) :: .int (nI KL) :: .ref moc :: .ref msT :: .ref mrV :: .ref msP :: .int q9 :: .ref mrA :: .ref mbA :: .ref mwA :: .ref mhA :: .ref mfA :: .ref mpA :: .ref mxA :: .ref myA :: .ref mmA :: .ref mqA :: .ref mzA :: .ref mwy :: .ref mfd :: .int (nI s9) :: .int (nI c8) :: .int d9 :: .int f9 :: .int p9 :: .int (nI dp) :: .int e9 :: .long mnw :: .int mmk :: []))) G') ∧ (∃ f9 : Nat → Int32, bR f9 ∧ Xc Ad mmA (.inl (γ.2.1, 600, .inl f9)) G') ∧ (∃ f9 : Nat → Int32, bR f9 ∧ Xc Ad mrA (.inl (γ.2.1, 600, .inl f9)) G') ∧ (∃ f9 : Nat → Int32, Xc Ad mwy (.inl (γ.2.1, 16, .inl f9)) G' ∧ ∀ j, j < s9 → ∃ c, c < K9 ∧ f9 j = nI c))) (mu_B (dC, dI) [(γ.1, .byte), (γ.2.1, .int), (γ.2.2.1, .long), (γ.2.2.2, .object "java/lang/Object"), (gT, .object "TrustChainModel$Text")] (va_A G sz) (fun G' : va_W => G')) (va_A G sz)) 0 0 (va_A G sz) := by
  refine Met.ofW (cc := b_Model_goOn) (maxL := 4) (ret := (some FieldType.boolean)) (by decide) rfl ?_
  intro p e s m args below meth c s₁ B hml hv
  obtain ⟨rfl, hsz, hB0, hP, hK, hD0, hN, hT0⟩ := hv
  have hx := B.exec
  have hb := B.bytes
  have hr := B.returns
  have hts := atoms_spec (ws := w_Model_goOn) B.pre
  have tbin : ∀ w ∈ tb, w ∈ w_Model_goOn := fun w h => List.mem_cons_of_mem _ h
  have htb : ∀ w ∈ tb, w.before _ s = true := fun w h => hts w (tbin w h)
  have hown : s.vm.findClass "TrustChainModel" = some m.cls := findClass_of_methodNamed B.named
  have hlocks := B.notSynchronized
  subst hsz
  have hD := hD0.self (sz := s.heap.size)
  generalize hAe : va_A G s.heap.size = A at hD ⊢
  have hA : ∀ q : Nat, s.heap.size ≤ q → A q := fun q h => by rw [← hAe]; exact Or.inr h
  have hAs : ∀ q : Nat, A q → sb.1 ≤ q := fun q h => by
    rw [← hAe] at h
    rcases h with ⟨k, e, h⟩ | h
    · exact hD0.2 k _ h
    · exact Nat.le_trans hB0 h
  have hS : va_S A s.heap s.heap [] := va_S.rf
  have hFR := FL.rf Ad [mo, mmA, mrA, mwy] G
  have hcs : 0 ≤ (headSpec w_Model_goOn ({ frames := (r9 + 1 + 8), cells := 0, slots := 0, locals := ((r9 + 1) * 23 + 190) })).room.cells ∧ 0 ≤ (headSpec w_Model_goOn ({ frames := (r9 + 1 + 8), cells := 0, slots := 0, locals := ((r9 + 1) * 23 + 190) })).room.slots := ⟨Nat.le_refl _, Nat.le_refl _⟩
  have hP : va_P (dC, dI) classes G s.heap := hP
  have hl := lv_entry ([.ref mo]) (n := 4) (Nat.le_of_ble_eq_true rfl)
  rw [lg_entry_eq]
  generalize (lg_sl ([.ref mo]) ++ List.replicate (4 - (lg_sl ([.ref mo])).length) Slot.unset).toArray = ls at hl ⊢
  have hl : lv_has ls 4 [(0, .ref mo)] := hl
  obtain ⟨cX_mo, eX_mo⟩ : ∃ z : va_E, z = .inr (12, (.int mer :: .int mfed :: .int mwr :: .int (nI K9) :: .int (nI KL) :: .ref moc :: .ref msT :: .ref mrV :: .ref msP :: .int mqs :: .ref mrA :: .ref mbA :: .ref mwA :: .ref mhA :: .ref mfA :: .ref mpA :: .ref mxA :: .ref myA :: .ref mmA :: .ref mqA :: .ref mzA :: .ref mwy :: .ref mfd :: .int (nI s9) :: .int (nI c9) :: .int mch :: .int mft :: .int mpt :: .int (nI dp) :: .int mvd :: .long mnw :: .int mmk :: [])) := ⟨_, rfl⟩
  rw [← eX_mo] at kmo
  refine lv_aload_n hx hb d_Model_goOn_0 rfl (lv_at hl 0 rfl) ?_
  obtain ⟨i_1, hg_1⟩ := List.getElem?_of_mem kmo.2
  rw [eX_mo] at hg_1
  refine va_get (v := .ref msT) hx hb htb i_Model hown hK hP i_1 hg_1 rfl 6 (by decide) (htb _ q7_220) (fun _ h9 => h9) rfl d_Model_goOn_1 ?_
  refine lv_aload_n hx hb d_Model_goOn_4 rfl (lv_at hl 0 rfl) ?_
  refine va_get (v := .ref mwy) hx hb htb i_Model hown hK hP i_1 hg_1 rfl 21 (by decide) (htb _ q7_235) (fun _ h9 => h9) rfl d_Model_goOn_5 ?_
  refine lv_aload_n hx hb d_Model_goOn_8 rfl (lv_at hl 0 rfl) ?_
  refine va_get (v := .int (nI s9)) hx hb htb i_Model hown hK hP i_1 hg_1 rfl 23 (by decide) (htb _ q7_237) (fun _ h9 => h9) rfl d_Model_goOn_9 ?_
  refine lv_iconst (v := 1) hx hb d_Model_goOn_12 (by decide) ?_
  refine lv_isub hx hb d_Model_goOn_13 ?_
  rw [show ((nI s9) - 1 : Int32) = nI (s9 - 1) from pk_sub (a := s9) (b := 1) (by omega)]
  obtain ⟨i_2, hg_2⟩ := List.getElem?_of_mem kmwy.2
  have h14 : vp_in (nI (s9 - 1)) 16 := vp_in_nI (by omega) (by omega)
  refine va_iald hx hb hK hP i_2 1 hg_2 rfl h14 d_Model_goOn_14 ?_
  refine lv_topi (fun e14 he14 => ?_)
  obtain ⟨cw14, hc1_14, hc2_14⟩ := hway (s9 - 1) (by omega)
  rw [nI_clamp (by omega), hc2_14] at he14
  subst he14
  obtain ⟨i_3, hg_3⟩ := List.getElem?_of_mem kmsT.2
  have h15 : vp_in (nI cw14) 16 := vp_in_nI (by omega) (by omega)
  refine va_aldq hx hb hK hP i_3 4 hg_3 rfl h15 d_Model_goOn_15 ?_
  obtain ⟨t15, ft15, kt15, hc_t15⟩ := hst cw14 (by omega)
  rw [show va_rf (fS (nI cw14).toNatClampNeg) = .ref t15 from by rw [nI_clamp (by omega), ft15]; rfl]
  have b1_t15 := hc_t15.b1
  have b2_t15 := hc_t15.b2
  have b3_t15 := hc_t15.b3
  have b4_t15 := hc_t15.b4
  have b5_t15 := hc_t15.b5
  have b6_t15 := hc_t15.b6
  have b8_t15 := hc_t15.b8
  have b9_t15 := hc_t15.b9
  refine lv_astore_n (lv' := [(1, .ref t15), (0, .ref mo)]) hx hb d_Model_goOn_16 rfl hl (by decide) rfl (fun ls hl => ?_)
  refine lv_aload_n hx hb d_Model_goOn_17 rfl (lv_at hl 0 rfl) ?_
  obtain ⟨i_4, kA_4, hg_4⟩ := tr_20 hTy kt15
  refine va_get (v := .int ((τ t15).I 42)) hx hb htb i_Text hown hK hP i_4 hg_4 rfl 42 (by decide) (htb _ q7_12) (fun _ h9 => h9) rfl d_Model_goOn_18 ?_
  refine lv_if_eq (tgt := 29) hx hb d_Model_goOn_21 (by decide) (fun c21 => ?_) (fun c21 => ?_)
  · have p21 : ((τ t15).I 42) = (0 : Int32) := c21
    refine lv_aload_n hx hb d_Model_goOn_29 rfl (lv_at hl 1 rfl) ?_
    refine va_get (v := .int (nI s9)) hx hb htb i_Model hown hK hP i_1 hg_1 rfl 23 (by decide) (htb _ q7_237) (fun _ h9 => h9) rfl d_Model_goOn_30 ?_
    refine lv_aload_n hx hb d_Model_goOn_33 rfl (lv_at hl 1 rfl) ?_
    refine va_get (v := .int (nI dp)) hx hb htb i_Model hown hK hP i_1 hg_1 rfl 28 (by decide) (htb _ q8_2) (fun _ h9 => h9) rfl d_Model_goOn_34 ?_
    refine lv_icmp_ne (tgt := 42) hx hb d_Model_goOn_37 (by decide) (fun c37 => ?_) (fun c37 => ?_)
    · have p37 : ¬ (s9 = dp) := (fun q9 => c37 ((nI_eq (a := s9) (b := dp) (by omega) (by omega)).mpr q9))
      refine lv_iconst (v := 0) hx hb d_Model_goOn_42 (by decide) ?_
      refine lv_istore_n (lv' := [(2, .int 0), (1, .ref t15), (0, .ref mo)]) hx hb d_Model_goOn_43 rfl hl (by decide) rfl (fun ls hl => ?_)
      refine w_loopW (α := Nat × (Nat → Int32) × (Nat → Int32) × (Nat → Int32) × Int32 × Int32 × Int32 × Int32 × Int32 × Int32 × va_W) (fun a9 => 0 ≤ a9.1 ∧ a9.1 ≤ K9 ∧ TR γ κ Ad τ a9.2.2.2.2.2.2.2.2.2.2 ∧ FL Ad [mo, mmA, mrA, mwy] G a9.2.2.2.2.2.2.2.2.2.2 ∧ Xc Ad mo (.inr (12, (.int mer :: .int mfed :: .int mwr :: .int (nI K9) :: .int (nI KL) :: .ref moc :: .ref msT :: .ref mrV :: .ref msP :: .int a9.2.2.2.2.1 :: .ref mrA :: .ref mbA :: .ref mwA :: .ref mhA :: .ref mfA :: .ref mpA :: .ref mxA :: .ref myA :: .ref mmA :: .ref mqA :: .ref mzA :: .ref mwy :: .ref mfd :: .int (nI s9) :: .int a9.2.2.2.2.2.2.2.2.2.1 :: .int a9.2.2.2.2.2.1 :: .int a9.2.2.2.2.2.2.2.1 :: .int a9.2.2.2.2.2.2.2.2.1 :: .int (nI dp) :: .int a9.2.2.2.2.2.2.1 :: .long mnw :: .int mmk :: []))) a9.2.2.2.2.2.2.2.2.2.2 ∧ Xc Ad mmA (.inl (γ.2.1, 600, .inl a9.2.1)) a9.2.2.2.2.2.2.2.2.2.2 ∧ Xc Ad mrA (.inl (γ.2.1, 600, .inl a9.2.2.1)) a9.2.2.2.2.2.2.2.2.2.2 ∧ Xc Ad mwy (.inl (γ.2.1, 16, .inl a9.2.2.2.1)) a9.2.2.2.2.2.2.2.2.2.2 ∧ Xc Ad msT (.inl (gT, 16, .inr (.inr (.inr (.inr fS))))) a9.2.2.2.2.2.2.2.2.2.2 ∧ Xc Ad mrV (.inl (gT, 8, .inr (.inr (.inr (.inr fV))))) a9.2.2.2.2.2.2.2.2.2.2 ∧ (JGO s9 K9 a9.2.2.2.1 a9.2.2.2.2.2.2.2.2.2.1 ∧ bR a9.2.1 ∧ bR a9.2.2.1)) (fun a9 => K9 - a9.1) (fun a9 => [(2, .int (nI a9.1)), (1, .ref t15), (0, .ref mo)]) (fun _ => []) (fun a9 => a9.2.2.2.2.2.2.2.2.2.2) 4 44 (fun a9 HL44 locs ls hJ hP hD hS hl ih44 => ?_) (0, fm, fr, fw, mqs, mch, mvd, mft, mpt, nI c9, G) _ _ ls ⟨by omega, by omega, hTy, hFR, (by have h9 := kmo; rw [eX_mo] at h9; exact h9), kmmA, kmrA, kmwy, kmsT, kmrV, ⟨⟨hway, c9, hc9, rfl⟩, hfm, hfr⟩⟩ hP hD hS (lv_sub hl [0, 1, 2] rfl)
      obtain ⟨z44, f44_mmA, f44_mrA, f44_mwy, v44_mqs, v44_mch, v44_mvd, v44_mft, v44_mpt, v44_mcz, G44⟩ := a9
      obtain ⟨hy44, hz44, hTy, hFR, kmo, kmmA, kmrA, kmwy, kmsT, kmrV, hJ44⟩ := hJ
      dsimp only at hy44 hz44 hTy hFR kmo kmmA kmrA kmwy kmsT kmrV hP hD hl ih44 hJ44
      obtain ⟨cX_5, eX_5⟩ : ∃ z : va_E, z = .inr (12, (.int mer :: .int mfed :: .int mwr :: .int (nI K9) :: .int (nI KL) :: .ref moc :: .ref msT :: .ref mrV :: .ref msP :: .int v44_mqs :: .ref mrA :: .ref mbA :: .ref mwA :: .ref mhA :: .ref mfA :: .ref mpA :: .ref mxA :: .ref myA :: .ref mmA :: .ref mqA :: .ref mzA :: .ref mwy :: .ref mfd :: .int (nI s9) :: .int v44_mcz :: .int v44_mch :: .int v44_mft :: .int v44_mpt :: .int (nI dp) :: .int v44_mvd :: .long mnw :: .int mmk :: [])) := ⟨_, rfl⟩
      rw [← eX_5] at kmo
      obtain ⟨⟨hway, c44, hc44, rfl⟩, hfm, hfr⟩ := hJ44
      refine lv_iload_n hx hb d_Model_goOn_44 rfl (lv_at hl 0 rfl) ?_
      refine lv_aload_n hx hb d_Model_goOn_45 rfl (lv_at hl 2 rfl) ?_
      obtain ⟨i_6, hg_6⟩ := List.getElem?_of_mem kmo.2
      rw [eX_5] at hg_6
      refine va_get (v := .int (nI K9)) hx hb htb i_Model hown hK hP i_6 hg_6 rfl 3 (by decide) (htb _ q7_217) (fun _ h9 => h9) rfl d_Model_goOn_46 ?_
      refine lv_icmp_ge (tgt := 130) hx hb d_Model_goOn_49 (by decide) (fun c49 => ?_) (fun c49 => ?_)
      · have p49 : K9 ≤ z44 := ((nI_leI (a := K9) (b := z44) (by omega) (by omega)).mp c49)
        refine lv_iconst (v := 0) hx hb d_Model_goOn_130 (by decide) ?_
        exact W.zret (v := 0) hx hb hr rfl (fun t ht hW => ⟨⟨_, G44, rfl, ⟨hTy, hFR, bz_f (by decide), ⟨_, _, _, _, _, c44, hc44, by rw [eX_5] at kmo; exact kmo⟩, ⟨_, hfm, kmmA⟩, ⟨_, hfr, kmrA⟩, ⟨_, kmwy, fun j hj => hway j hj⟩⟩, by rw [ht]; exact hP, va_K.moved hW.alike hK, hD⟩, hS.F ht⟩) hS.2.2 d_Model_goOn_131
      · have p49 : ¬ (K9 ≤ z44) := (fun q9 => c49 ((nI_leI (a := K9) (b := z44) (by omega) (by omega)).mpr q9))
        refine lv_aload_n hx hb d_Model_goOn_52 rfl (lv_at hl 2 rfl) ?_
        refine lv_aload_n hx hb d_Model_goOn_53 rfl (lv_at hl 1 rfl) ?_
        refine lv_iload_n hx hb d_Model_goOn_54 rfl (lv_at hl 0 rfl) ?_
        refine vp_callSi (pu_callV (As := [.ref t15, .int (nI z44)]) (rest := []) ⟨hx, hb, hml, hown, hts⟩ tbin (p_Model_mayFollow l dC dI sb γ κ Ad τ gT G44 mo t15 _ _ _ _ _ _ _ _ _ _ _ _ _ _ _ _ _ _ _ _ _ _ _ _ _ _ _ _ _ _ _ _ _ _ _ hTy (by have h9 := kmo; rw [eX_5] at h9; exact h9) kt15 hc_t15 kmwy kmsT hst hway (by omega) (by omega) (by omega)) q9_170 q9_172 qp_50 q1_9 q9_173 (n := 2) (by decide +kernel) rfl ⟨rfl, rfl⟩ ⟨show 1 + 1 ≤ r9 + 1 + 8 by omega, show 8 + (4 + 11) + 26 ≤ (r9 + 1) * 23 + 190 by omega⟩ ⟨Nat.le_of_ble_eq_true rfl, Nat.le_of_ble_eq_true rfl⟩ hN (hT0.keep hS hAs) hK hP (List.range G44.length) (rg_all G44) [0, 1, 2, 3, 4] rfl i_6 12 hg_6 rfl rfl hl.1 rfl (Nat.le_of_ble_eq_true rfl) d_Model_goOn_55) (fun r55 hr55 => ?_)
        refine lv_if_ne (tgt := 64) hx hb d_Model_goOn_58 (by decide) (fun c58 => ?_) (fun c58 => ?_)
        · have p58 : ¬ (r55 = (0 : Int32)) := c58
          refine lv_aload_n hx hb d_Model_goOn_64 rfl (lv_at hl 2 rfl) ?_
          refine va_get (v := .int v44_mpt) hx hb htb i_Model hown hK hP i_6 hg_6 rfl 27 (by decide) (htb _ q8_1) (fun _ h9 => h9) rfl d_Model_goOn_65 ?_
          refine lv_sipush (v := 1000) hx hb d_Model_goOn_68 (by decide) ?_
          refine lv_icmp_ne (tgt := 76) hx hb d_Model_goOn_71 (by decide) (fun c71 => ?_) (fun c71 => ?_)
          · have p71 : ¬ (v44_mpt = (1000 : Int32)) := c71
            refine lv_aload_n hx hb d_Model_goOn_76 rfl (lv_at hl 2 rfl) ?_
            refine lv_dup hx hb d_Model_goOn_77 rfl ?_
            refine va_get (v := .int v44_mpt) hx hb htb i_Model hown hK hP i_6 hg_6 rfl 27 (by decide) (htb _ q8_1) (fun _ h9 => h9) rfl d_Model_goOn_78 ?_
            refine lv_iconst (v := 1) hx hb d_Model_goOn_81 (by decide) ?_
            refine lv_iadd hx hb d_Model_goOn_82 ?_
            refine lv_topi (fun v83 ev83 => ?_)
            refine va_put (v := .int v83) (ty := .int) hx hb htb i_Model t_Model t_Model_ok n_Model hown hK hP hD hS i_6 hg_6 rfl 27 (by decide) (htb _ q8_1) (fun _ h9 => h9) rfl (by decide +kernel) rfl rfl (Nat.le_of_ble_eq_true rfl) d_Model_goOn_83 (fun H83 locs hP hD2 hS => ?_)
            have hP : va_P (dC, dI) classes (G44.set i_6 (mo, .inr (12, (.int mer :: .int mfed :: .int mwr :: .int (nI K9) :: .int (nI KL) :: .ref moc :: .ref msT :: .ref mrV :: .ref msP :: .int v44_mqs :: .ref mrA :: .ref mbA :: .ref mwA :: .ref mhA :: .ref mfA :: .ref mpA :: .ref mxA :: .ref myA :: .ref mmA :: .ref mqA :: .ref mzA :: .ref mwy :: .ref mfd :: .int (nI s9) :: .int (nI c44) :: .int v44_mch :: .int v44_mft :: .int v83 :: .int (nI dp) :: .int v44_mvd :: .long mnw :: .int mmk :: [])))) H83 := hP
            have hD3 : va_D A (G44.set i_6 (mo, .inr (12, (.int mer :: .int mfed :: .int mwr :: .int (nI K9) :: .int (nI KL) :: .ref moc :: .ref msT :: .ref mrV :: .ref msP :: .int v44_mqs :: .ref mrA :: .ref mbA :: .ref mwA :: .ref mhA :: .ref mfA :: .ref mpA :: .ref mxA :: .ref myA :: .ref mmA :: .ref mqA :: .ref mzA :: .ref mwy :: .ref mfd :: .int (nI s9) :: .int (nI c44) :: .int v44_mch :: .int v44_mft :: .int v83 :: .int (nI dp) :: .int v44_mvd :: .long mnw :: .int mmk :: [])))) := hD2
            have hTy := TR.setX (c' := .inr (12, (.int mer :: .int mfed :: .int mwr :: .int (nI K9) :: .int (nI KL) :: .ref moc :: .ref msT :: .ref mrV :: .ref msP :: .int v44_mqs :: .ref mrA :: .ref mbA :: .ref mwA :: .ref mhA :: .ref mfA :: .ref mpA :: .ref mxA :: .ref myA :: .ref mmA :: .ref mqA :: .ref mzA :: .ref mwy :: .ref mfd :: .int (nI s9) :: .int (nI c44) :: .int v44_mch :: .int v44_mft :: .int v83 :: .int (nI dp) :: .int v44_mvd :: .long mnw :: .int mmk :: []))) hTy hg_6 kmo.1
            have kmmA := Xc.setX (c' := .inr (12, (.int mer :: .int mfed :: .int mwr :: .int (nI K9) :: .int (nI KL) :: .ref moc :: .ref msT :: .ref mrV :: .ref msP :: .int v44_mqs :: .ref mrA :: .ref mbA :: .ref mwA :: .ref mhA :: .ref mfA :: .ref mpA :: .ref mxA :: .ref myA :: .ref mmA :: .ref mqA :: .ref mzA :: .ref mwy :: .ref mfd :: .int (nI s9) :: .int (nI c44) :: .int v44_mch :: .int v44_mft :: .int v83 :: .int (nI dp) :: .int v44_mvd :: .long mnw :: .int mmk :: []))) kmmA hg_6 (fun e => hx_mo_mmA.symm (congrArg Prod.fst e))
            have kmrA := Xc.setX (c' := .inr (12, (.int mer :: .int mfed :: .int mwr :: .int (nI K9) :: .int (nI KL) :: .ref moc :: .ref msT :: .ref mrV :: .ref msP :: .int v44_mqs :: .ref mrA :: .ref mbA :: .ref mwA :: .ref mhA :: .ref mfA :: .ref mpA :: .ref mxA :: .ref myA :: .ref mmA :: .ref mqA :: .ref mzA :: .ref mwy :: .ref mfd :: .int (nI s9) :: .int (nI c44) :: .int v44_mch :: .int v44_mft :: .int v83 :: .int (nI dp) :: .int v44_mvd :: .long mnw :: .int mmk :: []))) kmrA hg_6 (fun e => hx_mo_mrA.symm (congrArg Prod.fst e))
            have kmwy := Xc.setX (c' := .inr (12, (.int mer :: .int mfed :: .int mwr :: .int (nI K9) :: .int (nI KL) :: .ref moc :: .ref msT :: .ref mrV :: .ref msP :: .int v44_mqs :: .ref mrA :: .ref mbA :: .ref mwA :: .ref mhA :: .ref mfA :: .ref mpA :: .ref mxA :: .ref myA :: .ref mmA :: .ref mqA :: .ref mzA :: .ref mwy :: .ref mfd :: .int (nI s9) :: .int (nI c44) :: .int v44_mch :: .int v44_mft :: .int v83 :: .int (nI dp) :: .int v44_mvd :: .long mnw :: .int mmk :: []))) kmwy hg_6 (fun e => hx_mo_mwy.symm (congrArg Prod.fst e))
            have kmsT := Xc.setX (c' := .inr (12, (.int mer :: .int mfed :: .int mwr :: .int (nI K9) :: .int (nI KL) :: .ref moc :: .ref msT :: .ref mrV :: .ref msP :: .int v44_mqs :: .ref mrA :: .ref mbA :: .ref mwA :: .ref mhA :: .ref mfA :: .ref mpA :: .ref mxA :: .ref myA :: .ref mmA :: .ref mqA :: .ref mzA :: .ref mwy :: .ref mfd :: .int (nI s9) :: .int (nI c44) :: .int v44_mch :: .int v44_mft :: .int v83 :: .int (nI dp) :: .int v44_mvd :: .long mnw :: .int mmk :: []))) kmsT hg_6 (fun e => hx_mo_msT.symm (congrArg Prod.fst e))
            have kmrV := Xc.setX (c' := .inr (12, (.int mer :: .int mfed :: .int mwr :: .int (nI K9) :: .int (nI KL) :: .ref moc :: .ref msT :: .ref mrV :: .ref msP :: .int v44_mqs :: .ref mrA :: .ref mbA :: .ref mwA :: .ref mhA :: .ref mfA :: .ref mpA :: .ref mxA :: .ref myA :: .ref mmA :: .ref mqA :: .ref mzA :: .ref mwy :: .ref mfd :: .int (nI s9) :: .int (nI c44) :: .int v44_mch :: .int v44_mft :: .int v83 :: .int (nI dp) :: .int v44_mvd :: .long mnw :: .int mmk :: []))) kmrV hg_6 (fun e => hx_mo_mrV.symm (congrArg Prod.fst e))
            have hFR := hFR.tr (FL.set (Ad := Ad) (X := [mo, mmA, mrA, mwy]) (c' := .inr (12, (.int mer :: .int mfed :: .int mwr :: .int (nI K9) :: .int (nI KL) :: .ref moc :: .ref msT :: .ref mrV :: .ref msP :: .int v44_mqs :: .ref mrA :: .ref mbA :: .ref mwA :: .ref mhA :: .ref mfA :: .ref mpA :: .ref mxA :: .ref myA :: .ref mmA :: .ref mqA :: .ref mzA :: .ref mwy :: .ref mfd :: .int (nI s9) :: .int (nI c44) :: .int v44_mch :: .int v44_mft :: .int v83 :: .int (nI dp) :: .int v44_mvd :: .long mnw :: .int mmk :: []))) hg_6 (by simp))
            have hg_6 := set_here (c' := .inr (12, (.int mer :: .int mfed :: .int mwr :: .int (nI K9) :: .int (nI KL) :: .ref moc :: .ref msT :: .ref mrV :: .ref msP :: .int v44_mqs :: .ref mrA :: .ref mbA :: .ref mwA :: .ref mhA :: .ref mfA :: .ref mpA :: .ref mxA :: .ref myA :: .ref mmA :: .ref mqA :: .ref mzA :: .ref mwy :: .ref mfd :: .int (nI s9) :: .int (nI c44) :: .int v44_mch :: .int v44_mft :: .int v83 :: .int (nI dp) :: .int v44_mvd :: .long mnw :: .int mmk :: []))) hg_6
            have kmo : Xc Ad mo (.inr (12, (.int mer :: .int mfed :: .int mwr :: .int (nI K9) :: .int (nI KL) :: .ref moc :: .ref msT :: .ref mrV :: .ref msP :: .int v44_mqs :: .ref mrA :: .ref mbA :: .ref mwA :: .ref mhA :: .ref mfA :: .ref mpA :: .ref mxA :: .ref myA :: .ref mmA :: .ref mqA :: .ref mzA :: .ref mwy :: .ref mfd :: .int (nI s9) :: .int (nI c44) :: .int v44_mch :: .int v44_mft :: .int v83 :: .int (nI dp) :: .int v44_mvd :: .long mnw :: .int mmk :: []))) (G44.set i_6 (mo, .inr (12, (.int mer :: .int mfed :: .int mwr :: .int (nI K9) :: .int (nI KL) :: .ref moc :: .ref msT :: .ref mrV :: .ref msP :: .int v44_mqs :: .ref mrA :: .ref mbA :: .ref mwA :: .ref mhA :: .ref mfA :: .ref mpA :: .ref mxA :: .ref myA :: .ref mmA :: .ref mqA :: .ref mzA :: .ref mwy :: .ref mfd :: .int (nI s9) :: .int (nI c44) :: .int v44_mch :: .int v44_mft :: .int v83 :: .int (nI dp) :: .int v44_mvd :: .long mnw :: .int mmk :: [])))) := ⟨kmo.1, List.mem_of_getElem? hg_6⟩
            have hD := hD3
            clear hD3 hD2
            generalize G44.set i_6 (mo, .inr (12, (.int mer :: .int mfed :: .int mwr :: .int (nI K9) :: .int (nI KL) :: .ref moc :: .ref msT :: .ref mrV :: .ref msP :: .int v44_mqs :: .ref mrA :: .ref mbA :: .ref mwA :: .ref mhA :: .ref mfA :: .ref mpA :: .ref mxA :: .ref myA :: .ref mmA :: .ref mqA :: .ref mzA :: .ref mwy :: .ref mfd :: .int (nI s9) :: .int (nI c44) :: .int v44_mch :: .int v44_mft :: .int v83 :: .int (nI dp) :: .int v44_mvd :: .long mnw :: .int mmk :: []))) = G_7 at hP hD hTy hFR kmo kmmA kmrA kmwy kmsT kmrV hg_6
            obtain ⟨cX_8, eX_8⟩ : ∃ z : va_E, z = .inr (12, (.int mer :: .int mfed :: .int mwr :: .int (nI K9) :: .int (nI KL) :: .ref moc :: .ref msT :: .ref mrV :: .ref msP :: .int v44_mqs :: .ref mrA :: .ref mbA :: .ref mwA :: .ref mhA :: .ref mfA :: .ref mpA :: .ref mxA :: .ref myA :: .ref mmA :: .ref mqA :: .ref mzA :: .ref mwy :: .ref mfd :: .int (nI s9) :: .int (nI c44) :: .int v44_mch :: .int v44_mft :: .int v83 :: .int (nI dp) :: .int v44_mvd :: .long mnw :: .int mmk :: [])) := ⟨_, rfl⟩
            rw [← eX_8] at kmo
            refine lv_aload_n hx hb d_Model_goOn_86 rfl (lv_at hl 2 rfl) ?_
            refine va_get (v := .ref mwy) hx hb htb i_Model hown hK hP i_6 hg_6 rfl 21 (by decide) (htb _ q7_235) (fun _ h9 => h9) rfl d_Model_goOn_87 ?_
            refine lv_aload_n hx hb d_Model_goOn_90 rfl (lv_at hl 2 rfl) ?_
            refine lv_dup hx hb d_Model_goOn_91 rfl ?_
            refine va_get (v := .int (nI s9)) hx hb htb i_Model hown hK hP i_6 hg_6 rfl 23 (by decide) (htb _ q7_237) (fun _ h9 => h9) rfl d_Model_goOn_92 ?_
            refine lv_dup_x1 hx hb d_Model_goOn_95 rfl rfl ?_
            refine lv_iconst (v := 1) hx hb d_Model_goOn_96 (by decide) ?_
            refine lv_iadd hx hb d_Model_goOn_97 ?_
            rw [show ((nI s9) + 1 : Int32) = nI (s9 + 1) from nI_add s9 1]
            refine va_put (v := .int (nI (s9 + 1))) (ty := .int) hx hb htb i_Model t_Model t_Model_ok n_Model hown hK hP hD hS i_6 hg_6 rfl 23 (by decide) (htb _ q7_237) (fun _ h9 => h9) rfl (by decide +kernel) rfl rfl (Nat.le_of_ble_eq_true rfl) d_Model_goOn_98 (fun H98 locs hP hD2 hS => ?_)
            have hP : va_P (dC, dI) classes (G_7.set i_6 (mo, .inr (12, (.int mer :: .int mfed :: .int mwr :: .int (nI K9) :: .int (nI KL) :: .ref moc :: .ref msT :: .ref mrV :: .ref msP :: .int v44_mqs :: .ref mrA :: .ref mbA :: .ref mwA :: .ref mhA :: .ref mfA :: .ref mpA :: .ref mxA :: .ref myA :: .ref mmA :: .ref mqA :: .ref mzA :: .ref mwy :: .ref mfd :: .int (nI (s9 + 1)) :: .int (nI c44) :: .int v44_mch :: .int v44_mft :: .int v83 :: .int (nI dp) :: .int v44_mvd :: .long mnw :: .int mmk :: [])))) H98 := hP
            have hD3 : va_D A (G_7.set i_6 (mo, .inr (12, (.int mer :: .int mfed :: .int mwr :: .int (nI K9) :: .int (nI KL) :: .ref moc :: .ref msT :: .ref mrV :: .ref msP :: .int v44_mqs :: .ref mrA :: .ref mbA :: .ref mwA :: .ref mhA :: .ref mfA :: .ref mpA :: .ref mxA :: .ref myA :: .ref mmA :: .ref mqA :: .ref mzA :: .ref mwy :: .ref mfd :: .int (nI (s9 + 1)) :: .int (nI c44) :: .int v44_mch :: .int v44_mft :: .int v83 :: .int (nI dp) :: .int v44_mvd :: .long mnw :: .int mmk :: [])))) := hD2
            have hTy := TR.setX (c' := .inr (12, (.int mer :: .int mfed :: .int mwr :: .int (nI K9) :: .int (nI KL) :: .ref moc :: .ref msT :: .ref mrV :: .ref msP :: .int v44_mqs :: .ref mrA :: .ref mbA :: .ref mwA :: .ref mhA :: .ref mfA :: .ref mpA :: .ref mxA :: .ref myA :: .ref mmA :: .ref mqA :: .ref mzA :: .ref mwy :: .ref mfd :: .int (nI (s9 + 1)) :: .int (nI c44) :: .int v44_mch :: .int v44_mft :: .int v83 :: .int (nI dp) :: .int v44_mvd :: .long mnw :: .int mmk :: []))) hTy hg_6 kmo.1
            have kmmA := Xc.setX (c' := .inr (12, (.int mer :: .int mfed :: .int mwr :: .int (nI K9) :: .int (nI KL) :: .ref moc :: .ref msT :: .ref mrV :: .ref msP :: .int v44_mqs :: .ref mrA :: .ref mbA :: .ref mwA :: .ref mhA :: .ref mfA :: .ref mpA :: .ref mxA :: .ref myA :: .ref mmA :: .ref mqA :: .ref mzA :: .ref mwy :: .ref mfd :: .int (nI (s9 + 1)) :: .int (nI c44) :: .int v44_mch :: .int v44_mft :: .int v83 :: .int (nI dp) :: .int v44_mvd :: .long mnw :: .int mmk :: []))) kmmA hg_6 (fun e => hx_mo_mmA.symm (congrArg Prod.fst e))
            have kmrA := Xc.setX (c' := .inr (12, (.int mer :: .int mfed :: .int mwr :: .int (nI K9) :: .int (nI KL) :: .ref moc :: .ref msT :: .ref mrV :: .ref msP :: .int v44_mqs :: .ref mrA :: .ref mbA :: .ref mwA :: .ref mhA :: .ref mfA :: .ref mpA :: .ref mxA :: .ref myA :: .ref mmA :: .ref mqA :: .ref mzA :: .ref mwy :: .ref mfd :: .int (nI (s9 + 1)) :: .int (nI c44) :: .int v44_mch :: .int v44_mft :: .int v83 :: .int (nI dp) :: .int v44_mvd :: .long mnw :: .int mmk :: []))) kmrA hg_6 (fun e => hx_mo_mrA.symm (congrArg Prod.fst e))
            have kmwy := Xc.setX (c' := .inr (12, (.int mer :: .int mfed :: .int mwr :: .int (nI K9) :: .int (nI KL) :: .ref moc :: .ref msT :: .ref mrV :: .ref msP :: .int v44_mqs :: .ref mrA :: .ref mbA :: .ref mwA :: .ref mhA :: .ref mfA :: .ref mpA :: .ref mxA :: .ref myA :: .ref mmA :: .ref mqA :: .ref mzA :: .ref mwy :: .ref mfd :: .int (nI (s9 + 1)) :: .int (nI c44) :: .int v44_mch :: .int v44_mft :: .int v83 :: .int (nI dp) :: .int v44_mvd :: .long mnw :: .int mmk :: []))) kmwy hg_6 (fun e => hx_mo_mwy.symm (congrArg Prod.fst e))
            have kmsT := Xc.setX (c' := .inr (12, (.int mer :: .int mfed :: .int mwr :: .int (nI K9) :: .int (nI KL) :: .ref moc :: .ref msT :: .ref mrV :: .ref msP :: .int v44_mqs :: .ref mrA :: .ref mbA :: .ref mwA :: .ref mhA :: .ref mfA :: .ref mpA :: .ref mxA :: .ref myA :: .ref mmA :: .ref mqA :: .ref mzA :: .ref mwy :: .ref mfd :: .int (nI (s9 + 1)) :: .int (nI c44) :: .int v44_mch :: .int v44_mft :: .int v83 :: .int (nI dp) :: .int v44_mvd :: .long mnw :: .int mmk :: []))) kmsT hg_6 (fun e => hx_mo_msT.symm (congrArg Prod.fst e))
            have kmrV := Xc.setX (c' := .inr (12, (.int mer :: .int mfed :: .int mwr :: .int (nI K9) :: .int (nI KL) :: .ref moc :: .ref msT :: .ref mrV :: .ref msP :: .int v44_mqs :: .ref mrA :: .ref mbA :: .ref mwA :: .ref mhA :: .ref mfA :: .ref mpA :: .ref mxA :: .ref myA :: .ref mmA :: .ref mqA :: .ref mzA :: .ref mwy :: .ref mfd :: .int (nI (s9 + 1)) :: .int (nI c44) :: .int v44_mch :: .int v44_mft :: .int v83 :: .int (nI dp) :: .int v44_mvd :: .long mnw :: .int mmk :: []))) kmrV hg_6 (fun e => hx_mo_mrV.symm (congrArg Prod.fst e))
            have hFR := hFR.tr (FL.set (Ad := Ad) (X := [mo, mmA, mrA, mwy]) (c' := .inr (12, (.int mer :: .int mfed :: .int mwr :: .int (nI K9) :: .int (nI KL) :: .ref moc :: .ref msT :: .ref mrV :: .ref msP :: .int v44_mqs :: .ref mrA :: .ref mbA :: .ref mwA :: .ref mhA :: .ref mfA :: .ref mpA :: .ref mxA :: .ref myA :: .ref mmA :: .ref mqA :: .ref mzA :: .ref mwy :: .ref mfd :: .int (nI (s9 + 1)) :: .int (nI c44) :: .int v44_mch :: .int v44_mft :: .int v83 :: .int (nI dp) :: .int v44_mvd :: .long mnw :: .int mmk :: []))) hg_6 (by simp))
            have hg_6 := set_here (c' := .inr (12, (.int mer :: .int mfed :: .int mwr :: .int (nI K9) :: .int (nI KL) :: .ref moc :: .ref msT :: .ref mrV :: .ref msP :: .int v44_mqs :: .ref mrA :: .ref mbA :: .ref mwA :: .ref mhA :: .ref mfA :: .ref mpA :: .ref mxA :: .ref myA :: .ref mmA :: .ref mqA :: .ref mzA :: .ref mwy :: .ref mfd :: .int (nI (s9 + 1)) :: .int (nI c44) :: .int v44_mch :: .int v44_mft :: .int v83 :: .int (nI dp) :: .int v44_mvd :: .long mnw :: .int mmk :: []))) hg_6
            have kmo : Xc Ad mo (.inr (12, (.int mer :: .int mfed :: .int mwr :: .int (nI K9) :: .int (nI KL) :: .ref moc :: .ref msT :: .ref mrV :: .ref msP :: .int v44_mqs :: .ref mrA :: .ref mbA :: .ref mwA :: .ref mhA :: .ref mfA :: .ref mpA :: .ref mxA :: .ref myA :: .ref mmA :: .ref mqA :: .ref mzA :: .ref mwy :: .ref mfd :: .int (nI (s9 + 1)) :: .int (nI c44) :: .int v44_mch :: .int v44_mft :: .int v83 :: .int (nI dp) :: .int v44_mvd :: .long mnw :: .int mmk :: []))) (G_7.set i_6 (mo, .inr (12, (.int mer :: .int mfed :: .int mwr :: .int (nI K9) :: .int (nI KL) :: .ref moc :: .ref msT :: .ref mrV :: .ref msP :: .int v44_mqs :: .ref mrA :: .ref mbA :: .ref mwA :: .ref mhA :: .ref mfA :: .ref mpA :: .ref mxA :: .ref myA :: .ref mmA :: .ref mqA :: .ref mzA :: .ref mwy :: .ref mfd :: .int (nI (s9 + 1)) :: .int (nI c44) :: .int v44_mch :: .int v44_mft :: .int v83 :: .int (nI dp) :: .int v44_mvd :: .long mnw :: .int mmk :: [])))) := ⟨kmo.1, List.mem_of_getElem? hg_6⟩
            have hD := hD3
            clear hD3 hD2
            generalize G_7.set i_6 (mo, .inr (12, (.int mer :: .int mfed :: .int mwr :: .int (nI K9) :: .int (nI KL) :: .ref moc :: .ref msT :: .ref mrV :: .ref msP :: .int v44_mqs :: .ref mrA :: .ref mbA :: .ref mwA :: .ref mhA :: .ref mfA :: .ref mpA :: .ref mxA :: .ref myA :: .ref mmA :: .ref mqA :: .ref mzA :: .ref mwy :: .ref mfd :: .int (nI (s9 + 1)) :: .int (nI c44) :: .int v44_mch :: .int v44_mft :: .int v83 :: .int (nI dp) :: .int v44_mvd :: .long mnw :: .int mmk :: []))) = G_9 at hP hD hTy hFR kmo kmmA kmrA kmwy kmsT kmrV hg_6
            obtain ⟨cX_10, eX_10⟩ : ∃ z : va_E, z = .inr (12, (.int mer :: .int mfed :: .int mwr :: .int (nI K9) :: .int (nI KL) :: .ref moc :: .ref msT :: .ref mrV :: .ref msP :: .int v44_mqs :: .ref mrA :: .ref mbA :: .ref mwA :: .ref mhA :: .ref mfA :: .ref mpA :: .ref mxA :: .ref myA :: .ref mmA :: .ref mqA :: .ref mzA :: .ref mwy :: .ref mfd :: .int (nI (s9 + 1)) :: .int (nI c44) :: .int v44_mch :: .int v44_mft :: .int v83 :: .int (nI dp) :: .int v44_mvd :: .long mnw :: .int mmk :: [])) := ⟨_, rfl⟩
            rw [← eX_10] at kmo
            refine lv_iload_n hx hb d_Model_goOn_101 rfl (lv_at hl 0 rfl) ?_
            obtain ⟨i_11, hg_11⟩ := List.getElem?_of_mem kmwy.2
            have h102 : vp_in (nI s9) 16 := vp_in_nI (by omega) (by omega)
            refine va_iast hx hb hK hP hD hS i_11 1 hg_11 rfl h102 d_Model_goOn_102 (fun H102 locs hP hD2 hS => ?_)
            obtain ⟨f102, ef102⟩ : ∃ z : Nat → Int32, z = upd f44_mwy (nI s9).toNatClampNeg (nI z44) := ⟨_, rfl⟩
            rw [← ef102] at hP hD2
            have hP : va_P (dC, dI) classes (G_9.set i_11 (mwy, .inl (γ.2.1, 16, .inl f102))) H102 := hP
            have hD3 : va_D A (G_9.set i_11 (mwy, .inl (γ.2.1, 16, .inl f102))) := hD2
            have hTy := TR.setX (c' := .inl (γ.2.1, 16, .inl f102)) hTy hg_11 kmwy.1
            have kmo := Xc.setX (c' := .inl (γ.2.1, 16, .inl f102)) kmo hg_11 (fun e => hx_mo_mwy (congrArg Prod.fst e))
            have kmmA := Xc.setX (c' := .inl (γ.2.1, 16, .inl f102)) kmmA hg_11 (fun e => hx_mmA_mwy (congrArg Prod.fst e))
            have kmrA := Xc.setX (c' := .inl (γ.2.1, 16, .inl f102)) kmrA hg_11 (fun e => hx_mrA_mwy (congrArg Prod.fst e))
            have kmsT := Xc.setX (c' := .inl (γ.2.1, 16, .inl f102)) kmsT hg_11 (fun e => hx_mwy_msT.symm (congrArg Prod.fst e))
            have kmrV := Xc.setX (c' := .inl (γ.2.1, 16, .inl f102)) kmrV hg_11 (fun e => hx_mwy_mrV.symm (congrArg Prod.fst e))
            have hFR := hFR.tr (FL.set (Ad := Ad) (X := [mo, mmA, mrA, mwy]) (c' := .inl (γ.2.1, 16, .inl f102)) hg_11 (by simp))
            have hg_11 := set_here (c' := .inl (γ.2.1, 16, .inl f102)) hg_11
            have kmwy : Xc Ad mwy (.inl (γ.2.1, 16, .inl f102)) (G_9.set i_11 (mwy, .inl (γ.2.1, 16, .inl f102))) := ⟨kmwy.1, List.mem_of_getElem? hg_11⟩
            have hD := hD3
            clear hD3 hD2
            generalize G_9.set i_11 (mwy, .inl (γ.2.1, 16, .inl f102)) = G_12 at hP hD hTy hFR kmo kmmA kmrA kmwy kmsT kmrV hg_11
            refine lv_aload_n hx hb d_Model_goOn_103 rfl (lv_at hl 2 rfl) ?_
            have hFc := va_free (wc := G_12) hD hS hA (List.range G_12.length) (rg_is _)
            obtain ⟨i_14, hg_14⟩ := List.getElem?_of_mem kmo.2
            rw [eX_10] at hg_14
            refine va_calli (mu_runV (As := []) (rest := []) ⟨hx, hb, hml, hown, hts⟩ tbin (IH G_12 mo _ _ _ _ _ _ _ _ _ _ _ _ _ _ _ _ _ _ _ _ _ _ _ _ _ _ _ _ _ _ _ _ _ _ _ _ _ H102.size hTy (by have h9 := kmo; rw [eX_10] at h9; exact h9) kmmA kmrA kmwy kmsT kmrV kmzA kmqA kmyA kmxA kmbA kmwA kmhA kmpA kmfA kmfd hx_mo_mmA hx_mo_mrA hx_mo_mwy hx_mo_msT hx_mo_mrV hx_mmA_mrA hx_mmA_mwy hx_mmA_msT hx_mmA_mrV hx_mrA_mwy hx_mrA_msT hx_mrA_mrV hx_mwy_msT hx_mwy_mrV hx_msT_mrV hst hrv (way_s hway ef102 (by omega) (by omega)) (by omega) (by omega) (by omega) hfm hfr (by omega) (by omega) (by omega) (by omega) (by omega)) q9_133 q9_135 qp_45 q1_9 q9_136 (n := 0) (by decide +kernel) rfl ⟨rfl, rfl⟩ ⟨show (r9 + 8) + 1 ≤ r9 + 1 + 8 by omega, show 8 + (4 + 11) + (r9 * 23 + 190) ≤ (r9 + 1) * 23 + 190 by omega⟩ ⟨Nat.le_of_ble_eq_true rfl, Nat.le_of_ble_eq_true rfl⟩ hN (hT0.keep hS hAs) hAs (Nat.le_trans hB0 hS.1) hK hP hD (List.range G_12.length) (rg_nd _) (rg_is _) [0, 1, 2, 3, 4] rfl i_14 12 hg_14 rfl rfl hl.1 rfl (Nat.le_of_ble_eq_true rfl) d_Model_goOn_104) hS (fun q _ h => hFc q h) hFc (fun r104 G_13 tS H104 locs ht hvm hw104 hB hz1 hk1 hS => ?_)
            obtain ⟨hTy, hF9, hr104⟩ := hw104
            have kmsT := kmsT.fl hF9 (by simp only [List.mem_cons, List.not_mem_nil, or_false]; omega)
            have kmrV := kmrV.fl hF9 (by simp only [List.mem_cons, List.not_mem_nil, or_false]; omega)
            have hFR := hFR.tr (hF9.up (by intro x h; simp only [List.mem_cons, List.not_mem_nil, or_false] at h ⊢; omega))
            obtain ⟨hP1, hK1, hD1⟩ := hB
            rw [ht] at hP1
            have hP : va_P (dC, dI) classes G_13 H104 := hP1
            have hD : va_D A G_13 := hD1.weaken (fun _ _ _ h => hFc _ h)
            obtain ⟨hz104, ⟨q104, d104, v104, w104, p104, c8_104, hc8_104, kmo⟩, ⟨fa104, hfm, kmmA⟩, ⟨fb104, hfr, kmrA⟩, ⟨fc104, kmwy, hfc104⟩⟩ := hr104
            obtain ⟨cX_15, eX_15⟩ : ∃ z : va_E, z = .inr (12, (.int mer :: .int mfed :: .int mwr :: .int (nI K9) :: .int (nI KL) :: .ref moc :: .ref msT :: .ref mrV :: .ref msP :: .int q104 :: .ref mrA :: .ref mbA :: .ref mwA :: .ref mhA :: .ref mfA :: .ref mpA :: .ref mxA :: .ref myA :: .ref mmA :: .ref mqA :: .ref mzA :: .ref mwy :: .ref mfd :: .int (nI (s9 + 1)) :: .int (nI c8_104) :: .int d104 :: .int w104 :: .int p104 :: .int (nI dp) :: .int v104 :: .long mnw :: .int mmk :: [])) := ⟨_, rfl⟩
            rw [← eX_15] at kmo
            refine lv_istore_n (lv' := [(3, .int r104), (2, .int (nI z44)), (1, .ref t15), (0, .ref mo)]) hx hb d_Model_goOn_107 rfl hl (by decide) rfl (fun ls hl => ?_)
            refine lv_aload_n hx hb d_Model_goOn_108 rfl (lv_at hl 3 rfl) ?_
            refine lv_dup hx hb d_Model_goOn_109 rfl ?_
            obtain ⟨i_16, hg_16⟩ := List.getElem?_of_mem kmo.2
            rw [eX_15] at hg_16
            refine va_get (v := .int (nI (s9 + 1))) hx hb htb i_Model hown hK hP i_16 hg_16 rfl 23 (by decide) (htb _ q7_237) (fun _ h9 => h9) rfl d_Model_goOn_110 ?_
            refine lv_iconst (v := 1) hx hb d_Model_goOn_113 (by decide) ?_
            refine lv_isub hx hb d_Model_goOn_114 ?_
            rw [show ((nI (s9 + 1)) - 1 : Int32) = nI ((s9 + 1) - 1) from pk_sub (a := (s9 + 1)) (b := 1) (by omega)]
            rw [show (nI ((s9 + 1) - 1) : Int32) = nI s9 from rfl]
            refine va_put (v := .int (nI s9)) (ty := .int) hx hb htb i_Model t_Model t_Model_ok n_Model hown hK hP hD hS i_16 hg_16 rfl 23 (by decide) (htb _ q7_237) (fun _ h9 => h9) rfl (by decide +kernel) rfl rfl (Nat.le_of_ble_eq_true rfl) d_Model_goOn_115 (fun H115 locs hP hD2 hS => ?_)
            have hP : va_P (dC, dI) classes (G_13.set i_16 (mo, .inr (12, (.int mer :: .int mfed :: .int mwr :: .int (nI K9) :: .int (nI KL) :: .ref moc :: .ref msT :: .ref mrV :: .ref msP :: .int q104 :: .ref mrA :: .ref mbA :: .ref mwA :: .ref mhA :: .ref mfA :: .ref mpA :: .ref mxA :: .ref myA :: .ref mmA :: .ref mqA :: .ref mzA :: .ref mwy :: .ref mfd :: .int (nI s9) :: .int (nI c8_104) :: .int d104 :: .int w104 :: .int p104 :: .int (nI dp) :: .int v104 :: .long mnw :: .int mmk :: [])))) H115 := hP
            have hD3 : va_D A (G_13.set i_16 (mo, .inr (12, (.int mer :: .int mfed :: .int mwr :: .int (nI K9) :: .int (nI KL) :: .ref moc :: .ref msT :: .ref mrV :: .ref msP :: .int q104 :: .ref mrA :: .ref mbA :: .ref mwA :: .ref mhA :: .ref mfA :: .ref mpA :: .ref mxA :: .ref myA :: .ref mmA :: .ref mqA :: .ref mzA :: .ref mwy :: .ref mfd :: .int (nI s9) :: .int (nI c8_104) :: .int d104 :: .int w104 :: .int p104 :: .int (nI dp) :: .int v104 :: .long mnw :: .int mmk :: [])))) := hD2
            have hTy := TR.setX (c' := .inr (12, (.int mer :: .int mfed :: .int mwr :: .int (nI K9) :: .int (nI KL) :: .ref moc :: .ref msT :: .ref mrV :: .ref msP :: .int q104 :: .ref mrA :: .ref mbA :: .ref mwA :: .ref mhA :: .ref mfA :: .ref mpA :: .ref mxA :: .ref myA :: .ref mmA :: .ref mqA :: .ref mzA :: .ref mwy :: .ref mfd :: .int (nI s9) :: .int (nI c8_104) :: .int d104 :: .int w104 :: .int p104 :: .int (nI dp) :: .int v104 :: .long mnw :: .int mmk :: []))) hTy hg_16 kmo.1
            have kmmA := Xc.setX (c' := .inr (12, (.int mer :: .int mfed :: .int mwr :: .int (nI K9) :: .int (nI KL) :: .ref moc :: .ref msT :: .ref mrV :: .ref msP :: .int q104 :: .ref mrA :: .ref mbA :: .ref mwA :: .ref mhA :: .ref mfA :: .ref mpA :: .ref mxA :: .ref myA :: .ref mmA :: .ref mqA :: .ref mzA :: .ref mwy :: .ref mfd :: .int (nI s9) :: .int (nI c8_104) :: .int d104 :: .int w104 :: .int p104 :: .int (nI dp) :: .int v104 :: .long mnw :: .int mmk :: []))) kmmA hg_16 (fun e => hx_mo_mmA.symm (congrArg Prod.fst e))
            have kmrA := Xc.setX (c' := .inr (12, (.int mer :: .int mfed :: .int mwr :: .int (nI K9) :: .int (nI KL) :: .ref moc :: .ref msT :: .ref mrV :: .ref msP :: .int q104 :: .ref mrA :: .ref mbA :: .ref mwA :: .ref mhA :: .ref mfA :: .ref mpA :: .ref mxA :: .ref myA :: .ref mmA :: .ref mqA :: .ref mzA :: .ref mwy :: .ref mfd :: .int (nI s9) :: .int (nI c8_104) :: .int d104 :: .int w104 :: .int p104 :: .int (nI dp) :: .int v104 :: .long mnw :: .int mmk :: []))) kmrA hg_16 (fun e => hx_mo_mrA.symm (congrArg Prod.fst e))
            have kmwy := Xc.setX (c' := .inr (12, (.int mer :: .int mfed :: .int mwr :: .int (nI K9) :: .int (nI KL) :: .ref moc :: .ref msT :: .ref mrV :: .ref msP :: .int q104 :: .ref mrA :: .ref mbA :: .ref mwA :: .ref mhA :: .ref mfA :: .ref mpA :: .ref mxA :: .ref myA :: .ref mmA :: .ref mqA :: .ref mzA :: .ref mwy :: .ref mfd :: .int (nI s9) :: .int (nI c8_104) :: .int d104 :: .int w104 :: .int p104 :: .int (nI dp) :: .int v104 :: .long mnw :: .int mmk :: []))) kmwy hg_16 (fun e => hx_mo_mwy.symm (congrArg Prod.fst e))
            have kmsT := Xc.setX (c' := .inr (12, (.int mer :: .int mfed :: .int mwr :: .int (nI K9) :: .int (nI KL) :: .ref moc :: .ref msT :: .ref mrV :: .ref msP :: .int q104 :: .ref mrA :: .ref mbA :: .ref mwA :: .ref mhA :: .ref mfA :: .ref mpA :: .ref mxA :: .ref myA :: .ref mmA :: .ref mqA :: .ref mzA :: .ref mwy :: .ref mfd :: .int (nI s9) :: .int (nI c8_104) :: .int d104 :: .int w104 :: .int p104 :: .int (nI dp) :: .int v104 :: .long mnw :: .int mmk :: []))) kmsT hg_16 (fun e => hx_mo_msT.symm (congrArg Prod.fst e))
            have kmrV := Xc.setX (c' := .inr (12, (.int mer :: .int mfed :: .int mwr :: .int (nI K9) :: .int (nI KL) :: .ref moc :: .ref msT :: .ref mrV :: .ref msP :: .int q104 :: .ref mrA :: .ref mbA :: .ref mwA :: .ref mhA :: .ref mfA :: .ref mpA :: .ref mxA :: .ref myA :: .ref mmA :: .ref mqA :: .ref mzA :: .ref mwy :: .ref mfd :: .int (nI s9) :: .int (nI c8_104) :: .int d104 :: .int w104 :: .int p104 :: .int (nI dp) :: .int v104 :: .long mnw :: .int mmk :: []))) kmrV hg_16 (fun e => hx_mo_mrV.symm (congrArg Prod.fst e))
            have hFR := hFR.tr (FL.set (Ad := Ad) (X := [mo, mmA, mrA, mwy]) (c' := .inr (12, (.int mer :: .int mfed :: .int mwr :: .int (nI K9) :: .int (nI KL) :: .ref moc :: .ref msT :: .ref mrV :: .ref msP :: .int q104 :: .ref mrA :: .ref mbA :: .ref mwA :: .ref mhA :: .ref mfA :: .ref mpA :: .ref mxA :: .ref myA :: .ref mmA :: .ref mqA :: .ref mzA :: .ref mwy :: .ref mfd :: .int (nI s9) :: .int (nI c8_104) :: .int d104 :: .int w104 :: .int p104 :: .int (nI dp) :: .int v104 :: .long mnw :: .int mmk :: []))) hg_16 (by simp))
            have hg_16 := set_here (c' := .inr (12, (.int mer :: .int mfed :: .int mwr :: .int (nI K9) :: .int (nI KL) :: .ref moc :: .ref msT :: .ref mrV :: .ref msP :: .int q104 :: .ref mrA :: .ref mbA :: .ref mwA :: .ref mhA :: .ref mfA :: .ref mpA :: .ref mxA :: .ref myA :: .ref mmA :: .ref mqA :: .ref mzA :: .ref mwy :: .ref mfd :: .int (nI s9) :: .int (nI c8_104) :: .int d104 :: .int w104 :: .int p104 :: .int (nI dp) :: .int v104 :: .long mnw :: .int mmk :: []))) hg_16
            have kmo : Xc Ad mo (.inr (12, (.int mer :: .int mfed :: .int mwr :: .int (nI K9) :: .int (nI KL) :: .ref moc :: .ref msT :: .ref mrV :: .ref msP :: .int q104 :: .ref mrA :: .ref mbA :: .ref mwA :: .ref mhA :: .ref mfA :: .ref mpA :: .ref mxA :: .ref myA :: .ref mmA :: .ref mqA :: .ref mzA :: .ref mwy :: .ref mfd :: .int (nI s9) :: .int (nI c8_104) :: .int d104 :: .int w104 :: .int p104 :: .int (nI dp) :: .int v104 :: .long mnw :: .int mmk :: []))) (G_13.set i_16 (mo, .inr (12, (.int mer :: .int mfed :: .int mwr :: .int (nI K9) :: .int (nI KL) :: .ref moc :: .ref msT :: .ref mrV :: .ref msP :: .int q104 :: .ref mrA :: .ref mbA :: .ref mwA :: .ref mhA :: .ref mfA :: .ref mpA :: .ref mxA :: .ref myA :: .ref mmA :: .ref mqA :: .ref mzA :: .ref mwy :: .ref mfd :: .int (nI s9) :: .int (nI c8_104) :: .int d104 :: .int w104 :: .int p104 :: .int (nI dp) :: .int v104 :: .long mnw :: .int mmk :: [])))) := ⟨kmo.1, List.mem_of_getElem? hg_16⟩
            have hD := hD3
            clear hD3 hD2
            generalize G_13.set i_16 (mo, .inr (12, (.int mer :: .int mfed :: .int mwr :: .int (nI K9) :: .int (nI KL) :: .ref moc :: .ref msT :: .ref mrV :: .ref msP :: .int q104 :: .ref mrA :: .ref mbA :: .ref mwA :: .ref mhA :: .ref mfA :: .ref mpA :: .ref mxA :: .ref myA :: .ref mmA :: .ref mqA :: .ref mzA :: .ref mwy :: .ref mfd :: .int (nI s9) :: .int (nI c8_104) :: .int d104 :: .int w104 :: .int p104 :: .int (nI dp) :: .int v104 :: .long mnw :: .int mmk :: []))) = G_17 at hP hD hTy hFR kmo kmmA kmrA kmwy kmsT kmrV hg_16
            obtain ⟨cX_18, eX_18⟩ : ∃ z : va_E, z = .inr (12, (.int mer :: .int mfed :: .int mwr :: .int (nI K9) :: .int (nI KL) :: .ref moc :: .ref msT :: .ref mrV :: .ref msP :: .int q104 :: .ref mrA :: .ref mbA :: .ref mwA :: .ref mhA :: .ref mfA :: .ref mpA :: .ref mxA :: .ref myA :: .ref mmA :: .ref mqA :: .ref mzA :: .ref mwy :: .ref mfd :: .int (nI s9) :: .int (nI c8_104) :: .int d104 :: .int w104 :: .int p104 :: .int (nI dp) :: .int v104 :: .long mnw :: .int mmk :: [])) := ⟨_, rfl⟩
            rw [← eX_18] at kmo
            refine lv_iload_n hx hb d_Model_goOn_118 rfl (lv_at hl 0 rfl) ?_
            refine lv_if_eq (tgt := 124) hx hb d_Model_goOn_119 (by decide) (fun c119 => ?_) (fun c119 => ?_)
            · have p119 : r104 = (0 : Int32) := c119
              refine lv_iinc (v := nI (z44 + 1)) (lv' := [(2, .int (nI (z44 + 1))), (3, .int r104), (1, .ref t15), (0, .ref mo)]) hx hb d_Model_goOn_124 hl (k := 1) rfl (nI_1 _) (by decide) rfl (fun ls hl => ?_)
              refine lv_goto (tgt := 44) hx hb d_Model_goOn_127 (by decide) ?_
              exact ih44 (z44 + 1, fa104, fb104, fc104, q104, d104, v104, w104, p104, nI c8_104, G_17) _ _ ls (by dsimp only; omega) ⟨by dsimp only; omega, by dsimp only; omega, hTy, hFR, (by have h9 := kmo; rw [eX_18] at h9; exact h9), kmmA, kmrA, kmwy, kmsT, kmrV, ⟨⟨fun j hj => hfc104 j (by omega), c8_104, hc8_104, rfl⟩, hfm, hfr⟩⟩ hP hD hS (lv_sub hl [0, 2, 3] rfl)
            · have p119 : ¬ (r104 = (0 : Int32)) := c119
              refine lv_iconst (v := 1) hx hb d_Model_goOn_122 (by decide) ?_
              exact W.zret (v := 1) hx hb hr rfl (fun t ht hW => ⟨⟨_, G_17, rfl, ⟨hTy, hFR, bz_t rfl, ⟨_, _, _, _, _, c8_104, hc8_104, by rw [eX_18] at kmo; exact kmo⟩, ⟨_, hfm, kmmA⟩, ⟨_, hfr, kmrA⟩, ⟨_, kmwy, fun j hj => hfc104 j (by omega)⟩⟩, by rw [ht]; exact hP, va_K.moved hW.alike hK, hD⟩, hS.F ht⟩) hS.2.2 d_Model_goOn_123
          · have p71 : v44_mpt = (1000 : Int32) := c71
            refine lv_iconst (v := 0) hx hb d_Model_goOn_74 (by decide) ?_
            exact W.zret (v := 0) hx hb hr rfl (fun t ht hW => ⟨⟨_, G44, rfl, ⟨hTy, hFR, bz_f (by decide), ⟨_, _, _, _, _, c44, hc44, by rw [eX_5] at kmo; exact kmo⟩, ⟨_, hfm, kmmA⟩, ⟨_, hfr, kmrA⟩, ⟨_, kmwy, fun j hj => hway j hj⟩⟩, by rw [ht]; exact hP, va_K.moved hW.alike hK, hD⟩, hS.F ht⟩) hS.2.2 d_Model_goOn_75
        · have p58 : r55 = (0 : Int32) := c58
          refine lv_goto (tgt := 124) hx hb d_Model_goOn_61 (by decide) ?_
          refine lv_iinc (v := nI (z44 + 1)) (lv' := [(2, .int (nI (z44 + 1))), (1, .ref t15), (0, .ref mo)]) hx hb d_Model_goOn_124 hl (k := 0) rfl (nI_1 _) (by decide) rfl (fun ls hl => ?_)
          refine lv_goto (tgt := 44) hx hb d_Model_goOn_127 (by decide) ?_
          exact ih44 (z44 + 1, f44_mmA, f44_mrA, f44_mwy, v44_mqs, v44_mch, v44_mvd, v44_mft, v44_mpt, nI c44, G44) _ _ ls (by dsimp only; omega) ⟨by dsimp only; omega, by dsimp only; omega, hTy, hFR, (by have h9 := kmo; rw [eX_5] at h9; exact h9), kmmA, kmrA, kmwy, kmsT, kmrV, ⟨⟨hway, c44, hc44, rfl⟩, hfm, hfr⟩⟩ hP hD hS (lv_sub hl [0, 1, 2] rfl)
    · have p37 : s9 = dp := ((nI_eq (a := s9) (b := dp) (by omega) (by omega)).mp c37)
      refine lv_iconst (v := 0) hx hb d_Model_goOn_40 (by decide) ?_
      exact W.zret (v := 0) hx hb hr rfl (fun t ht hW => ⟨⟨_, G, rfl, ⟨hTy, hFR, bz_f (by decide), ⟨_, _, _, _, _, c9, hc9, by rw [eX_mo] at kmo; exact kmo⟩, ⟨_, hfm, kmmA⟩, ⟨_, hfr, kmrA⟩, ⟨_, kmwy, fun j hj => hway j hj⟩⟩, by rw [ht]; exact hP, va_K.moved hW.alike hK, hD⟩, hS.F ht⟩) hS.2.2 d_Model_goOn_41
  · have p21 : ¬ (((τ t15).I 42) = (0 : Int32)) := c21
    refine lv_aload_n hx hb d_Model_goOn_24 rfl (lv_at hl 1 rfl) ?_
    have hFc := va_free (wc := G) hD hS hA (List.range G.length) (rg_is _)
    refine va_calli (mu_runV (As := []) (rest := []) ⟨hx, hb, hml, hown, hts⟩ tbin (m_Model_judged l dC dI sb γ κ Ad τ gT G mo _ _ _ _ _ _ _ _ _ _ _ _ _ _ _ _ _ _ _ _ _ _ _ _ _ _ _ _ _ _ _ _ _ _ _ _ _ s.heap.size hTy (by have h9 := kmo; rw [eX_mo] at h9; exact h9) kmmA kmrA kmwy kmsT kmrV kmzA kmqA kmyA kmxA kmbA kmwA kmhA kmpA kmfA kmfd hx_mo_mmA hx_mo_mrA hx_mo_mwy hx_mo_msT hx_mo_mrV hx_mmA_mrA hx_mmA_mwy hx_mmA_msT hx_mmA_mrV hx_mrA_mwy hx_mrA_msT hx_mrA_mrV hx_mwy_msT hx_mwy_mrV hx_msT_mrV hst hrv hway (by omega) (by omega) (by omega) hfm hfr (by omega) (by omega)) q9_137 q9_139 qp_46 q1_9 q9_140 (n := 0) (by decide +kernel) rfl ⟨rfl, rfl⟩ ⟨show 7 + 1 ≤ r9 + 1 + 8 by omega, show 8 + (4 + 11) + 167 ≤ (r9 + 1) * 23 + 190 by omega⟩ ⟨Nat.le_of_ble_eq_true rfl, Nat.le_of_ble_eq_true rfl⟩ hN (hT0.keep hS hAs) hAs (Nat.le_trans hB0 hS.1) hK hP hD (List.range G.length) (rg_nd _) (rg_is _) [0, 1, 2, 3, 4] rfl i_1 12 hg_1 rfl rfl hl.1 rfl (Nat.le_of_ble_eq_true rfl) d_Model_goOn_25) hS (fun q _ h => hFc q h) hFc (fun r25 G_19 tS H25 locs ht hvm hw25 hB hz1 hk1 hS => ?_)
    obtain ⟨hTy, hF9, hr25⟩ := hw25
    have kmwy := kmwy.fl hF9 (by simp only [List.mem_cons, List.not_mem_nil, or_false]; omega)
    have kmsT := kmsT.fl hF9 (by simp only [List.mem_cons, List.not_mem_nil, or_false]; omega)
    have kmrV := kmrV.fl hF9 (by simp only [List.mem_cons, List.not_mem_nil, or_false]; omega)
    have hFR := hFR.tr (hF9.up (by intro x h; simp only [List.mem_cons, List.not_mem_nil, or_false] at h ⊢; omega))
    obtain ⟨hP1, hK1, hD1⟩ := hB
    rw [ht] at hP1
    have hP : va_P (dC, dI) classes G_19 H25 := hP1
    have hD : va_D A G_19 := hD1.weaken (fun _ _ _ h => hFc _ h)
    obtain ⟨hz25, ⟨q25, d25, v25, w25, c8_25, hc8_25, kmo⟩, ⟨fa25, hfm, kmmA⟩, ⟨fb25, hfr, kmrA⟩⟩ := hr25
    obtain ⟨cX_20, eX_20⟩ : ∃ z : va_E, z = .inr (12, (.int mer :: .int mfed :: .int mwr :: .int (nI K9) :: .int (nI KL) :: .ref moc :: .ref msT :: .ref mrV :: .ref msP :: .int q25 :: .ref mrA :: .ref mbA :: .ref mwA :: .ref mhA :: .ref mfA :: .ref mpA :: .ref mxA :: .ref myA :: .ref mmA :: .ref mqA :: .ref mzA :: .ref mwy :: .ref mfd :: .int (nI s9) :: .int (nI c8_25) :: .int d25 :: .int w25 :: .int mpt :: .int (nI dp) :: .int v25 :: .long mnw :: .int mmk :: [])) := ⟨_, rfl⟩
    rw [← eX_20] at kmo
    exact W.zret (v := r25) hx hb hr (bz_n hz25) (fun t ht hW => ⟨⟨_, G_19, rfl, ⟨hTy, hFR, hz25, ⟨_, _, _, _, _, c8_25, hc8_25, by rw [eX_20] at kmo; exact kmo⟩, ⟨_, hfm, kmmA⟩, ⟨_, hfr, kmrA⟩, ⟨_, kmwy, fun j hj => hway j hj⟩⟩, by rw [ht]; exact hP, va_K.moved hW.alike hK, hD⟩, hS.F ht⟩) hS.2.2 d_Model_goOn_28
theorem m_Model_goOn_all (l : Launch) (dC : Nat → ClassId) (dI : Nat → Nat → Nat) (sb : sB) (γ : cG) (κ : kE) (Ad : List Nat) (τ : Nat → TD) (gT : ClassId) : ∀ r9 : Nat, GOC l dC dI sb γ κ Ad τ gT r9
  | 0 => fun G mo => m_Model_goOn_0 l dC dI sb γ κ Ad τ gT G mo
  | r9 + 1 => fun G mo => m_Model_goOn_s l dC dI sb γ κ Ad τ gT G mo r9 (m_Model_goOn_all l dC dI sb γ κ Ad τ gT r9)
