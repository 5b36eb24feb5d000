/-! The reference's search: what it finds. -/
def y_Model_goOn : MethodName := ⟨"TrustChainModel", "goOn", "()Z"⟩
abbrev b_Model_goOn : ByteArray := prog_14_method_32_code
def w_Model_goOn : List Cond := Cond.code y_Model_goOn b_Model_goOn 4 ((some FieldType.boolean)) :: tb
theorem d_Model_goOn_0 : decode b_Model_goOn 0 = .ok (.aload_n 0, 1) := by decide +kernel
theorem d_Model_goOn_1 : decode b_Model_goOn 1 = .ok (.getfield 19, 3) := by decide +kernel
theorem d_Model_goOn_4 : decode b_Model_goOn 4 = .ok (.aload_n 0, 1) := by decide +kernel
theorem d_Model_goOn_5 : decode b_Model_goOn 5 = .ok (.getfield 136, 3) := by decide +kernel
theorem d_Model_goOn_8 : decode b_Model_goOn 8 = .ok (.aload_n 0, 1) := by decide +kernel
theorem d_Model_goOn_9 : decode b_Model_goOn 9 = .ok (.getfield 333, 3) := by decide +kernel
theorem d_Model_goOn_12 : decode b_Model_goOn 12 = .ok (.iconst 1, 1) := by decide +kernel
theorem d_Model_goOn_13 : decode b_Model_goOn 13 = .ok (.isub, 1) := by decide +kernel
theorem d_Model_goOn_14 : decode b_Model_goOn 14 = .ok (.iaload, 1) := by decide +kernel
theorem d_Model_goOn_15 : decode b_Model_goOn 15 = .ok (.aaload, 1) := by decide +kernel
theorem d_Model_goOn_16 : decode b_Model_goOn 16 = .ok (.astore_n 1, 1) := by decide +kernel
theorem d_Model_goOn_17 : decode b_Model_goOn 17 = .ok (.aload_n 1, 1) := by decide +kernel
theorem d_Model_goOn_18 : decode b_Model_goOn 18 = .ok (.getfield 201, 3) := by decide +kernel
theorem d_Model_goOn_21 : decode b_Model_goOn 21 = .ok (.ifCond .eq 8, 3) := by decide +kernel
theorem d_Model_goOn_24 : decode b_Model_goOn 24 = .ok (.aload_n 0, 1) := by decide +kernel
theorem d_Model_goOn_25 : decode b_Model_goOn 25 = .ok (.invokevirtual 340, 3) := by decide +kernel
theorem d_Model_goOn_28 : decode b_Model_goOn 28 = .ok (.ireturn, 1) := by decide +kernel
theorem d_Model_goOn_29 : decode b_Model_goOn 29 = .ok (.aload_n 0, 1) := by decide +kernel
theorem d_Model_goOn_30 : decode b_Model_goOn 30 = .ok (.getfield 333, 3) := by decide +kernel
theorem d_Model_goOn_33 : decode b_Model_goOn 33 = .ok (.aload_n 0, 1) := by decide +kernel
theorem d_Model_goOn_34 : decode b_Model_goOn 34 = .ok (.getfield 315, 3) := by decide +kernel
theorem d_Model_goOn_37 : decode b_Model_goOn 37 = .ok (.if_icmp .ne 5, 3) := by decide +kernel
theorem d_Model_goOn_40 : decode b_Model_goOn 40 = .ok (.iconst 0, 1) := by decide +kernel
theorem d_Model_goOn_41 : decode b_Model_goOn 41 = .ok (.ireturn, 1) := by decide +kernel
theorem d_Model_goOn_42 : decode b_Model_goOn 42 = .ok (.iconst 0, 1) := by decide +kernel
theorem d_Model_goOn_43 : decode b_Model_goOn 43 = .ok (.istore_n 2, 1) := by decide +kernel
theorem d_Model_goOn_44 : decode b_Model_goOn 44 = .ok (.iload_n 2, 1) := by decide +kernel
theorem d_Model_goOn_45 : decode b_Model_goOn 45 = .ok (.aload_n 0, 1) := by decide +kernel
theorem d_Model_goOn_46 : decode b_Model_goOn 46 = .ok (.getfield 183, 3) := by decide +kernel
theorem d_Model_goOn_49 : decode b_Model_goOn 49 = .ok (.if_icmp .ge 81, 3) := by decide +kernel
theorem d_Model_goOn_52 : decode b_Model_goOn 52 = .ok (.aload_n 0, 1) := by decide +kernel
theorem d_Model_goOn_53 : decode b_Model_goOn 53 = .ok (.aload_n 1, 1) := by decide +kernel
theorem d_Model_goOn_54 : decode b_Model_goOn 54 = .ok (.iload_n 2, 1) := by decide +kernel
theorem d_Model_goOn_55 : decode b_Model_goOn 55 = .ok (.invokevirtual 343, 3) := by decide +kernel
theorem d_Model_goOn_58 : decode b_Model_goOn 58 = .ok (.ifCond .ne 6, 3) := by decide +kernel
theorem d_Model_goOn_61 : decode b_Model_goOn 61 = .ok (.goto 63, 3) := by decide +kernel
theorem d_Model_goOn_64 : decode b_Model_goOn 64 = .ok (.aload_n 0, 1) := by decide +kernel
theorem d_Model_goOn_65 : decode b_Model_goOn 65 = .ok (.getfield 330, 3) := by decide +kernel
theorem d_Model_goOn_68 : decode b_Model_goOn 68 = .ok (.sipush 1000, 3) := by decide +kernel
theorem d_Model_goOn_71 : decode b_Model_goOn 71 = .ok (.if_icmp .ne 5, 3) := by decide +kernel
theorem d_Model_goOn_74 : decode b_Model_goOn 74 = .ok (.iconst 0, 1) := by decide +kernel
theorem d_Model_goOn_75 : decode b_Model_goOn 75 = .ok (.ireturn, 1) := by decide +kernel
theorem d_Model_goOn_76 : decode b_Model_goOn 76 = .ok (.aload_n 0, 1) := by decide +kernel
theorem d_Model_goOn_77 : decode b_Model_goOn 77 = .ok (.dup, 1) := by decide +kernel
theorem d_Model_goOn_78 : decode b_Model_goOn 78 = .ok (.getfield 330, 3) := by decide +kernel
theorem d_Model_goOn_81 : decode b_Model_goOn 81 = .ok (.iconst 1, 1) := by decide +kernel
theorem d_Model_goOn_82 : decode b_Model_goOn 82 = .ok (.iadd, 1) := by decide +kernel
theorem d_Model_goOn_83 : decode b_Model_goOn 83 = .ok (.putfield 330, 3) := by decide +kernel
theorem d_Model_goOn_86 : decode b_Model_goOn 86 = .ok (.aload_n 0, 1) := by decide +kernel
theorem d_Model_goOn_87 : decode b_Model_goOn 87 = .ok (.getfield 136, 3) := by decide +kernel
theorem d_Model_goOn_90 : decode b_Model_goOn 90 = .ok (.aload_n 0, 1) := by decide +kernel
theorem d_Model_goOn_91 : decode b_Model_goOn 91 = .ok (.dup, 1) := by decide +kernel
theorem d_Model_goOn_92 : decode b_Model_goOn 92 = .ok (.getfield 333, 3) := by decide +kernel
theorem d_Model_goOn_95 : decode b_Model_goOn 95 = .ok (.dup_x1, 1) := by decide +kernel
theorem d_Model_goOn_96 : decode b_Model_goOn 96 = .ok (.iconst 1, 1) := by decide +kernel
theorem d_Model_goOn_97 : decode b_Model_goOn 97 = .ok (.iadd, 1) := by decide +kernel
theorem d_Model_goOn_98 : decode b_Model_goOn 98 = .ok (.putfield 333, 3) := by decide +kernel
theorem d_Model_goOn_101 : decode b_Model_goOn 101 = .ok (.iload_n 2, 1) := by decide +kernel
theorem d_Model_goOn_102 : decode b_Model_goOn 102 = .ok (.iastore, 1) := by decide +kernel
theorem d_Model_goOn_103 : decode b_Model_goOn 103 = .ok (.aload_n 0, 1) := by decide +kernel
theorem d_Model_goOn_104 : decode b_Model_goOn 104 = .ok (.invokevirtual 336, 3) := by decide +kernel
theorem d_Model_goOn_107 : decode b_Model_goOn 107 = .ok (.istore_n 3, 1) := by decide +kernel
theorem d_Model_goOn_108 : decode b_Model_goOn 108 = .ok (.aload_n 0, 1) := by decide +kernel
theorem d_Model_goOn_109 : decode b_Model_goOn 109 = .ok (.dup, 1) := by decide +kernel
theorem d_Model_goOn_110 : decode b_Model_goOn 110 = .ok (.getfield 333, 3) := by decide +kernel
theorem d_Model_goOn_113 : decode b_Model_goOn 113 = .ok (.iconst 1, 1) := by decide +kernel
theorem d_Model_goOn_114 : decode b_Model_goOn 114 = .ok (.isub, 1) := by decide +kernel
theorem d_Model_goOn_115 : decode b_Model_goOn 115 = .ok (.putfield 333, 3) := by decide +kernel
theorem d_Model_goOn_118 : decode b_Model_goOn 118 = .ok (.iload_n 3, 1) := by decide +kernel
theorem d_Model_goOn_119 : decode b_Model_goOn 119 = .ok (.ifCond .eq 5, 3) := by decide +kernel
theorem d_Model_goOn_122 : decode b_Model_goOn 122 = .ok (.iconst 1, 1) := by decide +kernel
theorem d_Model_goOn_123 : decode b_Model_goOn 123 = .ok (.ireturn, 1) := by decide +kernel
theorem d_Model_goOn_124 : decode b_Model_goOn 124 = .ok (.iinc 2 1, 3) := by decide +kernel
theorem d_Model_goOn_127 : decode b_Model_goOn 127 = .ok (.goto (-83), 3) := by decide +kernel
theorem d_Model_goOn_130 : decode b_Model_goOn 130 = .ok (.iconst 0, 1) := by decide +kernel
theorem d_Model_goOn_131 : decode b_Model_goOn 131 = .ok (.ireturn, 1) := by decide +kernel
def GOC (l : Launch) (dC : Nat → ClassId) (dI : Nat → Nat → Nat) (sb : sB) (γ : cG) (κ : kE) (Ad : List Nat) (τ : Nat → TD) (gT : ClassId) (r9 : Nat) : Prop := ∀ (G : va_W) (mo : Nat) (moc msT mrV msP mrA mbA mwA mhA mfA mpA mxA myA mmA mqA mzA mwy mfd : Nat) (mer mfed mwr mqs mmk : Int32) (mnw : Int64) (s9 K9 KL : Nat) (fm fr fw ff : Nat → Int32) (fS fV : Nat → Option Nat) (wl : List Nat) (pq cq : Nat) (wq : List Nat) (vq fq : Int32) (dp : Nat) (sz : Nat) (hTy : TR γ κ Ad τ G) (kmo : Xc Ad mo (.inr (12, (.int mer :: .int mfed :: .int mwr :: .int (nI K9) :: .int (nI KL) :: .ref moc :: .ref msT :: .ref mrV :: .ref msP :: .int mqs :: .ref mrA :: .ref mbA :: .ref mwA :: .ref mhA :: .ref mfA :: .ref mpA :: .ref mxA :: .ref myA :: .ref mmA :: .ref mqA :: .ref mzA :: .ref mwy :: .ref mfd :: .int (nI s9) :: .int (nI wq.length) :: .int (nI cq) :: .int fq :: .int (nI pq) :: .int (nI dp) :: .int vq :: .long mnw :: .int mmk :: []))) G) (kmmA : Xc Ad mmA (.inl (γ.2.1, 600, .inl fm)) G) (kmrA : Xc Ad mrA (.inl (γ.2.1, 600, .inl fr)) G) (kmwy : Xc Ad mwy (.inl (γ.2.1, 16, .inl fw)) G) (kmsT : Xc Ad msT (.inl (gT, 16, .inr (.inr (.inr (.inr fS))))) G) (kmrV : Xc Ad mrV (.inl (gT, 8, .inr (.inr (.inr (.inr fV))))) G) (kmfd : Xc Ad mfd (.inl (γ.2.1, 16, .inl ff)) G) (kmzA : tK κ Ad mzA (6, 600, 6)) (kmqA : tK κ Ad mqA (6, 600, 4)) (kmyA : tK κ Ad myA (6, 600, 5)) (kmxA : tK κ Ad mxA (6, 600, 3)) (kmbA : tK κ Ad mbA (6, 2176, 0)) (kmwA : tK κ Ad mwA (6, 64, 0)) (kmhA : tK κ Ad mhA (6, 8, 0)) (kmpA : tK κ Ad mpA (6, 64, 2)) (kmfA : tK κ Ad mfA (6, 8, 1)) (hx_mo_mmA : mo ≠ mmA) (hx_mo_mrA : mo ≠ mrA) (hx_mo_mwy : mo ≠ mwy) (hx_mo_msT : mo ≠ msT) (hx_mo_mrV : mo ≠ mrV) (hx_mo_mfd : mo ≠ mfd) (hx_mmA_mrA : mmA ≠ mrA) (hx_mmA_mwy : mmA ≠ mwy) (hx_mmA_msT : mmA ≠ msT) (hx_mmA_mrV : mmA ≠ mrV) (hx_mmA_mfd : mmA ≠ mfd) (hx_mrA_mwy : mrA ≠ mwy) (hx_mrA_msT : mrA ≠ msT) (hx_mrA_mrV : mrA ≠ mrV) (hx_mrA_mfd : mrA ≠ mfd) (hx_mwy_msT : mwy ≠ msT) (hx_mwy_mrV : mwy ≠ mrV) (hx_mwy_mfd : mwy ≠ mfd) (hx_msT_mrV : msT ≠ mrV) (hx_msT_mfd : msT ≠ mfd) (hx_mrV_mfd : mrV ≠ mfd) (hst : STc κ Ad τ K9 fS) (hrv : STl κ Ad τ KL fV) (hway : wyR wl K9 fw) (hwl : wl.length = s9) (hK9 : K9 ≤ 16) (hKL : KL ≤ 8) (hs9 : s9 ≤ 16) (hfm : bR fm) (hfr : bR fr) (hmk : b01 mmk) (hma : ∀ l9, l9 < KL → ¬ (τ ((fV l9).getD 0)).I 30 < 0) (hs1 : 1 ≤ s9) (hfd : fdR wq ff) (hcp : cq < pq) (hp1 : pq ≤ 1000) (hs3 : dp ≤ 16) (hsr : dp = s9 + r9), Met l y_Model_goOn w_Model_goOn ({ frames := (r9 + 8), cells := 0, slots := 0, locals := (r9 * 23 + 190) }) (mu_P [.ref mo] (dC, dI) sb G [(γ.1, .byte), (γ.2.1, .int), (γ.2.2.1, .long), (γ.2.2.2, .object "java/lang/Object"), (gT, .object "TrustChainModel$Text")] sz) (va_Qi (fun r (G' : va_W) => TR γ κ Ad τ G' ∧ FL Ad [mo, mmA, mrA, mwy, mfd] G G' ∧ (r = bB (gR K9 (rFO τ fS) (rTR τ fS) (rFL τ fS fV KL mnw mmk) r9 wl.reverse (pq, cq, wq, vq, fq)).1 ∧ (∃ q9 : Int32, Xc Ad mo (.inr (12, (.int mer :: .int mfed :: .int mwr :: .int (nI K9) :: .int (nI KL) :: .ref moc :: .ref msT :: .ref mrV :: .ref msP :: .int q9 :: .ref mrA :: .ref mbA :: .ref mwA :: .ref mhA :: .ref mfA :: .ref mpA :: .ref mxA :: .ref myA :: .ref mmA :: .ref mqA :: .ref mzA :: .ref mwy :: .ref mfd :: .int (nI s9) :: .int (nI (gR K9 (rFO τ fS) (rTR τ fS) (rFL τ fS fV KL mnw mmk) r9 wl.reverse (pq, cq, wq, vq, fq)).2.2.2.1.length) :: .int (nI (gR K9 (rFO τ fS) (rTR τ fS) (rFL τ fS fV KL mnw mmk) r9 wl.reverse (pq, cq, wq, vq, fq)).2.2.1) :: .int ((gR K9 (rFO τ fS) (rTR τ fS) (rFL τ fS fV KL mnw mmk) r9 wl.reverse (pq, cq, wq, vq, fq)).2.2.2.2.2) :: .int (nI (gR K9 (rFO τ fS) (rTR τ fS) (rFL τ fS fV KL mnw mmk) r9 wl.reverse (pq, cq, wq, vq, fq)).2.1) :: .int (nI dp) :: .int ((gR K9 (rFO τ fS) (rTR τ fS) (rFL τ fS fV KL mnw mmk) r9 wl.reverse (pq, cq, wq, vq, fq)).2.2.2.2.1) :: .long mnw :: .int mmk :: []))) G') ∧ (∃ f9 : Nat → Int32, bR f9 ∧ Xc Ad mmA (.inl (γ.2.1, 600, .inl f9)) G') ∧ (∃ f9 : Nat → Int32, bR f9 ∧ Xc Ad mrA (.inl (γ.2.1, 600, .inl f9)) G') ∧ (∃ f9 : Nat → Int32, fdR (gR K9 (rFO τ fS) (rTR τ fS) (rFL τ fS fV KL mnw mmk) r9 wl.reverse (pq, cq, wq, vq, fq)).2.2.2.1 f9 ∧ Xc Ad mfd (.inl (γ.2.1, 16, .inl f9)) G') ∧ (∃ f9 : Nat → Int32, wyR wl K9 f9 ∧ Xc Ad mwy (.inl (γ.2.1, 16, .inl f9)) G'))) (mu_B (dC, dI) [(γ.1, .byte), (γ.2.1, .int), (γ.2.2.1, .long), (γ.2.2.2, .object "java/lang/Object"), (gT, .object "TrustChainModel$Text")] (va_A G sz) (fun G' : va_W => G')) (va_A G sz)) 0 0 (va_A G sz)
set_option maxHeartbeats 4000000 in
set_option maxRecDepth 100000 in
theorem m_Model_goOn_0 (l : Launch) (dC : Nat → ClassId) (dI : Nat → Nat → Nat) (sb : sB) (γ : cG) (κ : kE) (Ad : List Nat) (τ : Nat → TD) (gT : ClassId) (G : va_W) (mo : Nat) (moc msT mrV msP mrA mbA mwA mhA mfA mpA mxA myA mmA mqA mzA mwy mfd : Nat) (mer mfed mwr mqs mmk : Int32) (mnw : Int64) (s9 K9 KL : Nat) (fm fr fw ff : Nat → Int32) (fS fV : Nat → Option Nat) (wl : List Nat) (pq cq : Nat) (wq : List Nat) (vq fq : Int32) (dp : Nat) (sz : Nat) (hTy : TR γ κ Ad τ G) (kmo : Xc Ad mo (.inr (12, (.int mer :: .int mfed :: .int mwr :: .int (nI K9) :: .int (nI KL) :: .ref moc :: .ref msT :: .ref mrV :: .ref msP :: .int mqs :: .ref mrA :: .ref mbA :: .ref mwA :: .ref mhA :: .ref mfA :: .ref mpA :: .ref mxA :: .ref myA :: .ref mmA :: .ref mqA :: .ref mzA :: .ref mwy :: .ref mfd :: .int (nI s9) :: .int (nI wq.length) :: .int (nI cq) :: .int fq :: .int (nI pq) :: .int (nI dp) :: .int vq :: .long mnw :: .int mmk :: []))) G) (kmmA : Xc Ad mmA (.inl (γ.2.1, 600, .inl fm)) G) (kmrA : Xc Ad mrA (.inl (γ.2.1, 600, .inl fr)) G) (kmwy : Xc Ad mwy (.inl (γ.2.1, 16, .inl fw)) G) (kmsT : Xc Ad msT (.inl (gT, 16, .inr (.inr (.inr (.inr fS))))) G) (kmrV : Xc Ad mrV (.inl (gT, 8, .inr (.inr (.inr (.inr fV))))) G) (kmfd : Xc Ad mfd (.inl (γ.2.1, 16, .inl ff)) G) (kmzA : tK κ Ad mzA (6, 600, 6)) (kmqA : tK κ Ad mqA (6, 600, 4)) (kmyA : tK κ Ad myA (6, 600, 5)) (kmxA : tK κ Ad mxA (6, 600, 3)) (kmbA : tK κ Ad mbA (6, 2176, 0)) (kmwA : tK κ Ad mwA (6, 64, 0)) (kmhA : tK κ Ad mhA (6, 8, 0)) (kmpA : tK κ Ad mpA (6, 64, 2)) (kmfA : tK κ Ad mfA (6, 8, 1)) (hx_mo_mmA : mo ≠ mmA) (hx_mo_mrA : mo ≠ mrA) (hx_mo_mwy : mo ≠ mwy) (hx_mo_msT : mo ≠ msT) (hx_mo_mrV : mo ≠ mrV) (hx_mo_mfd : mo ≠ mfd) (hx_mmA_mrA : mmA ≠ mrA) (hx_mmA_mwy : mmA ≠ mwy) (hx_mmA_msT : mmA ≠ msT) (hx_mmA_mrV : mmA ≠ mrV) (hx_mmA_mfd : mmA ≠ mfd) (hx_mrA_mwy : mrA ≠ mwy) (hx_mrA_msT : mrA ≠ msT) (hx_mrA_mrV : mrA ≠ mrV) (hx_mrA_mfd : mrA ≠ mfd) (hx_mwy_msT : mwy ≠ msT) (hx_mwy_mrV : mwy ≠ mrV) (hx_mwy_mfd : mwy ≠ mfd) (hx_msT_mrV : msT ≠ mrV) (hx_msT_mfd : msT ≠ mfd) (hx_mrV_mfd : mrV ≠ mfd) (hst : STc κ Ad τ K9 fS) (hrv : STl κ Ad τ KL fV) (hway : wyR wl K9 fw) (hwl : wl.length = s9) (hK9 : K9 ≤ 16) (hKL : KL ≤ 8) (hs9 : s9 ≤ 16) (hfm : bR fm) (hfr : bR fr) (hmk : b01 mmk) (hma : ∀ l9, l9 < KL → ¬ (τ ((fV l9).getD 0)).I 30 < 0) (hs1 : 1 ≤ s9) (hfd : fdR wq ff) (hcp : cq < pq) (hp1 : pq ≤ 1000) (hs3 : dp ≤ 16) (hsr : dp = s9 + 0) : Met l y_Model_goOn w_Model_goOn ({ frames := (0 + 8), cells := 0, slots := 0, locals := (0 * 23 + 190) }) (mu_P [.ref mo] (dC, dI) sb G [(γ.1, .byte), (γ.2.1, .int), (γ.2.2.1, .long), (γ.2.2.2, .object "java/lang/Object"), (gT, .object "TrustChainModel$Text")] sz) (va_Qi (fun r (G' : va_W) => TR γ κ Ad τ G' ∧ FL Ad [mo, mmA, mrA, mwy, mfd] G G' ∧ (r = bB (gR K9 (rFO τ fS) (rTR τ fS) (rFL τ fS fV KL mnw mmk) 0 wl.reverse (pq, cq, wq, vq, fq)).1 ∧ (∃ q9 : Int32, Xc Ad mo (.inr (12, (.int mer :: .int mfed :: .int mwr :: .int (nI K9) :: .int (nI KL) :: .ref moc :: .ref msT :: .ref mrV :: .ref msP :: .int q9 :: .ref mrA :: .ref mbA :: .ref mwA :: .ref mhA :: .ref mfA :: .ref mpA :: .ref mxA :: .ref myA :: .ref mmA :: .ref mqA :: .ref mzA :: .ref mwy :: .ref mfd :: .int (nI s9) :: .int (nI (gR K9 (rFO τ fS) (rTR τ fS) (rFL τ fS fV KL mnw mmk) 0 wl.reverse (pq, cq, wq, vq, fq)).2.2.2.1.length) :: .int (nI (gR K9 (rFO τ fS) (rTR τ fS) (rFL τ fS fV KL mnw mmk) 0 wl.reverse (pq, cq, wq, vq, fq)).2.2.1) :: .int ((gR K9 (rFO τ fS) (rTR τ fS) (rFL τ fS fV KL mnw mmk) 0 wl.reverse (pq, cq, wq, vq, fq)).2.2.2.2.2) :: .int (nI (gR K9 (rFO τ fS) (rTR τ fS) (rFL τ fS fV KL mnw mmk) 0 wl.reverse (pq, cq, wq, vq, fq)).2.1) :: .int (nI dp) :: .int ((gR K9 (rFO τ fS) (rTR τ fS) (rFL τ fS fV KL mnw mmk) 0 wl.reverse (pq, cq, wq, vq, fq)).2.2.2.2.1) :: .long mnw :: .int mmk :: []))) G') ∧ (∃ f9 : Nat → Int32, bR f9 ∧ Xc Ad mmA (.inl (γ.2.1, 600, .inl f9)) G') ∧ (∃ f9 : Nat → Int32, bR f9 ∧ Xc Ad mrA (.inl (γ.2.1, 600, .inl f9)) G') ∧ (∃ f9 : Nat → Int32, fdR (gR K9 (rFO τ fS) (rTR τ fS) (rFL τ fS fV KL mnw mmk) 0 wl.reverse (pq, cq, wq, vq, fq)).2.2.2.1 f9 ∧ Xc Ad mfd (.inl (γ.2.1, 16, .inl f9)) G') ∧ (∃ f9 : Nat → Int32, wyR wl K9 f9 ∧ Xc Ad mwy (.inl (γ.2.1, 16, .inl f9)) G'))) (mu_B (dC, dI) [(γ.1, .byte), (γ.2.1, .int), (γ.2.2.1, .long), (γ.2.2.2, .object "java/lang/Object"), (gT, .object "TrustChainModel$Text")] (va_A G sz) (fun G' : va_W => G')) (va_A G sz)) 0 0 (va_A G sz) := by
  refine Met.ofW (cc := b_Model_goOn) (maxL := 4) (ret := (some FieldType.boolean)) (by decide) rfl ?_
  intro p e s m args below meth c s₁ B hml hv
  obtain ⟨rfl, hsz, hB0, hP, hK, hD0, hN, hT0⟩ := hv
  have hx := B.exec
  have hb := B.bytes
  have hr := B.returns
  have hts := atoms_spec (ws := w_Model_goOn) B.pre
  have tbin : ∀ w ∈ tb, w ∈ w_Model_goOn := fun w h => List.mem_cons_of_mem _ h
  have htb : ∀ w ∈ tb, w.before _ s = true := fun w h => hts w (tbin w h)
  have hown : s.vm.findClass "TrustChainModel" = some m.cls := findClass_of_methodNamed B.named
  have hlocks := B.notSynchronized
  subst hsz
  have hD := hD0.self (sz := s.heap.size)
  generalize hAe : va_A G s.heap.size = A at hD ⊢
  have hA : ∀ q : Nat, s.heap.size ≤ q → A q := fun q h => by rw [← hAe]; exact Or.inr h
  have hAs : ∀ q : Nat, A q → sb.1 ≤ q := fun q h => by
    rw [← hAe] at h
    rcases h with ⟨k, e, h⟩ | h
    · exact hD0.2 k _ h
    · exact Nat.le_trans hB0 h
  have hS : va_S A s.heap s.heap [] := va_S.rf
  have hFR := FL.rf Ad [mo, mmA, mrA, mwy, mfd] G
  have hcs : 0 ≤ (headSpec w_Model_goOn ({ frames := (0 + 8), cells := 0, slots := 0, locals := (0 * 23 + 190) })).room.cells ∧ 0 ≤ (headSpec w_Model_goOn ({ frames := (0 + 8), cells := 0, slots := 0, locals := (0 * 23 + 190) })).room.slots := ⟨Nat.le_refl _, Nat.le_refl _⟩
  have hP : va_P (dC, dI) classes G s.heap := hP
  have hl := lv_entry ([.ref mo]) (n := 4) (Nat.le_of_ble_eq_true rfl)
  rw [lg_entry_eq]
  generalize (lg_sl ([.ref mo]) ++ List.replicate (4 - (lg_sl ([.ref mo])).length) Slot.unset).toArray = ls at hl ⊢
  have hl : lv_has ls 4 [(0, .ref mo)] := hl
  obtain ⟨cX_mo, eX_mo⟩ : ∃ z : va_E, z = .inr (12, (.int mer :: .int mfed :: .int mwr :: .int (nI K9) :: .int (nI KL) :: .ref moc :: .ref msT :: .ref mrV :: .ref msP :: .int mqs :: .ref mrA :: .ref mbA :: .ref mwA :: .ref mhA :: .ref mfA :: .ref mpA :: .ref mxA :: .ref myA :: .ref mmA :: .ref mqA :: .ref mzA :: .ref mwy :: .ref mfd :: .int (nI s9) :: .int (nI wq.length) :: .int (nI cq) :: .int fq :: .int (nI pq) :: .int (nI dp) :: .int vq :: .long mnw :: .int mmk :: [])) := ⟨_, rfl⟩
  rw [← eX_mo] at kmo
  refine lv_aload_n hx hb d_Model_goOn_0 rfl (lv_at hl 0 rfl) ?_
  obtain ⟨i_1, hg_1⟩ := List.getElem?_of_mem kmo.2
  rw [eX_mo] at hg_1
  refine va_get (v := .ref msT) hx hb htb i_Model hown hK hP i_1 hg_1 rfl 6 (by decide) (htb _ q7_220) (fun _ h9 => h9) rfl d_Model_goOn_1 ?_
  refine lv_aload_n hx hb d_Model_goOn_4 rfl (lv_at hl 0 rfl) ?_
  refine va_get (v := .ref mwy) hx hb htb i_Model hown hK hP i_1 hg_1 rfl 21 (by decide) (htb _ q7_235) (fun _ h9 => h9) rfl d_Model_goOn_5 ?_
  refine lv_aload_n hx hb d_Model_goOn_8 rfl (lv_at hl 0 rfl) ?_
  refine va_get (v := .int (nI s9)) hx hb htb i_Model hown hK hP i_1 hg_1 rfl 23 (by decide) (htb _ q7_237) (fun _ h9 => h9) rfl d_Model_goOn_9 ?_
  refine lv_iconst (v := 1) hx hb d_Model_goOn_12 (by decide) ?_
  refine lv_isub hx hb d_Model_goOn_13 ?_
  rw [show ((nI s9) - 1 : Int32) = nI (s9 - 1) from pk_sub (a := s9) (b := 1) (by omega)]
  obtain ⟨i_2, hg_2⟩ := List.getElem?_of_mem kmwy.2
  have h14 : vp_in (nI (s9 - 1)) 16 := vp_in_nI (by omega) (by omega)
  refine va_iald hx hb hK hP i_2 1 hg_2 rfl h14 d_Model_goOn_14 ?_
  refine lv_topi (fun e14 he14 => ?_)
  have hw14 := hway (s9 - 1) (by omega)
  rw [nI_clamp (by omega), hw14.2] at he14
  have hw14 := hw14.1
  subst he14
  obtain ⟨i_3, hg_3⟩ := List.getElem?_of_mem kmsT.2
  have h15 : vp_in (nI (wl.getD (s9 - 1) 0)) 16 := vp_in_nI (by omega) (by omega)
  refine va_aldq hx hb hK hP i_3 4 hg_3 rfl h15 d_Model_goOn_15 ?_
  obtain ⟨t_4, ft_4, kt_4, hc_4⟩ := hst (wl.getD (s9 - 1) 0) (by omega)
  obtain rfl : t_4 = ((fS (wl.getD (s9 - 1) 0)).getD 0) := by rw [ft_4]; rfl
  rw [show va_rf (fS (nI (wl.getD (s9 - 1) 0)).toNatClampNeg) = .ref ((fS (wl.getD (s9 - 1) 0)).getD 0) from by rw [nI_clamp (by omega), ft_4]; rfl]
  have b1_4 := hc_4.b1
  have b2_4 := hc_4.b2
  have b3_4 := hc_4.b3
  have b4_4 := hc_4.b4
  have b5_4 := hc_4.b5
  have b6_4 := hc_4.b6
  have b8_4 := hc_4.b8
  have b9_4 := hc_4.b9
  refine lv_astore_n (lv' := [(1, .ref ((fS (wl.getD (s9 - 1) 0)).getD 0)), (0, .ref mo)]) hx hb d_Model_goOn_16 rfl hl (by decide) rfl (fun ls hl => ?_)
  refine lv_aload_n hx hb d_Model_goOn_17 rfl (lv_at hl 0 rfl) ?_
  obtain ⟨i_5, kA_5, hg_5⟩ := tr_20 hTy kt_4
  refine va_get (v := .int ((τ ((fS (wl.getD (s9 - 1) 0)).getD 0)).I 42)) hx hb htb i_Text hown hK hP i_5 hg_5 rfl 42 (by decide) (htb _ q7_12) (fun _ h9 => h9) rfl d_Model_goOn_18 ?_
  refine lv_if_eq (tgt := 29) hx hb d_Model_goOn_21 (by decide) (fun c21 => ?_) (fun c21 => ?_)
  · have p21 : ((τ ((fS (wl.getD (s9 - 1) 0)).getD 0)).I 42) = (0 : Int32) := c21
    refine lv_aload_n hx hb d_Model_goOn_29 rfl (lv_at hl 1 rfl) ?_
    refine va_get (v := .int (nI s9)) hx hb htb i_Model hown hK hP i_1 hg_1 rfl 23 (by decide) (htb _ q7_237) (fun _ h9 => h9) rfl d_Model_goOn_30 ?_
    refine lv_aload_n hx hb d_Model_goOn_33 rfl (lv_at hl 1 rfl) ?_
    refine va_get (v := .int (nI dp)) hx hb htb i_Model hown hK hP i_1 hg_1 rfl 28 (by decide) (htb _ q8_2) (fun _ h9 => h9) rfl d_Model_goOn_34 ?_
    refine lv_icmp_ne (tgt := 42) hx hb d_Model_goOn_37 (by decide) (fun c37 => ?_) (fun c37 => ?_)
    · have p37 : ¬ (s9 = dp) := (fun q9 => c37 ((nI_eq (a := s9) (b := dp) (by omega) (by omega)).mpr q9))
      exact absurd (by omega) p37
    · have p37 : s9 = dp := ((nI_eq (a := s9) (b := dp) (by omega) (by omega)).mp c37)
      refine lv_iconst (v := 0) hx hb d_Model_goOn_40 (by decide) ?_
      have eQ : (gR K9 (rFO τ fS) (rTR τ fS) (rFL τ fS fV KL mnw mmk) 0 wl.reverse (pq, cq, wq, vq, fq)) = (false, (pq, cq, wq, vq, fq)) := gR_e (fun h9 => (tr_f hwl hs1).mp h9 p21)
      exact W.zret (v := 0) hx hb hr rfl (fun t ht hW => ⟨⟨_, G, rfl, ⟨hTy, hFR, by rw [eQ]; rfl, ⟨_, by rw [eQ]; rw [eX_mo] at kmo; exact kmo⟩, ⟨_, hfm, kmmA⟩, ⟨_, hfr, kmrA⟩, ⟨_, by rw [eQ]; exact hfd, kmfd⟩, ⟨_, hway, kmwy⟩⟩, by rw [ht]; exact hP, va_K.moved hW.alike hK, hD⟩, hS.F ht⟩) hS.2.2 d_Model_goOn_41
  · have p21 : ¬ (((τ ((fS (wl.getD (s9 - 1) 0)).getD 0)).I 42) = (0 : Int32)) := c21
    refine lv_aload_n hx hb d_Model_goOn_24 rfl (lv_at hl 1 rfl) ?_
    have hFc := va_free (wc := G) hD hS hA (List.range G.length) (rg_is _)
    refine va_calli (mu_runV (As := []) (rest := []) ⟨hx, hb, hml, hown, hts⟩ tbin (m_Model_judged l dC dI sb γ κ Ad τ gT G mo _ _ _ _ _ _ _ _ _ _ _ _ _ _ _ _ _ _ _ _ _ _ _ _ _ _ _ _ _ _ _ _ _ _ _ _ _ _ _ s.heap.size hTy (by have h9 := kmo; rw [eX_mo] at h9; exact h9) kmmA kmrA kmwy kmsT kmrV kmfd kmzA kmqA kmyA kmxA kmbA kmwA kmhA kmpA kmfA hx_mo_mmA hx_mo_mrA hx_mo_mwy hx_mo_msT hx_mo_mrV hx_mo_mfd hx_mmA_mrA hx_mmA_mwy hx_mmA_msT hx_mmA_mrV hx_mmA_mfd hx_mrA_mwy hx_mrA_msT hx_mrA_mrV hx_mrA_mfd hx_mwy_msT hx_mwy_mrV hx_mwy_mfd hx_msT_mrV hx_msT_mfd hx_mrV_mfd hst hrv hway hwl (by omega) (by omega) (by omega) hfm hfr hmk hma hs1 hfd (by omega)) q9_137 q9_139 qp_46 q1_9 q9_140 (n := 0) (by decide +kernel) rfl ⟨rfl, rfl⟩ ⟨Nat.le_of_ble_eq_true rfl, Nat.le_of_ble_eq_true rfl⟩ ⟨Nat.le_of_ble_eq_true rfl, Nat.le_of_ble_eq_true rfl⟩ hN (hT0.keep hS hAs) hAs (Nat.le_trans hB0 hS.1) hK hP hD (List.range G.length) (rg_nd _) (rg_is _) [0, 1, 2, 3, 4] rfl i_1 12 hg_1 rfl rfl hl.1 rfl (Nat.le_of_ble_eq_true rfl) d_Model_goOn_25) hS (fun q _ h => hFc q h) hFc (fun r25 G_6 tS H25 locs ht hvm hw25 hB hz1 hk1 hS => ?_)
    obtain ⟨hTy, hF9, hr25⟩ := hw25
    have kmwy := kmwy.fl hF9 (q_nmc (hx_mo_mwy.symm) (q_nmc (hx_mmA_mwy.symm) (q_nmc (hx_mrA_mwy.symm) (q_nmc (hx_mwy_mfd) (q_nmn)))))
    have kmsT := kmsT.fl hF9 (q_nmc (hx_mo_msT.symm) (q_nmc (hx_mmA_msT.symm) (q_nmc (hx_mrA_msT.symm) (q_nmc (hx_msT_mfd) (q_nmn)))))
    have kmrV := kmrV.fl hF9 (q_nmc (hx_mo_mrV.symm) (q_nmc (hx_mmA_mrV.symm) (q_nmc (hx_mrA_mrV.symm) (q_nmc (hx_mrV_mfd) (q_nmn)))))
    have hFR := hFR.tr (hF9.up (q_gac (by simp) (q_gac (by simp) (q_gac (by simp) (q_gac (by simp) (q_gan))))))
    obtain ⟨hP1, hK1, hD1⟩ := hB
    rw [ht] at hP1
    have hP : va_P (dC, dI) classes G_6 H25 := hP1
    have hD : va_D A G_6 := hD1.weaken (fun _ _ _ h => hFc _ h)
    obtain ⟨hr25, ⟨q25, kmo⟩, ⟨fa25, hfm, kmmA⟩, ⟨fb25, hfr, kmrA⟩, ⟨fd25, hfd, kmfd⟩⟩ := hr25
    obtain ⟨qj, eqj⟩ : ∃ q : Bool × sS, q = (sJ (rFL τ fS fV KL mnw mmk) wl.reverse (pq, cq, wq, vq, fq)) := ⟨_, rfl⟩
    rw [← eqj] at hr25 kmo hfd
    obtain ⟨cX_7, eX_7⟩ : ∃ z : va_E, z = .inr (12, (.int mer :: .int mfed :: .int mwr :: .int (nI K9) :: .int (nI KL) :: .ref moc :: .ref msT :: .ref mrV :: .ref msP :: .int q25 :: .ref mrA :: .ref mbA :: .ref mwA :: .ref mhA :: .ref mfA :: .ref mpA :: .ref mxA :: .ref myA :: .ref mmA :: .ref mqA :: .ref mzA :: .ref mwy :: .ref mfd :: .int (nI s9) :: .int (nI qj.2.2.2.1.length) :: .int (nI qj.2.2.1) :: .int qj.2.2.2.2.2 :: .int (nI qj.2.1) :: .int (nI dp) :: .int qj.2.2.2.2.1 :: .long mnw :: .int mmk :: [])) := ⟨_, rfl⟩
    rw [← eX_7] at kmo
    have eQ : (gR K9 (rFO τ fS) (rTR τ fS) (rFL τ fS fV KL mnw mmk) 0 wl.reverse (pq, cq, wq, vq, fq)) = qj := (gR_t ((tr_f hwl hs1).mpr p21)).trans eqj.symm
    exact W.zret (v := r25) hx hb hr (bB_z hr25) (fun t ht hW => ⟨⟨_, G_6, rfl, ⟨hTy, hFR, by rw [eQ]; exact hr25, ⟨_, by rw [eQ]; rw [eX_7] at kmo; exact kmo⟩, ⟨_, hfm, kmmA⟩, ⟨_, hfr, kmrA⟩, ⟨_, by rw [eQ]; exact hfd, kmfd⟩, ⟨_, hway, kmwy⟩⟩, by rw [ht]; exact hP, va_K.moved hW.alike hK, hD⟩, hS.F ht⟩) hS.2.2 d_Model_goOn_28
