/-! The reference's divided, exactly. -/
theorem pr_g {g R T z : Nat} (h8 : T = z + (g - 1) * R) (h7 : T < g * R) : z < R := by
  obtain _ | g := g
  · rw [Nat.zero_mul] at h7
    omega
  · rw [Nat.add_sub_cancel] at h8
    rw [Nat.succ_mul] at h7
    omega
set_option maxHeartbeats 4000000 in
set_option maxRecDepth 100000 in
theorem x_Model_divided (l : Launch) (dC : Nat → ClassId) (dI : Nat → Nat → Nat) (sb : sB) (mo : Nat) (moc msT mrV msP mrA mbA mwA mhA mfA mpA mxA myA mmA mqA mzA mwy mfd : Nat) (mer mfed mwr mct mls mqs msz mcz mch mft mpt mdp mvd mmk : Int32) (mnw : Int64) (n k1 : Nat) (cI : ClassId) (ad bd qd rd : Nat → Nat) (sz : Nat) (hn : n ≤ 598) (hk1 : 2 ≤ k1) (hk2 : k1 ≤ 300) (had : ∀ j, ad j < 65536) (hbd : ∀ j, bd j < 65536) (hqd : ∀ j, qd j < 131072) (hrd : ∀ j, rd j < 65536) (hat : n = 0 ∨ ad (n - 1) ≠ 0) (hbt : bd (k1 - 1) ≠ 0) : Met l y_Model_divided w_Model_divided ({ frames := 1, cells := 0, slots := 0, locals := 24 }) (mu_P [.ref mo, .ref mzA, .int (nI n), .ref mmA, .int (nI k1), .ref mqA] (dC, dI) sb [(mo, .inr (12, (.int mer :: .int mfed :: .int mwr :: .int mct :: .int mls :: .ref moc :: .ref msT :: .ref mrV :: .ref msP :: .int mqs :: .ref mrA :: .ref mbA :: .ref mwA :: .ref mhA :: .ref mfA :: .ref mpA :: .ref mxA :: .ref myA :: .ref mmA :: .ref mqA :: .ref mzA :: .ref mwy :: .ref mfd :: .int msz :: .int mcz :: .int mch :: .int mft :: .int mpt :: .int mdp :: .int mvd :: .long mnw :: .int mmk :: []))), (mzA, .inl (cI, 600, .inl (tI ad))), (mmA, .inl (cI, 600, .inl (tI bd))), (mqA, .inl (cI, 600, .inl (tI qd))), (mrA, .inl (cI, 600, .inl (tI rd)))] [(cI, .int)] sz) (va_Qi (fun r (u : Nat × (Nat → Nat) × (Nat → Nat) × (Nat → Nat) × Int32) => r = nI u.1 ∧ u.1 ≤ k1 ∧ (u.1 = 0 ∨ u.2.1 (u.1 - 1) ≠ 0) ∧ vB 65536 u.2.1 u.1 = vB 65536 ad n % vB 65536 bd k1 ∧ (∀ j, u.2.1 j < 65536) ∧ (∀ j, u.2.2.1 j < 131072) ∧ (∀ j, u.2.2.2.1 j < 65536)) (mu_B (dC, dI) [(cI, .int)] (va_A [(mo, .inr (12, (.int mer :: .int mfed :: .int mwr :: .int mct :: .int mls :: .ref moc :: .ref msT :: .ref mrV :: .ref msP :: .int mqs :: .ref mrA :: .ref mbA :: .ref mwA :: .ref mhA :: .ref mfA :: .ref mpA :: .ref mxA :: .ref myA :: .ref mmA :: .ref mqA :: .ref mzA :: .ref mwy :: .ref mfd :: .int msz :: .int mcz :: .int mch :: .int mft :: .int mpt :: .int mdp :: .int mvd :: .long mnw :: .int mmk :: []))), (mzA, .inl (cI, 600, .inl (tI ad))), (mmA, .inl (cI, 600, .inl (tI bd))), (mqA, .inl (cI, 600, .inl (tI qd))), (mrA, .inl (cI, 600, .inl (tI rd)))] sz) (fun u : Nat × (Nat → Nat) × (Nat → Nat) × (Nat → Nat) × Int32 => [(mo, .inr (12, (.int mer :: .int mfed :: .int mwr :: .int mct :: .int mls :: .ref moc :: .ref msT :: .ref mrV :: .ref msP :: .int u.2.2.2.2 :: .ref mrA :: .ref mbA :: .ref mwA :: .ref mhA :: .ref mfA :: .ref mpA :: .ref mxA :: .ref myA :: .ref mmA :: .ref mqA :: .ref mzA :: .ref mwy :: .ref mfd :: .int msz :: .int mcz :: .int mch :: .int mft :: .int mpt :: .int mdp :: .int mvd :: .long mnw :: .int mmk :: []))), (mzA, .inl (cI, 600, .inl (tI u.2.1))), (mmA, .inl (cI, 600, .inl (tI bd))), (mqA, .inl (cI, 600, .inl (tI u.2.2.1))), (mrA, .inl (cI, 600, .inl (tI u.2.2.2.1)))])) (va_A [(mo, .inr (12, (.int mer :: .int mfed :: .int mwr :: .int mct :: .int mls :: .ref moc :: .ref msT :: .ref mrV :: .ref msP :: .int mqs :: .ref mrA :: .ref mbA :: .ref mwA :: .ref mhA :: .ref mfA :: .ref mpA :: .ref mxA :: .ref myA :: .ref mmA :: .ref mqA :: .ref mzA :: .ref mwy :: .ref mfd :: .int msz :: .int mcz :: .int mch :: .int mft :: .int mpt :: .int mdp :: .int mvd :: .long mnw :: .int mmk :: []))), (mzA, .inl (cI, 600, .inl (tI ad))), (mmA, .inl (cI, 600, .inl (tI bd))), (mqA, .inl (cI, 600, .inl (tI qd))), (mrA, .inl (cI, 600, .inl (tI rd)))] sz)) 0 0 (va_A [(mo, .inr (12, (.int mer :: .int mfed :: .int mwr :: .int mct :: .int mls :: .ref moc :: .ref msT :: .ref mrV :: .ref msP :: .int mqs :: .ref mrA :: .ref mbA :: .ref mwA :: .ref mhA :: .ref mfA :: .ref mpA :: .ref mxA :: .ref myA :: .ref mmA :: .ref mqA :: .ref mzA :: .ref mwy :: .ref mfd :: .int msz :: .int mcz :: .int mch :: .int mft :: .int mpt :: .int mdp :: .int mvd :: .long mnw :: .int mmk :: []))), (mzA, .inl (cI, 600, .inl (tI ad))), (mmA, .inl (cI, 600, .inl (tI bd))), (mqA, .inl (cI, 600, .inl (tI qd))), (mrA, .inl (cI, 600, .inl (tI rd)))] sz) := by
  refine Met.ofW (cc := b_Model_divided) (maxL := 18) (ret := (some FieldType.int)) (by decide) rfl ?_
  intro p e s m args below meth c s₁ B hml hv
  obtain ⟨rfl, hsz, hB0, hP, hK, hD0, hN, hT0⟩ := hv
  have hx := B.exec
  have hb := B.bytes
  have hr := B.returns
  have hts := atoms_spec (ws := w_Model_divided) B.pre
  have tbin : ∀ w ∈ tb, w ∈ w_Model_divided := fun w h => List.mem_cons_of_mem _ h
  have htb : ∀ w ∈ tb, w.before _ s = true := fun w h => hts w (tbin w h)
  have hown : s.vm.findClass "TrustChainModel" = some m.cls := findClass_of_methodNamed B.named
  have hlocks := B.notSynchronized
  subst hsz
  have hD := hD0.self (sz := s.heap.size)
  generalize hAe : va_A [(mo, .inr (12, (.int mer :: .int mfed :: .int mwr :: .int mct :: .int mls :: .ref moc :: .ref msT :: .ref mrV :: .ref msP :: .int mqs :: .ref mrA :: .ref mbA :: .ref mwA :: .ref mhA :: .ref mfA :: .ref mpA :: .ref mxA :: .ref myA :: .ref mmA :: .ref mqA :: .ref mzA :: .ref mwy :: .ref mfd :: .int msz :: .int mcz :: .int mch :: .int mft :: .int mpt :: .int mdp :: .int mvd :: .long mnw :: .int mmk :: []))), (mzA, .inl (cI, 600, .inl (tI ad))), (mmA, .inl (cI, 600, .inl (tI bd))), (mqA, .inl (cI, 600, .inl (tI qd))), (mrA, .inl (cI, 600, .inl (tI rd)))] s.heap.size = A at hD ⊢
  have hA : ∀ q : Nat, s.heap.size ≤ q → A q := fun q h => by rw [← hAe]; exact Or.inr h
  have hAs : ∀ q : Nat, A q → sb.1 ≤ q := fun q h => by
    rw [← hAe] at h
    rcases h with ⟨k, e, h⟩ | h
    · exact hD0.2 k _ h
    · exact Nat.le_trans hB0 h
  have hS : va_S A s.heap s.heap [] := va_S.rf
  have hcs : 0 ≤ (headSpec w_Model_divided ({ frames := 1, cells := 0, slots := 0, locals := 24 })).room.cells ∧ 0 ≤ (headSpec w_Model_divided ({ frames := 1, cells := 0, slots := 0, locals := 24 })).room.slots := ⟨Nat.le_refl _, Nat.le_refl _⟩
  have hP : va_P (dC, dI) classes [(mo, .inr (12, (.int mer :: .int mfed :: .int mwr :: .int mct :: .int mls :: .ref moc :: .ref msT :: .ref mrV :: .ref msP :: .int mqs :: .ref mrA :: .ref mbA :: .ref mwA :: .ref mhA :: .ref mfA :: .ref mpA :: .ref mxA :: .ref myA :: .ref mmA :: .ref mqA :: .ref mzA :: .ref mwy :: .ref mfd :: .int msz :: .int mcz :: .int mch :: .int mft :: .int mpt :: .int mdp :: .int mvd :: .long mnw :: .int mmk :: []))), (mzA, .inl (cI, 600, .inl (tI ad))), (mmA, .inl (cI, 600, .inl (tI bd))), (mqA, .inl (cI, 600, .inl (tI qd))), (mrA, .inl (cI, 600, .inl (tI rd)))] s.heap := hP
  have hl := lv_entry ([.ref mo, .ref mzA, .int (nI n), .ref mmA, .int (nI k1), .ref mqA]) (n := 18) (Nat.le_of_ble_eq_true rfl)
  rw [lg_entry_eq]
  generalize (lg_sl ([.ref mo, .ref mzA, .int (nI n), .ref mmA, .int (nI k1), .ref mqA]) ++ List.replicate (18 - (lg_sl ([.ref mo, .ref mzA, .int (nI n), .ref mmA, .int (nI k1), .ref mqA])).length) Slot.unset).toArray = ls at hl ⊢
  have hl : lv_has ls 18 [(0, .ref mo), (1, .ref mzA), (2, .int (nI n)), (3, .ref mmA), (4, .int (nI k1)), (5, .ref mqA)] := hl
  refine lv_aload_n hx hb d_Model_divided_0 rfl (lv_at hl 1 rfl) ?_
  refine lv_iload_n hx hb d_Model_divided_1 rfl (lv_at hl 2 rfl) ?_
  refine lv_aload_n hx hb d_Model_divided_2 rfl (lv_at hl 3 rfl) ?_
  refine lv_iload hx hb d_Model_divided_3 (lv_at hl 4 rfl) ?_
  refine vp_callSi (pu_callS (As := [.ref mzA, .int (nI n), .ref mmA, .int (nI k1)]) (rest := []) ⟨hx, hb, hml, hown, hts⟩ tbin (x_Model_compared l dC dI sb mzA mmA n k1 cI ad bd (by omega) (by omega) had hbd hat (Or.inr hbt)) q9_106 q9_107 q1_9 q9_108 (n := 4) (by decide +kernel) rfl ⟨rfl, rfl⟩ ⟨Nat.le_of_ble_eq_true rfl, Nat.le_of_ble_eq_true rfl⟩ ⟨Nat.le_of_ble_eq_true rfl, Nat.le_of_ble_eq_true rfl⟩ hN (hT0.keep hS hAs) hK hP [1, 2] rfl [0] rfl hl.1 rfl (Nat.le_of_ble_eq_true rfl) d_Model_divided_5) (fun r5 hr5 => ?_)
  refine lv_if_ge (tgt := 18) hx hb d_Model_divided_8 (by decide) (fun c8 => ?_) (fun c8 => ?_)
  · have p8 : (0 : Int32) ≤ r5 := c8
    refine lv_iload hx hb d_Model_divided_18 (lv_at hl 4 rfl) ?_
    refine lv_iconst (v := 1) hx hb d_Model_divided_20 (by decide) ?_
    refine lv_icmp_ne (tgt := 105) hx hb d_Model_divided_21 (by decide) (fun c21 => ?_) (fun c21 => ?_)
    rotate_left
    · exact absurd ((nI_eq (a := k1) (b := 1) (by omega) (by omega)).mp c21) (by omega)
    refine lv_iconst (v := 0) hx hb d_Model_divided_105 (by decide) ?_
    refine lv_istore (lv' := [(6, .int 0), (0, .ref mo), (1, .ref mzA), (2, .int (nI n)), (3, .ref mmA), (4, .int (nI k1)), (5, .ref mqA)]) hx hb d_Model_divided_106 hl (by decide) rfl (fun ls hl => ?_)
    refine lv_aload_n hx hb d_Model_divided_108 rfl (lv_at hl 4 rfl) ?_
    refine lv_iload hx hb d_Model_divided_109 (lv_at hl 5 rfl) ?_
    refine lv_iconst (v := 1) hx hb d_Model_divided_111 (by decide) ?_
    refine lv_isub hx hb d_Model_divided_112 ?_
    rw [show ((nI k1) - 1 : Int32) = nI (k1 - 1) from pk_sub (a := k1) (b := 1) (by omega)]
    have h113 : vp_in (nI (k1 - 1)) 600 := vp_in_nI (by omega) (by omega)
    refine va_iald hx hb hK hP 2 0 rfl rfl h113 d_Model_divided_113 ?_
    rw [show tI bd (nI (k1 - 1)).toNatClampNeg = nI (bd (k1 - 1)) from tI_at (by omega)]
    have hu113 := hbd (k1 - 1)
    refine lv_istore (lv' := [(7, .int (nI (bd (k1 - 1)))), (6, .int 0), (0, .ref mo), (1, .ref mzA), (2, .int (nI n)), (3, .ref mmA), (4, .int (nI k1)), (5, .ref mqA)]) hx hb d_Model_divided_114 hl (by decide) rfl (fun ls hl => ?_)
    have hkn : vB 65536 bd k1 ≤ vB 65536 ad n := hr5.2 (Int32.not_lt.mpr p8)
    have hmn : k1 ≤ n := Classical.byContradiction (fun q9 => absurd (vB_shorter (W := 65536) (by decide) had (Or.inr hbt) (Nat.not_le.mp q9)) (Nat.not_lt.mpr hkn))
    obtain ⟨t, ht⟩ : ∃ t : Nat, t = bd (k1 - 1) := ⟨_, rfl⟩
    have ht1 : 1 ≤ t := by omega
    have ht2 : t < 65536 := by rw [ht]; exact hbd _
    have hl : lv_has ls 18 [(0, .ref mo), (1, .ref mzA), (2, .int (nI n)), (3, .ref mmA), (4, .int (nI k1)), (5, .ref mqA), (6, .int (nI 0)), (7, .int (nI (t * 2 ^ 0)))] := by
      rw [Nat.pow_zero, Nat.mul_one, ht]
      exact lv_sub hl [2, 3, 4, 5, 6, 7, 1, 0] rfl
    refine w_loop (α := Nat × Nat) (fun a9 => a9.2 = t * 2 ^ a9.1 ∧ a9.2 < 65536) (fun a9 => 65536 - a9.2) (fun a9 => [(0, .ref mo), (1, .ref mzA), (2, .int (nI n)), (3, .ref mmA), (4, .int (nI k1)), (5, .ref mqA), (6, .int (nI a9.1)), (7, .int (nI a9.2))]) (fun _ => []) 18 116 (fun a9 ls hJ hl ih116 => ?_) (0, t * 2 ^ 0) ls ⟨rfl, by dsimp only; rw [Nat.pow_zero, Nat.mul_one]; exact ht2⟩ hl
    obtain ⟨kk, X⟩ := a9
    obtain ⟨hX, hX2⟩ := hJ
    dsimp only at hX hX2 hl ih116
    have hX1 : 1 ≤ X := by rw [hX]; exact Nat.mul_pos ht1 (Nat.two_pow_pos kk)
    have hkk : kk ≤ 15 := Classical.byContradiction (fun h => by
      have h1 : 2 ^ 16 ≤ 2 ^ kk := Nat.pow_le_pow_right (by omega) (by omega)
      have h2 : 1 * 2 ^ kk ≤ t * 2 ^ kk := Nat.mul_le_mul_right _ ht1
      omega)
    refine lv_iload hx hb d_Model_divided_116 (lv_at hl 7 rfl) ?_
    refine lv_ldc (v := 32768) hx hb hown (htb _ q9_125) d_Model_divided_118 ?_
    refine lv_icmp_ge (tgt := 135) hx hb d_Model_divided_120 (by decide) (fun c120 => ?_) (fun c120 => ?_)
    · have p120 : 32768 ≤ X := ((nI_leI (a := 32768) (b := X) (by omega) (by omega)).mp c120)
      refine lv_iload hx hb d_Model_divided_135 (lv_at hl 4 rfl) ?_
      refine lv_iconst (v := 1) hx hb d_Model_divided_137 (by decide) ?_
      refine lv_isub hx hb d_Model_divided_138 ?_
      rw [show ((nI k1) - 1 : Int32) = nI (k1 - 1) from pk_sub (a := k1) (b := 1) (by omega)]
      refine lv_istore (lv' := [(7, .int (nI (k1 - 1))), (0, .ref mo), (1, .ref mzA), (2, .int (nI n)), (3, .ref mmA), (4, .int (nI k1)), (5, .ref mqA), (6, .int (nI kk))]) hx hb d_Model_divided_139 hl (by decide) rfl (fun ls hl => ?_)
      rw [← rgG_e (shL 65536 bd (2 ^ kk)) rd k1] at hP hD
      have hP : va_P (dC, dI) classes [(mo, .inr (12, (.int mer :: .int mfed :: .int mwr :: .int mct :: .int mls :: .ref moc :: .ref msT :: .ref mrV :: .ref msP :: .int mqs :: .ref mrA :: .ref mbA :: .ref mwA :: .ref mhA :: .ref mfA :: .ref mpA :: .ref mxA :: .ref myA :: .ref mmA :: .ref mqA :: .ref mzA :: .ref mwy :: .ref mfd :: .int msz :: .int mcz :: .int mch :: .int mft :: .int mpt :: .int mdp :: .int mvd :: .long mnw :: .int mmk :: []))), (mzA, .inl (cI, 600, .inl (tI ad))), (mmA, .inl (cI, 600, .inl (tI bd))), (mqA, .inl (cI, 600, .inl (tI qd))), (mrA, .inl (cI, 600, .inl (tI (rgG (shL 65536 bd (2 ^ kk)) rd k1 k1))))] s.heap := hP
      have hD : va_D A [(mo, .inr (12, (.int mer :: .int mfed :: .int mwr :: .int mct :: .int mls :: .ref moc :: .ref msT :: .ref mrV :: .ref msP :: .int mqs :: .ref mrA :: .ref mbA :: .ref mwA :: .ref mhA :: .ref mfA :: .ref mpA :: .ref mxA :: .ref myA :: .ref mmA :: .ref mqA :: .ref mzA :: .ref mwy :: .ref mfd :: .int msz :: .int mcz :: .int mch :: .int mft :: .int mpt :: .int mdp :: .int mvd :: .long mnw :: .int mmk :: []))), (mzA, .inl (cI, 600, .inl (tI ad))), (mmA, .inl (cI, 600, .inl (tI bd))), (mqA, .inl (cI, 600, .inl (tI qd))), (mrA, .inl (cI, 600, .inl (tI (rgG (shL 65536 bd (2 ^ kk)) rd k1 k1))))] := hD
      have hl : lv_has ls 18 [(0, .ref mo), (1, .ref mzA), (2, .int (nI n)), (3, .ref mmA), (4, .int (nI k1)), (5, .ref mqA), (6, .int (nI kk)), (7, .int (jD k1))] := by
        have h9 : lv_has ls 18 [(0, .ref mo), (1, .ref mzA), (2, .int (nI n)), (3, .ref mmA), (4, .int (nI k1)), (5, .ref mqA), (6, .int (nI kk)), (7, .int (nI (k1 - 1)))] := lv_sub hl [1, 2, 3, 4, 5, 6, 7, 0] rfl
        rw [jD_pos (k := k1) (by omega)]
        exact h9
      refine w_loopW (α := Nat) (fun k => k ≤ k1) (fun k => k) (fun k => [(0, .ref mo), (1, .ref mzA), (2, .int (nI n)), (3, .ref mmA), (4, .int (nI k1)), (5, .ref mqA), (6, .int (nI kk)), (7, .int (jD k))]) (fun _ => []) (fun k => [(mo, .inr (12, (.int mer :: .int mfed :: .int mwr :: .int mct :: .int mls :: .ref moc :: .ref msT :: .ref mrV :: .ref msP :: .int mqs :: .ref mrA :: .ref mbA :: .ref mwA :: .ref mhA :: .ref mfA :: .ref mpA :: .ref mxA :: .ref myA :: .ref mmA :: .ref mqA :: .ref mzA :: .ref mwy :: .ref mfd :: .int msz :: .int mcz :: .int mch :: .int mft :: .int mpt :: .int mdp :: .int mvd :: .long mnw :: .int mmk :: []))), (mzA, .inl (cI, 600, .inl (tI ad))), (mmA, .inl (cI, 600, .inl (tI bd))), (mqA, .inl (cI, 600, .inl (tI qd))), (mrA, .inl (cI, 600, .inl (tI (rgG (shL 65536 bd (2 ^ kk)) rd k k1))))]) 18 141 (fun k HL141 locs ls hJ141 hP hD hS hl ih141 => ?_) k1 _ _ ls (Nat.le_refl _) hP hD hS hl
      obtain _ | k := k
      · have hl : lv_has ls 18 [(0, .ref mo), (1, .ref mzA), (2, .int (nI n)), (3, .ref mmA), (4, .int (nI k1)), (5, .ref mqA), (6, .int (nI kk)), (7, .int (-1))] := hl
        have hP : va_P (dC, dI) classes [(mo, .inr (12, (.int mer :: .int mfed :: .int mwr :: .int mct :: .int mls :: .ref moc :: .ref msT :: .ref mrV :: .ref msP :: .int mqs :: .ref mrA :: .ref mbA :: .ref mwA :: .ref mhA :: .ref mfA :: .ref mpA :: .ref mxA :: .ref myA :: .ref mmA :: .ref mqA :: .ref mzA :: .ref mwy :: .ref mfd :: .int msz :: .int mcz :: .int mch :: .int mft :: .int mpt :: .int mdp :: .int mvd :: .long mnw :: .int mmk :: []))), (mzA, .inl (cI, 600, .inl (tI ad))), (mmA, .inl (cI, 600, .inl (tI bd))), (mqA, .inl (cI, 600, .inl (tI qd))), (mrA, .inl (cI, 600, .inl (tI (rgG (shL 65536 bd (2 ^ kk)) rd 0 k1))))] HL141 := hP
        have hD : va_D A [(mo, .inr (12, (.int mer :: .int mfed :: .int mwr :: .int mct :: .int mls :: .ref moc :: .ref msT :: .ref mrV :: .ref msP :: .int mqs :: .ref mrA :: .ref mbA :: .ref mwA :: .ref mhA :: .ref mfA :: .ref mpA :: .ref mxA :: .ref myA :: .ref mmA :: .ref mqA :: .ref mzA :: .ref mwy :: .ref mfd :: .int msz :: .int mcz :: .int mch :: .int mft :: .int mpt :: .int mdp :: .int mvd :: .long mnw :: .int mmk :: []))), (mzA, .inl (cI, 600, .inl (tI ad))), (mmA, .inl (cI, 600, .inl (tI bd))), (mqA, .inl (cI, 600, .inl (tI qd))), (mrA, .inl (cI, 600, .inl (tI (rgG (shL 65536 bd (2 ^ kk)) rd 0 k1))))] := hD
        refine lv_iload hx hb d_Model_divided_141 (lv_at hl 7 rfl) ?_
        refine lv_if_lt (tgt := 191) hx hb d_Model_divided_143 (by decide) (fun c143 => ?_) (fun c143 => ?_)
        rotate_left
        · exact absurd (by decide) c143
        obtain ⟨rs, hrs⟩ : ∃ rs : Nat → Nat, rs = rgG (shL 65536 bd (2 ^ kk)) rd 0 k1 := ⟨_, rfl⟩
        rw [← hrs] at hP hD
        have hP : va_P (dC, dI) classes [(mo, .inr (12, (.int mer :: .int mfed :: .int mwr :: .int mct :: .int mls :: .ref moc :: .ref msT :: .ref mrV :: .ref msP :: .int mqs :: .ref mrA :: .ref mbA :: .ref mwA :: .ref mhA :: .ref mfA :: .ref mpA :: .ref mxA :: .ref myA :: .ref mmA :: .ref mqA :: .ref mzA :: .ref mwy :: .ref mfd :: .int msz :: .int mcz :: .int mch :: .int mft :: .int mpt :: .int mdp :: .int mvd :: .long mnw :: .int mmk :: []))), (mzA, .inl (cI, 600, .inl (tI ad))), (mmA, .inl (cI, 600, .inl (tI bd))), (mqA, .inl (cI, 600, .inl (tI qd))), (mrA, .inl (cI, 600, .inl (tI rs)))] HL141 := hP
        have hD : va_D A [(mo, .inr (12, (.int mer :: .int mfed :: .int mwr :: .int mct :: .int mls :: .ref moc :: .ref msT :: .ref mrV :: .ref msP :: .int mqs :: .ref mrA :: .ref mbA :: .ref mwA :: .ref mhA :: .ref mfA :: .ref mpA :: .ref mxA :: .ref myA :: .ref mmA :: .ref mqA :: .ref mzA :: .ref mwy :: .ref mfd :: .int msz :: .int mcz :: .int mch :: .int mft :: .int mpt :: .int mdp :: .int mvd :: .long mnw :: .int mmk :: []))), (mzA, .inl (cI, 600, .inl (tI ad))), (mmA, .inl (cI, 600, .inl (tI bd))), (mqA, .inl (cI, 600, .inl (tI qd))), (mrA, .inl (cI, 600, .inl (tI rs)))] := hD
        have hrs9 := kb_rows hkk hbd hrd (by omega) (by rw [← ht, ← hX]; exact p120) (by rw [← ht, ← hX]; exact hX2) hrs
        obtain ⟨hrs1, hrs2, hrs3⟩ := hrs9
        have hrs4 := hrs1 (k1 - 1)
        have ha0 : ∀ j, updN ad n 0 j < 65536 := upN_lt had (by decide)
        refine lv_aload_n hx hb d_Model_divided_191 rfl (lv_at hl 1 rfl) ?_
        refine lv_iload_n hx hb d_Model_divided_192 rfl (lv_at hl 2 rfl) ?_
        refine lv_iconst (v := 0) hx hb d_Model_divided_193 (by decide) ?_
        have h194 : vp_in (nI n) 600 := vp_in_nI (by omega) (by omega)
        refine va_iast hx hb hK hP hD hS 1 0 rfl rfl h194 d_Model_divided_194 (fun H194 locs hP hD hS => ?_)
        rw [nI_clamp (by omega), show (0 : Int32) = nI 0 from rfl, tI_up] at hP hD
        have hP : va_P (dC, dI) classes [(mo, .inr (12, (.int mer :: .int mfed :: .int mwr :: .int mct :: .int mls :: .ref moc :: .ref msT :: .ref mrV :: .ref msP :: .int mqs :: .ref mrA :: .ref mbA :: .ref mwA :: .ref mhA :: .ref mfA :: .ref mpA :: .ref mxA :: .ref myA :: .ref mmA :: .ref mqA :: .ref mzA :: .ref mwy :: .ref mfd :: .int msz :: .int mcz :: .int mch :: .int mft :: .int mpt :: .int mdp :: .int mvd :: .long mnw :: .int mmk :: []))), (mzA, .inl (cI, 600, .inl (tI (updN ad n 0)))), (mmA, .inl (cI, 600, .inl (tI bd))), (mqA, .inl (cI, 600, .inl (tI qd))), (mrA, .inl (cI, 600, .inl (tI rs)))] H194 := hP
        have hD : va_D A [(mo, .inr (12, (.int mer :: .int mfed :: .int mwr :: .int mct :: .int mls :: .ref moc :: .ref msT :: .ref mrV :: .ref msP :: .int mqs :: .ref mrA :: .ref mbA :: .ref mwA :: .ref mhA :: .ref mfA :: .ref mpA :: .ref mxA :: .ref myA :: .ref mmA :: .ref mqA :: .ref mzA :: .ref mwy :: .ref mfd :: .int msz :: .int mcz :: .int mch :: .int mft :: .int mpt :: .int mdp :: .int mvd :: .long mnw :: .int mmk :: []))), (mzA, .inl (cI, 600, .inl (tI (updN ad n 0)))), (mmA, .inl (cI, 600, .inl (tI bd))), (mqA, .inl (cI, 600, .inl (tI qd))), (mrA, .inl (cI, 600, .inl (tI rs)))] := hD
        refine lv_iload_n hx hb d_Model_divided_195 rfl (lv_at hl 2 rfl) ?_
        refine lv_istore (lv' := [(7, .int (nI n)), (0, .ref mo), (1, .ref mzA), (2, .int (nI n)), (3, .ref mmA), (4, .int (nI k1)), (5, .ref mqA), (6, .int (nI kk))]) hx hb d_Model_divided_196 hl (by decide) rfl (fun ls hl => ?_)
        rw [← rgG_e (shL 65536 (updN ad n 0) (2 ^ kk)) (updN ad n 0) (n + 1)] at hP hD
        have hP : va_P (dC, dI) classes [(mo, .inr (12, (.int mer :: .int mfed :: .int mwr :: .int mct :: .int mls :: .ref moc :: .ref msT :: .ref mrV :: .ref msP :: .int mqs :: .ref mrA :: .ref mbA :: .ref mwA :: .ref mhA :: .ref mfA :: .ref mpA :: .ref mxA :: .ref myA :: .ref mmA :: .ref mqA :: .ref mzA :: .ref mwy :: .ref mfd :: .int msz :: .int mcz :: .int mch :: .int mft :: .int mpt :: .int mdp :: .int mvd :: .long mnw :: .int mmk :: []))), (mzA, .inl (cI, 600, .inl (tI (rgG (shL 65536 (updN ad n 0) (2 ^ kk)) (updN ad n 0) (n + 1) (n + 1))))), (mmA, .inl (cI, 600, .inl (tI bd))), (mqA, .inl (cI, 600, .inl (tI qd))), (mrA, .inl (cI, 600, .inl (tI rs)))] H194 := hP
        have hD : va_D A [(mo, .inr (12, (.int mer :: .int mfed :: .int mwr :: .int mct :: .int mls :: .ref moc :: .ref msT :: .ref mrV :: .ref msP :: .int mqs :: .ref mrA :: .ref mbA :: .ref mwA :: .ref mhA :: .ref mfA :: .ref mpA :: .ref mxA :: .ref myA :: .ref mmA :: .ref mqA :: .ref mzA :: .ref mwy :: .ref mfd :: .int msz :: .int mcz :: .int mch :: .int mft :: .int mpt :: .int mdp :: .int mvd :: .long mnw :: .int mmk :: []))), (mzA, .inl (cI, 600, .inl (tI (rgG (shL 65536 (updN ad n 0) (2 ^ kk)) (updN ad n 0) (n + 1) (n + 1))))), (mmA, .inl (cI, 600, .inl (tI bd))), (mqA, .inl (cI, 600, .inl (tI qd))), (mrA, .inl (cI, 600, .inl (tI rs)))] := hD
        have hl : lv_has ls 18 [(0, .ref mo), (1, .ref mzA), (2, .int (nI n)), (3, .ref mmA), (4, .int (nI k1)), (5, .ref mqA), (6, .int (nI kk)), (7, .int (jD (n + 1)))] := by
          have h9 : lv_has ls 18 [(0, .ref mo), (1, .ref mzA), (2, .int (nI n)), (3, .ref mmA), (4, .int (nI k1)), (5, .ref mqA), (6, .int (nI kk)), (7, .int (nI n))] := lv_sub hl [1, 2, 3, 4, 5, 6, 7, 0] rfl
          exact h9
        refine w_loopW (α := Nat) (fun k => k ≤ n + 1) (fun k => k) (fun k => [(0, .ref mo), (1, .ref mzA), (2, .int (nI n)), (3, .ref mmA), (4, .int (nI k1)), (5, .ref mqA), (6, .int (nI kk)), (7, .int (jD k))]) (fun _ => []) (fun k => [(mo, .inr (12, (.int mer :: .int mfed :: .int mwr :: .int mct :: .int mls :: .ref moc :: .ref msT :: .ref mrV :: .ref msP :: .int mqs :: .ref mrA :: .ref mbA :: .ref mwA :: .ref mhA :: .ref mfA :: .ref mpA :: .ref mxA :: .ref myA :: .ref mmA :: .ref mqA :: .ref mzA :: .ref mwy :: .ref mfd :: .int msz :: .int mcz :: .int mch :: .int mft :: .int mpt :: .int mdp :: .int mvd :: .long mnw :: .int mmk :: []))), (mzA, .inl (cI, 600, .inl (tI (rgG (shL 65536 (updN ad n 0) (2 ^ kk)) (updN ad n 0) k (n + 1))))), (mmA, .inl (cI, 600, .inl (tI bd))), (mqA, .inl (cI, 600, .inl (tI qd))), (mrA, .inl (cI, 600, .inl (tI rs)))]) 18 198 (fun k HL198 locs ls hJ198 hP hD hS hl ih198 => ?_) (n + 1) _ _ ls (Nat.le_refl _) hP hD hS hl
        obtain _ | k := k
        · have hl : lv_has ls 18 [(0, .ref mo), (1, .ref mzA), (2, .int (nI n)), (3, .ref mmA), (4, .int (nI k1)), (5, .ref mqA), (6, .int (nI kk)), (7, .int (-1))] := hl
          have hP : va_P (dC, dI) classes [(mo, .inr (12, (.int mer :: .int mfed :: .int mwr :: .int mct :: .int mls :: .ref moc :: .ref msT :: .ref mrV :: .ref msP :: .int mqs :: .ref mrA :: .ref mbA :: .ref mwA :: .ref mhA :: .ref mfA :: .ref mpA :: .ref mxA :: .ref myA :: .ref mmA :: .ref mqA :: .ref mzA :: .ref mwy :: .ref mfd :: .int msz :: .int mcz :: .int mch :: .int mft :: .int mpt :: .int mdp :: .int mvd :: .long mnw :: .int mmk :: []))), (mzA, .inl (cI, 600, .inl (tI (rgG (shL 65536 (updN ad n 0) (2 ^ kk)) (updN ad n 0) 0 (n + 1))))), (mmA, .inl (cI, 600, .inl (tI bd))), (mqA, .inl (cI, 600, .inl (tI qd))), (mrA, .inl (cI, 600, .inl (tI rs)))] HL198 := hP
          have hD : va_D A [(mo, .inr (12, (.int mer :: .int mfed :: .int mwr :: .int mct :: .int mls :: .ref moc :: .ref msT :: .ref mrV :: .ref msP :: .int mqs :: .ref mrA :: .ref mbA :: .ref mwA :: .ref mhA :: .ref mfA :: .ref mpA :: .ref mxA :: .ref myA :: .ref mmA :: .ref mqA :: .ref mzA :: .ref mwy :: .ref mfd :: .int msz :: .int mcz :: .int mch :: .int mft :: .int mpt :: .int mdp :: .int mvd :: .long mnw :: .int mmk :: []))), (mzA, .inl (cI, 600, .inl (tI (rgG (shL 65536 (updN ad n 0) (2 ^ kk)) (updN ad n 0) 0 (n + 1))))), (mmA, .inl (cI, 600, .inl (tI bd))), (mqA, .inl (cI, 600, .inl (tI qd))), (mrA, .inl (cI, 600, .inl (tI rs)))] := hD
          refine lv_iload hx hb d_Model_divided_198 (lv_at hl 7 rfl) ?_
          refine lv_if_lt (tgt := 245) hx hb d_Model_divided_200 (by decide) (fun c200 => ?_) (fun c200 => ?_)
          rotate_left
          · exact absurd (by decide) c200
          refine lv_iload_n hx hb d_Model_divided_245 rfl (lv_at hl 2 rfl) ?_
          refine lv_iload hx hb d_Model_divided_246 (lv_at hl 4 rfl) ?_
          refine lv_isub hx hb d_Model_divided_248 ?_
          rw [show ((nI n) - (nI k1) : Int32) = nI (n - k1) from pk_sub (a := n) (b := k1) (by omega)]
          refine lv_istore (lv' := [(7, .int (nI (n - k1))), (0, .ref mo), (1, .ref mzA), (2, .int (nI n)), (3, .ref mmA), (4, .int (nI k1)), (5, .ref mqA), (6, .int (nI kk))]) hx hb d_Model_divided_249 hl (by decide) rfl (fun ls hl => ?_)
          obtain ⟨f0, hf0⟩ : ∃ f : Nat → Nat, f = rgG (shL 65536 (updN ad n 0) (2 ^ kk)) (updN ad n 0) 0 (n + 1) := ⟨_, rfl⟩
          rw [← hf0] at hP hD
          have hP : va_P (dC, dI) classes [(mo, .inr (12, (.int mer :: .int mfed :: .int mwr :: .int mct :: .int mls :: .ref moc :: .ref msT :: .ref mrV :: .ref msP :: .int mqs :: .ref mrA :: .ref mbA :: .ref mwA :: .ref mhA :: .ref mfA :: .ref mpA :: .ref mxA :: .ref myA :: .ref mmA :: .ref mqA :: .ref mzA :: .ref mwy :: .ref mfd :: .int msz :: .int mcz :: .int mch :: .int mft :: .int mpt :: .int mdp :: .int mvd :: .long mnw :: .int mmk :: []))), (mzA, .inl (cI, 600, .inl (tI f0))), (mmA, .inl (cI, 600, .inl (tI bd))), (mqA, .inl (cI, 600, .inl (tI qd))), (mrA, .inl (cI, 600, .inl (tI rs)))] HL198 := hP
          have hD : va_D A [(mo, .inr (12, (.int mer :: .int mfed :: .int mwr :: .int mct :: .int mls :: .ref moc :: .ref msT :: .ref mrV :: .ref msP :: .int mqs :: .ref mrA :: .ref mbA :: .ref mwA :: .ref mhA :: .ref mfA :: .ref mpA :: .ref mxA :: .ref myA :: .ref mmA :: .ref mqA :: .ref mzA :: .ref mwy :: .ref mfd :: .int msz :: .int mcz :: .int mch :: .int mft :: .int mpt :: .int mdp :: .int mvd :: .long mnw :: .int mmk :: []))), (mzA, .inl (cI, 600, .inl (tI f0))), (mmA, .inl (cI, 600, .inl (tI bd))), (mqA, .inl (cI, 600, .inl (tI qd))), (mrA, .inl (cI, 600, .inl (tI rs)))] := hD
          obtain ⟨hf1, hf2, hf3⟩ := ka_rows (b0 := bd) hkk had (by omega) hmn hrs3 hrs1 hf0
          have hl : lv_has ls 18 [(0, .ref mo), (1, .ref mzA), (2, .int (nI n)), (3, .ref mmA), (4, .int (nI k1)), (5, .ref mqA), (6, .int (nI kk)), (7, .int (jD (n - k1 + 1)))] := by
            have h9 : lv_has ls 18 [(0, .ref mo), (1, .ref mzA), (2, .int (nI n)), (3, .ref mmA), (4, .int (nI k1)), (5, .ref mqA), (6, .int (nI kk)), (7, .int (nI (n - k1)))] := lv_sub hl [1, 2, 3, 4, 5, 6, 7, 0] rfl
            exact h9
          refine w_loopW (α := Nat × (Nat → Nat) × (Nat → Nat)) (fun k => k.1 ≤ n - k1 + 1 ∧ (∀ i, k.2.1 i < 65536) ∧ (∀ i, k.2.2 i < 131072) ∧ (∃ Q, vB 65536 k.2.1 (k.1 + k1) + Q * (vB 65536 rs k1) = (vB 65536 ad n * 2 ^ kk)) ∧ vB 65536 (fun i => k.2.1 (k.1 + i)) k1 < (vB 65536 rs k1) ∧ (k.1 ≤ n - k1 → k.2.1 (k.1 + k1) = 0)) (fun k => k.1) (fun k => [(0, .ref mo), (1, .ref mzA), (2, .int (nI n)), (3, .ref mmA), (4, .int (nI k1)), (5, .ref mqA), (6, .int (nI kk)), (7, .int (jD k.1))]) (fun _ => []) (fun k => [(mo, .inr (12, (.int mer :: .int mfed :: .int mwr :: .int mct :: .int mls :: .ref moc :: .ref msT :: .ref mrV :: .ref msP :: .int mqs :: .ref mrA :: .ref mbA :: .ref mwA :: .ref mhA :: .ref mfA :: .ref mpA :: .ref mxA :: .ref myA :: .ref mmA :: .ref mqA :: .ref mzA :: .ref mwy :: .ref mfd :: .int msz :: .int mcz :: .int mch :: .int mft :: .int mpt :: .int mdp :: .int mvd :: .long mnw :: .int mmk :: []))), (mzA, .inl (cI, 600, .inl (tI k.2.1))), (mmA, .inl (cI, 600, .inl (tI bd))), (mqA, .inl (cI, 600, .inl (tI k.2.2))), (mrA, .inl (cI, 600, .inl (tI rs)))]) 18 251 (fun k HL251 locs ls hJ251 hP hD hS hl ih251 => ?_) (n - k1 + 1, f0, qd) _ _ ls (⟨Nat.le_refl _, hf1, hqd, ⟨0, by show vB 65536 f0 (n - k1 + 1 + k1) + 0 * (vB 65536 rs k1) = (vB 65536 ad n * 2 ^ kk); rw [show n - k1 + 1 + k1 = n + 1 by omega, Nat.zero_mul, Nat.add_zero]; exact hf2⟩, hf3, fun q9 => absurd q9 (by show ¬ n - k1 + 1 ≤ n - k1; omega)⟩) hP hD hS hl
          obtain ⟨_ | j, f, qf⟩ := k
          · have hJ251 : 0 ≤ n - k1 + 1 ∧ (∀ i, f i < 65536) ∧ (∀ i, qf i < 131072) ∧ (∃ Q, vB 65536 f (0 + k1) + Q * (vB 65536 rs k1) = (vB 65536 ad n * 2 ^ kk)) ∧ vB 65536 (fun i => f (0 + i)) k1 < (vB 65536 rs k1) ∧ (0 ≤ n - k1 → f (0 + k1) = 0) := hJ251
            have hl : lv_has ls 18 [(0, .ref mo), (1, .ref mzA), (2, .int (nI n)), (3, .ref mmA), (4, .int (nI k1)), (5, .ref mqA), (6, .int (nI kk)), (7, .int (-1))] := hl
            have hP : va_P (dC, dI) classes [(mo, .inr (12, (.int mer :: .int mfed :: .int mwr :: .int mct :: .int mls :: .ref moc :: .ref msT :: .ref mrV :: .ref msP :: .int mqs :: .ref mrA :: .ref mbA :: .ref mwA :: .ref mhA :: .ref mfA :: .ref mpA :: .ref mxA :: .ref myA :: .ref mmA :: .ref mqA :: .ref mzA :: .ref mwy :: .ref mfd :: .int msz :: .int mcz :: .int mch :: .int mft :: .int mpt :: .int mdp :: .int mvd :: .long mnw :: .int mmk :: []))), (mzA, .inl (cI, 600, .inl (tI f))), (mmA, .inl (cI, 600, .inl (tI bd))), (mqA, .inl (cI, 600, .inl (tI qf))), (mrA, .inl (cI, 600, .inl (tI rs)))] HL251 := hP
            have hD : va_D A [(mo, .inr (12, (.int mer :: .int mfed :: .int mwr :: .int mct :: .int mls :: .ref moc :: .ref msT :: .ref mrV :: .ref msP :: .int mqs :: .ref mrA :: .ref mbA :: .ref mwA :: .ref mhA :: .ref mfA :: .ref mpA :: .ref mxA :: .ref myA :: .ref mmA :: .ref mqA :: .ref mzA :: .ref mwy :: .ref mfd :: .int msz :: .int mcz :: .int mch :: .int mft :: .int mpt :: .int mdp :: .int mvd :: .long mnw :: .int mmk :: []))), (mzA, .inl (cI, 600, .inl (tI f))), (mmA, .inl (cI, 600, .inl (tI bd))), (mqA, .inl (cI, 600, .inl (tI qf))), (mrA, .inl (cI, 600, .inl (tI rs)))] := hD
            refine lv_iload hx hb d_Model_divided_251 (lv_at hl 7 rfl) ?_
            refine lv_if_lt (tgt := 582) hx hb d_Model_divided_253 (by decide) (fun c253 => ?_) (fun c253 => ?_)
            rotate_left
            · exact absurd (by decide) c253
            obtain ⟨-, hf9, hq9, ⟨Q9, hQ9⟩, hfR, hfz⟩ := hJ251
            have hfz := hfz (Nat.zero_le _)
            rw [Nat.zero_add] at hQ9 hfz
            have hfR : vB 65536 f k1 < (vB 65536 rs k1) := by have h9 := hfR; rw [vB_congr (d' := f) k1 (fun i _ => congrArg f (Nat.zero_add i))] at h9; exact h9
            have hfx := kr_mod hQ9 hfR hrs2 rfl
            refine lv_aload_n hx hb d_Model_divided_582 rfl (lv_at hl 0 rfl) ?_
            refine lv_aload hx hb d_Model_divided_583 (lv_at hl 5 rfl) ?_
            refine lv_iload_n hx hb d_Model_divided_585 rfl (lv_at hl 2 rfl) ?_
            refine lv_iload hx hb d_Model_divided_586 (lv_at hl 4 rfl) ?_
            refine lv_isub hx hb d_Model_divided_588 ?_
            rw [show ((nI n) - (nI k1) : Int32) = nI (n - k1) from pk_sub (a := n) (b := k1) (by omega)]
            refine lv_iconst (v := 1) hx hb d_Model_divided_589 (by decide) ?_
            refine lv_iadd hx hb d_Model_divided_590 ?_
            rw [show ((nI (n - k1)) + 1 : Int32) = nI ((n - k1) + 1) from nI_add (n - k1) 1]
            refine vp_callSi (pu_callS (As := [.ref mqA, .int (nI ((n - k1) + 1))]) (rest := [.ref mo]) ⟨hx, hb, hml, hown, hts⟩ tbin (x_Model_trim l dC dI sb mqA ((n - k1) + 1) cI qf (by omega) hq9) q9_103 q9_104 q1_9 q9_105 (n := 2) (by decide +kernel) rfl ⟨rfl, rfl⟩ ⟨Nat.le_of_ble_eq_true rfl, Nat.le_of_ble_eq_true rfl⟩ ⟨Nat.le_of_ble_eq_true rfl, Nat.le_of_ble_eq_true rfl⟩ hN (hT0.keep hS hAs) hK hP [3] rfl [0] rfl hl.1 rfl (Nat.le_of_ble_eq_true rfl) d_Model_divided_591) (fun r591 hr591 => ?_)
            refine va_put (v := .int r591) (ty := .int) hx hb htb i_Model t_Model t_Model_ok n_Model hown hK hP hD hS 0 rfl rfl 9 (by decide) (htb _ q7_223) (fun _ h9 => h9) rfl (by decide +kernel) rfl rfl (Nat.le_of_ble_eq_true rfl) d_Model_divided_594 (fun H594 locs hP hD hS => ?_)
            have hP : va_P (dC, dI) classes [(mo, .inr (12, (.int mer :: .int mfed :: .int mwr :: .int mct :: .int mls :: .ref moc :: .ref msT :: .ref mrV :: .ref msP :: .int r591 :: .ref mrA :: .ref mbA :: .ref mwA :: .ref mhA :: .ref mfA :: .ref mpA :: .ref mxA :: .ref myA :: .ref mmA :: .ref mqA :: .ref mzA :: .ref mwy :: .ref mfd :: .int msz :: .int mcz :: .int mch :: .int mft :: .int mpt :: .int mdp :: .int mvd :: .long mnw :: .int mmk :: []))), (mzA, .inl (cI, 600, .inl (tI f))), (mmA, .inl (cI, 600, .inl (tI bd))), (mqA, .inl (cI, 600, .inl (tI qf))), (mrA, .inl (cI, 600, .inl (tI rs)))] H594 := hP
            have hD : va_D A [(mo, .inr (12, (.int mer :: .int mfed :: .int mwr :: .int mct :: .int mls :: .ref moc :: .ref msT :: .ref mrV :: .ref msP :: .int r591 :: .ref mrA :: .ref mbA :: .ref mwA :: .ref mhA :: .ref mfA :: .ref mpA :: .ref mxA :: .ref myA :: .ref mmA :: .ref mqA :: .ref mzA :: .ref mwy :: .ref mfd :: .int msz :: .int mcz :: .int mch :: .int mft :: .int mpt :: .int mdp :: .int mvd :: .long mnw :: .int mmk :: []))), (mzA, .inl (cI, 600, .inl (tI f))), (mmA, .inl (cI, 600, .inl (tI bd))), (mqA, .inl (cI, 600, .inl (tI qf))), (mrA, .inl (cI, 600, .inl (tI rs)))] := hD
            refine lv_iconst (v := 0) hx hb d_Model_divided_597 (by decide) ?_
            refine lv_istore (lv' := [(7, .int 0), (0, .ref mo), (1, .ref mzA), (2, .int (nI n)), (3, .ref mmA), (4, .int (nI k1)), (5, .ref mqA), (6, .int (nI kk))]) hx hb d_Model_divided_598 hl (by decide) rfl (fun ls hl => ?_)
            rw [← rgG_e (srL (2 ^ kk) (2 ^ (16 - kk)) f) f 0] at hP hD
            have hP : va_P (dC, dI) classes [(mo, .inr (12, (.int mer :: .int mfed :: .int mwr :: .int mct :: .int mls :: .ref moc :: .ref msT :: .ref mrV :: .ref msP :: .int r591 :: .ref mrA :: .ref mbA :: .ref mwA :: .ref mhA :: .ref mfA :: .ref mpA :: .ref mxA :: .ref myA :: .ref mmA :: .ref mqA :: .ref mzA :: .ref mwy :: .ref mfd :: .int msz :: .int mcz :: .int mch :: .int mft :: .int mpt :: .int mdp :: .int mvd :: .long mnw :: .int mmk :: []))), (mzA, .inl (cI, 600, .inl (tI (rgG (srL (2 ^ kk) (2 ^ (16 - kk)) f) f 0 0)))), (mmA, .inl (cI, 600, .inl (tI bd))), (mqA, .inl (cI, 600, .inl (tI qf))), (mrA, .inl (cI, 600, .inl (tI rs)))] H594 := hP
            have hD : va_D A [(mo, .inr (12, (.int mer :: .int mfed :: .int mwr :: .int mct :: .int mls :: .ref moc :: .ref msT :: .ref mrV :: .ref msP :: .int r591 :: .ref mrA :: .ref mbA :: .ref mwA :: .ref mhA :: .ref mfA :: .ref mpA :: .ref mxA :: .ref myA :: .ref mmA :: .ref mqA :: .ref mzA :: .ref mwy :: .ref mfd :: .int msz :: .int mcz :: .int mch :: .int mft :: .int mpt :: .int mdp :: .int mvd :: .long mnw :: .int mmk :: []))), (mzA, .inl (cI, 600, .inl (tI (rgG (srL (2 ^ kk) (2 ^ (16 - kk)) f) f 0 0)))), (mmA, .inl (cI, 600, .inl (tI bd))), (mqA, .inl (cI, 600, .inl (tI qf))), (mrA, .inl (cI, 600, .inl (tI rs)))] := hD
            refine w_loopW (α := Nat) (fun v => v ≤ k1) (fun v => k1 - v) (fun v => [(0, .ref mo), (1, .ref mzA), (2, .int (nI n)), (3, .ref mmA), (4, .int (nI k1)), (5, .ref mqA), (6, .int (nI kk)), (7, .int (nI v))]) (fun _ => []) (fun v => [(mo, .inr (12, (.int mer :: .int mfed :: .int mwr :: .int mct :: .int mls :: .ref moc :: .ref msT :: .ref mrV :: .ref msP :: .int r591 :: .ref mrA :: .ref mbA :: .ref mwA :: .ref mhA :: .ref mfA :: .ref mpA :: .ref mxA :: .ref myA :: .ref mmA :: .ref mqA :: .ref mzA :: .ref mwy :: .ref mfd :: .int msz :: .int mcz :: .int mch :: .int mft :: .int mpt :: .int mdp :: .int mvd :: .long mnw :: .int mmk :: []))), (mzA, .inl (cI, 600, .inl (tI (rgG (srL (2 ^ kk) (2 ^ (16 - kk)) f) f 0 v)))), (mmA, .inl (cI, 600, .inl (tI bd))), (mqA, .inl (cI, 600, .inl (tI qf))), (mrA, .inl (cI, 600, .inl (tI rs)))]) 18 600 (fun v HL600 locs ls hJ3 hP hD hS hl ih3 => ?_) 0 _ _ ls (Nat.zero_le _) hP hD hS (lv_sub hl [1, 2, 3, 4, 5, 6, 7, 0] rfl)
            have hP : va_P (dC, dI) classes [(mo, .inr (12, (.int mer :: .int mfed :: .int mwr :: .int mct :: .int mls :: .ref moc :: .ref msT :: .ref mrV :: .ref msP :: .int r591 :: .ref mrA :: .ref mbA :: .ref mwA :: .ref mhA :: .ref mfA :: .ref mpA :: .ref mxA :: .ref myA :: .ref mmA :: .ref mqA :: .ref mzA :: .ref mwy :: .ref mfd :: .int msz :: .int mcz :: .int mch :: .int mft :: .int mpt :: .int mdp :: .int mvd :: .long mnw :: .int mmk :: []))), (mzA, .inl (cI, 600, .inl (tI (rgG (srL (2 ^ kk) (2 ^ (16 - kk)) f) f 0 v)))), (mmA, .inl (cI, 600, .inl (tI bd))), (mqA, .inl (cI, 600, .inl (tI qf))), (mrA, .inl (cI, 600, .inl (tI rs)))] HL600 := hP
            have hD : va_D A [(mo, .inr (12, (.int mer :: .int mfed :: .int mwr :: .int mct :: .int mls :: .ref moc :: .ref msT :: .ref mrV :: .ref msP :: .int r591 :: .ref mrA :: .ref mbA :: .ref mwA :: .ref mhA :: .ref mfA :: .ref mpA :: .ref mxA :: .ref myA :: .ref mmA :: .ref mqA :: .ref mzA :: .ref mwy :: .ref mfd :: .int msz :: .int mcz :: .int mch :: .int mft :: .int mpt :: .int mdp :: .int mvd :: .long mnw :: .int mmk :: []))), (mzA, .inl (cI, 600, .inl (tI (rgG (srL (2 ^ kk) (2 ^ (16 - kk)) f) f 0 v)))), (mmA, .inl (cI, 600, .inl (tI bd))), (mqA, .inl (cI, 600, .inl (tI qf))), (mrA, .inl (cI, 600, .inl (tI rs)))] := hD
            refine lv_iload hx hb d_Model_divided_600 (lv_at hl 7 rfl) ?_
            refine lv_iload hx hb d_Model_divided_602 (lv_at hl 4 rfl) ?_
            refine lv_icmp_ge (tgt := 653) hx hb d_Model_divided_604 (by decide) (fun c604 => ?_) (fun c604 => ?_)
            · have p604 : k1 ≤ v := ((nI_leI (a := k1) (b := v) (by omega) (by omega)).mp c604)
              have hv9 : v = k1 := by omega
              have hsr : ∀ i, srL (2 ^ kk) (2 ^ (16 - kk)) f i < 65536 := fun i => by rw [p16 hkk]; exact srL_lt (Nat.two_pow_pos _) (fun i => by rw [← p16 hkk]; exact hf9 i) i
              have hrow8 : ∀ i, rgG (srL (2 ^ kk) (2 ^ (16 - kk)) f) f 0 v i < 65536 := rgG_lt hsr hf9
              have hrow9 : ∀ i, rgG (srL (2 ^ kk) (2 ^ (16 - kk)) f) f 0 v i < 131072 := fun i => Nat.lt_trans (hrow8 i) (by decide)
              refine lv_aload_n hx hb d_Model_divided_653 rfl (lv_at hl 1 rfl) ?_
              refine lv_iload hx hb d_Model_divided_654 (lv_at hl 4 rfl) ?_
              refine vp_callSi (pu_callS (As := [.ref mzA, .int (nI k1)]) (rest := []) ⟨hx, hb, hml, hown, hts⟩ tbin (x_Model_trim l dC dI sb mzA k1 cI (rgG (srL (2 ^ kk) (2 ^ (16 - kk)) f) f 0 v) (by omega) hrow9) q9_103 q9_104 q1_9 q9_105 (n := 2) (by decide +kernel) rfl ⟨rfl, rfl⟩ ⟨Nat.le_of_ble_eq_true rfl, Nat.le_of_ble_eq_true rfl⟩ ⟨Nat.le_of_ble_eq_true rfl, Nat.le_of_ble_eq_true rfl⟩ hN (hT0.keep hS hAs) hK hP [1] rfl [0] rfl hl.1 rfl (Nat.le_of_ble_eq_true rfl) d_Model_divided_656) (fun r656 hr656 => ?_)
              rw [show (r656 : Int32) = nI (tmN (rgG (srL (2 ^ kk) (2 ^ (16 - kk)) f) f 0 v) k1) from hr656]
              exact W.iret (v := nI (tmN (rgG (srL (2 ^ kk) (2 ^ (16 - kk)) f) f 0 v) k1)) hx hb hr (fun t ht hW => ⟨⟨_, (tmN (rgG (srL (2 ^ kk) (2 ^ (16 - kk)) f) f 0 v) k1, rgG (srL (2 ^ kk) (2 ^ (16 - kk)) f) f 0 v, qf, rs, r591), rfl, ⟨rfl, tmN_le _ _, tmN_top _ _, by rw [tmN_v, hv9, rgG_v]; exact (show vB 65536 (srL (2 ^ kk) (2 ^ (16 - kk)) f) k1 = _ from by have h9 := srL_out (x := vB 65536 ad n % vB 65536 bd k1) (Y := 2 ^ kk) (Z := 2 ^ (16 - kk)) (m := k1) (f := f) (Nat.two_pow_pos _) (by omega) hfz (by rw [← p16 hkk]; exact hfx); rw [← p16 hkk] at h9; exact h9), hrow8, hq9, hrs1⟩, by rw [ht]; exact hP, va_K.moved hW.alike hK, hD⟩, hS.F ht⟩) hS.2.2 d_Model_divided_659
            · have p604 : ¬ (k1 ≤ v) := (fun q9 => c604 ((nI_leI (a := k1) (b := v) (by omega) (by omega)).mpr q9))
              refine lv_aload_n hx hb d_Model_divided_607 rfl (lv_at hl 1 rfl) ?_
              refine lv_iload hx hb d_Model_divided_608 (lv_at hl 7 rfl) ?_
              refine lv_aload_n hx hb d_Model_divided_610 rfl (lv_at hl 1 rfl) ?_
              refine lv_iload hx hb d_Model_divided_611 (lv_at hl 7 rfl) ?_
              have h613 : vp_in (nI v) 600 := vp_in_nI (by omega) (by omega)
              refine va_iald hx hb hK hP 1 0 rfl rfl h613 d_Model_divided_613 ?_
              rw [show tI (rgG (srL (2 ^ kk) (2 ^ (16 - kk)) f) f 0 v) (nI v).toNatClampNeg = nI ((rgG (srL (2 ^ kk) (2 ^ (16 - kk)) f) f 0 v) v) from tI_at (by omega)]
              rw [show (nI ((rgG (srL (2 ^ kk) (2 ^ (16 - kk)) f) f 0 v) v) : Int32) = nI (f v) from congrArg nI (rgG_out (Or.inr (by omega)))]
              refine lv_iload hx hb d_Model_divided_614 (lv_at hl 6 rfl) ?_
              refine lv_ishr hx hb d_Model_divided_616 ?_
              refine lv_iload hx hb d_Model_divided_617 (lv_at hl 7 rfl) ?_
              refine lv_iconst (v := 1) hx hb d_Model_divided_619 (by decide) ?_
              refine lv_iadd hx hb d_Model_divided_620 ?_
              rw [show ((nI v) + 1 : Int32) = nI (v + 1) from nI_add v 1]
              refine lv_iload hx hb d_Model_divided_621 (lv_at hl 4 rfl) ?_
              refine lv_icmp_gt (tgt := 641) hx hb d_Model_divided_623 (by decide) (fun c623 => ?_) (fun c623 => ?_)
              · exact absurd ((nI_ltI (a := k1) (b := v + 1) (by omega) (by omega)).mp c623) (by omega)
              refine lv_aload_n hx hb d_Model_divided_626 rfl (lv_at hl 1 rfl) ?_
              refine lv_iload hx hb d_Model_divided_627 (lv_at hl 7 rfl) ?_
              refine lv_iconst (v := 1) hx hb d_Model_divided_629 (by decide) ?_
              refine lv_iadd hx hb d_Model_divided_630 ?_
              rw [show ((nI v) + 1 : Int32) = nI (v + 1) from nI_add v 1]
              have h631 : vp_in (nI (v + 1)) 600 := vp_in_nI (by omega) (by omega)
              refine va_iald hx hb hK hP 1 0 rfl rfl h631 d_Model_divided_631 ?_
              rw [show tI (rgG (srL (2 ^ kk) (2 ^ (16 - kk)) f) f 0 v) (nI (v + 1)).toNatClampNeg = nI ((rgG (srL (2 ^ kk) (2 ^ (16 - kk)) f) f 0 v) (v + 1)) from tI_at (by omega)]
              rw [show (nI ((rgG (srL (2 ^ kk) (2 ^ (16 - kk)) f) f 0 v) (v + 1)) : Int32) = nI (f (v + 1)) from congrArg nI (rgG_out (Or.inr (by omega)))]
              refine lv_bipush (v := 16) hx hb d_Model_divided_632 (by decide) ?_
              refine lv_iload hx hb d_Model_divided_634 (lv_at hl 6 rfl) ?_
              refine lv_isub hx hb d_Model_divided_636 ?_
              rw [show (16 - (nI kk) : Int32) = nI (16 - kk) from pk_sub (a := 16) (b := kk) (by omega)]
              refine lv_ishl hx hb d_Model_divided_637 ?_
              refine lv_goto (tgt := 642) hx hb d_Model_divided_638 (by decide) ?_
              refine lv_ior hx hb d_Model_divided_642 ?_
              refine lv_ldc (v := 65535) hx hb hown (htb _ q9_126) d_Model_divided_643 ?_
              refine lv_iand hx hb d_Model_divided_645 ?_
              rw [show ((((nI (f v)) >>> ((nI kk) &&& 31)) ||| ((nI (f (v + 1))) <<< ((nI (16 - kk)) &&& 31))) &&& 65535 : Int32) = nI (srL (2 ^ kk) (2 ^ (16 - kk)) f v) from mvR_s hkk (hf9 _) (hf9 _)]
              have h646 : vp_in (nI v) 600 := vp_in_nI (by omega) (by omega)
              refine va_iast hx hb hK hP hD hS 1 0 rfl rfl h646 d_Model_divided_646 (fun H646 locs hP hD hS => ?_)
              rw [nI_clamp (by omega), tI_up] at hP hD
              have hP : va_P (dC, dI) classes [(mo, .inr (12, (.int mer :: .int mfed :: .int mwr :: .int mct :: .int mls :: .ref moc :: .ref msT :: .ref mrV :: .ref msP :: .int r591 :: .ref mrA :: .ref mbA :: .ref mwA :: .ref mhA :: .ref mfA :: .ref mpA :: .ref mxA :: .ref myA :: .ref mmA :: .ref mqA :: .ref mzA :: .ref mwy :: .ref mfd :: .int msz :: .int mcz :: .int mch :: .int mft :: .int mpt :: .int mdp :: .int mvd :: .long mnw :: .int mmk :: []))), (mzA, .inl (cI, 600, .inl (tI (updN (rgG (srL (2 ^ kk) (2 ^ (16 - kk)) f) f 0 v) v (srL (2 ^ kk) (2 ^ (16 - kk)) f v))))), (mmA, .inl (cI, 600, .inl (tI bd))), (mqA, .inl (cI, 600, .inl (tI qf))), (mrA, .inl (cI, 600, .inl (tI rs)))] H646 := hP
              have hD : va_D A [(mo, .inr (12, (.int mer :: .int mfed :: .int mwr :: .int mct :: .int mls :: .ref moc :: .ref msT :: .ref mrV :: .ref msP :: .int r591 :: .ref mrA :: .ref mbA :: .ref mwA :: .ref mhA :: .ref mfA :: .ref mpA :: .ref mxA :: .ref myA :: .ref mmA :: .ref mqA :: .ref mzA :: .ref mwy :: .ref mfd :: .int msz :: .int mcz :: .int mch :: .int mft :: .int mpt :: .int mdp :: .int mvd :: .long mnw :: .int mmk :: []))), (mzA, .inl (cI, 600, .inl (tI (updN (rgG (srL (2 ^ kk) (2 ^ (16 - kk)) f) f 0 v) v (srL (2 ^ kk) (2 ^ (16 - kk)) f v))))), (mmA, .inl (cI, 600, .inl (tI bd))), (mqA, .inl (cI, 600, .inl (tI qf))), (mrA, .inl (cI, 600, .inl (tI rs)))] := hD
              rw [rgG_up (v := srL (2 ^ kk) (2 ^ (16 - kk)) f) (by omega)] at hP hD
              have hP : va_P (dC, dI) classes [(mo, .inr (12, (.int mer :: .int mfed :: .int mwr :: .int mct :: .int mls :: .ref moc :: .ref msT :: .ref mrV :: .ref msP :: .int r591 :: .ref mrA :: .ref mbA :: .ref mwA :: .ref mhA :: .ref mfA :: .ref mpA :: .ref mxA :: .ref myA :: .ref mmA :: .ref mqA :: .ref mzA :: .ref mwy :: .ref mfd :: .int msz :: .int mcz :: .int mch :: .int mft :: .int mpt :: .int mdp :: .int mvd :: .long mnw :: .int mmk :: []))), (mzA, .inl (cI, 600, .inl (tI (rgG (srL (2 ^ kk) (2 ^ (16 - kk)) f) f 0 (v + 1))))), (mmA, .inl (cI, 600, .inl (tI bd))), (mqA, .inl (cI, 600, .inl (tI qf))), (mrA, .inl (cI, 600, .inl (tI rs)))] H646 := hP
              have hD : va_D A [(mo, .inr (12, (.int mer :: .int mfed :: .int mwr :: .int mct :: .int mls :: .ref moc :: .ref msT :: .ref mrV :: .ref msP :: .int r591 :: .ref mrA :: .ref mbA :: .ref mwA :: .ref mhA :: .ref mfA :: .ref mpA :: .ref mxA :: .ref myA :: .ref mmA :: .ref mqA :: .ref mzA :: .ref mwy :: .ref mfd :: .int msz :: .int mcz :: .int mch :: .int mft :: .int mpt :: .int mdp :: .int mvd :: .long mnw :: .int mmk :: []))), (mzA, .inl (cI, 600, .inl (tI (rgG (srL (2 ^ kk) (2 ^ (16 - kk)) f) f 0 (v + 1))))), (mmA, .inl (cI, 600, .inl (tI bd))), (mqA, .inl (cI, 600, .inl (tI qf))), (mrA, .inl (cI, 600, .inl (tI rs)))] := hD
              refine lv_iinc (v := nI (v + 1)) (lv' := [(7, .int (nI (v + 1))), (0, .ref mo), (1, .ref mzA), (2, .int (nI n)), (3, .ref mmA), (4, .int (nI k1)), (5, .ref mqA), (6, .int (nI kk))]) hx hb d_Model_divided_647 hl (k := 7) rfl (nI_1 _) (by decide) rfl (fun ls hl => ?_)
              refine lv_goto (tgt := 600) hx hb d_Model_divided_650 (by decide) ?_
              exact ih3 (v + 1) _ _ ls (by omega) (by omega) hP hD hS (lv_sub hl [1, 2, 3, 4, 5, 6, 7, 0] rfl)
          · have hJ251 : (j + 1) ≤ n - k1 + 1 ∧ (∀ i, f i < 65536) ∧ (∀ i, qf i < 131072) ∧ (∃ Q, vB 65536 f ((j + 1) + k1) + Q * (vB 65536 rs k1) = (vB 65536 ad n * 2 ^ kk)) ∧ vB 65536 (fun i => f ((j + 1) + i)) k1 < (vB 65536 rs k1) ∧ ((j + 1) ≤ n - k1 → f ((j + 1) + k1) = 0) := hJ251
            have hl : lv_has ls 18 [(0, .ref mo), (1, .ref mzA), (2, .int (nI n)), (3, .ref mmA), (4, .int (nI k1)), (5, .ref mqA), (6, .int (nI kk)), (7, .int (nI j))] := hl
            have hP : va_P (dC, dI) classes [(mo, .inr (12, (.int mer :: .int mfed :: .int mwr :: .int mct :: .int mls :: .ref moc :: .ref msT :: .ref mrV :: .ref msP :: .int mqs :: .ref mrA :: .ref mbA :: .ref mwA :: .ref mhA :: .ref mfA :: .ref mpA :: .ref mxA :: .ref myA :: .ref mmA :: .ref mqA :: .ref mzA :: .ref mwy :: .ref mfd :: .int msz :: .int mcz :: .int mch :: .int mft :: .int mpt :: .int mdp :: .int mvd :: .long mnw :: .int mmk :: []))), (mzA, .inl (cI, 600, .inl (tI f))), (mmA, .inl (cI, 600, .inl (tI bd))), (mqA, .inl (cI, 600, .inl (tI qf))), (mrA, .inl (cI, 600, .inl (tI rs)))] HL251 := hP
            have hD : va_D A [(mo, .inr (12, (.int mer :: .int mfed :: .int mwr :: .int mct :: .int mls :: .ref moc :: .ref msT :: .ref mrV :: .ref msP :: .int mqs :: .ref mrA :: .ref mbA :: .ref mwA :: .ref mhA :: .ref mfA :: .ref mpA :: .ref mxA :: .ref myA :: .ref mmA :: .ref mqA :: .ref mzA :: .ref mwy :: .ref mfd :: .int msz :: .int mcz :: .int mch :: .int mft :: .int mpt :: .int mdp :: .int mvd :: .long mnw :: .int mmk :: []))), (mzA, .inl (cI, 600, .inl (tI f))), (mmA, .inl (cI, 600, .inl (tI bd))), (mqA, .inl (cI, 600, .inl (tI qf))), (mrA, .inl (cI, 600, .inl (tI rs)))] := hD
            refine lv_iload hx hb d_Model_divided_251 (lv_at hl 7 rfl) ?_
            refine lv_if_lt (tgt := 582) hx hb d_Model_divided_253 (by decide) (fun c253 => ?_) (fun c253 => ?_)
            · exact absurd c253 (nI_nn (by omega))
            have hf9 := hJ251.2.1
            refine lv_aload_n hx hb d_Model_divided_256 rfl (lv_at hl 1 rfl) ?_
            refine lv_iload hx hb d_Model_divided_257 (lv_at hl 7 rfl) ?_
            refine lv_iload hx hb d_Model_divided_259 (lv_at hl 4 rfl) ?_
            refine lv_iadd hx hb d_Model_divided_261 ?_
            rw [show ((nI j) + (nI k1) : Int32) = nI (j + k1) from nI_add j k1]
            have h262 : vp_in (nI (j + k1)) 600 := vp_in_nI (by omega) (by omega)
            refine va_iald hx hb hK hP 1 0 rfl rfl h262 d_Model_divided_262 ?_
            rw [show tI f (nI (j + k1)).toNatClampNeg = nI (f (j + k1)) from tI_at (by omega)]
            have hu262 := hf9 (j + k1)
            refine lv_i2l (v := (nI (f (j + k1))).toInt64) hx hb d_Model_divided_263 rfl ?_
            rw [show (nI (f (j + k1))).toInt64 = lN (f (j + k1)) from nI_l (by omega)]
            refine lv_bipush (v := 16) hx hb d_Model_divided_264 (by decide) ?_
            refine lv_lshl (v := (lN (f (j + k1))) <<< ((16 : Int32).toInt64 &&& 63)) hx hb d_Model_divided_266 rfl ?_
            refine lv_aload_n hx hb d_Model_divided_267 rfl (lv_at hl 1 rfl) ?_
            refine lv_iload hx hb d_Model_divided_268 (lv_at hl 7 rfl) ?_
            refine lv_iload hx hb d_Model_divided_270 (lv_at hl 4 rfl) ?_
            refine lv_iadd hx hb d_Model_divided_272 ?_
            rw [show ((nI j) + (nI k1) : Int32) = nI (j + k1) from nI_add j k1]
            refine lv_iconst (v := 1) hx hb d_Model_divided_273 (by decide) ?_
            refine lv_isub hx hb d_Model_divided_274 ?_
            rw [show ((nI (j + k1)) - 1 : Int32) = nI ((j + k1) - 1) from pk_sub (a := (j + k1)) (b := 1) (by omega)]
            have h275 : vp_in (nI ((j + k1) - 1)) 600 := vp_in_nI (by omega) (by omega)
            refine va_iald hx hb hK hP 1 0 rfl rfl h275 d_Model_divided_275 ?_
            rw [show tI f (nI ((j + k1) - 1)).toNatClampNeg = nI (f ((j + k1) - 1)) from tI_at (by omega)]
            have hu275 := hf9 ((j + k1) - 1)
            refine lv_i2l (v := (nI (f ((j + k1) - 1))).toInt64) hx hb d_Model_divided_276 rfl ?_
            rw [show (nI (f ((j + k1) - 1))).toInt64 = lN (f ((j + k1) - 1)) from nI_l (by omega)]
            refine lv_lor hx hb d_Model_divided_277 ?_
            rw [show (((lN (f (j + k1))) <<< ((16 : Int32).toInt64 &&& 63)) ||| (lN (f ((j + k1) - 1))) : Int64) = lN ((f (j + k1)) * 65536 + (f (j + k1 - 1))) from l_or16 (by omega) (by omega)]
            obtain ⟨g278, hg278⟩ : ∃ g : Nat, g = ((f (j + k1)) * 65536 + (f (j + k1 - 1))) := ⟨_, rfl⟩
            rw [← hg278]
            have hb278 : g278 < 4294967296 := by omega
            refine lv_lstore (lv' := [(8, .long (lN g278)), (0, .ref mo), (1, .ref mzA), (2, .int (nI n)), (3, .ref mmA), (4, .int (nI k1)), (5, .ref mqA), (6, .int (nI kk)), (7, .int (nI j))]) hx hb d_Model_divided_278 hl (by decide) rfl (fun ls hl => ?_)
            refine lv_lload hx hb d_Model_divided_280 (lv_at hl 0 rfl) ?_
            refine lv_aload_n hx hb d_Model_divided_282 rfl (lv_at hl 1 rfl) ?_
            refine va_get (v := .ref mrA) hx hb htb i_Model hown hK hP 0 rfl rfl 10 (by decide) (htb _ q7_224) (fun _ h9 => h9) rfl d_Model_divided_283 ?_
            refine lv_iload hx hb d_Model_divided_286 (lv_at hl 5 rfl) ?_
            refine lv_iconst (v := 1) hx hb d_Model_divided_288 (by decide) ?_
            refine lv_isub hx hb d_Model_divided_289 ?_
            rw [show ((nI k1) - 1 : Int32) = nI (k1 - 1) from pk_sub (a := k1) (b := 1) (by omega)]
            have h290 : vp_in (nI (k1 - 1)) 600 := vp_in_nI (by omega) (by omega)
            refine va_iald hx hb hK hP 4 0 rfl rfl h290 d_Model_divided_290 ?_
            rw [show tI rs (nI (k1 - 1)).toNatClampNeg = nI (rs (k1 - 1)) from tI_at (by omega)]
            have hu290 := hrs1 (k1 - 1)
            refine lv_i2l (v := (nI (rs (k1 - 1))).toInt64) hx hb d_Model_divided_291 rfl ?_
            rw [show (nI (rs (k1 - 1))).toInt64 = lN (rs (k1 - 1)) from nI_l (by omega)]
            refine lv_ldiv hx hb d_Model_divided_292 (i64_nz (by omega) (by omega)) ?_
            rw [show ((lN g278) / (lN (rs (k1 - 1))) : Int64) = lN (g278 / (rs (k1 - 1))) from l_div (by omega) (by omega) (by omega)]
            refine lv_lstore (lv' := [(10, .long (lN (g278 / (rs (k1 - 1))))), (8, .long (lN g278)), (0, .ref mo), (1, .ref mzA), (2, .int (nI n)), (3, .ref mmA), (4, .int (nI k1)), (5, .ref mqA), (6, .int (nI kk)), (7, .int (nI j))]) hx hb d_Model_divided_293 hl (by decide) rfl (fun ls hl => ?_)
            refine lv_lload hx hb d_Model_divided_295 (lv_at hl 1 rfl) ?_
            refine lv_aload_n hx hb d_Model_divided_297 rfl (lv_at hl 2 rfl) ?_
            refine va_get (v := .ref mrA) hx hb htb i_Model hown hK hP 0 rfl rfl 10 (by decide) (htb _ q7_224) (fun _ h9 => h9) rfl d_Model_divided_298 ?_
            refine lv_iload hx hb d_Model_divided_301 (lv_at hl 6 rfl) ?_
            refine lv_iconst (v := 1) hx hb d_Model_divided_303 (by decide) ?_
            refine lv_isub hx hb d_Model_divided_304 ?_
            rw [show ((nI k1) - 1 : Int32) = nI (k1 - 1) from pk_sub (a := k1) (b := 1) (by omega)]
            have h305 : vp_in (nI (k1 - 1)) 600 := vp_in_nI (by omega) (by omega)
            refine va_iald hx hb hK hP 4 0 rfl rfl h305 d_Model_divided_305 ?_
            rw [show tI rs (nI (k1 - 1)).toNatClampNeg = nI (rs (k1 - 1)) from tI_at (by omega)]
            have hu305 := hrs1 (k1 - 1)
            refine lv_i2l (v := (nI (rs (k1 - 1))).toInt64) hx hb d_Model_divided_306 rfl ?_
            rw [show (nI (rs (k1 - 1))).toInt64 = lN (rs (k1 - 1)) from nI_l (by omega)]
            refine lv_lrem hx hb d_Model_divided_307 (i64_nz (by omega) (by omega)) ?_
            rw [show ((lN g278) - (lN g278) / (lN (rs (k1 - 1))) * (lN (rs (k1 - 1))) : Int64) = lN (g278 % (rs (k1 - 1))) from l_rem (by omega) (by omega) (by omega)]
            refine lv_lstore (lv' := [(12, .long (lN (g278 % (rs (k1 - 1))))), (10, .long (lN (g278 / (rs (k1 - 1))))), (8, .long (lN g278)), (0, .ref mo), (1, .ref mzA), (2, .int (nI n)), (3, .ref mmA), (4, .int (nI k1)), (5, .ref mqA), (6, .int (nI kk)), (7, .int (nI j))]) hx hb d_Model_divided_308 hl (by decide) rfl (fun ls hl => ?_)
            obtain ⟨P, tl, vl, hP0, htl, hvl, hT9, hR9, hRW⟩ := kt_parts (j := j) (f := f) (r := rs) hk1 hf9 hrs1
            have hTW : (vB 65536 (fun i => f (j + i)) (k1 + 1)) < 65536 * (vB 65536 rs k1) := kr_lt hf9 hJ251.2.2.2.2.1
            rw [← hg278] at hT9
            have hv2 := hrs1 (k1 - 2)
            have hu0 := hf9 (j + k1 - 2)
            refine w_joinA (α := Nat) (fun g => (vB 65536 (fun i => f (j + i)) (k1 + 1)) < (g + 1) * (vB 65536 rs k1) ∧ g * (vB 65536 rs k1) ≤ (vB 65536 (fun i => f (j + i)) (k1 + 1)) + (vB 65536 rs k1) ∧ g ≤ 65536) (fun g => [(0, .ref mo), (1, .ref mzA), (2, .int (nI n)), (3, .ref mmA), (4, .int (nI k1)), (5, .ref mqA), (6, .int (nI kk)), (7, .int (nI j)), (10, .long (lN g))]) (fun _ => []) 18 385 (fun g ls hg hl => ?_) (fun k385 => ?_)
            · obtain ⟨hgl, hgu, hgW⟩ := hg
              refine lv_lconst (v := 0) hx hb d_Model_divided_385 (by decide) ?_
              refine lv_lstore (lv' := [(14, .long 0), (0, .ref mo), (1, .ref mzA), (2, .int (nI n)), (3, .ref mmA), (4, .int (nI k1)), (5, .ref mqA), (6, .int (nI kk)), (7, .int (nI j)), (10, .long (lN g))]) hx hb d_Model_divided_386 hl (by decide) rfl (fun ls hl => ?_)
              refine lv_iconst (v := 0) hx hb d_Model_divided_388 (by decide) ?_
              refine lv_istore (lv' := [(16, .int 0), (14, .long 0), (0, .ref mo), (1, .ref mzA), (2, .int (nI n)), (3, .ref mmA), (4, .int (nI k1)), (5, .ref mqA), (6, .int (nI kk)), (7, .int (nI j)), (10, .long (lN g))]) hx hb d_Model_divided_389 hl (by decide) rfl (fun ls hl => ?_)
              have hl : lv_has ls 18 [(0, .ref mo), (1, .ref mzA), (2, .int (nI n)), (3, .ref mmA), (4, .int (nI k1)), (5, .ref mqA), (6, .int (nI kk)), (7, .int (nI j)), (10, .long (lN g)), (14, .long (-(lN 0))), (16, .int 0)] := by
                rw [show (-(lN 0) : Int64) = 0 from by decide]
                exact lv_sub hl [2, 3, 4, 5, 6, 7, 8, 9, 10, 1, 0] rfl
              refine w_loopW (α := Nat × (Nat → Nat) × Nat) (fun u => u.1 ≤ k1 ∧ (∀ q, u.2.1 q < 65536) ∧ (∀ i, i < j → u.2.1 i = f i) ∧ (∀ i, j + u.1 ≤ i → u.2.1 i = f i) ∧ u.2.2 ≤ g + 1 ∧ vB 65536 (fun i => u.2.1 (j + i)) u.1 + g * vB 65536 rs u.1 = vB 65536 (fun i => f (j + i)) u.1 + u.2.2 * 65536 ^ u.1) (fun u => k1 - u.1) (fun u => [(0, .ref mo), (1, .ref mzA), (2, .int (nI n)), (3, .ref mmA), (4, .int (nI k1)), (5, .ref mqA), (6, .int (nI kk)), (7, .int (nI j)), (10, .long (lN g)), (14, .long (-(lN u.2.2))), (16, .int (nI u.1))]) (fun _ => []) (fun u => [(mo, .inr (12, (.int mer :: .int mfed :: .int mwr :: .int mct :: .int mls :: .ref moc :: .ref msT :: .ref mrV :: .ref msP :: .int mqs :: .ref mrA :: .ref mbA :: .ref mwA :: .ref mhA :: .ref mfA :: .ref mpA :: .ref mxA :: .ref myA :: .ref mmA :: .ref mqA :: .ref mzA :: .ref mwy :: .ref mfd :: .int msz :: .int mcz :: .int mch :: .int mft :: .int mpt :: .int mdp :: .int mvd :: .long mnw :: .int mmk :: []))), (mzA, .inl (cI, 600, .inl (tI u.2.1))), (mmA, .inl (cI, 600, .inl (tI bd))), (mqA, .inl (cI, 600, .inl (tI qf))), (mrA, .inl (cI, 600, .inl (tI rs)))]) 18 391 (fun u HL391 locs ls hJ1 hP hD hS hl ih1 => ?_) (0, f, 0) _ _ ls (⟨Nat.zero_le _, hf9, fun _ _ => rfl, fun _ _ => rfl, Nat.zero_le _, by rw [Nat.zero_mul]; rfl⟩) hP hD hS (lv_sub hl [0, 1, 2, 3, 4, 5, 6, 7, 8, 9, 10] rfl)
              have hP : va_P (dC, dI) classes [(mo, .inr (12, (.int mer :: .int mfed :: .int mwr :: .int mct :: .int mls :: .ref moc :: .ref msT :: .ref mrV :: .ref msP :: .int mqs :: .ref mrA :: .ref mbA :: .ref mwA :: .ref mhA :: .ref mfA :: .ref mpA :: .ref mxA :: .ref myA :: .ref mmA :: .ref mqA :: .ref mzA :: .ref mwy :: .ref mfd :: .int msz :: .int mcz :: .int mch :: .int mft :: .int mpt :: .int mdp :: .int mvd :: .long mnw :: .int mmk :: []))), (mzA, .inl (cI, 600, .inl (tI u.2.1))), (mmA, .inl (cI, 600, .inl (tI bd))), (mqA, .inl (cI, 600, .inl (tI qf))), (mrA, .inl (cI, 600, .inl (tI rs)))] HL391 := hP
              have hD : va_D A [(mo, .inr (12, (.int mer :: .int mfed :: .int mwr :: .int mct :: .int mls :: .ref moc :: .ref msT :: .ref mrV :: .ref msP :: .int mqs :: .ref mrA :: .ref mbA :: .ref mwA :: .ref mhA :: .ref mfA :: .ref mpA :: .ref mxA :: .ref myA :: .ref mmA :: .ref mqA :: .ref mzA :: .ref mwy :: .ref mfd :: .int msz :: .int mcz :: .int mch :: .int mft :: .int mpt :: .int mdp :: .int mvd :: .long mnw :: .int mmk :: []))), (mzA, .inl (cI, 600, .inl (tI u.2.1))), (mmA, .inl (cI, 600, .inl (tI bd))), (mqA, .inl (cI, 600, .inl (tI qf))), (mrA, .inl (cI, 600, .inl (tI rs)))] := hD
              refine lv_iload hx hb d_Model_divided_391 (lv_at hl 10 rfl) ?_
              refine lv_iload hx hb d_Model_divided_393 (lv_at hl 4 rfl) ?_
              refine lv_icmp_ge (tgt := 450) hx hb d_Model_divided_395 (by decide) (fun c395 => ?_) (fun c395 => ?_)
              · have p395 : k1 ≤ u.1 := ((nI_leI (a := k1) (b := u.1) (by omega) (by omega)).mp c395)
                have hu9 : u.1 = k1 := by omega
                refine lv_lload hx hb d_Model_divided_450 (lv_at hl 9 rfl) ?_
                refine lv_aload_n hx hb d_Model_divided_452 rfl (lv_at hl 1 rfl) ?_
                refine lv_iload hx hb d_Model_divided_453 (lv_at hl 7 rfl) ?_
                refine lv_iload hx hb d_Model_divided_455 (lv_at hl 4 rfl) ?_
                refine lv_iadd hx hb d_Model_divided_457 ?_
                rw [show ((nI j) + (nI k1) : Int32) = nI (j + k1) from nI_add j k1]
                have h458 : vp_in (nI (j + k1)) 600 := vp_in_nI (by omega) (by omega)
                refine va_iald hx hb hK hP 1 0 rfl rfl h458 d_Model_divided_458 ?_
                rw [show tI u.2.1 (nI (j + k1)).toNatClampNeg = nI (u.2.1 (j + k1)) from tI_at (by omega)]
                have hu458 := hJ1.2.1 (j + k1)
                refine lv_i2l (v := (nI (u.2.1 (j + k1))).toInt64) hx hb d_Model_divided_459 rfl ?_
                rw [show (nI (u.2.1 (j + k1))).toInt64 = lN (u.2.1 (j + k1)) from nI_l (by omega)]
                refine lv_ladd hx hb d_Model_divided_460 ?_
                refine lv_topl (fun v461 ev461 => ?_)
                refine lv_lstore (lv' := [(14, .long v461), (0, .ref mo), (1, .ref mzA), (2, .int (nI n)), (3, .ref mmA), (4, .int (nI k1)), (5, .ref mqA), (6, .int (nI kk)), (7, .int (nI j)), (10, .long (lN g)), (16, .int (nI u.1))]) hx hb d_Model_divided_461 hl (by decide) rfl (fun ls hl => ?_)
                have hv461 := kd_fin (b := u.2.2) (u := u.2.1 (j + k1)) (by have h9 := hJ1.2.2.2.2.1; omega) (hJ1.2.1 _)
                rw [← ev461] at hv461
                have hfk : u.2.1 (j + k1) = f (j + k1) := hJ1.2.2.2.1 _ (by omega)
                have hsum : vB 65536 (fun i => u.2.1 (j + i)) k1 + g * (vB 65536 rs k1) = vB 65536 (fun i => f (j + i)) k1 + u.2.2 * 65536 ^ k1 := by have h9 := hJ1.2.2.2.2.2; rw [hu9] at h9; exact h9
                have hS9 := vB_lt (B := 65536) (d := fun i => u.2.1 (j + i)) k1 (fun i _ => hJ1.2.1 _)
                refine lv_aload_n hx hb d_Model_divided_463 rfl (lv_at hl 2 rfl) ?_
                refine lv_iload hx hb d_Model_divided_464 (lv_at hl 8 rfl) ?_
                refine lv_iload hx hb d_Model_divided_466 (lv_at hl 5 rfl) ?_
                refine lv_iadd hx hb d_Model_divided_468 ?_
                rw [show ((nI j) + (nI k1) : Int32) = nI (j + k1) from nI_add j k1]
                refine lv_lload hx hb d_Model_divided_469 (lv_at hl 0 rfl) ?_
                refine lv_ldc2 (v := 65535) hx hb hown (htb _ q9_120) d_Model_divided_471 ?_
                refine lv_land hx hb d_Model_divided_474 ?_
                refine lv_l2i (v := (v461 &&& 65535).toInt32) hx hb d_Model_divided_475 rfl ?_
                rw [show ((v461 &&& 65535).toInt32 : Int32) = nI ((v461.toInt % 65536).toNat) from l_low16 v461]
                have h476 : vp_in (nI (j + k1)) 600 := vp_in_nI (by omega) (by omega)
                refine va_iast hx hb hK hP hD hS 1 0 rfl rfl h476 d_Model_divided_476 (fun H476 locs hP hD hS => ?_)
                rw [nI_clamp (by omega), tI_up] at hP hD
                have hP : va_P (dC, dI) classes [(mo, .inr (12, (.int mer :: .int mfed :: .int mwr :: .int mct :: .int mls :: .ref moc :: .ref msT :: .ref mrV :: .ref msP :: .int mqs :: .ref mrA :: .ref mbA :: .ref mwA :: .ref mhA :: .ref mfA :: .ref mpA :: .ref mxA :: .ref myA :: .ref mmA :: .ref mqA :: .ref mzA :: .ref mwy :: .ref mfd :: .int msz :: .int mcz :: .int mch :: .int mft :: .int mpt :: .int mdp :: .int mvd :: .long mnw :: .int mmk :: []))), (mzA, .inl (cI, 600, .inl (tI (updN u.2.1 (j + k1) ((v461.toInt % 65536).toNat))))), (mmA, .inl (cI, 600, .inl (tI bd))), (mqA, .inl (cI, 600, .inl (tI qf))), (mrA, .inl (cI, 600, .inl (tI rs)))] H476 := hP
                have hD : va_D A [(mo, .inr (12, (.int mer :: .int mfed :: .int mwr :: .int mct :: .int mls :: .ref moc :: .ref msT :: .ref mrV :: .ref msP :: .int mqs :: .ref mrA :: .ref mbA :: .ref mwA :: .ref mhA :: .ref mfA :: .ref mpA :: .ref mxA :: .ref myA :: .ref mmA :: .ref mqA :: .ref mzA :: .ref mwy :: .ref mfd :: .int msz :: .int mcz :: .int mch :: .int mft :: .int mpt :: .int mdp :: .int mvd :: .long mnw :: .int mmk :: []))), (mzA, .inl (cI, 600, .inl (tI (updN u.2.1 (j + k1) ((v461.toInt % 65536).toNat))))), (mmA, .inl (cI, 600, .inl (tI bd))), (mqA, .inl (cI, 600, .inl (tI qf))), (mrA, .inl (cI, 600, .inl (tI rs)))] := hD
                refine lv_lload hx hb d_Model_divided_477 (lv_at hl 0 rfl) ?_
                refine lv_lconst (v := 0) hx hb d_Model_divided_479 (by decide) ?_
                refine W.lcmp hx hb d_Model_divided_480 ?_
                refine lv_if_ge (tgt := 568) hx hb d_Model_divided_481 (by decide) (fun c481 => ?_) (fun c481 => ?_)
                · have p481 : (0 : Int32) ≤ (lg_cmp v461 0) := c481
                  have hsg := (kd_sgn hv461).mp p481
                  have hok := ke_ok (T := (vB 65536 (fun i => f (j + i)) (k1 + 1))) (S := vB 65536 (fun i => f (j + i)) k1) (u2 := u.2.1 (j + k1)) (by rw [hfk]; rfl) hsum hgl hRW (by omega)
                  rw [show (v461.toInt % 65536).toNat = 0 by rw [hv461]; omega] at hP hD
                  have hP : va_P (dC, dI) classes [(mo, .inr (12, (.int mer :: .int mfed :: .int mwr :: .int mct :: .int mls :: .ref moc :: .ref msT :: .ref mrV :: .ref msP :: .int mqs :: .ref mrA :: .ref mbA :: .ref mwA :: .ref mhA :: .ref mfA :: .ref mpA :: .ref mxA :: .ref myA :: .ref mmA :: .ref mqA :: .ref mzA :: .ref mwy :: .ref mfd :: .int msz :: .int mcz :: .int mch :: .int mft :: .int mpt :: .int mdp :: .int mvd :: .long mnw :: .int mmk :: []))), (mzA, .inl (cI, 600, .inl (tI (updN u.2.1 (j + k1) 0)))), (mmA, .inl (cI, 600, .inl (tI bd))), (mqA, .inl (cI, 600, .inl (tI qf))), (mrA, .inl (cI, 600, .inl (tI rs)))] H476 := hP
                  have hD : va_D A [(mo, .inr (12, (.int mer :: .int mfed :: .int mwr :: .int mct :: .int mls :: .ref moc :: .ref msT :: .ref mrV :: .ref msP :: .int mqs :: .ref mrA :: .ref mbA :: .ref mwA :: .ref mhA :: .ref mfA :: .ref mpA :: .ref mxA :: .ref myA :: .ref mmA :: .ref mqA :: .ref mzA :: .ref mwy :: .ref mfd :: .int msz :: .int mcz :: .int mch :: .int mft :: .int mpt :: .int mdp :: .int mvd :: .long mnw :: .int mmk :: []))), (mzA, .inl (cI, 600, .inl (tI (updN u.2.1 (j + k1) 0)))), (mmA, .inl (cI, 600, .inl (tI bd))), (mqA, .inl (cI, 600, .inl (tI qf))), (mrA, .inl (cI, 600, .inl (tI rs)))] := hD
                  refine lv_aload hx hb d_Model_divided_568 (lv_at hl 6 rfl) ?_
                  refine lv_iload hx hb d_Model_divided_570 (lv_at hl 8 rfl) ?_
                  refine lv_lload hx hb d_Model_divided_572 (lv_at hl 9 rfl) ?_
                  refine lv_l2i (v := (lN g).toInt32) hx hb d_Model_divided_574 rfl ?_
                  rw [lN_i]
                  have h575 : vp_in (nI j) 600 := vp_in_nI (by omega) (by omega)
                  refine va_iast hx hb hK hP hD hS 3 0 rfl rfl h575 d_Model_divided_575 (fun H575 locs hP hD hS => ?_)
                  rw [nI_clamp (by omega), tI_up] at hP hD
                  have hP : va_P (dC, dI) classes [(mo, .inr (12, (.int mer :: .int mfed :: .int mwr :: .int mct :: .int mls :: .ref moc :: .ref msT :: .ref mrV :: .ref msP :: .int mqs :: .ref mrA :: .ref mbA :: .ref mwA :: .ref mhA :: .ref mfA :: .ref mpA :: .ref mxA :: .ref myA :: .ref mmA :: .ref mqA :: .ref mzA :: .ref mwy :: .ref mfd :: .int msz :: .int mcz :: .int mch :: .int mft :: .int mpt :: .int mdp :: .int mvd :: .long mnw :: .int mmk :: []))), (mzA, .inl (cI, 600, .inl (tI (updN u.2.1 (j + k1) 0)))), (mmA, .inl (cI, 600, .inl (tI bd))), (mqA, .inl (cI, 600, .inl (tI (updN qf j g)))), (mrA, .inl (cI, 600, .inl (tI rs)))] H575 := hP
                  have hD : va_D A [(mo, .inr (12, (.int mer :: .int mfed :: .int mwr :: .int mct :: .int mls :: .ref moc :: .ref msT :: .ref mrV :: .ref msP :: .int mqs :: .ref mrA :: .ref mbA :: .ref mwA :: .ref mhA :: .ref mfA :: .ref mpA :: .ref mxA :: .ref myA :: .ref mmA :: .ref mqA :: .ref mzA :: .ref mwy :: .ref mfd :: .int msz :: .int mcz :: .int mch :: .int mft :: .int mpt :: .int mdp :: .int mvd :: .long mnw :: .int mmk :: []))), (mzA, .inl (cI, 600, .inl (tI (updN u.2.1 (j + k1) 0)))), (mmA, .inl (cI, 600, .inl (tI bd))), (mqA, .inl (cI, 600, .inl (tI (updN qf j g)))), (mrA, .inl (cI, 600, .inl (tI rs)))] := hD
                  refine lv_iinc (v := jD j) (lv' := [(7, .int (jD j)), (14, .long v461), (0, .ref mo), (1, .ref mzA), (2, .int (nI n)), (3, .ref mmA), (4, .int (nI k1)), (5, .ref mqA), (6, .int (nI kk)), (10, .long (lN g)), (16, .int (nI u.1))]) hx hb d_Model_divided_576 hl (k := 8) rfl (jD_dec j) (by decide) rfl (fun ls hl => ?_)
                  refine lv_goto (tgt := 251) hx hb d_Model_divided_579 (by decide) ?_
                  exact ih251 (j, updN u.2.1 (j + k1) 0, updN qf j g) _ _ ls (Nat.lt_succ_self _) (kx_next hmn rfl hJ251 (upN_lt hJ1.2.1 (by decide)) (fun i hi => by rw [updN_ne (by omega)]; exact hJ1.2.2.1 i hi) (updN_at _ _ _) (by rw [vB_off]; exact hok.2) (by rw [vB_off]; have h9 := hgl; rw [hok.2, Nat.add_mul, Nat.one_mul] at h9; omega) hgW) hP hD hS (lv_sub hl [2, 3, 4, 5, 6, 7, 8, 0] rfl)
                · have p481 : ¬ ((0 : Int32) ≤ (lg_cmp v461 0)) := c481
                  have hsg : ¬ (0 : Int) ≤ _ := fun q9 => p481 ((kd_sgn hv461).mpr q9)
                  have hov := ke_over (T := (vB 65536 (fun i => f (j + i)) (k1 + 1))) (S := vB 65536 (fun i => f (j + i)) k1) (u2 := u.2.1 (j + k1)) (by rw [hfk]; rfl) hsum hgu hRW hS9 (by omega)
                  have hneg : (vB 65536 (fun i => f (j + i)) (k1 + 1)) < g * (vB 65536 rs k1) := by have h9 := hov.2.1; omega
                  rw [show (v461.toInt % 65536).toNat = 65535 by rw [hv461, hov.1]; omega] at hP hD
                  have hP : va_P (dC, dI) classes [(mo, .inr (12, (.int mer :: .int mfed :: .int mwr :: .int mct :: .int mls :: .ref moc :: .ref msT :: .ref mrV :: .ref msP :: .int mqs :: .ref mrA :: .ref mbA :: .ref mwA :: .ref mhA :: .ref mfA :: .ref mpA :: .ref mxA :: .ref myA :: .ref mmA :: .ref mqA :: .ref mzA :: .ref mwy :: .ref mfd :: .int msz :: .int mcz :: .int mch :: .int mft :: .int mpt :: .int mdp :: .int mvd :: .long mnw :: .int mmk :: []))), (mzA, .inl (cI, 600, .inl (tI (updN u.2.1 (j + k1) 65535)))), (mmA, .inl (cI, 600, .inl (tI bd))), (mqA, .inl (cI, 600, .inl (tI qf))), (mrA, .inl (cI, 600, .inl (tI rs)))] H476 := hP
                  have hD : va_D A [(mo, .inr (12, (.int mer :: .int mfed :: .int mwr :: .int mct :: .int mls :: .ref moc :: .ref msT :: .ref mrV :: .ref msP :: .int mqs :: .ref mrA :: .ref mbA :: .ref mwA :: .ref mhA :: .ref mfA :: .ref mpA :: .ref mxA :: .ref myA :: .ref mmA :: .ref mqA :: .ref mzA :: .ref mwy :: .ref mfd :: .int msz :: .int mcz :: .int mch :: .int mft :: .int mpt :: .int mdp :: .int mvd :: .long mnw :: .int mmk :: []))), (mzA, .inl (cI, 600, .inl (tI (updN u.2.1 (j + k1) 65535)))), (mmA, .inl (cI, 600, .inl (tI bd))), (mqA, .inl (cI, 600, .inl (tI qf))), (mrA, .inl (cI, 600, .inl (tI rs)))] := hD
                  refine lv_lload hx hb d_Model_divided_484 (lv_at hl 9 rfl) ?_
                  refine lv_lconst (v := 1) hx hb d_Model_divided_486 (by decide) ?_
                  refine lv_lsub hx hb d_Model_divided_487 ?_
                  rw [show ((lN g) - 1 : Int64) = lN (g - 1) from lN_sub (b := 1) hov.2.2]
                  refine lv_lstore (lv' := [(10, .long (lN (g - 1))), (14, .long v461), (0, .ref mo), (1, .ref mzA), (2, .int (nI n)), (3, .ref mmA), (4, .int (nI k1)), (5, .ref mqA), (6, .int (nI kk)), (7, .int (nI j)), (16, .int (nI u.1))]) hx hb d_Model_divided_488 hl (by decide) rfl (fun ls hl => ?_)
                  refine lv_iconst (v := 0) hx hb d_Model_divided_490 (by decide) ?_
                  refine lv_istore (lv' := [(16, .int 0), (10, .long (lN (g - 1))), (14, .long v461), (0, .ref mo), (1, .ref mzA), (2, .int (nI n)), (3, .ref mmA), (4, .int (nI k1)), (5, .ref mqA), (6, .int (nI kk)), (7, .int (nI j))]) hx hb d_Model_divided_491 hl (by decide) rfl (fun ls hl => ?_)
                  refine lv_iconst (v := 0) hx hb d_Model_divided_493 (by decide) ?_
                  refine lv_istore (lv' := [(17, .int 0), (16, .int 0), (10, .long (lN (g - 1))), (14, .long v461), (0, .ref mo), (1, .ref mzA), (2, .int (nI n)), (3, .ref mmA), (4, .int (nI k1)), (5, .ref mqA), (6, .int (nI kk)), (7, .int (nI j))]) hx hb d_Model_divided_494 hl (by decide) rfl (fun ls hl => ?_)
                  refine w_loopW (α := Nat × (Nat → Nat) × Nat) (fun v => v.1 ≤ k1 ∧ (∀ q, v.2.1 q < 65536) ∧ (∀ i, i < j → v.2.1 i = (updN u.2.1 (j + k1) 65535) i) ∧ (∀ i, j + v.1 ≤ i → v.2.1 i = (updN u.2.1 (j + k1) 65535) i) ∧ v.2.2 ≤ 1 ∧ vB 65536 (fun i => v.2.1 (j + i)) v.1 + v.2.2 * 65536 ^ v.1 = vB 65536 (fun i => (updN u.2.1 (j + k1) 65535) (j + i)) v.1 + vB 65536 rs v.1) (fun v => k1 - v.1) (fun v => [(0, .ref mo), (1, .ref mzA), (2, .int (nI n)), (3, .ref mmA), (4, .int (nI k1)), (5, .ref mqA), (6, .int (nI kk)), (7, .int (nI j)), (10, .long (lN (g - 1))), (16, .int (nI v.2.2)), (17, .int (nI v.1))]) (fun _ => []) (fun v => [(mo, .inr (12, (.int mer :: .int mfed :: .int mwr :: .int mct :: .int mls :: .ref moc :: .ref msT :: .ref mrV :: .ref msP :: .int mqs :: .ref mrA :: .ref mbA :: .ref mwA :: .ref mhA :: .ref mfA :: .ref mpA :: .ref mxA :: .ref myA :: .ref mmA :: .ref mqA :: .ref mzA :: .ref mwy :: .ref mfd :: .int msz :: .int mcz :: .int mch :: .int mft :: .int mpt :: .int mdp :: .int mvd :: .long mnw :: .int mmk :: []))), (mzA, .inl (cI, 600, .inl (tI v.2.1))), (mmA, .inl (cI, 600, .inl (tI bd))), (mqA, .inl (cI, 600, .inl (tI qf))), (mrA, .inl (cI, 600, .inl (tI rs)))]) 18 496 (fun v HL496 locs ls hJ2 hP hD hS hl ih2 => ?_) (0, updN u.2.1 (j + k1) 65535, 0) _ _ ls (⟨Nat.zero_le _, upN_lt hJ1.2.1 (by decide), fun _ _ => rfl, fun _ _ => rfl, Nat.zero_le _, by rw [Nat.zero_mul]; rfl⟩) hP hD hS (lv_sub hl [4, 5, 6, 7, 8, 9, 10, 11, 2, 1, 0] rfl)
                  have hP : va_P (dC, dI) classes [(mo, .inr (12, (.int mer :: .int mfed :: .int mwr :: .int mct :: .int mls :: .ref moc :: .ref msT :: .ref mrV :: .ref msP :: .int mqs :: .ref mrA :: .ref mbA :: .ref mwA :: .ref mhA :: .ref mfA :: .ref mpA :: .ref mxA :: .ref myA :: .ref mmA :: .ref mqA :: .ref mzA :: .ref mwy :: .ref mfd :: .int msz :: .int mcz :: .int mch :: .int mft :: .int mpt :: .int mdp :: .int mvd :: .long mnw :: .int mmk :: []))), (mzA, .inl (cI, 600, .inl (tI v.2.1))), (mmA, .inl (cI, 600, .inl (tI bd))), (mqA, .inl (cI, 600, .inl (tI qf))), (mrA, .inl (cI, 600, .inl (tI rs)))] HL496 := hP
                  have hD : va_D A [(mo, .inr (12, (.int mer :: .int mfed :: .int mwr :: .int mct :: .int mls :: .ref moc :: .ref msT :: .ref mrV :: .ref msP :: .int mqs :: .ref mrA :: .ref mbA :: .ref mwA :: .ref mhA :: .ref mfA :: .ref mpA :: .ref mxA :: .ref myA :: .ref mmA :: .ref mqA :: .ref mzA :: .ref mwy :: .ref mfd :: .int msz :: .int mcz :: .int mch :: .int mft :: .int mpt :: .int mdp :: .int mvd :: .long mnw :: .int mmk :: []))), (mzA, .inl (cI, 600, .inl (tI v.2.1))), (mmA, .inl (cI, 600, .inl (tI bd))), (mqA, .inl (cI, 600, .inl (tI qf))), (mrA, .inl (cI, 600, .inl (tI rs)))] := hD
                  refine lv_iload hx hb d_Model_divided_496 (lv_at hl 10 rfl) ?_
                  refine lv_iload hx hb d_Model_divided_498 (lv_at hl 4 rfl) ?_
                  refine lv_icmp_ge (tgt := 548) hx hb d_Model_divided_500 (by decide) (fun c500 => ?_) (fun c500 => ?_)
                  · have p500 : k1 ≤ v.1 := ((nI_leI (a := k1) (b := v.1) (by omega) (by omega)).mp c500)
                    have hv9 : v.1 = k1 := by omega
                    have hbk := ke_back (S2 := vB 65536 (fun i => v.2.1 (j + i)) k1) hov.2.1 (by have h9 := hJ2.2.2.2.2.2; rw [hv9, vB_off] at h9; exact h9) hgu (vB_lt _ (fun i _ => hJ2.2.1 _)) hS9 hRW hJ2.2.2.2.2.1 hov.2.2
                    have hvk : v.2.1 (j + k1) = 65535 := (hJ2.2.2.2.1 _ (by omega)).trans (updN_at _ _ _)
                    refine lv_aload_n hx hb d_Model_divided_548 rfl (lv_at hl 1 rfl) ?_
                    refine lv_iload hx hb d_Model_divided_549 (lv_at hl 7 rfl) ?_
                    refine lv_iload hx hb d_Model_divided_551 (lv_at hl 4 rfl) ?_
                    refine lv_iadd hx hb d_Model_divided_553 ?_
                    rw [show ((nI j) + (nI k1) : Int32) = nI (j + k1) from nI_add j k1]
                    refine lv_aload_n hx hb d_Model_divided_554 rfl (lv_at hl 1 rfl) ?_
                    refine lv_iload hx hb d_Model_divided_555 (lv_at hl 7 rfl) ?_
                    refine lv_iload hx hb d_Model_divided_557 (lv_at hl 4 rfl) ?_
                    refine lv_iadd hx hb d_Model_divided_559 ?_
                    rw [show ((nI j) + (nI k1) : Int32) = nI (j + k1) from nI_add j k1]
                    have h560 : vp_in (nI (j + k1)) 600 := vp_in_nI (by omega) (by omega)
                    refine va_iald hx hb hK hP 1 0 rfl rfl h560 d_Model_divided_560 ?_
                    rw [show tI v.2.1 (nI (j + k1)).toNatClampNeg = nI (v.2.1 (j + k1)) from tI_at (by omega)]
                    have hu560 := hJ2.2.1 (j + k1)
                    refine lv_iload hx hb d_Model_divided_561 (lv_at hl 9 rfl) ?_
                    refine lv_iadd hx hb d_Model_divided_563 ?_
                    rw [show ((nI (v.2.1 (j + k1))) + (nI v.2.2) : Int32) = nI ((v.2.1 (j + k1)) + v.2.2) from nI_add (v.2.1 (j + k1)) v.2.2]
                    refine lv_ldc (v := 65535) hx hb hown (htb _ q9_126) d_Model_divided_564 ?_
                    refine lv_iand hx hb d_Model_divided_566 ?_
                    rw [show ((nI ((v.2.1 (j + k1)) + v.2.2)) &&& 65535 : Int32) = nI 0 from (and16_n (by rw [hvk, hbk.1]; decide)).trans (congrArg nI (by rw [hvk, hbk.1]))]
                    have h567 : vp_in (nI (j + k1)) 600 := vp_in_nI (by omega) (by omega)
                    refine va_iast hx hb hK hP hD hS 1 0 rfl rfl h567 d_Model_divided_567 (fun H567 locs hP hD hS => ?_)
                    rw [nI_clamp (by omega), tI_up] at hP hD
                    have hP : va_P (dC, dI) classes [(mo, .inr (12, (.int mer :: .int mfed :: .int mwr :: .int mct :: .int mls :: .ref moc :: .ref msT :: .ref mrV :: .ref msP :: .int mqs :: .ref mrA :: .ref mbA :: .ref mwA :: .ref mhA :: .ref mfA :: .ref mpA :: .ref mxA :: .ref myA :: .ref mmA :: .ref mqA :: .ref mzA :: .ref mwy :: .ref mfd :: .int msz :: .int mcz :: .int mch :: .int mft :: .int mpt :: .int mdp :: .int mvd :: .long mnw :: .int mmk :: []))), (mzA, .inl (cI, 600, .inl (tI (updN v.2.1 (j + k1) 0)))), (mmA, .inl (cI, 600, .inl (tI bd))), (mqA, .inl (cI, 600, .inl (tI qf))), (mrA, .inl (cI, 600, .inl (tI rs)))] H567 := hP
                    have hD : va_D A [(mo, .inr (12, (.int mer :: .int mfed :: .int mwr :: .int mct :: .int mls :: .ref moc :: .ref msT :: .ref mrV :: .ref msP :: .int mqs :: .ref mrA :: .ref mbA :: .ref mwA :: .ref mhA :: .ref mfA :: .ref mpA :: .ref mxA :: .ref myA :: .ref mmA :: .ref mqA :: .ref mzA :: .ref mwy :: .ref mfd :: .int msz :: .int mcz :: .int mch :: .int mft :: .int mpt :: .int mdp :: .int mvd :: .long mnw :: .int mmk :: []))), (mzA, .inl (cI, 600, .inl (tI (updN v.2.1 (j + k1) 0)))), (mmA, .inl (cI, 600, .inl (tI bd))), (mqA, .inl (cI, 600, .inl (tI qf))), (mrA, .inl (cI, 600, .inl (tI rs)))] := hD
                    refine lv_aload hx hb d_Model_divided_568 (lv_at hl 5 rfl) ?_
                    refine lv_iload hx hb d_Model_divided_570 (lv_at hl 7 rfl) ?_
                    refine lv_lload hx hb d_Model_divided_572 (lv_at hl 8 rfl) ?_
                    refine lv_l2i (v := (lN (g - 1)).toInt32) hx hb d_Model_divided_574 rfl ?_
                    rw [lN_i]
                    have h575 : vp_in (nI j) 600 := vp_in_nI (by omega) (by omega)
                    refine va_iast hx hb hK hP hD hS 3 0 rfl rfl h575 d_Model_divided_575 (fun H575 locs hP hD hS => ?_)
                    rw [nI_clamp (by omega), tI_up] at hP hD
                    have hP : va_P (dC, dI) classes [(mo, .inr (12, (.int mer :: .int mfed :: .int mwr :: .int mct :: .int mls :: .ref moc :: .ref msT :: .ref mrV :: .ref msP :: .int mqs :: .ref mrA :: .ref mbA :: .ref mwA :: .ref mhA :: .ref mfA :: .ref mpA :: .ref mxA :: .ref myA :: .ref mmA :: .ref mqA :: .ref mzA :: .ref mwy :: .ref mfd :: .int msz :: .int mcz :: .int mch :: .int mft :: .int mpt :: .int mdp :: .int mvd :: .long mnw :: .int mmk :: []))), (mzA, .inl (cI, 600, .inl (tI (updN v.2.1 (j + k1) 0)))), (mmA, .inl (cI, 600, .inl (tI bd))), (mqA, .inl (cI, 600, .inl (tI (updN qf j (g - 1))))), (mrA, .inl (cI, 600, .inl (tI rs)))] H575 := hP
                    have hD : va_D A [(mo, .inr (12, (.int mer :: .int mfed :: .int mwr :: .int mct :: .int mls :: .ref moc :: .ref msT :: .ref mrV :: .ref msP :: .int mqs :: .ref mrA :: .ref mbA :: .ref mwA :: .ref mhA :: .ref mfA :: .ref mpA :: .ref mxA :: .ref myA :: .ref mmA :: .ref mqA :: .ref mzA :: .ref mwy :: .ref mfd :: .int msz :: .int mcz :: .int mch :: .int mft :: .int mpt :: .int mdp :: .int mvd :: .long mnw :: .int mmk :: []))), (mzA, .inl (cI, 600, .inl (tI (updN v.2.1 (j + k1) 0)))), (mmA, .inl (cI, 600, .inl (tI bd))), (mqA, .inl (cI, 600, .inl (tI (updN qf j (g - 1))))), (mrA, .inl (cI, 600, .inl (tI rs)))] := hD
                    refine lv_iinc (v := jD j) (lv' := [(7, .int (jD j)), (0, .ref mo), (1, .ref mzA), (2, .int (nI n)), (3, .ref mmA), (4, .int (nI k1)), (5, .ref mqA), (6, .int (nI kk)), (10, .long (lN (g - 1))), (16, .int (nI v.2.2)), (17, .int (nI v.1))]) hx hb d_Model_divided_576 hl (k := 7) rfl (jD_dec j) (by decide) rfl (fun ls hl => ?_)
                    refine lv_goto (tgt := 251) hx hb d_Model_divided_579 (by decide) ?_
                    exact ih251 (j, updN v.2.1 (j + k1) 0, updN qf j (g - 1)) _ _ ls (Nat.lt_succ_self _) (kx_next hmn rfl hJ251 (upN_lt hJ2.2.1 (by decide)) (fun i hi => by rw [updN_ne (by omega), hJ2.2.2.1 i hi, updN_ne (by omega)]; exact hJ1.2.2.1 i hi) (updN_at _ _ _) (by rw [vB_off]; exact hbk.2) (by rw [vB_off]; exact pr_g hbk.2 hneg) (by omega)) hP hD hS (lv_sub hl [1, 2, 3, 4, 5, 6, 7, 0] rfl)
                  · have p500 : ¬ (k1 ≤ v.1) := (fun q9 => c500 ((nI_leI (a := k1) (b := v.1) (by omega) (by omega)).mpr q9))
                    refine lv_iload hx hb d_Model_divided_503 (lv_at hl 9 rfl) ?_
                    refine lv_aload_n hx hb d_Model_divided_505 rfl (lv_at hl 1 rfl) ?_
                    refine lv_iload hx hb d_Model_divided_506 (lv_at hl 7 rfl) ?_
                    refine lv_iload hx hb d_Model_divided_508 (lv_at hl 10 rfl) ?_
                    refine lv_iadd hx hb d_Model_divided_510 ?_
                    rw [show ((nI j) + (nI v.1) : Int32) = nI (j + v.1) from nI_add j v.1]
                    have h511 : vp_in (nI (j + v.1)) 600 := vp_in_nI (by omega) (by omega)
                    refine va_iald hx hb hK hP 1 0 rfl rfl h511 d_Model_divided_511 ?_
                    rw [show tI v.2.1 (nI (j + v.1)).toNatClampNeg = nI (v.2.1 (j + v.1)) from tI_at (by omega)]
                    have hu511 := hJ2.2.1 (j + v.1)
                    refine lv_aload_n hx hb d_Model_divided_512 rfl (lv_at hl 0 rfl) ?_
                    refine va_get (v := .ref mrA) hx hb htb i_Model hown hK hP 0 rfl rfl 10 (by decide) (htb _ q7_224) (fun _ h9 => h9) rfl d_Model_divided_513 ?_
                    refine lv_iload hx hb d_Model_divided_516 (lv_at hl 10 rfl) ?_
                    have h518 : vp_in (nI v.1) 600 := vp_in_nI (by omega) (by omega)
                    refine va_iald hx hb hK hP 4 0 rfl rfl h518 d_Model_divided_518 ?_
                    rw [show tI rs (nI v.1).toNatClampNeg = nI (rs v.1) from tI_at (by omega)]
                    have hu518 := hrs1 v.1
                    refine lv_iadd hx hb d_Model_divided_519 ?_
                    rw [show ((nI (v.2.1 (j + v.1))) + (nI (rs v.1)) : Int32) = nI ((v.2.1 (j + v.1)) + (rs v.1)) from nI_add (v.2.1 (j + v.1)) (rs v.1)]
                    refine lv_iadd hx hb d_Model_divided_520 ?_
                    rw [show ((nI v.2.2) + (nI ((v.2.1 (j + v.1)) + (rs v.1))) : Int32) = nI (v.2.2 + ((v.2.1 (j + v.1)) + (rs v.1))) from nI_add v.2.2 ((v.2.1 (j + v.1)) + (rs v.1))]
                    obtain ⟨g521, hg521⟩ : ∃ g : Nat, g = (v.2.2 + ((v.2.1 (j + v.1)) + (rs v.1))) := ⟨_, rfl⟩
                    rw [← hg521]
                    have hb521 : g521 < 2 ^ 31 := by have h9 := hJ2.2.2.2.2.1; omega
                    refine lv_istore (lv' := [(16, .int (nI g521)), (0, .ref mo), (1, .ref mzA), (2, .int (nI n)), (3, .ref mmA), (4, .int (nI k1)), (5, .ref mqA), (6, .int (nI kk)), (7, .int (nI j)), (10, .long (lN (g - 1))), (17, .int (nI v.1))]) hx hb d_Model_divided_521 hl (by decide) rfl (fun ls hl => ?_)
                    refine lv_aload_n hx hb d_Model_divided_523 rfl (lv_at hl 2 rfl) ?_
                    refine lv_iload hx hb d_Model_divided_524 (lv_at hl 8 rfl) ?_
                    refine lv_iload hx hb d_Model_divided_526 (lv_at hl 10 rfl) ?_
                    refine lv_iadd hx hb d_Model_divided_528 ?_
                    rw [show ((nI j) + (nI v.1) : Int32) = nI (j + v.1) from nI_add j v.1]
                    refine lv_iload hx hb d_Model_divided_529 (lv_at hl 0 rfl) ?_
                    refine lv_ldc (v := 65535) hx hb hown (htb _ q9_126) d_Model_divided_531 ?_
                    refine lv_iand hx hb d_Model_divided_533 ?_
                    rw [show ((nI g521) &&& 65535 : Int32) = nI (g521 % 65536) from and16_n (by omega)]
                    have h534 : vp_in (nI (j + v.1)) 600 := vp_in_nI (by omega) (by omega)
                    refine va_iast hx hb hK hP hD hS 1 0 rfl rfl h534 d_Model_divided_534 (fun H534 locs hP hD hS => ?_)
                    rw [nI_clamp (by omega), tI_up] at hP hD
                    have hP : va_P (dC, dI) classes [(mo, .inr (12, (.int mer :: .int mfed :: .int mwr :: .int mct :: .int mls :: .ref moc :: .ref msT :: .ref mrV :: .ref msP :: .int mqs :: .ref mrA :: .ref mbA :: .ref mwA :: .ref mhA :: .ref mfA :: .ref mpA :: .ref mxA :: .ref myA :: .ref mmA :: .ref mqA :: .ref mzA :: .ref mwy :: .ref mfd :: .int msz :: .int mcz :: .int mch :: .int mft :: .int mpt :: .int mdp :: .int mvd :: .long mnw :: .int mmk :: []))), (mzA, .inl (cI, 600, .inl (tI (updN v.2.1 (j + v.1) (g521 % 65536))))), (mmA, .inl (cI, 600, .inl (tI bd))), (mqA, .inl (cI, 600, .inl (tI qf))), (mrA, .inl (cI, 600, .inl (tI rs)))] H534 := hP
                    have hD : va_D A [(mo, .inr (12, (.int mer :: .int mfed :: .int mwr :: .int mct :: .int mls :: .ref moc :: .ref msT :: .ref mrV :: .ref msP :: .int mqs :: .ref mrA :: .ref mbA :: .ref mwA :: .ref mhA :: .ref mfA :: .ref mpA :: .ref mxA :: .ref myA :: .ref mmA :: .ref mqA :: .ref mzA :: .ref mwy :: .ref mfd :: .int msz :: .int mcz :: .int mch :: .int mft :: .int mpt :: .int mdp :: .int mvd :: .long mnw :: .int mmk :: []))), (mzA, .inl (cI, 600, .inl (tI (updN v.2.1 (j + v.1) (g521 % 65536))))), (mmA, .inl (cI, 600, .inl (tI bd))), (mqA, .inl (cI, 600, .inl (tI qf))), (mrA, .inl (cI, 600, .inl (tI rs)))] := hD
                    refine lv_iload hx hb d_Model_divided_535 (lv_at hl 0 rfl) ?_
                    refine lv_bipush (v := 16) hx hb d_Model_divided_537 (by decide) ?_
                    refine lv_ishr hx hb d_Model_divided_539 ?_
                    rw [show ((nI g521) >>> (16 &&& 31) : Int32) = nI (g521 / 65536) from shr16_n (by omega)]
                    refine lv_istore (lv' := [(16, .int (nI (g521 / 65536))), (0, .ref mo), (1, .ref mzA), (2, .int (nI n)), (3, .ref mmA), (4, .int (nI k1)), (5, .ref mqA), (6, .int (nI kk)), (7, .int (nI j)), (10, .long (lN (g - 1))), (17, .int (nI v.1))]) hx hb d_Model_divided_540 hl (by decide) rfl (fun ls hl => ?_)
                    refine lv_iinc (v := nI (v.1 + 1)) (lv' := [(17, .int (nI (v.1 + 1))), (16, .int (nI (g521 / 65536))), (0, .ref mo), (1, .ref mzA), (2, .int (nI n)), (3, .ref mmA), (4, .int (nI k1)), (5, .ref mqA), (6, .int (nI kk)), (7, .int (nI j)), (10, .long (lN (g - 1)))]) hx hb d_Model_divided_542 hl (k := 10) rfl (nI_1 _) (by decide) rfl (fun ls hl => ?_)
                    refine lv_goto (tgt := 496) hx hb d_Model_divided_545 (by decide) ?_
                    exact ih2 (v.1 + 1, updN v.2.1 (j + v.1) (g521 % 65536), g521 / 65536) _ _ ls (by show k1 - (v.1 + 1) < k1 - v.1; omega) (ka_next hJ2 (by omega) (hrs1 _) hg521) hP hD hS (lv_sub hl [2, 3, 4, 5, 6, 7, 8, 9, 10, 1, 0] rfl)
              · have p395 : ¬ (k1 ≤ u.1) := (fun q9 => c395 ((nI_leI (a := k1) (b := u.1) (by omega) (by omega)).mpr q9))
                refine lv_lload hx hb d_Model_divided_398 (lv_at hl 9 rfl) ?_
                refine lv_aload_n hx hb d_Model_divided_400 rfl (lv_at hl 1 rfl) ?_
                refine lv_iload hx hb d_Model_divided_401 (lv_at hl 7 rfl) ?_
                refine lv_iload hx hb d_Model_divided_403 (lv_at hl 10 rfl) ?_
                refine lv_iadd hx hb d_Model_divided_405 ?_
                rw [show ((nI j) + (nI u.1) : Int32) = nI (j + u.1) from nI_add j u.1]
                have h406 : vp_in (nI (j + u.1)) 600 := vp_in_nI (by omega) (by omega)
                refine va_iald hx hb hK hP 1 0 rfl rfl h406 d_Model_divided_406 ?_
                rw [show tI u.2.1 (nI (j + u.1)).toNatClampNeg = nI (u.2.1 (j + u.1)) from tI_at (by omega)]
                have hu406 := hJ1.2.1 (j + u.1)
                refine lv_i2l (v := (nI (u.2.1 (j + u.1))).toInt64) hx hb d_Model_divided_407 rfl ?_
                rw [show (nI (u.2.1 (j + u.1))).toInt64 = lN (u.2.1 (j + u.1)) from nI_l (by omega)]
                refine lv_lload hx hb d_Model_divided_408 (lv_at hl 8 rfl) ?_
                refine lv_aload_n hx hb d_Model_divided_410 rfl (lv_at hl 0 rfl) ?_
                refine va_get (v := .ref mrA) hx hb htb i_Model hown hK hP 0 rfl rfl 10 (by decide) (htb _ q7_224) (fun _ h9 => h9) rfl d_Model_divided_411 ?_
                refine lv_iload hx hb d_Model_divided_414 (lv_at hl 10 rfl) ?_
                have h416 : vp_in (nI u.1) 600 := vp_in_nI (by omega) (by omega)
                refine va_iald hx hb hK hP 4 0 rfl rfl h416 d_Model_divided_416 ?_
                rw [show tI rs (nI u.1).toNatClampNeg = nI (rs u.1) from tI_at (by omega)]
                have hu416 := hrs1 u.1
                refine lv_i2l (v := (nI (rs u.1)).toInt64) hx hb d_Model_divided_417 rfl ?_
                rw [show (nI (rs u.1)).toInt64 = lN (rs u.1) from nI_l (by omega)]
                refine lv_lmul hx hb d_Model_divided_418 ?_
                rw [show (lN g * lN (rs u.1) : Int64) = lN (g * (rs u.1)) from lN_mul _ _]
                refine lv_lsub hx hb d_Model_divided_419 ?_
                refine lv_ladd hx hb d_Model_divided_420 ?_
                refine lv_topl (fun v421 ev421 => ?_)
                refine lv_lstore (lv' := [(14, .long v421), (0, .ref mo), (1, .ref mzA), (2, .int (nI n)), (3, .ref mmA), (4, .int (nI k1)), (5, .ref mqA), (6, .int (nI kk)), (7, .int (nI j)), (10, .long (lN g)), (16, .int (nI u.1))]) hx hb d_Model_divided_421 hl (by decide) rfl (fun ls hl => ?_)
                obtain ⟨lo, b', hlo, hbe, hb9⟩ := kd_ex (g := g) (hJ1.2.1 (j + u.1)) (hrs1 u.1) hJ1.2.2.2.2.1
                have hkd := kd_long (hJ1.2.1 (j + u.1)) hgW (hrs1 u.1) (by have h9 := hJ1.2.2.2.2.1; omega) hlo hbe
                rw [← ev421] at hkd
                refine lv_aload_n hx hb d_Model_divided_423 rfl (lv_at hl 2 rfl) ?_
                refine lv_iload hx hb d_Model_divided_424 (lv_at hl 8 rfl) ?_
                refine lv_iload hx hb d_Model_divided_426 (lv_at hl 10 rfl) ?_
                refine lv_iadd hx hb d_Model_divided_428 ?_
                rw [show ((nI j) + (nI u.1) : Int32) = nI (j + u.1) from nI_add j u.1]
                refine lv_lload hx hb d_Model_divided_429 (lv_at hl 0 rfl) ?_
                refine lv_ldc2 (v := 65535) hx hb hown (htb _ q9_120) d_Model_divided_431 ?_
                refine lv_land hx hb d_Model_divided_434 ?_
                refine lv_l2i (v := (v421 &&& 65535).toInt32) hx hb d_Model_divided_435 rfl ?_
                rw [show ((v421 &&& 65535).toInt32 : Int32) = nI lo from hkd.1]
                have h436 : vp_in (nI (j + u.1)) 600 := vp_in_nI (by omega) (by omega)
                refine va_iast hx hb hK hP hD hS 1 0 rfl rfl h436 d_Model_divided_436 (fun H436 locs hP hD hS => ?_)
                rw [nI_clamp (by omega), tI_up] at hP hD
                have hP : va_P (dC, dI) classes [(mo, .inr (12, (.int mer :: .int mfed :: .int mwr :: .int mct :: .int mls :: .ref moc :: .ref msT :: .ref mrV :: .ref msP :: .int mqs :: .ref mrA :: .ref mbA :: .ref mwA :: .ref mhA :: .ref mfA :: .ref mpA :: .ref mxA :: .ref myA :: .ref mmA :: .ref mqA :: .ref mzA :: .ref mwy :: .ref mfd :: .int msz :: .int mcz :: .int mch :: .int mft :: .int mpt :: .int mdp :: .int mvd :: .long mnw :: .int mmk :: []))), (mzA, .inl (cI, 600, .inl (tI (updN u.2.1 (j + u.1) lo)))), (mmA, .inl (cI, 600, .inl (tI bd))), (mqA, .inl (cI, 600, .inl (tI qf))), (mrA, .inl (cI, 600, .inl (tI rs)))] H436 := hP
                have hD : va_D A [(mo, .inr (12, (.int mer :: .int mfed :: .int mwr :: .int mct :: .int mls :: .ref moc :: .ref msT :: .ref mrV :: .ref msP :: .int mqs :: .ref mrA :: .ref mbA :: .ref mwA :: .ref mhA :: .ref mfA :: .ref mpA :: .ref mxA :: .ref myA :: .ref mmA :: .ref mqA :: .ref mzA :: .ref mwy :: .ref mfd :: .int msz :: .int mcz :: .int mch :: .int mft :: .int mpt :: .int mdp :: .int mvd :: .long mnw :: .int mmk :: []))), (mzA, .inl (cI, 600, .inl (tI (updN u.2.1 (j + u.1) lo)))), (mmA, .inl (cI, 600, .inl (tI bd))), (mqA, .inl (cI, 600, .inl (tI qf))), (mrA, .inl (cI, 600, .inl (tI rs)))] := hD
                refine lv_lload hx hb d_Model_divided_437 (lv_at hl 0 rfl) ?_
                refine lv_bipush (v := 16) hx hb d_Model_divided_439 (by decide) ?_
                refine lv_lshr (v := v421 >>> ((16 : Int32).toInt64 &&& 63)) hx hb d_Model_divided_441 rfl ?_
                rw [show (v421 >>> ((16 : Int32).toInt64 &&& 63) : Int64) = -(lN b') from hkd.2]
                refine lv_lstore (lv' := [(14, .long (-(lN b'))), (0, .ref mo), (1, .ref mzA), (2, .int (nI n)), (3, .ref mmA), (4, .int (nI k1)), (5, .ref mqA), (6, .int (nI kk)), (7, .int (nI j)), (10, .long (lN g)), (16, .int (nI u.1))]) hx hb d_Model_divided_442 hl (by decide) rfl (fun ls hl => ?_)
                refine lv_iinc (v := nI (u.1 + 1)) (lv' := [(16, .int (nI (u.1 + 1))), (14, .long (-(lN b'))), (0, .ref mo), (1, .ref mzA), (2, .int (nI n)), (3, .ref mmA), (4, .int (nI k1)), (5, .ref mqA), (6, .int (nI kk)), (7, .int (nI j)), (10, .long (lN g))]) hx hb d_Model_divided_444 hl (k := 10) rfl (nI_1 _) (by decide) rfl (fun ls hl => ?_)
                refine lv_goto (tgt := 391) hx hb d_Model_divided_447 (by decide) ?_
                exact ih1 (u.1 + 1, updN u.2.1 (j + u.1) lo, b') _ _ ls (by show k1 - (u.1 + 1) < k1 - u.1; omega) (ks_next hJ1 (by omega) hlo hbe hb9) hP hD hS (lv_sub hl [2, 3, 4, 5, 6, 7, 8, 9, 10, 1, 0] rfl)
            · skip
              refine w_loop (α := Nat × Nat) (fun a9 => a9.1 * (rs (k1 - 1)) + a9.2 = g278 ∧ (vB 65536 (fun i => f (j + i)) (k1 + 1)) < (a9.1 + 1) * (vB 65536 rs k1) ∧ a9.1 ≤ 65537 ∧ a9.2 < 65536) (fun a9 => 65536 - a9.2) (fun a9 => [(0, .ref mo), (1, .ref mzA), (2, .int (nI n)), (3, .ref mmA), (4, .int (nI k1)), (5, .ref mqA), (6, .int (nI kk)), (7, .int (nI j)), (10, .long (lN a9.1)), (12, .long (lN a9.2))]) (fun _ => []) 18 310 (fun a9 ls hJ310 hl ih310 => ?_) (g278 / (rs (k1 - 1)), g278 % (rs (k1 - 1))) ls ⟨by have h9 := Nat.mod_add_div' g278 (rs (k1 - 1)); show g278 / (rs (k1 - 1)) * (rs (k1 - 1)) + g278 % (rs (k1 - 1)) = g278; omega, (kd_init hT9 hR9 htl rfl rfl hu0 (by omega)), (kd_top hT9 hR9 hvl rfl rfl hv2 (by decide) hP0 hTW (by omega) (by omega)), by have h9 := Nat.mod_lt g278 (show 0 < (rs (k1 - 1)) by omega); show g278 % (rs (k1 - 1)) < 65536; omega⟩ (lv_sub hl [3, 4, 5, 6, 7, 8, 9, 10, 1, 0] rfl)
              obtain ⟨g9, y9⟩ := a9
              obtain ⟨hk1_, hk2_, hk3_, hk4_⟩ := hJ310
              dsimp only at hk1_ hk2_ hk3_ hk4_ hl ih310
              refine lv_lload hx hb d_Model_divided_310 (lv_at hl 8 rfl) ?_
              refine lv_ldc2 (v := 65535) hx hb hown (htb _ q9_120) d_Model_divided_312 ?_
              refine W.lcmp hx hb d_Model_divided_315 ?_
              refine lv_if_gt (tgt := 352) hx hb d_Model_divided_316 (by decide) (fun c316 => ?_) (fun c316 => ?_)
              · have p316 : (0 : Int32) < (lg_cmp (lN g9) 65535) := c316
                have hc9 : 65536 ≤ g9 ∨ y9 * 65536 + f (j + k1 - 2) < g9 * rs (k1 - 2) := Or.inl (by have h9 := (lc_gt (a := g9) (b := 65535) (by omega) (by decide)).mp p316; omega)
                have hdec : (vB 65536 (fun i => f (j + i)) (k1 + 1)) < g9 * (vB 65536 rs k1) := kd_dec hT9 hR9 htl rfl rfl hTW hk1_ hc9
                have hg1 : 1 ≤ g9 := by
                  rcases Nat.eq_zero_or_pos g9 with e | e
                  · rw [e, Nat.zero_mul] at hdec; exact absurd hdec (Nat.not_lt_zero _)
                  · exact e
                refine lv_lload hx hb d_Model_divided_352 (lv_at hl 8 rfl) ?_
                refine lv_lconst (v := 1) hx hb d_Model_divided_354 (by decide) ?_
                refine lv_lsub hx hb d_Model_divided_355 ?_
                rw [show ((lN g9) - 1 : Int64) = lN (g9 - 1) from lN_sub (b := 1) hg1]
                refine lv_lstore (lv' := [(10, .long (lN (g9 - 1))), (0, .ref mo), (1, .ref mzA), (2, .int (nI n)), (3, .ref mmA), (4, .int (nI k1)), (5, .ref mqA), (6, .int (nI kk)), (7, .int (nI j)), (12, .long (lN y9))]) hx hb d_Model_divided_356 hl (by decide) rfl (fun ls hl => ?_)
                refine lv_lload hx hb d_Model_divided_358 (lv_at hl 9 rfl) ?_
                refine lv_aload_n hx hb d_Model_divided_360 rfl (lv_at hl 1 rfl) ?_
                refine va_get (v := .ref mrA) hx hb htb i_Model hown hK hP 0 rfl rfl 10 (by decide) (htb _ q7_224) (fun _ h9 => h9) rfl d_Model_divided_361 ?_
                refine lv_iload hx hb d_Model_divided_364 (lv_at hl 5 rfl) ?_
                refine lv_iconst (v := 1) hx hb d_Model_divided_366 (by decide) ?_
                refine lv_isub hx hb d_Model_divided_367 ?_
                rw [show ((nI k1) - 1 : Int32) = nI (k1 - 1) from pk_sub (a := k1) (b := 1) (by omega)]
                have h368 : vp_in (nI (k1 - 1)) 600 := vp_in_nI (by omega) (by omega)
                refine va_iald hx hb hK hP 4 0 rfl rfl h368 d_Model_divided_368 ?_
                rw [show tI rs (nI (k1 - 1)).toNatClampNeg = nI (rs (k1 - 1)) from tI_at (by omega)]
                have hu368 := hrs1 (k1 - 1)
                refine lv_i2l (v := (nI (rs (k1 - 1))).toInt64) hx hb d_Model_divided_369 rfl ?_
                rw [show (nI (rs (k1 - 1))).toInt64 = lN (rs (k1 - 1)) from nI_l (by omega)]
                refine lv_ladd hx hb d_Model_divided_370 ?_
                rw [show (lN y9 + lN (rs (k1 - 1)) : Int64) = lN (y9 + (rs (k1 - 1))) from lN_add _ _]
                refine lv_lstore (lv' := [(12, .long (lN (y9 + (rs (k1 - 1))))), (10, .long (lN (g9 - 1))), (0, .ref mo), (1, .ref mzA), (2, .int (nI n)), (3, .ref mmA), (4, .int (nI k1)), (5, .ref mqA), (6, .int (nI kk)), (7, .int (nI j))]) hx hb d_Model_divided_371 hl (by decide) rfl (fun ls hl => ?_)
                refine lv_lload hx hb d_Model_divided_373 (lv_at hl 0 rfl) ?_
                refine lv_ldc2 (v := 65535) hx hb hown (htb _ q9_120) d_Model_divided_375 ?_
                refine W.lcmp hx hb d_Model_divided_378 ?_
                refine lv_if_le (tgt := 310) hx hb d_Model_divided_379 (by decide) (fun c379 => ?_) (fun c379 => ?_)
                · have p379 : (lg_cmp (lN (y9 + (rs (k1 - 1)))) 65535) ≤ (0 : Int32) := c379
                  have h65 : y9 + rs (k1 - 1) < 65536 := by have h9 : ¬ 65535 < y9 + rs (k1 - 1) := fun q9 => absurd ((lc_gt (a := y9 + rs (k1 - 1)) (b := 65535) (by omega) (by decide)).mpr q9) (Int32.not_lt.mpr p379); omega
                  exact ih310 (g9 - 1, y9 + rs (k1 - 1)) ls (by dsimp only; omega) ⟨by have h9 := Nat.sub_mul g9 1 (rs (k1 - 1)); have h8 : 1 * rs (k1 - 1) ≤ g9 * rs (k1 - 1) := Nat.mul_le_mul_right _ hg1; dsimp only; omega, by dsimp only; rw [(show g9 - 1 + 1 = g9 by omega)]; exact hdec, by dsimp only; omega, h65⟩ (lv_sub hl [2, 3, 4, 5, 6, 7, 8, 9, 1, 0] rfl)
                · have p379 : ¬ ((lg_cmp (lN (y9 + (rs (k1 - 1)))) 65535) ≤ (0 : Int32)) := c379
                  refine lv_goto (tgt := 385) hx hb d_Model_divided_382 (by decide) ?_
                  have h65 : 65536 ≤ y9 + rs (k1 - 1) := by have h9 := (lc_gt (a := y9 + rs (k1 - 1)) (b := 65535) (by omega) (by decide)).mp (Int32.not_le.mp p379); omega
                  exact k385 (g9 - 1) ls ⟨by rw [(show g9 - 1 + 1 = g9 by omega)]; exact hdec, kd_end (left := y9 + rs (k1 - 1)) hT9 hR9 hvl rfl rfl (by omega) hv2 (by have h9 := Nat.sub_mul g9 1 (rs (k1 - 1)); have h8 : 1 * rs (k1 - 1) ≤ g9 * rs (k1 - 1) := Nat.mul_le_mul_right _ hg1; omega) (by omega) (Or.inr h65), by omega⟩ (lv_sub hl [2, 3, 4, 5, 6, 7, 8, 9, 1] rfl)
              · have p316 : ¬ ((0 : Int32) < (lg_cmp (lN g9) 65535)) := c316
                have hg65 : g9 ≤ 65535 := by have h9 : ¬ 65535 < g9 := fun q9 => absurd ((lc_gt (a := g9) (b := 65535) (by omega) (by decide)).mpr q9) p316; omega
                refine lv_lload hx hb d_Model_divided_319 (lv_at hl 8 rfl) ?_
                refine lv_aload_n hx hb d_Model_divided_321 rfl (lv_at hl 0 rfl) ?_
                refine va_get (v := .ref mrA) hx hb htb i_Model hown hK hP 0 rfl rfl 10 (by decide) (htb _ q7_224) (fun _ h9 => h9) rfl d_Model_divided_322 ?_
                refine lv_iload hx hb d_Model_divided_325 (lv_at hl 4 rfl) ?_
                refine lv_iconst (v := 2) hx hb d_Model_divided_327 (by decide) ?_
                refine lv_isub hx hb d_Model_divided_328 ?_
                rw [show ((nI k1) - 2 : Int32) = nI (k1 - 2) from pk_sub (a := k1) (b := 2) (by omega)]
                have h329 : vp_in (nI (k1 - 2)) 600 := vp_in_nI (by omega) (by omega)
                refine va_iald hx hb hK hP 4 0 rfl rfl h329 d_Model_divided_329 ?_
                rw [show tI rs (nI (k1 - 2)).toNatClampNeg = nI (rs (k1 - 2)) from tI_at (by omega)]
                have hu329 := hrs1 (k1 - 2)
                refine lv_i2l (v := (nI (rs (k1 - 2))).toInt64) hx hb d_Model_divided_330 rfl ?_
                rw [show (nI (rs (k1 - 2))).toInt64 = lN (rs (k1 - 2)) from nI_l (by omega)]
                refine lv_lmul hx hb d_Model_divided_331 ?_
                rw [show (lN g9 * lN (rs (k1 - 2)) : Int64) = lN (g9 * (rs (k1 - 2))) from lN_mul _ _]
                refine lv_lload hx hb d_Model_divided_332 (lv_at hl 9 rfl) ?_
                refine lv_bipush (v := 16) hx hb d_Model_divided_334 (by decide) ?_
                refine lv_lshl (v := (lN y9) <<< ((16 : Int32).toInt64 &&& 63)) hx hb d_Model_divided_336 rfl ?_
                refine lv_aload_n hx hb d_Model_divided_337 rfl (lv_at hl 1 rfl) ?_
                refine lv_iload hx hb d_Model_divided_338 (lv_at hl 7 rfl) ?_
                refine lv_iload hx hb d_Model_divided_340 (lv_at hl 4 rfl) ?_
                refine lv_iadd hx hb d_Model_divided_342 ?_
                rw [show ((nI j) + (nI k1) : Int32) = nI (j + k1) from nI_add j k1]
                refine lv_iconst (v := 2) hx hb d_Model_divided_343 (by decide) ?_
                refine lv_isub hx hb d_Model_divided_344 ?_
                rw [show ((nI (j + k1)) - 2 : Int32) = nI ((j + k1) - 2) from pk_sub (a := (j + k1)) (b := 2) (by omega)]
                have h345 : vp_in (nI ((j + k1) - 2)) 600 := vp_in_nI (by omega) (by omega)
                refine va_iald hx hb hK hP 1 0 rfl rfl h345 d_Model_divided_345 ?_
                rw [show tI f (nI ((j + k1) - 2)).toNatClampNeg = nI (f ((j + k1) - 2)) from tI_at (by omega)]
                have hu345 := hf9 ((j + k1) - 2)
                refine lv_i2l (v := (nI (f ((j + k1) - 2))).toInt64) hx hb d_Model_divided_346 rfl ?_
                rw [show (nI (f ((j + k1) - 2))).toInt64 = lN (f ((j + k1) - 2)) from nI_l (by omega)]
                refine lv_lor hx hb d_Model_divided_347 ?_
                rw [show (((lN y9) <<< ((16 : Int32).toInt64 &&& 63)) ||| (lN (f ((j + k1) - 2))) : Int64) = lN (y9 * 65536 + (f (j + k1 - 2))) from l_or16 (by omega) (by omega)]
                refine W.lcmp hx hb d_Model_divided_348 ?_
                refine lv_if_le (tgt := 385) hx hb d_Model_divided_349 (by decide) (fun c349 => ?_) (fun c349 => ?_)
                · have p349 : (lg_cmp (lN (g9 * (rs (k1 - 2)))) (lN (y9 * 65536 + (f (j + k1 - 2))))) ≤ (0 : Int32) := c349
                  have h64 : g9 * rs (k1 - 2) ≤ y9 * 65536 + f (j + k1 - 2) := by have h9 := Nat.mul_le_mul hk3_ (Nat.le_of_lt hv2); exact Nat.not_lt.mp (fun q9 => absurd ((lc_gt (by omega) (by omega)).mpr q9) (Int32.not_lt.mpr p349))
                  exact k385 g9 ls ⟨hk2_, kd_end hT9 hR9 hvl rfl rfl (by omega) hv2 hk1_ (by omega) (Or.inl h64), by omega⟩ (lv_sub hl [0, 1, 2, 3, 4, 5, 6, 7, 8] rfl)
                · have p349 : ¬ ((lg_cmp (lN (g9 * (rs (k1 - 2)))) (lN (y9 * 65536 + (f (j + k1 - 2))))) ≤ (0 : Int32)) := c349
                  have hc9 : 65536 ≤ g9 ∨ y9 * 65536 + f (j + k1 - 2) < g9 * rs (k1 - 2) := Or.inr (by have h9 := Nat.mul_le_mul hk3_ (Nat.le_of_lt hv2); exact (lc_gt (by omega) (by omega)).mp (Int32.not_le.mp p349))
                  have hdec : (vB 65536 (fun i => f (j + i)) (k1 + 1)) < g9 * (vB 65536 rs k1) := kd_dec hT9 hR9 htl rfl rfl hTW hk1_ hc9
                  have hg1 : 1 ≤ g9 := by
                    rcases Nat.eq_zero_or_pos g9 with e | e
                    · rw [e, Nat.zero_mul] at hdec; exact absurd hdec (Nat.not_lt_zero _)
                    · exact e
                  refine lv_lload hx hb d_Model_divided_352 (lv_at hl 8 rfl) ?_
                  refine lv_lconst (v := 1) hx hb d_Model_divided_354 (by decide) ?_
                  refine lv_lsub hx hb d_Model_divided_355 ?_
                  rw [show ((lN g9) - 1 : Int64) = lN (g9 - 1) from lN_sub (b := 1) hg1]
                  refine lv_lstore (lv' := [(10, .long (lN (g9 - 1))), (0, .ref mo), (1, .ref mzA), (2, .int (nI n)), (3, .ref mmA), (4, .int (nI k1)), (5, .ref mqA), (6, .int (nI kk)), (7, .int (nI j)), (12, .long (lN y9))]) hx hb d_Model_divided_356 hl (by decide) rfl (fun ls hl => ?_)
                  refine lv_lload hx hb d_Model_divided_358 (lv_at hl 9 rfl) ?_
                  refine lv_aload_n hx hb d_Model_divided_360 rfl (lv_at hl 1 rfl) ?_
                  refine va_get (v := .ref mrA) hx hb htb i_Model hown hK hP 0 rfl rfl 10 (by decide) (htb _ q7_224) (fun _ h9 => h9) rfl d_Model_divided_361 ?_
                  refine lv_iload hx hb d_Model_divided_364 (lv_at hl 5 rfl) ?_
                  refine lv_iconst (v := 1) hx hb d_Model_divided_366 (by decide) ?_
                  refine lv_isub hx hb d_Model_divided_367 ?_
                  rw [show ((nI k1) - 1 : Int32) = nI (k1 - 1) from pk_sub (a := k1) (b := 1) (by omega)]
                  have h368 : vp_in (nI (k1 - 1)) 600 := vp_in_nI (by omega) (by omega)
                  refine va_iald hx hb hK hP 4 0 rfl rfl h368 d_Model_divided_368 ?_
                  rw [show tI rs (nI (k1 - 1)).toNatClampNeg = nI (rs (k1 - 1)) from tI_at (by omega)]
                  have hu368 := hrs1 (k1 - 1)
                  refine lv_i2l (v := (nI (rs (k1 - 1))).toInt64) hx hb d_Model_divided_369 rfl ?_
                  rw [show (nI (rs (k1 - 1))).toInt64 = lN (rs (k1 - 1)) from nI_l (by omega)]
                  refine lv_ladd hx hb d_Model_divided_370 ?_
                  rw [show (lN y9 + lN (rs (k1 - 1)) : Int64) = lN (y9 + (rs (k1 - 1))) from lN_add _ _]
                  refine lv_lstore (lv' := [(12, .long (lN (y9 + (rs (k1 - 1))))), (10, .long (lN (g9 - 1))), (0, .ref mo), (1, .ref mzA), (2, .int (nI n)), (3, .ref mmA), (4, .int (nI k1)), (5, .ref mqA), (6, .int (nI kk)), (7, .int (nI j))]) hx hb d_Model_divided_371 hl (by decide) rfl (fun ls hl => ?_)
                  refine lv_lload hx hb d_Model_divided_373 (lv_at hl 0 rfl) ?_
                  refine lv_ldc2 (v := 65535) hx hb hown (htb _ q9_120) d_Model_divided_375 ?_
                  refine W.lcmp hx hb d_Model_divided_378 ?_
                  refine lv_if_le (tgt := 310) hx hb d_Model_divided_379 (by decide) (fun c379 => ?_) (fun c379 => ?_)
                  · have p379 : (lg_cmp (lN (y9 + (rs (k1 - 1)))) 65535) ≤ (0 : Int32) := c379
                    have h65 : y9 + rs (k1 - 1) < 65536 := by have h9 : ¬ 65535 < y9 + rs (k1 - 1) := fun q9 => absurd ((lc_gt (a := y9 + rs (k1 - 1)) (b := 65535) (by omega) (by decide)).mpr q9) (Int32.not_lt.mpr p379); omega
                    exact ih310 (g9 - 1, y9 + rs (k1 - 1)) ls (by dsimp only; omega) ⟨by have h9 := Nat.sub_mul g9 1 (rs (k1 - 1)); have h8 : 1 * rs (k1 - 1) ≤ g9 * rs (k1 - 1) := Nat.mul_le_mul_right _ hg1; dsimp only; omega, by dsimp only; rw [(show g9 - 1 + 1 = g9 by omega)]; exact hdec, by dsimp only; omega, h65⟩ (lv_sub hl [2, 3, 4, 5, 6, 7, 8, 9, 1, 0] rfl)
                  · have p379 : ¬ ((lg_cmp (lN (y9 + (rs (k1 - 1)))) 65535) ≤ (0 : Int32)) := c379
                    refine lv_goto (tgt := 385) hx hb d_Model_divided_382 (by decide) ?_
                    have h65 : 65536 ≤ y9 + rs (k1 - 1) := by have h9 := (lc_gt (a := y9 + rs (k1 - 1)) (b := 65535) (by omega) (by decide)).mp (Int32.not_le.mp p379); omega
                    exact k385 (g9 - 1) ls ⟨by rw [(show g9 - 1 + 1 = g9 by omega)]; exact hdec, kd_end (left := y9 + rs (k1 - 1)) hT9 hR9 hvl rfl rfl (by omega) hv2 (by have h9 := Nat.sub_mul g9 1 (rs (k1 - 1)); have h8 : 1 * rs (k1 - 1) ≤ g9 * rs (k1 - 1) := Nat.mul_le_mul_right _ hg1; omega) (by omega) (Or.inr h65), by omega⟩ (lv_sub hl [2, 3, 4, 5, 6, 7, 8, 9, 1] rfl)
        · have hl : lv_has ls 18 [(0, .ref mo), (1, .ref mzA), (2, .int (nI n)), (3, .ref mmA), (4, .int (nI k1)), (5, .ref mqA), (6, .int (nI kk)), (7, .int (nI k))] := hl
          have hP : va_P (dC, dI) classes [(mo, .inr (12, (.int mer :: .int mfed :: .int mwr :: .int mct :: .int mls :: .ref moc :: .ref msT :: .ref mrV :: .ref msP :: .int mqs :: .ref mrA :: .ref mbA :: .ref mwA :: .ref mhA :: .ref mfA :: .ref mpA :: .ref mxA :: .ref myA :: .ref mmA :: .ref mqA :: .ref mzA :: .ref mwy :: .ref mfd :: .int msz :: .int mcz :: .int mch :: .int mft :: .int mpt :: .int mdp :: .int mvd :: .long mnw :: .int mmk :: []))), (mzA, .inl (cI, 600, .inl (tI (rgG (shL 65536 (updN ad n 0) (2 ^ kk)) (updN ad n 0) (k + 1) (n + 1))))), (mmA, .inl (cI, 600, .inl (tI bd))), (mqA, .inl (cI, 600, .inl (tI qd))), (mrA, .inl (cI, 600, .inl (tI rs)))] HL198 := hP
          have hD : va_D A [(mo, .inr (12, (.int mer :: .int mfed :: .int mwr :: .int mct :: .int mls :: .ref moc :: .ref msT :: .ref mrV :: .ref msP :: .int mqs :: .ref mrA :: .ref mbA :: .ref mwA :: .ref mhA :: .ref mfA :: .ref mpA :: .ref mxA :: .ref myA :: .ref mmA :: .ref mqA :: .ref mzA :: .ref mwy :: .ref mfd :: .int msz :: .int mcz :: .int mch :: .int mft :: .int mpt :: .int mdp :: .int mvd :: .long mnw :: .int mmk :: []))), (mzA, .inl (cI, 600, .inl (tI (rgG (shL 65536 (updN ad n 0) (2 ^ kk)) (updN ad n 0) (k + 1) (n + 1))))), (mmA, .inl (cI, 600, .inl (tI bd))), (mqA, .inl (cI, 600, .inl (tI qd))), (mrA, .inl (cI, 600, .inl (tI rs)))] := hD
          refine lv_iload hx hb d_Model_divided_198 (lv_at hl 7 rfl) ?_
          refine lv_if_lt (tgt := 245) hx hb d_Model_divided_200 (by decide) (fun c200 => ?_) (fun c200 => ?_)
          · exact absurd c200 (nI_nn (by omega))
          refine lv_aload_n hx hb d_Model_divided_203 rfl (lv_at hl 1 rfl) ?_
          refine lv_iload hx hb d_Model_divided_204 (lv_at hl 7 rfl) ?_
          refine lv_aload_n hx hb d_Model_divided_206 rfl (lv_at hl 1 rfl) ?_
          refine lv_iload hx hb d_Model_divided_207 (lv_at hl 7 rfl) ?_
          have h209 : vp_in (nI k) 600 := vp_in_nI (by omega) (by omega)
          refine va_iald hx hb hK hP 1 0 rfl rfl h209 d_Model_divided_209 ?_
          rw [show tI (rgG (shL 65536 (updN ad n 0) (2 ^ kk)) (updN ad n 0) (k + 1) (n + 1)) (nI k).toNatClampNeg = nI ((rgG (shL 65536 (updN ad n 0) (2 ^ kk)) (updN ad n 0) (k + 1) (n + 1)) k) from tI_at (by omega)]
          rw [show (nI ((rgG (shL 65536 (updN ad n 0) (2 ^ kk)) (updN ad n 0) (k + 1) (n + 1)) k) : Int32) = nI ((updN ad n 0) k) from congrArg nI (rgG_out (Or.inl (by omega)))]
          refine lv_iload hx hb d_Model_divided_210 (lv_at hl 6 rfl) ?_
          refine lv_ishl hx hb d_Model_divided_212 ?_
          refine lv_iload hx hb d_Model_divided_213 (lv_at hl 7 rfl) ?_
          refine lv_if_le (tgt := 233) hx hb d_Model_divided_215 (by decide) (fun c215 => ?_) (fun c215 => ?_)
          · have p215 : k ≤ 0 := ((nI_leI (a := k) (b := 0) (by omega) (by omega)).mp c215)
            refine lv_iconst (v := 0) hx hb d_Model_divided_233 (by decide) ?_
            refine lv_ior hx hb d_Model_divided_234 ?_
            refine lv_ldc (v := 65535) hx hb hown (htb _ q9_126) d_Model_divided_235 ?_
            refine lv_iand hx hb d_Model_divided_237 ?_
            rw [show ((((nI ((updN ad n 0) k)) <<< ((nI kk) &&& 31)) ||| 0) &&& 65535 : Int32) = nI (shL 65536 (updN ad n 0) (2 ^ kk) k) from (mvL_0 hkk (ha0 _)).trans (congrArg nI (shL_q (by omega)).symm)]
            have h238 : vp_in (nI k) 600 := vp_in_nI (by omega) (by omega)
            refine va_iast hx hb hK hP hD hS 1 0 rfl rfl h238 d_Model_divided_238 (fun H238 locs hP hD hS => ?_)
            rw [nI_clamp (by omega), tI_up] at hP hD
            have hP : va_P (dC, dI) classes [(mo, .inr (12, (.int mer :: .int mfed :: .int mwr :: .int mct :: .int mls :: .ref moc :: .ref msT :: .ref mrV :: .ref msP :: .int mqs :: .ref mrA :: .ref mbA :: .ref mwA :: .ref mhA :: .ref mfA :: .ref mpA :: .ref mxA :: .ref myA :: .ref mmA :: .ref mqA :: .ref mzA :: .ref mwy :: .ref mfd :: .int msz :: .int mcz :: .int mch :: .int mft :: .int mpt :: .int mdp :: .int mvd :: .long mnw :: .int mmk :: []))), (mzA, .inl (cI, 600, .inl (tI (updN (rgG (shL 65536 (updN ad n 0) (2 ^ kk)) (updN ad n 0) (k + 1) (n + 1)) k (shL 65536 (updN ad n 0) (2 ^ kk) k))))), (mmA, .inl (cI, 600, .inl (tI bd))), (mqA, .inl (cI, 600, .inl (tI qd))), (mrA, .inl (cI, 600, .inl (tI rs)))] H238 := hP
            have hD : va_D A [(mo, .inr (12, (.int mer :: .int mfed :: .int mwr :: .int mct :: .int mls :: .ref moc :: .ref msT :: .ref mrV :: .ref msP :: .int mqs :: .ref mrA :: .ref mbA :: .ref mwA :: .ref mhA :: .ref mfA :: .ref mpA :: .ref mxA :: .ref myA :: .ref mmA :: .ref mqA :: .ref mzA :: .ref mwy :: .ref mfd :: .int msz :: .int mcz :: .int mch :: .int mft :: .int mpt :: .int mdp :: .int mvd :: .long mnw :: .int mmk :: []))), (mzA, .inl (cI, 600, .inl (tI (updN (rgG (shL 65536 (updN ad n 0) (2 ^ kk)) (updN ad n 0) (k + 1) (n + 1)) k (shL 65536 (updN ad n 0) (2 ^ kk) k))))), (mmA, .inl (cI, 600, .inl (tI bd))), (mqA, .inl (cI, 600, .inl (tI qd))), (mrA, .inl (cI, 600, .inl (tI rs)))] := hD
            rw [rgG_dn (v := shL 65536 (updN ad n 0) (2 ^ kk)) (by omega)] at hP hD
            have hP : va_P (dC, dI) classes [(mo, .inr (12, (.int mer :: .int mfed :: .int mwr :: .int mct :: .int mls :: .ref moc :: .ref msT :: .ref mrV :: .ref msP :: .int mqs :: .ref mrA :: .ref mbA :: .ref mwA :: .ref mhA :: .ref mfA :: .ref mpA :: .ref mxA :: .ref myA :: .ref mmA :: .ref mqA :: .ref mzA :: .ref mwy :: .ref mfd :: .int msz :: .int mcz :: .int mch :: .int mft :: .int mpt :: .int mdp :: .int mvd :: .long mnw :: .int mmk :: []))), (mzA, .inl (cI, 600, .inl (tI (rgG (shL 65536 (updN ad n 0) (2 ^ kk)) (updN ad n 0) k (n + 1))))), (mmA, .inl (cI, 600, .inl (tI bd))), (mqA, .inl (cI, 600, .inl (tI qd))), (mrA, .inl (cI, 600, .inl (tI rs)))] H238 := hP
            have hD : va_D A [(mo, .inr (12, (.int mer :: .int mfed :: .int mwr :: .int mct :: .int mls :: .ref moc :: .ref msT :: .ref mrV :: .ref msP :: .int mqs :: .ref mrA :: .ref mbA :: .ref mwA :: .ref mhA :: .ref mfA :: .ref mpA :: .ref mxA :: .ref myA :: .ref mmA :: .ref mqA :: .ref mzA :: .ref mwy :: .ref mfd :: .int msz :: .int mcz :: .int mch :: .int mft :: .int mpt :: .int mdp :: .int mvd :: .long mnw :: .int mmk :: []))), (mzA, .inl (cI, 600, .inl (tI (rgG (shL 65536 (updN ad n 0) (2 ^ kk)) (updN ad n 0) k (n + 1))))), (mmA, .inl (cI, 600, .inl (tI bd))), (mqA, .inl (cI, 600, .inl (tI qd))), (mrA, .inl (cI, 600, .inl (tI rs)))] := hD
            refine lv_iinc (v := jD k) (lv' := [(7, .int (jD k)), (0, .ref mo), (1, .ref mzA), (2, .int (nI n)), (3, .ref mmA), (4, .int (nI k1)), (5, .ref mqA), (6, .int (nI kk))]) hx hb d_Model_divided_239 hl (k := 7) rfl (jD_dec k) (by decide) rfl (fun ls hl => ?_)
            refine lv_goto (tgt := 198) hx hb d_Model_divided_242 (by decide) ?_
            exact ih198 k _ _ ls (Nat.lt_succ_self _) (by omega) hP hD hS (lv_sub hl [1, 2, 3, 4, 5, 6, 7, 0] rfl)
          · have p215 : ¬ (k ≤ 0) := (fun q9 => c215 ((nI_leI (a := k) (b := 0) (by omega) (by omega)).mpr q9))
            refine lv_aload_n hx hb d_Model_divided_218 rfl (lv_at hl 1 rfl) ?_
            refine lv_iload hx hb d_Model_divided_219 (lv_at hl 7 rfl) ?_
            refine lv_iconst (v := 1) hx hb d_Model_divided_221 (by decide) ?_
            refine lv_isub hx hb d_Model_divided_222 ?_
            rw [show ((nI k) - 1 : Int32) = nI (k - 1) from pk_sub (a := k) (b := 1) (by omega)]
            have h223 : vp_in (nI (k - 1)) 600 := vp_in_nI (by omega) (by omega)
            refine va_iald hx hb hK hP 1 0 rfl rfl h223 d_Model_divided_223 ?_
            rw [show tI (rgG (shL 65536 (updN ad n 0) (2 ^ kk)) (updN ad n 0) (k + 1) (n + 1)) (nI (k - 1)).toNatClampNeg = nI ((rgG (shL 65536 (updN ad n 0) (2 ^ kk)) (updN ad n 0) (k + 1) (n + 1)) (k - 1)) from tI_at (by omega)]
            rw [show (nI ((rgG (shL 65536 (updN ad n 0) (2 ^ kk)) (updN ad n 0) (k + 1) (n + 1)) (k - 1)) : Int32) = nI ((updN ad n 0) (k - 1)) from congrArg nI (rgG_out (Or.inl (by omega)))]
            refine lv_bipush (v := 16) hx hb d_Model_divided_224 (by decide) ?_
            refine lv_iload hx hb d_Model_divided_226 (lv_at hl 6 rfl) ?_
            refine lv_isub hx hb d_Model_divided_228 ?_
            rw [show (16 - (nI kk) : Int32) = nI (16 - kk) from pk_sub (a := 16) (b := kk) (by omega)]
            refine lv_ishr hx hb d_Model_divided_229 ?_
            refine lv_goto (tgt := 234) hx hb d_Model_divided_230 (by decide) ?_
            refine lv_ior hx hb d_Model_divided_234 ?_
            refine lv_ldc (v := 65535) hx hb hown (htb _ q9_126) d_Model_divided_235 ?_
            refine lv_iand hx hb d_Model_divided_237 ?_
            rw [show ((((nI ((updN ad n 0) k)) <<< ((nI kk) &&& 31)) ||| ((nI ((updN ad n 0) (k - 1))) >>> ((nI (16 - kk)) &&& 31))) &&& 65535 : Int32) = nI (shL 65536 (updN ad n 0) (2 ^ kk) k) from (mvL_s hkk (ha0 _) (ha0 _)).trans (congrArg nI (shL_p (by omega)).symm)]
            have h238 : vp_in (nI k) 600 := vp_in_nI (by omega) (by omega)
            refine va_iast hx hb hK hP hD hS 1 0 rfl rfl h238 d_Model_divided_238 (fun H238 locs hP hD hS => ?_)
            rw [nI_clamp (by omega), tI_up] at hP hD
            have hP : va_P (dC, dI) classes [(mo, .inr (12, (.int mer :: .int mfed :: .int mwr :: .int mct :: .int mls :: .ref moc :: .ref msT :: .ref mrV :: .ref msP :: .int mqs :: .ref mrA :: .ref mbA :: .ref mwA :: .ref mhA :: .ref mfA :: .ref mpA :: .ref mxA :: .ref myA :: .ref mmA :: .ref mqA :: .ref mzA :: .ref mwy :: .ref mfd :: .int msz :: .int mcz :: .int mch :: .int mft :: .int mpt :: .int mdp :: .int mvd :: .long mnw :: .int mmk :: []))), (mzA, .inl (cI, 600, .inl (tI (updN (rgG (shL 65536 (updN ad n 0) (2 ^ kk)) (updN ad n 0) (k + 1) (n + 1)) k (shL 65536 (updN ad n 0) (2 ^ kk) k))))), (mmA, .inl (cI, 600, .inl (tI bd))), (mqA, .inl (cI, 600, .inl (tI qd))), (mrA, .inl (cI, 600, .inl (tI rs)))] H238 := hP
            have hD : va_D A [(mo, .inr (12, (.int mer :: .int mfed :: .int mwr :: .int mct :: .int mls :: .ref moc :: .ref msT :: .ref mrV :: .ref msP :: .int mqs :: .ref mrA :: .ref mbA :: .ref mwA :: .ref mhA :: .ref mfA :: .ref mpA :: .ref mxA :: .ref myA :: .ref mmA :: .ref mqA :: .ref mzA :: .ref mwy :: .ref mfd :: .int msz :: .int mcz :: .int mch :: .int mft :: .int mpt :: .int mdp :: .int mvd :: .long mnw :: .int mmk :: []))), (mzA, .inl (cI, 600, .inl (tI (updN (rgG (shL 65536 (updN ad n 0) (2 ^ kk)) (updN ad n 0) (k + 1) (n + 1)) k (shL 65536 (updN ad n 0) (2 ^ kk) k))))), (mmA, .inl (cI, 600, .inl (tI bd))), (mqA, .inl (cI, 600, .inl (tI qd))), (mrA, .inl (cI, 600, .inl (tI rs)))] := hD
            rw [rgG_dn (v := shL 65536 (updN ad n 0) (2 ^ kk)) (by omega)] at hP hD
            have hP : va_P (dC, dI) classes [(mo, .inr (12, (.int mer :: .int mfed :: .int mwr :: .int mct :: .int mls :: .ref moc :: .ref msT :: .ref mrV :: .ref msP :: .int mqs :: .ref mrA :: .ref mbA :: .ref mwA :: .ref mhA :: .ref mfA :: .ref mpA :: .ref mxA :: .ref myA :: .ref mmA :: .ref mqA :: .ref mzA :: .ref mwy :: .ref mfd :: .int msz :: .int mcz :: .int mch :: .int mft :: .int mpt :: .int mdp :: .int mvd :: .long mnw :: .int mmk :: []))), (mzA, .inl (cI, 600, .inl (tI (rgG (shL 65536 (updN ad n 0) (2 ^ kk)) (updN ad n 0) k (n + 1))))), (mmA, .inl (cI, 600, .inl (tI bd))), (mqA, .inl (cI, 600, .inl (tI qd))), (mrA, .inl (cI, 600, .inl (tI rs)))] H238 := hP
            have hD : va_D A [(mo, .inr (12, (.int mer :: .int mfed :: .int mwr :: .int mct :: .int mls :: .ref moc :: .ref msT :: .ref mrV :: .ref msP :: .int mqs :: .ref mrA :: .ref mbA :: .ref mwA :: .ref mhA :: .ref mfA :: .ref mpA :: .ref mxA :: .ref myA :: .ref mmA :: .ref mqA :: .ref mzA :: .ref mwy :: .ref mfd :: .int msz :: .int mcz :: .int mch :: .int mft :: .int mpt :: .int mdp :: .int mvd :: .long mnw :: .int mmk :: []))), (mzA, .inl (cI, 600, .inl (tI (rgG (shL 65536 (updN ad n 0) (2 ^ kk)) (updN ad n 0) k (n + 1))))), (mmA, .inl (cI, 600, .inl (tI bd))), (mqA, .inl (cI, 600, .inl (tI qd))), (mrA, .inl (cI, 600, .inl (tI rs)))] := hD
            refine lv_iinc (v := jD k) (lv' := [(7, .int (jD k)), (0, .ref mo), (1, .ref mzA), (2, .int (nI n)), (3, .ref mmA), (4, .int (nI k1)), (5, .ref mqA), (6, .int (nI kk))]) hx hb d_Model_divided_239 hl (k := 7) rfl (jD_dec k) (by decide) rfl (fun ls hl => ?_)
            refine lv_goto (tgt := 198) hx hb d_Model_divided_242 (by decide) ?_
            exact ih198 k _ _ ls (Nat.lt_succ_self _) (by omega) hP hD hS (lv_sub hl [1, 2, 3, 4, 5, 6, 7, 0] rfl)
      · have hl : lv_has ls 18 [(0, .ref mo), (1, .ref mzA), (2, .int (nI n)), (3, .ref mmA), (4, .int (nI k1)), (5, .ref mqA), (6, .int (nI kk)), (7, .int (nI k))] := hl
        have hP : va_P (dC, dI) classes [(mo, .inr (12, (.int mer :: .int mfed :: .int mwr :: .int mct :: .int mls :: .ref moc :: .ref msT :: .ref mrV :: .ref msP :: .int mqs :: .ref mrA :: .ref mbA :: .ref mwA :: .ref mhA :: .ref mfA :: .ref mpA :: .ref mxA :: .ref myA :: .ref mmA :: .ref mqA :: .ref mzA :: .ref mwy :: .ref mfd :: .int msz :: .int mcz :: .int mch :: .int mft :: .int mpt :: .int mdp :: .int mvd :: .long mnw :: .int mmk :: []))), (mzA, .inl (cI, 600, .inl (tI ad))), (mmA, .inl (cI, 600, .inl (tI bd))), (mqA, .inl (cI, 600, .inl (tI qd))), (mrA, .inl (cI, 600, .inl (tI (rgG (shL 65536 bd (2 ^ kk)) rd (k + 1) k1))))] HL141 := hP
        have hD : va_D A [(mo, .inr (12, (.int mer :: .int mfed :: .int mwr :: .int mct :: .int mls :: .ref moc :: .ref msT :: .ref mrV :: .ref msP :: .int mqs :: .ref mrA :: .ref mbA :: .ref mwA :: .ref mhA :: .ref mfA :: .ref mpA :: .ref mxA :: .ref myA :: .ref mmA :: .ref mqA :: .ref mzA :: .ref mwy :: .ref mfd :: .int msz :: .int mcz :: .int mch :: .int mft :: .int mpt :: .int mdp :: .int mvd :: .long mnw :: .int mmk :: []))), (mzA, .inl (cI, 600, .inl (tI ad))), (mmA, .inl (cI, 600, .inl (tI bd))), (mqA, .inl (cI, 600, .inl (tI qd))), (mrA, .inl (cI, 600, .inl (tI (rgG (shL 65536 bd (2 ^ kk)) rd (k + 1) k1))))] := hD
        refine lv_iload hx hb d_Model_divided_141 (lv_at hl 7 rfl) ?_
        refine lv_if_lt (tgt := 191) hx hb d_Model_divided_143 (by decide) (fun c143 => ?_) (fun c143 => ?_)
        · exact absurd c143 (nI_nn (by omega))
        refine lv_aload_n hx hb d_Model_divided_146 rfl (lv_at hl 0 rfl) ?_
        refine va_get (v := .ref mrA) hx hb htb i_Model hown hK hP 0 rfl rfl 10 (by decide) (htb _ q7_224) (fun _ h9 => h9) rfl d_Model_divided_147 ?_
        refine lv_iload hx hb d_Model_divided_150 (lv_at hl 7 rfl) ?_
        refine lv_aload_n hx hb d_Model_divided_152 rfl (lv_at hl 3 rfl) ?_
        refine lv_iload hx hb d_Model_divided_153 (lv_at hl 7 rfl) ?_
        have h155 : vp_in (nI k) 600 := vp_in_nI (by omega) (by omega)
        refine va_iald hx hb hK hP 2 0 rfl rfl h155 d_Model_divided_155 ?_
        rw [show tI bd (nI k).toNatClampNeg = nI (bd k) from tI_at (by omega)]
        have hu155 := hbd k
        refine lv_iload hx hb d_Model_divided_156 (lv_at hl 6 rfl) ?_
        refine lv_ishl hx hb d_Model_divided_158 ?_
        refine lv_iload hx hb d_Model_divided_159 (lv_at hl 7 rfl) ?_
        refine lv_if_le (tgt := 179) hx hb d_Model_divided_161 (by decide) (fun c161 => ?_) (fun c161 => ?_)
        · have p161 : k ≤ 0 := ((nI_leI (a := k) (b := 0) (by omega) (by omega)).mp c161)
          refine lv_iconst (v := 0) hx hb d_Model_divided_179 (by decide) ?_
          refine lv_ior hx hb d_Model_divided_180 ?_
          refine lv_ldc (v := 65535) hx hb hown (htb _ q9_126) d_Model_divided_181 ?_
          refine lv_iand hx hb d_Model_divided_183 ?_
          rw [show ((((nI (bd k)) <<< ((nI kk) &&& 31)) ||| 0) &&& 65535 : Int32) = nI (shL 65536 bd (2 ^ kk) k) from (mvL_0 hkk (hbd _)).trans (congrArg nI (shL_q (by omega)).symm)]
          have h184 : vp_in (nI k) 600 := vp_in_nI (by omega) (by omega)
          refine va_iast hx hb hK hP hD hS 4 0 rfl rfl h184 d_Model_divided_184 (fun H184 locs hP hD hS => ?_)
          rw [nI_clamp (by omega), tI_up] at hP hD
          have hP : va_P (dC, dI) classes [(mo, .inr (12, (.int mer :: .int mfed :: .int mwr :: .int mct :: .int mls :: .ref moc :: .ref msT :: .ref mrV :: .ref msP :: .int mqs :: .ref mrA :: .ref mbA :: .ref mwA :: .ref mhA :: .ref mfA :: .ref mpA :: .ref mxA :: .ref myA :: .ref mmA :: .ref mqA :: .ref mzA :: .ref mwy :: .ref mfd :: .int msz :: .int mcz :: .int mch :: .int mft :: .int mpt :: .int mdp :: .int mvd :: .long mnw :: .int mmk :: []))), (mzA, .inl (cI, 600, .inl (tI ad))), (mmA, .inl (cI, 600, .inl (tI bd))), (mqA, .inl (cI, 600, .inl (tI qd))), (mrA, .inl (cI, 600, .inl (tI (updN (rgG (shL 65536 bd (2 ^ kk)) rd (k + 1) k1) k (shL 65536 bd (2 ^ kk) k)))))] H184 := hP
          have hD : va_D A [(mo, .inr (12, (.int mer :: .int mfed :: .int mwr :: .int mct :: .int mls :: .ref moc :: .ref msT :: .ref mrV :: .ref msP :: .int mqs :: .ref mrA :: .ref mbA :: .ref mwA :: .ref mhA :: .ref mfA :: .ref mpA :: .ref mxA :: .ref myA :: .ref mmA :: .ref mqA :: .ref mzA :: .ref mwy :: .ref mfd :: .int msz :: .int mcz :: .int mch :: .int mft :: .int mpt :: .int mdp :: .int mvd :: .long mnw :: .int mmk :: []))), (mzA, .inl (cI, 600, .inl (tI ad))), (mmA, .inl (cI, 600, .inl (tI bd))), (mqA, .inl (cI, 600, .inl (tI qd))), (mrA, .inl (cI, 600, .inl (tI (updN (rgG (shL 65536 bd (2 ^ kk)) rd (k + 1) k1) k (shL 65536 bd (2 ^ kk) k)))))] := hD
          rw [rgG_dn (v := shL 65536 bd (2 ^ kk)) (by omega)] at hP hD
          have hP : va_P (dC, dI) classes [(mo, .inr (12, (.int mer :: .int mfed :: .int mwr :: .int mct :: .int mls :: .ref moc :: .ref msT :: .ref mrV :: .ref msP :: .int mqs :: .ref mrA :: .ref mbA :: .ref mwA :: .ref mhA :: .ref mfA :: .ref mpA :: .ref mxA :: .ref myA :: .ref mmA :: .ref mqA :: .ref mzA :: .ref mwy :: .ref mfd :: .int msz :: .int mcz :: .int mch :: .int mft :: .int mpt :: .int mdp :: .int mvd :: .long mnw :: .int mmk :: []))), (mzA, .inl (cI, 600, .inl (tI ad))), (mmA, .inl (cI, 600, .inl (tI bd))), (mqA, .inl (cI, 600, .inl (tI qd))), (mrA, .inl (cI, 600, .inl (tI (rgG (shL 65536 bd (2 ^ kk)) rd k k1))))] H184 := hP
          have hD : va_D A [(mo, .inr (12, (.int mer :: .int mfed :: .int mwr :: .int mct :: .int mls :: .ref moc :: .ref msT :: .ref mrV :: .ref msP :: .int mqs :: .ref mrA :: .ref mbA :: .ref mwA :: .ref mhA :: .ref mfA :: .ref mpA :: .ref mxA :: .ref myA :: .ref mmA :: .ref mqA :: .ref mzA :: .ref mwy :: .ref mfd :: .int msz :: .int mcz :: .int mch :: .int mft :: .int mpt :: .int mdp :: .int mvd :: .long mnw :: .int mmk :: []))), (mzA, .inl (cI, 600, .inl (tI ad))), (mmA, .inl (cI, 600, .inl (tI bd))), (mqA, .inl (cI, 600, .inl (tI qd))), (mrA, .inl (cI, 600, .inl (tI (rgG (shL 65536 bd (2 ^ kk)) rd k k1))))] := hD
          refine lv_iinc (v := jD k) (lv' := [(7, .int (jD k)), (0, .ref mo), (1, .ref mzA), (2, .int (nI n)), (3, .ref mmA), (4, .int (nI k1)), (5, .ref mqA), (6, .int (nI kk))]) hx hb d_Model_divided_185 hl (k := 7) rfl (jD_dec k) (by decide) rfl (fun ls hl => ?_)
          refine lv_goto (tgt := 141) hx hb d_Model_divided_188 (by decide) ?_
          exact ih141 k _ _ ls (Nat.lt_succ_self _) (by omega) hP hD hS (lv_sub hl [1, 2, 3, 4, 5, 6, 7, 0] rfl)
        · have p161 : ¬ (k ≤ 0) := (fun q9 => c161 ((nI_leI (a := k) (b := 0) (by omega) (by omega)).mpr q9))
          refine lv_aload_n hx hb d_Model_divided_164 rfl (lv_at hl 3 rfl) ?_
          refine lv_iload hx hb d_Model_divided_165 (lv_at hl 7 rfl) ?_
          refine lv_iconst (v := 1) hx hb d_Model_divided_167 (by decide) ?_
          refine lv_isub hx hb d_Model_divided_168 ?_
          rw [show ((nI k) - 1 : Int32) = nI (k - 1) from pk_sub (a := k) (b := 1) (by omega)]
          have h169 : vp_in (nI (k - 1)) 600 := vp_in_nI (by omega) (by omega)
          refine va_iald hx hb hK hP 2 0 rfl rfl h169 d_Model_divided_169 ?_
          rw [show tI bd (nI (k - 1)).toNatClampNeg = nI (bd (k - 1)) from tI_at (by omega)]
          have hu169 := hbd (k - 1)
          refine lv_bipush (v := 16) hx hb d_Model_divided_170 (by decide) ?_
          refine lv_iload hx hb d_Model_divided_172 (lv_at hl 6 rfl) ?_
          refine lv_isub hx hb d_Model_divided_174 ?_
          rw [show (16 - (nI kk) : Int32) = nI (16 - kk) from pk_sub (a := 16) (b := kk) (by omega)]
          refine lv_ishr hx hb d_Model_divided_175 ?_
          refine lv_goto (tgt := 180) hx hb d_Model_divided_176 (by decide) ?_
          refine lv_ior hx hb d_Model_divided_180 ?_
          refine lv_ldc (v := 65535) hx hb hown (htb _ q9_126) d_Model_divided_181 ?_
          refine lv_iand hx hb d_Model_divided_183 ?_
          rw [show ((((nI (bd k)) <<< ((nI kk) &&& 31)) ||| ((nI (bd (k - 1))) >>> ((nI (16 - kk)) &&& 31))) &&& 65535 : Int32) = nI (shL 65536 bd (2 ^ kk) k) from (mvL_s hkk (hbd _) (hbd _)).trans (congrArg nI (shL_p (by omega)).symm)]
          have h184 : vp_in (nI k) 600 := vp_in_nI (by omega) (by omega)
          refine va_iast hx hb hK hP hD hS 4 0 rfl rfl h184 d_Model_divided_184 (fun H184 locs hP hD hS => ?_)
          rw [nI_clamp (by omega), tI_up] at hP hD
          have hP : va_P (dC, dI) classes [(mo, .inr (12, (.int mer :: .int mfed :: .int mwr :: .int mct :: .int mls :: .ref moc :: .ref msT :: .ref mrV :: .ref msP :: .int mqs :: .ref mrA :: .ref mbA :: .ref mwA :: .ref mhA :: .ref mfA :: .ref mpA :: .ref mxA :: .ref myA :: .ref mmA :: .ref mqA :: .ref mzA :: .ref mwy :: .ref mfd :: .int msz :: .int mcz :: .int mch :: .int mft :: .int mpt :: .int mdp :: .int mvd :: .long mnw :: .int mmk :: []))), (mzA, .inl (cI, 600, .inl (tI ad))), (mmA, .inl (cI, 600, .inl (tI bd))), (mqA, .inl (cI, 600, .inl (tI qd))), (mrA, .inl (cI, 600, .inl (tI (updN (rgG (shL 65536 bd (2 ^ kk)) rd (k + 1) k1) k (shL 65536 bd (2 ^ kk) k)))))] H184 := hP
          have hD : va_D A [(mo, .inr (12, (.int mer :: .int mfed :: .int mwr :: .int mct :: .int mls :: .ref moc :: .ref msT :: .ref mrV :: .ref msP :: .int mqs :: .ref mrA :: .ref mbA :: .ref mwA :: .ref mhA :: .ref mfA :: .ref mpA :: .ref mxA :: .ref myA :: .ref mmA :: .ref mqA :: .ref mzA :: .ref mwy :: .ref mfd :: .int msz :: .int mcz :: .int mch :: .int mft :: .int mpt :: .int mdp :: .int mvd :: .long mnw :: .int mmk :: []))), (mzA, .inl (cI, 600, .inl (tI ad))), (mmA, .inl (cI, 600, .inl (tI bd))), (mqA, .inl (cI, 600, .inl (tI qd))), (mrA, .inl (cI, 600, .inl (tI (updN (rgG (shL 65536 bd (2 ^ kk)) rd (k + 1) k1) k (shL 65536 bd (2 ^ kk) k)))))] := hD
          rw [rgG_dn (v := shL 65536 bd (2 ^ kk)) (by omega)] at hP hD
          have hP : va_P (dC, dI) classes [(mo, .inr (12, (.int mer :: .int mfed :: .int mwr :: .int mct :: .int mls :: .ref moc :: .ref msT :: .ref mrV :: .ref msP :: .int mqs :: .ref mrA :: .ref mbA :: .ref mwA :: .ref mhA :: .ref mfA :: .ref mpA :: .ref mxA :: .ref myA :: .ref mmA :: .ref mqA :: .ref mzA :: .ref mwy :: .ref mfd :: .int msz :: .int mcz :: .int mch :: .int mft :: .int mpt :: .int mdp :: .int mvd :: .long mnw :: .int mmk :: []))), (mzA, .inl (cI, 600, .inl (tI ad))), (mmA, .inl (cI, 600, .inl (tI bd))), (mqA, .inl (cI, 600, .inl (tI qd))), (mrA, .inl (cI, 600, .inl (tI (rgG (shL 65536 bd (2 ^ kk)) rd k k1))))] H184 := hP
          have hD : va_D A [(mo, .inr (12, (.int mer :: .int mfed :: .int mwr :: .int mct :: .int mls :: .ref moc :: .ref msT :: .ref mrV :: .ref msP :: .int mqs :: .ref mrA :: .ref mbA :: .ref mwA :: .ref mhA :: .ref mfA :: .ref mpA :: .ref mxA :: .ref myA :: .ref mmA :: .ref mqA :: .ref mzA :: .ref mwy :: .ref mfd :: .int msz :: .int mcz :: .int mch :: .int mft :: .int mpt :: .int mdp :: .int mvd :: .long mnw :: .int mmk :: []))), (mzA, .inl (cI, 600, .inl (tI ad))), (mmA, .inl (cI, 600, .inl (tI bd))), (mqA, .inl (cI, 600, .inl (tI qd))), (mrA, .inl (cI, 600, .inl (tI (rgG (shL 65536 bd (2 ^ kk)) rd k k1))))] := hD
          refine lv_iinc (v := jD k) (lv' := [(7, .int (jD k)), (0, .ref mo), (1, .ref mzA), (2, .int (nI n)), (3, .ref mmA), (4, .int (nI k1)), (5, .ref mqA), (6, .int (nI kk))]) hx hb d_Model_divided_185 hl (k := 7) rfl (jD_dec k) (by decide) rfl (fun ls hl => ?_)
          refine lv_goto (tgt := 141) hx hb d_Model_divided_188 (by decide) ?_
          exact ih141 k _ _ ls (Nat.lt_succ_self _) (by omega) hP hD hS (lv_sub hl [1, 2, 3, 4, 5, 6, 7, 0] rfl)
    · have p120 : ¬ (32768 ≤ X) := (fun q9 => c120 ((nI_leI (a := 32768) (b := X) (by omega) (by omega)).mpr q9))
      refine lv_iinc (v := nI (kk + 1)) (lv' := [(6, .int (nI (kk + 1))), (0, .ref mo), (1, .ref mzA), (2, .int (nI n)), (3, .ref mmA), (4, .int (nI k1)), (5, .ref mqA), (7, .int (nI X))]) hx hb d_Model_divided_123 hl (k := 6) rfl (nI_1 _) (by decide) rfl (fun ls hl => ?_)
      refine lv_iload hx hb d_Model_divided_126 (lv_at hl 7 rfl) ?_
      refine lv_iconst (v := 1) hx hb d_Model_divided_128 (by decide) ?_
      refine lv_ishl hx hb d_Model_divided_129 ?_
      refine lv_istore (lv' := [(7, .int ((nI X) <<< (1 &&& 31))), (6, .int (nI (kk + 1))), (0, .ref mo), (1, .ref mzA), (2, .int (nI n)), (3, .ref mmA), (4, .int (nI k1)), (5, .ref mqA)]) hx hb d_Model_divided_130 hl (by decide) rfl (fun ls hl => ?_)
      refine lv_goto (tgt := 116) hx hb d_Model_divided_132 (by decide) ?_
      have e8 : ((nI X) <<< (1 &&& 31) : Int32) = nI (2 * X) := by rw [show ((nI X) <<< (1 &&& 31) : Int32) = nI X <<< (nI 1 &&& 31) from rfl, shl_nat (by omega) (by omega), Nat.pow_one, Nat.mul_comm]
      rw [e8] at hl
      exact ih116 (kk + 1, 2 * X) ls (by dsimp only; omega) ⟨by dsimp only; rw [Nat.pow_succ, ← Nat.mul_assoc, ← hX, Nat.mul_comm], by dsimp only; omega⟩ (lv_sub hl [2, 3, 4, 5, 6, 7, 1, 0] rfl)
  · have p8 : ¬ ((0 : Int32) ≤ r5) := c8
    refine lv_aload_n hx hb d_Model_divided_11 rfl (lv_at hl 0 rfl) ?_
    refine lv_iconst (v := 0) hx hb d_Model_divided_12 (by decide) ?_
    refine va_put (v := .int 0) (ty := .int) hx hb htb i_Model t_Model t_Model_ok n_Model hown hK hP hD hS 0 rfl rfl 9 (by decide) (htb _ q7_223) (fun _ h9 => h9) rfl (by decide +kernel) rfl rfl (Nat.le_of_ble_eq_true rfl) d_Model_divided_13 (fun H13 locs hP hD hS => ?_)
    have hP : va_P (dC, dI) classes [(mo, .inr (12, (.int mer :: .int mfed :: .int mwr :: .int mct :: .int mls :: .ref moc :: .ref msT :: .ref mrV :: .ref msP :: .int 0 :: .ref mrA :: .ref mbA :: .ref mwA :: .ref mhA :: .ref mfA :: .ref mpA :: .ref mxA :: .ref myA :: .ref mmA :: .ref mqA :: .ref mzA :: .ref mwy :: .ref mfd :: .int msz :: .int mcz :: .int mch :: .int mft :: .int mpt :: .int mdp :: .int mvd :: .long mnw :: .int mmk :: []))), (mzA, .inl (cI, 600, .inl (tI ad))), (mmA, .inl (cI, 600, .inl (tI bd))), (mqA, .inl (cI, 600, .inl (tI qd))), (mrA, .inl (cI, 600, .inl (tI rd)))] H13 := hP
    have hD : va_D A [(mo, .inr (12, (.int mer :: .int mfed :: .int mwr :: .int mct :: .int mls :: .ref moc :: .ref msT :: .ref mrV :: .ref msP :: .int 0 :: .ref mrA :: .ref mbA :: .ref mwA :: .ref mhA :: .ref mfA :: .ref mpA :: .ref mxA :: .ref myA :: .ref mmA :: .ref mqA :: .ref mzA :: .ref mwy :: .ref mfd :: .int msz :: .int mcz :: .int mch :: .int mft :: .int mpt :: .int mdp :: .int mvd :: .long mnw :: .int mmk :: []))), (mzA, .inl (cI, 600, .inl (tI ad))), (mmA, .inl (cI, 600, .inl (tI bd))), (mqA, .inl (cI, 600, .inl (tI qd))), (mrA, .inl (cI, 600, .inl (tI rd)))] := hD
    refine lv_iload_n hx hb d_Model_divided_16 rfl (lv_at hl 2 rfl) ?_
    exact W.iret (v := nI n) hx hb hr (fun t ht hW => ⟨⟨_, (n, ad, qd, rd, 0), rfl, ⟨rfl, (show n ≤ k1 from Classical.byContradiction (fun q9 => absurd (vB_shorter (W := 65536) (by decide) hbd hat (Nat.not_le.mp q9)) (Nat.not_lt.mpr (Nat.le_of_lt (hr5.1 (Int32.not_le.mp p8)))))), hat, (Nat.mod_eq_of_lt (hr5.1 (Int32.not_le.mp p8))).symm, had, hqd, hrd⟩, by rw [ht]; exact hP, va_K.moved hW.alike hK, hD⟩, hS.F ht⟩) hS.2.2 d_Model_divided_17
