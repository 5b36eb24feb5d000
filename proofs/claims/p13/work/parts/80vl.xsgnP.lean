/-! Rsa.isSigned, exactly. -/
set_option maxHeartbeats 4000000 in
set_option maxRecDepth 100000 in
theorem x_Rsa_sgnP (l : Launch) (dC : Nat → ClassId) (dI : Nat → Nat → Nat) (sb : sB) (q0 pp ce q1 tx1 q2 tx2 ha mo sq ba po un su L0 a1 b1 n1 a2 b2 n2 bt ex wn : Nat) (iv : Int64) (pI kI : Nat → Int32) (pJ kJ : Nat → Int64) (pR kR : Nat → Nat) (cJ cB cI cO : ClassId) (h f : Nat → Int32) (u1 u2 om os md sqd bd pd sd ud : Nat → Nat) (sz : Nat) (hnum : (kI 17) = nI wn) (hwn : wn < 16) (hrow : f wn = 0 ∨ (f wn = 1 ∧ (sgV h om (b1 - a1) os (b2 - a2) ex)) ∨ (f wn = 2 ∧ ¬ (sgV h om (b1 - a1) os (b2 - a2) ex))) (hL64 : L0 ≤ 64) (hab1 : a1 ≤ b1) (hbn1 : b1 ≤ n1) (hn1 : n1 < 2 ^ 31) (hab2 : a2 ≤ b2) (hbn2 : b2 ≤ n2) (hn2 : n2 < 2 ^ 31) (hc62 : 62 ≤ (b1 - a1)) (hc256 : (b1 - a1) ≤ 256) (hu1 : ∀ j, u1 j < 256) (hu2 : ∀ j, u2 j < 256) (hom : ∀ i, i < (b1 - a1) → om i = u1 (b1 - 1 - i)) (hom8 : ∀ i, om i < 256) (hos : ∀ i, i < (b2 - a2) → os i = u2 (b2 - 1 - i)) (hos8 : ∀ i, os i < 256) (hbz1 : 1 ≤ bt) (hbz8 : bt ≤ 8 * (b1 - a1)) (hbzM : 2 ^ (bt - 1) < (vB 256 om (b1 - a1))) (hNodd : (vB 256 om (b1 - a1)) % 2 = 1) (hex1 : 1 ≤ ex) (hex2 : ex < 2 ^ 31) (hmd0 : ∀ j, md j < 4294967296) (hsqd : ∀ j, sqd j < 4294967296) (hbd : ∀ j, bd j < 4294967296) (hpd : ∀ j, pd j < 4294967296) (hsd : ∀ j, sd j < 4294967296) (hud : ∀ j, ud j < 4294967296) (hun1 : ∀ k, 1 ≤ k → vB 4294967296 ud k = 1) : Met l y_Rsa_isSigned w_Rsa_isSigned ({ frames := 3, cells := 0, slots := 0, locals := 86 }) (mf_P [(pp, .inr (2, [.ref ha, .ref (pR 1), .ref (pR 2), .ref (pR 3), .ref q2, .ref (pR 5), .long (pJ 6), .long (pJ 7), .int (pI 8)])), (ce, .inr (3, [.ref (kR 0), .ref (kR 1), .ref (kR 2), .ref (kR 3), .ref (kR 4), .ref q1, .ref (kR 6), .ref (kR 7), .int (kI 8), .int (nI bt), .int (nI ex), .int (kI 11), .int (kI 12), .int (kI 13), .int (kI 14), .int (kI 15), .int (kI 16), .int (kI 17), .int (kI 18), .ref (kR 19), .ref (kR 20), .ref (kR 21), .ref (kR 22), .ref (kR 23), .ref (kR 24), .long (kJ 25), .long (kJ 26), .int (kI 27)])), (q1, .inr (0, [.ref tx1, .int (nI a1), .int (nI b1)])), (tx1, .inl (cB, n1, .inl (tx u1))), (q2, .inr (0, [.ref tx2, .int (nI a2), .int (nI b2)])), (tx2, .inl (cB, n2, .inl (tx u2))), (ha, .inl (cI, 8, .inl h))] [.ref q0, .ref pp, .ref ce] (dC, dI) sb [(q0, .inr (7, [.ref mo, .ref sq, .ref ba, .ref po, .ref un, .ref su, .int (nI L0), .long iv])), (mo, .inl (cJ, 64, .inr (.inl (lR md)))), (sq, .inl (cJ, 64, .inr (.inl (lR sqd)))), (ba, .inl (cJ, 64, .inr (.inl (lR bd)))), (po, .inl (cJ, 64, .inr (.inl (lR pd)))), (un, .inl (cJ, 64, .inr (.inl (lR ud)))), (su, .inl (cJ, 66, .inr (.inl (lR sd)))), ((pR 1), .inl (cI, 16, .inl f))] [(cB, .byte), (cI, .int), (cJ, .long), (cO, .object "java/lang/Object")] sz) (va_Qi (fun r (v : (Nat × Int64 × (Nat → Nat) × (Nat → Nat) × (Nat → Nat) × (Nat → Nat) × (Nat → Nat)) × (Nat → Int32)) => bz r (sgV h om (b1 - a1) os (b2 - a2) ex) ∧ ((((v.2 wn = 1 ∧ (sgV h om (b1 - a1) os (b2 - a2) ex)) ∨ (v.2 wn = 2 ∧ ¬ (sgV h om (b1 - a1) os (b2 - a2) ex))) ∧ ∀ j, j ≠ wn → v.2 j = f j)) ∧ v.1.1 ≤ 64 ∧ (∀ j, v.1.2.2.1 j < 4294967296) ∧ (∀ j, v.1.2.2.2.1 j < 4294967296) ∧ (∀ j, v.1.2.2.2.2.1 j < 4294967296) ∧ (∀ j, v.1.2.2.2.2.2.1 j < 4294967296) ∧ (∀ j, v.1.2.2.2.2.2.2 j < 4294967296)) (mu_B (dC, dI) [(cB, .byte), (cI, .int), (cJ, .long), (cO, .object "java/lang/Object")] (va_A [(q0, .inr (7, [.ref mo, .ref sq, .ref ba, .ref po, .ref un, .ref su, .int (nI L0), .long iv])), (mo, .inl (cJ, 64, .inr (.inl (lR md)))), (sq, .inl (cJ, 64, .inr (.inl (lR sqd)))), (ba, .inl (cJ, 64, .inr (.inl (lR bd)))), (po, .inl (cJ, 64, .inr (.inl (lR pd)))), (un, .inl (cJ, 64, .inr (.inl (lR ud)))), (su, .inl (cJ, 66, .inr (.inl (lR sd)))), ((pR 1), .inl (cI, 16, .inl f))] sz) (fun v : (Nat × Int64 × (Nat → Nat) × (Nat → Nat) × (Nat → Nat) × (Nat → Nat) × (Nat → Nat)) × (Nat → Int32) => [(q0, .inr (7, [.ref mo, .ref sq, .ref ba, .ref po, .ref un, .ref su, .int (nI v.1.1), .long v.1.2.1])), (mo, .inl (cJ, 64, .inr (.inl (lR v.1.2.2.1)))), (sq, .inl (cJ, 64, .inr (.inl (lR v.1.2.2.2.1)))), (ba, .inl (cJ, 64, .inr (.inl (lR v.1.2.2.2.2.1)))), (po, .inl (cJ, 64, .inr (.inl (lR v.1.2.2.2.2.2.1)))), (un, .inl (cJ, 64, .inr (.inl (lR ud)))), (su, .inl (cJ, 66, .inr (.inl (lR v.1.2.2.2.2.2.2)))), ((pR 1), .inl (cI, 16, .inl v.2))])) (va_A [(q0, .inr (7, [.ref mo, .ref sq, .ref ba, .ref po, .ref un, .ref su, .int (nI L0), .long iv])), (mo, .inl (cJ, 64, .inr (.inl (lR md)))), (sq, .inl (cJ, 64, .inr (.inl (lR sqd)))), (ba, .inl (cJ, 64, .inr (.inl (lR bd)))), (po, .inl (cJ, 64, .inr (.inl (lR pd)))), (un, .inl (cJ, 64, .inr (.inl (lR ud)))), (su, .inl (cJ, 66, .inr (.inl (lR sd)))), ((pR 1), .inl (cI, 16, .inl f))] sz)) 0 0 (va_A [(q0, .inr (7, [.ref mo, .ref sq, .ref ba, .ref po, .ref un, .ref su, .int (nI L0), .long iv])), (mo, .inl (cJ, 64, .inr (.inl (lR md)))), (sq, .inl (cJ, 64, .inr (.inl (lR sqd)))), (ba, .inl (cJ, 64, .inr (.inl (lR bd)))), (po, .inl (cJ, 64, .inr (.inl (lR pd)))), (un, .inl (cJ, 64, .inr (.inl (lR ud)))), (su, .inl (cJ, 66, .inr (.inl (lR sd)))), ((pR 1), .inl (cI, 16, .inl f))] sz) := by
  refine Met.ofW (cc := b_Rsa_isSigned) (maxL := 4) (ret := (some FieldType.boolean)) (by decide) rfl ?_
  intro p e s m args below meth c s₁ B hml hv
  obtain ⟨⟨rfl, hsz, hB0, hP, hK, hD0, hN, hT0⟩, hF0, hFA0⟩ := hv
  have hx := B.exec
  have hb := B.bytes
  have hr := B.returns
  have hts := atoms_spec (ws := w_Rsa_isSigned) B.pre
  have tbin : ∀ w ∈ tb, w ∈ w_Rsa_isSigned := fun w h => List.mem_cons_of_mem _ h
  have htb : ∀ w ∈ tb, w.before _ s = true := fun w h => hts w (tbin w h)
  have hown : s.vm.findClass "TrustChain$Rsa" = some m.cls := findClass_of_methodNamed B.named
  have hlocks := B.notSynchronized
  subst hsz
  have hD := hD0.self (sz := s.heap.size)
  generalize hAe : va_A [(q0, .inr (7, [.ref mo, .ref sq, .ref ba, .ref po, .ref un, .ref su, .int (nI L0), .long iv])), (mo, .inl (cJ, 64, .inr (.inl (lR md)))), (sq, .inl (cJ, 64, .inr (.inl (lR sqd)))), (ba, .inl (cJ, 64, .inr (.inl (lR bd)))), (po, .inl (cJ, 64, .inr (.inl (lR pd)))), (un, .inl (cJ, 64, .inr (.inl (lR ud)))), (su, .inl (cJ, 66, .inr (.inl (lR sd)))), ((pR 1), .inl (cI, 16, .inl f))] s.heap.size = A at hD hFA0 ⊢
  have hA : ∀ q : Nat, s.heap.size ≤ q → A q := fun q h => by rw [← hAe]; exact Or.inr h
  have hAs : ∀ q : Nat, A q → sb.1 ≤ q := fun q h => by
    rw [← hAe] at h
    rcases h with ⟨k, e, h⟩ | h
    · exact hD0.2 k _ h
    · exact Nat.le_trans hB0 h
  have hS : va_S A s.heap s.heap [] := va_S.rf
  have hcs : 0 ≤ (headSpec w_Rsa_isSigned ({ frames := 3, cells := 0, slots := 0, locals := 86 })).room.cells ∧ 0 ≤ (headSpec w_Rsa_isSigned ({ frames := 3, cells := 0, slots := 0, locals := 86 })).room.slots := ⟨Nat.le_refl _, Nat.le_refl _⟩
  have hP : va_P (dC, dI) classes [(q0, .inr (7, [.ref mo, .ref sq, .ref ba, .ref po, .ref un, .ref su, .int (nI L0), .long iv])), (mo, .inl (cJ, 64, .inr (.inl (lR md)))), (sq, .inl (cJ, 64, .inr (.inl (lR sqd)))), (ba, .inl (cJ, 64, .inr (.inl (lR bd)))), (po, .inl (cJ, 64, .inr (.inl (lR pd)))), (un, .inl (cJ, 64, .inr (.inl (lR ud)))), (su, .inl (cJ, 66, .inr (.inl (lR sd)))), ((pR 1), .inl (cI, 16, .inl f))] s.heap := hP
  have hl := lv_entry ([.ref q0, .ref pp, .ref ce]) (n := 4) (Nat.le_of_ble_eq_true rfl)
  rw [lg_entry_eq]
  generalize (lg_sl ([.ref q0, .ref pp, .ref ce]) ++ List.replicate (4 - (lg_sl ([.ref q0, .ref pp, .ref ce])).length) Slot.unset).toArray = ls at hl ⊢
  have hl : lv_has ls 4 [(0, .ref q0), (1, .ref pp), (2, .ref ce)] := hl
  refine lv_aload_n hx hb d_Rsa_isSigned_0 rfl (lv_at hl 2 rfl) ?_
  refine va_get (v := .int (kI 17)) hx hb htb i_Certificate hown hK (mf_keep hF0 hFA0 hS) 1 rfl rfl 17 (by decide) (htb _ q2_186) (fun _ h9 => h9) rfl d_Rsa_isSigned_1 ?_
  refine lv_topi (fun x4 e4 => ?_)
  obtain rfl : x4 = nI wn := e4.trans hnum
  refine lv_istore_n (lv' := [(3, .int (nI wn)), (0, .ref q0), (1, .ref pp), (2, .ref ce)]) hx hb d_Rsa_isSigned_4 rfl hl (by decide) rfl (fun ls hl => ?_)
  refine lv_iload_n hx hb d_Rsa_isSigned_5 rfl (lv_at hl 0 rfl) ?_
  refine lv_if_lt (tgt := 18) hx hb d_Rsa_isSigned_6 (by decide) (fun c6 => ?_) (fun c6 => ?_)
  · exact absurd c6 (nI_nn (by omega))
  refine lv_iload_n hx hb d_Rsa_isSigned_9 rfl (lv_at hl 0 rfl) ?_
  refine lv_aload_n hx hb d_Rsa_isSigned_10 rfl (lv_at hl 2 rfl) ?_
  refine va_get (v := .ref (pR 1)) hx hb htb i_Paper hown hK (mf_keep hF0 hFA0 hS) 0 rfl rfl 1 (by decide) (htb _ q2_198) (fun _ h9 => h9) rfl d_Rsa_isSigned_11 ?_
  refine va_alen (v := nI 16) hx hb hK hP 7 1 rfl rfl rfl d_Rsa_isSigned_14 ?_
  refine lv_icmp_lt (tgt := 20) hx hb d_Rsa_isSigned_15 (by decide) (fun c15 => ?_) (fun c15 => ?_)
  rotate_left
  · exact absurd ((nI_ltI (a := wn) (b := 16) (by omega) (by decide)).mpr hwn) c15
  refine lv_aload_n hx hb d_Rsa_isSigned_20 rfl (lv_at hl 2 rfl) ?_
  refine va_get (v := .ref (pR 1)) hx hb htb i_Paper hown hK (mf_keep hF0 hFA0 hS) 0 rfl rfl 1 (by decide) (htb _ q2_198) (fun _ h9 => h9) rfl d_Rsa_isSigned_21 ?_
  refine lv_iload_n hx hb d_Rsa_isSigned_24 rfl (lv_at hl 0 rfl) ?_
  have h25 : vp_in (nI wn) 16 := vp_in_nI hwn (by decide)
  refine va_iald hx hb hK hP 7 1 rfl rfl h25 d_Rsa_isSigned_25 ?_
  refine lv_topi (fun x26 e26 => ?_)
  obtain rfl : x26 = f wn := e26.trans (congrArg f (nI_clamp (by omega)))
  refine lv_if_ne (tgt := 49) hx hb d_Rsa_isSigned_26 (by decide) (fun c26 => ?_) (fun c26 => ?_)
  · have p26 : ¬ ((f wn) = (0 : Int32)) := c26
    refine lv_aload_n hx hb d_Rsa_isSigned_49 rfl (lv_at hl 2 rfl) ?_
    refine va_get (v := .ref (pR 1)) hx hb htb i_Paper hown hK (mf_keep hF0 hFA0 hS) 0 rfl rfl 1 (by decide) (htb _ q2_198) (fun _ h9 => h9) rfl d_Rsa_isSigned_50 ?_
    refine lv_iload_n hx hb d_Rsa_isSigned_53 rfl (lv_at hl 0 rfl) ?_
    have h54 : vp_in (nI wn) 16 := vp_in_nI hwn (by decide)
    refine va_iald hx hb hK hP 7 1 rfl rfl h54 d_Rsa_isSigned_54 ?_
    refine lv_topi (fun x55 e55 => ?_)
    obtain rfl : x55 = f wn := e55.trans (congrArg f (nI_clamp (by omega)))
    refine lv_iconst (v := 1) hx hb d_Rsa_isSigned_55 (by decide) ?_
    refine lv_icmp_ne (tgt := 63) hx hb d_Rsa_isSigned_56 (by decide) (fun c56 => ?_) (fun c56 => ?_)
    · have p56 : ¬ ((f wn) = (1 : Int32)) := c56
      refine lv_iconst (v := 0) hx hb d_Rsa_isSigned_63 (by decide) ?_
      exact W.zret (v := 0) hx hb hr (by decide) (fun t ht hW => ⟨⟨_, ((L0, iv, md, sqd, bd, pd, sd), f), rfl, ⟨(hrow.elim (fun q9 => absurd q9 p26) (fun q9 => q9.elim (fun q9 => absurd q9.1 p56) (fun q9 => bz_f q9.2))), ⟨(hrow.elim (fun q9 => absurd q9 p26) (fun q9 => q9.elim (fun q9 => Or.inl q9) (fun q9 => Or.inr q9))), fun _ _ => rfl⟩, ⟨hL64, hmd0, hsqd, hbd, hpd, hsd⟩⟩, by rw [ht]; exact hP, va_K.moved hW.alike hK, hD⟩, hS.F ht⟩) hS.2.2 d_Rsa_isSigned_64
    · have p56 : (f wn) = (1 : Int32) := c56
      refine lv_iconst (v := 1) hx hb d_Rsa_isSigned_59 (by decide) ?_
      refine lv_goto (tgt := 64) hx hb d_Rsa_isSigned_60 (by decide) ?_
      exact W.zret (v := 1) hx hb hr (by decide) (fun t ht hW => ⟨⟨_, ((L0, iv, md, sqd, bd, pd, sd), f), rfl, ⟨(hrow.elim (fun q9 => absurd q9 p26) (fun q9 => q9.elim (fun q9 => bz_t q9.2) (fun q9 => absurd (q9.1.symm.trans p56) (by decide)))), ⟨(hrow.elim (fun q9 => absurd q9 p26) (fun q9 => q9.elim (fun q9 => Or.inl q9) (fun q9 => Or.inr q9))), fun _ _ => rfl⟩, ⟨hL64, hmd0, hsqd, hbd, hpd, hsd⟩⟩, by rw [ht]; exact hP, va_K.moved hW.alike hK, hD⟩, hS.F ht⟩) hS.2.2 d_Rsa_isSigned_64
  · have p26 : (f wn) = (0 : Int32) := c26
    refine lv_aload_n hx hb d_Rsa_isSigned_29 rfl (lv_at hl 2 rfl) ?_
    refine va_get (v := .ref (pR 1)) hx hb htb i_Paper hown hK (mf_keep hF0 hFA0 hS) 0 rfl rfl 1 (by decide) (htb _ q2_198) (fun _ h9 => h9) rfl d_Rsa_isSigned_30 ?_
    refine lv_iload_n hx hb d_Rsa_isSigned_33 rfl (lv_at hl 0 rfl) ?_
    refine lv_aload_n hx hb d_Rsa_isSigned_34 rfl (lv_at hl 1 rfl) ?_
    refine lv_aload_n hx hb d_Rsa_isSigned_35 rfl (lv_at hl 2 rfl) ?_
    refine lv_aload_n hx hb d_Rsa_isSigned_36 rfl (lv_at hl 3 rfl) ?_
    have hFc := va_free (wc := [(q0, .inr (7, [.ref mo, .ref sq, .ref ba, .ref po, .ref un, .ref su, .int (nI L0), .long iv])), (mo, .inl (cJ, 64, .inr (.inl (lR md)))), (sq, .inl (cJ, 64, .inr (.inl (lR sqd)))), (ba, .inl (cJ, 64, .inr (.inl (lR bd)))), (po, .inl (cJ, 64, .inr (.inl (lR pd)))), (un, .inl (cJ, 64, .inr (.inl (lR ud)))), (su, .inl (cJ, 66, .inr (.inl (lR sd))))]) hD hS hA [0, 1, 2, 3, 4, 5, 6] rfl
    refine va_calli (mf_runV (As := [.ref pp, .ref ce]) (rest := [.int (nI wn), .ref (pR 1)]) ⟨hx, hb, hml, hown, hts⟩ tbin (x_Rsa_verP l dC dI sb q0 pp ce q1 tx1 q2 tx2 ha mo sq ba po un su L0 a1 b1 n1 a2 b2 n2 bt ex iv pI kI pJ kJ pR kR cJ cB cI h u1 u2 om os md sqd bd pd sd ud s.heap.size hL64 hab1 hbn1 hn1 hab2 hbn2 hn2 hc62 hc256 hu1 hu2 hom hom8 hos hos8 hbz1 hbz8 hbzM hNodd hex1 hex2 hmd0 hsqd hbd hpd hsd hud hun1) (mf_keep hF0 hFA0 hS) (mf_fr [0, 1, 2, 3, 4, 5, 6] rfl hFA0 hFc) q5_180 q5_182 qp_20 q1_6 q5_183 (n := 2) (by decide +kernel) rfl ⟨rfl, rfl⟩ ⟨Nat.le_of_ble_eq_true rfl, Nat.le_of_ble_eq_true rfl⟩ ⟨Nat.le_of_ble_eq_true rfl, Nat.le_of_ble_eq_true rfl⟩ hN (hT0.keep hS hAs) hAs (Nat.le_trans hB0 hS.1) hK hP hD [0, 1, 2, 3, 4, 5, 6] (by decide) rfl [2, 0, 1] rfl 0 7 rfl rfl rfl hl.1 rfl (Nat.le_of_ble_eq_true rfl) d_Rsa_isSigned_37) hS (fun q _ h => hFc q h) hFc (fun r37 u37 tS H37 locs ht hvm hw37 hB hz1 hk1 hS => ?_)
    obtain ⟨v37, rfl⟩ : ∃ z, z = u37 := ⟨_, rfl⟩
    obtain ⟨hP1, hK1, hD1⟩ := hB
    rw [ht] at hP1
    obtain ⟨hP, hD⟩ := va_join (wr := [((pR 1), .inl (cI, 16, .inl f))]) (w1 := [(q0, .inr (7, [.ref mo, .ref sq, .ref ba, .ref po, .ref un, .ref su, .int (nI v37.1), .long v37.2.1])), (mo, .inl (cJ, 64, .inr (.inl (lR v37.2.2.1)))), (sq, .inl (cJ, 64, .inr (.inl (lR v37.2.2.2.1)))), (ba, .inl (cJ, 64, .inr (.inl (lR v37.2.2.2.2.1)))), (po, .inl (cJ, 64, .inr (.inl (lR v37.2.2.2.2.2.1)))), (un, .inl (cJ, 64, .inr (.inl (lR ud)))), (su, .inl (cJ, 66, .inr (.inl (lR v37.2.2.2.2.2.2))))]) hP hD [0, 1, 2, 3, 4, 5, 6] [7] rfl rfl (by decide) (by decide) hk1 hFc hP1 hD1
    have hP : va_P (dC, dI) classes [((pR 1), .inl (cI, 16, .inl f)), (q0, .inr (7, [.ref mo, .ref sq, .ref ba, .ref po, .ref un, .ref su, .int (nI v37.1), .long v37.2.1])), (mo, .inl (cJ, 64, .inr (.inl (lR v37.2.2.1)))), (sq, .inl (cJ, 64, .inr (.inl (lR v37.2.2.2.1)))), (ba, .inl (cJ, 64, .inr (.inl (lR v37.2.2.2.2.1)))), (po, .inl (cJ, 64, .inr (.inl (lR v37.2.2.2.2.2.1)))), (un, .inl (cJ, 64, .inr (.inl (lR ud)))), (su, .inl (cJ, 66, .inr (.inl (lR v37.2.2.2.2.2.2))))] H37 := hP
    have hD : va_D A [((pR 1), .inl (cI, 16, .inl f)), (q0, .inr (7, [.ref mo, .ref sq, .ref ba, .ref po, .ref un, .ref su, .int (nI v37.1), .long v37.2.1])), (mo, .inl (cJ, 64, .inr (.inl (lR v37.2.2.1)))), (sq, .inl (cJ, 64, .inr (.inl (lR v37.2.2.2.1)))), (ba, .inl (cJ, 64, .inr (.inl (lR v37.2.2.2.2.1)))), (po, .inl (cJ, 64, .inr (.inl (lR v37.2.2.2.2.2.1)))), (un, .inl (cJ, 64, .inr (.inl (lR ud)))), (su, .inl (cJ, 66, .inr (.inl (lR v37.2.2.2.2.2.2))))] := hD
    refine lv_if_eq (tgt := 47) hx hb d_Rsa_isSigned_40 (by decide) (fun c40 => ?_) (fun c40 => ?_)
    · have p40 : r37 = (0 : Int32) := c40
      refine lv_iconst (v := 2) hx hb d_Rsa_isSigned_47 (by decide) ?_
      have h48 : vp_in (nI wn) 16 := vp_in_nI hwn (by decide)
      refine va_iast hx hb hK hP hD hS 0 1 rfl rfl h48 d_Rsa_isSigned_48 (fun H48 locs hP hD hS => ?_)
      rw [nI_clamp (by omega)] at hP hD
      obtain ⟨f9, hf9⟩ : ∃ g : Nat → Int32, g = upd f wn 2 := ⟨_, rfl⟩
      rw [← hf9] at hP hD
      have hP : va_P (dC, dI) classes [((pR 1), .inl (cI, 16, .inl f9)), (q0, .inr (7, [.ref mo, .ref sq, .ref ba, .ref po, .ref un, .ref su, .int (nI v37.1), .long v37.2.1])), (mo, .inl (cJ, 64, .inr (.inl (lR v37.2.2.1)))), (sq, .inl (cJ, 64, .inr (.inl (lR v37.2.2.2.1)))), (ba, .inl (cJ, 64, .inr (.inl (lR v37.2.2.2.2.1)))), (po, .inl (cJ, 64, .inr (.inl (lR v37.2.2.2.2.2.1)))), (un, .inl (cJ, 64, .inr (.inl (lR ud)))), (su, .inl (cJ, 66, .inr (.inl (lR v37.2.2.2.2.2.2))))] H48 := hP
      have hD : va_D A [((pR 1), .inl (cI, 16, .inl f9)), (q0, .inr (7, [.ref mo, .ref sq, .ref ba, .ref po, .ref un, .ref su, .int (nI v37.1), .long v37.2.1])), (mo, .inl (cJ, 64, .inr (.inl (lR v37.2.2.1)))), (sq, .inl (cJ, 64, .inr (.inl (lR v37.2.2.2.1)))), (ba, .inl (cJ, 64, .inr (.inl (lR v37.2.2.2.2.1)))), (po, .inl (cJ, 64, .inr (.inl (lR v37.2.2.2.2.2.1)))), (un, .inl (cJ, 64, .inr (.inl (lR ud)))), (su, .inl (cJ, 66, .inr (.inl (lR v37.2.2.2.2.2.2))))] := hD
      have hfw : f9 wn = 2 := by rw [hf9]; unfold upd; exact if_pos rfl
      have hfo : ∀ j, j ≠ wn → f9 j = f j := fun j hj => by rw [hf9]; unfold upd; exact if_neg hj
      have hsg : ¬ (sgV h om (b1 - a1) os (b2 - a2) ex) := bz_0 hw37.1 (by first | exact p40 | exact Classical.not_not.mp p40)
      refine lv_aload_n hx hb d_Rsa_isSigned_49 rfl (lv_at hl 2 rfl) ?_
      refine va_get (v := .ref (pR 1)) hx hb htb i_Paper hown hK (mf_keep hF0 hFA0 hS) 0 rfl rfl 1 (by decide) (htb _ q2_198) (fun _ h9 => h9) rfl d_Rsa_isSigned_50 ?_
      refine lv_iload_n hx hb d_Rsa_isSigned_53 rfl (lv_at hl 0 rfl) ?_
      have h54 : vp_in (nI wn) 16 := vp_in_nI hwn (by decide)
      refine va_iald hx hb hK hP 0 1 rfl rfl h54 d_Rsa_isSigned_54 ?_
      refine lv_topi (fun x55 e55 => ?_)
      obtain rfl : x55 = f9 wn := e55.trans (congrArg f9 (nI_clamp (by omega)))
      refine lv_iconst (v := 1) hx hb d_Rsa_isSigned_55 (by decide) ?_
      refine lv_icmp_ne (tgt := 63) hx hb d_Rsa_isSigned_56 (by decide) (fun c56 => ?_) (fun c56 => ?_)
      · have p56 : ¬ ((f9 wn) = (1 : Int32)) := c56
        refine lv_iconst (v := 0) hx hb d_Rsa_isSigned_63 (by decide) ?_
        exact W.zret (v := 0) hx hb hr (by decide) (fun t ht hW => ⟨⟨_, (v37, f9), rfl, ⟨bz_f hsg, ⟨Or.inr ⟨hfw, hsg⟩, hfo⟩, hw37.2⟩, by rw [ht]; exact hP.sub [1, 2, 3, 4, 5, 6, 7, 0] rfl, va_K.moved hW.alike hK, hD.sub [1, 2, 3, 4, 5, 6, 7, 0] (by decide) rfl⟩, hS.F ht⟩) hS.2.2 d_Rsa_isSigned_64
      · have p56 : (f9 wn) = (1 : Int32) := c56
        refine lv_iconst (v := 1) hx hb d_Rsa_isSigned_59 (by decide) ?_
        refine lv_goto (tgt := 64) hx hb d_Rsa_isSigned_60 (by decide) ?_
        exact W.zret (v := 1) hx hb hr (by decide) (fun t ht hW => ⟨⟨_, (v37, f9), rfl, ⟨absurd hfw (by first | exact p56 | (rw [p56]; decide)), ⟨Or.inr ⟨hfw, hsg⟩, hfo⟩, hw37.2⟩, by rw [ht]; exact hP.sub [1, 2, 3, 4, 5, 6, 7, 0] rfl, va_K.moved hW.alike hK, hD.sub [1, 2, 3, 4, 5, 6, 7, 0] (by decide) rfl⟩, hS.F ht⟩) hS.2.2 d_Rsa_isSigned_64
    · have p40 : ¬ (r37 = (0 : Int32)) := c40
      refine lv_iconst (v := 1) hx hb d_Rsa_isSigned_43 (by decide) ?_
      refine lv_goto (tgt := 48) hx hb d_Rsa_isSigned_44 (by decide) ?_
      have h48 : vp_in (nI wn) 16 := vp_in_nI hwn (by decide)
      refine va_iast hx hb hK hP hD hS 0 1 rfl rfl h48 d_Rsa_isSigned_48 (fun H48 locs hP hD hS => ?_)
      rw [nI_clamp (by omega)] at hP hD
      obtain ⟨f9, hf9⟩ : ∃ g : Nat → Int32, g = upd f wn 1 := ⟨_, rfl⟩
      rw [← hf9] at hP hD
      have hP : va_P (dC, dI) classes [((pR 1), .inl (cI, 16, .inl f9)), (q0, .inr (7, [.ref mo, .ref sq, .ref ba, .ref po, .ref un, .ref su, .int (nI v37.1), .long v37.2.1])), (mo, .inl (cJ, 64, .inr (.inl (lR v37.2.2.1)))), (sq, .inl (cJ, 64, .inr (.inl (lR v37.2.2.2.1)))), (ba, .inl (cJ, 64, .inr (.inl (lR v37.2.2.2.2.1)))), (po, .inl (cJ, 64, .inr (.inl (lR v37.2.2.2.2.2.1)))), (un, .inl (cJ, 64, .inr (.inl (lR ud)))), (su, .inl (cJ, 66, .inr (.inl (lR v37.2.2.2.2.2.2))))] H48 := hP
      have hD : va_D A [((pR 1), .inl (cI, 16, .inl f9)), (q0, .inr (7, [.ref mo, .ref sq, .ref ba, .ref po, .ref un, .ref su, .int (nI v37.1), .long v37.2.1])), (mo, .inl (cJ, 64, .inr (.inl (lR v37.2.2.1)))), (sq, .inl (cJ, 64, .inr (.inl (lR v37.2.2.2.1)))), (ba, .inl (cJ, 64, .inr (.inl (lR v37.2.2.2.2.1)))), (po, .inl (cJ, 64, .inr (.inl (lR v37.2.2.2.2.2.1)))), (un, .inl (cJ, 64, .inr (.inl (lR ud)))), (su, .inl (cJ, 66, .inr (.inl (lR v37.2.2.2.2.2.2))))] := hD
      have hfw : f9 wn = 1 := by rw [hf9]; unfold upd; exact if_pos rfl
      have hfo : ∀ j, j ≠ wn → f9 j = f j := fun j hj => by rw [hf9]; unfold upd; exact if_neg hj
      have hsg : (sgV h om (b1 - a1) os (b2 - a2) ex) := bz_1 hw37.1 (by first | exact p40 | exact fun q9 => p40 q9)
      refine lv_aload_n hx hb d_Rsa_isSigned_49 rfl (lv_at hl 2 rfl) ?_
      refine va_get (v := .ref (pR 1)) hx hb htb i_Paper hown hK (mf_keep hF0 hFA0 hS) 0 rfl rfl 1 (by decide) (htb _ q2_198) (fun _ h9 => h9) rfl d_Rsa_isSigned_50 ?_
      refine lv_iload_n hx hb d_Rsa_isSigned_53 rfl (lv_at hl 0 rfl) ?_
      have h54 : vp_in (nI wn) 16 := vp_in_nI hwn (by decide)
      refine va_iald hx hb hK hP 0 1 rfl rfl h54 d_Rsa_isSigned_54 ?_
      refine lv_topi (fun x55 e55 => ?_)
      obtain rfl : x55 = f9 wn := e55.trans (congrArg f9 (nI_clamp (by omega)))
      refine lv_iconst (v := 1) hx hb d_Rsa_isSigned_55 (by decide) ?_
      refine lv_icmp_ne (tgt := 63) hx hb d_Rsa_isSigned_56 (by decide) (fun c56 => ?_) (fun c56 => ?_)
      · have p56 : ¬ ((f9 wn) = (1 : Int32)) := c56
        refine lv_iconst (v := 0) hx hb d_Rsa_isSigned_63 (by decide) ?_
        exact W.zret (v := 0) hx hb hr (by decide) (fun t ht hW => ⟨⟨_, (v37, f9), rfl, ⟨absurd hfw (by first | exact p56 | (rw [p56]; decide)), ⟨Or.inl ⟨hfw, hsg⟩, hfo⟩, hw37.2⟩, by rw [ht]; exact hP.sub [1, 2, 3, 4, 5, 6, 7, 0] rfl, va_K.moved hW.alike hK, hD.sub [1, 2, 3, 4, 5, 6, 7, 0] (by decide) rfl⟩, hS.F ht⟩) hS.2.2 d_Rsa_isSigned_64
      · have p56 : (f9 wn) = (1 : Int32) := c56
        refine lv_iconst (v := 1) hx hb d_Rsa_isSigned_59 (by decide) ?_
        refine lv_goto (tgt := 64) hx hb d_Rsa_isSigned_60 (by decide) ?_
        exact W.zret (v := 1) hx hb hr (by decide) (fun t ht hW => ⟨⟨_, (v37, f9), rfl, ⟨bz_t hsg, ⟨Or.inl ⟨hfw, hsg⟩, hfo⟩, hw37.2⟩, by rw [ht]; exact hP.sub [1, 2, 3, 4, 5, 6, 7, 0] rfl, va_K.moved hW.alike hK, hD.sub [1, 2, 3, 4, 5, 6, 7, 0] (by decide) rfl⟩, hS.F ht⟩) hS.2.2 d_Rsa_isSigned_64
