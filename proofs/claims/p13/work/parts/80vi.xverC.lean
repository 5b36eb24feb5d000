/-! Rsa.verifies, exactly. -/
set_option maxHeartbeats 4000000 in
set_option maxRecDepth 100000 in
theorem x_Rsa_verC (l : Launch) (dC : Nat → ClassId) (dI : Nat → Nat → Nat) (sb : sB) (q0 pp ce q1 tx1 q2 tx2 ha mo sq ba po un su L0 a1 b1 n1 a2 b2 n2 bt ex : Nat) (iv : Int64) (pI kI : Nat → Int32) (pJ kJ : Nat → Int64) (pR kR : Nat → Nat) (cJ cB cI : ClassId) (h : Nat → Int32) (u1 u2 om os md sqd bd pd sd ud : Nat → Nat) (sz : Nat) (hL64 : L0 ≤ 64) (hab1 : a1 ≤ b1) (hbn1 : b1 ≤ n1) (hn1 : n1 < 2 ^ 31) (hab2 : a2 ≤ b2) (hbn2 : b2 ≤ n2) (hn2 : n2 < 2 ^ 31) (hc62 : 62 ≤ (b1 - a1)) (hc256 : (b1 - a1) ≤ 256) (hu1 : ∀ j, u1 j < 256) (hu2 : ∀ j, u2 j < 256) (hom : ∀ i, i < (b1 - a1) → om i = u1 (b1 - 1 - i)) (hom8 : ∀ i, om i < 256) (hos : ∀ i, i < (b2 - a2) → os i = u2 (b2 - 1 - i)) (hos8 : ∀ i, os i < 256) (hbz1 : 1 ≤ bt) (hbz8 : bt ≤ 8 * (b1 - a1)) (hbzM : 2 ^ (bt - 1) < (vB 256 om (b1 - a1))) (hNodd : (vB 256 om (b1 - a1)) % 2 = 1) (hex1 : 1 ≤ ex) (hex2 : ex < 2 ^ 31) (hmd0 : ∀ j, md j < 4294967296) (hsqd : ∀ j, sqd j < 4294967296) (hbd : ∀ j, bd j < 4294967296) (hpd : ∀ j, pd j < 4294967296) (hsd : ∀ j, sd j < 4294967296) (hud : ∀ j, ud j < 4294967296) (hun1 : ∀ k, 1 ≤ k → vB 4294967296 ud k = 1) : Met l y_Rsa_verifies w_Rsa_verifies ({ frames := 2, cells := 0, slots := 0, locals := 61 }) (mf_P [(pp, .inr (3, [.ref (pR 0), .ref (pR 1), .ref (pR 2), .ref (pR 3), .ref (pR 4), .ref (pR 5), .ref (pR 6), .ref (pR 7), .int (pI 8), .int (pI 9), .int (pI 10), .int (pI 11), .int (pI 12), .int (pI 13), .int (pI 14), .int (pI 15), .int (pI 16), .int (pI 17), .int (pI 18), .ref ha, .ref (pR 20), .ref (pR 21), .ref (pR 22), .ref q2, .ref (pR 24), .long (pJ 25), .long (pJ 26), .int (pI 27)])), (ce, .inr (3, [.ref (kR 0), .ref (kR 1), .ref (kR 2), .ref (kR 3), .ref (kR 4), .ref q1, .ref (kR 6), .ref (kR 7), .int (kI 8), .int (nI bt), .int (nI ex), .int (kI 11), .int (kI 12), .int (kI 13), .int (kI 14), .int (kI 15), .int (kI 16), .int (kI 17), .int (kI 18), .ref (kR 19), .ref (kR 20), .ref (kR 21), .ref (kR 22), .ref (kR 23), .ref (kR 24), .long (kJ 25), .long (kJ 26), .int (kI 27)])), (q1, .inr (0, [.ref tx1, .int (nI a1), .int (nI b1)])), (tx1, .inl (cB, n1, .inl (tx u1))), (q2, .inr (0, [.ref tx2, .int (nI a2), .int (nI b2)])), (tx2, .inl (cB, n2, .inl (tx u2))), (ha, .inl (cI, 8, .inl h))] [.ref q0, .ref pp, .ref ce] (dC, dI) sb [(q0, .inr (7, [.ref mo, .ref sq, .ref ba, .ref po, .ref un, .ref su, .int (nI L0), .long iv])), (mo, .inl (cJ, 64, .inr (.inl (lR md)))), (sq, .inl (cJ, 64, .inr (.inl (lR sqd)))), (ba, .inl (cJ, 64, .inr (.inl (lR bd)))), (po, .inl (cJ, 64, .inr (.inl (lR pd)))), (un, .inl (cJ, 64, .inr (.inl (lR ud)))), (su, .inl (cJ, 66, .inr (.inl (lR sd))))] [(cJ, .long), (cB, .byte), (cI, .int)] sz) (va_Qi (fun r (v : Nat × Int64 × (Nat → Nat) × (Nat → Nat) × (Nat → Nat) × (Nat → Nat) × (Nat → Nat)) => bz r (sgV h om (b1 - a1) os (b2 - a2) ex) ∧ v.1 ≤ 64 ∧ (∀ j, v.2.2.1 j < 4294967296) ∧ (∀ j, v.2.2.2.1 j < 4294967296) ∧ (∀ j, v.2.2.2.2.1 j < 4294967296) ∧ (∀ j, v.2.2.2.2.2.1 j < 4294967296) ∧ (∀ j, v.2.2.2.2.2.2 j < 4294967296)) (mu_B (dC, dI) [(cJ, .long), (cB, .byte), (cI, .int)] (va_A [(q0, .inr (7, [.ref mo, .ref sq, .ref ba, .ref po, .ref un, .ref su, .int (nI L0), .long iv])), (mo, .inl (cJ, 64, .inr (.inl (lR md)))), (sq, .inl (cJ, 64, .inr (.inl (lR sqd)))), (ba, .inl (cJ, 64, .inr (.inl (lR bd)))), (po, .inl (cJ, 64, .inr (.inl (lR pd)))), (un, .inl (cJ, 64, .inr (.inl (lR ud)))), (su, .inl (cJ, 66, .inr (.inl (lR sd))))] sz) (fun v : Nat × Int64 × (Nat → Nat) × (Nat → Nat) × (Nat → Nat) × (Nat → Nat) × (Nat → Nat) => [(q0, .inr (7, [.ref mo, .ref sq, .ref ba, .ref po, .ref un, .ref su, .int (nI v.1), .long v.2.1])), (mo, .inl (cJ, 64, .inr (.inl (lR v.2.2.1)))), (sq, .inl (cJ, 64, .inr (.inl (lR v.2.2.2.1)))), (ba, .inl (cJ, 64, .inr (.inl (lR v.2.2.2.2.1)))), (po, .inl (cJ, 64, .inr (.inl (lR v.2.2.2.2.2.1)))), (un, .inl (cJ, 64, .inr (.inl (lR ud)))), (su, .inl (cJ, 66, .inr (.inl (lR v.2.2.2.2.2.2))))])) (va_A [(q0, .inr (7, [.ref mo, .ref sq, .ref ba, .ref po, .ref un, .ref su, .int (nI L0), .long iv])), (mo, .inl (cJ, 64, .inr (.inl (lR md)))), (sq, .inl (cJ, 64, .inr (.inl (lR sqd)))), (ba, .inl (cJ, 64, .inr (.inl (lR bd)))), (po, .inl (cJ, 64, .inr (.inl (lR pd)))), (un, .inl (cJ, 64, .inr (.inl (lR ud)))), (su, .inl (cJ, 66, .inr (.inl (lR sd))))] sz)) 0 0 (va_A [(q0, .inr (7, [.ref mo, .ref sq, .ref ba, .ref po, .ref un, .ref su, .int (nI L0), .long iv])), (mo, .inl (cJ, 64, .inr (.inl (lR md)))), (sq, .inl (cJ, 64, .inr (.inl (lR sqd)))), (ba, .inl (cJ, 64, .inr (.inl (lR bd)))), (po, .inl (cJ, 64, .inr (.inl (lR pd)))), (un, .inl (cJ, 64, .inr (.inl (lR ud)))), (su, .inl (cJ, 66, .inr (.inl (lR sd))))] sz) := by
  refine Met.ofW (cc := b_Rsa_verifies) (maxL := 6) (ret := (some FieldType.boolean)) (by decide) rfl ?_
  intro p e s m args below meth c s₁ B hml hv
  obtain ⟨⟨rfl, hsz, hB0, hP, hK, hD0, hN, hT0⟩, hF0, hFA0⟩ := hv
  have hx := B.exec
  have hb := B.bytes
  have hr := B.returns
  have hts := atoms_spec (ws := w_Rsa_verifies) B.pre
  have tbin : ∀ w ∈ tb, w ∈ w_Rsa_verifies := fun w h => List.mem_cons_of_mem _ h
  have htb : ∀ w ∈ tb, w.before _ s = true := fun w h => hts w (tbin w h)
  have hown : s.vm.findClass "TrustChain$Rsa" = some m.cls := findClass_of_methodNamed B.named
  have hlocks := B.notSynchronized
  subst hsz
  have hD := hD0.self (sz := s.heap.size)
  generalize hAe : va_A [(q0, .inr (7, [.ref mo, .ref sq, .ref ba, .ref po, .ref un, .ref su, .int (nI L0), .long iv])), (mo, .inl (cJ, 64, .inr (.inl (lR md)))), (sq, .inl (cJ, 64, .inr (.inl (lR sqd)))), (ba, .inl (cJ, 64, .inr (.inl (lR bd)))), (po, .inl (cJ, 64, .inr (.inl (lR pd)))), (un, .inl (cJ, 64, .inr (.inl (lR ud)))), (su, .inl (cJ, 66, .inr (.inl (lR sd))))] s.heap.size = A at hD hFA0 ⊢
  have hA : ∀ q : Nat, s.heap.size ≤ q → A q := fun q h => by rw [← hAe]; exact Or.inr h
  have hAs : ∀ q : Nat, A q → sb.1 ≤ q := fun q h => by
    rw [← hAe] at h
    rcases h with ⟨k, e, h⟩ | h
    · exact hD0.2 k _ h
    · exact Nat.le_trans hB0 h
  have hS : va_S A s.heap s.heap [] := va_S.rf
  have hcs : 0 ≤ (headSpec w_Rsa_verifies ({ frames := 2, cells := 0, slots := 0, locals := 61 })).room.cells ∧ 0 ≤ (headSpec w_Rsa_verifies ({ frames := 2, cells := 0, slots := 0, locals := 61 })).room.slots := ⟨Nat.le_refl _, Nat.le_refl _⟩
  have hP : va_P (dC, dI) classes [(q0, .inr (7, [.ref mo, .ref sq, .ref ba, .ref po, .ref un, .ref su, .int (nI L0), .long iv])), (mo, .inl (cJ, 64, .inr (.inl (lR md)))), (sq, .inl (cJ, 64, .inr (.inl (lR sqd)))), (ba, .inl (cJ, 64, .inr (.inl (lR bd)))), (po, .inl (cJ, 64, .inr (.inl (lR pd)))), (un, .inl (cJ, 64, .inr (.inl (lR ud)))), (su, .inl (cJ, 66, .inr (.inl (lR sd))))] s.heap := hP
  have hl := lv_entry ([.ref q0, .ref pp, .ref ce]) (n := 6) (Nat.le_of_ble_eq_true rfl)
  rw [lg_entry_eq]
  generalize (lg_sl ([.ref q0, .ref pp, .ref ce]) ++ List.replicate (6 - (lg_sl ([.ref q0, .ref pp, .ref ce])).length) Slot.unset).toArray = ls at hl ⊢
  have hl : lv_has ls 6 [(0, .ref q0), (1, .ref pp), (2, .ref ce)] := hl
  refine lv_aload_n hx hb d_Rsa_verifies_0 rfl (lv_at hl 2 rfl) ?_
  refine va_get (v := .ref q1) hx hb htb i_Certificate hown hK (mf_keep hF0 hFA0 hS) 1 rfl rfl 5 (by decide) (htb _ q2_154) (fun _ h9 => h9) rfl d_Rsa_verifies_1 ?_
  refine vp_callSi (pu_callV (As := []) (rest := []) ⟨hx, hb, hml, hown, hts⟩ tbin (c_Slice_length l dC dI sb q1 tx1 a1 b1 hab1) q5_184 q3_144 q3_145 q1_22 q3_146 (n := 0) (by decide +kernel) rfl ⟨rfl, rfl⟩ ⟨Nat.le_of_ble_eq_true rfl, Nat.le_of_ble_eq_true rfl⟩ ⟨Nat.le_of_ble_eq_true rfl, Nat.le_of_ble_eq_true rfl⟩ hN (hT0.keep hS hAs) hK (mf_keep hF0 hFA0 hS) [2] rfl [] rfl 2 0 rfl rfl rfl hl.1 rfl (Nat.le_of_ble_eq_true rfl) d_Rsa_verifies_4) (fun r4 hr4 => ?_)
  rw [show (r4 : Int32) = nI (b1 - a1) from hr4]
  refine lv_istore_n (lv' := [(3, .int (nI (b1 - a1))), (0, .ref q0), (1, .ref pp), (2, .ref ce)]) hx hb d_Rsa_verifies_7 rfl hl (by decide) rfl (fun ls hl => ?_)
  refine lv_aload_n hx hb d_Rsa_verifies_8 rfl (lv_at hl 2 rfl) ?_
  refine va_get (v := .ref q2) hx hb htb i_Certificate hown hK (mf_keep hF0 hFA0 hS) 0 rfl rfl 23 (by decide) (htb _ q2_209) (fun _ h9 => h9) rfl d_Rsa_verifies_9 ?_
  refine vp_callSi (pu_callV (As := []) (rest := []) ⟨hx, hb, hml, hown, hts⟩ tbin (c_Slice_length l dC dI sb q2 tx2 a2 b2 hab2) q5_184 q3_144 q3_145 q1_22 q3_146 (n := 0) (by decide +kernel) rfl ⟨rfl, rfl⟩ ⟨Nat.le_of_ble_eq_true rfl, Nat.le_of_ble_eq_true rfl⟩ ⟨Nat.le_of_ble_eq_true rfl, Nat.le_of_ble_eq_true rfl⟩ hN (hT0.keep hS hAs) hK (mf_keep hF0 hFA0 hS) [4] rfl [] rfl 4 0 rfl rfl rfl hl.1 rfl (Nat.le_of_ble_eq_true rfl) d_Rsa_verifies_12) (fun r12 hr12 => ?_)
  rw [show (r12 : Int32) = nI (b2 - a2) from hr12]
  refine lv_iload_n hx hb d_Rsa_verifies_15 rfl (lv_at hl 0 rfl) ?_
  refine lv_icmp_ne (tgt := 30) hx hb d_Rsa_verifies_16 (by decide) (fun c16 => ?_) (fun c16 => ?_)
  · have p16 : ¬ ((b2 - a2) = (b1 - a1)) := (fun q9 => c16 ((nI_eq (a := (b2 - a2)) (b := (b1 - a1)) (by omega) (by omega)).mpr q9))
    refine lv_iconst (v := 0) hx hb d_Rsa_verifies_30 (by decide) ?_
    exact W.zret (v := 0) hx hb hr (by decide) (fun t ht hW => ⟨⟨_, (L0, iv, md, sqd, bd, pd, sd), rfl, ⟨bz_f (fun q9 => p16 q9.1), hL64, hmd0, hsqd, hbd, hpd, hsd⟩, by rw [ht]; exact hP, va_K.moved hW.alike hK, hD⟩, hS.F ht⟩) hS.2.2 d_Rsa_verifies_31
  · have p16 : (b2 - a2) = (b1 - a1) := ((nI_eq (a := (b2 - a2)) (b := (b1 - a1)) (by omega) (by omega)).mp c16)
    refine lv_iload_n hx hb d_Rsa_verifies_19 rfl (lv_at hl 0 rfl) ?_
    refine lv_sipush (v := 256) hx hb d_Rsa_verifies_20 (by decide) ?_
    refine lv_icmp_gt (tgt := 30) hx hb d_Rsa_verifies_23 (by decide) (fun c23 => ?_) (fun c23 => ?_)
    · exact absurd ((nI_ltI (a := 256) (b := b1 - a1) (by omega) (by omega)).mp c23) (by omega)
    refine lv_iload_n hx hb d_Rsa_verifies_26 rfl (lv_at hl 0 rfl) ?_
    refine lv_if_ne (tgt := 32) hx hb d_Rsa_verifies_27 (by decide) (fun c27 => ?_) (fun c27 => ?_)
    rotate_left
    · exact absurd ((nI_eq (a := b1 - a1) (b := 0) (by omega) (by omega)).mp c27) (by omega)
    refine lv_aload_n hx hb d_Rsa_verifies_32 rfl (lv_at hl 1 rfl) ?_
    refine lv_iload_n hx hb d_Rsa_verifies_33 rfl (lv_at hl 0 rfl) ?_
    refine lv_iconst (v := 3) hx hb d_Rsa_verifies_34 (by decide) ?_
    refine lv_iadd hx hb d_Rsa_verifies_35 ?_
    rw [show ((nI (b1 - a1)) + 3 : Int32) = nI ((b1 - a1) + 3) from nI_add (b1 - a1) 3]
    refine lv_iconst (v := 4) hx hb d_Rsa_verifies_36 (by decide) ?_
    refine lv_idiv hx hb d_Rsa_verifies_37 (by decide) ?_
    rw [show ((nI ((b1 - a1) + 3)) / 4 : Int32) = nI (((b1 - a1) + 3) / 4) from nI_idiv (a := ((b1 - a1) + 3)) (b := 4) (by omega) (by omega) (by omega)]
    obtain ⟨L, hL⟩ : ∃ L : Nat, L = ((b1 - a1) + 3) / 4 := ⟨_, rfl⟩
    rw [show (nI (((b1 - a1) + 3) / 4) : Int32) = nI L from congrArg nI hL.symm]
    have hL1 : 1 ≤ L := by omega
    have hL2 : L ≤ 64 := by omega
    have hcL : (b1 - a1) ≤ 4 * L := by omega
    have hmdl := fun j => ldL_lt hom8 (b1 - a1) j
    have hsdl := fun j => ldL_lt hos8 (b2 - a2) j
    have hNv : (vB 4294967296 (ldL om (b1 - a1)) L) = (vB 256 om (b1 - a1)) := ldL_val om _ L hcL
    have hXv : (vB 4294967296 (ldL os (b2 - a2)) L) = (vB 256 os (b2 - a2)) := ldL_val os _ L (by omega)
    have hbz2 : bt ≤ 32 * L := by omega
    have hbzN : 2 ^ (bt - 1) < (vB 4294967296 (ldL om (b1 - a1)) L) := by rw [hNv]; exact hbzM
    have hNo : (vB 4294967296 (ldL om (b1 - a1)) L) % 2 = 1 := by rw [hNv]; exact hNodd
    have hodd : (ldL om (b1 - a1)) 0 % 2 = 1 := by rw [← vB_odd (L - 1), show L - 1 + 1 = L by omega]; exact hNo
    have hco := W_cop hNo L
    refine va_put (v := .int (nI L)) (ty := .int) hx hb htb i_Rsa t_Rsa t_Rsa_ok n_Rsa hown hK hP hD hS 0 rfl rfl 6 (by decide) (htb _ q1_91) (fun _ h9 => h9) rfl (by decide +kernel) rfl rfl (Nat.le_of_ble_eq_true rfl) d_Rsa_verifies_38 (fun H38 locs hP hD hS => ?_)
    have hP : va_P (dC, dI) classes [(q0, .inr (7, [.ref mo, .ref sq, .ref ba, .ref po, .ref un, .ref su, .int (nI L), .long iv])), (mo, .inl (cJ, 64, .inr (.inl (lR md)))), (sq, .inl (cJ, 64, .inr (.inl (lR sqd)))), (ba, .inl (cJ, 64, .inr (.inl (lR bd)))), (po, .inl (cJ, 64, .inr (.inl (lR pd)))), (un, .inl (cJ, 64, .inr (.inl (lR ud)))), (su, .inl (cJ, 66, .inr (.inl (lR sd))))] H38 := hP
    have hD : va_D A [(q0, .inr (7, [.ref mo, .ref sq, .ref ba, .ref po, .ref un, .ref su, .int (nI L), .long iv])), (mo, .inl (cJ, 64, .inr (.inl (lR md)))), (sq, .inl (cJ, 64, .inr (.inl (lR sqd)))), (ba, .inl (cJ, 64, .inr (.inl (lR bd)))), (po, .inl (cJ, 64, .inr (.inl (lR pd)))), (un, .inl (cJ, 64, .inr (.inl (lR ud)))), (su, .inl (cJ, 66, .inr (.inl (lR sd))))] := hD
    refine lv_aload_n hx hb d_Rsa_verifies_41 rfl (lv_at hl 1 rfl) ?_
    refine lv_aload_n hx hb d_Rsa_verifies_42 rfl (lv_at hl 3 rfl) ?_
    refine va_get (v := .ref q1) hx hb htb i_Certificate hown hK (mf_keep hF0 hFA0 hS) 1 rfl rfl 5 (by decide) (htb _ q2_154) (fun _ h9 => h9) rfl d_Rsa_verifies_43 ?_
    refine lv_aload_n hx hb d_Rsa_verifies_46 rfl (lv_at hl 1 rfl) ?_
    refine va_get (v := .ref mo) hx hb htb i_Rsa hown hK hP 0 rfl rfl 0 (by decide) (htb _ q1_85) (fun _ h9 => h9) rfl d_Rsa_verifies_47 ?_
    have hFc := va_free (wc := [(mo, .inl (cJ, 64, .inr (.inl (lR md))))]) hD hS hA [1] rfl
    refine va_callv (mf_runV (As := [.ref q1, .ref mo]) (rest := []) ⟨hx, hb, hml, hown, hts⟩ tbin (x_Rsa_load l dC dI sb q0 q1 mo tx1 a1 b1 n1 cJ cB u1 om md H38.size hab1 hbn1 hn1 hc256 hu1 hom hom8) ((mf_keep hF0 hFA0 hS).sub [2, 3] rfl) (mf_fr [2, 3] rfl hFA0 hFc) q5_185 q5_187 qp_21 q1_6 q5_188 (n := 2) (by decide +kernel) rfl ⟨rfl, rfl⟩ ⟨Nat.le_of_ble_eq_true rfl, Nat.le_of_ble_eq_true rfl⟩ ⟨Nat.le_of_ble_eq_true rfl, Nat.le_of_ble_eq_true rfl⟩ hN (hT0.keep hS hAs) hAs (Nat.le_trans hB0 hS.1) hK hP hD [1] (by decide) rfl [0, 1] rfl 0 7 rfl rfl rfl hl.1 rfl (Nat.le_of_ble_eq_true rfl) d_Rsa_verifies_50) hS (fun q _ h => hFc q h) hFc (fun u50 tS H50 locs ht hvm hw50 hB hz1 hk1 hS => ?_)
    obtain ⟨_, rfl⟩ : ∃ z, z = u50 := ⟨_, rfl⟩
    obtain ⟨hP1, hK1, hD1⟩ := hB
    rw [ht] at hP1
    obtain ⟨hP, hD⟩ := va_join (wr := [(q0, .inr (7, [.ref mo, .ref sq, .ref ba, .ref po, .ref un, .ref su, .int (nI L), .long iv])), (sq, .inl (cJ, 64, .inr (.inl (lR sqd)))), (ba, .inl (cJ, 64, .inr (.inl (lR bd)))), (po, .inl (cJ, 64, .inr (.inl (lR pd)))), (un, .inl (cJ, 64, .inr (.inl (lR ud)))), (su, .inl (cJ, 66, .inr (.inl (lR sd))))]) (w1 := [(mo, .inl (cJ, 64, .inr (.inl (lR (ldL om (b1 - a1))))))]) hP hD [1] [0, 2, 3, 4, 5, 6] rfl rfl (by decide) (by decide) hk1 hFc hP1 hD1
    have hP : va_P (dC, dI) classes [(q0, .inr (7, [.ref mo, .ref sq, .ref ba, .ref po, .ref un, .ref su, .int (nI L), .long iv])), (sq, .inl (cJ, 64, .inr (.inl (lR sqd)))), (ba, .inl (cJ, 64, .inr (.inl (lR bd)))), (po, .inl (cJ, 64, .inr (.inl (lR pd)))), (un, .inl (cJ, 64, .inr (.inl (lR ud)))), (su, .inl (cJ, 66, .inr (.inl (lR sd)))), (mo, .inl (cJ, 64, .inr (.inl (lR (ldL om (b1 - a1))))))] H50 := hP
    have hD : va_D A [(q0, .inr (7, [.ref mo, .ref sq, .ref ba, .ref po, .ref un, .ref su, .int (nI L), .long iv])), (sq, .inl (cJ, 64, .inr (.inl (lR sqd)))), (ba, .inl (cJ, 64, .inr (.inl (lR bd)))), (po, .inl (cJ, 64, .inr (.inl (lR pd)))), (un, .inl (cJ, 64, .inr (.inl (lR ud)))), (su, .inl (cJ, 66, .inr (.inl (lR sd)))), (mo, .inl (cJ, 64, .inr (.inl (lR (ldL om (b1 - a1))))))] := hD
    refine lv_aload_n hx hb d_Rsa_verifies_53 rfl (lv_at hl 1 rfl) ?_
    refine lv_aload_n hx hb d_Rsa_verifies_54 rfl (lv_at hl 2 rfl) ?_
    refine va_get (v := .ref q2) hx hb htb i_Certificate hown hK (mf_keep hF0 hFA0 hS) 0 rfl rfl 23 (by decide) (htb _ q2_209) (fun _ h9 => h9) rfl d_Rsa_verifies_55 ?_
    refine lv_aload_n hx hb d_Rsa_verifies_58 rfl (lv_at hl 1 rfl) ?_
    refine va_get (v := .ref ba) hx hb htb i_Rsa hown hK hP 0 rfl rfl 2 (by decide) (htb _ q1_87) (fun _ h9 => h9) rfl d_Rsa_verifies_59 ?_
    have hFc := va_free (wc := [(ba, .inl (cJ, 64, .inr (.inl (lR bd))))]) hD hS hA [2] rfl
    refine va_callv (mf_runV (As := [.ref q2, .ref ba]) (rest := []) ⟨hx, hb, hml, hown, hts⟩ tbin (x_Rsa_load l dC dI sb q0 q2 ba tx2 a2 b2 n2 cJ cB u2 os bd H50.size hab2 hbn2 hn2 (by omega) hu2 hos hos8) ((mf_keep hF0 hFA0 hS).sub [4, 5] rfl) (mf_fr [4, 5] rfl hFA0 hFc) q5_185 q5_187 qp_21 q1_6 q5_188 (n := 2) (by decide +kernel) rfl ⟨rfl, rfl⟩ ⟨Nat.le_of_ble_eq_true rfl, Nat.le_of_ble_eq_true rfl⟩ ⟨Nat.le_of_ble_eq_true rfl, Nat.le_of_ble_eq_true rfl⟩ hN (hT0.keep hS hAs) hAs (Nat.le_trans hB0 hS.1) hK hP hD [2] (by decide) rfl [0, 1] rfl 0 7 rfl rfl rfl hl.1 rfl (Nat.le_of_ble_eq_true rfl) d_Rsa_verifies_62) hS (fun q _ h => hFc q h) hFc (fun u62 tS H62 locs ht hvm hw62 hB hz1 hk1 hS => ?_)
    obtain ⟨_, rfl⟩ : ∃ z, z = u62 := ⟨_, rfl⟩
    obtain ⟨hP1, hK1, hD1⟩ := hB
    rw [ht] at hP1
    obtain ⟨hP, hD⟩ := va_join (wr := [(q0, .inr (7, [.ref mo, .ref sq, .ref ba, .ref po, .ref un, .ref su, .int (nI L), .long iv])), (sq, .inl (cJ, 64, .inr (.inl (lR sqd)))), (po, .inl (cJ, 64, .inr (.inl (lR pd)))), (un, .inl (cJ, 64, .inr (.inl (lR ud)))), (su, .inl (cJ, 66, .inr (.inl (lR sd)))), (mo, .inl (cJ, 64, .inr (.inl (lR (ldL om (b1 - a1))))))]) (w1 := [(ba, .inl (cJ, 64, .inr (.inl (lR (ldL os (b2 - a2))))))]) hP hD [2] [0, 1, 3, 4, 5, 6] rfl rfl (by decide) (by decide) hk1 hFc hP1 hD1
    have hP : va_P (dC, dI) classes [(q0, .inr (7, [.ref mo, .ref sq, .ref ba, .ref po, .ref un, .ref su, .int (nI L), .long iv])), (sq, .inl (cJ, 64, .inr (.inl (lR sqd)))), (po, .inl (cJ, 64, .inr (.inl (lR pd)))), (un, .inl (cJ, 64, .inr (.inl (lR ud)))), (su, .inl (cJ, 66, .inr (.inl (lR sd)))), (mo, .inl (cJ, 64, .inr (.inl (lR (ldL om (b1 - a1)))))), (ba, .inl (cJ, 64, .inr (.inl (lR (ldL os (b2 - a2))))))] H62 := hP
    have hD : va_D A [(q0, .inr (7, [.ref mo, .ref sq, .ref ba, .ref po, .ref un, .ref su, .int (nI L), .long iv])), (sq, .inl (cJ, 64, .inr (.inl (lR sqd)))), (po, .inl (cJ, 64, .inr (.inl (lR pd)))), (un, .inl (cJ, 64, .inr (.inl (lR ud)))), (su, .inl (cJ, 66, .inr (.inl (lR sd)))), (mo, .inl (cJ, 64, .inr (.inl (lR (ldL om (b1 - a1)))))), (ba, .inl (cJ, 64, .inr (.inl (lR (ldL os (b2 - a2))))))] := hD
    refine lv_aload_n hx hb d_Rsa_verifies_65 rfl (lv_at hl 1 rfl) ?_
    refine lv_aload_n hx hb d_Rsa_verifies_66 rfl (lv_at hl 1 rfl) ?_
    refine va_get (v := .ref ba) hx hb htb i_Rsa hown hK hP 0 rfl rfl 2 (by decide) (htb _ q1_87) (fun _ h9 => h9) rfl d_Rsa_verifies_67 ?_
    refine vp_callSi (pu_callV (As := [.ref ba]) (rest := []) ⟨hx, hb, hml, hown, hts⟩ tbin (x_Rsa_below l dC dI sb q0 mo sq ba po un su L iv cJ ba (ldL om (b1 - a1)) (ldL os (b2 - a2)) hL1 hL2 (ldL_lt hom8 _) (ldL_lt hos8 _)) q5_193 q5_195 qp_22 q1_6 q5_196 (n := 1) (by decide +kernel) rfl ⟨rfl, rfl⟩ ⟨Nat.le_of_ble_eq_true rfl, Nat.le_of_ble_eq_true rfl⟩ ⟨Nat.le_of_ble_eq_true rfl, Nat.le_of_ble_eq_true rfl⟩ hN (hT0.keep hS hAs) hK hP [0, 5, 6] rfl [0] rfl 0 7 rfl rfl rfl hl.1 rfl (Nat.le_of_ble_eq_true rfl) d_Rsa_verifies_70) (fun r70 hr70 => ?_)
    refine lv_if_ne (tgt := 78) hx hb d_Rsa_verifies_73 (by decide) (fun c73 => ?_) (fun c73 => ?_)
    · have p73 : ¬ (r70 = (0 : Int32)) := c73
      have hX9 : (vB 4294967296 (ldL os (b2 - a2)) L) < (vB 4294967296 (ldL om (b1 - a1)) L) := bz_1 hr70 p73
      refine lv_aload_n hx hb d_Rsa_verifies_78 rfl (lv_at hl 1 rfl) ?_
      refine lv_aload_n hx hb d_Rsa_verifies_79 rfl (lv_at hl 3 rfl) ?_
      refine va_get (v := .int (nI bt)) hx hb htb i_Certificate hown hK (mf_keep hF0 hFA0 hS) 1 rfl rfl 9 (by decide) (htb _ q2_164) (fun _ h9 => h9) rfl d_Rsa_verifies_80 ?_
      have hFc := va_free (wc := [(q0, .inr (7, [.ref mo, .ref sq, .ref ba, .ref po, .ref un, .ref su, .int (nI L), .long iv])), (mo, .inl (cJ, 64, .inr (.inl (lR (ldL om (b1 - a1)))))), (sq, .inl (cJ, 64, .inr (.inl (lR sqd)))), (su, .inl (cJ, 66, .inr (.inl (lR sd))))]) hD hS hA [0, 5, 1, 4] rfl
      refine va_callv (mu_runV (As := [.int (nI bt)]) (rest := []) ⟨hx, hb, hml, hown, hts⟩ tbin (x_Rsa_prepare l dC dI sb q0 mo sq ba po un su L iv cJ bt (ldL om (b1 - a1)) sd sqd H62.size hL1 hL2 hmdl hsd hsqd hodd hbz1 hbz2 hbzN) q5_197 q5_199 qp_23 q1_6 q5_200 (n := 1) (by decide +kernel) rfl ⟨rfl, rfl⟩ ⟨Nat.le_of_ble_eq_true rfl, Nat.le_of_ble_eq_true rfl⟩ ⟨Nat.le_of_ble_eq_true rfl, Nat.le_of_ble_eq_true rfl⟩ hN (hT0.keep hS hAs) hAs (Nat.le_trans hB0 hS.1) hK hP hD [0, 5, 1, 4] (by decide) rfl [0] rfl 0 7 rfl rfl rfl hl.1 rfl (Nat.le_of_ble_eq_true rfl) d_Rsa_verifies_83) hS (fun q _ h => hFc q h) hFc (fun u83 tS H83 locs ht hvm hw83 hB hz1 hk1 hS => ?_)
      obtain ⟨iv83, q83, s83⟩ := u83
      obtain ⟨hP1, hK1, hD1⟩ := hB
      rw [ht] at hP1
      obtain ⟨hP, hD⟩ := va_join (wr := [(po, .inl (cJ, 64, .inr (.inl (lR pd)))), (un, .inl (cJ, 64, .inr (.inl (lR ud)))), (ba, .inl (cJ, 64, .inr (.inl (lR (ldL os (b2 - a2))))))]) (w1 := [(q0, .inr (7, [.ref mo, .ref sq, .ref ba, .ref po, .ref un, .ref su, .int (nI L), .long (lN iv83)])), (mo, .inl (cJ, 64, .inr (.inl (lR (ldL om (b1 - a1)))))), (sq, .inl (cJ, 64, .inr (.inl (lR q83)))), (su, .inl (cJ, 66, .inr (.inl (lR s83))))]) hP hD [0, 5, 1, 4] [2, 3, 6] rfl rfl (by decide) (by decide) hk1 hFc hP1 hD1
      have hP : va_P (dC, dI) classes [(po, .inl (cJ, 64, .inr (.inl (lR pd)))), (un, .inl (cJ, 64, .inr (.inl (lR ud)))), (ba, .inl (cJ, 64, .inr (.inl (lR (ldL os (b2 - a2)))))), (q0, .inr (7, [.ref mo, .ref sq, .ref ba, .ref po, .ref un, .ref su, .int (nI L), .long (lN iv83)])), (mo, .inl (cJ, 64, .inr (.inl (lR (ldL om (b1 - a1)))))), (sq, .inl (cJ, 64, .inr (.inl (lR q83)))), (su, .inl (cJ, 66, .inr (.inl (lR s83))))] H83 := hP
      have hD : va_D A [(po, .inl (cJ, 64, .inr (.inl (lR pd)))), (un, .inl (cJ, 64, .inr (.inl (lR ud)))), (ba, .inl (cJ, 64, .inr (.inl (lR (ldL os (b2 - a2)))))), (q0, .inr (7, [.ref mo, .ref sq, .ref ba, .ref po, .ref un, .ref su, .int (nI L), .long (lN iv83)])), (mo, .inl (cJ, 64, .inr (.inl (lR (ldL om (b1 - a1)))))), (sq, .inl (cJ, 64, .inr (.inl (lR q83)))), (su, .inl (cJ, 66, .inr (.inl (lR s83))))] := hD
      obtain ⟨hiv1, hiv2, hq83, hs83, hql, hqe⟩ := hw83
      refine lv_iconst (v := 0) hx hb d_Rsa_verifies_86 (by decide) ?_
      refine lv_istore (lv' := [(4, .int 0), (3, .int (nI (b1 - a1))), (0, .ref q0), (1, .ref pp), (2, .ref ce)]) hx hb d_Rsa_verifies_87 hl (by decide) rfl (fun ls hl => ?_)
      refine w_loopW (α := Nat × (Nat → Nat) × (Nat → Nat)) (fun z => z.1 ≤ 5 ∧ (∀ j, z.2.1 j < 4294967296) ∧ (∀ j, z.2.2 j < 4294967296) ∧ (vB 4294967296 z.2.1 L) < (vB 4294967296 (ldL om (b1 - a1)) L) ∧ mgF (vB 4294967296 (ldL om (b1 - a1)) L) (4294967296 ^ L) (vB 4294967296 z.2.1 L) (2 ^ (L * 2 ^ z.1))) (fun z => 5 - z.1) (fun z => [(0, .ref q0), (1, .ref pp), (2, .ref ce), (3, .int (nI (b1 - a1))), (4, .int (nI z.1))]) (fun _ => []) (fun z => [(q0, .inr (7, [.ref mo, .ref sq, .ref ba, .ref po, .ref un, .ref su, .int (nI L), .long (lN iv83)])), (mo, .inl (cJ, 64, .inr (.inl (lR (ldL om (b1 - a1)))))), (sq, .inl (cJ, 64, .inr (.inl (lR z.2.1)))), (ba, .inl (cJ, 64, .inr (.inl (lR (ldL os (b2 - a2)))))), (po, .inl (cJ, 64, .inr (.inl (lR pd)))), (un, .inl (cJ, 64, .inr (.inl (lR ud)))), (su, .inl (cJ, 66, .inr (.inl (lR z.2.2))))]) 6 89 (fun z HL89 locs ls hJ hP hD hS hl ih => ?_) (0, q83, s83) _ _ ls (⟨Nat.zero_le _, hq83, hs83, hql, mg_sq0 hql hqe⟩) (hP.sub [3, 4, 5, 2, 0, 1, 6] rfl) (hD.sub [3, 4, 5, 2, 0, 1, 6] (by decide) rfl) hS (lv_sub hl [2, 3, 4, 1, 0] rfl)
      have hP : va_P (dC, dI) classes [(q0, .inr (7, [.ref mo, .ref sq, .ref ba, .ref po, .ref un, .ref su, .int (nI L), .long (lN iv83)])), (mo, .inl (cJ, 64, .inr (.inl (lR (ldL om (b1 - a1)))))), (sq, .inl (cJ, 64, .inr (.inl (lR z.2.1)))), (ba, .inl (cJ, 64, .inr (.inl (lR (ldL os (b2 - a2)))))), (po, .inl (cJ, 64, .inr (.inl (lR pd)))), (un, .inl (cJ, 64, .inr (.inl (lR ud)))), (su, .inl (cJ, 66, .inr (.inl (lR z.2.2))))] HL89 := hP
      have hD : va_D A [(q0, .inr (7, [.ref mo, .ref sq, .ref ba, .ref po, .ref un, .ref su, .int (nI L), .long (lN iv83)])), (mo, .inl (cJ, 64, .inr (.inl (lR (ldL om (b1 - a1)))))), (sq, .inl (cJ, 64, .inr (.inl (lR z.2.1)))), (ba, .inl (cJ, 64, .inr (.inl (lR (ldL os (b2 - a2)))))), (po, .inl (cJ, 64, .inr (.inl (lR pd)))), (un, .inl (cJ, 64, .inr (.inl (lR ud)))), (su, .inl (cJ, 66, .inr (.inl (lR z.2.2))))] := hD
      refine lv_iload hx hb d_Rsa_verifies_89 (lv_at hl 4 rfl) ?_
      refine lv_iconst (v := 5) hx hb d_Rsa_verifies_91 (by decide) ?_
      refine lv_icmp_ge (tgt := 117) hx hb d_Rsa_verifies_92 (by decide) (fun c92 => ?_) (fun c92 => ?_)
      · have p92 : 5 ≤ z.1 := ((nI_leI (a := 5) (b := z.1) (by omega) (by omega)).mp c92)
        have hs5 := mg_sq5 (by have h9 := hJ.2.2.2.2; rw [show z.1 = 5 by omega] at h9; exact h9)
        refine lv_aload_n hx hb d_Rsa_verifies_117 rfl (lv_at hl 0 rfl) ?_
        refine lv_aload_n hx hb d_Rsa_verifies_118 rfl (lv_at hl 0 rfl) ?_
        refine va_get (v := .ref ba) hx hb htb i_Rsa hown hK hP 0 rfl rfl 2 (by decide) (htb _ q1_87) (fun _ h9 => h9) rfl d_Rsa_verifies_119 ?_
        refine lv_aload_n hx hb d_Rsa_verifies_122 rfl (lv_at hl 0 rfl) ?_
        refine va_get (v := .ref sq) hx hb htb i_Rsa hown hK hP 0 rfl rfl 1 (by decide) (htb _ q1_86) (fun _ h9 => h9) rfl d_Rsa_verifies_123 ?_
        refine lv_aload_n hx hb d_Rsa_verifies_126 rfl (lv_at hl 0 rfl) ?_
        refine va_get (v := .ref ba) hx hb htb i_Rsa hown hK hP 0 rfl rfl 2 (by decide) (htb _ q1_87) (fun _ h9 => h9) rfl d_Rsa_verifies_127 ?_
        have hFc := va_free (wc := [(q0, .inr (7, [.ref mo, .ref sq, .ref ba, .ref po, .ref un, .ref su, .int (nI L), .long (lN iv83)])), (mo, .inl (cJ, 64, .inr (.inl (lR (ldL om (b1 - a1)))))), (su, .inl (cJ, 66, .inr (.inl (lR z.2.2)))), (ba, .inl (cJ, 64, .inr (.inl (lR (ldL os (b2 - a2)))))), (sq, .inl (cJ, 64, .inr (.inl (lR z.2.1))))]) hD hS hA [0, 1, 6, 3, 2] rfl
        refine va_callv (mu_runV (As := [.ref ba, .ref sq, .ref ba]) (rest := []) ⟨hx, hb, hml, hown, hts⟩ tbin (x_Rsa_mul2 l dC dI sb q0 mo sq ba po un su L iv83 cJ ba sq (ldL om (b1 - a1)) z.2.2 (ldL os (b2 - a2)) z.2.1 HL89.size hL1 hL2 hmdl hJ.2.2.1 hsdl hJ.2.1 hiv1 hiv2 hX9) q5_209 q5_211 qp_25 q1_6 q5_212 (n := 3) (by decide +kernel) rfl ⟨rfl, rfl⟩ ⟨Nat.le_of_ble_eq_true rfl, Nat.le_of_ble_eq_true rfl⟩ ⟨Nat.le_of_ble_eq_true rfl, Nat.le_of_ble_eq_true rfl⟩ hN (hT0.keep hS hAs) hAs (Nat.le_trans hB0 hS.1) hK hP hD [0, 1, 6, 3, 2] (by decide) rfl [0] rfl 0 7 rfl rfl rfl hl.1 rfl (Nat.le_of_ble_eq_true rfl) d_Rsa_verifies_130) hS (fun q _ h => hFc q h) hFc (fun u130 tS H130 locs ht hvm hw130 hB hz1 hk1 hS => ?_)
        obtain ⟨r130, s130⟩ := u130
        obtain ⟨hP1, hK1, hD1⟩ := hB
        rw [ht] at hP1
        obtain ⟨hP, hD⟩ := va_join (wr := [(po, .inl (cJ, 64, .inr (.inl (lR pd)))), (un, .inl (cJ, 64, .inr (.inl (lR ud))))]) (w1 := [(q0, .inr (7, [.ref mo, .ref sq, .ref ba, .ref po, .ref un, .ref su, .int (nI L), .long (lN iv83)])), (mo, .inl (cJ, 64, .inr (.inl (lR (ldL om (b1 - a1)))))), (su, .inl (cJ, 66, .inr (.inl (lR s130)))), (ba, .inl (cJ, 64, .inr (.inl (lR r130)))), (sq, .inl (cJ, 64, .inr (.inl (lR z.2.1))))]) hP hD [0, 1, 6, 3, 2] [4, 5] rfl rfl (by decide) (by decide) hk1 hFc hP1 hD1
        have hP : va_P (dC, dI) classes [(po, .inl (cJ, 64, .inr (.inl (lR pd)))), (un, .inl (cJ, 64, .inr (.inl (lR ud)))), (q0, .inr (7, [.ref mo, .ref sq, .ref ba, .ref po, .ref un, .ref su, .int (nI L), .long (lN iv83)])), (mo, .inl (cJ, 64, .inr (.inl (lR (ldL om (b1 - a1)))))), (su, .inl (cJ, 66, .inr (.inl (lR s130)))), (ba, .inl (cJ, 64, .inr (.inl (lR r130)))), (sq, .inl (cJ, 64, .inr (.inl (lR z.2.1))))] H130 := hP
        have hD : va_D A [(po, .inl (cJ, 64, .inr (.inl (lR pd)))), (un, .inl (cJ, 64, .inr (.inl (lR ud)))), (q0, .inr (7, [.ref mo, .ref sq, .ref ba, .ref po, .ref un, .ref su, .int (nI L), .long (lN iv83)])), (mo, .inl (cJ, 64, .inr (.inl (lR (ldL om (b1 - a1)))))), (su, .inl (cJ, 66, .inr (.inl (lR s130)))), (ba, .inl (cJ, 64, .inr (.inl (lR r130)))), (sq, .inl (cJ, 64, .inr (.inl (lR z.2.1))))] := hD
        have hbm : mgF (vB 4294967296 (ldL om (b1 - a1)) L) (4294967296 ^ L) (vB 4294967296 r130 L) (vB 4294967296 (ldL os (b2 - a2)) L) := mg_in hco hw130.2.2.1 hw130.2.2.2.1 hs5
        refine lv_iconst (v := 0) hx hb d_Rsa_verifies_133 (by decide) ?_
        refine lv_istore (lv' := [(4, .int 0), (0, .ref q0), (1, .ref pp), (2, .ref ce), (3, .int (nI (b1 - a1)))]) hx hb d_Rsa_verifies_134 hl (by decide) rfl (fun ls hl => ?_)
        refine lv_bipush (v := 30) hx hb d_Rsa_verifies_136 (by decide) ?_
        refine lv_istore (lv' := [(5, .int 30), (4, .int 0), (0, .ref q0), (1, .ref pp), (2, .ref ce), (3, .int (nI (b1 - a1)))]) hx hb d_Rsa_verifies_138 hl (by decide) rfl (fun ls hl => ?_)
        refine w_loopW (α := Nat × Nat × (Nat → Nat) × (Nat → Nat)) (fun k => k.1 ≤ 31 ∧ k.2.1 ≤ 1 ∧ (∀ j, k.2.2.1 j < 4294967296) ∧ (∀ j, k.2.2.2 j < 4294967296) ∧ pwS (vB 4294967296 (ldL om (b1 - a1)) L) (4294967296 ^ L) (vB 4294967296 (ldL os (b2 - a2)) L) (ex / 2 ^ k.1) k.2.1 (vB 4294967296 k.2.2.1 L)) (fun k => k.1) (fun k => [(0, .ref q0), (1, .ref pp), (2, .ref ce), (3, .int (nI (b1 - a1))), (4, .int (nI k.2.1)), (5, .int (jD k.1))]) (fun _ => []) (fun k => [(q0, .inr (7, [.ref mo, .ref sq, .ref ba, .ref po, .ref un, .ref su, .int (nI L), .long (lN iv83)])), (mo, .inl (cJ, 64, .inr (.inl (lR (ldL om (b1 - a1)))))), (sq, .inl (cJ, 64, .inr (.inl (lR z.2.1)))), (ba, .inl (cJ, 64, .inr (.inl (lR r130)))), (po, .inl (cJ, 64, .inr (.inl (lR k.2.2.1)))), (un, .inl (cJ, 64, .inr (.inl (lR ud)))), (su, .inl (cJ, 66, .inr (.inl (lR k.2.2.2))))]) 6 140 (fun k HL140 locs ls hJ140 hP hD hS hl ih140 => ?_) (31, 0, pd, s130) _ _ ls (⟨Nat.le_refl _, Nat.zero_le _, hpd, hw130.2.2.2.2, Or.inl ⟨rfl, Nat.div_eq_of_lt hex2⟩⟩) (hP.sub [2, 3, 6, 5, 0, 1, 4] rfl) (hD.sub [2, 3, 6, 5, 0, 1, 4] (by decide) rfl) hS (lv_sub hl [2, 3, 4, 5, 1, 0] rfl)
        obtain ⟨_ | j, bg, p9, s9⟩ := k
        · have hJ140 : 0 ≤ 31 ∧ bg ≤ 1 ∧ (∀ j, p9 j < 4294967296) ∧ (∀ j, s9 j < 4294967296) ∧ pwS (vB 4294967296 (ldL om (b1 - a1)) L) (4294967296 ^ L) (vB 4294967296 (ldL os (b2 - a2)) L) (ex / 2 ^ 0) bg (vB 4294967296 p9 L) := hJ140
          obtain ⟨hj9, hbg, hp9, hs9, hpw⟩ := hJ140
          have hl : lv_has ls 6 [(0, .ref q0), (1, .ref pp), (2, .ref ce), (3, .int (nI (b1 - a1))), (4, .int (nI bg)), (5, .int (-1))] := hl
          have hP : va_P (dC, dI) classes [(q0, .inr (7, [.ref mo, .ref sq, .ref ba, .ref po, .ref un, .ref su, .int (nI L), .long (lN iv83)])), (mo, .inl (cJ, 64, .inr (.inl (lR (ldL om (b1 - a1)))))), (sq, .inl (cJ, 64, .inr (.inl (lR z.2.1)))), (ba, .inl (cJ, 64, .inr (.inl (lR r130)))), (po, .inl (cJ, 64, .inr (.inl (lR p9)))), (un, .inl (cJ, 64, .inr (.inl (lR ud)))), (su, .inl (cJ, 66, .inr (.inl (lR s9))))] HL140 := hP
          have hD : va_D A [(q0, .inr (7, [.ref mo, .ref sq, .ref ba, .ref po, .ref un, .ref su, .int (nI L), .long (lN iv83)])), (mo, .inl (cJ, 64, .inr (.inl (lR (ldL om (b1 - a1)))))), (sq, .inl (cJ, 64, .inr (.inl (lR z.2.1)))), (ba, .inl (cJ, 64, .inr (.inl (lR r130)))), (po, .inl (cJ, 64, .inr (.inl (lR p9)))), (un, .inl (cJ, 64, .inr (.inl (lR ud)))), (su, .inl (cJ, 66, .inr (.inl (lR s9))))] := hD
          refine lv_iload hx hb d_Rsa_verifies_140 (lv_at hl 5 rfl) ?_
          refine lv_if_lt (tgt := 229) hx hb d_Rsa_verifies_142 (by decide) (fun c142 => ?_) (fun c142 => ?_)
          rotate_left
          · exact absurd (by decide) c142
          have hbg1 : bg = 1 := by
            rcases hpw with ⟨-, q9⟩ | ⟨q9, -⟩
            · rw [Nat.pow_zero, Nat.div_one] at q9; omega
            · exact q9
          subst hbg1
          have hpl := pw_lt hpw
          refine lv_aload_n hx hb d_Rsa_verifies_229 rfl (lv_at hl 0 rfl) ?_
          refine lv_aload_n hx hb d_Rsa_verifies_230 rfl (lv_at hl 0 rfl) ?_
          refine va_get (v := .ref po) hx hb htb i_Rsa hown hK hP 0 rfl rfl 3 (by decide) (htb _ q1_88) (fun _ h9 => h9) rfl d_Rsa_verifies_231 ?_
          refine lv_aload_n hx hb d_Rsa_verifies_234 rfl (lv_at hl 0 rfl) ?_
          refine va_get (v := .ref un) hx hb htb i_Rsa hown hK hP 0 rfl rfl 4 (by decide) (htb _ q1_89) (fun _ h9 => h9) rfl d_Rsa_verifies_235 ?_
          refine lv_aload_n hx hb d_Rsa_verifies_238 rfl (lv_at hl 0 rfl) ?_
          refine va_get (v := .ref po) hx hb htb i_Rsa hown hK hP 0 rfl rfl 3 (by decide) (htb _ q1_88) (fun _ h9 => h9) rfl d_Rsa_verifies_239 ?_
          have hFc := va_free (wc := [(q0, .inr (7, [.ref mo, .ref sq, .ref ba, .ref po, .ref un, .ref su, .int (nI L), .long (lN iv83)])), (mo, .inl (cJ, 64, .inr (.inl (lR (ldL om (b1 - a1)))))), (su, .inl (cJ, 66, .inr (.inl (lR s9)))), (po, .inl (cJ, 64, .inr (.inl (lR p9)))), (un, .inl (cJ, 64, .inr (.inl (lR ud))))]) hD hS hA [0, 1, 6, 4, 5] rfl
          refine va_callv (mu_runV (As := [.ref po, .ref un, .ref po]) (rest := []) ⟨hx, hb, hml, hown, hts⟩ tbin (x_Rsa_mul2 l dC dI sb q0 mo sq ba po un su L iv83 cJ po un (ldL om (b1 - a1)) s9 p9 ud HL140.size hL1 hL2 hmdl hs9 hp9 hud hiv1 hiv2 hpl) q5_209 q5_211 qp_25 q1_6 q5_212 (n := 3) (by decide +kernel) rfl ⟨rfl, rfl⟩ ⟨Nat.le_of_ble_eq_true rfl, Nat.le_of_ble_eq_true rfl⟩ ⟨Nat.le_of_ble_eq_true rfl, Nat.le_of_ble_eq_true rfl⟩ hN (hT0.keep hS hAs) hAs (Nat.le_trans hB0 hS.1) hK hP hD [0, 1, 6, 4, 5] (by decide) rfl [0] rfl 0 7 rfl rfl rfl hl.1 rfl (Nat.le_of_ble_eq_true rfl) d_Rsa_verifies_242) hS (fun q _ h => hFc q h) hFc (fun u242 tS H242 locs ht hvm hw242 hB hz1 hk1 hS => ?_)
          obtain ⟨r242, s242⟩ := u242
          obtain ⟨hP1, hK1, hD1⟩ := hB
          rw [ht] at hP1
          obtain ⟨hP, hD⟩ := va_join (wr := [(sq, .inl (cJ, 64, .inr (.inl (lR z.2.1)))), (ba, .inl (cJ, 64, .inr (.inl (lR r130))))]) (w1 := [(q0, .inr (7, [.ref mo, .ref sq, .ref ba, .ref po, .ref un, .ref su, .int (nI L), .long (lN iv83)])), (mo, .inl (cJ, 64, .inr (.inl (lR (ldL om (b1 - a1)))))), (su, .inl (cJ, 66, .inr (.inl (lR s242)))), (po, .inl (cJ, 64, .inr (.inl (lR r242)))), (un, .inl (cJ, 64, .inr (.inl (lR ud))))]) hP hD [0, 1, 6, 4, 5] [2, 3] rfl rfl (by decide) (by decide) hk1 hFc hP1 hD1
          have hP : va_P (dC, dI) classes [(sq, .inl (cJ, 64, .inr (.inl (lR z.2.1)))), (ba, .inl (cJ, 64, .inr (.inl (lR r130)))), (q0, .inr (7, [.ref mo, .ref sq, .ref ba, .ref po, .ref un, .ref su, .int (nI L), .long (lN iv83)])), (mo, .inl (cJ, 64, .inr (.inl (lR (ldL om (b1 - a1)))))), (su, .inl (cJ, 66, .inr (.inl (lR s242)))), (po, .inl (cJ, 64, .inr (.inl (lR r242)))), (un, .inl (cJ, 64, .inr (.inl (lR ud))))] H242 := hP
          have hD : va_D A [(sq, .inl (cJ, 64, .inr (.inl (lR z.2.1)))), (ba, .inl (cJ, 64, .inr (.inl (lR r130)))), (q0, .inr (7, [.ref mo, .ref sq, .ref ba, .ref po, .ref un, .ref su, .int (nI L), .long (lN iv83)])), (mo, .inl (cJ, 64, .inr (.inl (lR (ldL om (b1 - a1)))))), (su, .inl (cJ, 66, .inr (.inl (lR s242)))), (po, .inl (cJ, 64, .inr (.inl (lR r242)))), (un, .inl (cJ, 64, .inr (.inl (lR ud))))] := hD
          have hend := pw_end hco hex1 hpw hw242.2.2.1 (by have h9 := hw242.2.2.2.1; rw [hun1 L hL1] at h9; exact h9)
          rw [hNv, hXv] at hend
          refine lv_aload_n hx hb d_Rsa_verifies_245 rfl (lv_at hl 0 rfl) ?_
          refine lv_aload_n hx hb d_Rsa_verifies_246 rfl (lv_at hl 1 rfl) ?_
          refine va_get (v := .ref ha) hx hb htb i_Certificate hown hK (mf_keep hF0 hFA0 hS) 0 rfl rfl 19 (by decide) (htb _ q2_195) (fun _ h9 => h9) rfl d_Rsa_verifies_247 ?_
          refine lv_iload_n hx hb d_Rsa_verifies_250 rfl (lv_at hl 3 rfl) ?_
          refine vp_callSi (pu_callV (As := [.ref ha, .int (nI (b1 - a1))]) (rest := []) ⟨hx, hb, hml, hown, hts⟩ tbin (x_Rsa_form l dC dI sb q0 mo sq ba po un su L (lN iv83) cJ ha (b1 - a1) cI h r242 hc62 hc256 hcL hL2 hw242.1) q5_214 q5_216 qp_26 q1_6 q5_217 (n := 2) (by decide +kernel) rfl ⟨rfl, rfl⟩ ⟨Nat.le_of_ble_eq_true rfl, Nat.le_of_ble_eq_true rfl⟩ ⟨Nat.le_of_ble_eq_true rfl, Nat.le_of_ble_eq_true rfl⟩ hN (hT0.keep hS hAs) hK (hP.both (mf_keep hF0 hFA0 hS)) [2, 5, 13] rfl [0, 2] rfl 2 7 rfl rfl rfl hl.1 rfl (Nat.le_of_ble_eq_true rfl) d_Rsa_verifies_251) (fun r251 hr251 => ?_)
          exact W.zret (v := r251) hx hb hr (bz_n hr251) (fun t ht hW => ⟨⟨_, (L, lN iv83, (ldL om (b1 - a1)), z.2.1, r130, r242, s242), rfl, ⟨(bz_c hr251 ⟨fun q9 => ⟨by omega, by rw [← hNv, ← hXv]; exact hX9, fun i hi => by rw [← hend]; exact q9 i hi⟩, fun q9 i hi => by rw [hend]; exact q9.2.2 i hi⟩), hL2, hmdl, hJ.2.1, hw130.1, hw242.1, hw242.2.2.2.2⟩, by rw [ht]; exact hP.sub [2, 3, 0, 1, 5, 6, 4] rfl, va_K.moved hW.alike hK, hD.sub [2, 3, 0, 1, 5, 6, 4] (by decide) rfl⟩, hS.F ht⟩) hS.2.2 d_Rsa_verifies_254
        · have hJ140 : (j + 1) ≤ 31 ∧ bg ≤ 1 ∧ (∀ j, p9 j < 4294967296) ∧ (∀ j, s9 j < 4294967296) ∧ pwS (vB 4294967296 (ldL om (b1 - a1)) L) (4294967296 ^ L) (vB 4294967296 (ldL os (b2 - a2)) L) (ex / 2 ^ (j + 1)) bg (vB 4294967296 p9 L) := hJ140
          obtain ⟨hj9, hbg, hp9, hs9, hpw⟩ := hJ140
          have hl : lv_has ls 6 [(0, .ref q0), (1, .ref pp), (2, .ref ce), (3, .int (nI (b1 - a1))), (4, .int (nI bg)), (5, .int (nI j))] := hl
          have hP : va_P (dC, dI) classes [(q0, .inr (7, [.ref mo, .ref sq, .ref ba, .ref po, .ref un, .ref su, .int (nI L), .long (lN iv83)])), (mo, .inl (cJ, 64, .inr (.inl (lR (ldL om (b1 - a1)))))), (sq, .inl (cJ, 64, .inr (.inl (lR z.2.1)))), (ba, .inl (cJ, 64, .inr (.inl (lR r130)))), (po, .inl (cJ, 64, .inr (.inl (lR p9)))), (un, .inl (cJ, 64, .inr (.inl (lR ud)))), (su, .inl (cJ, 66, .inr (.inl (lR s9))))] HL140 := hP
          have hD : va_D A [(q0, .inr (7, [.ref mo, .ref sq, .ref ba, .ref po, .ref un, .ref su, .int (nI L), .long (lN iv83)])), (mo, .inl (cJ, 64, .inr (.inl (lR (ldL om (b1 - a1)))))), (sq, .inl (cJ, 64, .inr (.inl (lR z.2.1)))), (ba, .inl (cJ, 64, .inr (.inl (lR r130)))), (po, .inl (cJ, 64, .inr (.inl (lR p9)))), (un, .inl (cJ, 64, .inr (.inl (lR ud)))), (su, .inl (cJ, 66, .inr (.inl (lR s9))))] := hD
          refine lv_iload hx hb d_Rsa_verifies_140 (lv_at hl 5 rfl) ?_
          refine lv_if_lt (tgt := 229) hx hb d_Rsa_verifies_142 (by decide) (fun c142 => ?_) (fun c142 => ?_)
          · exact absurd c142 (nI_nn (by omega))
          refine lv_iload hx hb d_Rsa_verifies_145 (lv_at hl 4 rfl) ?_
          refine lv_if_eq (tgt := 166) hx hb d_Rsa_verifies_147 (by decide) (fun c147 => ?_) (fun c147 => ?_)
          · have p147 : bg = 0 := ((nI_eq (a := bg) (b := 0) (by omega) (by omega)).mp c147)
            subst p147
            refine lv_aload_n hx hb d_Rsa_verifies_166 rfl (lv_at hl 2 rfl) ?_
            refine va_get (v := .int (nI ex)) hx hb htb i_Certificate hown hK (mf_keep hF0 hFA0 hS) 1 rfl rfl 10 (by decide) (htb _ q2_167) (fun _ h9 => h9) rfl d_Rsa_verifies_167 ?_
            refine lv_iload hx hb d_Rsa_verifies_170 (lv_at hl 5 rfl) ?_
            refine lv_ishr hx hb d_Rsa_verifies_172 ?_
            refine lv_iconst (v := 1) hx hb d_Rsa_verifies_173 (by decide) ?_
            refine lv_iand hx hb d_Rsa_verifies_174 ?_
            rw [show (((nI ex) >>> ((nI j) &&& 31)) &&& 1 : Int32) = nI (ex / 2 ^ j % 2) from bit_i hex2 (by omega)]
            refine lv_iconst (v := 1) hx hb d_Rsa_verifies_175 (by decide) ?_
            refine lv_icmp_ne (tgt := 223) hx hb d_Rsa_verifies_176 (by decide) (fun c176 => ?_) (fun c176 => ?_)
            · have p176 : ¬ ((ex / 2 ^ j % 2) = 1) := (fun q9 => c176 ((nI_eq (a := (ex / 2 ^ j % 2)) (b := 1) (by omega) (by omega)).mpr q9))
              refine lv_iinc (v := jD j) (lv' := [(5, .int (jD j)), (0, .ref q0), (1, .ref pp), (2, .ref ce), (3, .int (nI (b1 - a1))), (4, .int (nI 0))]) hx hb d_Rsa_verifies_223 hl (k := 5) rfl (jD_dec j) (by decide) rfl (fun ls hl => ?_)
              refine lv_goto (tgt := 140) hx hb d_Rsa_verifies_226 (by decide) ?_
              exact ih140 (j, 0, p9, s9) _ _ ls (Nat.lt_succ_self _) ⟨by show j ≤ 31; omega, by dsimp only; decide, hp9, hs9, pw_0 hpw p176⟩ hP hD hS (lv_sub hl [1, 2, 3, 4, 5, 0] rfl)
            · have p176 : (ex / 2 ^ j % 2) = 1 := ((nI_eq (a := (ex / 2 ^ j % 2)) (b := 1) (by omega) (by omega)).mp c176)
              refine lv_iload hx hb d_Rsa_verifies_179 (lv_at hl 4 rfl) ?_
              refine lv_if_eq (tgt := 203) hx hb d_Rsa_verifies_181 (by decide) (fun c181 => ?_) (fun c181 => ?_)
              rotate_left
              · exact absurd rfl c181
              refine lv_aload_n hx hb d_Rsa_verifies_203 rfl (lv_at hl 0 rfl) ?_
              refine va_get (v := .ref ba) hx hb htb i_Rsa hown hK hP 0 rfl rfl 2 (by decide) (htb _ q1_87) (fun _ h9 => h9) rfl d_Rsa_verifies_204 ?_
              refine lv_iconst (v := 0) hx hb d_Rsa_verifies_207 (by decide) ?_
              refine lv_aload_n hx hb d_Rsa_verifies_208 rfl (lv_at hl 0 rfl) ?_
              refine va_get (v := .ref po) hx hb htb i_Rsa hown hK hP 0 rfl rfl 3 (by decide) (htb _ q1_88) (fun _ h9 => h9) rfl d_Rsa_verifies_209 ?_
              refine lv_iconst (v := 0) hx hb d_Rsa_verifies_212 (by decide) ?_
              refine lv_aload_n hx hb d_Rsa_verifies_213 rfl (lv_at hl 0 rfl) ?_
              refine va_get (v := .int (nI L)) hx hb htb i_Rsa hown hK hP 0 rfl rfl 6 (by decide) (htb _ q1_91) (fun _ h9 => h9) rfl d_Rsa_verifies_214 ?_
              refine va_copyl (sp := 0) (dp := 0) (n := nI L) hx hb (by rw [hml]; exact hl.1.symm) hown (htb _ q5_213) (htb _ q2_79) (htb _ q2_78) (htb _ q1_19) hK hP hD hS 3 4 0 0 rfl rfl rfl rfl rfl (by decide) (by decide) (nI_pos (by omega)) (by rw [show (0 : Int32).toNatClampNeg = 0 from by decide, nI_clamp (by omega)]; omega) (by rw [show (0 : Int32).toNatClampNeg = 0 from by decide, nI_clamp (by omega)]; omega) (fun i hi => rfl) (Nat.le_of_ble_eq_true rfl) (Nat.le_of_ble_eq_true rfl) d_Rsa_verifies_217 (fun H217 locs hP hD hS => ?_)
              rw [show (0 : Int32).toNatClampNeg = 0 from by decide, nI_clamp (by omega), cp_row] at hP hD
              obtain ⟨c217, hc217⟩ : ∃ c : Nat → Nat, c = (fun j => if j < L then r130 j else p9 j) := ⟨_, rfl⟩
              rw [← hc217] at hP hD
              have hP : va_P (dC, dI) classes [(q0, .inr (7, [.ref mo, .ref sq, .ref ba, .ref po, .ref un, .ref su, .int (nI L), .long (lN iv83)])), (mo, .inl (cJ, 64, .inr (.inl (lR (ldL om (b1 - a1)))))), (sq, .inl (cJ, 64, .inr (.inl (lR z.2.1)))), (ba, .inl (cJ, 64, .inr (.inl (lR r130)))), (po, .inl (cJ, 64, .inr (.inl (lR c217)))), (un, .inl (cJ, 64, .inr (.inl (lR ud)))), (su, .inl (cJ, 66, .inr (.inl (lR s9))))] H217 := hP
              have hD : va_D A [(q0, .inr (7, [.ref mo, .ref sq, .ref ba, .ref po, .ref un, .ref su, .int (nI L), .long (lN iv83)])), (mo, .inl (cJ, 64, .inr (.inl (lR (ldL om (b1 - a1)))))), (sq, .inl (cJ, 64, .inr (.inl (lR z.2.1)))), (ba, .inl (cJ, 64, .inr (.inl (lR r130)))), (po, .inl (cJ, 64, .inr (.inl (lR c217)))), (un, .inl (cJ, 64, .inr (.inl (lR ud)))), (su, .inl (cJ, 66, .inr (.inl (lR s9))))] := hD
              have hcv : (vB 4294967296 c217 L) = (vB 4294967296 r130 L) := by rw [hc217]; exact vB_congr L (fun j hj => if_pos hj)
              have hcl : ∀ j, c217 j < 4294967296 := fun j => by
                rw [hc217]
                show (if j < L then r130 j else p9 j) < 4294967296
                split
                · exact hw130.1 j
                · exact hp9 j
              refine lv_iconst (v := 1) hx hb d_Rsa_verifies_220 (by decide) ?_
              refine lv_istore (lv' := [(4, .int 1), (0, .ref q0), (1, .ref pp), (2, .ref ce), (3, .int (nI (b1 - a1))), (5, .int (nI j))]) hx hb d_Rsa_verifies_221 hl (by decide) rfl (fun ls hl => ?_)
              refine lv_iinc (v := jD j) (lv' := [(5, .int (jD j)), (4, .int 1), (0, .ref q0), (1, .ref pp), (2, .ref ce), (3, .int (nI (b1 - a1)))]) hx hb d_Rsa_verifies_223 hl (k := 5) rfl (jD_dec j) (by decide) rfl (fun ls hl => ?_)
              refine lv_goto (tgt := 140) hx hb d_Rsa_verifies_226 (by decide) ?_
              exact ih140 (j, 1, c217, s9) _ _ ls (Nat.lt_succ_self _) ⟨by show j ≤ 31; omega, by dsimp only; decide, hcl, hs9, (by rw [hcv]; exact pw_b hpw p176 hbm)⟩ hP hD hS (lv_sub hl [2, 3, 4, 5, 1, 0] rfl)
          · have p147 : ¬ (bg = 0) := (fun q9 => c147 ((nI_eq (a := bg) (b := 0) (by omega) (by omega)).mpr q9))
            obtain rfl : bg = 1 := by omega
            have hpl := pw_lt hpw
            refine lv_aload_n hx hb d_Rsa_verifies_150 rfl (lv_at hl 0 rfl) ?_
            refine lv_aload_n hx hb d_Rsa_verifies_151 rfl (lv_at hl 0 rfl) ?_
            refine va_get (v := .ref po) hx hb htb i_Rsa hown hK hP 0 rfl rfl 3 (by decide) (htb _ q1_88) (fun _ h9 => h9) rfl d_Rsa_verifies_152 ?_
            refine lv_aload_n hx hb d_Rsa_verifies_155 rfl (lv_at hl 0 rfl) ?_
            refine va_get (v := .ref po) hx hb htb i_Rsa hown hK hP 0 rfl rfl 3 (by decide) (htb _ q1_88) (fun _ h9 => h9) rfl d_Rsa_verifies_156 ?_
            refine lv_aload_n hx hb d_Rsa_verifies_159 rfl (lv_at hl 0 rfl) ?_
            refine va_get (v := .ref po) hx hb htb i_Rsa hown hK hP 0 rfl rfl 3 (by decide) (htb _ q1_88) (fun _ h9 => h9) rfl d_Rsa_verifies_160 ?_
            have hFc := va_free (wc := [(q0, .inr (7, [.ref mo, .ref sq, .ref ba, .ref po, .ref un, .ref su, .int (nI L), .long (lN iv83)])), (mo, .inl (cJ, 64, .inr (.inl (lR (ldL om (b1 - a1)))))), (su, .inl (cJ, 66, .inr (.inl (lR s9)))), (po, .inl (cJ, 64, .inr (.inl (lR p9))))]) hD hS hA [0, 1, 6, 4] rfl
            refine va_callv (mu_runV (As := [.ref po, .ref po, .ref po]) (rest := []) ⟨hx, hb, hml, hown, hts⟩ tbin (x_Rsa_mul1 l dC dI sb q0 mo sq ba po un su L iv83 cJ po (ldL om (b1 - a1)) s9 p9 HL140.size hL1 hL2 hmdl hs9 hp9 hiv1 hiv2 hpl) q5_209 q5_211 qp_25 q1_6 q5_212 (n := 3) (by decide +kernel) rfl ⟨rfl, rfl⟩ ⟨Nat.le_of_ble_eq_true rfl, Nat.le_of_ble_eq_true rfl⟩ ⟨Nat.le_of_ble_eq_true rfl, Nat.le_of_ble_eq_true rfl⟩ hN (hT0.keep hS hAs) hAs (Nat.le_trans hB0 hS.1) hK hP hD [0, 1, 6, 4] (by decide) rfl [0] rfl 0 7 rfl rfl rfl hl.1 rfl (Nat.le_of_ble_eq_true rfl) d_Rsa_verifies_163) hS (fun q _ h => hFc q h) hFc (fun u163 tS H163 locs ht hvm hw163 hB hz1 hk1 hS => ?_)
            obtain ⟨r163, s163⟩ := u163
            obtain ⟨hP1, hK1, hD1⟩ := hB
            rw [ht] at hP1
            obtain ⟨hP, hD⟩ := va_join (wr := [(sq, .inl (cJ, 64, .inr (.inl (lR z.2.1)))), (ba, .inl (cJ, 64, .inr (.inl (lR r130)))), (un, .inl (cJ, 64, .inr (.inl (lR ud))))]) (w1 := [(q0, .inr (7, [.ref mo, .ref sq, .ref ba, .ref po, .ref un, .ref su, .int (nI L), .long (lN iv83)])), (mo, .inl (cJ, 64, .inr (.inl (lR (ldL om (b1 - a1)))))), (su, .inl (cJ, 66, .inr (.inl (lR s163)))), (po, .inl (cJ, 64, .inr (.inl (lR r163))))]) hP hD [0, 1, 6, 4] [2, 3, 5] rfl rfl (by decide) (by decide) hk1 hFc hP1 hD1
            have hP : va_P (dC, dI) classes [(sq, .inl (cJ, 64, .inr (.inl (lR z.2.1)))), (ba, .inl (cJ, 64, .inr (.inl (lR r130)))), (un, .inl (cJ, 64, .inr (.inl (lR ud)))), (q0, .inr (7, [.ref mo, .ref sq, .ref ba, .ref po, .ref un, .ref su, .int (nI L), .long (lN iv83)])), (mo, .inl (cJ, 64, .inr (.inl (lR (ldL om (b1 - a1)))))), (su, .inl (cJ, 66, .inr (.inl (lR s163)))), (po, .inl (cJ, 64, .inr (.inl (lR r163))))] H163 := hP
            have hD : va_D A [(sq, .inl (cJ, 64, .inr (.inl (lR z.2.1)))), (ba, .inl (cJ, 64, .inr (.inl (lR r130)))), (un, .inl (cJ, 64, .inr (.inl (lR ud)))), (q0, .inr (7, [.ref mo, .ref sq, .ref ba, .ref po, .ref un, .ref su, .int (nI L), .long (lN iv83)])), (mo, .inl (cJ, 64, .inr (.inl (lR (ldL om (b1 - a1)))))), (su, .inl (cJ, 66, .inr (.inl (lR s163)))), (po, .inl (cJ, 64, .inr (.inl (lR r163))))] := hD
            have hps := pw_s hco hpw hw163.2.2.1 hw163.2.2.2.1
            refine lv_aload_n hx hb d_Rsa_verifies_166 rfl (lv_at hl 2 rfl) ?_
            refine va_get (v := .int (nI ex)) hx hb htb i_Certificate hown hK (mf_keep hF0 hFA0 hS) 1 rfl rfl 10 (by decide) (htb _ q2_167) (fun _ h9 => h9) rfl d_Rsa_verifies_167 ?_
            refine lv_iload hx hb d_Rsa_verifies_170 (lv_at hl 5 rfl) ?_
            refine lv_ishr hx hb d_Rsa_verifies_172 ?_
            refine lv_iconst (v := 1) hx hb d_Rsa_verifies_173 (by decide) ?_
            refine lv_iand hx hb d_Rsa_verifies_174 ?_
            rw [show (((nI ex) >>> ((nI j) &&& 31)) &&& 1 : Int32) = nI (ex / 2 ^ j % 2) from bit_i hex2 (by omega)]
            refine lv_iconst (v := 1) hx hb d_Rsa_verifies_175 (by decide) ?_
            refine lv_icmp_ne (tgt := 223) hx hb d_Rsa_verifies_176 (by decide) (fun c176 => ?_) (fun c176 => ?_)
            · have p176 : ¬ ((ex / 2 ^ j % 2) = 1) := (fun q9 => c176 ((nI_eq (a := (ex / 2 ^ j % 2)) (b := 1) (by omega) (by omega)).mpr q9))
              refine lv_iinc (v := jD j) (lv' := [(5, .int (jD j)), (0, .ref q0), (1, .ref pp), (2, .ref ce), (3, .int (nI (b1 - a1))), (4, .int (nI 1))]) hx hb d_Rsa_verifies_223 hl (k := 5) rfl (jD_dec j) (by decide) rfl (fun ls hl => ?_)
              refine lv_goto (tgt := 140) hx hb d_Rsa_verifies_226 (by decide) ?_
              exact ih140 (j, 1, r163, s163) _ _ ls (Nat.lt_succ_self _) ⟨by show j ≤ 31; omega, by dsimp only; decide, hw163.1, hw163.2.2.2.2, pw_s0 hps p176⟩ (hP.sub [3, 4, 0, 1, 6, 2, 5] rfl) (hD.sub [3, 4, 0, 1, 6, 2, 5] (by decide) rfl) hS (lv_sub hl [1, 2, 3, 4, 5, 0] rfl)
            · have p176 : (ex / 2 ^ j % 2) = 1 := ((nI_eq (a := (ex / 2 ^ j % 2)) (b := 1) (by omega) (by omega)).mp c176)
              refine lv_iload hx hb d_Rsa_verifies_179 (lv_at hl 4 rfl) ?_
              refine lv_if_eq (tgt := 203) hx hb d_Rsa_verifies_181 (by decide) (fun c181 => ?_) (fun c181 => ?_)
              · exact absurd c181 (by decide)
              refine lv_aload_n hx hb d_Rsa_verifies_184 rfl (lv_at hl 0 rfl) ?_
              refine lv_aload_n hx hb d_Rsa_verifies_185 rfl (lv_at hl 0 rfl) ?_
              refine va_get (v := .ref po) hx hb htb i_Rsa hown hK hP 3 rfl rfl 3 (by decide) (htb _ q1_88) (fun _ h9 => h9) rfl d_Rsa_verifies_186 ?_
              refine lv_aload_n hx hb d_Rsa_verifies_189 rfl (lv_at hl 0 rfl) ?_
              refine va_get (v := .ref ba) hx hb htb i_Rsa hown hK hP 3 rfl rfl 2 (by decide) (htb _ q1_87) (fun _ h9 => h9) rfl d_Rsa_verifies_190 ?_
              refine lv_aload_n hx hb d_Rsa_verifies_193 rfl (lv_at hl 0 rfl) ?_
              refine va_get (v := .ref po) hx hb htb i_Rsa hown hK hP 3 rfl rfl 3 (by decide) (htb _ q1_88) (fun _ h9 => h9) rfl d_Rsa_verifies_194 ?_
              have hFc := va_free (wc := [(q0, .inr (7, [.ref mo, .ref sq, .ref ba, .ref po, .ref un, .ref su, .int (nI L), .long (lN iv83)])), (mo, .inl (cJ, 64, .inr (.inl (lR (ldL om (b1 - a1)))))), (su, .inl (cJ, 66, .inr (.inl (lR s163)))), (po, .inl (cJ, 64, .inr (.inl (lR r163)))), (ba, .inl (cJ, 64, .inr (.inl (lR r130))))]) hD hS hA [3, 4, 5, 6, 1] rfl
              refine va_callv (mu_runV (As := [.ref po, .ref ba, .ref po]) (rest := []) ⟨hx, hb, hml, hown, hts⟩ tbin (x_Rsa_mul2 l dC dI sb q0 mo sq ba po un su L iv83 cJ po ba (ldL om (b1 - a1)) s163 r163 r130 H163.size hL1 hL2 hmdl hw163.2.2.2.2 hw163.1 hw130.1 hiv1 hiv2 hw163.2.2.1) q5_209 q5_211 qp_25 q1_6 q5_212 (n := 3) (by decide +kernel) rfl ⟨rfl, rfl⟩ ⟨Nat.le_of_ble_eq_true rfl, Nat.le_of_ble_eq_true rfl⟩ ⟨Nat.le_of_ble_eq_true rfl, Nat.le_of_ble_eq_true rfl⟩ hN (hT0.keep hS hAs) hAs (Nat.le_trans hB0 hS.1) hK hP hD [3, 4, 5, 6, 1] (by decide) rfl [0] rfl 3 7 rfl rfl rfl hl.1 rfl (Nat.le_of_ble_eq_true rfl) d_Rsa_verifies_197) hS (fun q _ h => hFc q h) hFc (fun u197 tS H197 locs ht hvm hw197 hB hz1 hk1 hS => ?_)
              obtain ⟨r197, s197⟩ := u197
              obtain ⟨hP1, hK1, hD1⟩ := hB
              rw [ht] at hP1
              obtain ⟨hP, hD⟩ := va_join (wr := [(sq, .inl (cJ, 64, .inr (.inl (lR z.2.1)))), (un, .inl (cJ, 64, .inr (.inl (lR ud))))]) (w1 := [(q0, .inr (7, [.ref mo, .ref sq, .ref ba, .ref po, .ref un, .ref su, .int (nI L), .long (lN iv83)])), (mo, .inl (cJ, 64, .inr (.inl (lR (ldL om (b1 - a1)))))), (su, .inl (cJ, 66, .inr (.inl (lR s197)))), (po, .inl (cJ, 64, .inr (.inl (lR r197)))), (ba, .inl (cJ, 64, .inr (.inl (lR r130))))]) hP hD [3, 4, 5, 6, 1] [0, 2] rfl rfl (by decide) (by decide) hk1 hFc hP1 hD1
              have hP : va_P (dC, dI) classes [(sq, .inl (cJ, 64, .inr (.inl (lR z.2.1)))), (un, .inl (cJ, 64, .inr (.inl (lR ud)))), (q0, .inr (7, [.ref mo, .ref sq, .ref ba, .ref po, .ref un, .ref su, .int (nI L), .long (lN iv83)])), (mo, .inl (cJ, 64, .inr (.inl (lR (ldL om (b1 - a1)))))), (su, .inl (cJ, 66, .inr (.inl (lR s197)))), (po, .inl (cJ, 64, .inr (.inl (lR r197)))), (ba, .inl (cJ, 64, .inr (.inl (lR r130))))] H197 := hP
              have hD : va_D A [(sq, .inl (cJ, 64, .inr (.inl (lR z.2.1)))), (un, .inl (cJ, 64, .inr (.inl (lR ud)))), (q0, .inr (7, [.ref mo, .ref sq, .ref ba, .ref po, .ref un, .ref su, .int (nI L), .long (lN iv83)])), (mo, .inl (cJ, 64, .inr (.inl (lR (ldL om (b1 - a1)))))), (su, .inl (cJ, 66, .inr (.inl (lR s197)))), (po, .inl (cJ, 64, .inr (.inl (lR r197)))), (ba, .inl (cJ, 64, .inr (.inl (lR r130))))] := hD
              refine lv_goto (tgt := 220) hx hb d_Rsa_verifies_200 (by decide) ?_
              refine lv_iconst (v := 1) hx hb d_Rsa_verifies_220 (by decide) ?_
              refine lv_istore (lv' := [(4, .int 1), (0, .ref q0), (1, .ref pp), (2, .ref ce), (3, .int (nI (b1 - a1))), (5, .int (nI j))]) hx hb d_Rsa_verifies_221 hl (by decide) rfl (fun ls hl => ?_)
              refine lv_iinc (v := jD j) (lv' := [(5, .int (jD j)), (4, .int 1), (0, .ref q0), (1, .ref pp), (2, .ref ce), (3, .int (nI (b1 - a1)))]) hx hb d_Rsa_verifies_223 hl (k := 5) rfl (jD_dec j) (by decide) rfl (fun ls hl => ?_)
              refine lv_goto (tgt := 140) hx hb d_Rsa_verifies_226 (by decide) ?_
              exact ih140 (j, 1, r197, s197) _ _ ls (Nat.lt_succ_self _) ⟨by show j ≤ 31; omega, by dsimp only; decide, hw197.1, hw197.2.2.2.2, pw_s1 hco hps p176 hbm hw197.2.2.1 hw197.2.2.2.1⟩ (hP.sub [2, 3, 0, 6, 5, 1, 4] rfl) (hD.sub [2, 3, 0, 6, 5, 1, 4] (by decide) rfl) hS (lv_sub hl [2, 3, 4, 5, 1, 0] rfl)
      · have p92 : ¬ (5 ≤ z.1) := (fun q9 => c92 ((nI_leI (a := 5) (b := z.1) (by omega) (by omega)).mpr q9))
        refine lv_aload_n hx hb d_Rsa_verifies_95 rfl (lv_at hl 0 rfl) ?_
        refine lv_aload_n hx hb d_Rsa_verifies_96 rfl (lv_at hl 0 rfl) ?_
        refine va_get (v := .ref sq) hx hb htb i_Rsa hown hK hP 0 rfl rfl 1 (by decide) (htb _ q1_86) (fun _ h9 => h9) rfl d_Rsa_verifies_97 ?_
        refine lv_aload_n hx hb d_Rsa_verifies_100 rfl (lv_at hl 0 rfl) ?_
        refine va_get (v := .ref sq) hx hb htb i_Rsa hown hK hP 0 rfl rfl 1 (by decide) (htb _ q1_86) (fun _ h9 => h9) rfl d_Rsa_verifies_101 ?_
        refine lv_aload_n hx hb d_Rsa_verifies_104 rfl (lv_at hl 0 rfl) ?_
        refine va_get (v := .ref sq) hx hb htb i_Rsa hown hK hP 0 rfl rfl 1 (by decide) (htb _ q1_86) (fun _ h9 => h9) rfl d_Rsa_verifies_105 ?_
        have hFc := va_free (wc := [(q0, .inr (7, [.ref mo, .ref sq, .ref ba, .ref po, .ref un, .ref su, .int (nI L), .long (lN iv83)])), (mo, .inl (cJ, 64, .inr (.inl (lR (ldL om (b1 - a1)))))), (su, .inl (cJ, 66, .inr (.inl (lR z.2.2)))), (sq, .inl (cJ, 64, .inr (.inl (lR z.2.1))))]) hD hS hA [0, 1, 6, 2] rfl
        refine va_callv (mu_runV (As := [.ref sq, .ref sq, .ref sq]) (rest := []) ⟨hx, hb, hml, hown, hts⟩ tbin (x_Rsa_mul1 l dC dI sb q0 mo sq ba po un su L iv83 cJ sq (ldL om (b1 - a1)) z.2.2 z.2.1 HL89.size hL1 hL2 hmdl hJ.2.2.1 hJ.2.1 hiv1 hiv2 hJ.2.2.2.1) q5_209 q5_211 qp_25 q1_6 q5_212 (n := 3) (by decide +kernel) rfl ⟨rfl, rfl⟩ ⟨Nat.le_of_ble_eq_true rfl, Nat.le_of_ble_eq_true rfl⟩ ⟨Nat.le_of_ble_eq_true rfl, Nat.le_of_ble_eq_true rfl⟩ hN (hT0.keep hS hAs) hAs (Nat.le_trans hB0 hS.1) hK hP hD [0, 1, 6, 2] (by decide) rfl [0] rfl 0 7 rfl rfl rfl hl.1 rfl (Nat.le_of_ble_eq_true rfl) d_Rsa_verifies_108) hS (fun q _ h => hFc q h) hFc (fun u108 tS H108 locs ht hvm hw108 hB hz1 hk1 hS => ?_)
        obtain ⟨r108, s108⟩ := u108
        obtain ⟨hP1, hK1, hD1⟩ := hB
        rw [ht] at hP1
        obtain ⟨hP, hD⟩ := va_join (wr := [(ba, .inl (cJ, 64, .inr (.inl (lR (ldL os (b2 - a2)))))), (po, .inl (cJ, 64, .inr (.inl (lR pd)))), (un, .inl (cJ, 64, .inr (.inl (lR ud))))]) (w1 := [(q0, .inr (7, [.ref mo, .ref sq, .ref ba, .ref po, .ref un, .ref su, .int (nI L), .long (lN iv83)])), (mo, .inl (cJ, 64, .inr (.inl (lR (ldL om (b1 - a1)))))), (su, .inl (cJ, 66, .inr (.inl (lR s108)))), (sq, .inl (cJ, 64, .inr (.inl (lR r108))))]) hP hD [0, 1, 6, 2] [3, 4, 5] rfl rfl (by decide) (by decide) hk1 hFc hP1 hD1
        have hP : va_P (dC, dI) classes [(ba, .inl (cJ, 64, .inr (.inl (lR (ldL os (b2 - a2)))))), (po, .inl (cJ, 64, .inr (.inl (lR pd)))), (un, .inl (cJ, 64, .inr (.inl (lR ud)))), (q0, .inr (7, [.ref mo, .ref sq, .ref ba, .ref po, .ref un, .ref su, .int (nI L), .long (lN iv83)])), (mo, .inl (cJ, 64, .inr (.inl (lR (ldL om (b1 - a1)))))), (su, .inl (cJ, 66, .inr (.inl (lR s108)))), (sq, .inl (cJ, 64, .inr (.inl (lR r108))))] H108 := hP
        have hD : va_D A [(ba, .inl (cJ, 64, .inr (.inl (lR (ldL os (b2 - a2)))))), (po, .inl (cJ, 64, .inr (.inl (lR pd)))), (un, .inl (cJ, 64, .inr (.inl (lR ud)))), (q0, .inr (7, [.ref mo, .ref sq, .ref ba, .ref po, .ref un, .ref su, .int (nI L), .long (lN iv83)])), (mo, .inl (cJ, 64, .inr (.inl (lR (ldL om (b1 - a1)))))), (su, .inl (cJ, 66, .inr (.inl (lR s108)))), (sq, .inl (cJ, 64, .inr (.inl (lR r108))))] := hD
        refine lv_iinc (v := nI (z.1 + 1)) (lv' := [(4, .int (nI (z.1 + 1))), (0, .ref q0), (1, .ref pp), (2, .ref ce), (3, .int (nI (b1 - a1)))]) hx hb d_Rsa_verifies_111 hl (k := 4) rfl (nI_1 _) (by decide) rfl (fun ls hl => ?_)
        refine lv_goto (tgt := 89) hx hb d_Rsa_verifies_114 (by decide) ?_
        exact ih (z.1 + 1, r108, s108) _ _ ls (by show 5 - (z.1 + 1) < 5 - z.1; omega) (⟨by show z.1 + 1 ≤ 5; omega, hw108.1, hw108.2.2.2.2, hw108.2.2.1, mg_sqs hco hJ.2.2.2.2 hw108.2.2.1 hw108.2.2.2.1⟩) (hP.sub [3, 4, 6, 0, 1, 2, 5] rfl) (hD.sub [3, 4, 6, 0, 1, 2, 5] (by decide) rfl) hS (lv_sub hl [1, 2, 3, 4, 0] rfl)
    · have p73 : r70 = (0 : Int32) := c73
      refine lv_iconst (v := 0) hx hb d_Rsa_verifies_76 (by decide) ?_
      exact W.zret (v := 0) hx hb hr (by decide) (fun t ht hW => ⟨⟨_, (L, iv, (ldL om (b1 - a1)), sqd, (ldL os (b2 - a2)), pd, sd), rfl, ⟨bz_f (fun q9 => bz_0 hr70 p73 (by rw [hNv, hXv]; exact q9.2.1)), hL2, hmdl, hsqd, hsdl, hpd, hsd⟩, by rw [ht]; exact hP.sub [0, 5, 1, 6, 2, 3, 4] rfl, va_K.moved hW.alike hK, hD.sub [0, 5, 1, 6, 2, 3, 4] (by decide) rfl⟩, hS.F ht⟩) hS.2.2 d_Rsa_verifies_77
