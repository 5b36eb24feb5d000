/-! Rsa.load, exactly. -/
set_option maxHeartbeats 4000000 in
set_option maxRecDepth 100000 in
theorem x_Rsa_load (l : Launch) (dC : Nat → ClassId) (dI : Nat → Nat → Nat) (sb : sB) (q0 q t tx9 a b n : Nat) (cJ cB : ClassId) (u o xd : Nat → Nat) (sz : Nat) (hab : a ≤ b) (hbn : b ≤ n) (hn9 : n < 2 ^ 31) (hz9 : b - a ≤ 256) (hu : ∀ j, u j < 256) (ho : ∀ i, i < b - a → o i = u (b - 1 - i)) (ho8 : ∀ i, o i < 256) : Met l y_Rsa_load w_Rsa_load ({ frames := 1, cells := 0, slots := 0, locals := 24 }) (mf_P [(q, .inr (0, [.ref tx9, .int (nI a), .int (nI b)])), (tx9, .inl (cB, n, .inl (tx u)))] [.ref q0, .ref q, .ref t] (dC, dI) sb [(t, .inl (cJ, 64, .inr (.inl (lR xd))))] [(cJ, .long), (cB, .byte)] sz) (va_Qv (fun (_u : Unit) => True) (mu_B (dC, dI) [(cJ, .long), (cB, .byte)] (va_A [(t, .inl (cJ, 64, .inr (.inl (lR xd))))] sz) (fun _ : Unit => [(t, .inl (cJ, 64, .inr (.inl (lR (ldL o (b - a))))))])) (va_A [(t, .inl (cJ, 64, .inr (.inl (lR xd))))] sz)) 0 0 (va_A [(t, .inl (cJ, 64, .inr (.inl (lR xd))))] sz) := by
  refine Met.ofW (cc := b_Rsa_load) (maxL := 5) (ret := none) (by decide) rfl ?_
  intro p e s m args below meth c s₁ B hml hv
  obtain ⟨⟨rfl, hsz, hB0, hP, hK, hD0, hN, hT0⟩, hF0, hFA0⟩ := hv
  have hx := B.exec
  have hb := B.bytes
  have hr := B.returns
  have hts := atoms_spec (ws := w_Rsa_load) B.pre
  have tbin : ∀ w ∈ tb, w ∈ w_Rsa_load := fun w h => List.mem_cons_of_mem _ h
  have htb : ∀ w ∈ tb, w.before _ s = true := fun w h => hts w (tbin w h)
  have hown : s.vm.findClass "TrustChain$Rsa" = some m.cls := findClass_of_methodNamed B.named
  have hlocks := B.notSynchronized
  subst hsz
  have hD := hD0.self (sz := s.heap.size)
  generalize hAe : va_A [(t, .inl (cJ, 64, .inr (.inl (lR xd))))] s.heap.size = A at hD hFA0 ⊢
  have hA : ∀ q : Nat, s.heap.size ≤ q → A q := fun q h => by rw [← hAe]; exact Or.inr h
  have hAs : ∀ q : Nat, A q → sb.1 ≤ q := fun q h => by
    rw [← hAe] at h
    rcases h with ⟨k, e, h⟩ | h
    · exact hD0.2 k _ h
    · exact Nat.le_trans hB0 h
  have hS : va_S A s.heap s.heap [] := va_S.rf
  have hcs : 0 ≤ (headSpec w_Rsa_load ({ frames := 1, cells := 0, slots := 0, locals := 24 })).room.cells ∧ 0 ≤ (headSpec w_Rsa_load ({ frames := 1, cells := 0, slots := 0, locals := 24 })).room.slots := ⟨Nat.le_refl _, Nat.le_refl _⟩
  have hP : va_P (dC, dI) classes [(t, .inl (cJ, 64, .inr (.inl (lR xd))))] s.heap := hP
  have hl := lv_entry ([.ref q0, .ref q, .ref t]) (n := 5) (Nat.le_of_ble_eq_true rfl)
  rw [lg_entry_eq]
  generalize (lg_sl ([.ref q0, .ref q, .ref t]) ++ List.replicate (5 - (lg_sl ([.ref q0, .ref q, .ref t])).length) Slot.unset).toArray = ls at hl ⊢
  have hl : lv_has ls 5 [(0, .ref q0), (1, .ref q), (2, .ref t)] := hl
  refine lv_aload_n hx hb d_Rsa_load_0 rfl (lv_at hl 2 rfl) ?_
  refine lv_lconst (v := 0) hx hb d_Rsa_load_1 (by decide) ?_
  have hFc := va_free (wc := [(t, .inl (cJ, 64, .inr (.inl (lR xd))))]) hD hS hA [0] rfl
  refine va_callv (mu_runS (As := [.ref t, .long 0]) (rest := []) ⟨hx, hb, hml, hown, hts⟩ tbin (x_fill l dC dI sb t 64 cJ (lR xd) 0 s.heap.size (by decide)) q5_189 q5_190 q1_17 q5_191 (n := 2) (by decide +kernel) rfl ⟨rfl, rfl⟩ ⟨Nat.le_of_ble_eq_true rfl, Nat.le_of_ble_eq_true rfl⟩ ⟨Nat.le_of_ble_eq_true rfl, Nat.le_of_ble_eq_true rfl⟩ hN (hT0.keep hS hAs) hAs (Nat.le_trans hB0 hS.1) hK hP hD [0] (by decide) rfl [0] rfl hl.1 rfl (Nat.le_of_ble_eq_true rfl) d_Rsa_load_2) hS (fun q _ h => hFc q h) hFc (fun u2 tS H2 locs ht hvm hw2 hB hz1 hk1 hS => ?_)
  obtain ⟨_, rfl⟩ : ∃ z, z = u2 := ⟨_, rfl⟩
  obtain ⟨hP1, hK1, hD1⟩ := hB
  rw [ht] at hP1
  obtain ⟨hP, hD⟩ := va_join (wr := []) (w1 := [(t, .inl (cJ, 64, .inr (.inl (flL (lR xd) 0 64))))]) hP hD [0] [] rfl rfl (by decide) (by decide) hk1 hFc hP1 hD1
  have hP : va_P (dC, dI) classes [(t, .inl (cJ, 64, .inr (.inl (flL (lR xd) 0 64))))] H2 := hP
  have hD : va_D A [(t, .inl (cJ, 64, .inr (.inl (flL (lR xd) 0 64))))] := hD
  have hP := va_P.agreeL (w1 := []) (w2 := []) (g := lR (ldL o 0)) (fun j hj => by show (if j < 64 then (0 : Int64) else lR xd j) = lN (ldL o 0 j); rw [if_pos hj, ldL_0]; rfl) hP
  have hD := q_Dag (w1 := []) (w2 := []) (e' := .inl (cJ, 64, .inr (.inl (lR (ldL o 0))))) hD
  have hP : va_P (dC, dI) classes [(t, .inl (cJ, 64, .inr (.inl (lR (ldL o 0)))))] H2 := hP
  have hD : va_D A [(t, .inl (cJ, 64, .inr (.inl (lR (ldL o 0)))))] := hD
  refine lv_aload_n hx hb d_Rsa_load_5 rfl (lv_at hl 1 rfl) ?_
  refine vp_callSi (pu_callV (As := []) (rest := []) ⟨hx, hb, hml, hown, hts⟩ tbin (c_Slice_length l dC dI sb q tx9 a b hab) q5_184 q3_144 q3_145 q1_22 q3_146 (n := 0) (by decide +kernel) rfl ⟨rfl, rfl⟩ ⟨Nat.le_of_ble_eq_true rfl, Nat.le_of_ble_eq_true rfl⟩ ⟨Nat.le_of_ble_eq_true rfl, Nat.le_of_ble_eq_true rfl⟩ hN (hT0.keep hS hAs) hK (mf_keep hF0 hFA0 hS) [0] rfl [] rfl 0 0 rfl rfl rfl hl.1 rfl (Nat.le_of_ble_eq_true rfl) d_Rsa_load_6) (fun r6 hr6 => ?_)
  rw [show (r6 : Int32) = nI (b - a) from hr6]
  refine lv_istore_n (lv' := [(3, .int (nI (b - a))), (0, .ref q0), (1, .ref q), (2, .ref t)]) hx hb d_Rsa_load_9 rfl hl (by decide) rfl (fun ls hl => ?_)
  refine lv_iconst (v := 0) hx hb d_Rsa_load_10 (by decide) ?_
  refine lv_istore (lv' := [(4, .int 0), (3, .int (nI (b - a))), (0, .ref q0), (1, .ref q), (2, .ref t)]) hx hb d_Rsa_load_11 hl (by decide) rfl (fun ls hl => ?_)
  refine w_loopW (α := Nat) (fun k => k ≤ b - a) (fun k => b - a - k) (fun k => [(0, .ref q0), (1, .ref q), (2, .ref t), (3, .int (nI (b - a))), (4, .int (nI k))]) (fun _ => []) (fun k => [(t, .inl (cJ, 64, .inr (.inl (lR (ldL o k)))))]) 5 13 (fun k HL13 locs ls hJ hP hD hS hl ih => ?_) 0 _ _ ls (Nat.zero_le _) hP hD hS (lv_sub hl [2, 3, 4, 1, 0] rfl)
  have hP : va_P (dC, dI) classes [(t, .inl (cJ, 64, .inr (.inl (lR (ldL o k)))))] HL13 := hP
  have hD : va_D A [(t, .inl (cJ, 64, .inr (.inl (lR (ldL o k)))))] := hD
  refine lv_iload hx hb d_Rsa_load_13 (lv_at hl 4 rfl) ?_
  refine lv_iload_n hx hb d_Rsa_load_15 rfl (lv_at hl 3 rfl) ?_
  refine lv_icmp_ge (tgt := 61) hx hb d_Rsa_load_16 (by decide) (fun c16 => ?_) (fun c16 => ?_)
  · have p16 : (b - a) ≤ k := ((nI_leI (a := (b - a)) (b := k) (by omega) (by omega)).mp c16)
    obtain rfl : k = b - a := by omega
    exact W.vret hx hb hr (fun t ht hW => ⟨⟨(), rfl, trivial, by rw [ht]; exact hP, va_K.moved hW.alike hK, hD⟩, hS.F ht⟩) hS.2.2 d_Rsa_load_61
  · have p16 : ¬ ((b - a) ≤ k) := (fun q9 => c16 ((nI_leI (a := (b - a)) (b := k) (by omega) (by omega)).mpr q9))
    refine lv_iload hx hb d_Rsa_load_19 (lv_at hl 4 rfl) ?_
    refine lv_sipush (v := 256) hx hb d_Rsa_load_21 (by decide) ?_
    refine lv_icmp_ge (tgt := 61) hx hb d_Rsa_load_24 (by decide) (fun c24 => ?_) (fun c24 => ?_)
    · have p24 : 256 ≤ k := ((nI_leI (a := 256) (b := k) (by omega) (by omega)).mp c24)
      obtain rfl : k = b - a := by omega
      exact W.vret hx hb hr (fun t ht hW => ⟨⟨(), rfl, trivial, by rw [ht]; exact hP, va_K.moved hW.alike hK, hD⟩, hS.F ht⟩) hS.2.2 d_Rsa_load_61
    · have p24 : ¬ (256 ≤ k) := (fun q9 => c24 ((nI_leI (a := 256) (b := k) (by omega) (by omega)).mpr q9))
      refine lv_aload_n hx hb d_Rsa_load_27 rfl (lv_at hl 2 rfl) ?_
      refine lv_iload hx hb d_Rsa_load_28 (lv_at hl 4 rfl) ?_
      refine lv_iconst (v := 4) hx hb d_Rsa_load_30 (by decide) ?_
      refine lv_idiv hx hb d_Rsa_load_31 (by decide) ?_
      rw [show ((nI k) / 4 : Int32) = nI (k / 4) from nI_idiv (a := k) (b := 4) (by omega) (by omega) (by omega)]
      refine lv_dup2_11 hx hb d_Rsa_load_32 rfl rfl ?_
      have h33 : vp_in (nI (k / 4)) 64 := vp_in_nI (by omega) (by omega)
      refine va_lald hx hb hK hP 0 0 rfl rfl h33 d_Rsa_load_33 ?_
      rw [show lR (ldL o k) (nI (k / 4)).toNatClampNeg = lN ((ldL o k) (k / 4)) from by rw [nI_clamp (by omega)]; rfl]
      refine lv_aload_n hx hb d_Rsa_load_34 rfl (lv_at hl 1 rfl) ?_
      refine lv_iload_n hx hb d_Rsa_load_35 rfl (lv_at hl 3 rfl) ?_
      refine lv_iconst (v := 1) hx hb d_Rsa_load_36 (by decide) ?_
      refine lv_isub hx hb d_Rsa_load_37 ?_
      rw [show ((nI (b - a)) - 1 : Int32) = nI ((b - a) - 1) from pk_sub (a := (b - a)) (b := 1) (by omega)]
      refine lv_iload hx hb d_Rsa_load_38 (lv_at hl 4 rfl) ?_
      refine lv_isub hx hb d_Rsa_load_40 ?_
      rw [show ((nI ((b - a) - 1)) - (nI k) : Int32) = nI (((b - a) - 1) - k) from pk_sub (a := ((b - a) - 1)) (b := k) (by omega)]
      refine vp_callSi (pu_callV (As := [.int (nI (((b - a) - 1) - k))]) (rest := [.long (lN ((ldL o k) (k / 4))), .int (nI (k / 4)), .ref t]) ⟨hx, hb, hml, hown, hts⟩ tbin (c_Slice_at l dC dI sb q tx9 a b n cB u (nI (((b - a) - 1) - k)) hu hab hbn hn9) q5_192 q3_149 q3_150 q1_22 q3_151 (n := 1) (by decide +kernel) rfl ⟨rfl, rfl⟩ ⟨Nat.le_of_ble_eq_true rfl, Nat.le_of_ble_eq_true rfl⟩ ⟨Nat.le_of_ble_eq_true rfl, Nat.le_of_ble_eq_true rfl⟩ hN (hT0.keep hS hAs) hK (mf_keep hF0 hFA0 hS) [0, 1] rfl [1] rfl 0 0 rfl rfl rfl hl.1 rfl (Nat.le_of_ble_eq_true rfl) d_Rsa_load_41) (fun r41 hr41 => ?_)
      rw [show (r41 : Int32) = nI (o k) from hr41.trans ((sl_at_nI (by omega)).trans ((if_pos (by omega)).trans (congrArg nI ((congrArg u (by omega)).trans (ho k (by omega)).symm))))]
      refine lv_i2l (v := (nI (o k)).toInt64) hx hb d_Rsa_load_44 rfl ?_
      refine lv_bipush (v := 8) hx hb d_Rsa_load_45 (by decide) ?_
      refine lv_iload hx hb d_Rsa_load_47 (lv_at hl 4 rfl) ?_
      refine lv_iconst (v := 4) hx hb d_Rsa_load_49 (by decide) ?_
      refine lv_irem hx hb d_Rsa_load_50 (by decide) ?_
      rw [show ((nI k) - (nI k) / 4 * 4 : Int32) = nI (k % 4) from nI_irem (a := k) (b := 4) (by omega) (by omega) (by omega)]
      refine lv_imul hx hb d_Rsa_load_51 ?_
      rw [show (8 * (nI (k % 4)) : Int32) = nI (8 * (k % 4)) from nI_mul 8 (k % 4)]
      refine lv_lshl (v := ((nI (o k)).toInt64) <<< ((nI (8 * (k % 4))).toInt64 &&& 63)) hx hb d_Rsa_load_52 rfl ?_
      refine lv_lor hx hb d_Rsa_load_53 ?_
      rw [show ((lN ((ldL o k) (k / 4))) ||| (((nI (o k)).toInt64) <<< ((nI (8 * (k % 4))).toInt64 &&& 63)) : Int64) = lN (ldL o k (k / 4) + o k * 256 ^ (k % 4)) from l_or (by omega) (ldL_room ho8 k) (ho8 k)]
      have h54 : vp_in (nI (k / 4)) 64 := vp_in_nI (by omega) (by omega)
      refine va_last hx hb hK hP hD hS 0 0 rfl rfl h54 d_Rsa_load_54 (fun H54 locs hP hD hS => ?_)
      rw [nI_clamp (by omega), lR_up] at hP hD
      have hP : va_P (dC, dI) classes [(t, .inl (cJ, 64, .inr (.inl (lR (updN (ldL o k) (k / 4) (ldL o k (k / 4) + o k * 256 ^ (k % 4)))))))] H54 := hP
      have hD : va_D A [(t, .inl (cJ, 64, .inr (.inl (lR (updN (ldL o k) (k / 4) (ldL o k (k / 4) + o k * 256 ^ (k % 4)))))))] := hD
      rw [ldL_s] at hP hD
      have hP : va_P (dC, dI) classes [(t, .inl (cJ, 64, .inr (.inl (lR (ldL o (k + 1))))))] H54 := hP
      have hD : va_D A [(t, .inl (cJ, 64, .inr (.inl (lR (ldL o (k + 1))))))] := hD
      refine lv_iinc (v := nI (k + 1)) (lv' := [(4, .int (nI (k + 1))), (0, .ref q0), (1, .ref q), (2, .ref t), (3, .int (nI (b - a)))]) hx hb d_Rsa_load_55 hl (k := 4) rfl (nI_1 _) (by decide) rfl (fun ls hl => ?_)
      refine lv_goto (tgt := 13) hx hb d_Rsa_load_58 (by decide) ?_
      exact ih (k + 1) _ _ ls (by omega) (by omega) hP hD hS (lv_sub hl [1, 2, 3, 4, 0] rfl)
