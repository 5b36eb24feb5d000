/-! Rsa.multiply, exactly. -/
set_option maxHeartbeats 4000000 in
set_option maxRecDepth 100000 in
theorem x_Rsa_mul2 (l : Launch) (dC : Nat → ClassId) (dI : Nat → Nat → Nat) (sb : sB) (q0 mo sq ba po un su L : Nat) (iv : Nat) (cJ : ClassId) (x y : Nat) (nd sd xd yd : Nat → Nat) (sz : Nat) (hL1 : 1 ≤ L) (hL2 : L ≤ 64) (hn : ∀ j, nd j < 4294967296) (hs : ∀ j, sd j < 4294967296) (hxd : ∀ j, xd j < 4294967296) (hbd : ∀ j, yd j < 4294967296) (hiv : iv < 4294967296) (hiv0 : (iv * nd 0 + 1) % 4294967296 = 0) (hx0 : vB 4294967296 xd L < vB 4294967296 nd L) : Met l y_Rsa_multiply w_Rsa_multiply ({ frames := 1, cells := 0, slots := 0, locals := 28 }) (mu_P [.ref q0, .ref x, .ref y, .ref x] (dC, dI) sb [(q0, .inr (7, [.ref mo, .ref sq, .ref ba, .ref po, .ref un, .ref su, .int (nI L), .long (lN iv)])), (mo, .inl (cJ, 64, .inr (.inl (lR nd)))), (su, .inl (cJ, 66, .inr (.inl (lR sd)))), (x, .inl (cJ, 64, .inr (.inl (lR xd)))), (y, .inl (cJ, 64, .inr (.inl (lR yd))))] [(cJ, .long)] sz) (va_Qv (fun (r : (Nat → Nat) × (Nat → Nat)) => (∀ j, r.1 j < 4294967296) ∧ (∀ j, L ≤ j → r.1 j = xd j) ∧ vB 4294967296 r.1 L < vB 4294967296 nd L ∧ (vB 4294967296 r.1 L * 4294967296 ^ L) % vB 4294967296 nd L = (vB 4294967296 xd L * vB 4294967296 yd L) % vB 4294967296 nd L ∧ (∀ j, r.2 j < 4294967296)) (mu_B (dC, dI) [(cJ, .long)] (va_A [(q0, .inr (7, [.ref mo, .ref sq, .ref ba, .ref po, .ref un, .ref su, .int (nI L), .long (lN iv)])), (mo, .inl (cJ, 64, .inr (.inl (lR nd)))), (su, .inl (cJ, 66, .inr (.inl (lR sd)))), (x, .inl (cJ, 64, .inr (.inl (lR xd)))), (y, .inl (cJ, 64, .inr (.inl (lR yd))))] sz) (fun r : (Nat → Nat) × (Nat → Nat) => [(q0, .inr (7, [.ref mo, .ref sq, .ref ba, .ref po, .ref un, .ref su, .int (nI L), .long (lN iv)])), (mo, .inl (cJ, 64, .inr (.inl (lR nd)))), (su, .inl (cJ, 66, .inr (.inl (lR r.2)))), (x, .inl (cJ, 64, .inr (.inl (lR r.1)))), (y, .inl (cJ, 64, .inr (.inl (lR yd))))])) (va_A [(q0, .inr (7, [.ref mo, .ref sq, .ref ba, .ref po, .ref un, .ref su, .int (nI L), .long (lN iv)])), (mo, .inl (cJ, 64, .inr (.inl (lR nd)))), (su, .inl (cJ, 66, .inr (.inl (lR sd)))), (x, .inl (cJ, 64, .inr (.inl (lR xd)))), (y, .inl (cJ, 64, .inr (.inl (lR yd))))] sz)) 0 0 (va_A [(q0, .inr (7, [.ref mo, .ref sq, .ref ba, .ref po, .ref un, .ref su, .int (nI L), .long (lN iv)])), (mo, .inl (cJ, 64, .inr (.inl (lR nd)))), (su, .inl (cJ, 66, .inr (.inl (lR sd)))), (x, .inl (cJ, 64, .inr (.inl (lR xd)))), (y, .inl (cJ, 64, .inr (.inl (lR yd))))] sz) := by
  refine Met.ofW (cc := b_Rsa_multiply) (maxL := 14) (ret := none) (by decide) rfl ?_
  intro p e s m args below meth c s₁ B hml hv
  obtain ⟨rfl, hsz, hB0, hP, hK, hD0, hN, hT0⟩ := hv
  have hx := B.exec
  have hb := B.bytes
  have hr := B.returns
  have hts := atoms_spec (ws := w_Rsa_multiply) B.pre
  have tbin : ∀ w ∈ tb, w ∈ w_Rsa_multiply := fun w h => List.mem_cons_of_mem _ h
  have htb : ∀ w ∈ tb, w.before _ s = true := fun w h => hts w (tbin w h)
  have hown : s.vm.findClass "TrustChain$Rsa" = some m.cls := findClass_of_methodNamed B.named
  have hlocks := B.notSynchronized
  subst hsz
  have hD := hD0.self (sz := s.heap.size)
  generalize hAe : va_A [(q0, .inr (7, [.ref mo, .ref sq, .ref ba, .ref po, .ref un, .ref su, .int (nI L), .long (lN iv)])), (mo, .inl (cJ, 64, .inr (.inl (lR nd)))), (su, .inl (cJ, 66, .inr (.inl (lR sd)))), (x, .inl (cJ, 64, .inr (.inl (lR xd)))), (y, .inl (cJ, 64, .inr (.inl (lR yd))))] s.heap.size = A at hD ⊢
  have hA : ∀ q : Nat, s.heap.size ≤ q → A q := fun q h => by rw [← hAe]; exact Or.inr h
  have hAs : ∀ q : Nat, A q → sb.1 ≤ q := fun q h => by
    rw [← hAe] at h
    rcases h with ⟨k, e, h⟩ | h
    · exact hD0.2 k _ h
    · exact Nat.le_trans hB0 h
  have hS : va_S A s.heap s.heap [] := va_S.rf
  have hcs : 0 ≤ (headSpec w_Rsa_multiply ({ frames := 1, cells := 0, slots := 0, locals := 28 })).room.cells ∧ 0 ≤ (headSpec w_Rsa_multiply ({ frames := 1, cells := 0, slots := 0, locals := 28 })).room.slots := ⟨Nat.le_refl _, Nat.le_refl _⟩
  have hP : va_P (dC, dI) classes [(q0, .inr (7, [.ref mo, .ref sq, .ref ba, .ref po, .ref un, .ref su, .int (nI L), .long (lN iv)])), (mo, .inl (cJ, 64, .inr (.inl (lR nd)))), (su, .inl (cJ, 66, .inr (.inl (lR sd)))), (x, .inl (cJ, 64, .inr (.inl (lR xd)))), (y, .inl (cJ, 64, .inr (.inl (lR yd))))] s.heap := hP
  have hl := lv_entry ([.ref q0, .ref x, .ref y, .ref x]) (n := 14) (Nat.le_of_ble_eq_true rfl)
  rw [lg_entry_eq]
  generalize (lg_sl ([.ref q0, .ref x, .ref y, .ref x]) ++ List.replicate (14 - (lg_sl ([.ref q0, .ref x, .ref y, .ref x])).length) Slot.unset).toArray = ls at hl ⊢
  have hl : lv_has ls 14 [(0, .ref q0), (1, .ref x), (2, .ref y), (3, .ref x)] := hl
  refine lv_aload_n hx hb d_Rsa_multiply_0 rfl (lv_at hl 0 rfl) ?_
  refine va_get (v := .ref su) hx hb htb i_Rsa hown hK hP 0 rfl rfl 5 (by decide) (htb _ q1_90) (fun _ h9 => h9) rfl d_Rsa_multiply_1 ?_
  refine lv_lconst (v := 0) hx hb d_Rsa_multiply_4 (by decide) ?_
  have hFc := va_free (wc := [(su, .inl (cJ, 66, .inr (.inl (lR sd))))]) hD hS hA [2] rfl
  refine va_callv (mu_runS (As := [.ref su, .long 0]) (rest := []) ⟨hx, hb, hml, hown, hts⟩ tbin (x_fill l dC dI sb su 66 cJ (lR sd) 0 s.heap.size (by decide)) q5_189 q5_190 q1_17 q5_191 (n := 2) (by decide +kernel) rfl ⟨rfl, rfl⟩ ⟨Nat.le_of_ble_eq_true rfl, Nat.le_of_ble_eq_true rfl⟩ ⟨Nat.le_of_ble_eq_true rfl, Nat.le_of_ble_eq_true rfl⟩ hN (hT0.keep hS hAs) hAs (Nat.le_trans hB0 hS.1) hK hP hD [2] (by decide) rfl [0] rfl hl.1 rfl (Nat.le_of_ble_eq_true rfl) d_Rsa_multiply_5) hS (fun q _ h => hFc q h) hFc (fun u5 tS H5 locs ht hvm hw5 hB hz1 hk1 hS => ?_)
  obtain ⟨_, rfl⟩ : ∃ z, z = u5 := ⟨_, rfl⟩
  obtain ⟨hP1, hK1, hD1⟩ := hB
  rw [ht] at hP1
  obtain ⟨hP, hD⟩ := va_join (wr := [(q0, .inr (7, [.ref mo, .ref sq, .ref ba, .ref po, .ref un, .ref su, .int (nI L), .long (lN iv)])), (mo, .inl (cJ, 64, .inr (.inl (lR nd)))), (x, .inl (cJ, 64, .inr (.inl (lR xd)))), (y, .inl (cJ, 64, .inr (.inl (lR yd))))]) (w1 := [(su, .inl (cJ, 66, .inr (.inl (flL (lR sd) 0 66))))]) hP hD [2] [0, 1, 3, 4] rfl rfl (by decide) (by decide) hk1 hFc hP1 hD1
  have hP : va_P (dC, dI) classes [(q0, .inr (7, [.ref mo, .ref sq, .ref ba, .ref po, .ref un, .ref su, .int (nI L), .long (lN iv)])), (mo, .inl (cJ, 64, .inr (.inl (lR nd)))), (x, .inl (cJ, 64, .inr (.inl (lR xd)))), (y, .inl (cJ, 64, .inr (.inl (lR yd)))), (su, .inl (cJ, 66, .inr (.inl (flL (lR sd) 0 66))))] H5 := hP
  have hD : va_D A [(q0, .inr (7, [.ref mo, .ref sq, .ref ba, .ref po, .ref un, .ref su, .int (nI L), .long (lN iv)])), (mo, .inl (cJ, 64, .inr (.inl (lR nd)))), (x, .inl (cJ, 64, .inr (.inl (lR xd)))), (y, .inl (cJ, 64, .inr (.inl (lR yd)))), (su, .inl (cJ, 66, .inr (.inl (flL (lR sd) 0 66))))] := hD
  rw [flL_z] at hP hD
  have hP : va_P (dC, dI) classes [(q0, .inr (7, [.ref mo, .ref sq, .ref ba, .ref po, .ref un, .ref su, .int (nI L), .long (lN iv)])), (mo, .inl (cJ, 64, .inr (.inl (lR nd)))), (x, .inl (cJ, 64, .inr (.inl (lR xd)))), (y, .inl (cJ, 64, .inr (.inl (lR yd)))), (su, .inl (cJ, 66, .inr (.inl (lR (zG sd 66)))))] H5 := hP
  have hD : va_D A [(q0, .inr (7, [.ref mo, .ref sq, .ref ba, .ref po, .ref un, .ref su, .int (nI L), .long (lN iv)])), (mo, .inl (cJ, 64, .inr (.inl (lR nd)))), (x, .inl (cJ, 64, .inr (.inl (lR xd)))), (y, .inl (cJ, 64, .inr (.inl (lR yd)))), (su, .inl (cJ, 66, .inr (.inl (lR (zG sd 66)))))] := hD
  refine lv_iconst (v := 0) hx hb d_Rsa_multiply_8 (by decide) ?_
  refine lv_istore (lv' := [(4, .int 0), (0, .ref q0), (1, .ref x), (2, .ref y), (3, .ref x)]) hx hb d_Rsa_multiply_9 hl (by decide) rfl (fun ls hl => ?_)
  refine w_loopW (α := Nat × (Nat → Nat)) (fun z => z.1 ≤ L ∧ (∀ j, z.2 j < 4294967296) ∧ vB 4294967296 z.2 (L + 1) < 2 * vB 4294967296 nd L ∧ ∃ F, vB 4294967296 z.2 (L + 1) * 4294967296 ^ z.1 = vB 4294967296 xd L * vB 4294967296 yd z.1 + F * vB 4294967296 nd L) (fun z => L - z.1) (fun z => [(0, .ref q0), (1, .ref x), (2, .ref y), (3, .ref x), (4, .int (nI z.1))]) (fun _ => []) (fun z => [(q0, .inr (7, [.ref mo, .ref sq, .ref ba, .ref po, .ref un, .ref su, .int (nI L), .long (lN iv)])), (mo, .inl (cJ, 64, .inr (.inl (lR nd)))), (su, .inl (cJ, 66, .inr (.inl (lR z.2)))), (x, .inl (cJ, 64, .inr (.inl (lR xd)))), (y, .inl (cJ, 64, .inr (.inl (lR yd))))]) 14 11 (fun z HL11 locs ls hJ hP hD hS hl ih => ?_) (0, zG sd 66) _ _ ls (⟨Nat.zero_le _, fun j => (by show zG sd 66 j < 4294967296; unfold zG; split <;> first | decide | exact hs j), by rw [vB_z (L + 1) (by omega)]; omega, 0, by rw [vB_z (L + 1) (by omega), Nat.zero_mul, Nat.zero_mul]; rfl⟩) (hP.sub [0, 1, 4, 2, 3] rfl) (hD.sub [0, 1, 4, 2, 3] (by decide) rfl) hS (lv_sub hl [1, 2, 3, 4, 0] rfl)
  have hP : va_P (dC, dI) classes [(q0, .inr (7, [.ref mo, .ref sq, .ref ba, .ref po, .ref un, .ref su, .int (nI L), .long (lN iv)])), (mo, .inl (cJ, 64, .inr (.inl (lR nd)))), (su, .inl (cJ, 66, .inr (.inl (lR z.2)))), (x, .inl (cJ, 64, .inr (.inl (lR xd)))), (y, .inl (cJ, 64, .inr (.inl (lR yd))))] HL11 := hP
  have hD : va_D A [(q0, .inr (7, [.ref mo, .ref sq, .ref ba, .ref po, .ref un, .ref su, .int (nI L), .long (lN iv)])), (mo, .inl (cJ, 64, .inr (.inl (lR nd)))), (su, .inl (cJ, 66, .inr (.inl (lR z.2)))), (x, .inl (cJ, 64, .inr (.inl (lR xd)))), (y, .inl (cJ, 64, .inr (.inl (lR yd))))] := hD
  refine lv_iload hx hb d_Rsa_multiply_11 (lv_at hl 4 rfl) ?_
  refine lv_aload_n hx hb d_Rsa_multiply_13 rfl (lv_at hl 0 rfl) ?_
  refine va_get (v := .int (nI L)) hx hb htb i_Rsa hown hK hP 0 rfl rfl 6 (by decide) (htb _ q1_91) (fun _ h9 => h9) rfl d_Rsa_multiply_14 ?_
  refine lv_icmp_ge (tgt := 242) hx hb d_Rsa_multiply_17 (by decide) (fun c17 => ?_) (fun c17 => ?_)
  · have p17 : L ≤ z.1 := ((nI_leI (a := L) (b := z.1) (by omega) (by omega)).mp c17)
    refine lv_aload_n hx hb d_Rsa_multiply_242 rfl (lv_at hl 0 rfl) ?_
    refine lv_aload_n hx hb d_Rsa_multiply_243 rfl (lv_at hl 3 rfl) ?_
    have hFc := va_free (wc := [(q0, .inr (7, [.ref mo, .ref sq, .ref ba, .ref po, .ref un, .ref su, .int (nI L), .long (lN iv)])), (mo, .inl (cJ, 64, .inr (.inl (lR nd)))), (su, .inl (cJ, 66, .inr (.inl (lR z.2)))), (x, .inl (cJ, 64, .inr (.inl (lR xd))))]) hD hS hA [0, 1, 2, 3] rfl
    refine va_callv (mu_runV (As := [.ref x]) (rest := []) ⟨hx, hb, hml, hown, hts⟩ tbin (x_Rsa_settle l dC dI sb q0 mo sq ba po un su L (lN iv) cJ x nd z.2 xd HL11.size hL1 hL2 hn hJ.2.1 hxd hJ.2.2.1) q5_205 q5_207 qp_24 q1_6 q5_208 (n := 1) (by decide +kernel) rfl ⟨rfl, rfl⟩ ⟨Nat.le_of_ble_eq_true rfl, Nat.le_of_ble_eq_true rfl⟩ ⟨Nat.le_of_ble_eq_true rfl, Nat.le_of_ble_eq_true rfl⟩ hN (hT0.keep hS hAs) hAs (Nat.le_trans hB0 hS.1) hK hP hD [0, 1, 2, 3] (by decide) rfl [0] rfl 0 7 rfl rfl rfl hl.1 rfl (Nat.le_of_ble_eq_true rfl) d_Rsa_multiply_244) hS (fun q _ h => hFc q h) hFc (fun u244 tS H244 locs ht hvm hw244 hB hz1 hk1 hS => ?_)
    obtain ⟨r244, rfl⟩ : ∃ z, z = u244 := ⟨_, rfl⟩
    obtain ⟨hP1, hK1, hD1⟩ := hB
    rw [ht] at hP1
    obtain ⟨hP, hD⟩ := va_join (wr := [(y, .inl (cJ, 64, .inr (.inl (lR yd))))]) (w1 := [(q0, .inr (7, [.ref mo, .ref sq, .ref ba, .ref po, .ref un, .ref su, .int (nI L), .long (lN iv)])), (mo, .inl (cJ, 64, .inr (.inl (lR nd)))), (su, .inl (cJ, 66, .inr (.inl (lR z.2)))), (x, .inl (cJ, 64, .inr (.inl (lR r244))))]) hP hD [0, 1, 2, 3] [4] rfl rfl (by decide) (by decide) hk1 hFc hP1 hD1
    have hP : va_P (dC, dI) classes [(y, .inl (cJ, 64, .inr (.inl (lR yd)))), (q0, .inr (7, [.ref mo, .ref sq, .ref ba, .ref po, .ref un, .ref su, .int (nI L), .long (lN iv)])), (mo, .inl (cJ, 64, .inr (.inl (lR nd)))), (su, .inl (cJ, 66, .inr (.inl (lR z.2)))), (x, .inl (cJ, 64, .inr (.inl (lR r244))))] H244 := hP
    have hD : va_D A [(y, .inl (cJ, 64, .inr (.inl (lR yd)))), (q0, .inr (7, [.ref mo, .ref sq, .ref ba, .ref po, .ref un, .ref su, .int (nI L), .long (lN iv)])), (mo, .inl (cJ, 64, .inr (.inl (lR nd)))), (su, .inl (cJ, 66, .inr (.inl (lR z.2)))), (x, .inl (cJ, 64, .inr (.inl (lR r244))))] := hD
    exact W.vret hx hb hr (fun t ht hW => ⟨⟨(r244, z.2), rfl, mul_fin hJ (by omega) hw244, by rw [ht]; exact hP.sub [1, 2, 3, 4, 0] rfl, va_K.moved hW.alike hK, hD.sub [1, 2, 3, 4, 0] (by decide) rfl⟩, hS.F ht⟩) hS.2.2 d_Rsa_multiply_247
  · have p17 : ¬ (L ≤ z.1) := (fun q9 => c17 ((nI_leI (a := L) (b := z.1) (by omega) (by omega)).mpr q9))
    refine lv_lconst (v := 0) hx hb d_Rsa_multiply_20 (by decide) ?_
    refine lv_lstore (lv' := [(5, .long 0), (0, .ref q0), (1, .ref x), (2, .ref y), (3, .ref x), (4, .int (nI z.1))]) hx hb d_Rsa_multiply_21 hl (by decide) rfl (fun ls hl => ?_)
    refine lv_iconst (v := 0) hx hb d_Rsa_multiply_23 (by decide) ?_
    refine lv_istore (lv' := [(7, .int 0), (5, .long 0), (0, .ref q0), (1, .ref x), (2, .ref y), (3, .ref x), (4, .int (nI z.1))]) hx hb d_Rsa_multiply_24 hl (by decide) rfl (fun ls hl => ?_)
    refine w_loopW (α := Nat × (Nat → Nat) × Nat) (fun u => u.1 ≤ L ∧ (∀ j, u.2.1 j < 4294967296) ∧ (∀ j, u.1 ≤ j → u.2.1 j = z.2 j) ∧ u.2.2 < 4294967296 ∧ vB 4294967296 u.2.1 u.1 + u.2.2 * 4294967296 ^ u.1 = vB 4294967296 z.2 u.1 + vB 4294967296 xd u.1 * yd z.1) (fun u => L - u.1) (fun u => [(0, .ref q0), (1, .ref x), (2, .ref y), (3, .ref x), (4, .int (nI z.1)), (5, .long (lN u.2.2)), (7, .int (nI u.1))]) (fun _ => []) (fun u => [(q0, .inr (7, [.ref mo, .ref sq, .ref ba, .ref po, .ref un, .ref su, .int (nI L), .long (lN iv)])), (mo, .inl (cJ, 64, .inr (.inl (lR nd)))), (su, .inl (cJ, 66, .inr (.inl (lR u.2.1)))), (x, .inl (cJ, 64, .inr (.inl (lR xd)))), (y, .inl (cJ, 64, .inr (.inl (lR yd))))]) 14 26 (fun u HL26 locs ls hJ1 hP hD hS hl ih1 => ?_) (0, z.2, 0) _ _ ls (⟨Nat.zero_le _, hJ.2.1, fun _ _ => rfl, (by show (0 : Nat) < 4294967296; decide), (by show 0 + 0 * 4294967296 ^ 0 = 0 + 0 * _; rw [Nat.zero_mul, Nat.zero_mul])⟩) hP hD hS (lv_sub hl [2, 3, 4, 5, 6, 1, 0] rfl)
    have hP : va_P (dC, dI) classes [(q0, .inr (7, [.ref mo, .ref sq, .ref ba, .ref po, .ref un, .ref su, .int (nI L), .long (lN iv)])), (mo, .inl (cJ, 64, .inr (.inl (lR nd)))), (su, .inl (cJ, 66, .inr (.inl (lR u.2.1)))), (x, .inl (cJ, 64, .inr (.inl (lR xd)))), (y, .inl (cJ, 64, .inr (.inl (lR yd))))] HL26 := hP
    have hD : va_D A [(q0, .inr (7, [.ref mo, .ref sq, .ref ba, .ref po, .ref un, .ref su, .int (nI L), .long (lN iv)])), (mo, .inl (cJ, 64, .inr (.inl (lR nd)))), (su, .inl (cJ, 66, .inr (.inl (lR u.2.1)))), (x, .inl (cJ, 64, .inr (.inl (lR xd)))), (y, .inl (cJ, 64, .inr (.inl (lR yd))))] := hD
    refine lv_iload hx hb d_Rsa_multiply_26 (lv_at hl 6 rfl) ?_
    refine lv_aload_n hx hb d_Rsa_multiply_28 rfl (lv_at hl 0 rfl) ?_
    refine va_get (v := .int (nI L)) hx hb htb i_Rsa hown hK hP 0 rfl rfl 6 (by decide) (htb _ q1_91) (fun _ h9 => h9) rfl d_Rsa_multiply_29 ?_
    refine lv_icmp_ge (tgt := 83) hx hb d_Rsa_multiply_32 (by decide) (fun c32 => ?_) (fun c32 => ?_)
    · have p32 : L ≤ u.1 := ((nI_leI (a := L) (b := u.1) (by omega) (by omega)).mp c32)
      have hu9 : u.1 = L := by omega
      refine lv_aload_n hx hb d_Rsa_multiply_83 rfl (lv_at hl 0 rfl) ?_
      refine va_get (v := .ref su) hx hb htb i_Rsa hown hK hP 0 rfl rfl 5 (by decide) (htb _ q1_90) (fun _ h9 => h9) rfl d_Rsa_multiply_84 ?_
      refine lv_aload_n hx hb d_Rsa_multiply_87 rfl (lv_at hl 0 rfl) ?_
      refine va_get (v := .int (nI L)) hx hb htb i_Rsa hown hK hP 0 rfl rfl 6 (by decide) (htb _ q1_91) (fun _ h9 => h9) rfl d_Rsa_multiply_88 ?_
      have h91 : vp_in (nI L) 66 := vp_in_nI (by omega) (by omega)
      refine va_lald hx hb hK hP 2 0 rfl rfl h91 d_Rsa_multiply_91 ?_
      rw [show lR u.2.1 (nI L).toNatClampNeg = lN (u.2.1 L) from by rw [nI_clamp (by omega)]; rfl]
      refine lv_lload hx hb d_Rsa_multiply_92 (lv_at hl 5 rfl) ?_
      refine lv_ladd hx hb d_Rsa_multiply_94 ?_
      rw [show (lN (u.2.1 L) + lN u.2.2 : Int64) = lN ((u.2.1 L) + u.2.2) from lN_add _ _]
      obtain ⟨g95, hg95⟩ : ∃ g : Nat, g = ((u.2.1 L) + u.2.2) := ⟨_, rfl⟩
      rw [← hg95]
      refine lv_lstore (lv' := [(7, .long (lN g95)), (0, .ref q0), (1, .ref x), (2, .ref y), (3, .ref x), (4, .int (nI z.1)), (5, .long (lN u.2.2))]) hx hb d_Rsa_multiply_95 hl (by decide) rfl (fun ls hl => ?_)
      refine lv_aload_n hx hb d_Rsa_multiply_97 rfl (lv_at hl 1 rfl) ?_
      refine va_get (v := .ref su) hx hb htb i_Rsa hown hK hP 0 rfl rfl 5 (by decide) (htb _ q1_90) (fun _ h9 => h9) rfl d_Rsa_multiply_98 ?_
      refine lv_iconst (v := 0) hx hb d_Rsa_multiply_101 (by decide) ?_
      have h102 : vp_in (0 : Int32) 66 := by unfold vp_in; decide
      refine va_lald hx hb hK hP 2 0 rfl rfl h102 d_Rsa_multiply_102 ?_
      rw [show lR u.2.1 (0 : Int32).toNatClampNeg = lN (u.2.1 0) from rfl]
      refine lv_aload_n hx hb d_Rsa_multiply_103 rfl (lv_at hl 1 rfl) ?_
      refine va_get (v := .long (lN iv)) hx hb htb i_Rsa hown hK hP 0 rfl rfl 7 (by decide) (htb _ q1_92) (fun _ h9 => h9) rfl d_Rsa_multiply_104 ?_
      refine lv_lmul hx hb d_Rsa_multiply_107 ?_
      rw [show (lN (u.2.1 0) * lN iv : Int64) = lN ((u.2.1 0) * iv) from lN_mul _ _]
      have hb112 : u.2.1 0 * iv < 18446744073709551616 := by have h1 := mul_b (hJ1.2.1 0) hiv; omega
      refine lv_ldc2 (v := 4294967295) hx hb hown (htb _ q5_202) d_Rsa_multiply_108 ?_
      refine lv_land hx hb d_Rsa_multiply_111 ?_
      rw [show (lN ((u.2.1 0) * iv) &&& 4294967295 : Int64) = lN (((u.2.1 0) * iv) % 4294967296) from l_low hb112]
      obtain ⟨g112, hg112⟩ : ∃ g : Nat, g = (((u.2.1 0) * iv) % 4294967296) := ⟨_, rfl⟩
      rw [← hg112]
      refine lv_lstore (lv' := [(9, .long (lN g112)), (7, .long (lN g95)), (0, .ref q0), (1, .ref x), (2, .ref y), (3, .ref x), (4, .int (nI z.1)), (5, .long (lN u.2.2))]) hx hb d_Rsa_multiply_112 hl (by decide) rfl (fun ls hl => ?_)
      have hf9 : g112 < 4294967296 := by rw [hg112]; exact Nat.mod_lt _ (by decide)
      refine lv_aload_n hx hb d_Rsa_multiply_114 rfl (lv_at hl 2 rfl) ?_
      refine va_get (v := .ref su) hx hb htb i_Rsa hown hK hP 0 rfl rfl 5 (by decide) (htb _ q1_90) (fun _ h9 => h9) rfl d_Rsa_multiply_115 ?_
      refine lv_iconst (v := 0) hx hb d_Rsa_multiply_118 (by decide) ?_
      have h119 : vp_in (0 : Int32) 66 := by unfold vp_in; decide
      refine va_lald hx hb hK hP 2 0 rfl rfl h119 d_Rsa_multiply_119 ?_
      rw [show lR u.2.1 (0 : Int32).toNatClampNeg = lN (u.2.1 0) from rfl]
      refine lv_lload hx hb d_Rsa_multiply_120 (lv_at hl 0 rfl) ?_
      refine lv_aload_n hx hb d_Rsa_multiply_122 rfl (lv_at hl 2 rfl) ?_
      refine va_get (v := .ref mo) hx hb htb i_Rsa hown hK hP 0 rfl rfl 0 (by decide) (htb _ q1_85) (fun _ h9 => h9) rfl d_Rsa_multiply_123 ?_
      refine lv_iconst (v := 0) hx hb d_Rsa_multiply_126 (by decide) ?_
      have h127 : vp_in (0 : Int32) 64 := by unfold vp_in; decide
      refine va_lald hx hb hK hP 1 0 rfl rfl h127 d_Rsa_multiply_127 ?_
      rw [show lR nd (0 : Int32).toNatClampNeg = lN (nd 0) from rfl]
      refine lv_lmul hx hb d_Rsa_multiply_128 ?_
      rw [show (lN g112 * lN (nd 0) : Int64) = lN (g112 * (nd 0)) from lN_mul _ _]
      refine lv_ladd hx hb d_Rsa_multiply_129 ?_
      rw [show (lN (u.2.1 0) + lN (g112 * (nd 0)) : Int64) = lN ((u.2.1 0) + (g112 * (nd 0))) from lN_add _ _]
      have hb130 : u.2.1 0 + g112 * nd 0 < 18446744073709551616 := by have h1 := mul_b hf9 (hn 0); have h2 := hJ1.2.1 0; omega
      refine lv_bipush (v := 32) hx hb d_Rsa_multiply_130 (by decide) ?_
      refine lv_lushr (v := ((lN ((u.2.1 0) + (g112 * (nd 0)))).toUInt64 >>> ((32 : Int32).toInt64.toUInt64 &&& Int64.toUInt64 63)).toInt64) hx hb d_Rsa_multiply_132 rfl ?_
      rw [show (((lN ((u.2.1 0) + (g112 * (nd 0)))).toUInt64 >>> ((32 : Int32).toInt64.toUInt64 &&& Int64.toUInt64 63)).toInt64 : Int64) = lN (((u.2.1 0) + (g112 * (nd 0))) / 4294967296) from l_hi hb130]
      obtain ⟨g133, hg133⟩ : ∃ g : Nat, g = (((u.2.1 0) + (g112 * (nd 0))) / 4294967296) := ⟨_, rfl⟩
      rw [← hg133]
      refine lv_lstore (lv' := [(5, .long (lN g133)), (9, .long (lN g112)), (7, .long (lN g95)), (0, .ref q0), (1, .ref x), (2, .ref y), (3, .ref x), (4, .int (nI z.1))]) hx hb d_Rsa_multiply_133 hl (by decide) rfl (fun ls hl => ?_)
      refine lv_iconst (v := 1) hx hb d_Rsa_multiply_135 (by decide) ?_
      refine lv_istore (lv' := [(11, .int 1), (5, .long (lN g133)), (9, .long (lN g112)), (7, .long (lN g95)), (0, .ref q0), (1, .ref x), (2, .ref y), (3, .ref x), (4, .int (nI z.1))]) hx hb d_Rsa_multiply_136 hl (by decide) rfl (fun ls hl => ?_)
      refine w_loopW (α := Nat × (Nat → Nat) × Nat) (fun v => 1 ≤ v.1 ∧ v.1 ≤ L ∧ (∀ j, v.2.1 j < 4294967296) ∧ (∀ j, v.1 - 1 ≤ j → v.2.1 j = u.2.1 j) ∧ v.2.2 < 4294967296 ∧ 4294967296 * vB 4294967296 v.2.1 (v.1 - 1) + v.2.2 * 4294967296 ^ v.1 = vB 4294967296 u.2.1 v.1 + g112 * vB 4294967296 nd v.1) (fun v => L - v.1) (fun v => [(0, .ref q0), (1, .ref x), (2, .ref y), (3, .ref x), (4, .int (nI z.1)), (7, .long (lN g95)), (9, .long (lN g112)), (5, .long (lN v.2.2)), (11, .int (nI v.1))]) (fun _ => []) (fun v => [(q0, .inr (7, [.ref mo, .ref sq, .ref ba, .ref po, .ref un, .ref su, .int (nI L), .long (lN iv)])), (mo, .inl (cJ, 64, .inr (.inl (lR nd)))), (su, .inl (cJ, 66, .inr (.inl (lR v.2.1)))), (x, .inl (cJ, 64, .inr (.inl (lR xd)))), (y, .inl (cJ, 64, .inr (.inl (lR yd))))]) 14 138 (fun v HL138 locs ls hJ2 hP hD hS hl ih2 => ?_) (1, u.2.1, g133) _ _ ls (mb_init hL1 hJ1.2.1 hf9 (hn 0) hiv0 hg112 hg133) hP hD hS (lv_sub hl [4, 5, 6, 7, 8, 3, 2, 1, 0] rfl)
      have hP : va_P (dC, dI) classes [(q0, .inr (7, [.ref mo, .ref sq, .ref ba, .ref po, .ref un, .ref su, .int (nI L), .long (lN iv)])), (mo, .inl (cJ, 64, .inr (.inl (lR nd)))), (su, .inl (cJ, 66, .inr (.inl (lR v.2.1)))), (x, .inl (cJ, 64, .inr (.inl (lR xd)))), (y, .inl (cJ, 64, .inr (.inl (lR yd))))] HL138 := hP
      have hD : va_D A [(q0, .inr (7, [.ref mo, .ref sq, .ref ba, .ref po, .ref un, .ref su, .int (nI L), .long (lN iv)])), (mo, .inl (cJ, 64, .inr (.inl (lR nd)))), (su, .inl (cJ, 66, .inr (.inl (lR v.2.1)))), (x, .inl (cJ, 64, .inr (.inl (lR xd)))), (y, .inl (cJ, 64, .inr (.inl (lR yd))))] := hD
      refine lv_iload hx hb d_Rsa_multiply_138 (lv_at hl 8 rfl) ?_
      refine lv_aload_n hx hb d_Rsa_multiply_140 rfl (lv_at hl 0 rfl) ?_
      refine va_get (v := .int (nI L)) hx hb htb i_Rsa hown hK hP 0 rfl rfl 6 (by decide) (htb _ q1_91) (fun _ h9 => h9) rfl d_Rsa_multiply_141 ?_
      refine lv_icmp_ge (tgt := 198) hx hb d_Rsa_multiply_144 (by decide) (fun c144 => ?_) (fun c144 => ?_)
      · have p144 : L ≤ v.1 := ((nI_leI (a := L) (b := v.1) (by omega) (by omega)).mp c144)
        refine lv_lload hx hb d_Rsa_multiply_198 (lv_at hl 5 rfl) ?_
        refine lv_lload hx hb d_Rsa_multiply_200 (lv_at hl 7 rfl) ?_
        refine lv_ladd hx hb d_Rsa_multiply_202 ?_
        rw [show (lN g95 + lN v.2.2 : Int64) = lN (g95 + v.2.2) from lN_add _ _]
        obtain ⟨g203, hg203⟩ : ∃ g : Nat, g = (g95 + v.2.2) := ⟨_, rfl⟩
        rw [← hg203]
        have h7_ := hJ1.2.1 L
        have h8_ := hJ1.2.2.2.1
        refine lv_lstore (lv' := [(7, .long (lN g203)), (0, .ref q0), (1, .ref x), (2, .ref y), (3, .ref x), (4, .int (nI z.1)), (9, .long (lN g112)), (5, .long (lN v.2.2)), (11, .int (nI v.1))]) hx hb d_Rsa_multiply_203 hl (by decide) rfl (fun ls hl => ?_)
        refine lv_aload_n hx hb d_Rsa_multiply_205 rfl (lv_at hl 1 rfl) ?_
        refine va_get (v := .ref su) hx hb htb i_Rsa hown hK hP 0 rfl rfl 5 (by decide) (htb _ q1_90) (fun _ h9 => h9) rfl d_Rsa_multiply_206 ?_
        refine lv_aload_n hx hb d_Rsa_multiply_209 rfl (lv_at hl 1 rfl) ?_
        refine va_get (v := .int (nI L)) hx hb htb i_Rsa hown hK hP 0 rfl rfl 6 (by decide) (htb _ q1_91) (fun _ h9 => h9) rfl d_Rsa_multiply_210 ?_
        refine lv_iconst (v := 1) hx hb d_Rsa_multiply_213 (by decide) ?_
        refine lv_isub hx hb d_Rsa_multiply_214 ?_
        rw [show ((nI L) - 1 : Int32) = nI (L - 1) from pk_sub (a := L) (b := 1) (by omega)]
        refine lv_lload hx hb d_Rsa_multiply_215 (lv_at hl 0 rfl) ?_
        refine lv_ldc2 (v := 4294967295) hx hb hown (htb _ q5_202) d_Rsa_multiply_217 ?_
        refine lv_land hx hb d_Rsa_multiply_220 ?_
        rw [show (lN g203 &&& 4294967295 : Int64) = lN (g203 % 4294967296) from l_low (by omega)]
        have h221 : vp_in (nI (L - 1)) 66 := vp_in_nI (by omega) (by omega)
        refine va_last hx hb hK hP hD hS 2 0 rfl rfl h221 d_Rsa_multiply_221 (fun H221 locs hP hD hS => ?_)
        rw [nI_clamp (by omega), lR_up] at hP hD
        have hP : va_P (dC, dI) classes [(q0, .inr (7, [.ref mo, .ref sq, .ref ba, .ref po, .ref un, .ref su, .int (nI L), .long (lN iv)])), (mo, .inl (cJ, 64, .inr (.inl (lR nd)))), (su, .inl (cJ, 66, .inr (.inl (lR (updN v.2.1 (L - 1) (g203 % 4294967296)))))), (x, .inl (cJ, 64, .inr (.inl (lR xd)))), (y, .inl (cJ, 64, .inr (.inl (lR yd))))] H221 := hP
        have hD : va_D A [(q0, .inr (7, [.ref mo, .ref sq, .ref ba, .ref po, .ref un, .ref su, .int (nI L), .long (lN iv)])), (mo, .inl (cJ, 64, .inr (.inl (lR nd)))), (su, .inl (cJ, 66, .inr (.inl (lR (updN v.2.1 (L - 1) (g203 % 4294967296)))))), (x, .inl (cJ, 64, .inr (.inl (lR xd)))), (y, .inl (cJ, 64, .inr (.inl (lR yd))))] := hD
        refine lv_aload_n hx hb d_Rsa_multiply_222 rfl (lv_at hl 1 rfl) ?_
        refine va_get (v := .ref su) hx hb htb i_Rsa hown hK hP 0 rfl rfl 5 (by decide) (htb _ q1_90) (fun _ h9 => h9) rfl d_Rsa_multiply_223 ?_
        refine lv_aload_n hx hb d_Rsa_multiply_226 rfl (lv_at hl 1 rfl) ?_
        refine va_get (v := .int (nI L)) hx hb htb i_Rsa hown hK hP 0 rfl rfl 6 (by decide) (htb _ q1_91) (fun _ h9 => h9) rfl d_Rsa_multiply_227 ?_
        refine lv_lload hx hb d_Rsa_multiply_230 (lv_at hl 0 rfl) ?_
        refine lv_bipush (v := 32) hx hb d_Rsa_multiply_232 (by decide) ?_
        refine lv_lushr (v := ((lN g203).toUInt64 >>> ((32 : Int32).toInt64.toUInt64 &&& Int64.toUInt64 63)).toInt64) hx hb d_Rsa_multiply_234 rfl ?_
        rw [show (((lN g203).toUInt64 >>> ((32 : Int32).toInt64.toUInt64 &&& Int64.toUInt64 63)).toInt64 : Int64) = lN (g203 / 4294967296) from l_hi (by omega)]
        have h235 : vp_in (nI L) 66 := vp_in_nI (by omega) (by omega)
        refine va_last hx hb hK hP hD hS 2 0 rfl rfl h235 d_Rsa_multiply_235 (fun H235 locs hP hD hS => ?_)
        rw [nI_clamp (by omega), lR_up] at hP hD
        have hP : va_P (dC, dI) classes [(q0, .inr (7, [.ref mo, .ref sq, .ref ba, .ref po, .ref un, .ref su, .int (nI L), .long (lN iv)])), (mo, .inl (cJ, 64, .inr (.inl (lR nd)))), (su, .inl (cJ, 66, .inr (.inl (lR (updN (updN v.2.1 (L - 1) (g203 % 4294967296)) L (g203 / 4294967296)))))), (x, .inl (cJ, 64, .inr (.inl (lR xd)))), (y, .inl (cJ, 64, .inr (.inl (lR yd))))] H235 := hP
        have hD : va_D A [(q0, .inr (7, [.ref mo, .ref sq, .ref ba, .ref po, .ref un, .ref su, .int (nI L), .long (lN iv)])), (mo, .inl (cJ, 64, .inr (.inl (lR nd)))), (su, .inl (cJ, 66, .inr (.inl (lR (updN (updN v.2.1 (L - 1) (g203 % 4294967296)) L (g203 / 4294967296)))))), (x, .inl (cJ, 64, .inr (.inl (lR xd)))), (y, .inl (cJ, 64, .inr (.inl (lR yd))))] := hD
        refine lv_iinc (v := nI (z.1 + 1)) (lv' := [(4, .int (nI (z.1 + 1))), (7, .long (lN g203)), (0, .ref q0), (1, .ref x), (2, .ref y), (3, .ref x), (9, .long (lN g112)), (5, .long (lN v.2.2)), (11, .int (nI v.1))]) hx hb d_Rsa_multiply_236 hl (k := 5) rfl (nI_1 _) (by decide) rfl (fun ls hl => ?_)
        refine lv_goto (tgt := 11) hx hb d_Rsa_multiply_239 (by decide) ?_
        exact ih (z.1 + 1, updN (updN v.2.1 (L - 1) (g203 % 4294967296)) L (g203 / 4294967296)) _ _ ls (by show L - (z.1 + 1) < L - z.1; omega) (mul_next hL1 hx0 hbd hJ (by omega) hJ1 hJ2 (by omega) (by omega) hf9 hg95 hg203) hP hD hS (lv_sub hl [2, 3, 4, 5, 0] rfl)
      · have p144 : ¬ (L ≤ v.1) := (fun q9 => c144 ((nI_leI (a := L) (b := v.1) (by omega) (by omega)).mpr q9))
        refine lv_aload_n hx hb d_Rsa_multiply_147 rfl (lv_at hl 0 rfl) ?_
        refine va_get (v := .ref su) hx hb htb i_Rsa hown hK hP 0 rfl rfl 5 (by decide) (htb _ q1_90) (fun _ h9 => h9) rfl d_Rsa_multiply_148 ?_
        refine lv_iload hx hb d_Rsa_multiply_151 (lv_at hl 8 rfl) ?_
        have h153 : vp_in (nI v.1) 66 := vp_in_nI (by omega) (by omega)
        refine va_lald hx hb hK hP 2 0 rfl rfl h153 d_Rsa_multiply_153 ?_
        rw [show lR v.2.1 (nI v.1).toNatClampNeg = lN (v.2.1 v.1) from by rw [nI_clamp (by omega)]; rfl]
        refine lv_lload hx hb d_Rsa_multiply_154 (lv_at hl 6 rfl) ?_
        refine lv_aload_n hx hb d_Rsa_multiply_156 rfl (lv_at hl 0 rfl) ?_
        refine va_get (v := .ref mo) hx hb htb i_Rsa hown hK hP 0 rfl rfl 0 (by decide) (htb _ q1_85) (fun _ h9 => h9) rfl d_Rsa_multiply_157 ?_
        refine lv_iload hx hb d_Rsa_multiply_160 (lv_at hl 8 rfl) ?_
        have h162 : vp_in (nI v.1) 64 := vp_in_nI (by omega) (by omega)
        refine va_lald hx hb hK hP 1 0 rfl rfl h162 d_Rsa_multiply_162 ?_
        rw [show lR nd (nI v.1).toNatClampNeg = lN (nd v.1) from by rw [nI_clamp (by omega)]; rfl]
        refine lv_lmul hx hb d_Rsa_multiply_163 ?_
        rw [show (lN g112 * lN (nd v.1) : Int64) = lN (g112 * (nd v.1)) from lN_mul _ _]
        refine lv_ladd hx hb d_Rsa_multiply_164 ?_
        rw [show (lN (v.2.1 v.1) + lN (g112 * (nd v.1)) : Int64) = lN ((v.2.1 v.1) + (g112 * (nd v.1))) from lN_add _ _]
        refine lv_lload hx hb d_Rsa_multiply_165 (lv_at hl 7 rfl) ?_
        refine lv_ladd hx hb d_Rsa_multiply_167 ?_
        rw [show (lN ((v.2.1 v.1) + (g112 * (nd v.1))) + lN v.2.2 : Int64) = lN (((v.2.1 v.1) + (g112 * (nd v.1))) + v.2.2) from lN_add _ _]
        obtain ⟨g168, hg168⟩ : ∃ g : Nat, g = (((v.2.1 v.1) + (g112 * (nd v.1))) + v.2.2) := ⟨_, rfl⟩
        rw [← hg168]
        refine lv_lstore (lv' := [(12, .long (lN g168)), (0, .ref q0), (1, .ref x), (2, .ref y), (3, .ref x), (4, .int (nI z.1)), (7, .long (lN g95)), (9, .long (lN g112)), (5, .long (lN v.2.2)), (11, .int (nI v.1))]) hx hb d_Rsa_multiply_168 hl (by decide) rfl (fun ls hl => ?_)
        have hb168 : g168 < 18446744073709551616 := by have h1 := mul_b hf9 (hn v.1); have h2 := hJ2.2.2.1 v.1; have h3 := hJ2.2.2.2.2.1; omega
        refine lv_aload_n hx hb d_Rsa_multiply_170 rfl (lv_at hl 1 rfl) ?_
        refine va_get (v := .ref su) hx hb htb i_Rsa hown hK hP 0 rfl rfl 5 (by decide) (htb _ q1_90) (fun _ h9 => h9) rfl d_Rsa_multiply_171 ?_
        refine lv_iload hx hb d_Rsa_multiply_174 (lv_at hl 9 rfl) ?_
        refine lv_iconst (v := 1) hx hb d_Rsa_multiply_176 (by decide) ?_
        refine lv_isub hx hb d_Rsa_multiply_177 ?_
        rw [show ((nI v.1) - 1 : Int32) = nI (v.1 - 1) from pk_sub (a := v.1) (b := 1) (by omega)]
        refine lv_lload hx hb d_Rsa_multiply_178 (lv_at hl 0 rfl) ?_
        refine lv_ldc2 (v := 4294967295) hx hb hown (htb _ q5_202) d_Rsa_multiply_180 ?_
        refine lv_land hx hb d_Rsa_multiply_183 ?_
        rw [show (lN g168 &&& 4294967295 : Int64) = lN (g168 % 4294967296) from l_low hb168]
        have h184 : vp_in (nI (v.1 - 1)) 66 := vp_in_nI (by omega) (by omega)
        refine va_last hx hb hK hP hD hS 2 0 rfl rfl h184 d_Rsa_multiply_184 (fun H184 locs hP hD hS => ?_)
        rw [nI_clamp (by omega), lR_up] at hP hD
        have hP : va_P (dC, dI) classes [(q0, .inr (7, [.ref mo, .ref sq, .ref ba, .ref po, .ref un, .ref su, .int (nI L), .long (lN iv)])), (mo, .inl (cJ, 64, .inr (.inl (lR nd)))), (su, .inl (cJ, 66, .inr (.inl (lR (updN v.2.1 (v.1 - 1) (g168 % 4294967296)))))), (x, .inl (cJ, 64, .inr (.inl (lR xd)))), (y, .inl (cJ, 64, .inr (.inl (lR yd))))] H184 := hP
        have hD : va_D A [(q0, .inr (7, [.ref mo, .ref sq, .ref ba, .ref po, .ref un, .ref su, .int (nI L), .long (lN iv)])), (mo, .inl (cJ, 64, .inr (.inl (lR nd)))), (su, .inl (cJ, 66, .inr (.inl (lR (updN v.2.1 (v.1 - 1) (g168 % 4294967296)))))), (x, .inl (cJ, 64, .inr (.inl (lR xd)))), (y, .inl (cJ, 64, .inr (.inl (lR yd))))] := hD
        refine lv_lload hx hb d_Rsa_multiply_185 (lv_at hl 0 rfl) ?_
        refine lv_bipush (v := 32) hx hb d_Rsa_multiply_187 (by decide) ?_
        refine lv_lushr (v := ((lN g168).toUInt64 >>> ((32 : Int32).toInt64.toUInt64 &&& Int64.toUInt64 63)).toInt64) hx hb d_Rsa_multiply_189 rfl ?_
        rw [show (((lN g168).toUInt64 >>> ((32 : Int32).toInt64.toUInt64 &&& Int64.toUInt64 63)).toInt64 : Int64) = lN (g168 / 4294967296) from l_hi hb168]
        refine lv_lstore (lv' := [(5, .long (lN (g168 / 4294967296))), (12, .long (lN g168)), (0, .ref q0), (1, .ref x), (2, .ref y), (3, .ref x), (4, .int (nI z.1)), (7, .long (lN g95)), (9, .long (lN g112)), (11, .int (nI v.1))]) hx hb d_Rsa_multiply_190 hl (by decide) rfl (fun ls hl => ?_)
        refine lv_iinc (v := nI (v.1 + 1)) (lv' := [(11, .int (nI (v.1 + 1))), (5, .long (lN (g168 / 4294967296))), (12, .long (lN g168)), (0, .ref q0), (1, .ref x), (2, .ref y), (3, .ref x), (4, .int (nI z.1)), (7, .long (lN g95)), (9, .long (lN g112))]) hx hb d_Rsa_multiply_192 hl (k := 9) rfl (nI_1 _) (by decide) rfl (fun ls hl => ?_)
        refine lv_goto (tgt := 138) hx hb d_Rsa_multiply_195 (by decide) ?_
        exact ih2 (v.1 + 1, updN v.2.1 (v.1 - 1) (g168 % 4294967296), g168 / 4294967296) _ _ ls (by show L - (v.1 + 1) < L - v.1; omega) (mb_next hJ2 (by omega) hg168 hb168) hP hD hS (lv_sub hl [3, 4, 5, 6, 7, 8, 9, 1, 0] rfl)
    · have p32 : ¬ (L ≤ u.1) := (fun q9 => c32 ((nI_leI (a := L) (b := u.1) (by omega) (by omega)).mpr q9))
      refine lv_aload_n hx hb d_Rsa_multiply_35 rfl (lv_at hl 0 rfl) ?_
      refine va_get (v := .ref su) hx hb htb i_Rsa hown hK hP 0 rfl rfl 5 (by decide) (htb _ q1_90) (fun _ h9 => h9) rfl d_Rsa_multiply_36 ?_
      refine lv_iload hx hb d_Rsa_multiply_39 (lv_at hl 6 rfl) ?_
      have h41 : vp_in (nI u.1) 66 := vp_in_nI (by omega) (by omega)
      refine va_lald hx hb hK hP 2 0 rfl rfl h41 d_Rsa_multiply_41 ?_
      rw [show lR u.2.1 (nI u.1).toNatClampNeg = lN (u.2.1 u.1) from by rw [nI_clamp (by omega)]; rfl]
      refine lv_aload_n hx hb d_Rsa_multiply_42 rfl (lv_at hl 1 rfl) ?_
      refine lv_iload hx hb d_Rsa_multiply_43 (lv_at hl 6 rfl) ?_
      have h45 : vp_in (nI u.1) 64 := vp_in_nI (by omega) (by omega)
      refine va_lald hx hb hK hP 3 0 rfl rfl h45 d_Rsa_multiply_45 ?_
      rw [show lR xd (nI u.1).toNatClampNeg = lN (xd u.1) from by rw [nI_clamp (by omega)]; rfl]
      refine lv_aload_n hx hb d_Rsa_multiply_46 rfl (lv_at hl 2 rfl) ?_
      refine lv_iload hx hb d_Rsa_multiply_47 (lv_at hl 4 rfl) ?_
      have h49 : vp_in (nI z.1) 64 := vp_in_nI (by omega) (by omega)
      refine va_lald hx hb hK hP 4 0 rfl rfl h49 d_Rsa_multiply_49 ?_
      rw [show lR yd (nI z.1).toNatClampNeg = lN (yd z.1) from by rw [nI_clamp (by omega)]; rfl]
      refine lv_lmul hx hb d_Rsa_multiply_50 ?_
      rw [show (lN (xd u.1) * lN (yd z.1) : Int64) = lN ((xd u.1) * (yd z.1)) from lN_mul _ _]
      refine lv_ladd hx hb d_Rsa_multiply_51 ?_
      rw [show (lN (u.2.1 u.1) + lN ((xd u.1) * (yd z.1)) : Int64) = lN ((u.2.1 u.1) + ((xd u.1) * (yd z.1))) from lN_add _ _]
      refine lv_lload hx hb d_Rsa_multiply_52 (lv_at hl 5 rfl) ?_
      refine lv_ladd hx hb d_Rsa_multiply_54 ?_
      rw [show (lN ((u.2.1 u.1) + ((xd u.1) * (yd z.1))) + lN u.2.2 : Int64) = lN (((u.2.1 u.1) + ((xd u.1) * (yd z.1))) + u.2.2) from lN_add _ _]
      obtain ⟨g55, hg55⟩ : ∃ g : Nat, g = (((u.2.1 u.1) + ((xd u.1) * (yd z.1))) + u.2.2) := ⟨_, rfl⟩
      rw [← hg55]
      refine lv_lstore (lv' := [(8, .long (lN g55)), (0, .ref q0), (1, .ref x), (2, .ref y), (3, .ref x), (4, .int (nI z.1)), (5, .long (lN u.2.2)), (7, .int (nI u.1))]) hx hb d_Rsa_multiply_55 hl (by decide) rfl (fun ls hl => ?_)
      have hb55 : g55 < 18446744073709551616 := by have h1 := mul_b (hxd u.1) (hbd z.1); have h2 := hJ1.2.1 u.1; have h3 := hJ1.2.2.2.1; omega
      refine lv_aload_n hx hb d_Rsa_multiply_57 rfl (lv_at hl 1 rfl) ?_
      refine va_get (v := .ref su) hx hb htb i_Rsa hown hK hP 0 rfl rfl 5 (by decide) (htb _ q1_90) (fun _ h9 => h9) rfl d_Rsa_multiply_58 ?_
      refine lv_iload hx hb d_Rsa_multiply_61 (lv_at hl 7 rfl) ?_
      refine lv_lload hx hb d_Rsa_multiply_63 (lv_at hl 0 rfl) ?_
      refine lv_ldc2 (v := 4294967295) hx hb hown (htb _ q5_202) d_Rsa_multiply_65 ?_
      refine lv_land hx hb d_Rsa_multiply_68 ?_
      rw [show (lN g55 &&& 4294967295 : Int64) = lN (g55 % 4294967296) from l_low hb55]
      have h69 : vp_in (nI u.1) 66 := vp_in_nI (by omega) (by omega)
      refine va_last hx hb hK hP hD hS 2 0 rfl rfl h69 d_Rsa_multiply_69 (fun H69 locs hP hD hS => ?_)
      rw [nI_clamp (by omega), lR_up] at hP hD
      have hP : va_P (dC, dI) classes [(q0, .inr (7, [.ref mo, .ref sq, .ref ba, .ref po, .ref un, .ref su, .int (nI L), .long (lN iv)])), (mo, .inl (cJ, 64, .inr (.inl (lR nd)))), (su, .inl (cJ, 66, .inr (.inl (lR (updN u.2.1 u.1 (g55 % 4294967296)))))), (x, .inl (cJ, 64, .inr (.inl (lR xd)))), (y, .inl (cJ, 64, .inr (.inl (lR yd))))] H69 := hP
      have hD : va_D A [(q0, .inr (7, [.ref mo, .ref sq, .ref ba, .ref po, .ref un, .ref su, .int (nI L), .long (lN iv)])), (mo, .inl (cJ, 64, .inr (.inl (lR nd)))), (su, .inl (cJ, 66, .inr (.inl (lR (updN u.2.1 u.1 (g55 % 4294967296)))))), (x, .inl (cJ, 64, .inr (.inl (lR xd)))), (y, .inl (cJ, 64, .inr (.inl (lR yd))))] := hD
      refine lv_lload hx hb d_Rsa_multiply_70 (lv_at hl 0 rfl) ?_
      refine lv_bipush (v := 32) hx hb d_Rsa_multiply_72 (by decide) ?_
      refine lv_lushr (v := ((lN g55).toUInt64 >>> ((32 : Int32).toInt64.toUInt64 &&& Int64.toUInt64 63)).toInt64) hx hb d_Rsa_multiply_74 rfl ?_
      rw [show (((lN g55).toUInt64 >>> ((32 : Int32).toInt64.toUInt64 &&& Int64.toUInt64 63)).toInt64 : Int64) = lN (g55 / 4294967296) from l_hi hb55]
      refine lv_lstore (lv' := [(5, .long (lN (g55 / 4294967296))), (8, .long (lN g55)), (0, .ref q0), (1, .ref x), (2, .ref y), (3, .ref x), (4, .int (nI z.1)), (7, .int (nI u.1))]) hx hb d_Rsa_multiply_75 hl (by decide) rfl (fun ls hl => ?_)
      refine lv_iinc (v := nI (u.1 + 1)) (lv' := [(7, .int (nI (u.1 + 1))), (5, .long (lN (g55 / 4294967296))), (8, .long (lN g55)), (0, .ref q0), (1, .ref x), (2, .ref y), (3, .ref x), (4, .int (nI z.1))]) hx hb d_Rsa_multiply_77 hl (k := 7) rfl (nI_1 _) (by decide) rfl (fun ls hl => ?_)
      refine lv_goto (tgt := 26) hx hb d_Rsa_multiply_80 (by decide) ?_
      exact ih1 (u.1 + 1, updN u.2.1 u.1 (g55 % 4294967296), g55 / 4294967296) _ _ ls (by show L - (u.1 + 1) < L - u.1; omega) (ma_next hJ1 (by omega) hg55 hb55) hP hD hS (lv_sub hl [3, 4, 5, 6, 7, 1, 0] rfl)
