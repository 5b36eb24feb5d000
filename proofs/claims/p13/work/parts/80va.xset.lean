/-! Rsa.settle, exactly. -/
set_option maxHeartbeats 4000000 in
set_option maxRecDepth 100000 in
theorem x_Rsa_settle (l : Launch) (dC : Nat → ClassId) (dI : Nat → Nat → Nat) (sb : sB) (q0 mo sq ba po un su L : Nat) (iv : Int64) (cJ : ClassId) (t : Nat) (nd sd x : Nat → Nat) (sz : Nat) (hL1 : 1 ≤ L) (hL2 : L ≤ 64) (hn : ∀ j, nd j < 4294967296) (hs : ∀ j, sd j < 4294967296) (hx9 : ∀ j, x j < 4294967296) (hT9 : vB 4294967296 sd (L + 1) < 2 * vB 4294967296 nd L) : Met l y_Rsa_settle w_Rsa_settle ({ frames := 0, cells := 0, slots := 0, locals := 0 }) (mu_P [.ref q0, .ref t] (dC, dI) sb [(q0, .inr (7, [.ref mo, .ref sq, .ref ba, .ref po, .ref un, .ref su, .int (nI L), .long iv])), (mo, .inl (cJ, 64, .inr (.inl (lR nd)))), (su, .inl (cJ, 66, .inr (.inl (lR sd)))), (t, .inl (cJ, 64, .inr (.inl (lR x))))] [(cJ, .long)] sz) (va_Qv (fun (r : Nat → Nat) => (∀ j, r j < 4294967296) ∧ (∀ j, L ≤ j → r j = x j) ∧ vB 4294967296 r L < vB 4294967296 nd L ∧ (vB 4294967296 sd (L + 1) = vB 4294967296 r L ∨ vB 4294967296 sd (L + 1) = vB 4294967296 r L + vB 4294967296 nd L)) (mu_B (dC, dI) [(cJ, .long)] (va_A [(q0, .inr (7, [.ref mo, .ref sq, .ref ba, .ref po, .ref un, .ref su, .int (nI L), .long iv])), (mo, .inl (cJ, 64, .inr (.inl (lR nd)))), (su, .inl (cJ, 66, .inr (.inl (lR sd)))), (t, .inl (cJ, 64, .inr (.inl (lR x))))] sz) (fun r : Nat → Nat => [(q0, .inr (7, [.ref mo, .ref sq, .ref ba, .ref po, .ref un, .ref su, .int (nI L), .long iv])), (mo, .inl (cJ, 64, .inr (.inl (lR nd)))), (su, .inl (cJ, 66, .inr (.inl (lR sd)))), (t, .inl (cJ, 64, .inr (.inl (lR r))))])) (va_A [(q0, .inr (7, [.ref mo, .ref sq, .ref ba, .ref po, .ref un, .ref su, .int (nI L), .long iv])), (mo, .inl (cJ, 64, .inr (.inl (lR nd)))), (su, .inl (cJ, 66, .inr (.inl (lR sd)))), (t, .inl (cJ, 64, .inr (.inl (lR x))))] sz)) 0 0 (va_A [(q0, .inr (7, [.ref mo, .ref sq, .ref ba, .ref po, .ref un, .ref su, .int (nI L), .long iv])), (mo, .inl (cJ, 64, .inr (.inl (lR nd)))), (su, .inl (cJ, 66, .inr (.inl (lR sd)))), (t, .inl (cJ, 64, .inr (.inl (lR x))))] sz) := by
  refine Met.ofW (cc := b_Rsa_settle) (maxL := 9) (ret := none) (by decide) rfl ?_
  intro p e s m args below meth c s₁ B hml hv
  obtain ⟨rfl, hsz, hB0, hP, hK, hD0, hN, hT0⟩ := hv
  have hx := B.exec
  have hb := B.bytes
  have hr := B.returns
  have hts := atoms_spec (ws := w_Rsa_settle) B.pre
  have tbin : ∀ w ∈ tb, w ∈ w_Rsa_settle := fun w h => List.mem_cons_of_mem _ h
  have htb : ∀ w ∈ tb, w.before _ s = true := fun w h => hts w (tbin w h)
  have hown : s.vm.findClass "TrustChain$Rsa" = some m.cls := findClass_of_methodNamed B.named
  have hlocks := B.notSynchronized
  subst hsz
  have hD := hD0.self (sz := s.heap.size)
  generalize hAe : va_A [(q0, .inr (7, [.ref mo, .ref sq, .ref ba, .ref po, .ref un, .ref su, .int (nI L), .long iv])), (mo, .inl (cJ, 64, .inr (.inl (lR nd)))), (su, .inl (cJ, 66, .inr (.inl (lR sd)))), (t, .inl (cJ, 64, .inr (.inl (lR x))))] s.heap.size = A at hD ⊢
  have hA : ∀ q : Nat, s.heap.size ≤ q → A q := fun q h => by rw [← hAe]; exact Or.inr h
  have hAs : ∀ q : Nat, A q → sb.1 ≤ q := fun q h => by
    rw [← hAe] at h
    rcases h with ⟨k, e, h⟩ | h
    · exact hD0.2 k _ h
    · exact Nat.le_trans hB0 h
  have hS : va_S A s.heap s.heap [] := va_S.rf
  have hcs : 0 ≤ (headSpec w_Rsa_settle ({ frames := 0, cells := 0, slots := 0, locals := 0 })).room.cells ∧ 0 ≤ (headSpec w_Rsa_settle ({ frames := 0, cells := 0, slots := 0, locals := 0 })).room.slots := ⟨Nat.le_refl _, Nat.le_refl _⟩
  have hP : va_P (dC, dI) classes [(q0, .inr (7, [.ref mo, .ref sq, .ref ba, .ref po, .ref un, .ref su, .int (nI L), .long iv])), (mo, .inl (cJ, 64, .inr (.inl (lR nd)))), (su, .inl (cJ, 66, .inr (.inl (lR sd)))), (t, .inl (cJ, 64, .inr (.inl (lR x))))] s.heap := hP
  have hl := lv_entry ([.ref q0, .ref t]) (n := 9) (Nat.le_of_ble_eq_true rfl)
  rw [lg_entry_eq]
  generalize (lg_sl ([.ref q0, .ref t]) ++ List.replicate (9 - (lg_sl ([.ref q0, .ref t])).length) Slot.unset).toArray = ls at hl ⊢
  have hl : lv_has ls 9 [(0, .ref q0), (1, .ref t)] := hl
  refine lv_aload_n hx hb d_Rsa_settle_0 rfl (lv_at hl 0 rfl) ?_
  refine va_get (v := .int (nI L)) hx hb htb i_Rsa hown hK hP 0 rfl rfl 6 (by decide) (htb _ q1_91) (fun _ h9 => h9) rfl d_Rsa_settle_1 ?_
  refine lv_iconst (v := 1) hx hb d_Rsa_settle_4 (by decide) ?_
  refine lv_isub hx hb d_Rsa_settle_5 ?_
  rw [show ((nI L) - 1 : Int32) = nI (L - 1) from pk_sub (a := L) (b := 1) (by omega)]
  refine lv_istore_n (lv' := [(2, .int (nI (L - 1))), (0, .ref q0), (1, .ref t)]) hx hb d_Rsa_settle_6 rfl hl (by decide) rfl (fun ls hl => ?_)
  refine w_joinA (α := Nat) (fun a => (a = 1 ∧ vB 4294967296 nd L ≤ vB 4294967296 sd (L + 1)) ∨ (a = 0 ∧ vB 4294967296 sd (L + 1) < vB 4294967296 nd L)) (fun _ => [(0, .ref q0), (1, .ref t)]) (fun a => [.int (nI a)]) 9 68 (fun ov ls hov hl => ?_) (fun k68 => ?_)
  · skip
    refine lv_istore_n (lv' := [(3, .int (nI ov)), (0, .ref q0), (1, .ref t)]) hx hb d_Rsa_settle_68 rfl hl (by decide) rfl (fun ls hl => ?_)
    refine lv_lconst (v := 0) hx hb d_Rsa_settle_69 (by decide) ?_
    refine lv_lstore (lv' := [(4, .long 0), (3, .int (nI ov)), (0, .ref q0), (1, .ref t)]) hx hb d_Rsa_settle_70 hl (by decide) rfl (fun ls hl => ?_)
    refine lv_iconst (v := 0) hx hb d_Rsa_settle_72 (by decide) ?_
    refine lv_istore (lv' := [(6, .int 0), (4, .long 0), (3, .int (nI ov)), (0, .ref q0), (1, .ref t)]) hx hb d_Rsa_settle_73 hl (by decide) rfl (fun ls hl => ?_)
    refine w_loopW (α := Nat × (Nat → Nat) × Nat) (fun z => z.1 ≤ L ∧ (∀ i, z.2.1 i < 4294967296) ∧ (∀ i, z.1 ≤ i → z.2.1 i = x i) ∧ z.2.2 ≤ 1 ∧ vB 4294967296 z.2.1 z.1 + ov * vB 4294967296 nd z.1 = vB 4294967296 sd z.1 + z.2.2 * 4294967296 ^ z.1) (fun z => L - z.1) (fun z => [(0, .ref q0), (1, .ref t), (3, .int (nI ov)), (4, .long (lN z.2.2)), (6, .int (nI z.1))]) (fun _ => []) (fun z => [(q0, .inr (7, [.ref mo, .ref sq, .ref ba, .ref po, .ref un, .ref su, .int (nI L), .long iv])), (mo, .inl (cJ, 64, .inr (.inl (lR nd)))), (su, .inl (cJ, 66, .inr (.inl (lR sd)))), (t, .inl (cJ, 64, .inr (.inl (lR z.2.1))))]) 9 75 (fun z HL75 locs ls hJ hP hD hS hl ih => ?_) (0, x, 0) _ _ ls (⟨Nat.zero_le _, hx9, fun _ _ => rfl, Nat.zero_le _, rfl⟩) hP hD hS (lv_sub hl [3, 4, 2, 1, 0] rfl)
    have hP : va_P (dC, dI) classes [(q0, .inr (7, [.ref mo, .ref sq, .ref ba, .ref po, .ref un, .ref su, .int (nI L), .long iv])), (mo, .inl (cJ, 64, .inr (.inl (lR nd)))), (su, .inl (cJ, 66, .inr (.inl (lR sd)))), (t, .inl (cJ, 64, .inr (.inl (lR z.2.1))))] HL75 := hP
    have hD : va_D A [(q0, .inr (7, [.ref mo, .ref sq, .ref ba, .ref po, .ref un, .ref su, .int (nI L), .long iv])), (mo, .inl (cJ, 64, .inr (.inl (lR nd)))), (su, .inl (cJ, 66, .inr (.inl (lR sd)))), (t, .inl (cJ, 64, .inr (.inl (lR z.2.1))))] := hD
    refine lv_iload hx hb d_Rsa_settle_75 (lv_at hl 4 rfl) ?_
    refine lv_aload_n hx hb d_Rsa_settle_77 rfl (lv_at hl 0 rfl) ?_
    refine va_get (v := .int (nI L)) hx hb htb i_Rsa hown hK hP 0 rfl rfl 6 (by decide) (htb _ q1_91) (fun _ h9 => h9) rfl d_Rsa_settle_78 ?_
    refine lv_icmp_ge (tgt := 142) hx hb d_Rsa_settle_81 (by decide) (fun c81 => ?_) (fun c81 => ?_)
    · have p81 : L ≤ z.1 := ((nI_leI (a := L) (b := z.1) (by omega) (by omega)).mp c81)
      exact W.vret hx hb hr (fun t ht hW => ⟨⟨z.2.1, rfl, ⟨fun j => hJ.2.1 j, fun j hj => hJ.2.2.1 j (by omega), st_fin hn hJ (by omega) hov hT9⟩, by rw [ht]; exact hP, va_K.moved hW.alike hK, hD⟩, hS.F ht⟩) hS.2.2 d_Rsa_settle_142
    · have p81 : ¬ (L ≤ z.1) := (fun q9 => c81 ((nI_leI (a := L) (b := z.1) (by omega) (by omega)).mpr q9))
      refine lv_aload_n hx hb d_Rsa_settle_84 rfl (lv_at hl 0 rfl) ?_
      refine va_get (v := .ref su) hx hb htb i_Rsa hown hK hP 0 rfl rfl 5 (by decide) (htb _ q1_90) (fun _ h9 => h9) rfl d_Rsa_settle_85 ?_
      refine lv_iload hx hb d_Rsa_settle_88 (lv_at hl 4 rfl) ?_
      have h90 : vp_in (nI z.1) 66 := vp_in_nI (by omega) (by omega)
      refine va_lald hx hb hK hP 2 0 rfl rfl h90 d_Rsa_settle_90 ?_
      rw [show lR sd (nI z.1).toNatClampNeg = lN (sd z.1) from by rw [nI_clamp (by omega)]; rfl]
      refine lv_iload_n hx hb d_Rsa_settle_91 rfl (lv_at hl 2 rfl) ?_
      refine lv_if_eq (tgt := 105) hx hb d_Rsa_settle_92 (by decide) (fun c92 => ?_) (fun c92 => ?_)
      · have p92 : ov = 0 := ((nI_eq (a := ov) (b := 0) (by omega) (by omega)).mp c92)
        refine lv_lconst (v := 0) hx hb d_Rsa_settle_105 (by decide) ?_
        refine lv_lsub hx hb d_Rsa_settle_106 ?_
        refine lv_lload hx hb d_Rsa_settle_107 (lv_at hl 3 rfl) ?_
        refine lv_lsub hx hb d_Rsa_settle_109 ?_
        have hb110 : ov = 0 := by rcases hov with ⟨e, -⟩ | ⟨e, -⟩ <;> omega
        obtain ⟨hz1, hz2, hz3, hz4, hz5⟩ := hJ
        have hs9 := hs z.1
        have hn9 := hn z.1
        rcases l_dif (a := sd z.1) (b := 0) (c := z.2.2) (hs _) (by decide) hz4 with ⟨hle, hdx⟩ | ⟨hlt, hdm, hdn⟩
        · obtain ⟨d, hd⟩ : ∃ d : Nat, d = sd z.1 - 0 - z.2.2 := ⟨_, rfl⟩
          refine lv_topl (fun x110 hx110 => ?_)
          have hx110 : x110 = lN (sd z.1) - lN 0 - lN z.2.2 := hx110
          rw [hdx, ← hd] at hx110
          subst hx110
          refine lv_lstore (lv' := [(7, .long (lN d)), (0, .ref q0), (1, .ref t), (3, .int (nI ov)), (4, .long (lN z.2.2)), (6, .int (nI z.1))]) hx hb d_Rsa_settle_110 hl (by decide) rfl (fun ls hl => ?_)
          refine lv_aload_n hx hb d_Rsa_settle_112 rfl (lv_at hl 2 rfl) ?_
          refine lv_iload hx hb d_Rsa_settle_113 (lv_at hl 5 rfl) ?_
          refine lv_lload hx hb d_Rsa_settle_115 (lv_at hl 0 rfl) ?_
          refine lv_ldc2 (v := 4294967295) hx hb hown (htb _ q5_202) d_Rsa_settle_117 ?_
          refine lv_land hx hb d_Rsa_settle_120 ?_
          rw [show (lN d &&& 4294967295 : Int64) = lN (d % 4294967296) from l_low (by omega)]
          rw [show (lN (d % 4294967296) : Int64) = lN d from by rw [Nat.mod_eq_of_lt (by omega)]]
          have h121 : vp_in (nI z.1) 64 := vp_in_nI (by omega) (by omega)
          refine va_last hx hb hK hP hD hS 3 0 rfl rfl h121 d_Rsa_settle_121 (fun H121 locs hP hD hS => ?_)
          rw [nI_clamp (by omega), lR_up] at hP hD
          have hP : va_P (dC, dI) classes [(q0, .inr (7, [.ref mo, .ref sq, .ref ba, .ref po, .ref un, .ref su, .int (nI L), .long iv])), (mo, .inl (cJ, 64, .inr (.inl (lR nd)))), (su, .inl (cJ, 66, .inr (.inl (lR sd)))), (t, .inl (cJ, 64, .inr (.inl (lR (updN z.2.1 z.1 d)))))] H121 := hP
          have hD : va_D A [(q0, .inr (7, [.ref mo, .ref sq, .ref ba, .ref po, .ref un, .ref su, .int (nI L), .long iv])), (mo, .inl (cJ, 64, .inr (.inl (lR nd)))), (su, .inl (cJ, 66, .inr (.inl (lR sd)))), (t, .inl (cJ, 64, .inr (.inl (lR (updN z.2.1 z.1 d)))))] := hD
          refine lv_lload hx hb d_Rsa_settle_122 (lv_at hl 0 rfl) ?_
          refine lv_lconst (v := 0) hx hb d_Rsa_settle_124 (by decide) ?_
          refine W.lcmp hx hb d_Rsa_settle_125 ?_
          refine lv_if_ge (tgt := 133) hx hb d_Rsa_settle_126 (by decide) (fun c126 => ?_) (fun c126 => ?_)
          rotate_left
          · exact absurd ((lg_cmp_lt _ _).mp (Int32.not_le.mp c126)) (l_nn (by omega))
          refine lv_lconst (v := 0) hx hb d_Rsa_settle_133 (by decide) ?_
          refine lv_lstore (lv' := [(4, .long 0), (7, .long (lN d)), (0, .ref q0), (1, .ref t), (3, .int (nI ov)), (6, .int (nI z.1))]) hx hb d_Rsa_settle_134 hl (by decide) rfl (fun ls hl => ?_)
          refine lv_iinc (v := nI (z.1 + 1)) (lv' := [(6, .int (nI (z.1 + 1))), (4, .long 0), (7, .long (lN d)), (0, .ref q0), (1, .ref t), (3, .int (nI ov))]) hx hb d_Rsa_settle_136 hl (k := 5) rfl (nI_1 _) (by decide) rfl (fun ls hl => ?_)
          refine lv_goto (tgt := 75) hx hb d_Rsa_settle_139 (by decide) ?_
          exact ih (z.1 + 1, updN z.2.1 z.1 d, 0) _ _ ls (by show L - (z.1 + 1) < L - z.1; omega) (st_next (c := 0) (by omega) hz2 hz3 hz5 (by omega) (by omega) (by subst hb110; omega)) hP hD hS (lv_sub hl [3, 4, 5, 1, 0] rfl)
        · obtain ⟨d, hd⟩ : ∃ d : Nat, d = sd z.1 + 4294967296 - 0 - z.2.2 := ⟨_, rfl⟩
          refine lv_topl (fun x110 hx110 => ?_)
          have hx110 : x110 = lN (sd z.1) - lN 0 - lN z.2.2 := hx110
          rw [← hx110, ← hd] at hdm
          rw [← hx110] at hdn
          refine lv_lstore (lv' := [(7, .long x110), (0, .ref q0), (1, .ref t), (3, .int (nI ov)), (4, .long (lN z.2.2)), (6, .int (nI z.1))]) hx hb d_Rsa_settle_110 hl (by decide) rfl (fun ls hl => ?_)
          refine lv_aload_n hx hb d_Rsa_settle_112 rfl (lv_at hl 2 rfl) ?_
          refine lv_iload hx hb d_Rsa_settle_113 (lv_at hl 5 rfl) ?_
          refine lv_lload hx hb d_Rsa_settle_115 (lv_at hl 0 rfl) ?_
          refine lv_ldc2 (v := 4294967295) hx hb hown (htb _ q5_202) d_Rsa_settle_117 ?_
          refine lv_land hx hb d_Rsa_settle_120 ?_
          rw [show (x110 &&& 4294967295 : Int64) = lN d from hdm]
          have h121 : vp_in (nI z.1) 64 := vp_in_nI (by omega) (by omega)
          refine va_last hx hb hK hP hD hS 3 0 rfl rfl h121 d_Rsa_settle_121 (fun H121 locs hP hD hS => ?_)
          rw [nI_clamp (by omega), lR_up] at hP hD
          have hP : va_P (dC, dI) classes [(q0, .inr (7, [.ref mo, .ref sq, .ref ba, .ref po, .ref un, .ref su, .int (nI L), .long iv])), (mo, .inl (cJ, 64, .inr (.inl (lR nd)))), (su, .inl (cJ, 66, .inr (.inl (lR sd)))), (t, .inl (cJ, 64, .inr (.inl (lR (updN z.2.1 z.1 d)))))] H121 := hP
          have hD : va_D A [(q0, .inr (7, [.ref mo, .ref sq, .ref ba, .ref po, .ref un, .ref su, .int (nI L), .long iv])), (mo, .inl (cJ, 64, .inr (.inl (lR nd)))), (su, .inl (cJ, 66, .inr (.inl (lR sd)))), (t, .inl (cJ, 64, .inr (.inl (lR (updN z.2.1 z.1 d)))))] := hD
          refine lv_lload hx hb d_Rsa_settle_122 (lv_at hl 0 rfl) ?_
          refine lv_lconst (v := 0) hx hb d_Rsa_settle_124 (by decide) ?_
          refine W.lcmp hx hb d_Rsa_settle_125 ?_
          refine lv_if_ge (tgt := 133) hx hb d_Rsa_settle_126 (by decide) (fun c126 => ?_) (fun c126 => ?_)
          · exact absurd ((lg_cmp_lt _ _).mpr hdn) (Int32.not_lt.mpr c126)
          refine lv_lconst (v := 1) hx hb d_Rsa_settle_129 (by decide) ?_
          refine lv_goto (tgt := 134) hx hb d_Rsa_settle_130 (by decide) ?_
          refine lv_lstore (lv' := [(4, .long 1), (7, .long x110), (0, .ref q0), (1, .ref t), (3, .int (nI ov)), (6, .int (nI z.1))]) hx hb d_Rsa_settle_134 hl (by decide) rfl (fun ls hl => ?_)
          refine lv_iinc (v := nI (z.1 + 1)) (lv' := [(6, .int (nI (z.1 + 1))), (4, .long 1), (7, .long x110), (0, .ref q0), (1, .ref t), (3, .int (nI ov))]) hx hb d_Rsa_settle_136 hl (k := 5) rfl (nI_1 _) (by decide) rfl (fun ls hl => ?_)
          refine lv_goto (tgt := 75) hx hb d_Rsa_settle_139 (by decide) ?_
          exact ih (z.1 + 1, updN z.2.1 z.1 d, 1) _ _ ls (by show L - (z.1 + 1) < L - z.1; omega) (st_next (c := 1) (by omega) hz2 hz3 hz5 (by omega) (by omega) (by subst hb110; omega)) hP hD hS (lv_sub hl [3, 4, 5, 1, 0] rfl)
      · have p92 : ¬ (ov = 0) := (fun q9 => c92 ((nI_eq (a := ov) (b := 0) (by omega) (by omega)).mpr q9))
        refine lv_aload_n hx hb d_Rsa_settle_95 rfl (lv_at hl 0 rfl) ?_
        refine va_get (v := .ref mo) hx hb htb i_Rsa hown hK hP 0 rfl rfl 0 (by decide) (htb _ q1_85) (fun _ h9 => h9) rfl d_Rsa_settle_96 ?_
        refine lv_iload hx hb d_Rsa_settle_99 (lv_at hl 4 rfl) ?_
        have h101 : vp_in (nI z.1) 64 := vp_in_nI (by omega) (by omega)
        refine va_lald hx hb hK hP 1 0 rfl rfl h101 d_Rsa_settle_101 ?_
        rw [show lR nd (nI z.1).toNatClampNeg = lN (nd z.1) from by rw [nI_clamp (by omega)]; rfl]
        refine lv_goto (tgt := 106) hx hb d_Rsa_settle_102 (by decide) ?_
        refine lv_lsub hx hb d_Rsa_settle_106 ?_
        refine lv_lload hx hb d_Rsa_settle_107 (lv_at hl 3 rfl) ?_
        refine lv_lsub hx hb d_Rsa_settle_109 ?_
        have hb110 : ov = 1 := by rcases hov with ⟨e, -⟩ | ⟨e, -⟩ <;> omega
        obtain ⟨hz1, hz2, hz3, hz4, hz5⟩ := hJ
        have hs9 := hs z.1
        have hn9 := hn z.1
        rcases l_dif (a := sd z.1) (b := (nd z.1)) (c := z.2.2) (hs _) (hn _) hz4 with ⟨hle, hdx⟩ | ⟨hlt, hdm, hdn⟩
        · obtain ⟨d, hd⟩ : ∃ d : Nat, d = sd z.1 - (nd z.1) - z.2.2 := ⟨_, rfl⟩
          refine lv_topl (fun x110 hx110 => ?_)
          have hx110 : x110 = lN (sd z.1) - lN (nd z.1) - lN z.2.2 := hx110
          rw [hdx, ← hd] at hx110
          subst hx110
          refine lv_lstore (lv' := [(7, .long (lN d)), (0, .ref q0), (1, .ref t), (3, .int (nI ov)), (4, .long (lN z.2.2)), (6, .int (nI z.1))]) hx hb d_Rsa_settle_110 hl (by decide) rfl (fun ls hl => ?_)
          refine lv_aload_n hx hb d_Rsa_settle_112 rfl (lv_at hl 2 rfl) ?_
          refine lv_iload hx hb d_Rsa_settle_113 (lv_at hl 5 rfl) ?_
          refine lv_lload hx hb d_Rsa_settle_115 (lv_at hl 0 rfl) ?_
          refine lv_ldc2 (v := 4294967295) hx hb hown (htb _ q5_202) d_Rsa_settle_117 ?_
          refine lv_land hx hb d_Rsa_settle_120 ?_
          rw [show (lN d &&& 4294967295 : Int64) = lN (d % 4294967296) from l_low (by omega)]
          rw [show (lN (d % 4294967296) : Int64) = lN d from by rw [Nat.mod_eq_of_lt (by omega)]]
          have h121 : vp_in (nI z.1) 64 := vp_in_nI (by omega) (by omega)
          refine va_last hx hb hK hP hD hS 3 0 rfl rfl h121 d_Rsa_settle_121 (fun H121 locs hP hD hS => ?_)
          rw [nI_clamp (by omega), lR_up] at hP hD
          have hP : va_P (dC, dI) classes [(q0, .inr (7, [.ref mo, .ref sq, .ref ba, .ref po, .ref un, .ref su, .int (nI L), .long iv])), (mo, .inl (cJ, 64, .inr (.inl (lR nd)))), (su, .inl (cJ, 66, .inr (.inl (lR sd)))), (t, .inl (cJ, 64, .inr (.inl (lR (updN z.2.1 z.1 d)))))] H121 := hP
          have hD : va_D A [(q0, .inr (7, [.ref mo, .ref sq, .ref ba, .ref po, .ref un, .ref su, .int (nI L), .long iv])), (mo, .inl (cJ, 64, .inr (.inl (lR nd)))), (su, .inl (cJ, 66, .inr (.inl (lR sd)))), (t, .inl (cJ, 64, .inr (.inl (lR (updN z.2.1 z.1 d)))))] := hD
          refine lv_lload hx hb d_Rsa_settle_122 (lv_at hl 0 rfl) ?_
          refine lv_lconst (v := 0) hx hb d_Rsa_settle_124 (by decide) ?_
          refine W.lcmp hx hb d_Rsa_settle_125 ?_
          refine lv_if_ge (tgt := 133) hx hb d_Rsa_settle_126 (by decide) (fun c126 => ?_) (fun c126 => ?_)
          rotate_left
          · exact absurd ((lg_cmp_lt _ _).mp (Int32.not_le.mp c126)) (l_nn (by omega))
          refine lv_lconst (v := 0) hx hb d_Rsa_settle_133 (by decide) ?_
          refine lv_lstore (lv' := [(4, .long 0), (7, .long (lN d)), (0, .ref q0), (1, .ref t), (3, .int (nI ov)), (6, .int (nI z.1))]) hx hb d_Rsa_settle_134 hl (by decide) rfl (fun ls hl => ?_)
          refine lv_iinc (v := nI (z.1 + 1)) (lv' := [(6, .int (nI (z.1 + 1))), (4, .long 0), (7, .long (lN d)), (0, .ref q0), (1, .ref t), (3, .int (nI ov))]) hx hb d_Rsa_settle_136 hl (k := 5) rfl (nI_1 _) (by decide) rfl (fun ls hl => ?_)
          refine lv_goto (tgt := 75) hx hb d_Rsa_settle_139 (by decide) ?_
          exact ih (z.1 + 1, updN z.2.1 z.1 d, 0) _ _ ls (by show L - (z.1 + 1) < L - z.1; omega) (st_next (c := 0) (by omega) hz2 hz3 hz5 (by omega) (by omega) (by subst hb110; omega)) hP hD hS (lv_sub hl [3, 4, 5, 1, 0] rfl)
        · obtain ⟨d, hd⟩ : ∃ d : Nat, d = sd z.1 + 4294967296 - (nd z.1) - z.2.2 := ⟨_, rfl⟩
          refine lv_topl (fun x110 hx110 => ?_)
          have hx110 : x110 = lN (sd z.1) - lN (nd z.1) - lN z.2.2 := hx110
          rw [← hx110, ← hd] at hdm
          rw [← hx110] at hdn
          refine lv_lstore (lv' := [(7, .long x110), (0, .ref q0), (1, .ref t), (3, .int (nI ov)), (4, .long (lN z.2.2)), (6, .int (nI z.1))]) hx hb d_Rsa_settle_110 hl (by decide) rfl (fun ls hl => ?_)
          refine lv_aload_n hx hb d_Rsa_settle_112 rfl (lv_at hl 2 rfl) ?_
          refine lv_iload hx hb d_Rsa_settle_113 (lv_at hl 5 rfl) ?_
          refine lv_lload hx hb d_Rsa_settle_115 (lv_at hl 0 rfl) ?_
          refine lv_ldc2 (v := 4294967295) hx hb hown (htb _ q5_202) d_Rsa_settle_117 ?_
          refine lv_land hx hb d_Rsa_settle_120 ?_
          rw [show (x110 &&& 4294967295 : Int64) = lN d from hdm]
          have h121 : vp_in (nI z.1) 64 := vp_in_nI (by omega) (by omega)
          refine va_last hx hb hK hP hD hS 3 0 rfl rfl h121 d_Rsa_settle_121 (fun H121 locs hP hD hS => ?_)
          rw [nI_clamp (by omega), lR_up] at hP hD
          have hP : va_P (dC, dI) classes [(q0, .inr (7, [.ref mo, .ref sq, .ref ba, .ref po, .ref un, .ref su, .int (nI L), .long iv])), (mo, .inl (cJ, 64, .inr (.inl (lR nd)))), (su, .inl (cJ, 66, .inr (.inl (lR sd)))), (t, .inl (cJ, 64, .inr (.inl (lR (updN z.2.1 z.1 d)))))] H121 := hP
          have hD : va_D A [(q0, .inr (7, [.ref mo, .ref sq, .ref ba, .ref po, .ref un, .ref su, .int (nI L), .long iv])), (mo, .inl (cJ, 64, .inr (.inl (lR nd)))), (su, .inl (cJ, 66, .inr (.inl (lR sd)))), (t, .inl (cJ, 64, .inr (.inl (lR (updN z.2.1 z.1 d)))))] := hD
          refine lv_lload hx hb d_Rsa_settle_122 (lv_at hl 0 rfl) ?_
          refine lv_lconst (v := 0) hx hb d_Rsa_settle_124 (by decide) ?_
          refine W.lcmp hx hb d_Rsa_settle_125 ?_
          refine lv_if_ge (tgt := 133) hx hb d_Rsa_settle_126 (by decide) (fun c126 => ?_) (fun c126 => ?_)
          · exact absurd ((lg_cmp_lt _ _).mpr hdn) (Int32.not_lt.mpr c126)
          refine lv_lconst (v := 1) hx hb d_Rsa_settle_129 (by decide) ?_
          refine lv_goto (tgt := 134) hx hb d_Rsa_settle_130 (by decide) ?_
          refine lv_lstore (lv' := [(4, .long 1), (7, .long x110), (0, .ref q0), (1, .ref t), (3, .int (nI ov)), (6, .int (nI z.1))]) hx hb d_Rsa_settle_134 hl (by decide) rfl (fun ls hl => ?_)
          refine lv_iinc (v := nI (z.1 + 1)) (lv' := [(6, .int (nI (z.1 + 1))), (4, .long 1), (7, .long x110), (0, .ref q0), (1, .ref t), (3, .int (nI ov))]) hx hb d_Rsa_settle_136 hl (k := 5) rfl (nI_1 _) (by decide) rfl (fun ls hl => ?_)
          refine lv_goto (tgt := 75) hx hb d_Rsa_settle_139 (by decide) ?_
          exact ih (z.1 + 1, updN z.2.1 z.1 d, 1) _ _ ls (by show L - (z.1 + 1) < L - z.1; omega) (st_next (c := 1) (by omega) hz2 hz3 hz5 (by omega) (by omega) (by subst hb110; omega)) hP hD hS (lv_sub hl [3, 4, 5, 1, 0] rfl)
  · skip
    refine w_loop (α := Nat) (fun k => k < L ∧ ∀ j, k < j → j < L → sd j = nd j) (fun k => k) (fun k => [(0, .ref q0), (1, .ref t), (2, .int (nI k))]) (fun _ => []) 9 7 (fun k ls hJ hl ih => ?_) (L - 1) ls ⟨by omega, fun j h1 h2 => absurd h1 (by omega)⟩ (lv_sub hl [1, 2, 0] rfl)
    obtain ⟨hk, htop⟩ := hJ
    refine lv_iload_n hx hb d_Rsa_settle_7 rfl (lv_at hl 2 rfl) ?_
    refine lv_if_le (tgt := 33) hx hb d_Rsa_settle_8 (by decide) (fun c8 => ?_) (fun c8 => ?_)
    · have p8 : k ≤ 0 := ((nI_leI (a := k) (b := 0) (by omega) (by omega)).mp c8)
      have hend : k = 0 ∨ sd k ≠ nd k := Or.inl (by omega)
      refine lv_aload_n hx hb d_Rsa_settle_33 rfl (lv_at hl 0 rfl) ?_
      refine va_get (v := .ref su) hx hb htb i_Rsa hown hK hP 0 rfl rfl 5 (by decide) (htb _ q1_90) (fun _ h9 => h9) rfl d_Rsa_settle_34 ?_
      refine lv_aload_n hx hb d_Rsa_settle_37 rfl (lv_at hl 0 rfl) ?_
      refine va_get (v := .int (nI L)) hx hb htb i_Rsa hown hK hP 0 rfl rfl 6 (by decide) (htb _ q1_91) (fun _ h9 => h9) rfl d_Rsa_settle_38 ?_
      have h41 : vp_in (nI L) 66 := vp_in_nI (by omega) (by omega)
      refine va_lald hx hb hK hP 2 0 rfl rfl h41 d_Rsa_settle_41 ?_
      rw [show lR sd (nI L).toNatClampNeg = lN (sd L) from by rw [nI_clamp (by omega)]; rfl]
      refine lv_lconst (v := 0) hx hb d_Rsa_settle_42 (by decide) ?_
      refine W.lcmp hx hb d_Rsa_settle_43 ?_
      refine lv_if_ne (tgt := 63) hx hb d_Rsa_settle_44 (by decide) (fun c44 => ?_) (fun c44 => ?_)
      · have p44 : ¬ ((lg_cmp (lN (sd L)) 0) = (0 : Int32)) := c44
        refine lv_iconst (v := 1) hx hb d_Rsa_settle_63 (by decide) ?_
        refine lv_goto (tgt := 68) hx hb d_Rsa_settle_64 (by decide) ?_
        exact k68 1 ls (Or.inl ⟨rfl, (st_cmp hL1 hn hs hk htop hend).1 (Or.inl (fun e => p44 ((l_0 (hs _)).mpr e)))⟩) (lv_sub hl [0, 1] rfl)
      · have p44 : (lg_cmp (lN (sd L)) 0) = (0 : Int32) := c44
        refine lv_aload_n hx hb d_Rsa_settle_47 rfl (lv_at hl 0 rfl) ?_
        refine va_get (v := .ref su) hx hb htb i_Rsa hown hK hP 0 rfl rfl 5 (by decide) (htb _ q1_90) (fun _ h9 => h9) rfl d_Rsa_settle_48 ?_
        refine lv_iload_n hx hb d_Rsa_settle_51 rfl (lv_at hl 2 rfl) ?_
        have h52 : vp_in (nI k) 66 := vp_in_nI (by omega) (by omega)
        refine va_lald hx hb hK hP 2 0 rfl rfl h52 d_Rsa_settle_52 ?_
        rw [show lR sd (nI k).toNatClampNeg = lN (sd k) from by rw [nI_clamp (by omega)]; rfl]
        refine lv_aload_n hx hb d_Rsa_settle_53 rfl (lv_at hl 0 rfl) ?_
        refine va_get (v := .ref mo) hx hb htb i_Rsa hown hK hP 0 rfl rfl 0 (by decide) (htb _ q1_85) (fun _ h9 => h9) rfl d_Rsa_settle_54 ?_
        refine lv_iload_n hx hb d_Rsa_settle_57 rfl (lv_at hl 2 rfl) ?_
        have h58 : vp_in (nI k) 64 := vp_in_nI (by omega) (by omega)
        refine va_lald hx hb hK hP 1 0 rfl rfl h58 d_Rsa_settle_58 ?_
        rw [show lR nd (nI k).toNatClampNeg = lN (nd k) from by rw [nI_clamp (by omega)]; rfl]
        refine W.lcmp hx hb d_Rsa_settle_59 ?_
        refine lv_if_lt (tgt := 67) hx hb d_Rsa_settle_60 (by decide) (fun c60 => ?_) (fun c60 => ?_)
        · have p60 : (lg_cmp (lN (sd k)) (lN (nd k))) < (0 : Int32) := c60
          refine lv_iconst (v := 0) hx hb d_Rsa_settle_67 (by decide) ?_
          exact k68 0 ls (Or.inr ⟨rfl, (st_cmp hL1 hn hs hk htop hend).2 ((l_0 (hs _)).mp p44) ((c_lt (hs _) (hn _)).mp p60)⟩) (lv_sub hl [0, 1] rfl)
        · have p60 : ¬ ((lg_cmp (lN (sd k)) (lN (nd k))) < (0 : Int32)) := c60
          refine lv_iconst (v := 1) hx hb d_Rsa_settle_63 (by decide) ?_
          refine lv_goto (tgt := 68) hx hb d_Rsa_settle_64 (by decide) ?_
          exact k68 1 ls (Or.inl ⟨rfl, (st_cmp hL1 hn hs hk htop hend).1 (Or.inr (fun e => p60 ((c_lt (hs _) (hn _)).mpr e)))⟩) (lv_sub hl [0, 1] rfl)
    · have p8 : ¬ (k ≤ 0) := (fun q9 => c8 ((nI_leI (a := k) (b := 0) (by omega) (by omega)).mpr q9))
      refine lv_aload_n hx hb d_Rsa_settle_11 rfl (lv_at hl 0 rfl) ?_
      refine va_get (v := .ref su) hx hb htb i_Rsa hown hK hP 0 rfl rfl 5 (by decide) (htb _ q1_90) (fun _ h9 => h9) rfl d_Rsa_settle_12 ?_
      refine lv_iload_n hx hb d_Rsa_settle_15 rfl (lv_at hl 2 rfl) ?_
      have h16 : vp_in (nI k) 66 := vp_in_nI (by omega) (by omega)
      refine va_lald hx hb hK hP 2 0 rfl rfl h16 d_Rsa_settle_16 ?_
      rw [show lR sd (nI k).toNatClampNeg = lN (sd k) from by rw [nI_clamp (by omega)]; rfl]
      refine lv_aload_n hx hb d_Rsa_settle_17 rfl (lv_at hl 0 rfl) ?_
      refine va_get (v := .ref mo) hx hb htb i_Rsa hown hK hP 0 rfl rfl 0 (by decide) (htb _ q1_85) (fun _ h9 => h9) rfl d_Rsa_settle_18 ?_
      refine lv_iload_n hx hb d_Rsa_settle_21 rfl (lv_at hl 2 rfl) ?_
      have h22 : vp_in (nI k) 64 := vp_in_nI (by omega) (by omega)
      refine va_lald hx hb hK hP 1 0 rfl rfl h22 d_Rsa_settle_22 ?_
      rw [show lR nd (nI k).toNatClampNeg = lN (nd k) from by rw [nI_clamp (by omega)]; rfl]
      refine W.lcmp hx hb d_Rsa_settle_23 ?_
      refine lv_if_ne (tgt := 33) hx hb d_Rsa_settle_24 (by decide) (fun c24 => ?_) (fun c24 => ?_)
      · have p24 : ¬ ((lg_cmp (lN (sd k)) (lN (nd k))) = (0 : Int32)) := c24
        have hend : k = 0 ∨ sd k ≠ nd k := Or.inr (fun e => p24 ((c_eq (hs _) (hn _)).mpr e))
        refine lv_aload_n hx hb d_Rsa_settle_33 rfl (lv_at hl 0 rfl) ?_
        refine va_get (v := .ref su) hx hb htb i_Rsa hown hK hP 0 rfl rfl 5 (by decide) (htb _ q1_90) (fun _ h9 => h9) rfl d_Rsa_settle_34 ?_
        refine lv_aload_n hx hb d_Rsa_settle_37 rfl (lv_at hl 0 rfl) ?_
        refine va_get (v := .int (nI L)) hx hb htb i_Rsa hown hK hP 0 rfl rfl 6 (by decide) (htb _ q1_91) (fun _ h9 => h9) rfl d_Rsa_settle_38 ?_
        have h41 : vp_in (nI L) 66 := vp_in_nI (by omega) (by omega)
        refine va_lald hx hb hK hP 2 0 rfl rfl h41 d_Rsa_settle_41 ?_
        rw [show lR sd (nI L).toNatClampNeg = lN (sd L) from by rw [nI_clamp (by omega)]; rfl]
        refine lv_lconst (v := 0) hx hb d_Rsa_settle_42 (by decide) ?_
        refine W.lcmp hx hb d_Rsa_settle_43 ?_
        refine lv_if_ne (tgt := 63) hx hb d_Rsa_settle_44 (by decide) (fun c44 => ?_) (fun c44 => ?_)
        · have p44 : ¬ ((lg_cmp (lN (sd L)) 0) = (0 : Int32)) := c44
          refine lv_iconst (v := 1) hx hb d_Rsa_settle_63 (by decide) ?_
          refine lv_goto (tgt := 68) hx hb d_Rsa_settle_64 (by decide) ?_
          exact k68 1 ls (Or.inl ⟨rfl, (st_cmp hL1 hn hs hk htop hend).1 (Or.inl (fun e => p44 ((l_0 (hs _)).mpr e)))⟩) (lv_sub hl [0, 1] rfl)
        · have p44 : (lg_cmp (lN (sd L)) 0) = (0 : Int32) := c44
          refine lv_aload_n hx hb d_Rsa_settle_47 rfl (lv_at hl 0 rfl) ?_
          refine va_get (v := .ref su) hx hb htb i_Rsa hown hK hP 0 rfl rfl 5 (by decide) (htb _ q1_90) (fun _ h9 => h9) rfl d_Rsa_settle_48 ?_
          refine lv_iload_n hx hb d_Rsa_settle_51 rfl (lv_at hl 2 rfl) ?_
          have h52 : vp_in (nI k) 66 := vp_in_nI (by omega) (by omega)
          refine va_lald hx hb hK hP 2 0 rfl rfl h52 d_Rsa_settle_52 ?_
          rw [show lR sd (nI k).toNatClampNeg = lN (sd k) from by rw [nI_clamp (by omega)]; rfl]
          refine lv_aload_n hx hb d_Rsa_settle_53 rfl (lv_at hl 0 rfl) ?_
          refine va_get (v := .ref mo) hx hb htb i_Rsa hown hK hP 0 rfl rfl 0 (by decide) (htb _ q1_85) (fun _ h9 => h9) rfl d_Rsa_settle_54 ?_
          refine lv_iload_n hx hb d_Rsa_settle_57 rfl (lv_at hl 2 rfl) ?_
          have h58 : vp_in (nI k) 64 := vp_in_nI (by omega) (by omega)
          refine va_lald hx hb hK hP 1 0 rfl rfl h58 d_Rsa_settle_58 ?_
          rw [show lR nd (nI k).toNatClampNeg = lN (nd k) from by rw [nI_clamp (by omega)]; rfl]
          refine W.lcmp hx hb d_Rsa_settle_59 ?_
          refine lv_if_lt (tgt := 67) hx hb d_Rsa_settle_60 (by decide) (fun c60 => ?_) (fun c60 => ?_)
          · have p60 : (lg_cmp (lN (sd k)) (lN (nd k))) < (0 : Int32) := c60
            refine lv_iconst (v := 0) hx hb d_Rsa_settle_67 (by decide) ?_
            exact k68 0 ls (Or.inr ⟨rfl, (st_cmp hL1 hn hs hk htop hend).2 ((l_0 (hs _)).mp p44) ((c_lt (hs _) (hn _)).mp p60)⟩) (lv_sub hl [0, 1] rfl)
          · have p60 : ¬ ((lg_cmp (lN (sd k)) (lN (nd k))) < (0 : Int32)) := c60
            refine lv_iconst (v := 1) hx hb d_Rsa_settle_63 (by decide) ?_
            refine lv_goto (tgt := 68) hx hb d_Rsa_settle_64 (by decide) ?_
            exact k68 1 ls (Or.inl ⟨rfl, (st_cmp hL1 hn hs hk htop hend).1 (Or.inr (fun e => p60 ((c_lt (hs _) (hn _)).mpr e)))⟩) (lv_sub hl [0, 1] rfl)
      · have p24 : (lg_cmp (lN (sd k)) (lN (nd k))) = (0 : Int32) := c24
        obtain ⟨v27, ev27⟩ : ∃ y : Int32, y = (nI k) + (-1) := ⟨_, rfl⟩
        refine lv_iinc (v := v27) (lv' := [(2, .int v27), (0, .ref q0), (1, .ref t)]) hx hb d_Rsa_settle_27 hl (k := 2) rfl (by rw [ev27]; exact rfl) (by decide) rfl (fun ls hl => ?_)
        refine lv_goto (tgt := 7) hx hb d_Rsa_settle_30 (by decide) ?_
        rw [nI_m1 (by omega)] at ev27
        subst ev27
        exact ih (k - 1) ls (by omega) ⟨by omega, st_down htop ((c_eq (hs _) (hn _)).mp p24)⟩ (lv_sub hl [1, 2, 0] rfl)
