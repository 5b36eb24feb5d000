/-! Rsa.due, exactly. -/
set_option maxHeartbeats 4000000 in
set_option maxRecDepth 100000 in
theorem x_Rsa_due (l : Launch) (dC : Nat → ClassId) (dI : Nat → Nat → Nat) (sb : sB) (ha i cn : Nat) (cI : ClassId) (h : Nat → Int32) (hi : i < cn) (hc62 : 62 ≤ cn) (hc256 : cn ≤ 256) : Met l y_Rsa_due w_Rsa_due ({ frames := 0, cells := 0, slots := 0, locals := 0 }) (pu_P [.ref ha, .int (nI i), .int (nI cn)] (dC, dI) sb [(ha, .inl (cI, 8, .inl h))] [(cI, .int)]) (vp_Si (fun r => r = nI (dueN h cn i))) 0 0 (fun _ => False) := by
  refine Met.ofW (cc := b_Rsa_due) (maxL := 4) (ret := (some FieldType.int)) (by decide) rfl ?_
  intro p e s m args below meth c s₁ B hml hv
  obtain ⟨rfl, hP, hK, hN, hT0⟩ := hv
  have hx := B.exec
  have hb := B.bytes
  have hr := B.returns
  have hts := atoms_spec (ws := w_Rsa_due) B.pre
  have tbin : ∀ w ∈ tb, w ∈ w_Rsa_due := fun w h => List.mem_cons_of_mem _ h
  have htb : ∀ w ∈ tb, w.before _ s = true := fun w h => hts w (tbin w h)
  have hown : s.vm.findClass "TrustChain$Rsa" = some m.cls := findClass_of_methodNamed B.named
  have hlocks := B.notSynchronized
  have hcs : 0 ≤ (headSpec w_Rsa_due ({ frames := 0, cells := 0, slots := 0, locals := 0 })).room.cells ∧ 0 ≤ (headSpec w_Rsa_due ({ frames := 0, cells := 0, slots := 0, locals := 0 })).room.slots := ⟨Nat.zero_le _, Nat.zero_le _⟩
  have hP : va_P (dC, dI) classes [(ha, .inl (cI, 8, .inl h))] s.heap := hP
  have hl := lv_entry ([.ref ha, .int (nI i), .int (nI cn)]) (n := 4) (Nat.le_of_ble_eq_true rfl)
  rw [lg_entry_eq]
  generalize (lg_sl ([.ref ha, .int (nI i), .int (nI cn)]) ++ List.replicate (4 - (lg_sl ([.ref ha, .int (nI i), .int (nI cn)])).length) Slot.unset).toArray = ls at hl ⊢
  have hl : lv_has ls 4 [(0, .ref ha), (1, .int (nI i)), (2, .int (nI cn))] := hl
  refine lv_iload_n hx hb d_Rsa_due_0 rfl (lv_at hl 1 rfl) ?_
  refine lv_bipush (v := 32) hx hb d_Rsa_due_1 (by decide) ?_
  refine lv_icmp_ge (tgt := 26) hx hb d_Rsa_due_3 (by decide) (fun c3 => ?_) (fun c3 => ?_)
  · have p3 : 32 ≤ i := ((nI_leI (a := 32) (b := i) (by omega) (by omega)).mp c3)
    refine lv_iload_n hx hb d_Rsa_due_26 rfl (lv_at hl 1 rfl) ?_
    refine lv_bipush (v := 32) hx hb d_Rsa_due_27 (by decide) ?_
    refine lv_isub hx hb d_Rsa_due_29 ?_
    rw [show ((nI i) - 32 : Int32) = nI (i - 32) from pk_sub (a := i) (b := 32) (by omega)]
    refine lv_istore_n (lv' := [(3, .int (nI (i - 32))), (0, .ref ha), (1, .int (nI i)), (2, .int (nI cn))]) hx hb d_Rsa_due_30 rfl hl (by decide) rfl (fun ls hl => ?_)
    refine lv_iload_n hx hb d_Rsa_due_31 rfl (lv_at hl 0 rfl) ?_
    refine va_gets hx hb hT0.2.2.2.2.1.1 va_S.rf hown (htb _ q5_221) (fun _ h9 => h9) d_Rsa_due_32 ?_
    refine va_tlen (v := 19) hx hb hT0.2.2.2.2.1.2 va_S.rf rfl d_Rsa_due_35 ?_
    refine lv_icmp_ge (tgt := 52) hx hb d_Rsa_due_36 (by decide) (fun c36 => ?_) (fun c36 => ?_)
    · have p36 : 19 ≤ (i - 32) := ((nI_leI (a := 19) (b := (i - 32)) (by omega) (by omega)).mp c36)
      refine lv_iload_n hx hb d_Rsa_due_52 rfl (lv_at hl 0 rfl) ?_
      refine va_gets hx hb hT0.2.2.2.2.1.1 va_S.rf hown (htb _ q5_221) (fun _ h9 => h9) d_Rsa_due_53 ?_
      refine va_tlen (v := 19) hx hb hT0.2.2.2.2.1.2 va_S.rf rfl d_Rsa_due_56 ?_
      refine lv_icmp_eq (tgt := 67) hx hb d_Rsa_due_57 (by decide) (fun c57 => ?_) (fun c57 => ?_)
      · have p57 : (i - 32) = 19 := ((nI_eq (a := (i - 32)) (b := 19) (by omega) (by omega)).mp c57)
        refine lv_iconst (v := 0) hx hb d_Rsa_due_67 (by decide) ?_
        exact W.iret (v := 0) hx hb hr (fun t ht hW => ⟨_, rfl, congrArg nI (due_51 (by omega)), ht⟩) (fun q h => by cases h) d_Rsa_due_68
      · have p57 : ¬ ((i - 32) = 19) := (fun q9 => c57 ((nI_eq (a := (i - 32)) (b := 19) (by omega) (by omega)).mpr q9))
        refine lv_iload_n hx hb d_Rsa_due_60 rfl (lv_at hl 2 rfl) ?_
        refine lv_iload_n hx hb d_Rsa_due_61 rfl (lv_at hl 3 rfl) ?_
        refine lv_iconst (v := 1) hx hb d_Rsa_due_62 (by decide) ?_
        refine lv_isub hx hb d_Rsa_due_63 ?_
        rw [show ((nI cn) - 1 : Int32) = nI (cn - 1) from pk_sub (a := cn) (b := 1) (by omega)]
        refine lv_icmp_ne (tgt := 69) hx hb d_Rsa_due_64 (by decide) (fun c64 => ?_) (fun c64 => ?_)
        · have p64 : ¬ (i = (cn - 1)) := (fun q9 => c64 ((nI_eq (a := i) (b := (cn - 1)) (by omega) (by omega)).mpr q9))
          refine lv_iload_n hx hb d_Rsa_due_69 rfl (lv_at hl 2 rfl) ?_
          refine lv_iload_n hx hb d_Rsa_due_70 rfl (lv_at hl 3 rfl) ?_
          refine lv_iconst (v := 2) hx hb d_Rsa_due_71 (by decide) ?_
          refine lv_isub hx hb d_Rsa_due_72 ?_
          rw [show ((nI cn) - 2 : Int32) = nI (cn - 2) from pk_sub (a := cn) (b := 2) (by omega)]
          refine lv_icmp_ne (tgt := 80) hx hb d_Rsa_due_73 (by decide) (fun c73 => ?_) (fun c73 => ?_)
          · have p73 : ¬ (i = (cn - 2)) := (fun q9 => c73 ((nI_eq (a := i) (b := (cn - 2)) (by omega) (by omega)).mpr q9))
            refine lv_sipush (v := 255) hx hb d_Rsa_due_80 (by decide) ?_
            exact W.iret (v := 255) hx hb hr (fun t ht hW => ⟨_, rfl, congrArg nI (due_f (by omega) (by omega)), ht⟩) (fun q h => by cases h) d_Rsa_due_83
          · have p73 : i = (cn - 2) := ((nI_eq (a := i) (b := (cn - 2)) (by omega) (by omega)).mp c73)
            refine lv_iconst (v := 1) hx hb d_Rsa_due_76 (by decide) ?_
            refine lv_goto (tgt := 83) hx hb d_Rsa_due_77 (by decide) ?_
            exact W.iret (v := 1) hx hb hr (fun t ht hW => ⟨_, rfl, congrArg nI (due_1 hc62 (by omega)), ht⟩) (fun q h => by cases h) d_Rsa_due_83
        · have p64 : i = (cn - 1) := ((nI_eq (a := i) (b := (cn - 1)) (by omega) (by omega)).mp c64)
          refine lv_iconst (v := 0) hx hb d_Rsa_due_67 (by decide) ?_
          exact W.iret (v := 0) hx hb hr (fun t ht hW => ⟨_, rfl, congrArg nI (due_0 hc62 (by omega)), ht⟩) (fun q h => by cases h) d_Rsa_due_68
    · have p36 : ¬ (19 ≤ (i - 32)) := (fun q9 => c36 ((nI_leI (a := 19) (b := (i - 32)) (by omega) (by omega)).mpr q9))
      refine va_gets hx hb hT0.2.2.2.2.1.1 va_S.rf hown (htb _ q5_221) (fun _ h9 => h9) d_Rsa_due_39 ?_
      refine va_gets hx hb hT0.2.2.2.2.1.1 va_S.rf hown (htb _ q5_221) (fun _ h9 => h9) d_Rsa_due_42 ?_
      refine va_tlen (v := 19) hx hb hT0.2.2.2.2.1.2 va_S.rf rfl d_Rsa_due_45 ?_
      refine lv_iconst (v := 1) hx hb d_Rsa_due_46 (by decide) ?_
      refine lv_isub hx hb d_Rsa_due_47 ?_
      rw [show (19 - 1 : Int32) = 18 from by decide]
      refine lv_iload_n hx hb d_Rsa_due_48 rfl (lv_at hl 0 rfl) ?_
      refine lv_isub hx hb d_Rsa_due_49 ?_
      rw [show (18 - (nI (i - 32)) : Int32) = nI (18 - (i - 32)) from pk_sub (a := 18) (b := (i - 32)) (by omega)]
      have h50 : vp_in (nI (18 - (i - 32))) 19 := vp_in_nI (by omega) (by omega)
      refine va_ti (v := .int (sv_PREFIX.getD (nI (18 - (i - 32))).toNatClampNeg 0)) hx hb hT0.2.2.2.2.1.2 va_S.rf h50 rfl d_Rsa_due_50 ?_
      rw [show (sv_PREFIX.getD (nI (18 - (i - 32))).toNatClampNeg 0 : Int32) = nI (dueN h cn i) from by rw [nI_clamp (by omega)]; exact (pfx_n _ (by omega)).trans (congrArg nI (due_p (by omega) (by omega) (by omega)))]
      exact W.iret (v := nI (dueN h cn i)) hx hb hr (fun t ht hW => ⟨_, rfl, rfl, ht⟩) (fun q h => by cases h) d_Rsa_due_51
  · have p3 : ¬ (32 ≤ i) := (fun q9 => c3 ((nI_leI (a := 32) (b := i) (by omega) (by omega)).mpr q9))
    refine lv_aload_n hx hb d_Rsa_due_6 rfl (lv_at hl 0 rfl) ?_
    refine lv_bipush (v := 7) hx hb d_Rsa_due_7 (by decide) ?_
    refine lv_iload_n hx hb d_Rsa_due_9 rfl (lv_at hl 1 rfl) ?_
    refine lv_iconst (v := 4) hx hb d_Rsa_due_10 (by decide) ?_
    refine lv_idiv hx hb d_Rsa_due_11 (by decide) ?_
    rw [show ((nI i) / 4 : Int32) = nI (i / 4) from nI_idiv (a := i) (b := 4) (by omega) (by omega) (by omega)]
    refine lv_isub hx hb d_Rsa_due_12 ?_
    rw [show (7 - (nI (i / 4)) : Int32) = nI (7 - (i / 4)) from pk_sub (a := 7) (b := (i / 4)) (by omega)]
    have h13 : vp_in (nI (7 - (i / 4))) 8 := vp_in_nI (by omega) (by omega)
    refine va_iald hx hb hK hP 0 0 rfl rfl h13 d_Rsa_due_13 ?_
    rw [show (h (nI (7 - (i / 4))).toNatClampNeg : Int32) = h (7 - i / 4) from congrArg h (nI_clamp (by omega))]
    refine lv_bipush (v := 8) hx hb d_Rsa_due_14 (by decide) ?_
    refine lv_iload_n hx hb d_Rsa_due_16 rfl (lv_at hl 1 rfl) ?_
    refine lv_iconst (v := 4) hx hb d_Rsa_due_17 (by decide) ?_
    refine lv_irem hx hb d_Rsa_due_18 (by decide) ?_
    rw [show ((nI i) - (nI i) / 4 * 4 : Int32) = nI (i % 4) from nI_irem (a := i) (b := 4) (by omega) (by omega) (by omega)]
    refine lv_imul hx hb d_Rsa_due_19 ?_
    rw [show (8 * (nI (i % 4)) : Int32) = nI (8 * (i % 4)) from nI_mul 8 (i % 4)]
    refine lv_iushr (v := ((h (7 - i / 4)).toUInt32 >>> ((nI (8 * (i % 4))).toUInt32 &&& Int32.toUInt32 31)).toInt32) hx hb d_Rsa_due_20 rfl ?_
    refine lv_sipush (v := 255) hx hb d_Rsa_due_21 (by decide) ?_
    refine lv_iand hx hb d_Rsa_due_24 ?_
    rw [show ((((h (7 - i / 4)).toUInt32 >>> ((nI (8 * (i % 4))).toUInt32 &&& Int32.toUInt32 31)).toInt32) &&& 255 : Int32) = nI (dueN h cn i) from (oct_ushr _ (by omega)).trans (congrArg nI (due_h (by omega)))]
    exact W.iret (v := nI (dueN h cn i)) hx hb hr (fun t ht hW => ⟨_, rfl, rfl, ht⟩) (fun q h => by cases h) d_Rsa_due_25
/-! Rsa.hasForm, exactly. -/
set_option maxHeartbeats 4000000 in
set_option maxRecDepth 100000 in
theorem x_Rsa_form (l : Launch) (dC : Nat → ClassId) (dI : Nat → Nat → Nat) (sb : sB) (q0 mo sq ba po un su L : Nat) (iv : Int64) (cJ : ClassId) (ha cn : Nat) (cI : ClassId) (h : Nat → Int32) (pd : Nat → Nat) (hc62 : 62 ≤ cn) (hc256 : cn ≤ 256) (hcL : cn ≤ 4 * L) (hL2 : L ≤ 64) (hpd : ∀ j, pd j < 4294967296) : Met l y_Rsa_hasForm w_Rsa_hasForm ({ frames := 1, cells := 0, slots := 0, locals := 23 }) (pu_P [.ref q0, .ref ha, .int (nI cn)] (dC, dI) sb [(q0, .inr (7, [.ref mo, .ref sq, .ref ba, .ref po, .ref un, .ref su, .int (nI L), .long iv])), (po, .inl (cJ, 64, .inr (.inl (lR pd)))), (ha, .inl (cI, 8, .inl h))] [(cJ, .long), (cI, .int)]) (vp_Si (fun r => bz r (∀ j, j < cn → (vB 4294967296 pd L) / 256 ^ j % 256 = dueN h cn j))) 0 0 (fun _ => False) := by
  refine Met.ofW (cc := b_Rsa_hasForm) (maxL := 5) (ret := (some FieldType.boolean)) (by decide) rfl ?_
  intro p e s m args below meth c s₁ B hml hv
  obtain ⟨rfl, hP, hK, hN, hT0⟩ := hv
  have hx := B.exec
  have hb := B.bytes
  have hr := B.returns
  have hts := atoms_spec (ws := w_Rsa_hasForm) B.pre
  have tbin : ∀ w ∈ tb, w ∈ w_Rsa_hasForm := fun w h => List.mem_cons_of_mem _ h
  have htb : ∀ w ∈ tb, w.before _ s = true := fun w h => hts w (tbin w h)
  have hown : s.vm.findClass "TrustChain$Rsa" = some m.cls := findClass_of_methodNamed B.named
  have hlocks := B.notSynchronized
  have hcs : 0 ≤ (headSpec w_Rsa_hasForm ({ frames := 1, cells := 0, slots := 0, locals := 23 })).room.cells ∧ 0 ≤ (headSpec w_Rsa_hasForm ({ frames := 1, cells := 0, slots := 0, locals := 23 })).room.slots := ⟨Nat.zero_le _, Nat.zero_le _⟩
  have hP : va_P (dC, dI) classes [(q0, .inr (7, [.ref mo, .ref sq, .ref ba, .ref po, .ref un, .ref su, .int (nI L), .long iv])), (po, .inl (cJ, 64, .inr (.inl (lR pd)))), (ha, .inl (cI, 8, .inl h))] s.heap := hP
  have hl := lv_entry ([.ref q0, .ref ha, .int (nI cn)]) (n := 5) (Nat.le_of_ble_eq_true rfl)
  rw [lg_entry_eq]
  generalize (lg_sl ([.ref q0, .ref ha, .int (nI cn)]) ++ List.replicate (5 - (lg_sl ([.ref q0, .ref ha, .int (nI cn)])).length) Slot.unset).toArray = ls at hl ⊢
  have hl : lv_has ls 5 [(0, .ref q0), (1, .ref ha), (2, .int (nI cn))] := hl
  refine lv_iconst (v := 0) hx hb d_Rsa_hasForm_0 (by decide) ?_
  refine lv_istore_n (lv' := [(3, .int 0), (0, .ref q0), (1, .ref ha), (2, .int (nI cn))]) hx hb d_Rsa_hasForm_1 rfl hl (by decide) rfl (fun ls hl => ?_)
  refine w_loop (α := Nat) (fun i => i ≤ cn ∧ ∀ j, j < i → (vB 4294967296 pd L) / 256 ^ j % 256 = dueN h cn j) (fun i => cn - i) (fun i => [(0, .ref q0), (1, .ref ha), (2, .int (nI cn)), (3, .int (nI i))]) (fun _ => []) 5 2 (fun i ls hJ hl ih => ?_) 0 ls (⟨Nat.zero_le _, fun j hj => absurd hj (Nat.not_lt_zero _)⟩) (lv_sub hl [1, 2, 3, 0] rfl)
  refine lv_iload_n hx hb d_Rsa_hasForm_2 rfl (lv_at hl 3 rfl) ?_
  refine lv_iload_n hx hb d_Rsa_hasForm_3 rfl (lv_at hl 2 rfl) ?_
  refine lv_icmp_ge (tgt := 55) hx hb d_Rsa_hasForm_4 (by decide) (fun c4 => ?_) (fun c4 => ?_)
  · have p4 : cn ≤ i := ((nI_leI (a := cn) (b := i) (by omega) (by omega)).mp c4)
    refine lv_iconst (v := 1) hx hb d_Rsa_hasForm_55 (by decide) ?_
    exact W.zret (v := 1) hx hb hr (by decide) (fun t ht hW => ⟨_, rfl, bz_t (fun j hj => hJ.2 j (by omega)), ht⟩) (fun q h => by cases h) d_Rsa_hasForm_56
  · have p4 : ¬ (cn ≤ i) := (fun q9 => c4 ((nI_leI (a := cn) (b := i) (by omega) (by omega)).mpr q9))
    refine lv_iload_n hx hb d_Rsa_hasForm_7 rfl (lv_at hl 3 rfl) ?_
    refine lv_sipush (v := 256) hx hb d_Rsa_hasForm_8 (by decide) ?_
    refine lv_icmp_ge (tgt := 55) hx hb d_Rsa_hasForm_11 (by decide) (fun c11 => ?_) (fun c11 => ?_)
    · exact absurd ((nI_leI (a := 256) (b := i) (by omega) (by omega)).mp c11) (by omega)
    refine lv_aload_n hx hb d_Rsa_hasForm_14 rfl (lv_at hl 0 rfl) ?_
    refine va_get (v := .ref po) hx hb htb i_Rsa hown hK hP 0 rfl rfl 3 (by decide) (htb _ q1_88) (fun _ h9 => h9) rfl d_Rsa_hasForm_15 ?_
    refine lv_iload_n hx hb d_Rsa_hasForm_18 rfl (lv_at hl 3 rfl) ?_
    refine lv_iconst (v := 4) hx hb d_Rsa_hasForm_19 (by decide) ?_
    refine lv_idiv hx hb d_Rsa_hasForm_20 (by decide) ?_
    rw [show ((nI i) / 4 : Int32) = nI (i / 4) from nI_idiv (a := i) (b := 4) (by omega) (by omega) (by omega)]
    have h21 : vp_in (nI (i / 4)) 64 := vp_in_nI (by omega) (by omega)
    refine va_lald hx hb hK hP 1 0 rfl rfl h21 d_Rsa_hasForm_21 ?_
    rw [show lR pd (nI (i / 4)).toNatClampNeg = lN (pd (i / 4)) from by rw [nI_clamp (by omega)]; rfl]
    refine lv_bipush (v := 8) hx hb d_Rsa_hasForm_22 (by decide) ?_
    refine lv_iload_n hx hb d_Rsa_hasForm_24 rfl (lv_at hl 3 rfl) ?_
    refine lv_iconst (v := 4) hx hb d_Rsa_hasForm_25 (by decide) ?_
    refine lv_irem hx hb d_Rsa_hasForm_26 (by decide) ?_
    rw [show ((nI i) - (nI i) / 4 * 4 : Int32) = nI (i % 4) from nI_irem (a := i) (b := 4) (by omega) (by omega) (by omega)]
    refine lv_imul hx hb d_Rsa_hasForm_27 ?_
    rw [show (8 * (nI (i % 4)) : Int32) = nI (8 * (i % 4)) from nI_mul 8 (i % 4)]
    refine lv_lushr (v := ((lN (pd (i / 4))).toUInt64 >>> ((nI (8 * (i % 4))).toInt64.toUInt64 &&& Int64.toUInt64 63)).toInt64) hx hb d_Rsa_hasForm_28 rfl ?_
    refine lv_l2i (v := (((lN (pd (i / 4))).toUInt64 >>> ((nI (8 * (i % 4))).toInt64.toUInt64 &&& Int64.toUInt64 63)).toInt64).toInt32) hx hb d_Rsa_hasForm_29 rfl ?_
    refine lv_sipush (v := 255) hx hb d_Rsa_hasForm_30 (by decide) ?_
    refine lv_iand hx hb d_Rsa_hasForm_33 ?_
    rw [show (((((lN (pd (i / 4))).toUInt64 >>> ((nI (8 * (i % 4))).toInt64.toUInt64 &&& Int64.toUInt64 63)).toInt64).toInt32) &&& 255 : Int32) = nI ((vB 4294967296 pd L) / 256 ^ i % 256) from (l_oct (hpd _) (by omega)).trans (congrArg nI (oct32 hpd (by omega)).symm)]
    refine lv_istore (lv' := [(4, .int (nI ((vB 4294967296 pd L) / 256 ^ i % 256))), (0, .ref q0), (1, .ref ha), (2, .int (nI cn)), (3, .int (nI i))]) hx hb d_Rsa_hasForm_34 hl (by decide) rfl (fun ls hl => ?_)
    have hd9 := dueN_lt h cn i
    have ho9 : (vB 4294967296 pd L) / 256 ^ i % 256 < 256 := Nat.mod_lt _ (by decide)
    refine lv_iload hx hb d_Rsa_hasForm_36 (lv_at hl 0 rfl) ?_
    refine lv_aload_n hx hb d_Rsa_hasForm_38 rfl (lv_at hl 2 rfl) ?_
    refine lv_iload_n hx hb d_Rsa_hasForm_39 rfl (lv_at hl 4 rfl) ?_
    refine lv_iload_n hx hb d_Rsa_hasForm_40 rfl (lv_at hl 3 rfl) ?_
    refine vp_callSi (pu_callS (As := [.ref ha, .int (nI i), .int (nI cn)]) (rest := [.int (nI ((vB 4294967296 pd L) / 256 ^ i % 256))]) ⟨hx, hb, hml, hown, hts⟩ tbin (x_Rsa_due l dC dI sb ha i cn cI h (by omega) hc62 hc256) q5_218 q5_219 q1_6 q5_220 (n := 3) (by decide +kernel) rfl ⟨rfl, rfl⟩ ⟨Nat.le_of_ble_eq_true rfl, Nat.le_of_ble_eq_true rfl⟩ ⟨Nat.le_of_ble_eq_true rfl, Nat.le_of_ble_eq_true rfl⟩ hN hT0 hK hP [2] rfl [1] rfl hl.1 rfl (Nat.le_of_ble_eq_true rfl) d_Rsa_hasForm_41) (fun r41 hr41 => ?_)
    rw [show (r41 : Int32) = nI (dueN h cn i) from hr41]
    refine lv_icmp_eq (tgt := 49) hx hb d_Rsa_hasForm_44 (by decide) (fun c44 => ?_) (fun c44 => ?_)
    · have p44 : ((vB 4294967296 pd L) / 256 ^ i % 256) = (dueN h cn i) := ((nI_eq (a := ((vB 4294967296 pd L) / 256 ^ i % 256)) (b := (dueN h cn i)) (by omega) (by omega)).mp c44)
      refine lv_iinc (v := nI (i + 1)) (lv' := [(3, .int (nI (i + 1))), (4, .int (nI ((vB 4294967296 pd L) / 256 ^ i % 256))), (0, .ref q0), (1, .ref ha), (2, .int (nI cn))]) hx hb d_Rsa_hasForm_49 hl (k := 4) rfl (nI_1 _) (by decide) rfl (fun ls hl => ?_)
      refine lv_goto (tgt := 2) hx hb d_Rsa_hasForm_52 (by decide) ?_
      exact ih (i + 1) ls (by omega) (⟨by omega, fg_next hJ.2 p44⟩) (lv_sub hl [2, 3, 4, 0] rfl)
    · have p44 : ¬ (((vB 4294967296 pd L) / 256 ^ i % 256) = (dueN h cn i)) := (fun q9 => c44 ((nI_eq (a := ((vB 4294967296 pd L) / 256 ^ i % 256)) (b := (dueN h cn i)) (by omega) (by omega)).mpr q9))
      refine lv_iconst (v := 0) hx hb d_Rsa_hasForm_47 (by decide) ?_
      exact W.zret (v := 0) hx hb hr (by decide) (fun t ht hW => ⟨_, rfl, bz_f (fun q9 => p44 (q9 i (by omega))), ht⟩) (fun q h => by cases h) d_Rsa_hasForm_48
