/-! The reference's limbs, exactly. -/
set_option maxHeartbeats 4000000 in
set_option maxRecDepth 100000 in
theorem x_Model_limbs (l : Launch) (dC : Nat → ClassId) (dI : Nat → Nat → Nat) (sb : sB) (t to : Nat) (x : TD) (a1 b1 : Nat) (cI : ClassId) (u o xd : Nat → Nat) (sz : Nat) (h1 : 2 ≤ a1) (h2 : a1 ≤ b1) (h3 : b1 ≤ 2048) (h4 : b1 ≤ a1 + 1000) (hu : ∀ j, u j < 256) (ho : ∀ i, i < b1 - a1 → o i = u (b1 - 1 - i)) (ho8 : ∀ i, o i < 256) (hxd : ∀ j, xd j < 65536) : Met l y_Model_limbs w_Model_limbs ({ frames := 1, cells := 0, slots := 0, locals := 22 }) (mf_P [(t, .inr (13, (.ref (x.A 0) :: .int (x.I 1) :: .int (x.I 2) :: .int (x.I 3) :: .int (x.I 4) :: .int (x.I 5) :: .int (x.I 6) :: .long (x.J 7) :: .long (x.J 8) :: .long (x.J 9) :: .int (x.I 10) :: .int (x.I 11) :: .int (x.I 12) :: .int (x.I 13) :: .int (x.I 14) :: .int (x.I 15) :: .int (x.I 16) :: .int (x.I 17) :: .int (x.I 18) :: .int (x.I 19) :: .int (x.I 20) :: .int (x.I 21) :: .int (x.I 22) :: .int (x.I 23) :: .int (x.I 24) :: .int (x.I 25) :: .int (x.I 26) :: .int (x.I 27) :: .int (x.I 28) :: .int (x.I 29) :: .int (x.I 30) :: .int (x.I 31) :: .int (x.I 32) :: .int (x.I 33) :: .int (x.I 34) :: .int (x.I 35) :: .int (x.I 36) :: .int (x.I 37) :: .int (x.I 38) :: .int (x.I 39) :: .int (x.I 40) :: .int (x.I 41) :: .int (x.I 42) :: .ref (x.A 1) :: .ref (x.A 2) :: .ref (x.A 3) :: .ref (x.A 4) :: .ref (x.A 5) :: .ref (x.A 6) :: .ref (x.A 7) :: .ref (x.A 8) :: .ref (x.A 9) :: .ref (x.A 10) :: .ref (x.A 11) :: []))), ((x.A 0), .inl (cI, 2048, .inl (tI u)))] [.ref t, .int (nI a1), .int (nI b1), .ref to] (dC, dI) sb [(to, .inl (cI, 600, .inl (tI xd)))] [(cI, .int)] sz) (va_Qi (fun r (r' : Nat × (Nat → Nat)) => r = nI r'.1 ∧ r'.1 ≤ (b1 - a1 + 1) / 2 ∧ (r'.1 = 0 ∨ r'.2 (r'.1 - 1) ≠ 0) ∧ vB 65536 r'.2 r'.1 = vB 256 o (b1 - a1) ∧ (∀ j, r'.2 j < 65536)) (mu_B (dC, dI) [(cI, .int)] (va_A [(to, .inl (cI, 600, .inl (tI xd)))] sz) (fun r' : Nat × (Nat → Nat) => [(to, .inl (cI, 600, .inl (tI r'.2)))])) (va_A [(to, .inl (cI, 600, .inl (tI xd)))] sz)) 0 0 (va_A [(to, .inl (cI, 600, .inl (tI xd)))] sz) := by
  refine Met.ofW (cc := b_Model_limbs) (maxL := 6) (ret := (some FieldType.int)) (by decide) rfl ?_
  intro p e s m args below meth c s₁ B hml hv
  obtain ⟨⟨rfl, hsz, hB0, hP, hK, hD0, hN, hT0⟩, hF0, hFA0⟩ := hv
  have hx := B.exec
  have hb := B.bytes
  have hr := B.returns
  have hts := atoms_spec (ws := w_Model_limbs) B.pre
  have tbin : ∀ w ∈ tb, w ∈ w_Model_limbs := fun w h => List.mem_cons_of_mem _ h
  have htb : ∀ w ∈ tb, w.before _ s = true := fun w h => hts w (tbin w h)
  have hown : s.vm.findClass "TrustChainModel" = some m.cls := findClass_of_methodNamed B.named
  have hlocks := B.notSynchronized
  subst hsz
  have hD := hD0.self (sz := s.heap.size)
  generalize hAe : va_A [(to, .inl (cI, 600, .inl (tI xd)))] s.heap.size = A at hD hFA0 ⊢
  have hA : ∀ q : Nat, s.heap.size ≤ q → A q := fun q h => by rw [← hAe]; exact Or.inr h
  have hAs : ∀ q : Nat, A q → sb.1 ≤ q := fun q h => by
    rw [← hAe] at h
    rcases h with ⟨k, e, h⟩ | h
    · exact hD0.2 k _ h
    · exact Nat.le_trans hB0 h
  have hS : va_S A s.heap s.heap [] := va_S.rf
  have hcs : 0 ≤ (headSpec w_Model_limbs ({ frames := 1, cells := 0, slots := 0, locals := 22 })).room.cells ∧ 0 ≤ (headSpec w_Model_limbs ({ frames := 1, cells := 0, slots := 0, locals := 22 })).room.slots := ⟨Nat.le_refl _, Nat.le_refl _⟩
  have hP : va_P (dC, dI) classes [(to, .inl (cI, 600, .inl (tI xd)))] s.heap := hP
  have hl := lv_entry ([.ref t, .int (nI a1), .int (nI b1), .ref to]) (n := 6) (Nat.le_of_ble_eq_true rfl)
  rw [lg_entry_eq]
  generalize (lg_sl ([.ref t, .int (nI a1), .int (nI b1), .ref to]) ++ List.replicate (6 - (lg_sl ([.ref t, .int (nI a1), .int (nI b1), .ref to])).length) Slot.unset).toArray = ls at hl ⊢
  have hl : lv_has ls 6 [(0, .ref t), (1, .int (nI a1)), (2, .int (nI b1)), (3, .ref to)] := hl
  rw [← rgG_e (ld2 o (b1 - a1)) xd 0] at hP hD
  have hP : va_P (dC, dI) classes [(to, .inl (cI, 600, .inl (tI (rgG (ld2 o (b1 - a1)) xd 0 0))))] s.heap := hP
  have hD : va_D A [(to, .inl (cI, 600, .inl (tI (rgG (ld2 o (b1 - a1)) xd 0 0))))] := hD
  refine lv_iconst (v := 0) hx hb d_Model_limbs_0 (by decide) ?_
  refine lv_istore (lv' := [(4, .int 0), (0, .ref t), (1, .int (nI a1)), (2, .int (nI b1)), (3, .ref to)]) hx hb d_Model_limbs_1 hl (by decide) rfl (fun ls hl => ?_)
  refine lv_iload_n hx hb d_Model_limbs_3 rfl (lv_at hl 3 rfl) ?_
  refine lv_iconst (v := 1) hx hb d_Model_limbs_4 (by decide) ?_
  refine lv_isub hx hb d_Model_limbs_5 ?_
  rw [show ((nI b1) - 1 : Int32) = nI (b1 - 1) from pk_sub (a := b1) (b := 1) (by omega)]
  refine lv_istore (lv' := [(5, .int (nI (b1 - 1))), (4, .int 0), (0, .ref t), (1, .int (nI a1)), (2, .int (nI b1)), (3, .ref to)]) hx hb d_Model_limbs_6 hl (by decide) rfl (fun ls hl => ?_)
  refine w_loopW (α := Nat) (fun z => z ≤ (b1 - a1 + 1) / 2) (fun z => (b1 - a1 + 1) / 2 - z) (fun z => [(0, .ref t), (1, .int (nI a1)), (3, .ref to), (4, .int (nI z)), (5, .int (nI (b1 - 1 - 2 * z)))]) (fun _ => []) (fun z => [(to, .inl (cI, 600, .inl (tI (rgG (ld2 o (b1 - a1)) xd 0 z))))]) 6 8 (fun z HL8 locs ls hJ hP hD hS hl ih => ?_) 0 _ _ ls (Nat.zero_le _) hP hD hS (lv_sub hl [2, 3, 5, 1, 0] rfl)
  have hP : va_P (dC, dI) classes [(to, .inl (cI, 600, .inl (tI (rgG (ld2 o (b1 - a1)) xd 0 z))))] HL8 := hP
  have hD : va_D A [(to, .inl (cI, 600, .inl (tI (rgG (ld2 o (b1 - a1)) xd 0 z))))] := hD
  refine lv_iload hx hb d_Model_limbs_8 (lv_at hl 4 rfl) ?_
  refine lv_iload_n hx hb d_Model_limbs_10 rfl (lv_at hl 1 rfl) ?_
  refine lv_icmp_lt (tgt := 57) hx hb d_Model_limbs_11 (by decide) (fun c11 => ?_) (fun c11 => ?_)
  · have p11 : (b1 - 1 - 2 * z) < a1 := ((nI_ltI (a := (b1 - 1 - 2 * z)) (b := a1) (by omega) (by omega)).mp c11)
    have hz9 : z = (b1 - a1 + 1) / 2 := by omega
    have hrow : ∀ i, rgG (ld2 o (b1 - a1)) xd 0 z i < 65536 := rgG_lt (fun i => ld2_lt ho8 _ i) hxd
    refine lv_aload_n hx hb d_Model_limbs_57 rfl (lv_at hl 2 rfl) ?_
    refine lv_iload hx hb d_Model_limbs_58 (lv_at hl 3 rfl) ?_
    refine vp_callSi (pu_callS (As := [.ref to, .int (nI z)]) (rest := []) ⟨hx, hb, hml, hown, hts⟩ tbin (x_Model_trim l dC dI sb to z cI (rgG (ld2 o (b1 - a1)) xd 0 z) (by omega) (fun i => Nat.lt_trans (hrow i) (by decide))) q9_103 q9_104 q1_9 q9_105 (n := 2) (by decide +kernel) rfl ⟨rfl, rfl⟩ ⟨Nat.le_of_ble_eq_true rfl, Nat.le_of_ble_eq_true rfl⟩ ⟨Nat.le_of_ble_eq_true rfl, Nat.le_of_ble_eq_true rfl⟩ hN (hT0.keep hS hAs) hK hP [0] rfl [0] rfl hl.1 rfl (Nat.le_of_ble_eq_true rfl) d_Model_limbs_60) (fun r60 hr60 => ?_)
    rw [show (r60 : Int32) = nI (tmN (rgG (ld2 o (b1 - a1)) xd 0 z) z) from hr60]
    exact W.iret (v := nI (tmN (rgG (ld2 o (b1 - a1)) xd 0 z) z)) hx hb hr (fun t ht hW => ⟨⟨_, (tmN (rgG (ld2 o (b1 - a1)) xd 0 z) z, rgG (ld2 o (b1 - a1)) xd 0 z), rfl, ⟨rfl, Nat.le_trans (tmN_le _ _) hJ, tmN_top _ _, by rw [tmN_v, rgG_v]; exact ld2_val o _ z (by omega), hrow⟩, by rw [ht]; exact hP, va_K.moved hW.alike hK, hD⟩, hS.F ht⟩) hS.2.2 d_Model_limbs_63
  · have p11 : ¬ ((b1 - 1 - 2 * z) < a1) := (fun q9 => c11 ((nI_ltI (a := (b1 - 1 - 2 * z)) (b := a1) (by omega) (by omega)).mpr q9))
    refine lv_aload_n hx hb d_Model_limbs_14 rfl (lv_at hl 2 rfl) ?_
    refine lv_iload hx hb d_Model_limbs_15 (lv_at hl 3 rfl) ?_
    refine lv_iinc (v := nI (z + 1)) (lv' := [(4, .int (nI (z + 1))), (0, .ref t), (1, .int (nI a1)), (3, .ref to), (5, .int (nI (b1 - 1 - 2 * z)))]) hx hb d_Model_limbs_17 hl (k := 3) rfl (nI_1 _) (by decide) rfl (fun ls hl => ?_)
    refine lv_aload_n hx hb d_Model_limbs_20 rfl (lv_at hl 1 rfl) ?_
    refine va_get (v := .ref (x.A 0)) hx hb htb i_Text hown hK (mf_keep hF0 hFA0 hS) 0 rfl rfl 0 (by decide) (htb _ q6_179) (fun _ h9 => h9) rfl d_Model_limbs_21 ?_
    refine lv_iload hx hb d_Model_limbs_24 (lv_at hl 4 rfl) ?_
    have h26 : vp_in (nI (b1 - 1 - 2 * z)) 2048 := vp_in_nI (by omega) (by omega)
    refine va_iald hx hb hK (mf_keep hF0 hFA0 hS) 1 0 rfl rfl h26 d_Model_limbs_26 ?_
    rw [show tI u (nI (b1 - 1 - 2 * z)).toNatClampNeg = nI (u (b1 - 1 - 2 * z)) from tI_at (by omega)]
    have hu26 := hu (b1 - 1 - 2 * z)
    refine lv_iload hx hb d_Model_limbs_27 (lv_at hl 4 rfl) ?_
    refine lv_iload_n hx hb d_Model_limbs_29 rfl (lv_at hl 2 rfl) ?_
    refine lv_icmp_le (tgt := 48) hx hb d_Model_limbs_30 (by decide) (fun c30 => ?_) (fun c30 => ?_)
    · have p30 : (b1 - 1 - 2 * z) ≤ a1 := ((nI_leI (a := (b1 - 1 - 2 * z)) (b := a1) (by omega) (by omega)).mp c30)
      refine lv_iconst (v := 0) hx hb d_Model_limbs_48 (by decide) ?_
      refine lv_ior hx hb d_Model_limbs_49 ?_
      rw [show ((nI (u (b1 - 1 - 2 * z))) ||| 0 : Int32) = nI (ld2 o (b1 - a1) z) from or_zero.trans (congrArg nI (ld2_lo ho (by omega) (by omega)))]
      have h50 : vp_in (nI z) 600 := vp_in_nI (by omega) (by omega)
      refine va_iast hx hb hK hP hD hS 0 0 rfl rfl h50 d_Model_limbs_50 (fun H50 locs hP hD hS => ?_)
      rw [nI_clamp (by omega), tI_up] at hP hD
      have hP : va_P (dC, dI) classes [(to, .inl (cI, 600, .inl (tI (updN (rgG (ld2 o (b1 - a1)) xd 0 z) z (ld2 o (b1 - a1) z)))))] H50 := hP
      have hD : va_D A [(to, .inl (cI, 600, .inl (tI (updN (rgG (ld2 o (b1 - a1)) xd 0 z) z (ld2 o (b1 - a1) z)))))] := hD
      rw [rgG_up (v := ld2 o (b1 - a1)) (Nat.zero_le _)] at hP hD
      have hP : va_P (dC, dI) classes [(to, .inl (cI, 600, .inl (tI (rgG (ld2 o (b1 - a1)) xd 0 (z + 1)))))] H50 := hP
      have hD : va_D A [(to, .inl (cI, 600, .inl (tI (rgG (ld2 o (b1 - a1)) xd 0 (z + 1)))))] := hD
      refine lv_iinc (v := nI (b1 - 1 - 2 * (z + 1))) (lv' := [(5, .int (nI (b1 - 1 - 2 * (z + 1)))), (4, .int (nI (z + 1))), (0, .ref t), (1, .int (nI a1)), (3, .ref to)]) hx hb d_Model_limbs_51 hl (k := 4) rfl (nI_m2 (by omega)) (by decide) rfl (fun ls hl => ?_)
      refine lv_goto (tgt := 8) hx hb d_Model_limbs_54 (by decide) ?_
      exact ih (z + 1) _ _ ls (by omega) (by omega) hP hD hS (lv_sub hl [2, 3, 4, 1, 0] rfl)
    · have p30 : ¬ ((b1 - 1 - 2 * z) ≤ a1) := (fun q9 => c30 ((nI_leI (a := (b1 - 1 - 2 * z)) (b := a1) (by omega) (by omega)).mpr q9))
      refine lv_aload_n hx hb d_Model_limbs_33 rfl (lv_at hl 1 rfl) ?_
      refine va_get (v := .ref (x.A 0)) hx hb htb i_Text hown hK (mf_keep hF0 hFA0 hS) 0 rfl rfl 0 (by decide) (htb _ q6_179) (fun _ h9 => h9) rfl d_Model_limbs_34 ?_
      refine lv_iload hx hb d_Model_limbs_37 (lv_at hl 4 rfl) ?_
      refine lv_iconst (v := 1) hx hb d_Model_limbs_39 (by decide) ?_
      refine lv_isub hx hb d_Model_limbs_40 ?_
      rw [show ((nI (b1 - 1 - 2 * z)) - 1 : Int32) = nI ((b1 - 1 - 2 * z) - 1) from pk_sub (a := (b1 - 1 - 2 * z)) (b := 1) (by omega)]
      have h41 : vp_in (nI ((b1 - 1 - 2 * z) - 1)) 2048 := vp_in_nI (by omega) (by omega)
      refine va_iald hx hb hK (mf_keep hF0 hFA0 hS) 1 0 rfl rfl h41 d_Model_limbs_41 ?_
      rw [show tI u (nI ((b1 - 1 - 2 * z) - 1)).toNatClampNeg = nI (u ((b1 - 1 - 2 * z) - 1)) from tI_at (by omega)]
      have hu41 := hu ((b1 - 1 - 2 * z) - 1)
      refine lv_bipush (v := 8) hx hb d_Model_limbs_42 (by decide) ?_
      refine lv_ishl hx hb d_Model_limbs_44 ?_
      refine lv_goto (tgt := 49) hx hb d_Model_limbs_45 (by decide) ?_
      refine lv_ior hx hb d_Model_limbs_49 ?_
      rw [show ((nI (u (b1 - 1 - 2 * z))) ||| ((nI (u ((b1 - 1 - 2 * z) - 1))) <<< (8 &&& 31)) : Int32) = nI (ld2 o (b1 - a1) z) from (or_hi (hu _) (hu _)).trans (congrArg nI (ld2_hi ho (by omega) (by omega) (by omega)))]
      have h50 : vp_in (nI z) 600 := vp_in_nI (by omega) (by omega)
      refine va_iast hx hb hK hP hD hS 0 0 rfl rfl h50 d_Model_limbs_50 (fun H50 locs hP hD hS => ?_)
      rw [nI_clamp (by omega), tI_up] at hP hD
      have hP : va_P (dC, dI) classes [(to, .inl (cI, 600, .inl (tI (updN (rgG (ld2 o (b1 - a1)) xd 0 z) z (ld2 o (b1 - a1) z)))))] H50 := hP
      have hD : va_D A [(to, .inl (cI, 600, .inl (tI (updN (rgG (ld2 o (b1 - a1)) xd 0 z) z (ld2 o (b1 - a1) z)))))] := hD
      rw [rgG_up (v := ld2 o (b1 - a1)) (Nat.zero_le _)] at hP hD
      have hP : va_P (dC, dI) classes [(to, .inl (cI, 600, .inl (tI (rgG (ld2 o (b1 - a1)) xd 0 (z + 1)))))] H50 := hP
      have hD : va_D A [(to, .inl (cI, 600, .inl (tI (rgG (ld2 o (b1 - a1)) xd 0 (z + 1)))))] := hD
      refine lv_iinc (v := nI (b1 - 1 - 2 * (z + 1))) (lv' := [(5, .int (nI (b1 - 1 - 2 * (z + 1)))), (4, .int (nI (z + 1))), (0, .ref t), (1, .int (nI a1)), (3, .ref to)]) hx hb d_Model_limbs_51 hl (k := 4) rfl (nI_m2 (by omega)) (by decide) rfl (fun ls hl => ?_)
      refine lv_goto (tgt := 8) hx hb d_Model_limbs_54 (by decide) ?_
      exact ih (z + 1) _ _ ls (by omega) (by omega) hP hD hS (lv_sub hl [2, 3, 4, 1, 0] rfl)
