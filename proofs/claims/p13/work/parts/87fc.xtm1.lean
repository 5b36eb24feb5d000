/-! The reference's times, exactly. -/
set_option maxHeartbeats 4000000 in
set_option maxRecDepth 100000 in
theorem x_Model_tm1 (l : Launch) (dC : Nat → ClassId) (dI : Nat → Nat → Nat) (sb : sB) (a1 c1 n k1 : Nat) (cI : ClassId) (xd sd : Nat → Nat) (sz : Nat) (hnm : n + k1 ≤ 600) (hxd : ∀ j, xd j < 65536) (hsd : ∀ j, sd j < 65536) : Met l y_Model_times w_Model_times ({ frames := 1, cells := 0, slots := 0, locals := 22 }) (mu_P [.ref a1, .int (nI n), .ref a1, .int (nI k1), .ref c1] (dC, dI) sb [(a1, .inl (cI, 600, .inl (tI xd))), (c1, .inl (cI, 600, .inl (tI sd)))] [(cI, .int)] sz) (va_Qi (fun r (u : Nat → Nat) => r = nI (tmN u (n + k1)) ∧ (∀ q, u q < 65536) ∧ vB 65536 u (n + k1) = vB 65536 xd n * vB 65536 xd k1) (mu_B (dC, dI) [(cI, .int)] (va_A [(a1, .inl (cI, 600, .inl (tI xd))), (c1, .inl (cI, 600, .inl (tI sd)))] sz) (fun u : Nat → Nat => [(a1, .inl (cI, 600, .inl (tI xd))), (c1, .inl (cI, 600, .inl (tI u)))])) (va_A [(a1, .inl (cI, 600, .inl (tI xd))), (c1, .inl (cI, 600, .inl (tI sd)))] sz)) 0 0 (va_A [(a1, .inl (cI, 600, .inl (tI xd))), (c1, .inl (cI, 600, .inl (tI sd)))] sz) := by
  refine Met.ofW (cc := b_Model_times) (maxL := 9) (ret := (some FieldType.int)) (by decide) rfl ?_
  intro p e s m args below meth c s₁ B hml hv
  obtain ⟨rfl, hsz, hB0, hP, hK, hD0, hN, hT0⟩ := hv
  have hx := B.exec
  have hb := B.bytes
  have hr := B.returns
  have hts := atoms_spec (ws := w_Model_times) B.pre
  have tbin : ∀ w ∈ tb, w ∈ w_Model_times := fun w h => List.mem_cons_of_mem _ h
  have htb : ∀ w ∈ tb, w.before _ s = true := fun w h => hts w (tbin w h)
  have hown : s.vm.findClass "TrustChainModel" = some m.cls := findClass_of_methodNamed B.named
  have hlocks := B.notSynchronized
  subst hsz
  have hD := hD0.self (sz := s.heap.size)
  generalize hAe : va_A [(a1, .inl (cI, 600, .inl (tI xd))), (c1, .inl (cI, 600, .inl (tI sd)))] s.heap.size = A at hD ⊢
  have hA : ∀ q : Nat, s.heap.size ≤ q → A q := fun q h => by rw [← hAe]; exact Or.inr h
  have hAs : ∀ q : Nat, A q → sb.1 ≤ q := fun q h => by
    rw [← hAe] at h
    rcases h with ⟨k, e, h⟩ | h
    · exact hD0.2 k _ h
    · exact Nat.le_trans hB0 h
  have hS : va_S A s.heap s.heap [] := va_S.rf
  have hcs : 0 ≤ (headSpec w_Model_times ({ frames := 1, cells := 0, slots := 0, locals := 22 })).room.cells ∧ 0 ≤ (headSpec w_Model_times ({ frames := 1, cells := 0, slots := 0, locals := 22 })).room.slots := ⟨Nat.le_refl _, Nat.le_refl _⟩
  have hP : va_P (dC, dI) classes [(a1, .inl (cI, 600, .inl (tI xd))), (c1, .inl (cI, 600, .inl (tI sd)))] s.heap := hP
  have hl := lv_entry ([.ref a1, .int (nI n), .ref a1, .int (nI k1), .ref c1]) (n := 9) (Nat.le_of_ble_eq_true rfl)
  rw [lg_entry_eq]
  generalize (lg_sl ([.ref a1, .int (nI n), .ref a1, .int (nI k1), .ref c1]) ++ List.replicate (9 - (lg_sl ([.ref a1, .int (nI n), .ref a1, .int (nI k1), .ref c1])).length) Slot.unset).toArray = ls at hl ⊢
  have hl : lv_has ls 9 [(0, .ref a1), (1, .int (nI n)), (2, .ref a1), (3, .int (nI k1)), (4, .ref c1)] := hl
  rw [← zG_0 sd] at hP hD
  have hP : va_P (dC, dI) classes [(a1, .inl (cI, 600, .inl (tI xd))), (c1, .inl (cI, 600, .inl (tI (zG sd 0))))] s.heap := hP
  have hD : va_D A [(a1, .inl (cI, 600, .inl (tI xd))), (c1, .inl (cI, 600, .inl (tI (zG sd 0))))] := hD
  refine lv_iconst (v := 0) hx hb d_Model_times_0 (by decide) ?_
  refine lv_istore (lv' := [(5, .int 0), (0, .ref a1), (1, .int (nI n)), (2, .ref a1), (3, .int (nI k1)), (4, .ref c1)]) hx hb d_Model_times_1 hl (by decide) rfl (fun ls hl => ?_)
  refine w_loopW (α := Nat) (fun k => k ≤ n + k1) (fun k => n + k1 - k) (fun k => [(0, .ref a1), (1, .int (nI n)), (2, .ref a1), (3, .int (nI k1)), (4, .ref c1), (5, .int (nI k))]) (fun _ => []) (fun k => [(a1, .inl (cI, 600, .inl (tI xd))), (c1, .inl (cI, 600, .inl (tI (zG sd k))))]) 9 3 (fun k HL3 locs ls hJ hP hD hS hl ih => ?_) 0 _ _ ls (Nat.zero_le _) hP hD hS (lv_sub hl [1, 2, 3, 4, 5, 0] rfl)
  have hP : va_P (dC, dI) classes [(a1, .inl (cI, 600, .inl (tI xd))), (c1, .inl (cI, 600, .inl (tI (zG sd k))))] HL3 := hP
  have hD : va_D A [(a1, .inl (cI, 600, .inl (tI xd))), (c1, .inl (cI, 600, .inl (tI (zG sd k))))] := hD
  refine lv_iload hx hb d_Model_times_3 (lv_at hl 5 rfl) ?_
  refine lv_iload_n hx hb d_Model_times_5 rfl (lv_at hl 1 rfl) ?_
  refine lv_iload_n hx hb d_Model_times_6 rfl (lv_at hl 3 rfl) ?_
  refine lv_iadd hx hb d_Model_times_7 ?_
  rw [show ((nI n) + (nI k1) : Int32) = nI (n + k1) from nI_add n k1]
  refine lv_icmp_ge (tgt := 23) hx hb d_Model_times_8 (by decide) (fun c8 => ?_) (fun c8 => ?_)
  · have p8 : (n + k1) ≤ k := ((nI_leI (a := (n + k1)) (b := k) (by omega) (by omega)).mp c8)
    refine lv_iconst (v := 0) hx hb d_Model_times_23 (by decide) ?_
    refine lv_istore (lv' := [(5, .int 0), (0, .ref a1), (1, .int (nI n)), (2, .ref a1), (3, .int (nI k1)), (4, .ref c1)]) hx hb d_Model_times_24 hl (by decide) rfl (fun ls hl => ?_)
    refine w_loopW (α := Nat × (Nat → Nat)) (fun z => z.1 ≤ n ∧ (∀ q, z.2 q < 65536) ∧ vB 65536 z.2 (z.1 + k1) = vB 65536 xd z.1 * vB 65536 xd k1) (fun z => n - z.1) (fun z => [(0, .ref a1), (1, .int (nI n)), (2, .ref a1), (3, .int (nI k1)), (4, .ref c1), (5, .int (nI z.1))]) (fun _ => []) (fun z => [(a1, .inl (cI, 600, .inl (tI xd))), (c1, .inl (cI, 600, .inl (tI z.2)))]) 9 26 (fun z HL26 locs ls hJ hP hD hS hl ih => ?_) (0, zG sd k) _ _ ls (⟨Nat.zero_le _, zG_l (by decide) hsd, by rw [show (0 : Nat) + k1 = k1 from Nat.zero_add _, vB_z k1 (by omega)]; exact (Nat.zero_mul _).symm⟩) hP hD hS (lv_sub hl [1, 2, 3, 4, 5, 0] rfl)
    have hP : va_P (dC, dI) classes [(a1, .inl (cI, 600, .inl (tI xd))), (c1, .inl (cI, 600, .inl (tI z.2)))] HL26 := hP
    have hD : va_D A [(a1, .inl (cI, 600, .inl (tI xd))), (c1, .inl (cI, 600, .inl (tI z.2)))] := hD
    refine lv_iload hx hb d_Model_times_26 (lv_at hl 5 rfl) ?_
    refine lv_iload_n hx hb d_Model_times_28 rfl (lv_at hl 1 rfl) ?_
    refine lv_icmp_ge (tgt := 114) hx hb d_Model_times_29 (by decide) (fun c29 => ?_) (fun c29 => ?_)
    · have p29 : n ≤ z.1 := ((nI_leI (a := n) (b := z.1) (by omega) (by omega)).mp c29)
      refine lv_aload hx hb d_Model_times_114 (lv_at hl 4 rfl) ?_
      refine lv_iload_n hx hb d_Model_times_116 rfl (lv_at hl 1 rfl) ?_
      refine lv_iload_n hx hb d_Model_times_117 rfl (lv_at hl 3 rfl) ?_
      refine lv_iadd hx hb d_Model_times_118 ?_
      rw [show ((nI n) + (nI k1) : Int32) = nI (n + k1) from nI_add n k1]
      refine vp_callSi (pu_callS (As := [.ref c1, .int (nI (n + k1))]) (rest := []) ⟨hx, hb, hml, hown, hts⟩ tbin (x_Model_trim l dC dI sb c1 (n + k1) cI z.2 (by omega) (fun q => Nat.lt_trans (hJ.2.1 q) (by decide))) q9_103 q9_104 q1_9 q9_105 (n := 2) (by decide +kernel) rfl ⟨rfl, rfl⟩ ⟨Nat.le_of_ble_eq_true rfl, Nat.le_of_ble_eq_true rfl⟩ ⟨Nat.le_of_ble_eq_true rfl, Nat.le_of_ble_eq_true rfl⟩ hN (hT0.keep hS hAs) hK hP [1] rfl [0] rfl hl.1 rfl (Nat.le_of_ble_eq_true rfl) d_Model_times_119) (fun r119 hr119 => ?_)
      rw [show (r119 : Int32) = nI (tmN z.2 (n + k1)) from hr119]
      exact W.iret (v := nI (tmN z.2 (n + k1))) hx hb hr (fun t ht hW => ⟨⟨_, z.2, rfl, ⟨rfl, hJ.2.1, (show vB 65536 z.2 (n + k1) = vB 65536 xd n * vB 65536 xd k1 from by have h9 := hJ.2.2; rw [show z.1 = n by omega] at h9; exact h9)⟩, by rw [ht]; exact hP, va_K.moved hW.alike hK, hD⟩, hS.F ht⟩) hS.2.2 d_Model_times_122
    · have p29 : ¬ (n ≤ z.1) := (fun q9 => c29 ((nI_leI (a := n) (b := z.1) (by omega) (by omega)).mpr q9))
      refine lv_lconst (v := 0) hx hb d_Model_times_32 (by decide) ?_
      refine lv_lstore (lv' := [(6, .long 0), (0, .ref a1), (1, .int (nI n)), (2, .ref a1), (3, .int (nI k1)), (4, .ref c1), (5, .int (nI z.1))]) hx hb d_Model_times_33 hl (by decide) rfl (fun ls hl => ?_)
      refine lv_iconst (v := 0) hx hb d_Model_times_35 (by decide) ?_
      refine lv_istore (lv' := [(8, .int 0), (6, .long 0), (0, .ref a1), (1, .int (nI n)), (2, .ref a1), (3, .int (nI k1)), (4, .ref c1), (5, .int (nI z.1))]) hx hb d_Model_times_36 hl (by decide) rfl (fun ls hl => ?_)
      refine w_loopW (α := Nat × (Nat → Nat) × Nat) (fun u => u.1 ≤ k1 ∧ (∀ q, u.2.1 q < 65536) ∧ (∀ q, z.1 + u.1 ≤ q → u.2.1 q = z.2 q) ∧ u.2.2 < 65536 ∧ vB 65536 u.2.1 (z.1 + u.1) + u.2.2 * 65536 ^ (z.1 + u.1) = vB 65536 z.2 (z.1 + u.1) + xd z.1 * 65536 ^ z.1 * vB 65536 xd u.1) (fun u => k1 - u.1) (fun u => [(0, .ref a1), (1, .int (nI n)), (2, .ref a1), (3, .int (nI k1)), (4, .ref c1), (5, .int (nI z.1)), (6, .long (lN u.2.2)), (8, .int (nI u.1))]) (fun _ => []) (fun u => [(a1, .inl (cI, 600, .inl (tI xd))), (c1, .inl (cI, 600, .inl (tI u.2.1)))]) 9 38 (fun u HL38 locs ls hJ1 hP hD hS hl ih1 => ?_) (0, z.2, 0) _ _ ls (⟨Nat.zero_le _, hJ.2.1, fun _ _ => rfl, (show (0 : Nat) < 65536 by decide), by rw [Nat.zero_mul]; rfl⟩) hP hD hS (lv_sub hl [2, 3, 4, 5, 6, 7, 1, 0] rfl)
      have hP : va_P (dC, dI) classes [(a1, .inl (cI, 600, .inl (tI xd))), (c1, .inl (cI, 600, .inl (tI u.2.1)))] HL38 := hP
      have hD : va_D A [(a1, .inl (cI, 600, .inl (tI xd))), (c1, .inl (cI, 600, .inl (tI u.2.1)))] := hD
      refine lv_iload hx hb d_Model_times_38 (lv_at hl 7 rfl) ?_
      refine lv_iload_n hx hb d_Model_times_40 rfl (lv_at hl 3 rfl) ?_
      refine lv_icmp_ge (tgt := 98) hx hb d_Model_times_41 (by decide) (fun c41 => ?_) (fun c41 => ?_)
      · have p41 : k1 ≤ u.1 := ((nI_leI (a := k1) (b := u.1) (by omega) (by omega)).mp c41)
        have hu9 : u.1 = k1 := by omega
        refine lv_aload hx hb d_Model_times_98 (lv_at hl 4 rfl) ?_
        refine lv_iload hx hb d_Model_times_100 (lv_at hl 5 rfl) ?_
        refine lv_iload_n hx hb d_Model_times_102 rfl (lv_at hl 3 rfl) ?_
        refine lv_iadd hx hb d_Model_times_103 ?_
        rw [show ((nI z.1) + (nI k1) : Int32) = nI (z.1 + k1) from nI_add z.1 k1]
        refine lv_lload hx hb d_Model_times_104 (lv_at hl 6 rfl) ?_
        refine lv_l2i (v := (lN u.2.2).toInt32) hx hb d_Model_times_106 rfl ?_
        rw [lN_i]
        have h107 : vp_in (nI (z.1 + k1)) 600 := vp_in_nI (by omega) (by omega)
        refine va_iast hx hb hK hP hD hS 1 0 rfl rfl h107 d_Model_times_107 (fun H107 locs hP hD hS => ?_)
        rw [nI_clamp (by omega), tI_up] at hP hD
        have hP : va_P (dC, dI) classes [(a1, .inl (cI, 600, .inl (tI xd))), (c1, .inl (cI, 600, .inl (tI (updN u.2.1 (z.1 + k1) u.2.2))))] H107 := hP
        have hD : va_D A [(a1, .inl (cI, 600, .inl (tI xd))), (c1, .inl (cI, 600, .inl (tI (updN u.2.1 (z.1 + k1) u.2.2))))] := hD
        refine lv_iinc (v := nI (z.1 + 1)) (lv' := [(5, .int (nI (z.1 + 1))), (0, .ref a1), (1, .int (nI n)), (2, .ref a1), (3, .int (nI k1)), (4, .ref c1), (6, .long (lN u.2.2)), (8, .int (nI u.1))]) hx hb d_Model_times_108 hl (k := 5) rfl (nI_1 _) (by decide) rfl (fun ls hl => ?_)
        refine lv_goto (tgt := 26) hx hb d_Model_times_111 (by decide) ?_
        exact ih (z.1 + 1, updN u.2.1 (z.1 + k1) u.2.2) _ _ ls (by show n - (z.1 + 1) < n - z.1; omega) (tp_next hJ (by omega) hJ1 (by omega)) hP hD hS (lv_sub hl [1, 2, 3, 4, 5, 0] rfl)
      · have p41 : ¬ (k1 ≤ u.1) := (fun q9 => c41 ((nI_leI (a := k1) (b := u.1) (by omega) (by omega)).mpr q9))
        refine lv_lload hx hb d_Model_times_44 (lv_at hl 6 rfl) ?_
        refine lv_aload_n hx hb d_Model_times_46 rfl (lv_at hl 0 rfl) ?_
        refine lv_iload hx hb d_Model_times_47 (lv_at hl 5 rfl) ?_
        have h49 : vp_in (nI z.1) 600 := vp_in_nI (by omega) (by omega)
        refine va_iald hx hb hK hP 0 0 rfl rfl h49 d_Model_times_49 ?_
        rw [show tI xd (nI z.1).toNatClampNeg = nI (xd z.1) from tI_at (by omega)]
        have hu49 := hxd z.1
        refine lv_i2l (v := (nI (xd z.1)).toInt64) hx hb d_Model_times_50 rfl ?_
        rw [show (nI (xd z.1)).toInt64 = lN (xd z.1) from nI_l (by omega)]
        refine lv_aload_n hx hb d_Model_times_51 rfl (lv_at hl 2 rfl) ?_
        refine lv_iload hx hb d_Model_times_52 (lv_at hl 7 rfl) ?_
        have h54 : vp_in (nI u.1) 600 := vp_in_nI (by omega) (by omega)
        refine va_iald hx hb hK hP 0 0 rfl rfl h54 d_Model_times_54 ?_
        rw [show tI xd (nI u.1).toNatClampNeg = nI (xd u.1) from tI_at (by omega)]
        have hu54 := hxd u.1
        refine lv_i2l (v := (nI (xd u.1)).toInt64) hx hb d_Model_times_55 rfl ?_
        rw [show (nI (xd u.1)).toInt64 = lN (xd u.1) from nI_l (by omega)]
        refine lv_lmul hx hb d_Model_times_56 ?_
        rw [show (lN (xd z.1) * lN (xd u.1) : Int64) = lN ((xd z.1) * (xd u.1)) from lN_mul _ _]
        refine lv_aload hx hb d_Model_times_57 (lv_at hl 4 rfl) ?_
        refine lv_iload hx hb d_Model_times_59 (lv_at hl 5 rfl) ?_
        refine lv_iload hx hb d_Model_times_61 (lv_at hl 7 rfl) ?_
        refine lv_iadd hx hb d_Model_times_63 ?_
        rw [show ((nI z.1) + (nI u.1) : Int32) = nI (z.1 + u.1) from nI_add z.1 u.1]
        have h64 : vp_in (nI (z.1 + u.1)) 600 := vp_in_nI (by omega) (by omega)
        refine va_iald hx hb hK hP 1 0 rfl rfl h64 d_Model_times_64 ?_
        rw [show tI u.2.1 (nI (z.1 + u.1)).toNatClampNeg = nI (u.2.1 (z.1 + u.1)) from tI_at (by omega)]
        have hu64 := hJ1.2.1 (z.1 + u.1)
        refine lv_i2l (v := (nI (u.2.1 (z.1 + u.1))).toInt64) hx hb d_Model_times_65 rfl ?_
        rw [show (nI (u.2.1 (z.1 + u.1))).toInt64 = lN (u.2.1 (z.1 + u.1)) from nI_l (by omega)]
        refine lv_ladd hx hb d_Model_times_66 ?_
        rw [show (lN ((xd z.1) * (xd u.1)) + lN (u.2.1 (z.1 + u.1)) : Int64) = lN (((xd z.1) * (xd u.1)) + (u.2.1 (z.1 + u.1))) from lN_add _ _]
        refine lv_ladd hx hb d_Model_times_67 ?_
        rw [show (lN u.2.2 + lN (((xd z.1) * (xd u.1)) + (u.2.1 (z.1 + u.1))) : Int64) = lN (u.2.2 + (((xd z.1) * (xd u.1)) + (u.2.1 (z.1 + u.1)))) from lN_add _ _]
        obtain ⟨g68, hg68⟩ : ∃ g : Nat, g = (u.2.2 + (((xd z.1) * (xd u.1)) + (u.2.1 (z.1 + u.1)))) := ⟨_, rfl⟩
        rw [← hg68]
        have hb68 : g68 < 4294967296 := by rw [hg68]; exact w16_c hJ1.2.2.2.1 (hxd _) (hxd _) (hJ1.2.1 _)
        refine lv_lstore (lv' := [(6, .long (lN g68)), (0, .ref a1), (1, .int (nI n)), (2, .ref a1), (3, .int (nI k1)), (4, .ref c1), (5, .int (nI z.1)), (8, .int (nI u.1))]) hx hb d_Model_times_68 hl (by decide) rfl (fun ls hl => ?_)
        refine lv_aload hx hb d_Model_times_70 (lv_at hl 5 rfl) ?_
        refine lv_iload hx hb d_Model_times_72 (lv_at hl 6 rfl) ?_
        refine lv_iload hx hb d_Model_times_74 (lv_at hl 7 rfl) ?_
        refine lv_iadd hx hb d_Model_times_76 ?_
        rw [show ((nI z.1) + (nI u.1) : Int32) = nI (z.1 + u.1) from nI_add z.1 u.1]
        refine lv_lload hx hb d_Model_times_77 (lv_at hl 0 rfl) ?_
        refine lv_ldc2 (v := 65535) hx hb hown (htb _ q9_120) d_Model_times_79 ?_
        refine lv_land hx hb d_Model_times_82 ?_
        refine lv_l2i (v := ((lN g68) &&& 65535).toInt32) hx hb d_Model_times_83 rfl ?_
        rw [show (((lN g68) &&& 65535 : Int64)).toInt32 = nI (g68 % 65536) from l_lo16 (by omega)]
        have h84 : vp_in (nI (z.1 + u.1)) 600 := vp_in_nI (by omega) (by omega)
        refine va_iast hx hb hK hP hD hS 1 0 rfl rfl h84 d_Model_times_84 (fun H84 locs hP hD hS => ?_)
        rw [nI_clamp (by omega), tI_up] at hP hD
        have hP : va_P (dC, dI) classes [(a1, .inl (cI, 600, .inl (tI xd))), (c1, .inl (cI, 600, .inl (tI (updN u.2.1 (z.1 + u.1) (g68 % 65536)))))] H84 := hP
        have hD : va_D A [(a1, .inl (cI, 600, .inl (tI xd))), (c1, .inl (cI, 600, .inl (tI (updN u.2.1 (z.1 + u.1) (g68 % 65536)))))] := hD
        refine lv_lload hx hb d_Model_times_85 (lv_at hl 0 rfl) ?_
        refine lv_bipush (v := 16) hx hb d_Model_times_87 (by decide) ?_
        refine lv_lushr (v := ((lN g68).toUInt64 >>> ((16 : Int32).toInt64.toUInt64 &&& Int64.toUInt64 63)).toInt64) hx hb d_Model_times_89 rfl ?_
        rw [show (((lN g68).toUInt64 >>> ((16 : Int32).toInt64.toUInt64 &&& Int64.toUInt64 63)).toInt64 : Int64) = lN (g68 / 65536) from l_hi16 (by omega)]
        refine lv_lstore (lv' := [(6, .long (lN (g68 / 65536))), (0, .ref a1), (1, .int (nI n)), (2, .ref a1), (3, .int (nI k1)), (4, .ref c1), (5, .int (nI z.1)), (8, .int (nI u.1))]) hx hb d_Model_times_90 hl (by decide) rfl (fun ls hl => ?_)
        refine lv_iinc (v := nI (u.1 + 1)) (lv' := [(8, .int (nI (u.1 + 1))), (6, .long (lN (g68 / 65536))), (0, .ref a1), (1, .int (nI n)), (2, .ref a1), (3, .int (nI k1)), (4, .ref c1), (5, .int (nI z.1))]) hx hb d_Model_times_92 hl (k := 7) rfl (nI_1 _) (by decide) rfl (fun ls hl => ?_)
        refine lv_goto (tgt := 38) hx hb d_Model_times_95 (by decide) ?_
        exact ih1 (u.1 + 1, updN u.2.1 (z.1 + u.1) (g68 % 65536), g68 / 65536) _ _ ls (by show k1 - (u.1 + 1) < k1 - u.1; omega) (tn_next hJ1 (by omega) hg68 hb68) hP hD hS (lv_sub hl [2, 3, 4, 5, 6, 7, 1, 0] rfl)
  · have p8 : ¬ ((n + k1) ≤ k) := (fun q9 => c8 ((nI_leI (a := (n + k1)) (b := k) (by omega) (by omega)).mpr q9))
    refine lv_aload hx hb d_Model_times_11 (lv_at hl 4 rfl) ?_
    refine lv_iload hx hb d_Model_times_13 (lv_at hl 5 rfl) ?_
    refine lv_iconst (v := 0) hx hb d_Model_times_15 (by decide) ?_
    have h16 : vp_in (nI k) 600 := vp_in_nI (by omega) (by omega)
    refine va_iast hx hb hK hP hD hS 1 0 rfl rfl h16 d_Model_times_16 (fun H16 locs hP hD hS => ?_)
    rw [nI_clamp (by omega), show (0 : Int32) = nI 0 from rfl, tI_up] at hP hD
    have hP : va_P (dC, dI) classes [(a1, .inl (cI, 600, .inl (tI xd))), (c1, .inl (cI, 600, .inl (tI (updN (zG sd k) k 0))))] H16 := hP
    have hD : va_D A [(a1, .inl (cI, 600, .inl (tI xd))), (c1, .inl (cI, 600, .inl (tI (updN (zG sd k) k 0))))] := hD
    rw [zG_s] at hP hD
    have hP : va_P (dC, dI) classes [(a1, .inl (cI, 600, .inl (tI xd))), (c1, .inl (cI, 600, .inl (tI (zG sd (k + 1)))))] H16 := hP
    have hD : va_D A [(a1, .inl (cI, 600, .inl (tI xd))), (c1, .inl (cI, 600, .inl (tI (zG sd (k + 1)))))] := hD
    refine lv_iinc (v := nI (k + 1)) (lv' := [(5, .int (nI (k + 1))), (0, .ref a1), (1, .int (nI n)), (2, .ref a1), (3, .int (nI k1)), (4, .ref c1)]) hx hb d_Model_times_17 hl (k := 5) rfl (nI_1 _) (by decide) rfl (fun ls hl => ?_)
    refine lv_goto (tgt := 3) hx hb d_Model_times_20 (by decide) ?_
    exact ih (k + 1) _ _ ls (by omega) (by omega) hP hD hS (lv_sub hl [1, 2, 3, 4, 5, 0] rfl)
