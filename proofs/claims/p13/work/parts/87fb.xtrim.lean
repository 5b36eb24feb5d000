/-! The reference's trim, exactly. -/
set_option maxHeartbeats 4000000 in
set_option maxRecDepth 100000 in
theorem x_Model_trim (l : Launch) (dC : Nat → ClassId) (dI : Nat → Nat → Nat) (sb : sB) (t n : Nat) (cI : ClassId) (f : Nat → Nat) (hn : n ≤ 600) (hf : ∀ j, f j < 131072) : Met l y_Model_trim w_Model_trim ({ frames := 0, cells := 0, slots := 0, locals := 0 }) (pu_P [.ref t, .int (nI n)] (dC, dI) sb [(t, .inl (cI, 600, .inl (tI f)))] [(cI, .int)]) (vp_Si (fun r => r = nI (tmN f n))) 0 0 (fun _ => False) := by
  refine Met.ofW (cc := b_Model_trim) (maxL := 3) (ret := (some FieldType.int)) (by decide) rfl ?_
  intro p e s m args below meth c s₁ B hml hv
  obtain ⟨rfl, hP, hK, hN, hT0⟩ := hv
  have hx := B.exec
  have hb := B.bytes
  have hr := B.returns
  have hts := atoms_spec (ws := w_Model_trim) B.pre
  have tbin : ∀ w ∈ tb, w ∈ w_Model_trim := fun w h => List.mem_cons_of_mem _ h
  have htb : ∀ w ∈ tb, w.before _ s = true := fun w h => hts w (tbin w h)
  have hown : s.vm.findClass "TrustChainModel" = some m.cls := findClass_of_methodNamed B.named
  have hlocks := B.notSynchronized
  have hcs : 0 ≤ (headSpec w_Model_trim ({ frames := 0, cells := 0, slots := 0, locals := 0 })).room.cells ∧ 0 ≤ (headSpec w_Model_trim ({ frames := 0, cells := 0, slots := 0, locals := 0 })).room.slots := ⟨Nat.zero_le _, Nat.zero_le _⟩
  have hP : va_P (dC, dI) classes [(t, .inl (cI, 600, .inl (tI f)))] s.heap := hP
  have hl := lv_entry ([.ref t, .int (nI n)]) (n := 3) (Nat.le_of_ble_eq_true rfl)
  rw [lg_entry_eq]
  generalize (lg_sl ([.ref t, .int (nI n)]) ++ List.replicate (3 - (lg_sl ([.ref t, .int (nI n)])).length) Slot.unset).toArray = ls at hl ⊢
  have hl : lv_has ls 3 [(0, .ref t), (1, .int (nI n))] := hl
  refine lv_iload_n hx hb d_Model_trim_0 rfl (lv_at hl 1 rfl) ?_
  refine lv_istore_n (lv' := [(2, .int (nI n)), (0, .ref t), (1, .int (nI n))]) hx hb d_Model_trim_1 rfl hl (by decide) rfl (fun ls hl => ?_)
  refine w_loop (α := Nat) (fun k => k ≤ n ∧ tmN f n = tmN f k) (fun k => k) (fun k => [(0, .ref t), (2, .int (nI k))]) (fun _ => []) 3 2 (fun k ls hJ hl ih => ?_) n ls ⟨Nat.le_refl _, rfl⟩ (lv_sub hl [1, 0] rfl)
  obtain ⟨hk, he⟩ := hJ
  refine lv_iload_n hx hb d_Model_trim_2 rfl (lv_at hl 1 rfl) ?_
  refine lv_if_le (tgt := 20) hx hb d_Model_trim_3 (by decide) (fun c3 => ?_) (fun c3 => ?_)
  · have p3 : k ≤ 0 := ((nI_leI (a := k) (b := 0) (by omega) (by omega)).mp c3)
    refine lv_iload_n hx hb d_Model_trim_20 rfl (lv_at hl 1 rfl) ?_
    exact W.iret (v := nI k) hx hb hr (fun t ht hW => ⟨_, rfl, congrArg nI (tmN_step hk he (Or.inl (by omega))).symm, ht⟩) (fun q h => by cases h) d_Model_trim_21
  · have p3 : ¬ (k ≤ 0) := (fun q9 => c3 ((nI_leI (a := k) (b := 0) (by omega) (by omega)).mpr q9))
    refine lv_aload_n hx hb d_Model_trim_6 rfl (lv_at hl 0 rfl) ?_
    refine lv_iload_n hx hb d_Model_trim_7 rfl (lv_at hl 1 rfl) ?_
    refine lv_iconst (v := 1) hx hb d_Model_trim_8 (by decide) ?_
    refine lv_isub hx hb d_Model_trim_9 ?_
    rw [show ((nI k) - 1 : Int32) = nI (k - 1) from pk_sub (a := k) (b := 1) (by omega)]
    have h10 : vp_in (nI (k - 1)) 600 := vp_in_nI (by omega) (by omega)
    refine va_iald hx hb hK hP 0 0 rfl rfl h10 d_Model_trim_10 ?_
    rw [show tI f (nI (k - 1)).toNatClampNeg = nI (f (k - 1)) from tI_at (by omega)]
    have hu10 := hf (k - 1)
    refine lv_if_ne (tgt := 20) hx hb d_Model_trim_11 (by decide) (fun c11 => ?_) (fun c11 => ?_)
    · have p11 : ¬ ((f (k - 1)) = 0) := (fun q9 => c11 ((nI_eq (a := (f (k - 1))) (b := 0) (by omega) (by omega)).mpr q9))
      refine lv_iload_n hx hb d_Model_trim_20 rfl (lv_at hl 1 rfl) ?_
      exact W.iret (v := nI k) hx hb hr (fun t ht hW => ⟨_, rfl, congrArg nI (tmN_step hk he (Or.inr p11)).symm, ht⟩) (fun q h => by cases h) d_Model_trim_21
    · have p11 : (f (k - 1)) = 0 := ((nI_eq (a := (f (k - 1))) (b := 0) (by omega) (by omega)).mp c11)
      refine lv_iinc (v := nI (k - 1)) (lv' := [(2, .int (nI (k - 1))), (0, .ref t)]) hx hb d_Model_trim_14 hl (k := 1) rfl (nI_m1 (by omega)) (by decide) rfl (fun ls hl => ?_)
      refine lv_goto (tgt := 2) hx hb d_Model_trim_17 (by decide) ?_
      exact ih (k - 1) ls (by omega) ⟨by omega, tmN_dn (by omega) he p11⟩ (lv_sub hl [1, 0] rfl)
/-! The reference's compared, exactly. -/
set_option maxHeartbeats 4000000 in
set_option maxRecDepth 100000 in
theorem x_Model_compared (l : Launch) (dC : Nat → ClassId) (dI : Nat → Nat → Nat) (sb : sB) (t t2 n k1 : Nat) (cI : ClassId) (f g : Nat → Nat) (hn : n ≤ 600) (hk1 : k1 ≤ 600) (hf : ∀ j, f j < 65536) (hg : ∀ j, g j < 65536) (hft : n = 0 ∨ f (n - 1) ≠ 0) (hgt : k1 = 0 ∨ g (k1 - 1) ≠ 0) : Met l y_Model_compared w_Model_compared ({ frames := 0, cells := 0, slots := 0, locals := 0 }) (pu_P [.ref t, .int (nI n), .ref t2, .int (nI k1)] (dC, dI) sb [(t, .inl (cI, 600, .inl (tI f))), (t2, .inl (cI, 600, .inl (tI g)))] [(cI, .int)]) (vp_Si (fun r => (r < 0 → vB 65536 f n < vB 65536 g k1) ∧ (¬ r < 0 → vB 65536 g k1 ≤ vB 65536 f n))) 0 0 (fun _ => False) := by
  refine Met.ofW (cc := b_Model_compared) (maxL := 5) (ret := (some FieldType.int)) (by decide) rfl ?_
  intro p e s m args below meth c s₁ B hml hv
  obtain ⟨rfl, hP, hK, hN, hT0⟩ := hv
  have hx := B.exec
  have hb := B.bytes
  have hr := B.returns
  have hts := atoms_spec (ws := w_Model_compared) B.pre
  have tbin : ∀ w ∈ tb, w ∈ w_Model_compared := fun w h => List.mem_cons_of_mem _ h
  have htb : ∀ w ∈ tb, w.before _ s = true := fun w h => hts w (tbin w h)
  have hown : s.vm.findClass "TrustChainModel" = some m.cls := findClass_of_methodNamed B.named
  have hlocks := B.notSynchronized
  have hcs : 0 ≤ (headSpec w_Model_compared ({ frames := 0, cells := 0, slots := 0, locals := 0 })).room.cells ∧ 0 ≤ (headSpec w_Model_compared ({ frames := 0, cells := 0, slots := 0, locals := 0 })).room.slots := ⟨Nat.zero_le _, Nat.zero_le _⟩
  have hP : va_P (dC, dI) classes [(t, .inl (cI, 600, .inl (tI f))), (t2, .inl (cI, 600, .inl (tI g)))] s.heap := hP
  have hl := lv_entry ([.ref t, .int (nI n), .ref t2, .int (nI k1)]) (n := 5) (Nat.le_of_ble_eq_true rfl)
  rw [lg_entry_eq]
  generalize (lg_sl ([.ref t, .int (nI n), .ref t2, .int (nI k1)]) ++ List.replicate (5 - (lg_sl ([.ref t, .int (nI n), .ref t2, .int (nI k1)])).length) Slot.unset).toArray = ls at hl ⊢
  have hl : lv_has ls 5 [(0, .ref t), (1, .int (nI n)), (2, .ref t2), (3, .int (nI k1))] := hl
  refine lv_iload_n hx hb d_Model_compared_0 rfl (lv_at hl 1 rfl) ?_
  refine lv_iload_n hx hb d_Model_compared_1 rfl (lv_at hl 3 rfl) ?_
  refine lv_icmp_eq (tgt := 16) hx hb d_Model_compared_2 (by decide) (fun c2 => ?_) (fun c2 => ?_)
  · have p2 : n = k1 := ((nI_eq (a := n) (b := k1) (by omega) (by omega)).mp c2)
    refine lv_iload_n hx hb d_Model_compared_16 rfl (lv_at hl 1 rfl) ?_
    refine lv_iconst (v := 1) hx hb d_Model_compared_17 (by decide) ?_
    refine lv_isub hx hb d_Model_compared_18 ?_
    refine lv_istore (lv' := [(4, .int ((nI n) - 1)), (0, .ref t), (1, .int (nI n)), (2, .ref t2), (3, .int (nI k1))]) hx hb d_Model_compared_19 hl (by decide) rfl (fun ls hl => ?_)
    have e9 : n = k1 := by first | exact p2 | exact Classical.not_not.mp p2
    subst e9
    have hl : lv_has ls 5 [(0, .ref t), (2, .ref t2), (4, .int (jD n))] := by rw [jD_dec' n] at hl; exact lv_sub hl [1, 3, 0] rfl
    refine w_loop (α := Nat) (fun k => k ≤ n ∧ ∀ j, k ≤ j → j < n → f j = g j) (fun k => k) (fun k => [(0, .ref t), (2, .ref t2), (4, .int (jD k))]) (fun _ => []) 5 21 (fun k ls hJ hl ih => ?_) n ls ⟨Nat.le_refl _, fun j h1 h2 => absurd h1 (by omega)⟩ hl
    obtain ⟨hk, heq⟩ := hJ
    obtain _ | k := k
    · have hl : lv_has ls 5 [(0, .ref t), (2, .ref t2), (4, .int (-1))] := hl
      refine lv_iload hx hb d_Model_compared_21 (lv_at hl 2 rfl) ?_
      refine lv_if_lt (tgt := 60) hx hb d_Model_compared_23 (by decide) (fun c23 => ?_) (fun c23 => ?_)
      rotate_left
      · exact absurd (by decide) c23
      refine lv_iconst (v := 0) hx hb d_Model_compared_60 (by decide) ?_
      exact W.iret (v := 0) hx hb hr (fun t ht hW => ⟨_, rfl, ⟨fun q9 => absurd q9 (show ¬ (0 : Int32) < 0 by decide), fun _ => by rw [vB_congr n (fun j hj => heq j (Nat.zero_le _) hj)]; exact Nat.le_refl _⟩, ht⟩) (fun q h => by cases h) d_Model_compared_61
    · have hl : lv_has ls 5 [(0, .ref t), (2, .ref t2), (4, .int (nI k))] := hl
      refine lv_iload hx hb d_Model_compared_21 (lv_at hl 2 rfl) ?_
      refine lv_if_lt (tgt := 60) hx hb d_Model_compared_23 (by decide) (fun c23 => ?_) (fun c23 => ?_)
      · exact absurd c23 (nI_nn (by omega))
      refine lv_aload_n hx hb d_Model_compared_26 rfl (lv_at hl 0 rfl) ?_
      refine lv_iload hx hb d_Model_compared_27 (lv_at hl 2 rfl) ?_
      have h29 : vp_in (nI k) 600 := vp_in_nI (by omega) (by omega)
      refine va_iald hx hb hK hP 0 0 rfl rfl h29 d_Model_compared_29 ?_
      rw [show tI f (nI k).toNatClampNeg = nI (f k) from tI_at (by omega)]
      have hu29 := hf k
      refine lv_aload_n hx hb d_Model_compared_30 rfl (lv_at hl 1 rfl) ?_
      refine lv_iload hx hb d_Model_compared_31 (lv_at hl 2 rfl) ?_
      have h33 : vp_in (nI k) 600 := vp_in_nI (by omega) (by omega)
      refine va_iald hx hb hK hP 1 0 rfl rfl h33 d_Model_compared_33 ?_
      rw [show tI g (nI k).toNatClampNeg = nI (g k) from tI_at (by omega)]
      have hu33 := hg k
      refine lv_icmp_eq (tgt := 54) hx hb d_Model_compared_34 (by decide) (fun c34 => ?_) (fun c34 => ?_)
      · have p34 : (f k) = (g k) := ((nI_eq (a := (f k)) (b := (g k)) (by omega) (by omega)).mp c34)
        refine lv_iinc (v := jD k) (lv' := [(4, .int (jD k)), (0, .ref t), (2, .ref t2)]) hx hb d_Model_compared_54 hl (k := 2) rfl (jD_dec k) (by decide) rfl (fun ls hl => ?_)
        refine lv_goto (tgt := 21) hx hb d_Model_compared_57 (by decide) ?_
        exact ih k ls (Nat.lt_succ_self k) ⟨by omega, be_down heq p34⟩ (lv_sub hl [1, 2, 0] rfl)
      · have p34 : ¬ ((f k) = (g k)) := (fun q9 => c34 ((nI_eq (a := (f k)) (b := (g k)) (by omega) (by omega)).mpr q9))
        refine lv_aload_n hx hb d_Model_compared_37 rfl (lv_at hl 0 rfl) ?_
        refine lv_iload hx hb d_Model_compared_38 (lv_at hl 2 rfl) ?_
        have h40 : vp_in (nI k) 600 := vp_in_nI (by omega) (by omega)
        refine va_iald hx hb hK hP 0 0 rfl rfl h40 d_Model_compared_40 ?_
        rw [show tI f (nI k).toNatClampNeg = nI (f k) from tI_at (by omega)]
        have hu40 := hf k
        refine lv_aload_n hx hb d_Model_compared_41 rfl (lv_at hl 1 rfl) ?_
        refine lv_iload hx hb d_Model_compared_42 (lv_at hl 2 rfl) ?_
        have h44 : vp_in (nI k) 600 := vp_in_nI (by omega) (by omega)
        refine va_iald hx hb hK hP 1 0 rfl rfl h44 d_Model_compared_44 ?_
        rw [show tI g (nI k).toNatClampNeg = nI (g k) from tI_at (by omega)]
        have hu44 := hg k
        refine lv_icmp_ge (tgt := 52) hx hb d_Model_compared_45 (by decide) (fun c45 => ?_) (fun c45 => ?_)
        · have p45 : (g k) ≤ (f k) := ((nI_leI (a := (g k)) (b := (f k)) (by omega) (by omega)).mp c45)
          refine lv_iconst (v := 1) hx hb d_Model_compared_52 (by decide) ?_
          exact W.iret (v := 1) hx hb hr (fun t ht hW => ⟨_, rfl, ⟨fun q9 => absurd q9 (show ¬ (1 : Int32) < 0 by decide), fun _ => Nat.le_of_lt ((vB_top (W := 65536) (top := k) n (by omega) (fun j _ => hf j) (fun j _ => hg j) (fun j h1 h2 => heq j (by omega) h2)).2 (by omega))⟩, ht⟩) (fun q h => by cases h) d_Model_compared_53
        · have p45 : ¬ ((g k) ≤ (f k)) := (fun q9 => c45 ((nI_leI (a := (g k)) (b := (f k)) (by omega) (by omega)).mpr q9))
          refine lv_iconst (v := -1) hx hb d_Model_compared_48 (by decide) ?_
          refine lv_goto (tgt := 53) hx hb d_Model_compared_49 (by decide) ?_
          exact W.iret (v := -1) hx hb hr (fun t ht hW => ⟨_, rfl, ⟨fun _ => (vB_top (W := 65536) (top := k) n (by omega) (fun j _ => hf j) (fun j _ => hg j) (fun j h1 h2 => heq j (by omega) h2)).1 (by omega), fun q9 => absurd (show (-1 : Int32) < 0 by decide) q9⟩, ht⟩) (fun q h => by cases h) d_Model_compared_53
  · have p2 : ¬ (n = k1) := (fun q9 => c2 ((nI_eq (a := n) (b := k1) (by omega) (by omega)).mpr q9))
    refine lv_iload_n hx hb d_Model_compared_5 rfl (lv_at hl 1 rfl) ?_
    refine lv_iload_n hx hb d_Model_compared_6 rfl (lv_at hl 3 rfl) ?_
    refine lv_icmp_ge (tgt := 14) hx hb d_Model_compared_7 (by decide) (fun c7 => ?_) (fun c7 => ?_)
    · have p7 : k1 ≤ n := ((nI_leI (a := k1) (b := n) (by omega) (by omega)).mp c7)
      refine lv_iconst (v := 1) hx hb d_Model_compared_14 (by decide) ?_
      exact W.iret (v := 1) hx hb hr (fun t ht hW => ⟨_, rfl, ⟨fun q9 => absurd q9 (show ¬ (1 : Int32) < 0 by decide), fun _ => Nat.le_of_lt (vB_shorter (by decide) hg hft (by omega))⟩, ht⟩) (fun q h => by cases h) d_Model_compared_15
    · have p7 : ¬ (k1 ≤ n) := (fun q9 => c7 ((nI_leI (a := k1) (b := n) (by omega) (by omega)).mpr q9))
      refine lv_iconst (v := -1) hx hb d_Model_compared_10 (by decide) ?_
      refine lv_goto (tgt := 15) hx hb d_Model_compared_11 (by decide) ?_
      exact W.iret (v := -1) hx hb hr (fun t ht hW => ⟨_, rfl, ⟨fun _ => vB_shorter (by decide) hf hgt (by omega), fun q9 => absurd (show (-1 : Int32) < 0 by decide) q9⟩, ht⟩) (fun q h => by cases h) d_Model_compared_15
