/-! A text of any length is taken. -/
theorem tx_fit (u : Nat → Nat) (j : Nat) : fits .byte (.int (tx u j)) = true := by
  show (decide (-128 ≤ (sb_b (u j))) && decide (sb_b (u j) ≤ 127)) = true
  unfold sb_b
  generalize Int32.toInt8 _ = y
  have h1 := Int8.le_toInt y
  have h2 := Int8.toInt_lt y
  have h3 : y.toInt32.toInt = y.toInt := Int8.toInt_toInt32 y
  have a : (-128 : Int32) ≤ y.toInt32 := Int32.le_iff_toInt_le.mpr (by rw [h3]; exact h1)
  have b : y.toInt32 ≤ 127 := Int32.le_iff_toInt_le.mpr (by rw [h3, show (127 : Int32).toInt = 127 from rfl]; omega)
  simp [a, b]
theorem arrV_ext {c : ClassId} {n : Nat} {f g : Nat → Value} (h : ∀ j, j < n → f j = g j) : arrV c n f = arrV c n g := by
  unfold arrV
  congr 1
  apply Array.ext
  · simp
  · intro i h1 h2
    simp at h1
    simp [h i h1]
/-- an array of octets, by another function that agrees on its length -/
theorem va_P.agree {D : va_G} {w1 w2 : va_W} {q : Nat} {c : ClassId} {n : Nat} {f g : Nat → Int32} {H : Heap} (h : ∀ j, j < n → f j = g j) (hP : va_P D classes (w1 ++ (q, .inl (c, n, .inl f)) :: w2) H) : va_P D classes (w1 ++ (q, .inl (c, n, .inl g)) :: w2) H := fun k z hk => by
  by_cases hl : k < w1.length
  · exact hP k z (by rw [List.getElem?_append_left hl] at hk ⊢; exact hk)
  · rw [List.getElem?_append_right (by omega)] at hk
    cases hj : k - w1.length with
    | zero =>
      rw [hj] at hk
      cases hk
      have := hP k (q, .inl (c, n, .inl f)) (by rw [List.getElem?_append_right (by omega), hj]; rfl)
      show H[q]? = some (vp_cell c (n, .inl g))
      rw [vp_cell_i, ← arrV_ext (f := fun j => .int (f j)) (fun j hj => by rw [h j hj])]
      exact this
    | succ i => exact hP k z (by rw [List.getElem?_append_right (by omega)]; rw [hj] at hk ⊢; exact hk)
theorem va_D.agree {A : Nat → Prop} {w1 w2 : va_W} {q : Nat} {e e' : va_E} (h : va_D A (w1 ++ (q, e) :: w2)) : va_D A (w1 ++ (q, e') :: w2) := by
  have g : ∀ (k : Nat) (z : Nat × va_E), (w1 ++ (q, e') :: w2)[k]? = some z → ∃ z' : Nat × va_E, (w1 ++ (q, e) :: w2)[k]? = some z' ∧ z'.1 = z.1 := fun k z hk => by
    by_cases hl : k < w1.length
    · rw [List.getElem?_append_left hl] at hk
      exact ⟨z, by rw [List.getElem?_append_left hl]; exact hk, rfl⟩
    · rw [List.getElem?_append_right (by omega)] at hk
      cases hj : k - w1.length with
      | zero => rw [hj] at hk; cases hk; exact ⟨(q, e), by rw [List.getElem?_append_right (by omega), hj]; rfl, rfl⟩
      | succ i => rw [hj] at hk; exact ⟨z, by rw [List.getElem?_append_right (by omega), hj]; exact hk, rfl⟩
  refine ⟨fun i j p q hi hj e => ?_, fun k z hk => ?_⟩
  · obtain ⟨p', a1, a2⟩ := g i p hi
    obtain ⟨q', b1, b2⟩ := g j q hj
    exact h.1 i j p' q' a1 b1 (by rw [a2, b2]; exact e)
  · obtain ⟨z', a1, a2⟩ := g k z hk
    rw [← a2]
    exact h.2 k z' a1
set_option maxHeartbeats 4000000 in
set_option maxRecDepth 100000 in
theorem c_copyOfB (l : Launch) (dC : Nat → ClassId) (dI : Nat → Nat → Nat) (sb : sB) (fe n : Nat) (cB : ClassId) (u v : Nat → Nat) (sz : Nat) (hn : n ≤ 2048) (hv : ∀ j, j < n → v j = u j) : Met l y_Arrays_copyOf0 w_Arrays_copyOf0 ({ frames := 1, cells := 1, slots := n, locals := 70 }) (mu_P [.ref fe, .int (nI n)] (dC, dI) sb [(fe, .inl (cB, 2060, .inl (tx u)))] [(cB, .byte)] sz) (va_Qr (fun (_u : Unit) => True) (mu_Br (dC, dI) [(cB, .byte)] (va_A [(fe, .inl (cB, 2060, .inl (tx u)))] sz) (fun (_ : Unit) (q : Nat) => [(fe, .inl (cB, 2060, .inl (tx u))), (q, .inl (cB, n, .inl (tx v)))])) (va_A [(fe, .inl (cB, 2060, .inl (tx u)))] sz)) 1 n (va_A [(fe, .inl (cB, 2060, .inl (tx u)))] sz) := by
  refine Met.ofW (cc := b_Arrays_copyOf0) (maxL := 3) (ret := (some (FieldType.array FieldType.byte))) (by decide) rfl ?_
  intro p e s m args below meth c s₁ B hml hv
  obtain ⟨rfl, hsz, hB0, hP, hK, hD0, hN, hT0⟩ := hv
  have hx := B.exec
  have hb := B.bytes
  have hr := B.returns
  have hts := atoms_spec (ws := w_Arrays_copyOf0) B.pre
  have tbin : ∀ w ∈ tb, w ∈ w_Arrays_copyOf0 := fun w h => List.mem_cons_of_mem _ h
  have htb : ∀ w ∈ tb, w.before _ s = true := fun w h => hts w (tbin w h)
  have hown : s.vm.findClass "java/util/Arrays" = some m.cls := findClass_of_methodNamed B.named
  have hlocks := B.notSynchronized
  subst hsz
  have hD := hD0.self (sz := s.heap.size)
  generalize hAe : va_A [(fe, .inl (cB, 2060, .inl (tx u)))] s.heap.size = A at hD ⊢
  have hA : ∀ q : Nat, s.heap.size ≤ q → A q := fun q h => by rw [← hAe]; exact Or.inr h
  have hAs : ∀ q : Nat, A q → sb.1 ≤ q := fun q h => by
    rw [← hAe] at h
    rcases h with ⟨k, e, h⟩ | h
    · exact hD0.2 k _ h
    · exact Nat.le_trans hB0 h
  have hS : va_S A s.heap s.heap [] := va_S.rf
  have hcs : 1 ≤ (headSpec w_Arrays_copyOf0 ({ frames := 1, cells := 1, slots := n, locals := 70 })).room.cells ∧ n ≤ (headSpec w_Arrays_copyOf0 ({ frames := 1, cells := 1, slots := n, locals := 70 })).room.slots := ⟨Nat.le_refl _, Nat.le_refl _⟩
  have hP : va_P (dC, dI) classes [(fe, .inl (cB, 2060, .inl (tx u)))] s.heap := hP
  have hl := lv_entry ([.ref fe, .int (nI n)]) (n := 3) (Nat.le_of_ble_eq_true rfl)
  rw [lg_entry_eq]
  generalize (lg_sl ([.ref fe, .int (nI n)]) ++ List.replicate (3 - (lg_sl ([.ref fe, .int (nI n)])).length) Slot.unset).toArray = ls at hl ⊢
  have hl : lv_has ls 3 [(0, .ref fe), (1, .int (nI n))] := hl
  refine lv_iload_n hx hb d_Arrays_copyOf0_0 rfl (lv_at hl 1 rfl) ?_
  refine lv_aload_n hx hb d_Arrays_copyOf0_1 rfl (lv_at hl 0 rfl) ?_
  refine va_alen (v := nI 2060) hx hb hK hP 0 0 rfl rfl rfl d_Arrays_copyOf0_2 ?_
  refine lv_icmp_ne (tgt := 14) hx hb d_Arrays_copyOf0_3 (by decide) (fun c3 => ?_) (fun c3 => ?_)
  rotate_left
  · exact absurd ((nI_eq (a := n) (b := 2060) (by omega) (by omega)).mp (c3)) (by omega)
  refine lv_iload_n hx hb d_Arrays_copyOf0_14 rfl (lv_at hl 1 rfl) ?_
  refine va_newa (atype := .byte) (ty := .byte) (N' := n) (a0 := (n, .inl (fun _ => 0))) hx hb (htb _ q1_67) rfl hK hP hD hS hA (fun _ => rfl) (nI_pos (by omega)) (nI_clamp (by omega)) (by show n * 1 ≤ _; omega) (by omega) (by omega) d_Arrays_copyOf0_15 (fun q15 cA15 H15 hKn hP hD hS => ?_)
  obtain rfl : cB = cA15 := arr_uniq hKn 0 1 rfl rfl (by simp)
  have hP : va_P (dC, dI) classes [(fe, .inl (cB, 2060, .inl (tx u))), (q15, .inl (cB, n, .inl (fun _ => 0)))] H15 := hP
  have hD : va_D A [(fe, .inl (cB, 2060, .inl (tx u))), (q15, .inl (cB, n, .inl (fun _ => 0)))] := hD
  refine lv_astore_n (lv' := [(2, .ref q15), (0, .ref fe), (1, .int (nI n))]) hx hb d_Arrays_copyOf0_17 rfl hl (by decide) rfl (fun ls hl => ?_)
  refine lv_aload_n hx hb d_Arrays_copyOf0_18 rfl (lv_at hl 1 rfl) ?_
  refine lv_iconst (v := 0) hx hb d_Arrays_copyOf0_19 (by decide) ?_
  refine lv_aload_n hx hb d_Arrays_copyOf0_20 rfl (lv_at hl 0 rfl) ?_
  refine lv_iconst (v := 0) hx hb d_Arrays_copyOf0_21 (by decide) ?_
  refine lv_aload_n hx hb d_Arrays_copyOf0_22 rfl (lv_at hl 1 rfl) ?_
  refine va_alen (v := nI 2060) hx hb hK hP 0 0 rfl rfl rfl d_Arrays_copyOf0_23 ?_
  refine lv_iload_n hx hb d_Arrays_copyOf0_24 rfl (lv_at hl 2 rfl) ?_
  refine va_mmin hx hb (by rw [hml]; exact hl.1.symm) hown (htb _ q2_74) (htb _ q2_75) (htb _ q1_18) (htb _ q2_76) (Nat.le_of_ble_eq_true rfl) (Nat.le_of_ble_eq_true rfl) (by omega) (by omega) d_Arrays_copyOf0_25 ?_
  rw [show (if (nI n) < (nI 2060) then (nI n) else (nI 2060)) = nI n from if_pos ((nI_ltI (a := n) (b := 2060) (by omega) (by omega)).mpr (by omega))]
  refine va_copyi (sp := 0) (dp := 0) (n := nI n) hx hb (by rw [hml]; exact hl.1.symm) hown (htb _ q2_77) (htb _ q2_79) (htb _ q2_78) (htb _ q1_19) hK hP hD hS 0 1 0 0 rfl rfl rfl rfl rfl (by decide) (by decide) (nI_pos (by omega)) (by rw [show (0 : Int32).toNatClampNeg = 0 from by decide, nI_clamp (by omega)]; omega) (by rw [show (0 : Int32).toNatClampNeg = 0 from by decide, nI_clamp (by omega)]; omega) (fun i hi => tx_fit u _) (Nat.le_of_ble_eq_true rfl) (Nat.le_of_ble_eq_true rfl) d_Arrays_copyOf0_28 (fun H28 locs hP hD hS => ?_)
  rw [show (0 : Int32).toNatClampNeg = 0 from by decide, nI_clamp (show n < 2 ^ 31 by omega)] at hP hD
  have hP := va_P.agree (w1 := [(fe, .inl (cB, 2060, .inl (tx u)))]) (w2 := []) (g := tx v) (fun j hj => by unfold va_cpy; rw [if_pos (by omega), Nat.zero_add, Nat.sub_zero]; show tx u j = tx v j; unfold tx; rw [hv j hj]) hP
  have hD := va_D.agree (w1 := [(fe, .inl (cB, 2060, .inl (tx u)))]) (w2 := []) (e' := .inl (cB, n, .inl (tx v))) hD
  have hP : va_P (dC, dI) classes [(fe, .inl (cB, 2060, .inl (tx u))), (q15, .inl (cB, n, .inl (tx v)))] H28 := hP
  have hD : va_D A [(fe, .inl (cB, 2060, .inl (tx u))), (q15, .inl (cB, n, .inl (tx v)))] := hD
  refine lv_aload_n hx hb d_Arrays_copyOf0_31 rfl (lv_at hl 0 rfl) ?_
  refine W.widen (k := 1) (n := n) (by omega) (by omega) ?_
  exact W.aret (v := .ref q15) hx hb hr (Or.inr ⟨_, rfl⟩) (Or.inr ⟨_, rfl⟩) (fun t ht hW => ⟨⟨(), q15, rfl, trivial, by rw [ht]; exact hP, va_K.moved hW.alike hK, hD⟩, hS.F ht⟩) hS.2.2 d_Arrays_copyOf0_32
set_option maxHeartbeats 4000000 in
set_option maxRecDepth 100000 in
theorem c_takeText (l : Launch) (dC : Nat → ClassId) (dI : Nat → Nat → Nat) (sb : sB) (q0 fe ho ce li sh rs se ch fo : Nat) (foS chS faP feS wrP : Int32) (n : Nat) (cB : ClassId) (u v : Nat → Nat) (sz : Nat) (hn : n ≤ 2048) (hv : ∀ j, j < n → v j = u j) : Met l y_Trust_takeText w_Trust_takeText ({ frames := 2, cells := 1, slots := n, locals := 120 }) (mu_P [.ref q0, .int (nI n)] (dC, dI) sb [(q0, .inr (10, [.ref fe, .ref ho, .ref ce, .ref li, .ref sh, .ref rs, .ref se, .ref ch, .ref fo, .int foS, .int chS, .int faP, .int feS, .int wrP])), (fe, .inl (cB, 2060, .inl (tx u)))] [(cB, .byte)] sz) (va_Qr (fun (_u : Unit) => True) (mu_Br (dC, dI) [(cB, .byte)] (va_A [(q0, .inr (10, [.ref fe, .ref ho, .ref ce, .ref li, .ref sh, .ref rs, .ref se, .ref ch, .ref fo, .int foS, .int chS, .int faP, .int feS, .int wrP])), (fe, .inl (cB, 2060, .inl (tx u)))] sz) (fun (_ : Unit) (q : Nat) => [(q0, .inr (10, [.ref fe, .ref ho, .ref ce, .ref li, .ref sh, .ref rs, .ref se, .ref ch, .ref fo, .int foS, .int chS, .int faP, .int 0, .int wrP])), (fe, .inl (cB, 2060, .inl (tx u))), (q, .inl (cB, n, .inl (tx v)))])) (va_A [(q0, .inr (10, [.ref fe, .ref ho, .ref ce, .ref li, .ref sh, .ref rs, .ref se, .ref ch, .ref fo, .int foS, .int chS, .int faP, .int feS, .int wrP])), (fe, .inl (cB, 2060, .inl (tx u)))] sz)) 1 n (va_A [(q0, .inr (10, [.ref fe, .ref ho, .ref ce, .ref li, .ref sh, .ref rs, .ref se, .ref ch, .ref fo, .int foS, .int chS, .int faP, .int feS, .int wrP])), (fe, .inl (cB, 2060, .inl (tx u)))] sz) := by
  refine Met.ofW (cc := b_Trust_takeText) (maxL := 2) (ret := (some (FieldType.array FieldType.byte))) (by decide) rfl ?_
  intro p e s m args below meth c s₁ B hml hv
  obtain ⟨rfl, hsz, hB0, hP, hK, hD0, hN, hT0⟩ := hv
  have hx := B.exec
  have hb := B.bytes
  have hr := B.returns
  have hts := atoms_spec (ws := w_Trust_takeText) B.pre
  have tbin : ∀ w ∈ tb, w ∈ w_Trust_takeText := fun w h => List.mem_cons_of_mem _ h
  have htb : ∀ w ∈ tb, w.before _ s = true := fun w h => hts w (tbin w h)
  have hown : s.vm.findClass "TrustChain" = some m.cls := findClass_of_methodNamed B.named
  have hlocks := B.notSynchronized
  subst hsz
  have hD := hD0.self (sz := s.heap.size)
  generalize hAe : va_A [(q0, .inr (10, [.ref fe, .ref ho, .ref ce, .ref li, .ref sh, .ref rs, .ref se, .ref ch, .ref fo, .int foS, .int chS, .int faP, .int feS, .int wrP])), (fe, .inl (cB, 2060, .inl (tx u)))] s.heap.size = A at hD ⊢
  have hA : ∀ q : Nat, s.heap.size ≤ q → A q := fun q h => by rw [← hAe]; exact Or.inr h
  have hAs : ∀ q : Nat, A q → sb.1 ≤ q := fun q h => by
    rw [← hAe] at h
    rcases h with ⟨k, e, h⟩ | h
    · exact hD0.2 k _ h
    · exact Nat.le_trans hB0 h
  have hS : va_S A s.heap s.heap [] := va_S.rf
  have hcs : 1 ≤ (headSpec w_Trust_takeText ({ frames := 2, cells := 1, slots := n, locals := 120 })).room.cells ∧ n ≤ (headSpec w_Trust_takeText ({ frames := 2, cells := 1, slots := n, locals := 120 })).room.slots := ⟨Nat.le_refl _, Nat.le_refl _⟩
  have hP : va_P (dC, dI) classes [(q0, .inr (10, [.ref fe, .ref ho, .ref ce, .ref li, .ref sh, .ref rs, .ref se, .ref ch, .ref fo, .int foS, .int chS, .int faP, .int feS, .int wrP])), (fe, .inl (cB, 2060, .inl (tx u)))] s.heap := hP
  have hl := lv_entry ([.ref q0, .int (nI n)]) (n := 2) (Nat.le_of_ble_eq_true rfl)
  rw [lg_entry_eq]
  generalize (lg_sl ([.ref q0, .int (nI n)]) ++ List.replicate (2 - (lg_sl ([.ref q0, .int (nI n)])).length) Slot.unset).toArray = ls at hl ⊢
  have hl : lv_has ls 2 [(0, .ref q0), (1, .int (nI n))] := hl
  refine lv_aload_n hx hb d_Trust_takeText_0 rfl (lv_at hl 0 rfl) ?_
  refine lv_iconst (v := 0) hx hb d_Trust_takeText_1 (by decide) ?_
  refine va_put (v := .int 0) (ty := .int) hx hb htb i_Trust t_Trust t_Trust_ok n_Trust hown hK hP hD hS 0 rfl rfl 12 (by decide) (htb _ q1_168) (fun _ h9 => h9) rfl (by decide +kernel) rfl rfl (Nat.le_of_ble_eq_true rfl) d_Trust_takeText_2 (fun H2 locs hP hD hS => ?_)
  have hP : va_P (dC, dI) classes [(q0, .inr (10, [.ref fe, .ref ho, .ref ce, .ref li, .ref sh, .ref rs, .ref se, .ref ch, .ref fo, .int foS, .int chS, .int faP, .int 0, .int wrP])), (fe, .inl (cB, 2060, .inl (tx u)))] H2 := hP
  have hD : va_D A [(q0, .inr (10, [.ref fe, .ref ho, .ref ce, .ref li, .ref sh, .ref rs, .ref se, .ref ch, .ref fo, .int foS, .int chS, .int faP, .int 0, .int wrP])), (fe, .inl (cB, 2060, .inl (tx u)))] := hD
  refine lv_aload_n hx hb d_Trust_takeText_5 rfl (lv_at hl 0 rfl) ?_
  refine va_get (v := .ref fe) hx hb htb i_Trust hown hK hP 0 rfl rfl 0 (by decide) (htb _ q1_156) (fun _ h9 => h9) rfl d_Trust_takeText_6 ?_
  refine lv_iload_n hx hb d_Trust_takeText_9 rfl (lv_at hl 1 rfl) ?_
  refine lv_if_ge (tgt := 17) hx hb d_Trust_takeText_10 (by decide) (fun c10 => ?_) (fun c10 => ?_)
  rotate_left
  · exact absurd (Int32.not_lt.mp (nI_pos (by omega))) c10
  refine lv_iload_n hx hb d_Trust_takeText_17 rfl (lv_at hl 1 rfl) ?_
  have hFc := va_free (wc := [(fe, .inl (cB, 2060, .inl (tx u)))]) hD hS hA [1] rfl
  refine va_callr (mu_runS (As := [.ref fe, .int (nI n)]) (rest := []) ⟨hx, hb, hml, hown, hts⟩ tbin (c_copyOfB l dC dI sb fe n cB u v H2.size hn hv) q2_64 q2_65 q1_17 q2_66 (n := 2) (by decide +kernel) rfl ⟨rfl, rfl⟩ ⟨Nat.le_of_ble_eq_true rfl, Nat.le_of_ble_eq_true rfl⟩ ⟨by omega, by omega⟩ hN (hT0.keep hS hAs) hAs (Nat.le_trans hB0 hS.1) hK hP hD [1] (by decide) rfl [0] rfl hl.1 rfl (Nat.le_of_ble_eq_true rfl) d_Trust_takeText_18) hS (fun q _ h => hFc q h) hFc (fun u18 q18 tS H18 locs ht hvm hw18 hB hz1 hk1 hS => ?_)
  skip
  obtain ⟨hP1, hK1, hD1⟩ := hB
  rw [ht] at hP1
  obtain ⟨hP, hD⟩ := va_join (wr := [(q0, .inr (10, [.ref fe, .ref ho, .ref ce, .ref li, .ref sh, .ref rs, .ref se, .ref ch, .ref fo, .int foS, .int chS, .int faP, .int 0, .int wrP]))]) (w1 := [(fe, .inl (cB, 2060, .inl (tx u))), (q18, .inl (cB, n, .inl (tx v)))]) hP hD [1] [0] rfl rfl (by decide) (by decide) hk1 hFc hP1 hD1
  have hP : va_P (dC, dI) classes [(q0, .inr (10, [.ref fe, .ref ho, .ref ce, .ref li, .ref sh, .ref rs, .ref se, .ref ch, .ref fo, .int foS, .int chS, .int faP, .int 0, .int wrP])), (fe, .inl (cB, 2060, .inl (tx u))), (q18, .inl (cB, n, .inl (tx v)))] H18 := hP
  have hD : va_D A [(q0, .inr (10, [.ref fe, .ref ho, .ref ce, .ref li, .ref sh, .ref rs, .ref se, .ref ch, .ref fo, .int foS, .int chS, .int faP, .int 0, .int wrP])), (fe, .inl (cB, 2060, .inl (tx u))), (q18, .inl (cB, n, .inl (tx v)))] := hD
  refine W.widen (k := 1) (n := n) (by omega) (by omega) ?_
  exact W.aret (v := .ref q18) hx hb hr (Or.inr ⟨_, rfl⟩) (Or.inr ⟨_, rfl⟩) (fun t ht hW => ⟨⟨(), q18, rfl, trivial, by rw [ht]; exact hP, va_K.moved hW.alike hK, hD⟩, hS.F ht⟩) hS.2.2 d_Trust_takeText_21
