/-! TrustChain.certificate and list on an empty text. -/
theorem n_fz {n : Int32} (h : ¬ n < 0 ∧ n ≤ 2048 ∧ n ≤ 0) : n = 0 := Int32.le_antisymm h.2.2 (Int32.not_lt.mp h.1)
theorem cp_e {f : Nat → Int32} {a b n : Nat} (h : n = 0) : va_cpy f (fun _ => 0) a b n = tx eU := by
  subst h
  funext k
  unfold va_cpy
  rw [if_neg (by omega)]
  rfl
def y_Arrays_copyOf0 : MethodName := ⟨"java/util/Arrays", "copyOf", "([BI)[B"⟩
abbrev b_Arrays_copyOf0 : ByteArray := prog_33_method_121_code
def w_Arrays_copyOf0 : List Cond := Cond.code y_Arrays_copyOf0 b_Arrays_copyOf0 3 ((some (FieldType.array FieldType.byte))) :: tb
theorem d_Arrays_copyOf0_0 : decode b_Arrays_copyOf0 0 = .ok (.iload_n 1, 1) := by decide +kernel
theorem d_Arrays_copyOf0_1 : decode b_Arrays_copyOf0 1 = .ok (.aload_n 0, 1) := by decide +kernel
theorem d_Arrays_copyOf0_2 : decode b_Arrays_copyOf0 2 = .ok (.arraylength, 1) := by decide +kernel
theorem d_Arrays_copyOf0_3 : decode b_Arrays_copyOf0 3 = .ok (.if_icmp .ne 11, 3) := by decide +kernel
theorem d_Arrays_copyOf0_6 : decode b_Arrays_copyOf0 6 = .ok (.aload_n 0, 1) := by decide +kernel
theorem d_Arrays_copyOf0_7 : decode b_Arrays_copyOf0 7 = .ok (.invokevirtual 310, 3) := by decide +kernel
theorem d_Arrays_copyOf0_10 : decode b_Arrays_copyOf0 10 = .ok (.checkcast 311, 3) := by decide +kernel
theorem d_Arrays_copyOf0_13 : decode b_Arrays_copyOf0 13 = .ok (.areturn, 1) := by decide +kernel
theorem d_Arrays_copyOf0_14 : decode b_Arrays_copyOf0 14 = .ok (.iload_n 1, 1) := by decide +kernel
theorem d_Arrays_copyOf0_15 : decode b_Arrays_copyOf0 15 = .ok (.newarray .byte, 2) := by decide +kernel
theorem d_Arrays_copyOf0_17 : decode b_Arrays_copyOf0 17 = .ok (.astore_n 2, 1) := by decide +kernel
theorem d_Arrays_copyOf0_18 : decode b_Arrays_copyOf0 18 = .ok (.aload_n 0, 1) := by decide +kernel
theorem d_Arrays_copyOf0_19 : decode b_Arrays_copyOf0 19 = .ok (.iconst 0, 1) := by decide +kernel
theorem d_Arrays_copyOf0_20 : decode b_Arrays_copyOf0 20 = .ok (.aload_n 2, 1) := by decide +kernel
theorem d_Arrays_copyOf0_21 : decode b_Arrays_copyOf0 21 = .ok (.iconst 0, 1) := by decide +kernel
theorem d_Arrays_copyOf0_22 : decode b_Arrays_copyOf0 22 = .ok (.aload_n 0, 1) := by decide +kernel
theorem d_Arrays_copyOf0_23 : decode b_Arrays_copyOf0 23 = .ok (.arraylength, 1) := by decide +kernel
theorem d_Arrays_copyOf0_24 : decode b_Arrays_copyOf0 24 = .ok (.iload_n 1, 1) := by decide +kernel
theorem d_Arrays_copyOf0_25 : decode b_Arrays_copyOf0 25 = .ok (.invokestatic 304, 3) := by decide +kernel
theorem d_Arrays_copyOf0_28 : decode b_Arrays_copyOf0 28 = .ok (.invokestatic 150, 3) := by decide +kernel
theorem d_Arrays_copyOf0_31 : decode b_Arrays_copyOf0 31 = .ok (.aload_n 2, 1) := by decide +kernel
theorem d_Arrays_copyOf0_32 : decode b_Arrays_copyOf0 32 = .ok (.areturn, 1) := by decide +kernel
set_option maxHeartbeats 4000000 in
set_option maxRecDepth 100000 in
theorem e_copyOf (l : Launch) (dC : Nat → ClassId) (dI : Nat → Nat → Nat) (sb : sB) (fe : Nat) (cB : ClassId) (f : Nat → Int32) (sz : Nat) : Met l y_Arrays_copyOf0 w_Arrays_copyOf0 ({ frames := 1, cells := 1, slots := 0, locals := 70 }) (mu_P [.ref fe, .int 0] (dC, dI) sb [(fe, .inl (cB, 2060, .inl f))] [(cB, .byte)] sz) (va_Qr (fun (_u : Unit) => True) (mu_Br (dC, dI) [(cB, .byte)] (va_A [(fe, .inl (cB, 2060, .inl f))] sz) (fun (_ : Unit) (q : Nat) => [(fe, .inl (cB, 2060, .inl f)), (q, .inl (cB, 0, .inl (tx eU)))])) (va_A [(fe, .inl (cB, 2060, .inl f))] sz)) 1 0 (va_A [(fe, .inl (cB, 2060, .inl f))] sz) := by
  refine Met.ofW (cc := b_Arrays_copyOf0) (maxL := 3) (ret := (some (FieldType.array FieldType.byte))) (by decide) rfl ?_
  intro p e s m args below meth c s₁ B hml hv
  obtain ⟨rfl, hsz, hB0, hP, hK, hD0, hN, hT0⟩ := hv
  have hx := B.exec
  have hb := B.bytes
  have hr := B.returns
  have hts := atoms_spec (ws := w_Arrays_copyOf0) B.pre
  have tbin : ∀ w ∈ tb, w ∈ w_Arrays_copyOf0 := fun w h => List.mem_cons_of_mem _ h
  have htb : ∀ w ∈ tb, w.before _ s = true := fun w h => hts w (tbin w h)
  have hown : s.vm.findClass "java/util/Arrays" = some m.cls := findClass_of_methodNamed B.named
  have hlocks := B.notSynchronized
  subst hsz
  have hD := hD0.self (sz := s.heap.size)
  generalize hAe : va_A [(fe, .inl (cB, 2060, .inl f))] s.heap.size = A at hD ⊢
  have hA : ∀ q : Nat, s.heap.size ≤ q → A q := fun q h => by rw [← hAe]; exact Or.inr h
  have hAs : ∀ q : Nat, A q → sb.1 ≤ q := fun q h => by
    rw [← hAe] at h
    rcases h with ⟨k, e, h⟩ | h
    · exact hD0.2 k _ h
    · exact Nat.le_trans hB0 h
  have hS : va_S A s.heap s.heap [] := va_S.rf
  have hcs : 1 ≤ (headSpec w_Arrays_copyOf0 ({ frames := 1, cells := 1, slots := 0, locals := 70 })).room.cells ∧ 0 ≤ (headSpec w_Arrays_copyOf0 ({ frames := 1, cells := 1, slots := 0, locals := 70 })).room.slots := ⟨Nat.le_refl _, Nat.le_refl _⟩
  have hP : va_P (dC, dI) classes [(fe, .inl (cB, 2060, .inl f))] s.heap := hP
  have hl := lv_entry ([.ref fe, .int 0]) (n := 3) (Nat.le_of_ble_eq_true rfl)
  rw [lg_entry_eq]
  generalize (lg_sl ([.ref fe, .int 0]) ++ List.replicate (3 - (lg_sl ([.ref fe, .int 0])).length) Slot.unset).toArray = ls at hl ⊢
  have hl : lv_has ls 3 [(0, .ref fe), (1, .int 0)] := hl
  refine lv_iload_n hx hb d_Arrays_copyOf0_0 rfl (lv_at hl 1 rfl) ?_
  refine lv_aload_n hx hb d_Arrays_copyOf0_1 rfl (lv_at hl 0 rfl) ?_
  refine va_alen (v := nI 2060) hx hb hK hP 0 0 rfl rfl rfl d_Arrays_copyOf0_2 ?_
  refine lv_icmp_ne (tgt := 14) hx hb d_Arrays_copyOf0_3 (by decide) (fun c3 => ?_) (fun c3 => ?_)
  rotate_left
  · exact absurd c3 (by decide)
  refine lv_iload_n hx hb d_Arrays_copyOf0_14 rfl (lv_at hl 1 rfl) ?_
  refine va_newa (atype := .byte) (ty := .byte) (a0 := (0, .inl (fun _ => 0))) hx hb (htb _ q1_67) rfl hK hP hD hS hA (fun _ => rfl) (by decide) (by decide) (by decide) (Nat.le_of_ble_eq_true rfl) (Nat.le_of_ble_eq_true rfl) d_Arrays_copyOf0_15 (fun q15 cA15 H15 hKn hP hD hS => ?_)
  obtain rfl : cB = cA15 := arr_uniq hKn 0 1 rfl rfl (by simp)
  have hP : va_P (dC, dI) classes [(fe, .inl (cB, 2060, .inl f)), (q15, .inl (cB, 0, .inl (fun _ => 0)))] H15 := hP
  have hD : va_D A [(fe, .inl (cB, 2060, .inl f)), (q15, .inl (cB, 0, .inl (fun _ => 0)))] := hD
  refine lv_astore_n (lv' := [(2, .ref q15), (0, .ref fe), (1, .int 0)]) hx hb d_Arrays_copyOf0_17 rfl hl (by decide) rfl (fun ls hl => ?_)
  refine lv_aload_n hx hb d_Arrays_copyOf0_18 rfl (lv_at hl 1 rfl) ?_
  refine lv_iconst (v := 0) hx hb d_Arrays_copyOf0_19 (by decide) ?_
  refine lv_aload_n hx hb d_Arrays_copyOf0_20 rfl (lv_at hl 0 rfl) ?_
  refine lv_iconst (v := 0) hx hb d_Arrays_copyOf0_21 (by decide) ?_
  refine lv_aload_n hx hb d_Arrays_copyOf0_22 rfl (lv_at hl 1 rfl) ?_
  refine va_alen (v := nI 2060) hx hb hK hP 0 0 rfl rfl rfl d_Arrays_copyOf0_23 ?_
  refine lv_iload_n hx hb d_Arrays_copyOf0_24 rfl (lv_at hl 2 rfl) ?_
  refine va_mmin hx hb (by rw [hml]; exact hl.1.symm) hown (htb _ q2_74) (htb _ q2_75) (htb _ q1_18) (htb _ q2_76) (Nat.le_of_ble_eq_true rfl) (Nat.le_of_ble_eq_true rfl) (Nat.le_of_ble_eq_true rfl) (Nat.le_of_ble_eq_true rfl) d_Arrays_copyOf0_25 ?_
  rw [show (if (0 : Int32) < nI 2060 then (0 : Int32) else nI 2060) = 0 from if_pos (by decide)]
  refine va_copyi hx hb (by rw [hml]; exact hl.1.symm) hown (htb _ q2_77) (htb _ q2_79) (htb _ q2_78) (htb _ q1_19) hK hP hD hS 0 1 0 0 rfl rfl rfl rfl rfl (by decide) (by decide) (by decide) (by decide) (by decide) (fun i hi => absurd hi (by rw [show (0 : Int32).toNatClampNeg = 0 from by decide]; exact Nat.not_lt_zero i)) (Nat.le_of_ble_eq_true rfl) (Nat.le_of_ble_eq_true rfl) d_Arrays_copyOf0_28 (fun H28 locs hP hD hS => ?_)
  rw [cp_e (by decide)] at hP hD
  have hP : va_P (dC, dI) classes [(fe, .inl (cB, 2060, .inl f)), (q15, .inl (cB, 0, .inl (tx eU)))] H28 := hP
  have hD : va_D A [(fe, .inl (cB, 2060, .inl f)), (q15, .inl (cB, 0, .inl (tx eU)))] := hD
  refine lv_aload_n hx hb d_Arrays_copyOf0_31 rfl (lv_at hl 0 rfl) ?_
  exact W.aret (v := .ref q15) hx hb hr (Or.inr ⟨_, rfl⟩) (Or.inr ⟨_, rfl⟩) (fun t ht hW => ⟨⟨(), q15, rfl, trivial, by rw [ht]; exact hP, va_K.moved hW.alike hK, hD⟩, hS.F ht⟩) hS.2.2 d_Arrays_copyOf0_32
def y_Trust_takeText : MethodName := ⟨"TrustChain", "takeText", "(I)[B"⟩
abbrev b_Trust_takeText : ByteArray := prog_1_method_18_code
def w_Trust_takeText : List Cond := Cond.code y_Trust_takeText b_Trust_takeText 2 ((some (FieldType.array FieldType.byte))) :: tb
theorem d_Trust_takeText_0 : decode b_Trust_takeText 0 = .ok (.aload_n 0, 1) := by decide +kernel
theorem d_Trust_takeText_1 : decode b_Trust_takeText 1 = .ok (.iconst 0, 1) := by decide +kernel
theorem d_Trust_takeText_2 : decode b_Trust_takeText 2 = .ok (.putfield 68, 3) := by decide +kernel
theorem d_Trust_takeText_5 : decode b_Trust_takeText 5 = .ok (.aload_n 0, 1) := by decide +kernel
theorem d_Trust_takeText_6 : decode b_Trust_takeText 6 = .ok (.getfield 9, 3) := by decide +kernel
theorem d_Trust_takeText_9 : decode b_Trust_takeText 9 = .ok (.iload_n 1, 1) := by decide +kernel
theorem d_Trust_takeText_10 : decode b_Trust_takeText 10 = .ok (.ifCond .ge 7, 3) := by decide +kernel
theorem d_Trust_takeText_13 : decode b_Trust_takeText 13 = .ok (.iconst 0, 1) := by decide +kernel
theorem d_Trust_takeText_14 : decode b_Trust_takeText 14 = .ok (.goto 4, 3) := by decide +kernel
theorem d_Trust_takeText_17 : decode b_Trust_takeText 17 = .ok (.iload_n 1, 1) := by decide +kernel
theorem d_Trust_takeText_18 : decode b_Trust_takeText 18 = .ok (.invokestatic 248, 3) := by decide +kernel
theorem d_Trust_takeText_21 : decode b_Trust_takeText 21 = .ok (.areturn, 1) := by decide +kernel
set_option maxHeartbeats 4000000 in
set_option maxRecDepth 100000 in
theorem e_takeText (l : Launch) (dC : Nat → ClassId) (dI : Nat → Nat → Nat) (sb : sB) (q0 fe ho ce li sh rs se ch fo : Nat) (foS chS faP feS wrP : Int32) (cB : ClassId) (f : Nat → Int32) (sz : Nat) : Met l y_Trust_takeText w_Trust_takeText ({ frames := 2, cells := 1, slots := 0, locals := 92 }) (mu_P [.ref q0, .int 0] (dC, dI) sb [(q0, .inr (10, [.ref fe, .ref ho, .ref ce, .ref li, .ref sh, .ref rs, .ref se, .ref ch, .ref fo, .int foS, .int chS, .int faP, .int feS, .int wrP])), (fe, .inl (cB, 2060, .inl f))] [(cB, .byte)] sz) (va_Qr (fun (_u : Unit) => True) (mu_Br (dC, dI) [(cB, .byte)] (va_A [(q0, .inr (10, [.ref fe, .ref ho, .ref ce, .ref li, .ref sh, .ref rs, .ref se, .ref ch, .ref fo, .int foS, .int chS, .int faP, .int feS, .int wrP])), (fe, .inl (cB, 2060, .inl f))] sz) (fun (_ : Unit) (q : Nat) => [(q0, .inr (10, [.ref fe, .ref ho, .ref ce, .ref li, .ref sh, .ref rs, .ref se, .ref ch, .ref fo, .int foS, .int chS, .int faP, .int 0, .int wrP])), (fe, .inl (cB, 2060, .inl f)), (q, .inl (cB, 0, .inl (tx eU)))])) (va_A [(q0, .inr (10, [.ref fe, .ref ho, .ref ce, .ref li, .ref sh, .ref rs, .ref se, .ref ch, .ref fo, .int foS, .int chS, .int faP, .int feS, .int wrP])), (fe, .inl (cB, 2060, .inl f))] sz)) 1 0 (va_A [(q0, .inr (10, [.ref fe, .ref ho, .ref ce, .ref li, .ref sh, .ref rs, .ref se, .ref ch, .ref fo, .int foS, .int chS, .int faP, .int feS, .int wrP])), (fe, .inl (cB, 2060, .inl f))] sz) := by
  refine Met.ofW (cc := b_Trust_takeText) (maxL := 2) (ret := (some (FieldType.array FieldType.byte))) (by decide) rfl ?_
  intro p e s m args below meth c s₁ B hml hv
  obtain ⟨rfl, hsz, hB0, hP, hK, hD0, hN, hT0⟩ := hv
  have hx := B.exec
  have hb := B.bytes
  have hr := B.returns
  have hts := atoms_spec (ws := w_Trust_takeText) B.pre
  have tbin : ∀ w ∈ tb, w ∈ w_Trust_takeText := fun w h => List.mem_cons_of_mem _ h
  have htb : ∀ w ∈ tb, w.before _ s = true := fun w h => hts w (tbin w h)
  have hown : s.vm.findClass "TrustChain" = some m.cls := findClass_of_methodNamed B.named
  have hlocks := B.notSynchronized
  subst hsz
  have hD := hD0.self (sz := s.heap.size)
  generalize hAe : va_A [(q0, .inr (10, [.ref fe, .ref ho, .ref ce, .ref li, .ref sh, .ref rs, .ref se, .ref ch, .ref fo, .int foS, .int chS, .int faP, .int feS, .int wrP])), (fe, .inl (cB, 2060, .inl f))] s.heap.size = A at hD ⊢
  have hA : ∀ q : Nat, s.heap.size ≤ q → A q := fun q h => by rw [← hAe]; exact Or.inr h
  have hAs : ∀ q : Nat, A q → sb.1 ≤ q := fun q h => by
    rw [← hAe] at h
    rcases h with ⟨k, e, h⟩ | h
    · exact hD0.2 k _ h
    · exact Nat.le_trans hB0 h
  have hS : va_S A s.heap s.heap [] := va_S.rf
  have hcs : 1 ≤ (headSpec w_Trust_takeText ({ frames := 2, cells := 1, slots := 0, locals := 92 })).room.cells ∧ 0 ≤ (headSpec w_Trust_takeText ({ frames := 2, cells := 1, slots := 0, locals := 92 })).room.slots := ⟨Nat.le_refl _, Nat.le_refl _⟩
  have hP : va_P (dC, dI) classes [(q0, .inr (10, [.ref fe, .ref ho, .ref ce, .ref li, .ref sh, .ref rs, .ref se, .ref ch, .ref fo, .int foS, .int chS, .int faP, .int feS, .int wrP])), (fe, .inl (cB, 2060, .inl f))] s.heap := hP
  have hl := lv_entry ([.ref q0, .int 0]) (n := 2) (Nat.le_of_ble_eq_true rfl)
  rw [lg_entry_eq]
  generalize (lg_sl ([.ref q0, .int 0]) ++ List.replicate (2 - (lg_sl ([.ref q0, .int 0])).length) Slot.unset).toArray = ls at hl ⊢
  have hl : lv_has ls 2 [(0, .ref q0), (1, .int 0)] := hl
  refine lv_aload_n hx hb d_Trust_takeText_0 rfl (lv_at hl 0 rfl) ?_
  refine lv_iconst (v := 0) hx hb d_Trust_takeText_1 (by decide) ?_
  refine va_put (v := .int 0) (ty := .int) hx hb htb i_Trust t_Trust t_Trust_ok n_Trust hown hK hP hD hS 0 rfl rfl 12 (by decide) (htb _ q1_168) (fun _ h9 => h9) rfl (by decide +kernel) rfl rfl (Nat.le_of_ble_eq_true rfl) d_Trust_takeText_2 (fun H2 locs hP hD hS => ?_)
  have hP : va_P (dC, dI) classes [(q0, .inr (10, [.ref fe, .ref ho, .ref ce, .ref li, .ref sh, .ref rs, .ref se, .ref ch, .ref fo, .int foS, .int chS, .int faP, .int 0, .int wrP])), (fe, .inl (cB, 2060, .inl f))] H2 := hP
  have hD : va_D A [(q0, .inr (10, [.ref fe, .ref ho, .ref ce, .ref li, .ref sh, .ref rs, .ref se, .ref ch, .ref fo, .int foS, .int chS, .int faP, .int 0, .int wrP])), (fe, .inl (cB, 2060, .inl f))] := hD
  refine lv_aload_n hx hb d_Trust_takeText_5 rfl (lv_at hl 0 rfl) ?_
  refine va_get (v := .ref fe) hx hb htb i_Trust hown hK hP 0 rfl rfl 0 (by decide) (htb _ q1_156) (fun _ h9 => h9) rfl d_Trust_takeText_6 ?_
  refine lv_iload_n hx hb d_Trust_takeText_9 rfl (lv_at hl 1 rfl) ?_
  refine lv_if_ge (tgt := 17) hx hb d_Trust_takeText_10 (by decide) (fun c10 => ?_) (fun c10 => ?_)
  rotate_left
  · exact absurd c10 (by decide)
  refine lv_iload_n hx hb d_Trust_takeText_17 rfl (lv_at hl 1 rfl) ?_
  have hFc := va_free (wc := [(fe, .inl (cB, 2060, .inl f))]) hD hS hA [1] rfl
  refine va_callr (mu_runS (As := [.ref fe, .int 0]) (rest := []) ⟨hx, hb, hml, hown, hts⟩ tbin (e_copyOf l dC dI sb fe cB f H2.size) q2_64 q2_65 q1_17 q2_66 (n := 2) (by decide +kernel) rfl ⟨rfl, rfl⟩ ⟨Nat.le_of_ble_eq_true rfl, Nat.le_of_ble_eq_true rfl⟩ ⟨Nat.le_of_ble_eq_true rfl, Nat.le_of_ble_eq_true rfl⟩ hN (hT0.keep hS hAs) hAs (Nat.le_trans hB0 hS.1) hK hP hD [1] (by decide) rfl [0] rfl hl.1 rfl (Nat.le_of_ble_eq_true rfl) d_Trust_takeText_18) hS (fun q _ h => hFc q h) hFc (fun u18 q18 tS H18 locs ht hvm hw18 hB hz1 hk1 hS => ?_)
  skip
  obtain ⟨hP1, hK1, hD1⟩ := hB
  rw [ht] at hP1
  obtain ⟨hP, hD⟩ := va_join (wr := [(q0, .inr (10, [.ref fe, .ref ho, .ref ce, .ref li, .ref sh, .ref rs, .ref se, .ref ch, .ref fo, .int foS, .int chS, .int faP, .int 0, .int wrP]))]) (w1 := [(fe, .inl (cB, 2060, .inl f)), (q18, .inl (cB, 0, .inl (tx eU)))]) hP hD [1] [0] rfl rfl (by decide) (by decide) hk1 hFc hP1 hD1
  have hP : va_P (dC, dI) classes [(q0, .inr (10, [.ref fe, .ref ho, .ref ce, .ref li, .ref sh, .ref rs, .ref se, .ref ch, .ref fo, .int foS, .int chS, .int faP, .int 0, .int wrP])), (fe, .inl (cB, 2060, .inl f)), (q18, .inl (cB, 0, .inl (tx eU)))] H18 := hP
  have hD : va_D A [(q0, .inr (10, [.ref fe, .ref ho, .ref ce, .ref li, .ref sh, .ref rs, .ref se, .ref ch, .ref fo, .int foS, .int chS, .int faP, .int 0, .int wrP])), (fe, .inl (cB, 2060, .inl f)), (q18, .inl (cB, 0, .inl (tx eU)))] := hD
  exact W.aret (v := .ref q18) hx hb hr (Or.inr ⟨_, rfl⟩) (Or.inr ⟨_, rfl⟩) (fun t ht hW => ⟨⟨(), q18, rfl, trivial, by rw [ht]; exact hP, va_K.moved hW.alike hK, hD⟩, hS.F ht⟩) hS.2.2 d_Trust_takeText_21
def y_Trust_certificate : MethodName := ⟨"TrustChain", "certificate", "(IZ)I"⟩
abbrev b_Trust_certificate : ByteArray := prog_1_method_3_code
def w_Trust_certificate : List Cond := Cond.code y_Trust_certificate b_Trust_certificate 5 ((some FieldType.int)) :: tb
theorem d_Trust_certificate_0 : decode b_Trust_certificate 0 = .ok (.aload_n 0, 1) := by decide +kernel
theorem d_Trust_certificate_1 : decode b_Trust_certificate 1 = .ok (.iload_n 1, 1) := by decide +kernel
theorem d_Trust_certificate_2 : decode b_Trust_certificate 2 = .ok (.invokevirtual 85, 3) := by decide +kernel
theorem d_Trust_certificate_5 : decode b_Trust_certificate 5 = .ok (.ifCond .eq 15, 3) := by decide +kernel
theorem d_Trust_certificate_8 : decode b_Trust_certificate 8 = .ok (.aload_n 0, 1) := by decide +kernel
theorem d_Trust_certificate_9 : decode b_Trust_certificate 9 = .ok (.getfield 19, 3) := by decide +kernel
theorem d_Trust_certificate_12 : decode b_Trust_certificate 12 = .ok (.invokevirtual 89, 3) := by decide +kernel
theorem d_Trust_certificate_15 : decode b_Trust_certificate 15 = .ok (.bipush 16, 2) := by decide +kernel
theorem d_Trust_certificate_17 : decode b_Trust_certificate 17 = .ok (.if_icmp .lt 13, 3) := by decide +kernel
theorem d_Trust_certificate_20 : decode b_Trust_certificate 20 = .ok (.new 74, 3) := by decide +kernel
theorem d_Trust_certificate_23 : decode b_Trust_certificate 23 = .ok (.dup, 1) := by decide +kernel
theorem d_Trust_certificate_24 : decode b_Trust_certificate 24 = .ok (.ldc 93, 2) := by decide +kernel
theorem d_Trust_certificate_26 : decode b_Trust_certificate 26 = .ok (.invokespecial 78, 3) := by decide +kernel
theorem d_Trust_certificate_29 : decode b_Trust_certificate 29 = .ok (.athrow, 1) := by decide +kernel
theorem d_Trust_certificate_30 : decode b_Trust_certificate 30 = .ok (.new 95, 3) := by decide +kernel
theorem d_Trust_certificate_33 : decode b_Trust_certificate 33 = .ok (.dup, 1) := by decide +kernel
theorem d_Trust_certificate_34 : decode b_Trust_certificate 34 = .ok (.aload_n 0, 1) := by decide +kernel
theorem d_Trust_certificate_35 : decode b_Trust_certificate 35 = .ok (.iload_n 1, 1) := by decide +kernel
theorem d_Trust_certificate_36 : decode b_Trust_certificate 36 = .ok (.invokevirtual 97, 3) := by decide +kernel
theorem d_Trust_certificate_39 : decode b_Trust_certificate 39 = .ok (.invokespecial 101, 3) := by decide +kernel
theorem d_Trust_certificate_42 : decode b_Trust_certificate 42 = .ok (.astore_n 3, 1) := by decide +kernel
theorem d_Trust_certificate_43 : decode b_Trust_certificate 43 = .ok (.aload_n 3, 1) := by decide +kernel
theorem d_Trust_certificate_44 : decode b_Trust_certificate 44 = .ok (.invokevirtual 104, 3) := by decide +kernel
theorem d_Trust_certificate_47 : decode b_Trust_certificate 47 = .ok (.aload_n 0, 1) := by decide +kernel
theorem d_Trust_certificate_48 : decode b_Trust_certificate 48 = .ok (.aload_n 3, 1) := by decide +kernel
theorem d_Trust_certificate_49 : decode b_Trust_certificate 49 = .ok (.getfield 107, 3) := by decide +kernel
theorem d_Trust_certificate_52 : decode b_Trust_certificate 52 = .ok (.putfield 71, 3) := by decide +kernel
theorem d_Trust_certificate_55 : decode b_Trust_certificate 55 = .ok (.aload_n 0, 1) := by decide +kernel
theorem d_Trust_certificate_56 : decode b_Trust_certificate 56 = .ok (.getfield 71, 3) := by decide +kernel
theorem d_Trust_certificate_59 : decode b_Trust_certificate 59 = .ok (.ifCond .lt 13, 3) := by decide +kernel
theorem d_Trust_certificate_62 : decode b_Trust_certificate 62 = .ok (.new 110, 3) := by decide +kernel
theorem d_Trust_certificate_65 : decode b_Trust_certificate 65 = .ok (.dup, 1) := by decide +kernel
theorem d_Trust_certificate_66 : decode b_Trust_certificate 66 = .ok (.ldc 112, 2) := by decide +kernel
theorem d_Trust_certificate_68 : decode b_Trust_certificate 68 = .ok (.invokespecial 114, 3) := by decide +kernel
theorem d_Trust_certificate_71 : decode b_Trust_certificate 71 = .ok (.athrow, 1) := by decide +kernel
set_option maxHeartbeats 4000000 in
set_option maxRecDepth 100000 in
theorem c0_Trust_certificate (l : Launch) (hl0 : l.stackTraces = false) (dC : Nat → ClassId) (dI : Nat → Nat → Nat) (sb : sB) (q0 fe ho ce li sh rs se ch fo : Nat) (foS chS faP : Int32) (e0 : Nat) (mo : Int32) (cB cI : ClassId) (f : Nat → Int32) (n tr : Int32) (sz : Nat) : vx_Met l y_Trust_certificate w_Trust_certificate ({ frames := 7, cells := 26, slots := 124, locals := 147 }) (mx_P [.ref q0, .int n, .int tr] (dC, dI) sb [(q0, .inr (10, [.ref fe, .ref ho, .ref ce, .ref li, .ref sh, .ref rs, .ref se, .ref ch, .ref fo, .int foS, .int chS, .int faP, .int 0, .int (wI none)])), (ce, .inr (11, [.ref e0, .int (nI 0), .int mo])), (fe, .inl (cB, 2060, .inl f))] [(cB, .byte), (cI, .int)] sz) (va_Qi (fun r (u' : Unit) => False) (mu_B (dC, dI) [(cB, .byte), (cI, .int)] (va_A [(q0, .inr (10, [.ref fe, .ref ho, .ref ce, .ref li, .ref sh, .ref rs, .ref se, .ref ch, .ref fo, .int foS, .int chS, .int faP, .int 0, .int (wI none)])), (ce, .inr (11, [.ref e0, .int (nI 0), .int mo])), (fe, .inl (cB, 2060, .inl f))] sz) (fun _ : Unit => [(q0, .inr (10, [.ref fe, .ref ho, .ref ce, .ref li, .ref sh, .ref rs, .ref se, .ref ch, .ref fo, .int foS, .int chS, .int faP, .int 0, .int (wI none)])), (ce, .inr (11, [.ref e0, .int (nI 0), .int mo])), (fe, .inl (cB, 2060, .inl f))])) (va_A [(q0, .inr (10, [.ref fe, .ref ho, .ref ce, .ref li, .ref sh, .ref rs, .ref se, .ref ch, .ref fo, .int foS, .int chS, .int faP, .int 0, .int (wI none)])), (ce, .inr (11, [.ref e0, .int (nI 0), .int mo])), (fe, .inl (cB, 2060, .inl f))] sz)) (mx_X (fun (E : String) (u' : Option Nat) => E = (if n = 0 then "java/lang/IllegalArgumentException" else "java/lang/IndexOutOfBoundsException") ∧ u' = (if n = 0 then some 0 else none)) (dC, dI) [(cB, .byte), (cI, .int)] (va_A [(q0, .inr (10, [.ref fe, .ref ho, .ref ce, .ref li, .ref sh, .ref rs, .ref se, .ref ch, .ref fo, .int foS, .int chS, .int faP, .int 0, .int (wI none)])), (ce, .inr (11, [.ref e0, .int (nI 0), .int mo])), (fe, .inl (cB, 2060, .inl f))] sz) (fun u' : Option Nat => [(q0, .inr (10, [.ref fe, .ref ho, .ref ce, .ref li, .ref sh, .ref rs, .ref se, .ref ch, .ref fo, .int foS, .int chS, .int faP, .int 0, .int (wI u')])), (ce, .inr (11, [.ref e0, .int (nI 0), .int mo])), (fe, .inl (cB, 2060, .inl f))])) 26 124 (va_A [(q0, .inr (10, [.ref fe, .ref ho, .ref ce, .ref li, .ref sh, .ref rs, .ref se, .ref ch, .ref fo, .int foS, .int chS, .int faP, .int 0, .int (wI none)])), (ce, .inr (11, [.ref e0, .int (nI 0), .int mo])), (fe, .inl (cB, 2060, .inl f))] sz) := by
  refine vx_ofW (cc := b_Trust_certificate) (maxL := 5) (ret := (some FieldType.int)) (by decide) rfl ?_
  intro p e s m args below meth c s₁ B hml hnoh hv
  obtain ⟨rfl, hsz, hB0, hP, hK, hD0, hN, hT0, hTh⟩ := hv
  have hx := B.exec
  have hb := B.bytes
  have hr := B.returns
  have hts := atoms_spec (ws := w_Trust_certificate) B.pre
  have tbin : ∀ w ∈ tb, w ∈ w_Trust_certificate := fun w h => List.mem_cons_of_mem _ h
  have htb : ∀ w ∈ tb, w.before _ s = true := fun w h => hts w (tbin w h)
  have hown : s.vm.findClass "TrustChain" = some m.cls := findClass_of_methodNamed B.named
  have hlocks := B.notSynchronized
  subst hsz
  have hD := hD0.self (sz := s.heap.size)
  generalize hAe : va_A [(q0, .inr (10, [.ref fe, .ref ho, .ref ce, .ref li, .ref sh, .ref rs, .ref se, .ref ch, .ref fo, .int foS, .int chS, .int faP, .int 0, .int (wI none)])), (ce, .inr (11, [.ref e0, .int (nI 0), .int mo])), (fe, .inl (cB, 2060, .inl f))] s.heap.size = A at hD ⊢
  have hA : ∀ q : Nat, s.heap.size ≤ q → A q := fun q h => by rw [← hAe]; exact Or.inr h
  have hAs : ∀ q : Nat, A q → sb.1 ≤ q := fun q h => by
    rw [← hAe] at h
    rcases h with ⟨k, e, h⟩ | h
    · exact hD0.2 k _ h
    · exact Nat.le_trans hB0 h
  have hS : va_S A s.heap s.heap [] := va_S.rf
  have hcs : 26 ≤ (headSpec w_Trust_certificate ({ frames := 7, cells := 26, slots := 124, locals := 147 })).room.cells ∧ 124 ≤ (headSpec w_Trust_certificate ({ frames := 7, cells := 26, slots := 124, locals := 147 })).room.slots := ⟨Nat.le_refl _, Nat.le_refl _⟩
  have hP : va_P (dC, dI) classes [(q0, .inr (10, [.ref fe, .ref ho, .ref ce, .ref li, .ref sh, .ref rs, .ref se, .ref ch, .ref fo, .int foS, .int chS, .int faP, .int 0, .int (wI none)])), (ce, .inr (11, [.ref e0, .int (nI 0), .int mo])), (fe, .inl (cB, 2060, .inl f))] s.heap := hP
  have hl := lv_entry ([.ref q0, .int n, .int tr]) (n := 5) (Nat.le_of_ble_eq_true rfl)
  rw [lg_entry_eq]
  generalize (lg_sl ([.ref q0, .int n, .int tr]) ++ List.replicate (5 - (lg_sl ([.ref q0, .int n, .int tr])).length) Slot.unset).toArray = ls at hl ⊢
  have hl : lv_has ls 5 [(0, .ref q0), (1, .int n), (2, .int tr)] := hl
  rcases Classical.em (n = 0) with rfl | hz
  · skip
    refine lv_aload_n hx hb d_Trust_certificate_0 rfl (lv_at hl 0 rfl) ?_
    refine lv_iload_n hx hb d_Trust_certificate_1 rfl (lv_at hl 1 rfl) ?_
    refine vp_callSi (pu_callV (As := [.int 0]) (rest := []) ⟨hx, hb, hml, hown, hts⟩ tbin (c_Trust_isFed l dC dI sb q0 fe ho ce li sh rs se ch fo foS chS faP 0 (wI none) 0) q2_49 q2_51 qp_2 q1_1 q2_52 (n := 1) (by decide +kernel) rfl ⟨rfl, rfl⟩ ⟨Nat.le_of_ble_eq_true rfl, Nat.le_of_ble_eq_true rfl⟩ ⟨Nat.le_of_ble_eq_true rfl, Nat.le_of_ble_eq_true rfl⟩ hN (hT0.keep hS hAs) hK hP [0] rfl [] rfl 0 10 rfl rfl rfl hl.1 rfl (Nat.le_of_ble_eq_true rfl) d_Trust_certificate_2) (fun r2 hr2 => ?_)
    refine lv_if_eq (tgt := 20) hx hb d_Trust_certificate_5 (by decide) (fun c5 => ?_) (fun c5 => ?_)
    · exact absurd (bz_0 hr2 (by first | exact c5 | exact Classical.not_not.mp c5)) (fun q => q ⟨by decide, by decide, by decide⟩)
    refine lv_aload_n hx hb d_Trust_certificate_8 rfl (lv_at hl 0 rfl) ?_
    refine va_get (v := .ref ce) hx hb htb i_Trust hown hK hP 0 rfl rfl 2 (by decide) (htb _ q1_158) (fun _ h9 => h9) rfl d_Trust_certificate_9 ?_
    refine vp_callSi (pu_callV (As := []) (rest := []) ⟨hx, hb, hml, hown, hts⟩ tbin (c_AL_size l dC dI sb ce e0 0 mo) q2_53 q2_54 q2_55 q1_4 q2_56 (n := 0) (by decide +kernel) rfl ⟨rfl, rfl⟩ ⟨Nat.le_of_ble_eq_true rfl, Nat.le_of_ble_eq_true rfl⟩ ⟨Nat.le_of_ble_eq_true rfl, Nat.le_of_ble_eq_true rfl⟩ hN (hT0.keep hS hAs) hK hP [1] rfl [] rfl 1 11 rfl rfl rfl hl.1 rfl (Nat.le_of_ble_eq_true rfl) d_Trust_certificate_12) (fun r12 hr12 => ?_)
    subst hr12
    refine lv_bipush (v := 16) hx hb d_Trust_certificate_15 (by decide) ?_
    refine lv_icmp_lt (tgt := 30) hx hb d_Trust_certificate_17 (by decide) (fun c17 => ?_) (fun c17 => ?_)
    rotate_left
    · exact absurd c17 (by decide)
    refine va_new (ci := 4) (fs := [.null, .null, .int 0, .int 0, .int 0, .int 0, .int 0, .int 0, .null]) hx hb htb i_CertificateReader t_CertificateReader t_CertificateReader_ok hown (htb _ q2_58) (htb _ q2_59) (htb _ q1_16) hK hP hD hS hA rfl (fun j hj => by rcases (show j = 0 ∨ j = 1 ∨ j = 2 ∨ j = 3 ∨ j = 4 ∨ j = 5 ∨ j = 6 ∨ j = 7 ∨ j = 8 by omega) with rfl | rfl | rfl | rfl | rfl | rfl | rfl | rfl | rfl <;> rfl) (Nat.le_of_ble_eq_true rfl) (Nat.le_of_ble_eq_true rfl) d_Trust_certificate_30 (fun q30 H30 hP hD hS => ?_)
    have hP : va_P (dC, dI) classes [(q0, .inr (10, [.ref fe, .ref ho, .ref ce, .ref li, .ref sh, .ref rs, .ref se, .ref ch, .ref fo, .int foS, .int chS, .int faP, .int 0, .int (wI none)])), (ce, .inr (11, [.ref e0, .int (nI 0), .int mo])), (fe, .inl (cB, 2060, .inl f)), (q30, .inr (4, [.null, .null, .int 0, .int 0, .int 0, .int 0, .int 0, .int 0, .null]))] H30 := hP
    have hD : va_D A [(q0, .inr (10, [.ref fe, .ref ho, .ref ce, .ref li, .ref sh, .ref rs, .ref se, .ref ch, .ref fo, .int foS, .int chS, .int faP, .int 0, .int (wI none)])), (ce, .inr (11, [.ref e0, .int (nI 0), .int mo])), (fe, .inl (cB, 2060, .inl f)), (q30, .inr (4, [.null, .null, .int 0, .int 0, .int 0, .int 0, .int 0, .int 0, .null]))] := hD
    refine lv_dup hx hb d_Trust_certificate_33 rfl ?_
    refine lv_aload_n hx hb d_Trust_certificate_34 rfl (lv_at hl 0 rfl) ?_
    refine lv_iload_n hx hb d_Trust_certificate_35 rfl (lv_at hl 1 rfl) ?_
    have hFc := va_free (wc := [(q0, .inr (10, [.ref fe, .ref ho, .ref ce, .ref li, .ref sh, .ref rs, .ref se, .ref ch, .ref fo, .int foS, .int chS, .int faP, .int 0, .int (wI none)])), (fe, .inl (cB, 2060, .inl f))]) hD hS hA [0, 2] rfl
    refine va_callr (mu_runV (As := [.int 0]) (rest := [.ref q30, .ref q30]) ⟨hx, hb, hml, hown, hts⟩ tbin (e_takeText l dC dI sb q0 fe ho ce li sh rs se ch fo foS chS faP 0 (wI none) cB f H30.size) q2_60 q2_62 qp_3 q1_1 q2_63 (n := 1) (by decide +kernel) rfl ⟨rfl, rfl⟩ ⟨Nat.le_of_ble_eq_true rfl, Nat.le_of_ble_eq_true rfl⟩ ⟨Nat.le_of_ble_eq_true rfl, Nat.le_of_ble_eq_true rfl⟩ hN (hT0.keep hS hAs) hAs (Nat.le_trans hB0 hS.1) hK hP hD [0, 2] (by decide) rfl [0] rfl 0 10 rfl rfl rfl hl.1 rfl (Nat.le_of_ble_eq_true rfl) d_Trust_certificate_36) hS (fun q _ h => hFc q h) hFc (fun u36 q36 tS H36 locs ht hvm hw36 hB hz1 hk1 hS => ?_)
    skip
    obtain ⟨hP1, hK1, hD1⟩ := hB
    rw [ht] at hP1
    obtain ⟨hP, hD⟩ := va_join (wr := [(ce, .inr (11, [.ref e0, .int (nI 0), .int mo])), (q30, .inr (4, [.null, .null, .int 0, .int 0, .int 0, .int 0, .int 0, .int 0, .null]))]) (w1 := [(q0, .inr (10, [.ref fe, .ref ho, .ref ce, .ref li, .ref sh, .ref rs, .ref se, .ref ch, .ref fo, .int foS, .int chS, .int faP, .int 0, .int (wI none)])), (fe, .inl (cB, 2060, .inl f)), (q36, .inl (cB, 0, .inl (tx eU)))]) hP hD [0, 2] [1, 3] rfl rfl (by decide) (by decide) hk1 hFc hP1 hD1
    have hP : va_P (dC, dI) classes [(ce, .inr (11, [.ref e0, .int (nI 0), .int mo])), (q30, .inr (4, [.null, .null, .int 0, .int 0, .int 0, .int 0, .int 0, .int 0, .null])), (q0, .inr (10, [.ref fe, .ref ho, .ref ce, .ref li, .ref sh, .ref rs, .ref se, .ref ch, .ref fo, .int foS, .int chS, .int faP, .int 0, .int (wI none)])), (fe, .inl (cB, 2060, .inl f)), (q36, .inl (cB, 0, .inl (tx eU)))] H36 := hP
    have hD : va_D A [(ce, .inr (11, [.ref e0, .int (nI 0), .int mo])), (q30, .inr (4, [.null, .null, .int 0, .int 0, .int 0, .int 0, .int 0, .int 0, .null])), (q0, .inr (10, [.ref fe, .ref ho, .ref ce, .ref li, .ref sh, .ref rs, .ref se, .ref ch, .ref fo, .int foS, .int chS, .int faP, .int 0, .int (wI none)])), (fe, .inl (cB, 2060, .inl f)), (q36, .inl (cB, 0, .inl (tx eU)))] := hD
    have hFc := va_free (wc := [(q30, .inr (4, [.null, .null, .int 0, .int 0, .int 0, .int 0, .int 0, .int 0, .null]))]) hD hS hA [1] rfl
    refine va_callv (mu_runI (As := [.ref q36]) (rest := [.ref q30]) ⟨hx, hb, hml, hown, hts⟩ tbin (c_CR_init l dC dI sb q30 q36 cI H36.size) q2_80 q2_81 q1_16 q2_82 rfl (n := 1) (by decide +kernel) rfl ⟨rfl, rfl⟩ ⟨Nat.le_of_ble_eq_true rfl, Nat.le_of_ble_eq_true rfl⟩ ⟨Nat.le_of_ble_eq_true rfl, Nat.le_of_ble_eq_true rfl⟩ hN (hT0.keep hS hAs) hAs (Nat.le_trans hB0 hS.1) hK hP hD [1] (by decide) rfl [1] rfl hl.1 rfl (Nat.le_of_ble_eq_true rfl) d_Trust_certificate_39) hS (fun q _ h => hFc q h) hFc (fun u39 tS H39 locs ht hvm hw39 hB hz1 hk1 hS => ?_)
    obtain ⟨p39_0, p39_1, p39_2, p39_3, p39_4, p39_5, p39_6, p39_7, p39_8, p39_9, p39_10, p39_11, p39_12, p39_13, p39_14⟩ := u39
    obtain ⟨hP1, hK1, hD1⟩ := hB
    rw [ht] at hP1
    obtain ⟨hP, hD⟩ := va_join (wr := [(ce, .inr (11, [.ref e0, .int (nI 0), .int mo])), (q0, .inr (10, [.ref fe, .ref ho, .ref ce, .ref li, .ref sh, .ref rs, .ref se, .ref ch, .ref fo, .int foS, .int chS, .int faP, .int 0, .int (wI none)])), (fe, .inl (cB, 2060, .inl f)), (q36, .inl (cB, 0, .inl (tx eU)))]) (w1 := [(q30, .inr (4, [.ref p39_2, .ref q36, .int 0, .int 0, .int (-1), .int 0, .int 0, .int 0, .ref p39_0])), (p39_0, .inr (11, [.ref (sb.2 5), .int 0, .int 0])), (p39_1, .inr (0, [.ref q36, .int 0, .int 0])), (p39_2, .inr (3, [.ref p39_6, .ref p39_9, .ref p39_12, .ref p39_1, .ref p39_1, .ref p39_1, .ref p39_1, .ref p39_1, .int 0, .int 0, .int 0, .int 0, .int (-1), .int (-1), .int 0, .int 0, .int 0, .int 0, .int 0, .ref p39_3, .ref p39_4, .ref p39_5, .ref p39_1, .ref p39_1, .ref p39_1, .long 0, .long 0, .int 0])), (p39_3, .inl (cI, 8, .inl (fun _ => 0))), (p39_4, .inl (cI, 16, .inl (fun _ => 0))), (p39_5, .inr (11, [.ref (sb.2 5), .int 0, .int 0])), (p39_6, .inr (1, [.ref p39_7, .ref p39_8])), (p39_7, .inr (11, [.ref (sb.2 5), .int 0, .int 0])), (p39_8, .inr (11, [.ref (sb.2 5), .int 0, .int 0])), (p39_9, .inr (1, [.ref p39_10, .ref p39_11])), (p39_10, .inr (11, [.ref (sb.2 5), .int 0, .int 0])), (p39_11, .inr (11, [.ref (sb.2 5), .int 0, .int 0])), (p39_12, .inr (1, [.ref p39_13, .ref p39_14])), (p39_13, .inr (11, [.ref (sb.2 5), .int 0, .int 0])), (p39_14, .inr (11, [.ref (sb.2 5), .int 0, .int 0]))]) hP hD [1] [0, 2, 3, 4] rfl rfl (by decide) (by decide) hk1 hFc hP1 hD1
    have hP : va_P (dC, dI) classes [(ce, .inr (11, [.ref e0, .int (nI 0), .int mo])), (q0, .inr (10, [.ref fe, .ref ho, .ref ce, .ref li, .ref sh, .ref rs, .ref se, .ref ch, .ref fo, .int foS, .int chS, .int faP, .int 0, .int (wI none)])), (fe, .inl (cB, 2060, .inl f)), (q36, .inl (cB, 0, .inl (tx eU))), (q30, .inr (4, [.ref p39_2, .ref q36, .int 0, .int 0, .int (-1), .int 0, .int 0, .int 0, .ref p39_0])), (p39_0, .inr (11, [.ref (sb.2 5), .int 0, .int 0])), (p39_1, .inr (0, [.ref q36, .int 0, .int 0])), (p39_2, .inr (3, [.ref p39_6, .ref p39_9, .ref p39_12, .ref p39_1, .ref p39_1, .ref p39_1, .ref p39_1, .ref p39_1, .int 0, .int 0, .int 0, .int 0, .int (-1), .int (-1), .int 0, .int 0, .int 0, .int 0, .int 0, .ref p39_3, .ref p39_4, .ref p39_5, .ref p39_1, .ref p39_1, .ref p39_1, .long 0, .long 0, .int 0])), (p39_3, .inl (cI, 8, .inl (fun _ => 0))), (p39_4, .inl (cI, 16, .inl (fun _ => 0))), (p39_5, .inr (11, [.ref (sb.2 5), .int 0, .int 0])), (p39_6, .inr (1, [.ref p39_7, .ref p39_8])), (p39_7, .inr (11, [.ref (sb.2 5), .int 0, .int 0])), (p39_8, .inr (11, [.ref (sb.2 5), .int 0, .int 0])), (p39_9, .inr (1, [.ref p39_10, .ref p39_11])), (p39_10, .inr (11, [.ref (sb.2 5), .int 0, .int 0])), (p39_11, .inr (11, [.ref (sb.2 5), .int 0, .int 0])), (p39_12, .inr (1, [.ref p39_13, .ref p39_14])), (p39_13, .inr (11, [.ref (sb.2 5), .int 0, .int 0])), (p39_14, .inr (11, [.ref (sb.2 5), .int 0, .int 0]))] H39 := hP
    have hD : va_D A [(ce, .inr (11, [.ref e0, .int (nI 0), .int mo])), (q0, .inr (10, [.ref fe, .ref ho, .ref ce, .ref li, .ref sh, .ref rs, .ref se, .ref ch, .ref fo, .int foS, .int chS, .int faP, .int 0, .int (wI none)])), (fe, .inl (cB, 2060, .inl f)), (q36, .inl (cB, 0, .inl (tx eU))), (q30, .inr (4, [.ref p39_2, .ref q36, .int 0, .int 0, .int (-1), .int 0, .int 0, .int 0, .ref p39_0])), (p39_0, .inr (11, [.ref (sb.2 5), .int 0, .int 0])), (p39_1, .inr (0, [.ref q36, .int 0, .int 0])), (p39_2, .inr (3, [.ref p39_6, .ref p39_9, .ref p39_12, .ref p39_1, .ref p39_1, .ref p39_1, .ref p39_1, .ref p39_1, .int 0, .int 0, .int 0, .int 0, .int (-1), .int (-1), .int 0, .int 0, .int 0, .int 0, .int 0, .ref p39_3, .ref p39_4, .ref p39_5, .ref p39_1, .ref p39_1, .ref p39_1, .long 0, .long 0, .int 0])), (p39_3, .inl (cI, 8, .inl (fun _ => 0))), (p39_4, .inl (cI, 16, .inl (fun _ => 0))), (p39_5, .inr (11, [.ref (sb.2 5), .int 0, .int 0])), (p39_6, .inr (1, [.ref p39_7, .ref p39_8])), (p39_7, .inr (11, [.ref (sb.2 5), .int 0, .int 0])), (p39_8, .inr (11, [.ref (sb.2 5), .int 0, .int 0])), (p39_9, .inr (1, [.ref p39_10, .ref p39_11])), (p39_10, .inr (11, [.ref (sb.2 5), .int 0, .int 0])), (p39_11, .inr (11, [.ref (sb.2 5), .int 0, .int 0])), (p39_12, .inr (1, [.ref p39_13, .ref p39_14])), (p39_13, .inr (11, [.ref (sb.2 5), .int 0, .int 0])), (p39_14, .inr (11, [.ref (sb.2 5), .int 0, .int 0]))] := hD
    refine lv_astore_n (lv' := [(3, .ref q30), (0, .ref q0), (1, .int 0), (2, .int tr)]) hx hb d_Trust_certificate_42 rfl hl (by decide) rfl (fun ls hl => ?_)
    refine lv_aload_n hx hb d_Trust_certificate_43 rfl (lv_at hl 0 rfl) ?_
    have hFc := va_free (wc := [(q30, .inr (4, [.ref p39_2, .ref q36, .int 0, .int 0, .int (-1), .int 0, .int 0, .int 0, .ref p39_0])), (q36, .inl (cB, 0, .inl (tx eU))), (p39_2, .inr (3, [.ref p39_6, .ref p39_9, .ref p39_12, .ref p39_1, .ref p39_1, .ref p39_1, .ref p39_1, .ref p39_1, .int 0, .int 0, .int 0, .int 0, .int (-1), .int (-1), .int 0, .int 0, .int 0, .int 0, .int 0, .ref p39_3, .ref p39_4, .ref p39_5, .ref p39_1, .ref p39_1, .ref p39_1, .long 0, .long 0, .int 0]))]) hD hS hA [4, 3, 7] rfl
    refine va_callv (mu_runV (As := []) (rest := []) ⟨hx, hb, hml, hown, hts⟩ tbin (eC_readCertificate l dC dI sb q30 p39_2 q36 p39_0 0 0 0 cB p39_6 p39_9 p39_12 p39_1 p39_1 p39_1 p39_1 p39_1 p39_3 p39_4 p39_5 p39_1 p39_1 p39_1 0 0 0 0 (-1) (-1) 0 0 0 0 0 0 0 0 H39.size) q3_104 q3_105 q3_106 q1_16 q3_107 (n := 0) (by decide +kernel) rfl ⟨rfl, rfl⟩ ⟨Nat.le_of_ble_eq_true rfl, Nat.le_of_ble_eq_true rfl⟩ ⟨Nat.le_of_ble_eq_true rfl, Nat.le_of_ble_eq_true rfl⟩ hN (hT0.keep hS hAs) hAs (Nat.le_trans hB0 hS.1) hK hP hD [4, 3, 7] (by decide) rfl [0] rfl 4 4 rfl rfl rfl hl.1 rfl (Nat.le_of_ble_eq_true rfl) d_Trust_certificate_44) hS (fun q _ h => hFc q h) hFc (fun u44 tS H44 locs ht hvm hw44 hB hz1 hk1 hS => ?_)
    obtain ⟨a44_0, a44_1, a44_2, a44_3, a44_4, a44_5, a44_6, a44_7, a44_8, a44_9, a44_10⟩ := u44
    obtain ⟨hP1, hK1, hD1⟩ := hB
    rw [ht] at hP1
    obtain ⟨hP, hD⟩ := va_join (wr := [(ce, .inr (11, [.ref e0, .int (nI 0), .int mo])), (q0, .inr (10, [.ref fe, .ref ho, .ref ce, .ref li, .ref sh, .ref rs, .ref se, .ref ch, .ref fo, .int foS, .int chS, .int faP, .int 0, .int (wI none)])), (fe, .inl (cB, 2060, .inl f)), (p39_0, .inr (11, [.ref (sb.2 5), .int 0, .int 0])), (p39_1, .inr (0, [.ref q36, .int 0, .int 0])), (p39_3, .inl (cI, 8, .inl (fun _ => 0))), (p39_4, .inl (cI, 16, .inl (fun _ => 0))), (p39_5, .inr (11, [.ref (sb.2 5), .int 0, .int 0])), (p39_6, .inr (1, [.ref p39_7, .ref p39_8])), (p39_7, .inr (11, [.ref (sb.2 5), .int 0, .int 0])), (p39_8, .inr (11, [.ref (sb.2 5), .int 0, .int 0])), (p39_9, .inr (1, [.ref p39_10, .ref p39_11])), (p39_10, .inr (11, [.ref (sb.2 5), .int 0, .int 0])), (p39_11, .inr (11, [.ref (sb.2 5), .int 0, .int 0])), (p39_12, .inr (1, [.ref p39_13, .ref p39_14])), (p39_13, .inr (11, [.ref (sb.2 5), .int 0, .int 0])), (p39_14, .inr (11, [.ref (sb.2 5), .int 0, .int 0]))]) (w1 := [(q30, .inr (4, [.ref p39_2, .ref q36, .int (nI 0), .int (nI 0), .int (wI (some 0)), .int 0, .int 0, .int 0, .ref p39_0])), (q36, .inl (cB, 0, .inl (tx eU))), (p39_2, .inr (3, [.ref p39_6, .ref p39_9, .ref p39_12, .ref a44_0, .ref a44_1, .ref a44_2, .ref p39_1, .ref p39_1, .int 0, .int a44_3, .int a44_4, .int 0, .int (-1), .int (-1), .int 0, .int a44_5, .int 0, .int 0, .int 0, .ref p39_3, .ref p39_4, .ref p39_5, .ref a44_6, .ref a44_7, .ref a44_8, .long a44_9, .long a44_10, .int 0]))]) hP hD [4, 3, 7] [0, 1, 2, 5, 6, 8, 9, 10, 11, 12, 13, 14, 15, 16, 17, 18, 19] rfl rfl (by decide) (by decide) hk1 hFc hP1 hD1
    have hP : va_P (dC, dI) classes [(ce, .inr (11, [.ref e0, .int (nI 0), .int mo])), (q0, .inr (10, [.ref fe, .ref ho, .ref ce, .ref li, .ref sh, .ref rs, .ref se, .ref ch, .ref fo, .int foS, .int chS, .int faP, .int 0, .int (wI none)])), (fe, .inl (cB, 2060, .inl f)), (p39_0, .inr (11, [.ref (sb.2 5), .int 0, .int 0])), (p39_1, .inr (0, [.ref q36, .int 0, .int 0])), (p39_3, .inl (cI, 8, .inl (fun _ => 0))), (p39_4, .inl (cI, 16, .inl (fun _ => 0))), (p39_5, .inr (11, [.ref (sb.2 5), .int 0, .int 0])), (p39_6, .inr (1, [.ref p39_7, .ref p39_8])), (p39_7, .inr (11, [.ref (sb.2 5), .int 0, .int 0])), (p39_8, .inr (11, [.ref (sb.2 5), .int 0, .int 0])), (p39_9, .inr (1, [.ref p39_10, .ref p39_11])), (p39_10, .inr (11, [.ref (sb.2 5), .int 0, .int 0])), (p39_11, .inr (11, [.ref (sb.2 5), .int 0, .int 0])), (p39_12, .inr (1, [.ref p39_13, .ref p39_14])), (p39_13, .inr (11, [.ref (sb.2 5), .int 0, .int 0])), (p39_14, .inr (11, [.ref (sb.2 5), .int 0, .int 0])), (q30, .inr (4, [.ref p39_2, .ref q36, .int (nI 0), .int (nI 0), .int (wI (some 0)), .int 0, .int 0, .int 0, .ref p39_0])), (q36, .inl (cB, 0, .inl (tx eU))), (p39_2, .inr (3, [.ref p39_6, .ref p39_9, .ref p39_12, .ref a44_0, .ref a44_1, .ref a44_2, .ref p39_1, .ref p39_1, .int 0, .int a44_3, .int a44_4, .int 0, .int (-1), .int (-1), .int 0, .int a44_5, .int 0, .int 0, .int 0, .ref p39_3, .ref p39_4, .ref p39_5, .ref a44_6, .ref a44_7, .ref a44_8, .long a44_9, .long a44_10, .int 0]))] H44 := hP
    have hD : va_D A [(ce, .inr (11, [.ref e0, .int (nI 0), .int mo])), (q0, .inr (10, [.ref fe, .ref ho, .ref ce, .ref li, .ref sh, .ref rs, .ref se, .ref ch, .ref fo, .int foS, .int chS, .int faP, .int 0, .int (wI none)])), (fe, .inl (cB, 2060, .inl f)), (p39_0, .inr (11, [.ref (sb.2 5), .int 0, .int 0])), (p39_1, .inr (0, [.ref q36, .int 0, .int 0])), (p39_3, .inl (cI, 8, .inl (fun _ => 0))), (p39_4, .inl (cI, 16, .inl (fun _ => 0))), (p39_5, .inr (11, [.ref (sb.2 5), .int 0, .int 0])), (p39_6, .inr (1, [.ref p39_7, .ref p39_8])), (p39_7, .inr (11, [.ref (sb.2 5), .int 0, .int 0])), (p39_8, .inr (11, [.ref (sb.2 5), .int 0, .int 0])), (p39_9, .inr (1, [.ref p39_10, .ref p39_11])), (p39_10, .inr (11, [.ref (sb.2 5), .int 0, .int 0])), (p39_11, .inr (11, [.ref (sb.2 5), .int 0, .int 0])), (p39_12, .inr (1, [.ref p39_13, .ref p39_14])), (p39_13, .inr (11, [.ref (sb.2 5), .int 0, .int 0])), (p39_14, .inr (11, [.ref (sb.2 5), .int 0, .int 0])), (q30, .inr (4, [.ref p39_2, .ref q36, .int (nI 0), .int (nI 0), .int (wI (some 0)), .int 0, .int 0, .int 0, .ref p39_0])), (q36, .inl (cB, 0, .inl (tx eU))), (p39_2, .inr (3, [.ref p39_6, .ref p39_9, .ref p39_12, .ref a44_0, .ref a44_1, .ref a44_2, .ref p39_1, .ref p39_1, .int 0, .int a44_3, .int a44_4, .int 0, .int (-1), .int (-1), .int 0, .int a44_5, .int 0, .int 0, .int 0, .ref p39_3, .ref p39_4, .ref p39_5, .ref a44_6, .ref a44_7, .ref a44_8, .long a44_9, .long a44_10, .int 0]))] := hD
    refine lv_aload_n hx hb d_Trust_certificate_47 rfl (lv_at hl 1 rfl) ?_
    refine lv_aload_n hx hb d_Trust_certificate_48 rfl (lv_at hl 0 rfl) ?_
    refine va_get (v := .int (wI (some 0))) hx hb htb i_CertificateReader hown hK hP 17 rfl rfl 4 (by decide) (htb _ q3_69) (fun x9 h9 => u_same (htb _ q3_70) x9 h9) rfl d_Trust_certificate_49 ?_
    refine va_put (v := .int (wI (some 0))) (ty := .int) hx hb htb i_Trust t_Trust t_Trust_ok n_Trust hown hK hP hD hS 1 rfl rfl 13 (by decide) (htb _ q1_169) (fun _ h9 => h9) rfl (by decide +kernel) rfl rfl (Nat.le_of_ble_eq_true rfl) d_Trust_certificate_52 (fun H52 locs hP hD hS => ?_)
    have hP : va_P (dC, dI) classes [(ce, .inr (11, [.ref e0, .int (nI 0), .int mo])), (q0, .inr (10, [.ref fe, .ref ho, .ref ce, .ref li, .ref sh, .ref rs, .ref se, .ref ch, .ref fo, .int foS, .int chS, .int faP, .int 0, .int (wI (some 0))])), (fe, .inl (cB, 2060, .inl f)), (p39_0, .inr (11, [.ref (sb.2 5), .int 0, .int 0])), (p39_1, .inr (0, [.ref q36, .int 0, .int 0])), (p39_3, .inl (cI, 8, .inl (fun _ => 0))), (p39_4, .inl (cI, 16, .inl (fun _ => 0))), (p39_5, .inr (11, [.ref (sb.2 5), .int 0, .int 0])), (p39_6, .inr (1, [.ref p39_7, .ref p39_8])), (p39_7, .inr (11, [.ref (sb.2 5), .int 0, .int 0])), (p39_8, .inr (11, [.ref (sb.2 5), .int 0, .int 0])), (p39_9, .inr (1, [.ref p39_10, .ref p39_11])), (p39_10, .inr (11, [.ref (sb.2 5), .int 0, .int 0])), (p39_11, .inr (11, [.ref (sb.2 5), .int 0, .int 0])), (p39_12, .inr (1, [.ref p39_13, .ref p39_14])), (p39_13, .inr (11, [.ref (sb.2 5), .int 0, .int 0])), (p39_14, .inr (11, [.ref (sb.2 5), .int 0, .int 0])), (q30, .inr (4, [.ref p39_2, .ref q36, .int (nI 0), .int (nI 0), .int (wI (some 0)), .int 0, .int 0, .int 0, .ref p39_0])), (q36, .inl (cB, 0, .inl (tx eU))), (p39_2, .inr (3, [.ref p39_6, .ref p39_9, .ref p39_12, .ref a44_0, .ref a44_1, .ref a44_2, .ref p39_1, .ref p39_1, .int 0, .int a44_3, .int a44_4, .int 0, .int (-1), .int (-1), .int 0, .int a44_5, .int 0, .int 0, .int 0, .ref p39_3, .ref p39_4, .ref p39_5, .ref a44_6, .ref a44_7, .ref a44_8, .long a44_9, .long a44_10, .int 0]))] H52 := hP
    have hD : va_D A [(ce, .inr (11, [.ref e0, .int (nI 0), .int mo])), (q0, .inr (10, [.ref fe, .ref ho, .ref ce, .ref li, .ref sh, .ref rs, .ref se, .ref ch, .ref fo, .int foS, .int chS, .int faP, .int 0, .int (wI (some 0))])), (fe, .inl (cB, 2060, .inl f)), (p39_0, .inr (11, [.ref (sb.2 5), .int 0, .int 0])), (p39_1, .inr (0, [.ref q36, .int 0, .int 0])), (p39_3, .inl (cI, 8, .inl (fun _ => 0))), (p39_4, .inl (cI, 16, .inl (fun _ => 0))), (p39_5, .inr (11, [.ref (sb.2 5), .int 0, .int 0])), (p39_6, .inr (1, [.ref p39_7, .ref p39_8])), (p39_7, .inr (11, [.ref (sb.2 5), .int 0, .int 0])), (p39_8, .inr (11, [.ref (sb.2 5), .int 0, .int 0])), (p39_9, .inr (1, [.ref p39_10, .ref p39_11])), (p39_10, .inr (11, [.ref (sb.2 5), .int 0, .int 0])), (p39_11, .inr (11, [.ref (sb.2 5), .int 0, .int 0])), (p39_12, .inr (1, [.ref p39_13, .ref p39_14])), (p39_13, .inr (11, [.ref (sb.2 5), .int 0, .int 0])), (p39_14, .inr (11, [.ref (sb.2 5), .int 0, .int 0])), (q30, .inr (4, [.ref p39_2, .ref q36, .int (nI 0), .int (nI 0), .int (wI (some 0)), .int 0, .int 0, .int 0, .ref p39_0])), (q36, .inl (cB, 0, .inl (tx eU))), (p39_2, .inr (3, [.ref p39_6, .ref p39_9, .ref p39_12, .ref a44_0, .ref a44_1, .ref a44_2, .ref p39_1, .ref p39_1, .int 0, .int a44_3, .int a44_4, .int 0, .int (-1), .int (-1), .int 0, .int a44_5, .int 0, .int 0, .int 0, .ref p39_3, .ref p39_4, .ref p39_5, .ref a44_6, .ref a44_7, .ref a44_8, .long a44_9, .long a44_10, .int 0]))] := hD
    refine lv_aload_n hx hb d_Trust_certificate_55 rfl (lv_at hl 1 rfl) ?_
    refine va_get (v := .int (wI (some 0))) hx hb htb i_Trust hown hK hP 1 rfl rfl 13 (by decide) (htb _ q1_169) (fun _ h9 => h9) rfl d_Trust_certificate_56 ?_
    refine lv_if_lt (tgt := 72) hx hb d_Trust_certificate_59 (by decide) (fun c59 => ?_) (fun c59 => ?_)
    · exact absurd c59 (by decide)
    obtain ⟨sa, hsa⟩ := hTh.2.2.1 (112, "WRONG") (by decide)
    exact vx_throwS (own := "TrustChain") (cls := "java/lang/IllegalArgumentException") (text := "WRONG") (names := xUp) (ik := 110) (is := 112) (ic := 114) (sa := sa) (A := A) hx hb hl0 hown (by decide) (by decide) (htb _ q4_233) (htb _ q1_27) hsa (x_hat x_ot114 x_gd114 x_nw114 htb hN) x_ot114 (hTh.1.narrow hAs) (hTh.2.1.narrow hAs) hS (hl.1.trans hml.symm) d_Trust_certificate_62 d_Trust_certificate_65 d_Trust_certificate_66 d_Trust_certificate_68 d_Trust_certificate_71 (fun x h => (hnoh x h).elim) (Nat.le_of_ble_eq_true rfl) (Nat.le_of_ble_eq_true rfl) (Nat.le_of_ble_eq_true rfl) (Nat.le_of_ble_eq_true rfl) hlocks (x_end (some 0) ⟨(if_pos rfl).symm, (if_pos rfl).symm⟩ (hP.sub [1, 0, 2] rfl) hK (hD.sub [1, 0, 2] (by decide) rfl) hS) hS.2.2 (Nat.le_of_ble_eq_true rfl) (Nat.le_of_ble_eq_true rfl)
  · skip
    refine lv_aload_n hx hb d_Trust_certificate_0 rfl (lv_at hl 0 rfl) ?_
    refine lv_iload_n hx hb d_Trust_certificate_1 rfl (lv_at hl 1 rfl) ?_
    refine vp_callSi (pu_callV (As := [.int n]) (rest := []) ⟨hx, hb, hml, hown, hts⟩ tbin (c_Trust_isFed l dC dI sb q0 fe ho ce li sh rs se ch fo foS chS faP 0 (wI none) n) q2_49 q2_51 qp_2 q1_1 q2_52 (n := 1) (by decide +kernel) rfl ⟨rfl, rfl⟩ ⟨Nat.le_of_ble_eq_true rfl, Nat.le_of_ble_eq_true rfl⟩ ⟨Nat.le_of_ble_eq_true rfl, Nat.le_of_ble_eq_true rfl⟩ hN (hT0.keep hS hAs) hK hP [0] rfl [] rfl 0 10 rfl rfl rfl hl.1 rfl (Nat.le_of_ble_eq_true rfl) d_Trust_certificate_2) (fun r2 hr2 => ?_)
    refine lv_if_eq (tgt := 20) hx hb d_Trust_certificate_5 (by decide) (fun c5 => ?_) (fun c5 => ?_)
    rotate_left
    · exact absurd (n_fz (bz_1 hr2 c5)) hz
    obtain ⟨sa, hsa⟩ := hTh.2.2.1 (93, "no such text, or no room") (by decide)
    exact vx_throwS (own := "TrustChain") (cls := "java/lang/IndexOutOfBoundsException") (text := "no such text, or no room") (names := xUp) (ik := 74) (is := 93) (ic := 78) (sa := sa) (A := A) hx hb hl0 hown (by decide) (by decide) (htb _ q1_211) (htb _ q1_14) hsa (x_hat x_ot78 x_gd78 x_nw78 htb hN) x_ot78 (hTh.1.narrow hAs) (hTh.2.1.narrow hAs) hS (hl.1.trans hml.symm) d_Trust_certificate_20 d_Trust_certificate_23 d_Trust_certificate_24 d_Trust_certificate_26 d_Trust_certificate_29 (fun x h => (hnoh x h).elim) (Nat.le_of_ble_eq_true rfl) (Nat.le_of_ble_eq_true rfl) (Nat.le_of_ble_eq_true rfl) (Nat.le_of_ble_eq_true rfl) hlocks (x_end none ⟨(if_neg hz).symm, (if_neg hz).symm⟩ hP hK hD hS) hS.2.2 (Nat.le_of_ble_eq_true rfl) (Nat.le_of_ble_eq_true rfl)
def y_TrustChainLaw_certificate : MethodName := ⟨"TrustChainLaw", "certificate", "(LTrustChain;IZ[J)I"⟩
abbrev b_TrustChainLaw_certificate : ByteArray := method_4_code
def w_TrustChainLaw_certificate : List Cond := Cond.codeWith y_TrustChainLaw_certificate b_TrustChainLaw_certificate 5 (some FieldType.int) [(0, 10, 13, 13), (0, 10, 17, 19)] :: tb
theorem d_TrustChainLaw_certificate_0 : decode b_TrustChainLaw_certificate 0 = .ok (.aload_n 3, 1) := by decide +kernel
theorem d_TrustChainLaw_certificate_1 : decode b_TrustChainLaw_certificate 1 = .ok (.iconst 0, 1) := by decide +kernel
theorem d_TrustChainLaw_certificate_2 : decode b_TrustChainLaw_certificate 2 = .ok (.aload_n 0, 1) := by decide +kernel
theorem d_TrustChainLaw_certificate_3 : decode b_TrustChainLaw_certificate 3 = .ok (.iload_n 1, 1) := by decide +kernel
theorem d_TrustChainLaw_certificate_4 : decode b_TrustChainLaw_certificate 4 = .ok (.iload_n 2, 1) := by decide +kernel
theorem d_TrustChainLaw_certificate_5 : decode b_TrustChainLaw_certificate 5 = .ok (.invokevirtual 15, 3) := by decide +kernel
theorem d_TrustChainLaw_certificate_8 : decode b_TrustChainLaw_certificate 8 = .ok (.i2l, 1) := by decide +kernel
theorem d_TrustChainLaw_certificate_9 : decode b_TrustChainLaw_certificate 9 = .ok (.lastore, 1) := by decide +kernel
theorem d_TrustChainLaw_certificate_10 : decode b_TrustChainLaw_certificate 10 = .ok (.goto 11, 3) := by decide +kernel
theorem d_TrustChainLaw_certificate_13 : decode b_TrustChainLaw_certificate 13 = .ok (.astore 4, 2) := by decide +kernel
theorem d_TrustChainLaw_certificate_15 : decode b_TrustChainLaw_certificate 15 = .ok (.iconst 1, 1) := by decide +kernel
theorem d_TrustChainLaw_certificate_16 : decode b_TrustChainLaw_certificate 16 = .ok (.ireturn, 1) := by decide +kernel
theorem d_TrustChainLaw_certificate_17 : decode b_TrustChainLaw_certificate 17 = .ok (.astore 4, 2) := by decide +kernel
theorem d_TrustChainLaw_certificate_19 : decode b_TrustChainLaw_certificate 19 = .ok (.iconst 2, 1) := by decide +kernel
theorem d_TrustChainLaw_certificate_20 : decode b_TrustChainLaw_certificate 20 = .ok (.ireturn, 1) := by decide +kernel
theorem d_TrustChainLaw_certificate_21 : decode b_TrustChainLaw_certificate 21 = .ok (.iconst 0, 1) := by decide +kernel
theorem d_TrustChainLaw_certificate_22 : decode b_TrustChainLaw_certificate 22 = .ok (.ireturn, 1) := by decide +kernel
set_option maxHeartbeats 4000000 in
set_option maxRecDepth 100000 in
theorem c0_Law_certificate (l : Launch) (hl0 : l.stackTraces = false) (dC : Nat → ClassId) (dI : Nat → Nat → Nat) (sb : sB) (q0 fe ho ce li sh rs se ch fo : Nat) (foS chS faP : Int32) (e0 : Nat) (mo : Int32) (cB cI : ClassId) (f : Nat → Int32) (n tr : Int32) (ou : Nat) (cJ : ClassId) (ov : Nat → Int64) (sz : Nat) : vx_Met l y_TrustChainLaw_certificate w_TrustChainLaw_certificate ({ frames := 8, cells := 26, slots := 124, locals := 171 }) (mx_P [.ref q0, .int n, .int tr, .ref ou] (dC, dI) sb [(q0, .inr (10, [.ref fe, .ref ho, .ref ce, .ref li, .ref sh, .ref rs, .ref se, .ref ch, .ref fo, .int foS, .int chS, .int faP, .int 0, .int (wI none)])), (ce, .inr (11, [.ref e0, .int (nI 0), .int mo])), (fe, .inl (cB, 2060, .inl f)), (ou, .inl (cJ, 1, .inr (.inl ov)))] [(cB, .byte), (cI, .int), (cJ, .long)] sz) (va_Qi (fun r (u : Option Nat) => r = (if n = 0 then 2 else 1)) (mu_B (dC, dI) [(cB, .byte), (cI, .int), (cJ, .long)] (va_A [(q0, .inr (10, [.ref fe, .ref ho, .ref ce, .ref li, .ref sh, .ref rs, .ref se, .ref ch, .ref fo, .int foS, .int chS, .int faP, .int 0, .int (wI none)])), (ce, .inr (11, [.ref e0, .int (nI 0), .int mo])), (fe, .inl (cB, 2060, .inl f)), (ou, .inl (cJ, 1, .inr (.inl ov)))] sz) (fun u : Option Nat => [(q0, .inr (10, [.ref fe, .ref ho, .ref ce, .ref li, .ref sh, .ref rs, .ref se, .ref ch, .ref fo, .int foS, .int chS, .int faP, .int 0, .int (wI u)])), (ce, .inr (11, [.ref e0, .int (nI 0), .int mo])), (fe, .inl (cB, 2060, .inl f)), (ou, .inl (cJ, 1, .inr (.inl ov)))])) (va_A [(q0, .inr (10, [.ref fe, .ref ho, .ref ce, .ref li, .ref sh, .ref rs, .ref se, .ref ch, .ref fo, .int foS, .int chS, .int faP, .int 0, .int (wI none)])), (ce, .inr (11, [.ref e0, .int (nI 0), .int mo])), (fe, .inl (cB, 2060, .inl f)), (ou, .inl (cJ, 1, .inr (.inl ov)))] sz)) (mx_X (fun (E : String) (u : Unit) => False) (dC, dI) [(cB, .byte), (cI, .int), (cJ, .long)] (va_A [(q0, .inr (10, [.ref fe, .ref ho, .ref ce, .ref li, .ref sh, .ref rs, .ref se, .ref ch, .ref fo, .int foS, .int chS, .int faP, .int 0, .int (wI none)])), (ce, .inr (11, [.ref e0, .int (nI 0), .int mo])), (fe, .inl (cB, 2060, .inl f)), (ou, .inl (cJ, 1, .inr (.inl ov)))] sz) (fun _ : Unit => [])) 26 124 (va_A [(q0, .inr (10, [.ref fe, .ref ho, .ref ce, .ref li, .ref sh, .ref rs, .ref se, .ref ch, .ref fo, .int foS, .int chS, .int faP, .int 0, .int (wI none)])), (ce, .inr (11, [.ref e0, .int (nI 0), .int mo])), (fe, .inl (cB, 2060, .inl f)), (ou, .inl (cJ, 1, .inr (.inl ov)))] sz) := by
  refine vx_ofWH (cc := b_TrustChainLaw_certificate) (maxL := 5) (ret := (some FieldType.int)) (by decide) rfl ?_
  intro p e s m args below meth c s₁ B hml hv
  obtain ⟨rfl, hsz, hB0, hP, hK, hD0, hN, hT0, hTh⟩ := hv
  have hx := B.exec
  have hb := B.bytes
  have hr := B.returns
  have hts := atoms_spec (ws := w_TrustChainLaw_certificate) B.pre
  have htab : c.exceptionTable.toList = tableOf [(0, 10, 13, 13), (0, 10, 17, 19)] := vx_table (x := y_TrustChainLaw_certificate) B (hts _ List.mem_cons_self)
  have tbin : ∀ w ∈ tb, w ∈ w_TrustChainLaw_certificate := fun w h => List.mem_cons_of_mem _ h
  have htb : ∀ w ∈ tb, w.before _ s = true := fun w h => hts w (tbin w h)
  have hown : s.vm.findClass "TrustChainLaw" = some m.cls := findClass_of_methodNamed B.named
  have hlocks := B.notSynchronized
  subst hsz
  have hD := hD0.self (sz := s.heap.size)
  generalize hAe : va_A [(q0, .inr (10, [.ref fe, .ref ho, .ref ce, .ref li, .ref sh, .ref rs, .ref se, .ref ch, .ref fo, .int foS, .int chS, .int faP, .int 0, .int (wI none)])), (ce, .inr (11, [.ref e0, .int (nI 0), .int mo])), (fe, .inl (cB, 2060, .inl f)), (ou, .inl (cJ, 1, .inr (.inl ov)))] s.heap.size = A at hD ⊢
  have hA : ∀ q : Nat, s.heap.size ≤ q → A q := fun q h => by rw [← hAe]; exact Or.inr h
  have hAs : ∀ q : Nat, A q → sb.1 ≤ q := fun q h => by
    rw [← hAe] at h
    rcases h with ⟨k, e, h⟩ | h
    · exact hD0.2 k _ h
    · exact Nat.le_trans hB0 h
  have hS : va_S A s.heap s.heap [] := va_S.rf
  have hcs : 26 ≤ (headSpec w_TrustChainLaw_certificate ({ frames := 8, cells := 26, slots := 124, locals := 171 })).room.cells ∧ 124 ≤ (headSpec w_TrustChainLaw_certificate ({ frames := 8, cells := 26, slots := 124, locals := 171 })).room.slots := ⟨Nat.le_refl _, Nat.le_refl _⟩
  have hP : va_P (dC, dI) classes [(q0, .inr (10, [.ref fe, .ref ho, .ref ce, .ref li, .ref sh, .ref rs, .ref se, .ref ch, .ref fo, .int foS, .int chS, .int faP, .int 0, .int (wI none)])), (ce, .inr (11, [.ref e0, .int (nI 0), .int mo])), (fe, .inl (cB, 2060, .inl f)), (ou, .inl (cJ, 1, .inr (.inl ov)))] s.heap := hP
  have hl := lv_entry ([.ref q0, .int n, .int tr, .ref ou]) (n := 5) (Nat.le_of_ble_eq_true rfl)
  rw [lg_entry_eq]
  generalize (lg_sl ([.ref q0, .int n, .int tr, .ref ou]) ++ List.replicate (5 - (lg_sl ([.ref q0, .int n, .int tr, .ref ou])).length) Slot.unset).toArray = ls at hl ⊢
  have hl : lv_has ls 5 [(0, .ref q0), (1, .int n), (2, .int tr), (3, .ref ou)] := hl
  refine lv_aload_n hx hb d_TrustChainLaw_certificate_0 rfl (lv_at hl 3 rfl) ?_
  refine lv_iconst (v := 0) hx hb d_TrustChainLaw_certificate_1 (by decide) ?_
  refine lv_aload_n hx hb d_TrustChainLaw_certificate_2 rfl (lv_at hl 0 rfl) ?_
  refine lv_iload_n hx hb d_TrustChainLaw_certificate_3 rfl (lv_at hl 1 rfl) ?_
  refine lv_iload_n hx hb d_TrustChainLaw_certificate_4 rfl (lv_at hl 2 rfl) ?_
  have hFc := va_free (wc := [(q0, .inr (10, [.ref fe, .ref ho, .ref ce, .ref li, .ref sh, .ref rs, .ref se, .ref ch, .ref fo, .int foS, .int chS, .int faP, .int 0, .int (wI none)])), (ce, .inr (11, [.ref e0, .int (nI 0), .int mo])), (fe, .inl (cB, 2060, .inl f))]) hD hS hA [0, 1, 2] rfl
  refine vx_calli (mx_runV (As := [.int n, .int tr]) (rest := [.int 0, .ref ou]) ⟨hx, hb, hml, hown, hts⟩ tbin (c0_Trust_certificate l hl0 dC dI sb q0 fe ho ce li sh rs se ch fo foS chS faP e0 mo cB cI f n tr s.heap.size) q2_45 q2_46 q2_47 q1_1 q2_48 (n := 2) (by decide +kernel) rfl ⟨rfl, rfl⟩ ⟨Nat.le_of_ble_eq_true rfl, Nat.le_of_ble_eq_true rfl⟩ ⟨Nat.le_of_ble_eq_true rfl, Nat.le_of_ble_eq_true rfl⟩ (hTh.keep hS hAs) hN (hT0.keep hS hAs) hAs (Nat.le_trans hB0 hS.1) hK hP hD [0, 1, 2] (by decide) rfl [0, 1] rfl 0 10 rfl rfl rfl hl.1 rfl (Nat.le_of_ble_eq_true rfl) d_TrustChainLaw_certificate_5) hS (fun q _ h => hFc q h) hFc (fun q _ h => hFc q h) (fun E cx9 q9 uX tX HX locs ht hvm hpx hBX hz1 hk1 hS hce hcv hcl => ?_) (fun r5 u5 tS H5 locs ht hvm hw5 hB hz1 hk1 hS => ?_)
  · obtain ⟨⟨hE, hu⟩, hB⟩ := hBX
    obtain ⟨hP1, hK1, hD1⟩ := hB
    rw [ht] at hP1
    obtain ⟨hP, hD⟩ := va_join (wr := [(ou, .inl (cJ, 1, .inr (.inl ov)))]) (w1 := [(q0, .inr (10, [.ref fe, .ref ho, .ref ce, .ref li, .ref sh, .ref rs, .ref se, .ref ch, .ref fo, .int foS, .int chS, .int faP, .int 0, .int (wI uX)])), (ce, .inr (11, [.ref e0, .int (nI 0), .int mo])), (fe, .inl (cB, 2060, .inl f))]) hP hD [0, 1, 2] [3] rfl rfl (by decide) (by decide) hk1 hFc hP1 hD1
    have hP : va_P (dC, dI) classes [(ou, .inl (cJ, 1, .inr (.inl ov))), (q0, .inr (10, [.ref fe, .ref ho, .ref ce, .ref li, .ref sh, .ref rs, .ref se, .ref ch, .ref fo, .int foS, .int chS, .int faP, .int 0, .int (wI uX)])), (ce, .inr (11, [.ref e0, .int (nI 0), .int mo])), (fe, .inl (cB, 2060, .inl f))] HX := hP
    have hD : va_D A [(ou, .inl (cJ, 1, .inr (.inl ov))), (q0, .inr (10, [.ref fe, .ref ho, .ref ce, .ref li, .ref sh, .ref rs, .ref se, .ref ch, .ref fo, .int foS, .int chS, .int faP, .int 0, .int (wI uX)])), (ce, .inr (11, [.ref e0, .int (nI 0), .int mo])), (fe, .inl (cB, 2060, .inl f))] := hD
    by_cases hbad : n = 0
    · rw [if_pos hbad] at hE
      subst hE
      refine vx_catch hown [⟨0, 10, 13, 13⟩] ⟨0, 10, 17, 19⟩ [] htab (fun z h => by rw [List.mem_singleton.mp h]; exact Or.inr ⟨by decide, _, htb _ q1_206, hTh.2.2.2.1⟩) (by decide) (by decide) (htb _ q2_44) (va_Nw.use rfl (hN.1 _ qn4_235)) hce hcv hcl ?_
      refine lv_astore (lv' := [(4, .ref q9), (0, .ref q0), (1, .int n), (2, .int tr), (3, .ref ou)]) hx hb d_TrustChainLaw_certificate_17 hl (by decide) rfl (fun ls hl => ?_)
      refine lv_iconst (v := 2) hx hb d_TrustChainLaw_certificate_19 (by decide) ?_
      exact vx_ret (x_wide 26 124 (Nat.le_of_ble_eq_true rfl) (Nat.le_of_ble_eq_true rfl) (W.iret (v := 2) hx hb hr (fun t ht hW => ⟨⟨_, uX, rfl, (if_pos hbad).symm, by rw [ht]; exact hP.sub [1, 2, 3, 0] rfl, va_K.moved hW.alike hK, hD.sub [1, 2, 3, 0] (by decide) rfl⟩, hS.F ht⟩) hS.2.2 d_TrustChainLaw_certificate_20))
    · rw [if_neg hbad] at hE
      subst hE
      refine vx_catch hown [] ⟨0, 10, 13, 13⟩ [⟨0, 10, 17, 19⟩] htab (fun z h => nomatch h) (by decide) (by decide) (htb _ q1_206) (va_Nw.use rfl (hN.1 _ qn1_213)) hce hcv hcl ?_
      refine lv_astore (lv' := [(4, .ref q9), (0, .ref q0), (1, .int n), (2, .int tr), (3, .ref ou)]) hx hb d_TrustChainLaw_certificate_13 hl (by decide) rfl (fun ls hl => ?_)
      refine lv_iconst (v := 1) hx hb d_TrustChainLaw_certificate_15 (by decide) ?_
      exact vx_ret (x_wide 26 124 (Nat.le_of_ble_eq_true rfl) (Nat.le_of_ble_eq_true rfl) (W.iret (v := 1) hx hb hr (fun t ht hW => ⟨⟨_, uX, rfl, (if_neg hbad).symm, by rw [ht]; exact hP.sub [1, 2, 3, 0] rfl, va_K.moved hW.alike hK, hD.sub [1, 2, 3, 0] (by decide) rfl⟩, hS.F ht⟩) hS.2.2 d_TrustChainLaw_certificate_16))
  · exact hw5.elim
def y_Trust_list : MethodName := ⟨"TrustChain", "list", "(I)I"⟩
abbrev b_Trust_list : ByteArray := prog_1_method_4_code
def w_Trust_list : List Cond := Cond.code y_Trust_list b_Trust_list 3 ((some FieldType.int)) :: tb
theorem d_Trust_list_0 : decode b_Trust_list 0 = .ok (.aload_n 0, 1) := by decide +kernel
theorem d_Trust_list_1 : decode b_Trust_list 1 = .ok (.iload_n 1, 1) := by decide +kernel
theorem d_Trust_list_2 : decode b_Trust_list 2 = .ok (.invokevirtual 85, 3) := by decide +kernel
theorem d_Trust_list_5 : decode b_Trust_list 5 = .ok (.ifCond .eq 15, 3) := by decide +kernel
theorem d_Trust_list_8 : decode b_Trust_list 8 = .ok (.aload_n 0, 1) := by decide +kernel
theorem d_Trust_list_9 : decode b_Trust_list 9 = .ok (.getfield 23, 3) := by decide +kernel
theorem d_Trust_list_12 : decode b_Trust_list 12 = .ok (.invokevirtual 89, 3) := by decide +kernel
theorem d_Trust_list_15 : decode b_Trust_list 15 = .ok (.bipush 8, 2) := by decide +kernel
theorem d_Trust_list_17 : decode b_Trust_list 17 = .ok (.if_icmp .lt 13, 3) := by decide +kernel
theorem d_Trust_list_20 : decode b_Trust_list 20 = .ok (.new 74, 3) := by decide +kernel
theorem d_Trust_list_23 : decode b_Trust_list 23 = .ok (.dup, 1) := by decide +kernel
theorem d_Trust_list_24 : decode b_Trust_list 24 = .ok (.ldc 93, 2) := by decide +kernel
theorem d_Trust_list_26 : decode b_Trust_list 26 = .ok (.invokespecial 78, 3) := by decide +kernel
theorem d_Trust_list_29 : decode b_Trust_list 29 = .ok (.athrow, 1) := by decide +kernel
theorem d_Trust_list_30 : decode b_Trust_list 30 = .ok (.new 146, 3) := by decide +kernel
theorem d_Trust_list_33 : decode b_Trust_list 33 = .ok (.dup, 1) := by decide +kernel
theorem d_Trust_list_34 : decode b_Trust_list 34 = .ok (.aload_n 0, 1) := by decide +kernel
theorem d_Trust_list_35 : decode b_Trust_list 35 = .ok (.iload_n 1, 1) := by decide +kernel
theorem d_Trust_list_36 : decode b_Trust_list 36 = .ok (.invokevirtual 97, 3) := by decide +kernel
theorem d_Trust_list_39 : decode b_Trust_list 39 = .ok (.invokespecial 148, 3) := by decide +kernel
theorem d_Trust_list_42 : decode b_Trust_list 42 = .ok (.astore_n 2, 1) := by decide +kernel
theorem d_Trust_list_43 : decode b_Trust_list 43 = .ok (.aload_n 2, 1) := by decide +kernel
theorem d_Trust_list_44 : decode b_Trust_list 44 = .ok (.invokevirtual 149, 3) := by decide +kernel
theorem d_Trust_list_47 : decode b_Trust_list 47 = .ok (.aload_n 0, 1) := by decide +kernel
theorem d_Trust_list_48 : decode b_Trust_list 48 = .ok (.aload_n 2, 1) := by decide +kernel
theorem d_Trust_list_49 : decode b_Trust_list 49 = .ok (.getfield 152, 3) := by decide +kernel
theorem d_Trust_list_52 : decode b_Trust_list 52 = .ok (.putfield 71, 3) := by decide +kernel
theorem d_Trust_list_55 : decode b_Trust_list 55 = .ok (.aload_n 0, 1) := by decide +kernel
theorem d_Trust_list_56 : decode b_Trust_list 56 = .ok (.getfield 71, 3) := by decide +kernel
theorem d_Trust_list_59 : decode b_Trust_list 59 = .ok (.ifCond .lt 13, 3) := by decide +kernel
theorem d_Trust_list_62 : decode b_Trust_list 62 = .ok (.new 110, 3) := by decide +kernel
theorem d_Trust_list_65 : decode b_Trust_list 65 = .ok (.dup, 1) := by decide +kernel
theorem d_Trust_list_66 : decode b_Trust_list 66 = .ok (.ldc 112, 2) := by decide +kernel
theorem d_Trust_list_68 : decode b_Trust_list 68 = .ok (.invokespecial 114, 3) := by decide +kernel
theorem d_Trust_list_71 : decode b_Trust_list 71 = .ok (.athrow, 1) := by decide +kernel
set_option maxHeartbeats 4000000 in
set_option maxRecDepth 100000 in
theorem c0_Trust_list (l : Launch) (hl0 : l.stackTraces = false) (dC : Nat → ClassId) (dI : Nat → Nat → Nat) (sb : sB) (q0 fe ho ce li sh rs se ch fo : Nat) (foS chS faP : Int32) (e1 : Nat) (mp : Int32) (cB cI : ClassId) (f : Nat → Int32) (n : Int32) (sz : Nat) : vx_Met l y_Trust_list w_Trust_list ({ frames := 6, cells := 13, slots := 70, locals := 146 }) (mx_P [.ref q0, .int n] (dC, dI) sb [(q0, .inr (10, [.ref fe, .ref ho, .ref ce, .ref li, .ref sh, .ref rs, .ref se, .ref ch, .ref fo, .int foS, .int chS, .int faP, .int 0, .int (wI none)])), (li, .inr (11, [.ref e1, .int (nI 0), .int mp])), (fe, .inl (cB, 2060, .inl f))] [(cB, .byte), (cI, .int)] sz) (va_Qi (fun r (u' : Unit) => False) (mu_B (dC, dI) [(cB, .byte), (cI, .int)] (va_A [(q0, .inr (10, [.ref fe, .ref ho, .ref ce, .ref li, .ref sh, .ref rs, .ref se, .ref ch, .ref fo, .int foS, .int chS, .int faP, .int 0, .int (wI none)])), (li, .inr (11, [.ref e1, .int (nI 0), .int mp])), (fe, .inl (cB, 2060, .inl f))] sz) (fun _ : Unit => [(q0, .inr (10, [.ref fe, .ref ho, .ref ce, .ref li, .ref sh, .ref rs, .ref se, .ref ch, .ref fo, .int foS, .int chS, .int faP, .int 0, .int (wI none)])), (li, .inr (11, [.ref e1, .int (nI 0), .int mp])), (fe, .inl (cB, 2060, .inl f))])) (va_A [(q0, .inr (10, [.ref fe, .ref ho, .ref ce, .ref li, .ref sh, .ref rs, .ref se, .ref ch, .ref fo, .int foS, .int chS, .int faP, .int 0, .int (wI none)])), (li, .inr (11, [.ref e1, .int (nI 0), .int mp])), (fe, .inl (cB, 2060, .inl f))] sz)) (mx_X (fun (E : String) (u' : Option Nat) => E = (if n = 0 then "java/lang/IllegalArgumentException" else "java/lang/IndexOutOfBoundsException") ∧ u' = (if n = 0 then some 0 else none)) (dC, dI) [(cB, .byte), (cI, .int)] (va_A [(q0, .inr (10, [.ref fe, .ref ho, .ref ce, .ref li, .ref sh, .ref rs, .ref se, .ref ch, .ref fo, .int foS, .int chS, .int faP, .int 0, .int (wI none)])), (li, .inr (11, [.ref e1, .int (nI 0), .int mp])), (fe, .inl (cB, 2060, .inl f))] sz) (fun u' : Option Nat => [(q0, .inr (10, [.ref fe, .ref ho, .ref ce, .ref li, .ref sh, .ref rs, .ref se, .ref ch, .ref fo, .int foS, .int chS, .int faP, .int 0, .int (wI u')])), (li, .inr (11, [.ref e1, .int (nI 0), .int mp])), (fe, .inl (cB, 2060, .inl f))])) 13 70 (va_A [(q0, .inr (10, [.ref fe, .ref ho, .ref ce, .ref li, .ref sh, .ref rs, .ref se, .ref ch, .ref fo, .int foS, .int chS, .int faP, .int 0, .int (wI none)])), (li, .inr (11, [.ref e1, .int (nI 0), .int mp])), (fe, .inl (cB, 2060, .inl f))] sz) := by
  refine vx_ofW (cc := b_Trust_list) (maxL := 3) (ret := (some FieldType.int)) (by decide) rfl ?_
  intro p e s m args below meth c s₁ B hml hnoh hv
  obtain ⟨rfl, hsz, hB0, hP, hK, hD0, hN, hT0, hTh⟩ := hv
  have hx := B.exec
  have hb := B.bytes
  have hr := B.returns
  have hts := atoms_spec (ws := w_Trust_list) B.pre
  have tbin : ∀ w ∈ tb, w ∈ w_Trust_list := fun w h => List.mem_cons_of_mem _ h
  have htb : ∀ w ∈ tb, w.before _ s = true := fun w h => hts w (tbin w h)
  have hown : s.vm.findClass "TrustChain" = some m.cls := findClass_of_methodNamed B.named
  have hlocks := B.notSynchronized
  subst hsz
  have hD := hD0.self (sz := s.heap.size)
  generalize hAe : va_A [(q0, .inr (10, [.ref fe, .ref ho, .ref ce, .ref li, .ref sh, .ref rs, .ref se, .ref ch, .ref fo, .int foS, .int chS, .int faP, .int 0, .int (wI none)])), (li, .inr (11, [.ref e1, .int (nI 0), .int mp])), (fe, .inl (cB, 2060, .inl f))] s.heap.size = A at hD ⊢
  have hA : ∀ q : Nat, s.heap.size ≤ q → A q := fun q h => by rw [← hAe]; exact Or.inr h
  have hAs : ∀ q : Nat, A q → sb.1 ≤ q := fun q h => by
    rw [← hAe] at h
    rcases h with ⟨k, e, h⟩ | h
    · exact hD0.2 k _ h
    · exact Nat.le_trans hB0 h
  have hS : va_S A s.heap s.heap [] := va_S.rf
  have hcs : 13 ≤ (headSpec w_Trust_list ({ frames := 6, cells := 13, slots := 70, locals := 146 })).room.cells ∧ 70 ≤ (headSpec w_Trust_list ({ frames := 6, cells := 13, slots := 70, locals := 146 })).room.slots := ⟨Nat.le_refl _, Nat.le_refl _⟩
  have hP : va_P (dC, dI) classes [(q0, .inr (10, [.ref fe, .ref ho, .ref ce, .ref li, .ref sh, .ref rs, .ref se, .ref ch, .ref fo, .int foS, .int chS, .int faP, .int 0, .int (wI none)])), (li, .inr (11, [.ref e1, .int (nI 0), .int mp])), (fe, .inl (cB, 2060, .inl f))] s.heap := hP
  have hl := lv_entry ([.ref q0, .int n]) (n := 3) (Nat.le_of_ble_eq_true rfl)
  rw [lg_entry_eq]
  generalize (lg_sl ([.ref q0, .int n]) ++ List.replicate (3 - (lg_sl ([.ref q0, .int n])).length) Slot.unset).toArray = ls at hl ⊢
  have hl : lv_has ls 3 [(0, .ref q0), (1, .int n)] := hl
  rcases Classical.em (n = 0) with rfl | hz
  · skip
    refine lv_aload_n hx hb d_Trust_list_0 rfl (lv_at hl 0 rfl) ?_
    refine lv_iload_n hx hb d_Trust_list_1 rfl (lv_at hl 1 rfl) ?_
    refine vp_callSi (pu_callV (As := [.int 0]) (rest := []) ⟨hx, hb, hml, hown, hts⟩ tbin (c_Trust_isFed l dC dI sb q0 fe ho ce li sh rs se ch fo foS chS faP 0 (wI none) 0) q2_49 q2_51 qp_2 q1_1 q2_52 (n := 1) (by decide +kernel) rfl ⟨rfl, rfl⟩ ⟨Nat.le_of_ble_eq_true rfl, Nat.le_of_ble_eq_true rfl⟩ ⟨Nat.le_of_ble_eq_true rfl, Nat.le_of_ble_eq_true rfl⟩ hN (hT0.keep hS hAs) hK hP [0] rfl [] rfl 0 10 rfl rfl rfl hl.1 rfl (Nat.le_of_ble_eq_true rfl) d_Trust_list_2) (fun r2 hr2 => ?_)
    refine lv_if_eq (tgt := 20) hx hb d_Trust_list_5 (by decide) (fun c5 => ?_) (fun c5 => ?_)
    · exact absurd (bz_0 hr2 (by first | exact c5 | exact Classical.not_not.mp c5)) (fun q => q ⟨by decide, by decide, by decide⟩)
    refine lv_aload_n hx hb d_Trust_list_8 rfl (lv_at hl 0 rfl) ?_
    refine va_get (v := .ref li) hx hb htb i_Trust hown hK hP 0 rfl rfl 3 (by decide) (htb _ q1_159) (fun _ h9 => h9) rfl d_Trust_list_9 ?_
    refine vp_callSi (pu_callV (As := []) (rest := []) ⟨hx, hb, hml, hown, hts⟩ tbin (c_AL_size l dC dI sb li e1 0 mp) q2_53 q2_54 q2_55 q1_4 q2_56 (n := 0) (by decide +kernel) rfl ⟨rfl, rfl⟩ ⟨Nat.le_of_ble_eq_true rfl, Nat.le_of_ble_eq_true rfl⟩ ⟨Nat.le_of_ble_eq_true rfl, Nat.le_of_ble_eq_true rfl⟩ hN (hT0.keep hS hAs) hK hP [1] rfl [] rfl 1 11 rfl rfl rfl hl.1 rfl (Nat.le_of_ble_eq_true rfl) d_Trust_list_12) (fun r12 hr12 => ?_)
    subst hr12
    refine lv_bipush (v := 8) hx hb d_Trust_list_15 (by decide) ?_
    refine lv_icmp_lt (tgt := 30) hx hb d_Trust_list_17 (by decide) (fun c17 => ?_) (fun c17 => ?_)
    rotate_left
    · exact absurd c17 (by decide)
    refine va_new (ci := 5) (fs := [.null, .int 0, .null, .int 0, .int 0, .int 0, .int 0, .int 0, .int 0, .null]) hx hb htb i_ListReader t_ListReader t_ListReader_ok hown (htb _ q5_54) (htb _ q5_55) (htb _ q1_31) hK hP hD hS hA rfl (fun j hj => by rcases (show j = 0 ∨ j = 1 ∨ j = 2 ∨ j = 3 ∨ j = 4 ∨ j = 5 ∨ j = 6 ∨ j = 7 ∨ j = 8 ∨ j = 9 by omega) with rfl | rfl | rfl | rfl | rfl | rfl | rfl | rfl | rfl | rfl <;> rfl) (Nat.le_of_ble_eq_true rfl) (Nat.le_of_ble_eq_true rfl) d_Trust_list_30 (fun q30 H30 hP hD hS => ?_)
    have hP : va_P (dC, dI) classes [(q0, .inr (10, [.ref fe, .ref ho, .ref ce, .ref li, .ref sh, .ref rs, .ref se, .ref ch, .ref fo, .int foS, .int chS, .int faP, .int 0, .int (wI none)])), (li, .inr (11, [.ref e1, .int (nI 0), .int mp])), (fe, .inl (cB, 2060, .inl f)), (q30, .inr (5, [.null, .int 0, .null, .int 0, .int 0, .int 0, .int 0, .int 0, .int 0, .null]))] H30 := hP
    have hD : va_D A [(q0, .inr (10, [.ref fe, .ref ho, .ref ce, .ref li, .ref sh, .ref rs, .ref se, .ref ch, .ref fo, .int foS, .int chS, .int faP, .int 0, .int (wI none)])), (li, .inr (11, [.ref e1, .int (nI 0), .int mp])), (fe, .inl (cB, 2060, .inl f)), (q30, .inr (5, [.null, .int 0, .null, .int 0, .int 0, .int 0, .int 0, .int 0, .int 0, .null]))] := hD
    refine lv_dup hx hb d_Trust_list_33 rfl ?_
    refine lv_aload_n hx hb d_Trust_list_34 rfl (lv_at hl 0 rfl) ?_
    refine lv_iload_n hx hb d_Trust_list_35 rfl (lv_at hl 1 rfl) ?_
    have hFc := va_free (wc := [(q0, .inr (10, [.ref fe, .ref ho, .ref ce, .ref li, .ref sh, .ref rs, .ref se, .ref ch, .ref fo, .int foS, .int chS, .int faP, .int 0, .int (wI none)])), (fe, .inl (cB, 2060, .inl f))]) hD hS hA [0, 2] rfl
    refine va_callr (mu_runV (As := [.int 0]) (rest := [.ref q30, .ref q30]) ⟨hx, hb, hml, hown, hts⟩ tbin (e_takeText l dC dI sb q0 fe ho ce li sh rs se ch fo foS chS faP 0 (wI none) cB f H30.size) q2_60 q2_62 qp_3 q1_1 q2_63 (n := 1) (by decide +kernel) rfl ⟨rfl, rfl⟩ ⟨Nat.le_of_ble_eq_true rfl, Nat.le_of_ble_eq_true rfl⟩ ⟨Nat.le_of_ble_eq_true rfl, Nat.le_of_ble_eq_true rfl⟩ hN (hT0.keep hS hAs) hAs (Nat.le_trans hB0 hS.1) hK hP hD [0, 2] (by decide) rfl [0] rfl 0 10 rfl rfl rfl hl.1 rfl (Nat.le_of_ble_eq_true rfl) d_Trust_list_36) hS (fun q _ h => hFc q h) hFc (fun u36 q36 tS H36 locs ht hvm hw36 hB hz1 hk1 hS => ?_)
    skip
    obtain ⟨hP1, hK1, hD1⟩ := hB
    rw [ht] at hP1
    obtain ⟨hP, hD⟩ := va_join (wr := [(li, .inr (11, [.ref e1, .int (nI 0), .int mp])), (q30, .inr (5, [.null, .int 0, .null, .int 0, .int 0, .int 0, .int 0, .int 0, .int 0, .null]))]) (w1 := [(q0, .inr (10, [.ref fe, .ref ho, .ref ce, .ref li, .ref sh, .ref rs, .ref se, .ref ch, .ref fo, .int foS, .int chS, .int faP, .int 0, .int (wI none)])), (fe, .inl (cB, 2060, .inl f)), (q36, .inl (cB, 0, .inl (tx eU)))]) hP hD [0, 2] [1, 3] rfl rfl (by decide) (by decide) hk1 hFc hP1 hD1
    have hP : va_P (dC, dI) classes [(li, .inr (11, [.ref e1, .int (nI 0), .int mp])), (q30, .inr (5, [.null, .int 0, .null, .int 0, .int 0, .int 0, .int 0, .int 0, .int 0, .null])), (q0, .inr (10, [.ref fe, .ref ho, .ref ce, .ref li, .ref sh, .ref rs, .ref se, .ref ch, .ref fo, .int foS, .int chS, .int faP, .int 0, .int (wI none)])), (fe, .inl (cB, 2060, .inl f)), (q36, .inl (cB, 0, .inl (tx eU)))] H36 := hP
    have hD : va_D A [(li, .inr (11, [.ref e1, .int (nI 0), .int mp])), (q30, .inr (5, [.null, .int 0, .null, .int 0, .int 0, .int 0, .int 0, .int 0, .int 0, .null])), (q0, .inr (10, [.ref fe, .ref ho, .ref ce, .ref li, .ref sh, .ref rs, .ref se, .ref ch, .ref fo, .int foS, .int chS, .int faP, .int 0, .int (wI none)])), (fe, .inl (cB, 2060, .inl f)), (q36, .inl (cB, 0, .inl (tx eU)))] := hD
    have hFc := va_free (wc := [(q30, .inr (5, [.null, .int 0, .null, .int 0, .int 0, .int 0, .int 0, .int 0, .int 0, .null]))]) hD hS hA [1] rfl
    refine va_callv (mu_runI (As := [.ref q36]) (rest := [.ref q30]) ⟨hx, hb, hml, hown, hts⟩ tbin (c_LR_init l dC dI sb q30 q36 cI H36.size) q5_56 q5_57 q1_31 q5_58 rfl (n := 1) (by decide +kernel) rfl ⟨rfl, rfl⟩ ⟨Nat.le_of_ble_eq_true rfl, Nat.le_of_ble_eq_true rfl⟩ ⟨Nat.le_of_ble_eq_true rfl, Nat.le_of_ble_eq_true rfl⟩ hN (hT0.keep hS hAs) hAs (Nat.le_trans hB0 hS.1) hK hP hD [1] (by decide) rfl [1] rfl hl.1 rfl (Nat.le_of_ble_eq_true rfl) d_Trust_list_39) hS (fun q _ h => hFc q h) hFc (fun u39 tS H39 locs ht hvm hw39 hB hz1 hk1 hS => ?_)
    obtain ⟨p39_0, p39_1, p39_2, p39_3, p39_4, p39_5⟩ := u39
    obtain ⟨hP1, hK1, hD1⟩ := hB
    rw [ht] at hP1
    obtain ⟨hP, hD⟩ := va_join (wr := [(li, .inr (11, [.ref e1, .int (nI 0), .int mp])), (q0, .inr (10, [.ref fe, .ref ho, .ref ce, .ref li, .ref sh, .ref rs, .ref se, .ref ch, .ref fo, .int foS, .int chS, .int faP, .int 0, .int (wI none)])), (fe, .inl (cB, 2060, .inl f)), (q36, .inl (cB, 0, .inl (tx eU)))]) (w1 := [(q30, .inr (5, [.ref p39_2, .int 0, .ref q36, .int 0, .int 0, .int (-1), .int 0, .int 0, .int 0, .ref p39_0])), (p39_0, .inr (11, [.ref (sb.2 5), .int 0, .int 0])), (p39_1, .inr (0, [.ref q36, .int 0, .int 0])), (p39_2, .inr (2, [.ref p39_3, .ref p39_4, .ref p39_5, .ref p39_1, .ref p39_1, .ref p39_1, .long 0, .long 0, .int 0])), (p39_3, .inl (cI, 8, .inl (fun _ => 0))), (p39_4, .inl (cI, 16, .inl (fun _ => 0))), (p39_5, .inr (11, [.ref (sb.2 5), .int 0, .int 0]))]) hP hD [1] [0, 2, 3, 4] rfl rfl (by decide) (by decide) hk1 hFc hP1 hD1
    have hP : va_P (dC, dI) classes [(li, .inr (11, [.ref e1, .int (nI 0), .int mp])), (q0, .inr (10, [.ref fe, .ref ho, .ref ce, .ref li, .ref sh, .ref rs, .ref se, .ref ch, .ref fo, .int foS, .int chS, .int faP, .int 0, .int (wI none)])), (fe, .inl (cB, 2060, .inl f)), (q36, .inl (cB, 0, .inl (tx eU))), (q30, .inr (5, [.ref p39_2, .int 0, .ref q36, .int 0, .int 0, .int (-1), .int 0, .int 0, .int 0, .ref p39_0])), (p39_0, .inr (11, [.ref (sb.2 5), .int 0, .int 0])), (p39_1, .inr (0, [.ref q36, .int 0, .int 0])), (p39_2, .inr (2, [.ref p39_3, .ref p39_4, .ref p39_5, .ref p39_1, .ref p39_1, .ref p39_1, .long 0, .long 0, .int 0])), (p39_3, .inl (cI, 8, .inl (fun _ => 0))), (p39_4, .inl (cI, 16, .inl (fun _ => 0))), (p39_5, .inr (11, [.ref (sb.2 5), .int 0, .int 0]))] H39 := hP
    have hD : va_D A [(li, .inr (11, [.ref e1, .int (nI 0), .int mp])), (q0, .inr (10, [.ref fe, .ref ho, .ref ce, .ref li, .ref sh, .ref rs, .ref se, .ref ch, .ref fo, .int foS, .int chS, .int faP, .int 0, .int (wI none)])), (fe, .inl (cB, 2060, .inl f)), (q36, .inl (cB, 0, .inl (tx eU))), (q30, .inr (5, [.ref p39_2, .int 0, .ref q36, .int 0, .int 0, .int (-1), .int 0, .int 0, .int 0, .ref p39_0])), (p39_0, .inr (11, [.ref (sb.2 5), .int 0, .int 0])), (p39_1, .inr (0, [.ref q36, .int 0, .int 0])), (p39_2, .inr (2, [.ref p39_3, .ref p39_4, .ref p39_5, .ref p39_1, .ref p39_1, .ref p39_1, .long 0, .long 0, .int 0])), (p39_3, .inl (cI, 8, .inl (fun _ => 0))), (p39_4, .inl (cI, 16, .inl (fun _ => 0))), (p39_5, .inr (11, [.ref (sb.2 5), .int 0, .int 0]))] := hD
    refine lv_astore_n (lv' := [(2, .ref q30), (0, .ref q0), (1, .int 0)]) hx hb d_Trust_list_42 rfl hl (by decide) rfl (fun ls hl => ?_)
    refine lv_aload_n hx hb d_Trust_list_43 rfl (lv_at hl 0 rfl) ?_
    have hFc := va_free (wc := [(q30, .inr (5, [.ref p39_2, .int 0, .ref q36, .int 0, .int 0, .int (-1), .int 0, .int 0, .int 0, .ref p39_0])), (q36, .inl (cB, 0, .inl (tx eU))), (p39_2, .inr (2, [.ref p39_3, .ref p39_4, .ref p39_5, .ref p39_1, .ref p39_1, .ref p39_1, .long 0, .long 0, .int 0]))]) hD hS hA [4, 3, 7] rfl
    refine va_callv (mu_runV (As := []) (rest := []) ⟨hx, hb, hml, hown, hts⟩ tbin (eL_readList l dC dI sb q30 p39_2 q36 p39_0 0 0 0 0 cB p39_3 p39_4 p39_5 p39_1 p39_1 p39_1 0 0 0 H39.size) q5_91 q5_92 q5_93 q1_31 q5_94 (n := 0) (by decide +kernel) rfl ⟨rfl, rfl⟩ ⟨Nat.le_of_ble_eq_true rfl, Nat.le_of_ble_eq_true rfl⟩ ⟨Nat.le_of_ble_eq_true rfl, Nat.le_of_ble_eq_true rfl⟩ hN (hT0.keep hS hAs) hAs (Nat.le_trans hB0 hS.1) hK hP hD [4, 3, 7] (by decide) rfl [0] rfl 4 5 rfl rfl rfl hl.1 rfl (Nat.le_of_ble_eq_true rfl) d_Trust_list_44) hS (fun q _ h => hFc q h) hFc (fun u44 tS H44 locs ht hvm hw44 hB hz1 hk1 hS => ?_)
    obtain ⟨a44_0, a44_1, a44_2, a44_3, a44_4, a44_5⟩ := u44
    obtain ⟨hP1, hK1, hD1⟩ := hB
    rw [ht] at hP1
    obtain ⟨hP, hD⟩ := va_join (wr := [(li, .inr (11, [.ref e1, .int (nI 0), .int mp])), (q0, .inr (10, [.ref fe, .ref ho, .ref ce, .ref li, .ref sh, .ref rs, .ref se, .ref ch, .ref fo, .int foS, .int chS, .int faP, .int 0, .int (wI none)])), (fe, .inl (cB, 2060, .inl f)), (p39_0, .inr (11, [.ref (sb.2 5), .int 0, .int 0])), (p39_1, .inr (0, [.ref q36, .int 0, .int 0])), (p39_3, .inl (cI, 8, .inl (fun _ => 0))), (p39_4, .inl (cI, 16, .inl (fun _ => 0))), (p39_5, .inr (11, [.ref (sb.2 5), .int 0, .int 0]))]) (w1 := [(q30, .inr (5, [.ref p39_2, .int a44_0, .ref q36, .int (nI 0), .int (nI 0), .int (wI (some 0)), .int 0, .int 0, .int 0, .ref p39_0])), (q36, .inl (cB, 0, .inl (tx eU))), (p39_2, .inr (2, [.ref p39_3, .ref p39_4, .ref p39_5, .ref a44_1, .ref a44_2, .ref a44_3, .long a44_4, .long a44_5, .int 0]))]) hP hD [4, 3, 7] [0, 1, 2, 5, 6, 8, 9, 10] rfl rfl (by decide) (by decide) hk1 hFc hP1 hD1
    have hP : va_P (dC, dI) classes [(li, .inr (11, [.ref e1, .int (nI 0), .int mp])), (q0, .inr (10, [.ref fe, .ref ho, .ref ce, .ref li, .ref sh, .ref rs, .ref se, .ref ch, .ref fo, .int foS, .int chS, .int faP, .int 0, .int (wI none)])), (fe, .inl (cB, 2060, .inl f)), (p39_0, .inr (11, [.ref (sb.2 5), .int 0, .int 0])), (p39_1, .inr (0, [.ref q36, .int 0, .int 0])), (p39_3, .inl (cI, 8, .inl (fun _ => 0))), (p39_4, .inl (cI, 16, .inl (fun _ => 0))), (p39_5, .inr (11, [.ref (sb.2 5), .int 0, .int 0])), (q30, .inr (5, [.ref p39_2, .int a44_0, .ref q36, .int (nI 0), .int (nI 0), .int (wI (some 0)), .int 0, .int 0, .int 0, .ref p39_0])), (q36, .inl (cB, 0, .inl (tx eU))), (p39_2, .inr (2, [.ref p39_3, .ref p39_4, .ref p39_5, .ref a44_1, .ref a44_2, .ref a44_3, .long a44_4, .long a44_5, .int 0]))] H44 := hP
    have hD : va_D A [(li, .inr (11, [.ref e1, .int (nI 0), .int mp])), (q0, .inr (10, [.ref fe, .ref ho, .ref ce, .ref li, .ref sh, .ref rs, .ref se, .ref ch, .ref fo, .int foS, .int chS, .int faP, .int 0, .int (wI none)])), (fe, .inl (cB, 2060, .inl f)), (p39_0, .inr (11, [.ref (sb.2 5), .int 0, .int 0])), (p39_1, .inr (0, [.ref q36, .int 0, .int 0])), (p39_3, .inl (cI, 8, .inl (fun _ => 0))), (p39_4, .inl (cI, 16, .inl (fun _ => 0))), (p39_5, .inr (11, [.ref (sb.2 5), .int 0, .int 0])), (q30, .inr (5, [.ref p39_2, .int a44_0, .ref q36, .int (nI 0), .int (nI 0), .int (wI (some 0)), .int 0, .int 0, .int 0, .ref p39_0])), (q36, .inl (cB, 0, .inl (tx eU))), (p39_2, .inr (2, [.ref p39_3, .ref p39_4, .ref p39_5, .ref a44_1, .ref a44_2, .ref a44_3, .long a44_4, .long a44_5, .int 0]))] := hD
    refine lv_aload_n hx hb d_Trust_list_47 rfl (lv_at hl 1 rfl) ?_
    refine lv_aload_n hx hb d_Trust_list_48 rfl (lv_at hl 0 rfl) ?_
    refine va_get (v := .int (wI (some 0))) hx hb htb i_ListReader hown hK hP 8 rfl rfl 5 (by decide) (htb _ q3_71) (fun x9 h9 => u_same (htb _ q3_72) x9 h9) rfl d_Trust_list_49 ?_
    refine va_put (v := .int (wI (some 0))) (ty := .int) hx hb htb i_Trust t_Trust t_Trust_ok n_Trust hown hK hP hD hS 1 rfl rfl 13 (by decide) (htb _ q1_169) (fun _ h9 => h9) rfl (by decide +kernel) rfl rfl (Nat.le_of_ble_eq_true rfl) d_Trust_list_52 (fun H52 locs hP hD hS => ?_)
    have hP : va_P (dC, dI) classes [(li, .inr (11, [.ref e1, .int (nI 0), .int mp])), (q0, .inr (10, [.ref fe, .ref ho, .ref ce, .ref li, .ref sh, .ref rs, .ref se, .ref ch, .ref fo, .int foS, .int chS, .int faP, .int 0, .int (wI (some 0))])), (fe, .inl (cB, 2060, .inl f)), (p39_0, .inr (11, [.ref (sb.2 5), .int 0, .int 0])), (p39_1, .inr (0, [.ref q36, .int 0, .int 0])), (p39_3, .inl (cI, 8, .inl (fun _ => 0))), (p39_4, .inl (cI, 16, .inl (fun _ => 0))), (p39_5, .inr (11, [.ref (sb.2 5), .int 0, .int 0])), (q30, .inr (5, [.ref p39_2, .int a44_0, .ref q36, .int (nI 0), .int (nI 0), .int (wI (some 0)), .int 0, .int 0, .int 0, .ref p39_0])), (q36, .inl (cB, 0, .inl (tx eU))), (p39_2, .inr (2, [.ref p39_3, .ref p39_4, .ref p39_5, .ref a44_1, .ref a44_2, .ref a44_3, .long a44_4, .long a44_5, .int 0]))] H52 := hP
    have hD : va_D A [(li, .inr (11, [.ref e1, .int (nI 0), .int mp])), (q0, .inr (10, [.ref fe, .ref ho, .ref ce, .ref li, .ref sh, .ref rs, .ref se, .ref ch, .ref fo, .int foS, .int chS, .int faP, .int 0, .int (wI (some 0))])), (fe, .inl (cB, 2060, .inl f)), (p39_0, .inr (11, [.ref (sb.2 5), .int 0, .int 0])), (p39_1, .inr (0, [.ref q36, .int 0, .int 0])), (p39_3, .inl (cI, 8, .inl (fun _ => 0))), (p39_4, .inl (cI, 16, .inl (fun _ => 0))), (p39_5, .inr (11, [.ref (sb.2 5), .int 0, .int 0])), (q30, .inr (5, [.ref p39_2, .int a44_0, .ref q36, .int (nI 0), .int (nI 0), .int (wI (some 0)), .int 0, .int 0, .int 0, .ref p39_0])), (q36, .inl (cB, 0, .inl (tx eU))), (p39_2, .inr (2, [.ref p39_3, .ref p39_4, .ref p39_5, .ref a44_1, .ref a44_2, .ref a44_3, .long a44_4, .long a44_5, .int 0]))] := hD
    refine lv_aload_n hx hb d_Trust_list_55 rfl (lv_at hl 1 rfl) ?_
    refine va_get (v := .int (wI (some 0))) hx hb htb i_Trust hown hK hP 1 rfl rfl 13 (by decide) (htb _ q1_169) (fun _ h9 => h9) rfl d_Trust_list_56 ?_
    refine lv_if_lt (tgt := 72) hx hb d_Trust_list_59 (by decide) (fun c59 => ?_) (fun c59 => ?_)
    · exact absurd c59 (by decide)
    obtain ⟨sa, hsa⟩ := hTh.2.2.1 (112, "WRONG") (by decide)
    exact vx_throwS (own := "TrustChain") (cls := "java/lang/IllegalArgumentException") (text := "WRONG") (names := xUp) (ik := 110) (is := 112) (ic := 114) (sa := sa) (A := A) hx hb hl0 hown (by decide) (by decide) (htb _ q4_233) (htb _ q1_27) hsa (x_hat x_ot114 x_gd114 x_nw114 htb hN) x_ot114 (hTh.1.narrow hAs) (hTh.2.1.narrow hAs) hS (hl.1.trans hml.symm) d_Trust_list_62 d_Trust_list_65 d_Trust_list_66 d_Trust_list_68 d_Trust_list_71 (fun x h => (hnoh x h).elim) (Nat.le_of_ble_eq_true rfl) (Nat.le_of_ble_eq_true rfl) (Nat.le_of_ble_eq_true rfl) (Nat.le_of_ble_eq_true rfl) hlocks (x_end (some 0) ⟨(if_pos rfl).symm, (if_pos rfl).symm⟩ (hP.sub [1, 0, 2] rfl) hK (hD.sub [1, 0, 2] (by decide) rfl) hS) hS.2.2 (Nat.le_of_ble_eq_true rfl) (Nat.le_of_ble_eq_true rfl)
  · skip
    refine lv_aload_n hx hb d_Trust_list_0 rfl (lv_at hl 0 rfl) ?_
    refine lv_iload_n hx hb d_Trust_list_1 rfl (lv_at hl 1 rfl) ?_
    refine vp_callSi (pu_callV (As := [.int n]) (rest := []) ⟨hx, hb, hml, hown, hts⟩ tbin (c_Trust_isFed l dC dI sb q0 fe ho ce li sh rs se ch fo foS chS faP 0 (wI none) n) q2_49 q2_51 qp_2 q1_1 q2_52 (n := 1) (by decide +kernel) rfl ⟨rfl, rfl⟩ ⟨Nat.le_of_ble_eq_true rfl, Nat.le_of_ble_eq_true rfl⟩ ⟨Nat.le_of_ble_eq_true rfl, Nat.le_of_ble_eq_true rfl⟩ hN (hT0.keep hS hAs) hK hP [0] rfl [] rfl 0 10 rfl rfl rfl hl.1 rfl (Nat.le_of_ble_eq_true rfl) d_Trust_list_2) (fun r2 hr2 => ?_)
    refine lv_if_eq (tgt := 20) hx hb d_Trust_list_5 (by decide) (fun c5 => ?_) (fun c5 => ?_)
    rotate_left
    · exact absurd (n_fz (bz_1 hr2 c5)) hz
    obtain ⟨sa, hsa⟩ := hTh.2.2.1 (93, "no such text, or no room") (by decide)
    exact vx_throwS (own := "TrustChain") (cls := "java/lang/IndexOutOfBoundsException") (text := "no such text, or no room") (names := xUp) (ik := 74) (is := 93) (ic := 78) (sa := sa) (A := A) hx hb hl0 hown (by decide) (by decide) (htb _ q1_211) (htb _ q1_14) hsa (x_hat x_ot78 x_gd78 x_nw78 htb hN) x_ot78 (hTh.1.narrow hAs) (hTh.2.1.narrow hAs) hS (hl.1.trans hml.symm) d_Trust_list_20 d_Trust_list_23 d_Trust_list_24 d_Trust_list_26 d_Trust_list_29 (fun x h => (hnoh x h).elim) (Nat.le_of_ble_eq_true rfl) (Nat.le_of_ble_eq_true rfl) (Nat.le_of_ble_eq_true rfl) (Nat.le_of_ble_eq_true rfl) hlocks (x_end none ⟨(if_neg hz).symm, (if_neg hz).symm⟩ hP hK hD hS) hS.2.2 (Nat.le_of_ble_eq_true rfl) (Nat.le_of_ble_eq_true rfl)
def y_TrustChainLaw_list : MethodName := ⟨"TrustChainLaw", "list", "(LTrustChain;I[J)I"⟩
abbrev b_TrustChainLaw_list : ByteArray := method_5_code
def w_TrustChainLaw_list : List Cond := Cond.codeWith y_TrustChainLaw_list b_TrustChainLaw_list 4 (some FieldType.int) [(0, 9, 12, 13), (0, 9, 15, 19)] :: tb
theorem d_TrustChainLaw_list_0 : decode b_TrustChainLaw_list 0 = .ok (.aload_n 2, 1) := by decide +kernel
theorem d_TrustChainLaw_list_1 : decode b_TrustChainLaw_list 1 = .ok (.iconst 0, 1) := by decide +kernel
theorem d_TrustChainLaw_list_2 : decode b_TrustChainLaw_list 2 = .ok (.aload_n 0, 1) := by decide +kernel
theorem d_TrustChainLaw_list_3 : decode b_TrustChainLaw_list 3 = .ok (.iload_n 1, 1) := by decide +kernel
theorem d_TrustChainLaw_list_4 : decode b_TrustChainLaw_list 4 = .ok (.invokevirtual 21, 3) := by decide +kernel
theorem d_TrustChainLaw_list_7 : decode b_TrustChainLaw_list 7 = .ok (.i2l, 1) := by decide +kernel
theorem d_TrustChainLaw_list_8 : decode b_TrustChainLaw_list 8 = .ok (.lastore, 1) := by decide +kernel
theorem d_TrustChainLaw_list_9 : decode b_TrustChainLaw_list 9 = .ok (.goto 9, 3) := by decide +kernel
theorem d_TrustChainLaw_list_12 : decode b_TrustChainLaw_list 12 = .ok (.astore_n 3, 1) := by decide +kernel
theorem d_TrustChainLaw_list_13 : decode b_TrustChainLaw_list 13 = .ok (.iconst 1, 1) := by decide +kernel
theorem d_TrustChainLaw_list_14 : decode b_TrustChainLaw_list 14 = .ok (.ireturn, 1) := by decide +kernel
theorem d_TrustChainLaw_list_15 : decode b_TrustChainLaw_list 15 = .ok (.astore_n 3, 1) := by decide +kernel
theorem d_TrustChainLaw_list_16 : decode b_TrustChainLaw_list 16 = .ok (.iconst 2, 1) := by decide +kernel
theorem d_TrustChainLaw_list_17 : decode b_TrustChainLaw_list 17 = .ok (.ireturn, 1) := by decide +kernel
theorem d_TrustChainLaw_list_18 : decode b_TrustChainLaw_list 18 = .ok (.iconst 0, 1) := by decide +kernel
theorem d_TrustChainLaw_list_19 : decode b_TrustChainLaw_list 19 = .ok (.ireturn, 1) := by decide +kernel
set_option maxHeartbeats 4000000 in
set_option maxRecDepth 100000 in
theorem c0_Law_list (l : Launch) (hl0 : l.stackTraces = false) (dC : Nat → ClassId) (dI : Nat → Nat → Nat) (sb : sB) (q0 fe ho ce li sh rs se ch fo : Nat) (foS chS faP : Int32) (e1 : Nat) (mp : Int32) (cB cI : ClassId) (f : Nat → Int32) (n : Int32) (ou : Nat) (cJ : ClassId) (ov : Nat → Int64) (sz : Nat) : vx_Met l y_TrustChainLaw_list w_TrustChainLaw_list ({ frames := 7, cells := 13, slots := 70, locals := 168 }) (mx_P [.ref q0, .int n, .ref ou] (dC, dI) sb [(q0, .inr (10, [.ref fe, .ref ho, .ref ce, .ref li, .ref sh, .ref rs, .ref se, .ref ch, .ref fo, .int foS, .int chS, .int faP, .int 0, .int (wI none)])), (li, .inr (11, [.ref e1, .int (nI 0), .int mp])), (fe, .inl (cB, 2060, .inl f)), (ou, .inl (cJ, 1, .inr (.inl ov)))] [(cB, .byte), (cI, .int), (cJ, .long)] sz) (va_Qi (fun r (u : Option Nat) => r = (if n = 0 then 2 else 1)) (mu_B (dC, dI) [(cB, .byte), (cI, .int), (cJ, .long)] (va_A [(q0, .inr (10, [.ref fe, .ref ho, .ref ce, .ref li, .ref sh, .ref rs, .ref se, .ref ch, .ref fo, .int foS, .int chS, .int faP, .int 0, .int (wI none)])), (li, .inr (11, [.ref e1, .int (nI 0), .int mp])), (fe, .inl (cB, 2060, .inl f)), (ou, .inl (cJ, 1, .inr (.inl ov)))] sz) (fun u : Option Nat => [(q0, .inr (10, [.ref fe, .ref ho, .ref ce, .ref li, .ref sh, .ref rs, .ref se, .ref ch, .ref fo, .int foS, .int chS, .int faP, .int 0, .int (wI u)])), (li, .inr (11, [.ref e1, .int (nI 0), .int mp])), (fe, .inl (cB, 2060, .inl f)), (ou, .inl (cJ, 1, .inr (.inl ov)))])) (va_A [(q0, .inr (10, [.ref fe, .ref ho, .ref ce, .ref li, .ref sh, .ref rs, .ref se, .ref ch, .ref fo, .int foS, .int chS, .int faP, .int 0, .int (wI none)])), (li, .inr (11, [.ref e1, .int (nI 0), .int mp])), (fe, .inl (cB, 2060, .inl f)), (ou, .inl (cJ, 1, .inr (.inl ov)))] sz)) (mx_X (fun (E : String) (u : Unit) => False) (dC, dI) [(cB, .byte), (cI, .int), (cJ, .long)] (va_A [(q0, .inr (10, [.ref fe, .ref ho, .ref ce, .ref li, .ref sh, .ref rs, .ref se, .ref ch, .ref fo, .int foS, .int chS, .int faP, .int 0, .int (wI none)])), (li, .inr (11, [.ref e1, .int (nI 0), .int mp])), (fe, .inl (cB, 2060, .inl f)), (ou, .inl (cJ, 1, .inr (.inl ov)))] sz) (fun _ : Unit => [])) 13 70 (va_A [(q0, .inr (10, [.ref fe, .ref ho, .ref ce, .ref li, .ref sh, .ref rs, .ref se, .ref ch, .ref fo, .int foS, .int chS, .int faP, .int 0, .int (wI none)])), (li, .inr (11, [.ref e1, .int (nI 0), .int mp])), (fe, .inl (cB, 2060, .inl f)), (ou, .inl (cJ, 1, .inr (.inl ov)))] sz) := by
  refine vx_ofWH (cc := b_TrustChainLaw_list) (maxL := 4) (ret := (some FieldType.int)) (by decide) rfl ?_
  intro p e s m args below meth c s₁ B hml hv
  obtain ⟨rfl, hsz, hB0, hP, hK, hD0, hN, hT0, hTh⟩ := hv
  have hx := B.exec
  have hb := B.bytes
  have hr := B.returns
  have hts := atoms_spec (ws := w_TrustChainLaw_list) B.pre
  have htab : c.exceptionTable.toList = tableOf [(0, 9, 12, 13), (0, 9, 15, 19)] := vx_table (x := y_TrustChainLaw_list) B (hts _ List.mem_cons_self)
  have tbin : ∀ w ∈ tb, w ∈ w_TrustChainLaw_list := fun w h => List.mem_cons_of_mem _ h
  have htb : ∀ w ∈ tb, w.before _ s = true := fun w h => hts w (tbin w h)
  have hown : s.vm.findClass "TrustChainLaw" = some m.cls := findClass_of_methodNamed B.named
  have hlocks := B.notSynchronized
  subst hsz
  have hD := hD0.self (sz := s.heap.size)
  generalize hAe : va_A [(q0, .inr (10, [.ref fe, .ref ho, .ref ce, .ref li, .ref sh, .ref rs, .ref se, .ref ch, .ref fo, .int foS, .int chS, .int faP, .int 0, .int (wI none)])), (li, .inr (11, [.ref e1, .int (nI 0), .int mp])), (fe, .inl (cB, 2060, .inl f)), (ou, .inl (cJ, 1, .inr (.inl ov)))] s.heap.size = A at hD ⊢
  have hA : ∀ q : Nat, s.heap.size ≤ q → A q := fun q h => by rw [← hAe]; exact Or.inr h
  have hAs : ∀ q : Nat, A q → sb.1 ≤ q := fun q h => by
    rw [← hAe] at h
    rcases h with ⟨k, e, h⟩ | h
    · exact hD0.2 k _ h
    · exact Nat.le_trans hB0 h
  have hS : va_S A s.heap s.heap [] := va_S.rf
  have hcs : 13 ≤ (headSpec w_TrustChainLaw_list ({ frames := 7, cells := 13, slots := 70, locals := 168 })).room.cells ∧ 70 ≤ (headSpec w_TrustChainLaw_list ({ frames := 7, cells := 13, slots := 70, locals := 168 })).room.slots := ⟨Nat.le_refl _, Nat.le_refl _⟩
  have hP : va_P (dC, dI) classes [(q0, .inr (10, [.ref fe, .ref ho, .ref ce, .ref li, .ref sh, .ref rs, .ref se, .ref ch, .ref fo, .int foS, .int chS, .int faP, .int 0, .int (wI none)])), (li, .inr (11, [.ref e1, .int (nI 0), .int mp])), (fe, .inl (cB, 2060, .inl f)), (ou, .inl (cJ, 1, .inr (.inl ov)))] s.heap := hP
  have hl := lv_entry ([.ref q0, .int n, .ref ou]) (n := 4) (Nat.le_of_ble_eq_true rfl)
  rw [lg_entry_eq]
  generalize (lg_sl ([.ref q0, .int n, .ref ou]) ++ List.replicate (4 - (lg_sl ([.ref q0, .int n, .ref ou])).length) Slot.unset).toArray = ls at hl ⊢
  have hl : lv_has ls 4 [(0, .ref q0), (1, .int n), (2, .ref ou)] := hl
  refine lv_aload_n hx hb d_TrustChainLaw_list_0 rfl (lv_at hl 2 rfl) ?_
  refine lv_iconst (v := 0) hx hb d_TrustChainLaw_list_1 (by decide) ?_
  refine lv_aload_n hx hb d_TrustChainLaw_list_2 rfl (lv_at hl 0 rfl) ?_
  refine lv_iload_n hx hb d_TrustChainLaw_list_3 rfl (lv_at hl 1 rfl) ?_
  have hFc := va_free (wc := [(q0, .inr (10, [.ref fe, .ref ho, .ref ce, .ref li, .ref sh, .ref rs, .ref se, .ref ch, .ref fo, .int foS, .int chS, .int faP, .int 0, .int (wI none)])), (li, .inr (11, [.ref e1, .int (nI 0), .int mp])), (fe, .inl (cB, 2060, .inl f))]) hD hS hA [0, 1, 2] rfl
  refine vx_calli (mx_runV (As := [.int n]) (rest := [.int 0, .ref ou]) ⟨hx, hb, hml, hown, hts⟩ tbin (c0_Trust_list l hl0 dC dI sb q0 fe ho ce li sh rs se ch fo foS chS faP e1 mp cB cI f n s.heap.size) q5_50 q5_51 q5_52 q1_1 q5_53 (n := 1) (by decide +kernel) rfl ⟨rfl, rfl⟩ ⟨Nat.le_of_ble_eq_true rfl, Nat.le_of_ble_eq_true rfl⟩ ⟨Nat.le_of_ble_eq_true rfl, Nat.le_of_ble_eq_true rfl⟩ (hTh.keep hS hAs) hN (hT0.keep hS hAs) hAs (Nat.le_trans hB0 hS.1) hK hP hD [0, 1, 2] (by decide) rfl [0, 1] rfl 0 10 rfl rfl rfl hl.1 rfl (Nat.le_of_ble_eq_true rfl) d_TrustChainLaw_list_4) hS (fun q _ h => hFc q h) hFc (fun q _ h => hFc q h) (fun E cx9 q9 uX tX HX locs ht hvm hpx hBX hz1 hk1 hS hce hcv hcl => ?_) (fun r4 u4 tS H4 locs ht hvm hw4 hB hz1 hk1 hS => ?_)
  · obtain ⟨⟨hE, hu⟩, hB⟩ := hBX
    obtain ⟨hP1, hK1, hD1⟩ := hB
    rw [ht] at hP1
    obtain ⟨hP, hD⟩ := va_join (wr := [(ou, .inl (cJ, 1, .inr (.inl ov)))]) (w1 := [(q0, .inr (10, [.ref fe, .ref ho, .ref ce, .ref li, .ref sh, .ref rs, .ref se, .ref ch, .ref fo, .int foS, .int chS, .int faP, .int 0, .int (wI uX)])), (li, .inr (11, [.ref e1, .int (nI 0), .int mp])), (fe, .inl (cB, 2060, .inl f))]) hP hD [0, 1, 2] [3] rfl rfl (by decide) (by decide) hk1 hFc hP1 hD1
    have hP : va_P (dC, dI) classes [(ou, .inl (cJ, 1, .inr (.inl ov))), (q0, .inr (10, [.ref fe, .ref ho, .ref ce, .ref li, .ref sh, .ref rs, .ref se, .ref ch, .ref fo, .int foS, .int chS, .int faP, .int 0, .int (wI uX)])), (li, .inr (11, [.ref e1, .int (nI 0), .int mp])), (fe, .inl (cB, 2060, .inl f))] HX := hP
    have hD : va_D A [(ou, .inl (cJ, 1, .inr (.inl ov))), (q0, .inr (10, [.ref fe, .ref ho, .ref ce, .ref li, .ref sh, .ref rs, .ref se, .ref ch, .ref fo, .int foS, .int chS, .int faP, .int 0, .int (wI uX)])), (li, .inr (11, [.ref e1, .int (nI 0), .int mp])), (fe, .inl (cB, 2060, .inl f))] := hD
    by_cases hbad : n = 0
    · rw [if_pos hbad] at hE
      subst hE
      refine vx_catch hown [⟨0, 9, 12, 13⟩] ⟨0, 9, 15, 19⟩ [] htab (fun z h => by rw [List.mem_singleton.mp h]; exact Or.inr ⟨by decide, _, htb _ q1_206, hTh.2.2.2.1⟩) (by decide) (by decide) (htb _ q2_44) (va_Nw.use rfl (hN.1 _ qn4_235)) hce hcv hcl ?_
      refine lv_astore_n (lv' := [(3, .ref q9), (0, .ref q0), (1, .int n), (2, .ref ou)]) hx hb d_TrustChainLaw_list_15 rfl hl (by decide) rfl (fun ls hl => ?_)
      refine lv_iconst (v := 2) hx hb d_TrustChainLaw_list_16 (by decide) ?_
      exact vx_ret (x_wide 13 70 (Nat.le_of_ble_eq_true rfl) (Nat.le_of_ble_eq_true rfl) (W.iret (v := 2) hx hb hr (fun t ht hW => ⟨⟨_, uX, rfl, (if_pos hbad).symm, by rw [ht]; exact hP.sub [1, 2, 3, 0] rfl, va_K.moved hW.alike hK, hD.sub [1, 2, 3, 0] (by decide) rfl⟩, hS.F ht⟩) hS.2.2 d_TrustChainLaw_list_17))
    · rw [if_neg hbad] at hE
      subst hE
      refine vx_catch hown [] ⟨0, 9, 12, 13⟩ [⟨0, 9, 15, 19⟩] htab (fun z h => nomatch h) (by decide) (by decide) (htb _ q1_206) (va_Nw.use rfl (hN.1 _ qn1_213)) hce hcv hcl ?_
      refine lv_astore_n (lv' := [(3, .ref q9), (0, .ref q0), (1, .int n), (2, .ref ou)]) hx hb d_TrustChainLaw_list_12 rfl hl (by decide) rfl (fun ls hl => ?_)
      refine lv_iconst (v := 1) hx hb d_TrustChainLaw_list_13 (by decide) ?_
      exact vx_ret (x_wide 13 70 (Nat.le_of_ble_eq_true rfl) (Nat.le_of_ble_eq_true rfl) (W.iret (v := 1) hx hb hr (fun t ht hW => ⟨⟨_, uX, rfl, (if_neg hbad).symm, by rw [ht]; exact hP.sub [1, 2, 3, 0] rfl, va_K.moved hW.alike hK, hD.sub [1, 2, 3, 0] (by decide) rfl⟩, hS.F ht⟩) hS.2.2 d_TrustChainLaw_list_14))
  · exact hw4.elim
