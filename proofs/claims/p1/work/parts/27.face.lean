/-! TrustChain's public methods. -/
def y_Trust_chain : MethodName := ⟨"TrustChain", "chain", "(I)I"⟩
abbrev b_Trust_chain : ByteArray := prog_1_method_12_code
def w_Trust_chain : List Cond := Cond.code y_Trust_chain b_Trust_chain 2 ((some FieldType.int)) :: tb
theorem d_Trust_chain_0 : decode b_Trust_chain 0 = .ok (.iload_n 1, 1) := by decide +kernel
theorem d_Trust_chain_1 : decode b_Trust_chain 1 = .ok (.ifCond .lt 17, 3) := by decide +kernel
theorem d_Trust_chain_4 : decode b_Trust_chain 4 = .ok (.iload_n 1, 1) := by decide +kernel
theorem d_Trust_chain_5 : decode b_Trust_chain 5 = .ok (.aload_n 0, 1) := by decide +kernel
theorem d_Trust_chain_6 : decode b_Trust_chain 6 = .ok (.getfield 58, 3) := by decide +kernel
theorem d_Trust_chain_9 : decode b_Trust_chain 9 = .ok (.if_icmp .ge 9, 3) := by decide +kernel
theorem d_Trust_chain_12 : decode b_Trust_chain 12 = .ok (.iload_n 1, 1) := by decide +kernel
theorem d_Trust_chain_13 : decode b_Trust_chain 13 = .ok (.bipush 16, 2) := by decide +kernel
theorem d_Trust_chain_15 : decode b_Trust_chain 15 = .ok (.if_icmp .lt 13, 3) := by decide +kernel
theorem d_Trust_chain_18 : decode b_Trust_chain 18 = .ok (.new 74, 3) := by decide +kernel
theorem d_Trust_chain_21 : decode b_Trust_chain 21 = .ok (.dup, 1) := by decide +kernel
theorem d_Trust_chain_22 : decode b_Trust_chain 22 = .ok (.ldc 225, 2) := by decide +kernel
theorem d_Trust_chain_24 : decode b_Trust_chain 24 = .ok (.invokespecial 78, 3) := by decide +kernel
theorem d_Trust_chain_27 : decode b_Trust_chain 27 = .ok (.athrow, 1) := by decide +kernel
theorem d_Trust_chain_28 : decode b_Trust_chain 28 = .ok (.aload_n 0, 1) := by decide +kernel
theorem d_Trust_chain_29 : decode b_Trust_chain 29 = .ok (.getfield 54, 3) := by decide +kernel
theorem d_Trust_chain_32 : decode b_Trust_chain 32 = .ok (.iload_n 1, 1) := by decide +kernel
theorem d_Trust_chain_33 : decode b_Trust_chain 33 = .ok (.iaload, 1) := by decide +kernel
theorem d_Trust_chain_34 : decode b_Trust_chain 34 = .ok (.ireturn, 1) := by decide +kernel
theorem vp_in_c {i : Int32} {n : Nat} (h1 : ¬ i < 0) (h2 : i.toInt < (n : Int)) : vp_in i n := by
  unfold vp_in
  rintro (h | h)
  · exact h1 h
  · have e : i.toNatClampNeg = i.toInt.toNat := rfl
    rw [Int32.lt_iff_toInt_lt, show (0 : Int32).toInt = 0 from by decide] at h1
    omega
theorem x_no {i : Int32} : ¬ (¬ i < 0 ∧ i < nI 0) := fun q => q.1 q.2
set_option maxHeartbeats 4000000 in
set_option maxRecDepth 100000 in
theorem c_Trust_chain (l : Launch) (hl0 : l.stackTraces = false) (dC : Nat → ClassId) (dI : Nat → Nat → Nat) (sb : sB) (q0 fe ho ce li sh rs se ch fo : Nat) (foS chS faP feS wrP : Int32) (cI : ClassId) (g : Nat → Int32) (i : Int32) (sz : Nat) : vx_Met l y_Trust_chain w_Trust_chain ({ frames := 6, cells := 1, slots := 6, locals := 104 }) (mx_P [.ref q0, .int i] (dC, dI) sb [(q0, .inr (10, [.ref fe, .ref ho, .ref ce, .ref li, .ref sh, .ref rs, .ref se, .ref ch, .ref fo, .int foS, .int chS, .int faP, .int feS, .int wrP])), (fo, .inl (cI, 16, .inl g))] [(cI, .int)] sz) (va_Qi (fun r (_u : Unit) => r = g i.toNatClampNeg ∧ ¬ i < 0 ∧ i < foS ∧ i < 16) (mu_B (dC, dI) [(cI, .int)] (va_A [(q0, .inr (10, [.ref fe, .ref ho, .ref ce, .ref li, .ref sh, .ref rs, .ref se, .ref ch, .ref fo, .int foS, .int chS, .int faP, .int feS, .int wrP])), (fo, .inl (cI, 16, .inl g))] sz) (fun _ : Unit => [(q0, .inr (10, [.ref fe, .ref ho, .ref ce, .ref li, .ref sh, .ref rs, .ref se, .ref ch, .ref fo, .int foS, .int chS, .int faP, .int feS, .int wrP])), (fo, .inl (cI, 16, .inl g))])) (va_A [(q0, .inr (10, [.ref fe, .ref ho, .ref ce, .ref li, .ref sh, .ref rs, .ref se, .ref ch, .ref fo, .int foS, .int chS, .int faP, .int feS, .int wrP])), (fo, .inl (cI, 16, .inl g))] sz)) (mx_X (fun (E : String) (_u : Unit) => E = "java/lang/IndexOutOfBoundsException" ∧ ¬ (¬ i < 0 ∧ i < foS ∧ i < 16)) (dC, dI) [(cI, .int)] (va_A [(q0, .inr (10, [.ref fe, .ref ho, .ref ce, .ref li, .ref sh, .ref rs, .ref se, .ref ch, .ref fo, .int foS, .int chS, .int faP, .int feS, .int wrP])), (fo, .inl (cI, 16, .inl g))] sz) (fun _ : Unit => [(q0, .inr (10, [.ref fe, .ref ho, .ref ce, .ref li, .ref sh, .ref rs, .ref se, .ref ch, .ref fo, .int foS, .int chS, .int faP, .int feS, .int wrP])), (fo, .inl (cI, 16, .inl g))])) 1 6 (va_A [(q0, .inr (10, [.ref fe, .ref ho, .ref ce, .ref li, .ref sh, .ref rs, .ref se, .ref ch, .ref fo, .int foS, .int chS, .int faP, .int feS, .int wrP])), (fo, .inl (cI, 16, .inl g))] sz) := by
  refine vx_ofW (cc := b_Trust_chain) (maxL := 2) (ret := (some FieldType.int)) (by decide) rfl ?_
  intro p e s m args below meth c s₁ B hml hnoh hv
  obtain ⟨rfl, hsz, hB0, hP, hK, hD0, hN, hT0, hTh⟩ := hv
  have hx := B.exec
  have hb := B.bytes
  have hr := B.returns
  have hts := atoms_spec (ws := w_Trust_chain) B.pre
  have tbin : ∀ w ∈ tb, w ∈ w_Trust_chain := fun w h => List.mem_cons_of_mem _ h
  have htb : ∀ w ∈ tb, w.before _ s = true := fun w h => hts w (tbin w h)
  have hown : s.vm.findClass "TrustChain" = some m.cls := findClass_of_methodNamed B.named
  have hlocks := B.notSynchronized
  subst hsz
  have hD := hD0.self (sz := s.heap.size)
  generalize hAe : va_A [(q0, .inr (10, [.ref fe, .ref ho, .ref ce, .ref li, .ref sh, .ref rs, .ref se, .ref ch, .ref fo, .int foS, .int chS, .int faP, .int feS, .int wrP])), (fo, .inl (cI, 16, .inl g))] s.heap.size = A at hD ⊢
  have hA : ∀ q : Nat, s.heap.size ≤ q → A q := fun q h => by rw [← hAe]; exact Or.inr h
  have hAs : ∀ q : Nat, A q → sb.1 ≤ q := fun q h => by
    rw [← hAe] at h
    rcases h with ⟨k, e, h⟩ | h
    · exact hD0.2 k _ h
    · exact Nat.le_trans hB0 h
  have hS : va_S A s.heap s.heap [] := va_S.rf
  have hcs : 1 ≤ (headSpec w_Trust_chain ({ frames := 6, cells := 1, slots := 6, locals := 104 })).room.cells ∧ 6 ≤ (headSpec w_Trust_chain ({ frames := 6, cells := 1, slots := 6, locals := 104 })).room.slots := ⟨Nat.le_refl _, Nat.le_refl _⟩
  have hP : va_P (dC, dI) classes [(q0, .inr (10, [.ref fe, .ref ho, .ref ce, .ref li, .ref sh, .ref rs, .ref se, .ref ch, .ref fo, .int foS, .int chS, .int faP, .int feS, .int wrP])), (fo, .inl (cI, 16, .inl g))] s.heap := hP
  have hl := lv_entry ([.ref q0, .int i]) (n := 2) (Nat.le_of_ble_eq_true rfl)
  rw [lg_entry_eq]
  generalize (lg_sl ([.ref q0, .int i]) ++ List.replicate (2 - (lg_sl ([.ref q0, .int i])).length) Slot.unset).toArray = ls at hl ⊢
  have hl : lv_has ls 2 [(0, .ref q0), (1, .int i)] := hl
  refine lv_iload_n hx hb d_Trust_chain_0 rfl (lv_at hl 1 rfl) ?_
  refine lv_if_lt (tgt := 18) hx hb d_Trust_chain_1 (by decide) (fun c1 => ?_) (fun c1 => ?_)
  · obtain ⟨sa, hsa⟩ := hTh.2.2.1 (225, "the chain has no such one") (by decide)
    exact vx_throwS (own := "TrustChain") (cls := "java/lang/IndexOutOfBoundsException") (text := "the chain has no such one") (names := xUp) (ik := 74) (is := 225) (ic := 78) (sa := sa) (A := A) hx hb hl0 hown (by decide) (by decide) (htb _ q1_211) (htb _ q1_14) hsa (x_hat x_ot78 x_gd78 x_nw78 htb hN) x_ot78 (hTh.1.narrow hAs) (hTh.2.1.narrow hAs) hS (hl.1.trans hml.symm) d_Trust_chain_18 d_Trust_chain_21 d_Trust_chain_22 d_Trust_chain_24 d_Trust_chain_27 (fun x h => (hnoh x h).elim) (Nat.le_of_ble_eq_true rfl) (Nat.le_of_ble_eq_true rfl) (Nat.le_of_ble_eq_true rfl) (Nat.le_of_ble_eq_true rfl) hlocks (x_end () ⟨rfl, fun q => q.1 c1⟩ hP hK hD hS) hS.2.2 (Nat.le_of_ble_eq_true rfl) (Nat.le_of_ble_eq_true rfl)
  · refine lv_iload_n hx hb d_Trust_chain_4 rfl (lv_at hl 1 rfl) ?_
    refine lv_aload_n hx hb d_Trust_chain_5 rfl (lv_at hl 0 rfl) ?_
    refine va_get (v := .int foS) hx hb htb i_Trust hown hK hP 0 rfl rfl 9 (by decide) (htb _ q1_165) (fun _ h9 => h9) rfl d_Trust_chain_6 ?_
    refine lv_icmp_ge (tgt := 18) hx hb d_Trust_chain_9 (by decide) (fun c9 => ?_) (fun c9 => ?_)
    · obtain ⟨sa, hsa⟩ := hTh.2.2.1 (225, "the chain has no such one") (by decide)
      exact vx_throwS (own := "TrustChain") (cls := "java/lang/IndexOutOfBoundsException") (text := "the chain has no such one") (names := xUp) (ik := 74) (is := 225) (ic := 78) (sa := sa) (A := A) hx hb hl0 hown (by decide) (by decide) (htb _ q1_211) (htb _ q1_14) hsa (x_hat x_ot78 x_gd78 x_nw78 htb hN) x_ot78 (hTh.1.narrow hAs) (hTh.2.1.narrow hAs) hS (hl.1.trans hml.symm) d_Trust_chain_18 d_Trust_chain_21 d_Trust_chain_22 d_Trust_chain_24 d_Trust_chain_27 (fun x h => (hnoh x h).elim) (Nat.le_of_ble_eq_true rfl) (Nat.le_of_ble_eq_true rfl) (Nat.le_of_ble_eq_true rfl) (Nat.le_of_ble_eq_true rfl) hlocks (x_end () ⟨rfl, fun q => Int32.not_lt.mpr c9 q.2.1⟩ hP hK hD hS) hS.2.2 (Nat.le_of_ble_eq_true rfl) (Nat.le_of_ble_eq_true rfl)
    · refine lv_iload_n hx hb d_Trust_chain_12 rfl (lv_at hl 1 rfl) ?_
      refine lv_bipush (v := 16) hx hb d_Trust_chain_13 (by decide) ?_
      refine lv_icmp_lt (tgt := 28) hx hb d_Trust_chain_15 (by decide) (fun c15 => ?_) (fun c15 => ?_)
      · refine lv_aload_n hx hb d_Trust_chain_28 rfl (lv_at hl 0 rfl) ?_
        refine va_get (v := .ref fo) hx hb htb i_Trust hown hK hP 0 rfl rfl 8 (by decide) (htb _ q1_164) (fun _ h9 => h9) rfl d_Trust_chain_29 ?_
        refine lv_iload_n hx hb d_Trust_chain_32 rfl (lv_at hl 1 rfl) ?_
        have h33 : vp_in i 16 := vp_in_c c1 (by have h := c15; rw [Int32.lt_iff_toInt_lt] at h; exact h)
        refine va_iald hx hb hK hP 1 0 rfl rfl h33 d_Trust_chain_33 ?_
        exact vx_ret (x_wide 1 6 (Nat.le_of_ble_eq_true rfl) (Nat.le_of_ble_eq_true rfl) (W.iret (v := g i.toNatClampNeg) hx hb hr (fun t ht hW => ⟨⟨_, (), rfl, ⟨rfl, c1, Int32.not_le.mp c9, c15⟩, by rw [ht]; exact hP, va_K.moved hW.alike hK, hD⟩, hS.F ht⟩) hS.2.2 d_Trust_chain_34))
      · obtain ⟨sa, hsa⟩ := hTh.2.2.1 (225, "the chain has no such one") (by decide)
        exact vx_throwS (own := "TrustChain") (cls := "java/lang/IndexOutOfBoundsException") (text := "the chain has no such one") (names := xUp) (ik := 74) (is := 225) (ic := 78) (sa := sa) (A := A) hx hb hl0 hown (by decide) (by decide) (htb _ q1_211) (htb _ q1_14) hsa (x_hat x_ot78 x_gd78 x_nw78 htb hN) x_ot78 (hTh.1.narrow hAs) (hTh.2.1.narrow hAs) hS (hl.1.trans hml.symm) d_Trust_chain_18 d_Trust_chain_21 d_Trust_chain_22 d_Trust_chain_24 d_Trust_chain_27 (fun x h => (hnoh x h).elim) (Nat.le_of_ble_eq_true rfl) (Nat.le_of_ble_eq_true rfl) (Nat.le_of_ble_eq_true rfl) (Nat.le_of_ble_eq_true rfl) hlocks (x_end () ⟨rfl, fun q => c15 q.2.2⟩ hP hK hD hS) hS.2.2 (Nat.le_of_ble_eq_true rfl) (Nat.le_of_ble_eq_true rfl)
def y_Trust_count : MethodName := ⟨"TrustChain", "count", "(I)I"⟩
abbrev b_Trust_count : ByteArray := prog_1_method_13_code
def w_Trust_count : List Cond := Cond.code y_Trust_count b_Trust_count 2 ((some FieldType.int)) :: tb
theorem d_Trust_count_0 : decode b_Trust_count 0 = .ok (.iload_n 1, 1) := by decide +kernel
theorem d_Trust_count_1 : decode b_Trust_count 1 = .ok (.tableswitch 66 0 4 #[35, 43, 51, 56, 61], 35) := by decide +kernel
theorem d_Trust_count_36 : decode b_Trust_count 36 = .ok (.aload_n 0, 1) := by decide +kernel
theorem d_Trust_count_37 : decode b_Trust_count 37 = .ok (.getfield 19, 3) := by decide +kernel
theorem d_Trust_count_40 : decode b_Trust_count 40 = .ok (.invokevirtual 89, 3) := by decide +kernel
theorem d_Trust_count_43 : decode b_Trust_count 43 = .ok (.ireturn, 1) := by decide +kernel
theorem d_Trust_count_44 : decode b_Trust_count 44 = .ok (.aload_n 0, 1) := by decide +kernel
theorem d_Trust_count_45 : decode b_Trust_count 45 = .ok (.getfield 23, 3) := by decide +kernel
theorem d_Trust_count_48 : decode b_Trust_count 48 = .ok (.invokevirtual 89, 3) := by decide +kernel
theorem d_Trust_count_51 : decode b_Trust_count 51 = .ok (.ireturn, 1) := by decide +kernel
theorem d_Trust_count_52 : decode b_Trust_count 52 = .ok (.aload_n 0, 1) := by decide +kernel
theorem d_Trust_count_53 : decode b_Trust_count 53 = .ok (.getfield 62, 3) := by decide +kernel
theorem d_Trust_count_56 : decode b_Trust_count 56 = .ok (.ireturn, 1) := by decide +kernel
theorem d_Trust_count_57 : decode b_Trust_count 57 = .ok (.aload_n 0, 1) := by decide +kernel
theorem d_Trust_count_58 : decode b_Trust_count 58 = .ok (.getfield 65, 3) := by decide +kernel
theorem d_Trust_count_61 : decode b_Trust_count 61 = .ok (.ireturn, 1) := by decide +kernel
theorem d_Trust_count_62 : decode b_Trust_count 62 = .ok (.aload_n 0, 1) := by decide +kernel
theorem d_Trust_count_63 : decode b_Trust_count 63 = .ok (.getfield 68, 3) := by decide +kernel
theorem d_Trust_count_66 : decode b_Trust_count 66 = .ok (.ireturn, 1) := by decide +kernel
theorem d_Trust_count_67 : decode b_Trust_count 67 = .ok (.new 110, 3) := by decide +kernel
theorem d_Trust_count_70 : decode b_Trust_count 70 = .ok (.dup, 1) := by decide +kernel
theorem d_Trust_count_71 : decode b_Trust_count 71 = .ok (.ldc 227, 2) := by decide +kernel
theorem d_Trust_count_73 : decode b_Trust_count 73 = .ok (.invokespecial 114, 3) := by decide +kernel
theorem d_Trust_count_76 : decode b_Trust_count 76 = .ok (.athrow, 1) := by decide +kernel
def cntI (z y : Nat) (chS faP feS i : Int32) : Option Int32 := if i.toInt = 0 then some (nI z) else if i.toInt = 1 then some (nI y) else if i.toInt = 2 then some chS else if i.toInt = 3 then some faP else if i.toInt = 4 then some feS else none
set_option maxHeartbeats 4000000 in
set_option maxRecDepth 100000 in
theorem c_Trust_count (l : Launch) (hl0 : l.stackTraces = false) (dC : Nat → ClassId) (dI : Nat → Nat → Nat) (sb : sB) (q0 fe ho ce li sh rs se ch fo : Nat) (foS chS faP feS wrP : Int32) (e0 e1 z y : Nat) (mo mp i : Int32) (sz : Nat) : vx_Met l y_Trust_count w_Trust_count ({ frames := 6, cells := 1, slots := 6, locals := 104 }) (mx_P [.ref q0, .int i] (dC, dI) sb [(q0, .inr (10, [.ref fe, .ref ho, .ref ce, .ref li, .ref sh, .ref rs, .ref se, .ref ch, .ref fo, .int foS, .int chS, .int faP, .int feS, .int wrP])), (ce, .inr (11, [.ref e0, .int (nI z), .int mo])), (li, .inr (11, [.ref e1, .int (nI y), .int mp]))] [] sz) (va_Qi (fun r (_u : Unit) => cntI z y chS faP feS i = some r) (mu_B (dC, dI) [] (va_A [(q0, .inr (10, [.ref fe, .ref ho, .ref ce, .ref li, .ref sh, .ref rs, .ref se, .ref ch, .ref fo, .int foS, .int chS, .int faP, .int feS, .int wrP])), (ce, .inr (11, [.ref e0, .int (nI z), .int mo])), (li, .inr (11, [.ref e1, .int (nI y), .int mp]))] sz) (fun _ : Unit => [(q0, .inr (10, [.ref fe, .ref ho, .ref ce, .ref li, .ref sh, .ref rs, .ref se, .ref ch, .ref fo, .int foS, .int chS, .int faP, .int feS, .int wrP])), (ce, .inr (11, [.ref e0, .int (nI z), .int mo])), (li, .inr (11, [.ref e1, .int (nI y), .int mp]))])) (va_A [(q0, .inr (10, [.ref fe, .ref ho, .ref ce, .ref li, .ref sh, .ref rs, .ref se, .ref ch, .ref fo, .int foS, .int chS, .int faP, .int feS, .int wrP])), (ce, .inr (11, [.ref e0, .int (nI z), .int mo])), (li, .inr (11, [.ref e1, .int (nI y), .int mp]))] sz)) (mx_X (fun (E : String) (_u : Unit) => E = "java/lang/IllegalArgumentException" ∧ cntI z y chS faP feS i = none) (dC, dI) [] (va_A [(q0, .inr (10, [.ref fe, .ref ho, .ref ce, .ref li, .ref sh, .ref rs, .ref se, .ref ch, .ref fo, .int foS, .int chS, .int faP, .int feS, .int wrP])), (ce, .inr (11, [.ref e0, .int (nI z), .int mo])), (li, .inr (11, [.ref e1, .int (nI y), .int mp]))] sz) (fun _ : Unit => [(q0, .inr (10, [.ref fe, .ref ho, .ref ce, .ref li, .ref sh, .ref rs, .ref se, .ref ch, .ref fo, .int foS, .int chS, .int faP, .int feS, .int wrP])), (ce, .inr (11, [.ref e0, .int (nI z), .int mo])), (li, .inr (11, [.ref e1, .int (nI y), .int mp]))])) 1 6 (va_A [(q0, .inr (10, [.ref fe, .ref ho, .ref ce, .ref li, .ref sh, .ref rs, .ref se, .ref ch, .ref fo, .int foS, .int chS, .int faP, .int feS, .int wrP])), (ce, .inr (11, [.ref e0, .int (nI z), .int mo])), (li, .inr (11, [.ref e1, .int (nI y), .int mp]))] sz) := by
  refine vx_ofW (cc := b_Trust_count) (maxL := 2) (ret := (some FieldType.int)) (by decide) rfl ?_
  intro p e s m args below meth c s₁ B hml hnoh hv
  obtain ⟨rfl, hsz, hB0, hP, hK, hD0, hN, hT0, hTh⟩ := hv
  have hx := B.exec
  have hb := B.bytes
  have hr := B.returns
  have hts := atoms_spec (ws := w_Trust_count) B.pre
  have tbin : ∀ w ∈ tb, w ∈ w_Trust_count := fun w h => List.mem_cons_of_mem _ h
  have htb : ∀ w ∈ tb, w.before _ s = true := fun w h => hts w (tbin w h)
  have hown : s.vm.findClass "TrustChain" = some m.cls := findClass_of_methodNamed B.named
  have hlocks := B.notSynchronized
  subst hsz
  have hD := hD0.self (sz := s.heap.size)
  generalize hAe : va_A [(q0, .inr (10, [.ref fe, .ref ho, .ref ce, .ref li, .ref sh, .ref rs, .ref se, .ref ch, .ref fo, .int foS, .int chS, .int faP, .int feS, .int wrP])), (ce, .inr (11, [.ref e0, .int (nI z), .int mo])), (li, .inr (11, [.ref e1, .int (nI y), .int mp]))] s.heap.size = A at hD ⊢
  have hA : ∀ q : Nat, s.heap.size ≤ q → A q := fun q h => by rw [← hAe]; exact Or.inr h
  have hAs : ∀ q : Nat, A q → sb.1 ≤ q := fun q h => by
    rw [← hAe] at h
    rcases h with ⟨k, e, h⟩ | h
    · exact hD0.2 k _ h
    · exact Nat.le_trans hB0 h
  have hS : va_S A s.heap s.heap [] := va_S.rf
  have hcs : 1 ≤ (headSpec w_Trust_count ({ frames := 6, cells := 1, slots := 6, locals := 104 })).room.cells ∧ 6 ≤ (headSpec w_Trust_count ({ frames := 6, cells := 1, slots := 6, locals := 104 })).room.slots := ⟨Nat.le_refl _, Nat.le_refl _⟩
  have hP : va_P (dC, dI) classes [(q0, .inr (10, [.ref fe, .ref ho, .ref ce, .ref li, .ref sh, .ref rs, .ref se, .ref ch, .ref fo, .int foS, .int chS, .int faP, .int feS, .int wrP])), (ce, .inr (11, [.ref e0, .int (nI z), .int mo])), (li, .inr (11, [.ref e1, .int (nI y), .int mp]))] s.heap := hP
  have hl := lv_entry ([.ref q0, .int i]) (n := 2) (Nat.le_of_ble_eq_true rfl)
  rw [lg_entry_eq]
  generalize (lg_sl ([.ref q0, .int i]) ++ List.replicate (2 - (lg_sl ([.ref q0, .int i])).length) Slot.unset).toArray = ls at hl ⊢
  have hl : lv_has ls 2 [(0, .ref q0), (1, .int i)] := hl
  refine lv_iload_n hx hb d_Trust_count_0 rfl (lv_at hl 1 rfl) ?_
  by_cases s1_0 : i.toInt = 0
  · refine lv_tableIn (tgt := 36) hx hb d_Trust_count_1 (by omega) (by omega) (by rw [s1_0]; rfl) rfl ?_
    refine lv_aload_n hx hb d_Trust_count_36 rfl (lv_at hl 0 rfl) ?_
    refine va_get (v := .ref ce) hx hb htb i_Trust hown hK hP 0 rfl rfl 2 (by decide) (htb _ q1_158) (fun _ h9 => h9) rfl d_Trust_count_37 ?_
    refine vp_callSi (pu_callV (As := []) (rest := []) ⟨hx, hb, hml, hown, hts⟩ tbin (c_AL_size l dC dI sb ce e0 z mo) q2_53 q2_54 q2_55 q1_4 q2_56 (n := 0) (by decide +kernel) rfl ⟨rfl, rfl⟩ ⟨Nat.le_of_ble_eq_true rfl, Nat.le_of_ble_eq_true rfl⟩ ⟨Nat.le_of_ble_eq_true rfl, Nat.le_of_ble_eq_true rfl⟩ hN (hT0.keep hS hAs) hK hP [1] rfl [] rfl 1 11 rfl rfl rfl hl.1 rfl (Nat.le_of_ble_eq_true rfl) d_Trust_count_40) (fun r40 hr40 => ?_)
    exact vx_ret (x_wide 1 6 (Nat.le_of_ble_eq_true rfl) (Nat.le_of_ble_eq_true rfl) (W.iret (v := r40) hx hb hr (fun t ht hW => ⟨⟨_, (), rfl, by unfold cntI; rw [if_pos s1_0]; rw [hr40], by rw [ht]; exact hP, va_K.moved hW.alike hK, hD⟩, hS.F ht⟩) hS.2.2 d_Trust_count_43))
  by_cases s1_1 : i.toInt = 1
  · refine lv_tableIn (tgt := 44) hx hb d_Trust_count_1 (by omega) (by omega) (by rw [s1_1]; rfl) rfl ?_
    refine lv_aload_n hx hb d_Trust_count_44 rfl (lv_at hl 0 rfl) ?_
    refine va_get (v := .ref li) hx hb htb i_Trust hown hK hP 0 rfl rfl 3 (by decide) (htb _ q1_159) (fun _ h9 => h9) rfl d_Trust_count_45 ?_
    refine vp_callSi (pu_callV (As := []) (rest := []) ⟨hx, hb, hml, hown, hts⟩ tbin (c_AL_size l dC dI sb li e1 y mp) q2_53 q2_54 q2_55 q1_4 q2_56 (n := 0) (by decide +kernel) rfl ⟨rfl, rfl⟩ ⟨Nat.le_of_ble_eq_true rfl, Nat.le_of_ble_eq_true rfl⟩ ⟨Nat.le_of_ble_eq_true rfl, Nat.le_of_ble_eq_true rfl⟩ hN (hT0.keep hS hAs) hK hP [2] rfl [] rfl 2 11 rfl rfl rfl hl.1 rfl (Nat.le_of_ble_eq_true rfl) d_Trust_count_48) (fun r48 hr48 => ?_)
    exact vx_ret (x_wide 1 6 (Nat.le_of_ble_eq_true rfl) (Nat.le_of_ble_eq_true rfl) (W.iret (v := r48) hx hb hr (fun t ht hW => ⟨⟨_, (), rfl, by unfold cntI; rw [if_neg s1_0]; rw [if_pos s1_1]; rw [hr48], by rw [ht]; exact hP, va_K.moved hW.alike hK, hD⟩, hS.F ht⟩) hS.2.2 d_Trust_count_51))
  by_cases s1_2 : i.toInt = 2
  · refine lv_tableIn (tgt := 52) hx hb d_Trust_count_1 (by omega) (by omega) (by rw [s1_2]; rfl) rfl ?_
    refine lv_aload_n hx hb d_Trust_count_52 rfl (lv_at hl 0 rfl) ?_
    refine va_get (v := .int chS) hx hb htb i_Trust hown hK hP 0 rfl rfl 10 (by decide) (htb _ q1_166) (fun _ h9 => h9) rfl d_Trust_count_53 ?_
    exact vx_ret (x_wide 1 6 (Nat.le_of_ble_eq_true rfl) (Nat.le_of_ble_eq_true rfl) (W.iret (v := chS) hx hb hr (fun t ht hW => ⟨⟨_, (), rfl, by unfold cntI; rw [if_neg s1_0]; rw [if_neg s1_1]; rw [if_pos s1_2], by rw [ht]; exact hP, va_K.moved hW.alike hK, hD⟩, hS.F ht⟩) hS.2.2 d_Trust_count_56))
  by_cases s1_3 : i.toInt = 3
  · refine lv_tableIn (tgt := 57) hx hb d_Trust_count_1 (by omega) (by omega) (by rw [s1_3]; rfl) rfl ?_
    refine lv_aload_n hx hb d_Trust_count_57 rfl (lv_at hl 0 rfl) ?_
    refine va_get (v := .int faP) hx hb htb i_Trust hown hK hP 0 rfl rfl 11 (by decide) (htb _ q1_167) (fun _ h9 => h9) rfl d_Trust_count_58 ?_
    exact vx_ret (x_wide 1 6 (Nat.le_of_ble_eq_true rfl) (Nat.le_of_ble_eq_true rfl) (W.iret (v := faP) hx hb hr (fun t ht hW => ⟨⟨_, (), rfl, by unfold cntI; rw [if_neg s1_0]; rw [if_neg s1_1]; rw [if_neg s1_2]; rw [if_pos s1_3], by rw [ht]; exact hP, va_K.moved hW.alike hK, hD⟩, hS.F ht⟩) hS.2.2 d_Trust_count_61))
  by_cases s1_4 : i.toInt = 4
  · refine lv_tableIn (tgt := 62) hx hb d_Trust_count_1 (by omega) (by omega) (by rw [s1_4]; rfl) rfl ?_
    refine lv_aload_n hx hb d_Trust_count_62 rfl (lv_at hl 0 rfl) ?_
    refine va_get (v := .int feS) hx hb htb i_Trust hown hK hP 0 rfl rfl 12 (by decide) (htb _ q1_168) (fun _ h9 => h9) rfl d_Trust_count_63 ?_
    exact vx_ret (x_wide 1 6 (Nat.le_of_ble_eq_true rfl) (Nat.le_of_ble_eq_true rfl) (W.iret (v := feS) hx hb hr (fun t ht hW => ⟨⟨_, (), rfl, by unfold cntI; rw [if_neg s1_0]; rw [if_neg s1_1]; rw [if_neg s1_2]; rw [if_neg s1_3]; rw [if_pos s1_4], by rw [ht]; exact hP, va_K.moved hW.alike hK, hD⟩, hS.F ht⟩) hS.2.2 d_Trust_count_66))
  refine lv_tableOut (tgt := 67) hx hb d_Trust_count_1 (by omega) rfl ?_
  obtain ⟨sa, hsa⟩ := hTh.2.2.1 (227, "no such count") (by decide)
  exact vx_throwS (own := "TrustChain") (cls := "java/lang/IllegalArgumentException") (text := "no such count") (names := xUp) (ik := 110) (is := 227) (ic := 114) (sa := sa) (A := A) hx hb hl0 hown (by decide) (by decide) (htb _ q4_233) (htb _ q1_27) hsa (x_hat x_ot114 x_gd114 x_nw114 htb hN) x_ot114 (hTh.1.narrow hAs) (hTh.2.1.narrow hAs) hS (hl.1.trans hml.symm) d_Trust_count_67 d_Trust_count_70 d_Trust_count_71 d_Trust_count_73 d_Trust_count_76 (fun x h => (hnoh x h).elim) (Nat.le_of_ble_eq_true rfl) (Nat.le_of_ble_eq_true rfl) (Nat.le_of_ble_eq_true rfl) (Nat.le_of_ble_eq_true rfl) hlocks (x_end () ⟨rfl, by unfold cntI; rw [if_neg s1_0]; rw [if_neg s1_1]; rw [if_neg s1_2]; rw [if_neg s1_3]; rw [if_neg s1_4]⟩ hP hK hD hS) hS.2.2 (Nat.le_of_ble_eq_true rfl) (Nat.le_of_ble_eq_true rfl)
def y_Trust_trust : MethodName := ⟨"TrustChain", "trust", "(IZ)Z"⟩
abbrev b_Trust_trust : ByteArray := prog_1_method_6_code
def w_Trust_trust : List Cond := Cond.code y_Trust_trust b_Trust_trust 5 ((some FieldType.boolean)) :: tb
theorem d_Trust_trust_0 : decode b_Trust_trust 0 = .ok (.aload_n 0, 1) := by decide +kernel
theorem d_Trust_trust_1 : decode b_Trust_trust 1 = .ok (.iload_n 1, 1) := by decide +kernel
theorem d_Trust_trust_2 : decode b_Trust_trust 2 = .ok (.invokevirtual 160, 3) := by decide +kernel
theorem d_Trust_trust_5 : decode b_Trust_trust 5 = .ok (.ifCond .ne 13, 3) := by decide +kernel
theorem d_Trust_trust_8 : decode b_Trust_trust 8 = .ok (.new 74, 3) := by decide +kernel
theorem d_Trust_trust_11 : decode b_Trust_trust 11 = .ok (.dup, 1) := by decide +kernel
theorem d_Trust_trust_12 : decode b_Trust_trust 12 = .ok (.ldc 163, 2) := by decide +kernel
theorem d_Trust_trust_14 : decode b_Trust_trust 14 = .ok (.invokespecial 78, 3) := by decide +kernel
theorem d_Trust_trust_17 : decode b_Trust_trust 17 = .ok (.athrow, 1) := by decide +kernel
set_option maxHeartbeats 4000000 in
set_option maxRecDepth 100000 in
theorem c0_Trust_trust (l : Launch) (hl0 : l.stackTraces = false) (dC : Nat → ClassId) (dI : Nat → Nat → Nat) (sb : sB) (q0 fe ho ce li sh rs se ch fo : Nat) (foS chS faP feS wrP : Int32) (e0 : Nat) (mo : Int32) (i j : Int32) (sz : Nat) : vx_Met l y_Trust_trust w_Trust_trust ({ frames := 6, cells := 1, slots := 6, locals := 104 }) (mx_P [.ref q0, .int i, .int j] (dC, dI) sb [(q0, .inr (10, [.ref fe, .ref ho, .ref ce, .ref li, .ref sh, .ref rs, .ref se, .ref ch, .ref fo, .int foS, .int chS, .int faP, .int feS, .int wrP])), (ce, .inr (11, [.ref e0, .int (nI 0), .int mo]))] [] sz) (va_Qi (fun r (_u : Unit) => False) (mu_B (dC, dI) [] (va_A [(q0, .inr (10, [.ref fe, .ref ho, .ref ce, .ref li, .ref sh, .ref rs, .ref se, .ref ch, .ref fo, .int foS, .int chS, .int faP, .int feS, .int wrP])), (ce, .inr (11, [.ref e0, .int (nI 0), .int mo]))] sz) (fun _ : Unit => [(q0, .inr (10, [.ref fe, .ref ho, .ref ce, .ref li, .ref sh, .ref rs, .ref se, .ref ch, .ref fo, .int foS, .int chS, .int faP, .int feS, .int wrP])), (ce, .inr (11, [.ref e0, .int (nI 0), .int mo]))])) (va_A [(q0, .inr (10, [.ref fe, .ref ho, .ref ce, .ref li, .ref sh, .ref rs, .ref se, .ref ch, .ref fo, .int foS, .int chS, .int faP, .int feS, .int wrP])), (ce, .inr (11, [.ref e0, .int (nI 0), .int mo]))] sz)) (mx_X (fun (E : String) (_u : Unit) => E = "java/lang/IndexOutOfBoundsException") (dC, dI) [] (va_A [(q0, .inr (10, [.ref fe, .ref ho, .ref ce, .ref li, .ref sh, .ref rs, .ref se, .ref ch, .ref fo, .int foS, .int chS, .int faP, .int feS, .int wrP])), (ce, .inr (11, [.ref e0, .int (nI 0), .int mo]))] sz) (fun _ : Unit => [(q0, .inr (10, [.ref fe, .ref ho, .ref ce, .ref li, .ref sh, .ref rs, .ref se, .ref ch, .ref fo, .int foS, .int chS, .int faP, .int feS, .int wrP])), (ce, .inr (11, [.ref e0, .int (nI 0), .int mo]))])) 1 6 (va_A [(q0, .inr (10, [.ref fe, .ref ho, .ref ce, .ref li, .ref sh, .ref rs, .ref se, .ref ch, .ref fo, .int foS, .int chS, .int faP, .int feS, .int wrP])), (ce, .inr (11, [.ref e0, .int (nI 0), .int mo]))] sz) := by
  refine vx_ofW (cc := b_Trust_trust) (maxL := 5) (ret := (some FieldType.boolean)) (by decide) rfl ?_
  intro p e s m args below meth c s₁ B hml hnoh hv
  obtain ⟨rfl, hsz, hB0, hP, hK, hD0, hN, hT0, hTh⟩ := hv
  have hx := B.exec
  have hb := B.bytes
  have hr := B.returns
  have hts := atoms_spec (ws := w_Trust_trust) B.pre
  have tbin : ∀ w ∈ tb, w ∈ w_Trust_trust := fun w h => List.mem_cons_of_mem _ h
  have htb : ∀ w ∈ tb, w.before _ s = true := fun w h => hts w (tbin w h)
  have hown : s.vm.findClass "TrustChain" = some m.cls := findClass_of_methodNamed B.named
  have hlocks := B.notSynchronized
  subst hsz
  have hD := hD0.self (sz := s.heap.size)
  generalize hAe : va_A [(q0, .inr (10, [.ref fe, .ref ho, .ref ce, .ref li, .ref sh, .ref rs, .ref se, .ref ch, .ref fo, .int foS, .int chS, .int faP, .int feS, .int wrP])), (ce, .inr (11, [.ref e0, .int (nI 0), .int mo]))] s.heap.size = A at hD ⊢
  have hA : ∀ q : Nat, s.heap.size ≤ q → A q := fun q h => by rw [← hAe]; exact Or.inr h
  have hAs : ∀ q : Nat, A q → sb.1 ≤ q := fun q h => by
    rw [← hAe] at h
    rcases h with ⟨k, e, h⟩ | h
    · exact hD0.2 k _ h
    · exact Nat.le_trans hB0 h
  have hS : va_S A s.heap s.heap [] := va_S.rf
  have hcs : 1 ≤ (headSpec w_Trust_trust ({ frames := 6, cells := 1, slots := 6, locals := 104 })).room.cells ∧ 6 ≤ (headSpec w_Trust_trust ({ frames := 6, cells := 1, slots := 6, locals := 104 })).room.slots := ⟨Nat.le_refl _, Nat.le_refl _⟩
  have hP : va_P (dC, dI) classes [(q0, .inr (10, [.ref fe, .ref ho, .ref ce, .ref li, .ref sh, .ref rs, .ref se, .ref ch, .ref fo, .int foS, .int chS, .int faP, .int feS, .int wrP])), (ce, .inr (11, [.ref e0, .int (nI 0), .int mo]))] s.heap := hP
  have hl := lv_entry ([.ref q0, .int i, .int j]) (n := 5) (Nat.le_of_ble_eq_true rfl)
  rw [lg_entry_eq]
  generalize (lg_sl ([.ref q0, .int i, .int j]) ++ List.replicate (5 - (lg_sl ([.ref q0, .int i, .int j])).length) Slot.unset).toArray = ls at hl ⊢
  have hl : lv_has ls 5 [(0, .ref q0), (1, .int i), (2, .int j)] := hl
  refine lv_aload_n hx hb d_Trust_trust_0 rfl (lv_at hl 0 rfl) ?_
  refine lv_iload_n hx hb d_Trust_trust_1 rfl (lv_at hl 1 rfl) ?_
  refine vp_callSi (pu_callV (As := [.int i]) (rest := []) ⟨hx, hb, hml, hown, hts⟩ tbin (c_Trust_isStored l dC dI sb q0 fe ho ce li sh rs se ch fo foS chS faP feS wrP e0 0 mo i) q5_137 q5_139 qp_18 q1_1 q5_140 (n := 1) (by decide +kernel) rfl ⟨rfl, rfl⟩ ⟨Nat.le_of_ble_eq_true rfl, Nat.le_of_ble_eq_true rfl⟩ ⟨Nat.le_of_ble_eq_true rfl, Nat.le_of_ble_eq_true rfl⟩ hN (hT0.keep hS hAs) hK hP [0, 1] rfl [] rfl 0 10 rfl rfl rfl hl.1 rfl (Nat.le_of_ble_eq_true rfl) d_Trust_trust_2) (fun r2 hr2 => ?_)
  refine lv_if_ne (tgt := 18) hx hb d_Trust_trust_5 (by decide) (fun c5 => ?_) (fun c5 => ?_)
  · exact absurd (bz_1 hr2 c5) x_no
  obtain ⟨sa, hsa⟩ := hTh.2.2.1 (163, "no such certificate") (by decide)
  exact vx_throwS (own := "TrustChain") (cls := "java/lang/IndexOutOfBoundsException") (text := "no such certificate") (names := xUp) (ik := 74) (is := 163) (ic := 78) (sa := sa) (A := A) hx hb hl0 hown (by decide) (by decide) (htb _ q1_211) (htb _ q1_14) hsa (x_hat x_ot78 x_gd78 x_nw78 htb hN) x_ot78 (hTh.1.narrow hAs) (hTh.2.1.narrow hAs) hS (hl.1.trans hml.symm) d_Trust_trust_8 d_Trust_trust_11 d_Trust_trust_12 d_Trust_trust_14 d_Trust_trust_17 (fun x h => (hnoh x h).elim) (Nat.le_of_ble_eq_true rfl) (Nat.le_of_ble_eq_true rfl) (Nat.le_of_ble_eq_true rfl) (Nat.le_of_ble_eq_true rfl) hlocks (x_end () rfl hP hK hD hS) hS.2.2 (Nat.le_of_ble_eq_true rfl) (Nat.le_of_ble_eq_true rfl)
def y_Trust_covers : MethodName := ⟨"TrustChain", "covers", "(IJJJJ)Z"⟩
abbrev b_Trust_covers : ByteArray := prog_1_method_14_code
def w_Trust_covers : List Cond := Cond.code y_Trust_covers b_Trust_covers 11 ((some FieldType.boolean)) :: tb
theorem d_Trust_covers_0 : decode b_Trust_covers 0 = .ok (.aload_n 0, 1) := by decide +kernel
theorem d_Trust_covers_1 : decode b_Trust_covers 1 = .ok (.iload_n 1, 1) := by decide +kernel
theorem d_Trust_covers_2 : decode b_Trust_covers 2 = .ok (.invokevirtual 160, 3) := by decide +kernel
theorem d_Trust_covers_5 : decode b_Trust_covers 5 = .ok (.ifCond .ne 13, 3) := by decide +kernel
theorem d_Trust_covers_8 : decode b_Trust_covers 8 = .ok (.new 74, 3) := by decide +kernel
theorem d_Trust_covers_11 : decode b_Trust_covers 11 = .ok (.dup, 1) := by decide +kernel
theorem d_Trust_covers_12 : decode b_Trust_covers 12 = .ok (.ldc 163, 2) := by decide +kernel
theorem d_Trust_covers_14 : decode b_Trust_covers 14 = .ok (.invokespecial 78, 3) := by decide +kernel
theorem d_Trust_covers_17 : decode b_Trust_covers 17 = .ok (.athrow, 1) := by decide +kernel
set_option maxHeartbeats 4000000 in
set_option maxRecDepth 100000 in
theorem c0_Trust_covers (l : Launch) (hl0 : l.stackTraces = false) (dC : Nat → ClassId) (dI : Nat → Nat → Nat) (sb : sB) (q0 fe ho ce li sh rs se ch fo : Nat) (foS chS faP feS wrP : Int32) (e0 : Nat) (mo : Int32) (i : Int32) (x0 x1 x2 x3 : Int64) (sz : Nat) : vx_Met l y_Trust_covers w_Trust_covers ({ frames := 6, cells := 1, slots := 6, locals := 104 }) (mx_P [.ref q0, .int i, .long x0, .long x1, .long x2, .long x3] (dC, dI) sb [(q0, .inr (10, [.ref fe, .ref ho, .ref ce, .ref li, .ref sh, .ref rs, .ref se, .ref ch, .ref fo, .int foS, .int chS, .int faP, .int feS, .int wrP])), (ce, .inr (11, [.ref e0, .int (nI 0), .int mo]))] [] sz) (va_Qi (fun r (_u : Unit) => False) (mu_B (dC, dI) [] (va_A [(q0, .inr (10, [.ref fe, .ref ho, .ref ce, .ref li, .ref sh, .ref rs, .ref se, .ref ch, .ref fo, .int foS, .int chS, .int faP, .int feS, .int wrP])), (ce, .inr (11, [.ref e0, .int (nI 0), .int mo]))] sz) (fun _ : Unit => [(q0, .inr (10, [.ref fe, .ref ho, .ref ce, .ref li, .ref sh, .ref rs, .ref se, .ref ch, .ref fo, .int foS, .int chS, .int faP, .int feS, .int wrP])), (ce, .inr (11, [.ref e0, .int (nI 0), .int mo]))])) (va_A [(q0, .inr (10, [.ref fe, .ref ho, .ref ce, .ref li, .ref sh, .ref rs, .ref se, .ref ch, .ref fo, .int foS, .int chS, .int faP, .int feS, .int wrP])), (ce, .inr (11, [.ref e0, .int (nI 0), .int mo]))] sz)) (mx_X (fun (E : String) (_u : Unit) => E = "java/lang/IndexOutOfBoundsException") (dC, dI) [] (va_A [(q0, .inr (10, [.ref fe, .ref ho, .ref ce, .ref li, .ref sh, .ref rs, .ref se, .ref ch, .ref fo, .int foS, .int chS, .int faP, .int feS, .int wrP])), (ce, .inr (11, [.ref e0, .int (nI 0), .int mo]))] sz) (fun _ : Unit => [(q0, .inr (10, [.ref fe, .ref ho, .ref ce, .ref li, .ref sh, .ref rs, .ref se, .ref ch, .ref fo, .int foS, .int chS, .int faP, .int feS, .int wrP])), (ce, .inr (11, [.ref e0, .int (nI 0), .int mo]))])) 1 6 (va_A [(q0, .inr (10, [.ref fe, .ref ho, .ref ce, .ref li, .ref sh, .ref rs, .ref se, .ref ch, .ref fo, .int foS, .int chS, .int faP, .int feS, .int wrP])), (ce, .inr (11, [.ref e0, .int (nI 0), .int mo]))] sz) := by
  refine vx_ofW (cc := b_Trust_covers) (maxL := 11) (ret := (some FieldType.boolean)) (by decide) rfl ?_
  intro p e s m args below meth c s₁ B hml hnoh hv
  obtain ⟨rfl, hsz, hB0, hP, hK, hD0, hN, hT0, hTh⟩ := hv
  have hx := B.exec
  have hb := B.bytes
  have hr := B.returns
  have hts := atoms_spec (ws := w_Trust_covers) B.pre
  have tbin : ∀ w ∈ tb, w ∈ w_Trust_covers := fun w h => List.mem_cons_of_mem _ h
  have htb : ∀ w ∈ tb, w.before _ s = true := fun w h => hts w (tbin w h)
  have hown : s.vm.findClass "TrustChain" = some m.cls := findClass_of_methodNamed B.named
  have hlocks := B.notSynchronized
  subst hsz
  have hD := hD0.self (sz := s.heap.size)
  generalize hAe : va_A [(q0, .inr (10, [.ref fe, .ref ho, .ref ce, .ref li, .ref sh, .ref rs, .ref se, .ref ch, .ref fo, .int foS, .int chS, .int faP, .int feS, .int wrP])), (ce, .inr (11, [.ref e0, .int (nI 0), .int mo]))] s.heap.size = A at hD ⊢
  have hA : ∀ q : Nat, s.heap.size ≤ q → A q := fun q h => by rw [← hAe]; exact Or.inr h
  have hAs : ∀ q : Nat, A q → sb.1 ≤ q := fun q h => by
    rw [← hAe] at h
    rcases h with ⟨k, e, h⟩ | h
    · exact hD0.2 k _ h
    · exact Nat.le_trans hB0 h
  have hS : va_S A s.heap s.heap [] := va_S.rf
  have hcs : 1 ≤ (headSpec w_Trust_covers ({ frames := 6, cells := 1, slots := 6, locals := 104 })).room.cells ∧ 6 ≤ (headSpec w_Trust_covers ({ frames := 6, cells := 1, slots := 6, locals := 104 })).room.slots := ⟨Nat.le_refl _, Nat.le_refl _⟩
  have hP : va_P (dC, dI) classes [(q0, .inr (10, [.ref fe, .ref ho, .ref ce, .ref li, .ref sh, .ref rs, .ref se, .ref ch, .ref fo, .int foS, .int chS, .int faP, .int feS, .int wrP])), (ce, .inr (11, [.ref e0, .int (nI 0), .int mo]))] s.heap := hP
  have hl := lv_entry ([.ref q0, .int i, .long x0, .long x1, .long x2, .long x3]) (n := 11) (Nat.le_of_ble_eq_true rfl)
  rw [lg_entry_eq]
  generalize (lg_sl ([.ref q0, .int i, .long x0, .long x1, .long x2, .long x3]) ++ List.replicate (11 - (lg_sl ([.ref q0, .int i, .long x0, .long x1, .long x2, .long x3])).length) Slot.unset).toArray = ls at hl ⊢
  have hl : lv_has ls 11 [(0, .ref q0), (1, .int i), (2, .long x0), (4, .long x1), (6, .long x2), (8, .long x3)] := hl
  refine lv_aload_n hx hb d_Trust_covers_0 rfl (lv_at hl 0 rfl) ?_
  refine lv_iload_n hx hb d_Trust_covers_1 rfl (lv_at hl 1 rfl) ?_
  refine vp_callSi (pu_callV (As := [.int i]) (rest := []) ⟨hx, hb, hml, hown, hts⟩ tbin (c_Trust_isStored l dC dI sb q0 fe ho ce li sh rs se ch fo foS chS faP feS wrP e0 0 mo i) q5_137 q5_139 qp_18 q1_1 q5_140 (n := 1) (by decide +kernel) rfl ⟨rfl, rfl⟩ ⟨Nat.le_of_ble_eq_true rfl, Nat.le_of_ble_eq_true rfl⟩ ⟨Nat.le_of_ble_eq_true rfl, Nat.le_of_ble_eq_true rfl⟩ hN (hT0.keep hS hAs) hK hP [0, 1] rfl [] rfl 0 10 rfl rfl rfl hl.1 rfl (Nat.le_of_ble_eq_true rfl) d_Trust_covers_2) (fun r2 hr2 => ?_)
  refine lv_if_ne (tgt := 18) hx hb d_Trust_covers_5 (by decide) (fun c5 => ?_) (fun c5 => ?_)
  · exact absurd (bz_1 hr2 c5) x_no
  obtain ⟨sa, hsa⟩ := hTh.2.2.1 (163, "no such certificate") (by decide)
  exact vx_throwS (own := "TrustChain") (cls := "java/lang/IndexOutOfBoundsException") (text := "no such certificate") (names := xUp) (ik := 74) (is := 163) (ic := 78) (sa := sa) (A := A) hx hb hl0 hown (by decide) (by decide) (htb _ q1_211) (htb _ q1_14) hsa (x_hat x_ot78 x_gd78 x_nw78 htb hN) x_ot78 (hTh.1.narrow hAs) (hTh.2.1.narrow hAs) hS (hl.1.trans hml.symm) d_Trust_covers_8 d_Trust_covers_11 d_Trust_covers_12 d_Trust_covers_14 d_Trust_covers_17 (fun x h => (hnoh x h).elim) (Nat.le_of_ble_eq_true rfl) (Nat.le_of_ble_eq_true rfl) (Nat.le_of_ble_eq_true rfl) (Nat.le_of_ble_eq_true rfl) hlocks (x_end () rfl hP hK hD hS) hS.2.2 (Nat.le_of_ble_eq_true rfl) (Nat.le_of_ble_eq_true rfl)
def y_Trust_signed : MethodName := ⟨"TrustChain", "signed", "(ZII)Z"⟩
abbrev b_Trust_signed : ByteArray := prog_1_method_9_code
def w_Trust_signed : List Cond := Cond.code y_Trust_signed b_Trust_signed 5 ((some FieldType.boolean)) :: tb
theorem d_Trust_signed_0 : decode b_Trust_signed 0 = .ok (.aload_n 0, 1) := by decide +kernel
theorem d_Trust_signed_1 : decode b_Trust_signed 1 = .ok (.iload_n 3, 1) := by decide +kernel
theorem d_Trust_signed_2 : decode b_Trust_signed 2 = .ok (.invokevirtual 160, 3) := by decide +kernel
theorem d_Trust_signed_5 : decode b_Trust_signed 5 = .ok (.ifCond .eq 26, 3) := by decide +kernel
theorem d_Trust_signed_8 : decode b_Trust_signed 8 = .ok (.iload_n 1, 1) := by decide +kernel
theorem d_Trust_signed_9 : decode b_Trust_signed 9 = .ok (.ifCond .eq 14, 3) := by decide +kernel
theorem d_Trust_signed_12 : decode b_Trust_signed 12 = .ok (.aload_n 0, 1) := by decide +kernel
theorem d_Trust_signed_13 : decode b_Trust_signed 13 = .ok (.iload_n 2, 1) := by decide +kernel
theorem d_Trust_signed_14 : decode b_Trust_signed 14 = .ok (.invokevirtual 175, 3) := by decide +kernel
theorem d_Trust_signed_17 : decode b_Trust_signed 17 = .ok (.ifCond .ne 24, 3) := by decide +kernel
theorem d_Trust_signed_20 : decode b_Trust_signed 20 = .ok (.goto 11, 3) := by decide +kernel
theorem d_Trust_signed_23 : decode b_Trust_signed 23 = .ok (.aload_n 0, 1) := by decide +kernel
theorem d_Trust_signed_24 : decode b_Trust_signed 24 = .ok (.iload_n 2, 1) := by decide +kernel
theorem d_Trust_signed_25 : decode b_Trust_signed 25 = .ok (.invokevirtual 160, 3) := by decide +kernel
theorem d_Trust_signed_28 : decode b_Trust_signed 28 = .ok (.ifCond .ne 13, 3) := by decide +kernel
theorem d_Trust_signed_31 : decode b_Trust_signed 31 = .ok (.new 74, 3) := by decide +kernel
theorem d_Trust_signed_34 : decode b_Trust_signed 34 = .ok (.dup, 1) := by decide +kernel
theorem d_Trust_signed_35 : decode b_Trust_signed 35 = .ok (.ldc 193, 2) := by decide +kernel
theorem d_Trust_signed_37 : decode b_Trust_signed 37 = .ok (.invokespecial 78, 3) := by decide +kernel
theorem d_Trust_signed_40 : decode b_Trust_signed 40 = .ok (.athrow, 1) := by decide +kernel
set_option maxHeartbeats 4000000 in
set_option maxRecDepth 100000 in
theorem c0_Trust_signed (l : Launch) (hl0 : l.stackTraces = false) (dC : Nat → ClassId) (dI : Nat → Nat → Nat) (sb : sB) (q0 fe ho ce li sh rs se ch fo : Nat) (foS chS faP feS wrP : Int32) (e0 : Nat) (mo : Int32) (h i j : Int32) (sz : Nat) : vx_Met l y_Trust_signed w_Trust_signed ({ frames := 6, cells := 1, slots := 6, locals := 104 }) (mx_P [.ref q0, .int h, .int i, .int j] (dC, dI) sb [(q0, .inr (10, [.ref fe, .ref ho, .ref ce, .ref li, .ref sh, .ref rs, .ref se, .ref ch, .ref fo, .int foS, .int chS, .int faP, .int feS, .int wrP])), (ce, .inr (11, [.ref e0, .int (nI 0), .int mo]))] [] sz) (va_Qi (fun r (_u : Unit) => False) (mu_B (dC, dI) [] (va_A [(q0, .inr (10, [.ref fe, .ref ho, .ref ce, .ref li, .ref sh, .ref rs, .ref se, .ref ch, .ref fo, .int foS, .int chS, .int faP, .int feS, .int wrP])), (ce, .inr (11, [.ref e0, .int (nI 0), .int mo]))] sz) (fun _ : Unit => [(q0, .inr (10, [.ref fe, .ref ho, .ref ce, .ref li, .ref sh, .ref rs, .ref se, .ref ch, .ref fo, .int foS, .int chS, .int faP, .int feS, .int wrP])), (ce, .inr (11, [.ref e0, .int (nI 0), .int mo]))])) (va_A [(q0, .inr (10, [.ref fe, .ref ho, .ref ce, .ref li, .ref sh, .ref rs, .ref se, .ref ch, .ref fo, .int foS, .int chS, .int faP, .int feS, .int wrP])), (ce, .inr (11, [.ref e0, .int (nI 0), .int mo]))] sz)) (mx_X (fun (E : String) (_u : Unit) => E = "java/lang/IndexOutOfBoundsException") (dC, dI) [] (va_A [(q0, .inr (10, [.ref fe, .ref ho, .ref ce, .ref li, .ref sh, .ref rs, .ref se, .ref ch, .ref fo, .int foS, .int chS, .int faP, .int feS, .int wrP])), (ce, .inr (11, [.ref e0, .int (nI 0), .int mo]))] sz) (fun _ : Unit => [(q0, .inr (10, [.ref fe, .ref ho, .ref ce, .ref li, .ref sh, .ref rs, .ref se, .ref ch, .ref fo, .int foS, .int chS, .int faP, .int feS, .int wrP])), (ce, .inr (11, [.ref e0, .int (nI 0), .int mo]))])) 1 6 (va_A [(q0, .inr (10, [.ref fe, .ref ho, .ref ce, .ref li, .ref sh, .ref rs, .ref se, .ref ch, .ref fo, .int foS, .int chS, .int faP, .int feS, .int wrP])), (ce, .inr (11, [.ref e0, .int (nI 0), .int mo]))] sz) := by
  refine vx_ofW (cc := b_Trust_signed) (maxL := 5) (ret := (some FieldType.boolean)) (by decide) rfl ?_
  intro p e s m args below meth c s₁ B hml hnoh hv
  obtain ⟨rfl, hsz, hB0, hP, hK, hD0, hN, hT0, hTh⟩ := hv
  have hx := B.exec
  have hb := B.bytes
  have hr := B.returns
  have hts := atoms_spec (ws := w_Trust_signed) B.pre
  have tbin : ∀ w ∈ tb, w ∈ w_Trust_signed := fun w h => List.mem_cons_of_mem _ h
  have htb : ∀ w ∈ tb, w.before _ s = true := fun w h => hts w (tbin w h)
  have hown : s.vm.findClass "TrustChain" = some m.cls := findClass_of_methodNamed B.named
  have hlocks := B.notSynchronized
  subst hsz
  have hD := hD0.self (sz := s.heap.size)
  generalize hAe : va_A [(q0, .inr (10, [.ref fe, .ref ho, .ref ce, .ref li, .ref sh, .ref rs, .ref se, .ref ch, .ref fo, .int foS, .int chS, .int faP, .int feS, .int wrP])), (ce, .inr (11, [.ref e0, .int (nI 0), .int mo]))] s.heap.size = A at hD ⊢
  have hA : ∀ q : Nat, s.heap.size ≤ q → A q := fun q h => by rw [← hAe]; exact Or.inr h
  have hAs : ∀ q : Nat, A q → sb.1 ≤ q := fun q h => by
    rw [← hAe] at h
    rcases h with ⟨k, e, h⟩ | h
    · exact hD0.2 k _ h
    · exact Nat.le_trans hB0 h
  have hS : va_S A s.heap s.heap [] := va_S.rf
  have hcs : 1 ≤ (headSpec w_Trust_signed ({ frames := 6, cells := 1, slots := 6, locals := 104 })).room.cells ∧ 6 ≤ (headSpec w_Trust_signed ({ frames := 6, cells := 1, slots := 6, locals := 104 })).room.slots := ⟨Nat.le_refl _, Nat.le_refl _⟩
  have hP : va_P (dC, dI) classes [(q0, .inr (10, [.ref fe, .ref ho, .ref ce, .ref li, .ref sh, .ref rs, .ref se, .ref ch, .ref fo, .int foS, .int chS, .int faP, .int feS, .int wrP])), (ce, .inr (11, [.ref e0, .int (nI 0), .int mo]))] s.heap := hP
  have hl := lv_entry ([.ref q0, .int h, .int i, .int j]) (n := 5) (Nat.le_of_ble_eq_true rfl)
  rw [lg_entry_eq]
  generalize (lg_sl ([.ref q0, .int h, .int i, .int j]) ++ List.replicate (5 - (lg_sl ([.ref q0, .int h, .int i, .int j])).length) Slot.unset).toArray = ls at hl ⊢
  have hl : lv_has ls 5 [(0, .ref q0), (1, .int h), (2, .int i), (3, .int j)] := hl
  refine lv_aload_n hx hb d_Trust_signed_0 rfl (lv_at hl 0 rfl) ?_
  refine lv_iload_n hx hb d_Trust_signed_1 rfl (lv_at hl 3 rfl) ?_
  refine vp_callSi (pu_callV (As := [.int j]) (rest := []) ⟨hx, hb, hml, hown, hts⟩ tbin (c_Trust_isStored l dC dI sb q0 fe ho ce li sh rs se ch fo foS chS faP feS wrP e0 0 mo j) q5_137 q5_139 qp_18 q1_1 q5_140 (n := 1) (by decide +kernel) rfl ⟨rfl, rfl⟩ ⟨Nat.le_of_ble_eq_true rfl, Nat.le_of_ble_eq_true rfl⟩ ⟨Nat.le_of_ble_eq_true rfl, Nat.le_of_ble_eq_true rfl⟩ hN (hT0.keep hS hAs) hK hP [0, 1] rfl [] rfl 0 10 rfl rfl rfl hl.1 rfl (Nat.le_of_ble_eq_true rfl) d_Trust_signed_2) (fun r2 hr2 => ?_)
  refine lv_if_eq (tgt := 31) hx hb d_Trust_signed_5 (by decide) (fun c5 => ?_) (fun c5 => ?_)
  rotate_left
  · exact absurd (bz_1 hr2 c5) x_no
  obtain ⟨sa, hsa⟩ := hTh.2.2.1 (193, "no such certificate or list") (by decide)
  exact vx_throwS (own := "TrustChain") (cls := "java/lang/IndexOutOfBoundsException") (text := "no such certificate or list") (names := xUp) (ik := 74) (is := 193) (ic := 78) (sa := sa) (A := A) hx hb hl0 hown (by decide) (by decide) (htb _ q1_211) (htb _ q1_14) hsa (x_hat x_ot78 x_gd78 x_nw78 htb hN) x_ot78 (hTh.1.narrow hAs) (hTh.2.1.narrow hAs) hS (hl.1.trans hml.symm) d_Trust_signed_31 d_Trust_signed_34 d_Trust_signed_35 d_Trust_signed_37 d_Trust_signed_40 (fun x h => (hnoh x h).elim) (Nat.le_of_ble_eq_true rfl) (Nat.le_of_ble_eq_true rfl) (Nat.le_of_ble_eq_true rfl) (Nat.le_of_ble_eq_true rfl) hlocks (x_end () rfl hP hK hD hS) hS.2.2 (Nat.le_of_ble_eq_true rfl) (Nat.le_of_ble_eq_true rfl)
def y_Trust_digest : MethodName := ⟨"TrustChain", "digest", "(II)I"⟩
abbrev b_Trust_digest : ByteArray := prog_1_method_10_code
def w_Trust_digest : List Cond := Cond.code y_Trust_digest b_Trust_digest 3 ((some FieldType.int)) :: tb
theorem d_Trust_digest_0 : decode b_Trust_digest 0 = .ok (.aload_n 0, 1) := by decide +kernel
theorem d_Trust_digest_1 : decode b_Trust_digest 1 = .ok (.iload_n 1, 1) := by decide +kernel
theorem d_Trust_digest_2 : decode b_Trust_digest 2 = .ok (.invokevirtual 160, 3) := by decide +kernel
theorem d_Trust_digest_5 : decode b_Trust_digest 5 = .ok (.ifCond .eq 13, 3) := by decide +kernel
theorem d_Trust_digest_8 : decode b_Trust_digest 8 = .ok (.iload_n 2, 1) := by decide +kernel
theorem d_Trust_digest_9 : decode b_Trust_digest 9 = .ok (.ifCond .lt 9, 3) := by decide +kernel
theorem d_Trust_digest_12 : decode b_Trust_digest 12 = .ok (.iload_n 2, 1) := by decide +kernel
theorem d_Trust_digest_13 : decode b_Trust_digest 13 = .ok (.bipush 8, 2) := by decide +kernel
theorem d_Trust_digest_15 : decode b_Trust_digest 15 = .ok (.if_icmp .lt 13, 3) := by decide +kernel
theorem d_Trust_digest_18 : decode b_Trust_digest 18 = .ok (.new 74, 3) := by decide +kernel
theorem d_Trust_digest_21 : decode b_Trust_digest 21 = .ok (.dup, 1) := by decide +kernel
theorem d_Trust_digest_22 : decode b_Trust_digest 22 = .ok (.ldc 199, 2) := by decide +kernel
theorem d_Trust_digest_24 : decode b_Trust_digest 24 = .ok (.invokespecial 78, 3) := by decide +kernel
theorem d_Trust_digest_27 : decode b_Trust_digest 27 = .ok (.athrow, 1) := by decide +kernel
set_option maxHeartbeats 4000000 in
set_option maxRecDepth 100000 in
theorem c0_Trust_digest (l : Launch) (hl0 : l.stackTraces = false) (dC : Nat → ClassId) (dI : Nat → Nat → Nat) (sb : sB) (q0 fe ho ce li sh rs se ch fo : Nat) (foS chS faP feS wrP : Int32) (e0 : Nat) (mo : Int32) (i j : Int32) (sz : Nat) : vx_Met l y_Trust_digest w_Trust_digest ({ frames := 6, cells := 1, slots := 6, locals := 104 }) (mx_P [.ref q0, .int i, .int j] (dC, dI) sb [(q0, .inr (10, [.ref fe, .ref ho, .ref ce, .ref li, .ref sh, .ref rs, .ref se, .ref ch, .ref fo, .int foS, .int chS, .int faP, .int feS, .int wrP])), (ce, .inr (11, [.ref e0, .int (nI 0), .int mo]))] [] sz) (va_Qi (fun r (_u : Unit) => False) (mu_B (dC, dI) [] (va_A [(q0, .inr (10, [.ref fe, .ref ho, .ref ce, .ref li, .ref sh, .ref rs, .ref se, .ref ch, .ref fo, .int foS, .int chS, .int faP, .int feS, .int wrP])), (ce, .inr (11, [.ref e0, .int (nI 0), .int mo]))] sz) (fun _ : Unit => [(q0, .inr (10, [.ref fe, .ref ho, .ref ce, .ref li, .ref sh, .ref rs, .ref se, .ref ch, .ref fo, .int foS, .int chS, .int faP, .int feS, .int wrP])), (ce, .inr (11, [.ref e0, .int (nI 0), .int mo]))])) (va_A [(q0, .inr (10, [.ref fe, .ref ho, .ref ce, .ref li, .ref sh, .ref rs, .ref se, .ref ch, .ref fo, .int foS, .int chS, .int faP, .int feS, .int wrP])), (ce, .inr (11, [.ref e0, .int (nI 0), .int mo]))] sz)) (mx_X (fun (E : String) (_u : Unit) => E = "java/lang/IndexOutOfBoundsException") (dC, dI) [] (va_A [(q0, .inr (10, [.ref fe, .ref ho, .ref ce, .ref li, .ref sh, .ref rs, .ref se, .ref ch, .ref fo, .int foS, .int chS, .int faP, .int feS, .int wrP])), (ce, .inr (11, [.ref e0, .int (nI 0), .int mo]))] sz) (fun _ : Unit => [(q0, .inr (10, [.ref fe, .ref ho, .ref ce, .ref li, .ref sh, .ref rs, .ref se, .ref ch, .ref fo, .int foS, .int chS, .int faP, .int feS, .int wrP])), (ce, .inr (11, [.ref e0, .int (nI 0), .int mo]))])) 1 6 (va_A [(q0, .inr (10, [.ref fe, .ref ho, .ref ce, .ref li, .ref sh, .ref rs, .ref se, .ref ch, .ref fo, .int foS, .int chS, .int faP, .int feS, .int wrP])), (ce, .inr (11, [.ref e0, .int (nI 0), .int mo]))] sz) := by
  refine vx_ofW (cc := b_Trust_digest) (maxL := 3) (ret := (some FieldType.int)) (by decide) rfl ?_
  intro p e s m args below meth c s₁ B hml hnoh hv
  obtain ⟨rfl, hsz, hB0, hP, hK, hD0, hN, hT0, hTh⟩ := hv
  have hx := B.exec
  have hb := B.bytes
  have hr := B.returns
  have hts := atoms_spec (ws := w_Trust_digest) B.pre
  have tbin : ∀ w ∈ tb, w ∈ w_Trust_digest := fun w h => List.mem_cons_of_mem _ h
  have htb : ∀ w ∈ tb, w.before _ s = true := fun w h => hts w (tbin w h)
  have hown : s.vm.findClass "TrustChain" = some m.cls := findClass_of_methodNamed B.named
  have hlocks := B.notSynchronized
  subst hsz
  have hD := hD0.self (sz := s.heap.size)
  generalize hAe : va_A [(q0, .inr (10, [.ref fe, .ref ho, .ref ce, .ref li, .ref sh, .ref rs, .ref se, .ref ch, .ref fo, .int foS, .int chS, .int faP, .int feS, .int wrP])), (ce, .inr (11, [.ref e0, .int (nI 0), .int mo]))] s.heap.size = A at hD ⊢
  have hA : ∀ q : Nat, s.heap.size ≤ q → A q := fun q h => by rw [← hAe]; exact Or.inr h
  have hAs : ∀ q : Nat, A q → sb.1 ≤ q := fun q h => by
    rw [← hAe] at h
    rcases h with ⟨k, e, h⟩ | h
    · exact hD0.2 k _ h
    · exact Nat.le_trans hB0 h
  have hS : va_S A s.heap s.heap [] := va_S.rf
  have hcs : 1 ≤ (headSpec w_Trust_digest ({ frames := 6, cells := 1, slots := 6, locals := 104 })).room.cells ∧ 6 ≤ (headSpec w_Trust_digest ({ frames := 6, cells := 1, slots := 6, locals := 104 })).room.slots := ⟨Nat.le_refl _, Nat.le_refl _⟩
  have hP : va_P (dC, dI) classes [(q0, .inr (10, [.ref fe, .ref ho, .ref ce, .ref li, .ref sh, .ref rs, .ref se, .ref ch, .ref fo, .int foS, .int chS, .int faP, .int feS, .int wrP])), (ce, .inr (11, [.ref e0, .int (nI 0), .int mo]))] s.heap := hP
  have hl := lv_entry ([.ref q0, .int i, .int j]) (n := 3) (Nat.le_of_ble_eq_true rfl)
  rw [lg_entry_eq]
  generalize (lg_sl ([.ref q0, .int i, .int j]) ++ List.replicate (3 - (lg_sl ([.ref q0, .int i, .int j])).length) Slot.unset).toArray = ls at hl ⊢
  have hl : lv_has ls 3 [(0, .ref q0), (1, .int i), (2, .int j)] := hl
  refine lv_aload_n hx hb d_Trust_digest_0 rfl (lv_at hl 0 rfl) ?_
  refine lv_iload_n hx hb d_Trust_digest_1 rfl (lv_at hl 1 rfl) ?_
  refine vp_callSi (pu_callV (As := [.int i]) (rest := []) ⟨hx, hb, hml, hown, hts⟩ tbin (c_Trust_isStored l dC dI sb q0 fe ho ce li sh rs se ch fo foS chS faP feS wrP e0 0 mo i) q5_137 q5_139 qp_18 q1_1 q5_140 (n := 1) (by decide +kernel) rfl ⟨rfl, rfl⟩ ⟨Nat.le_of_ble_eq_true rfl, Nat.le_of_ble_eq_true rfl⟩ ⟨Nat.le_of_ble_eq_true rfl, Nat.le_of_ble_eq_true rfl⟩ hN (hT0.keep hS hAs) hK hP [0, 1] rfl [] rfl 0 10 rfl rfl rfl hl.1 rfl (Nat.le_of_ble_eq_true rfl) d_Trust_digest_2) (fun r2 hr2 => ?_)
  refine lv_if_eq (tgt := 18) hx hb d_Trust_digest_5 (by decide) (fun c5 => ?_) (fun c5 => ?_)
  rotate_left
  · exact absurd (bz_1 hr2 c5) x_no
  obtain ⟨sa, hsa⟩ := hTh.2.2.1 (199, "no such certificate or word") (by decide)
  exact vx_throwS (own := "TrustChain") (cls := "java/lang/IndexOutOfBoundsException") (text := "no such certificate or word") (names := xUp) (ik := 74) (is := 199) (ic := 78) (sa := sa) (A := A) hx hb hl0 hown (by decide) (by decide) (htb _ q1_211) (htb _ q1_14) hsa (x_hat x_ot78 x_gd78 x_nw78 htb hN) x_ot78 (hTh.1.narrow hAs) (hTh.2.1.narrow hAs) hS (hl.1.trans hml.symm) d_Trust_digest_18 d_Trust_digest_21 d_Trust_digest_22 d_Trust_digest_24 d_Trust_digest_27 (fun x h => (hnoh x h).elim) (Nat.le_of_ble_eq_true rfl) (Nat.le_of_ble_eq_true rfl) (Nat.le_of_ble_eq_true rfl) (Nat.le_of_ble_eq_true rfl) hlocks (x_end () rfl hP hK hD hS) hS.2.2 (Nat.le_of_ble_eq_true rfl) (Nat.le_of_ble_eq_true rfl)
def y_Trust_part : MethodName := ⟨"TrustChain", "part", "(II)J"⟩
abbrev b_Trust_part : ByteArray := prog_1_method_7_code
def w_Trust_part : List Cond := Cond.code y_Trust_part b_Trust_part 3 ((some FieldType.long)) :: tb
theorem d_Trust_part_0 : decode b_Trust_part 0 = .ok (.iload_n 2, 1) := by decide +kernel
theorem d_Trust_part_1 : decode b_Trust_part 1 = .ok (.ifCond .lt 9, 3) := by decide +kernel
theorem d_Trust_part_4 : decode b_Trust_part 4 = .ok (.iload_n 2, 1) := by decide +kernel
theorem d_Trust_part_5 : decode b_Trust_part 5 = .ok (.bipush 11, 2) := by decide +kernel
theorem d_Trust_part_7 : decode b_Trust_part 7 = .ok (.if_icmp .le 13, 3) := by decide +kernel
theorem d_Trust_part_10 : decode b_Trust_part 10 = .ok (.new 110, 3) := by decide +kernel
theorem d_Trust_part_13 : decode b_Trust_part 13 = .ok (.dup, 1) := by decide +kernel
theorem d_Trust_part_14 : decode b_Trust_part 14 = .ok (.ldc 169, 2) := by decide +kernel
theorem d_Trust_part_16 : decode b_Trust_part 16 = .ok (.invokespecial 114, 3) := by decide +kernel
theorem d_Trust_part_19 : decode b_Trust_part 19 = .ok (.athrow, 1) := by decide +kernel
theorem d_Trust_part_20 : decode b_Trust_part 20 = .ok (.aload_n 0, 1) := by decide +kernel
theorem d_Trust_part_21 : decode b_Trust_part 21 = .ok (.iload_n 1, 1) := by decide +kernel
theorem d_Trust_part_22 : decode b_Trust_part 22 = .ok (.invokevirtual 160, 3) := by decide +kernel
theorem d_Trust_part_25 : decode b_Trust_part 25 = .ok (.ifCond .ne 13, 3) := by decide +kernel
theorem d_Trust_part_28 : decode b_Trust_part 28 = .ok (.new 74, 3) := by decide +kernel
theorem d_Trust_part_31 : decode b_Trust_part 31 = .ok (.dup, 1) := by decide +kernel
theorem d_Trust_part_32 : decode b_Trust_part 32 = .ok (.ldc 163, 2) := by decide +kernel
theorem d_Trust_part_34 : decode b_Trust_part 34 = .ok (.invokespecial 78, 3) := by decide +kernel
theorem d_Trust_part_37 : decode b_Trust_part 37 = .ok (.athrow, 1) := by decide +kernel
set_option maxHeartbeats 4000000 in
set_option maxRecDepth 100000 in
theorem c0_Trust_part (l : Launch) (hl0 : l.stackTraces = false) (dC : Nat → ClassId) (dI : Nat → Nat → Nat) (sb : sB) (q0 fe ho ce li sh rs se ch fo : Nat) (foS chS faP feS wrP : Int32) (e0 : Nat) (mo : Int32) (i j : Int32) (sz : Nat) : vx_Met l y_Trust_part w_Trust_part ({ frames := 6, cells := 1, slots := 6, locals := 104 }) (mx_P [.ref q0, .int i, .int j] (dC, dI) sb [(q0, .inr (10, [.ref fe, .ref ho, .ref ce, .ref li, .ref sh, .ref rs, .ref se, .ref ch, .ref fo, .int foS, .int chS, .int faP, .int feS, .int wrP])), (ce, .inr (11, [.ref e0, .int (nI 0), .int mo]))] [] sz) (va_Ql (fun r (_u : Unit) => False) (mu_B (dC, dI) [] (va_A [(q0, .inr (10, [.ref fe, .ref ho, .ref ce, .ref li, .ref sh, .ref rs, .ref se, .ref ch, .ref fo, .int foS, .int chS, .int faP, .int feS, .int wrP])), (ce, .inr (11, [.ref e0, .int (nI 0), .int mo]))] sz) (fun _ : Unit => [(q0, .inr (10, [.ref fe, .ref ho, .ref ce, .ref li, .ref sh, .ref rs, .ref se, .ref ch, .ref fo, .int foS, .int chS, .int faP, .int feS, .int wrP])), (ce, .inr (11, [.ref e0, .int (nI 0), .int mo]))])) (va_A [(q0, .inr (10, [.ref fe, .ref ho, .ref ce, .ref li, .ref sh, .ref rs, .ref se, .ref ch, .ref fo, .int foS, .int chS, .int faP, .int feS, .int wrP])), (ce, .inr (11, [.ref e0, .int (nI 0), .int mo]))] sz)) (mx_X (fun (E : String) (_u : Unit) => E = (if j < 0 ∨ 11 < j then "java/lang/IllegalArgumentException" else "java/lang/IndexOutOfBoundsException")) (dC, dI) [] (va_A [(q0, .inr (10, [.ref fe, .ref ho, .ref ce, .ref li, .ref sh, .ref rs, .ref se, .ref ch, .ref fo, .int foS, .int chS, .int faP, .int feS, .int wrP])), (ce, .inr (11, [.ref e0, .int (nI 0), .int mo]))] sz) (fun _ : Unit => [(q0, .inr (10, [.ref fe, .ref ho, .ref ce, .ref li, .ref sh, .ref rs, .ref se, .ref ch, .ref fo, .int foS, .int chS, .int faP, .int feS, .int wrP])), (ce, .inr (11, [.ref e0, .int (nI 0), .int mo]))])) 1 6 (va_A [(q0, .inr (10, [.ref fe, .ref ho, .ref ce, .ref li, .ref sh, .ref rs, .ref se, .ref ch, .ref fo, .int foS, .int chS, .int faP, .int feS, .int wrP])), (ce, .inr (11, [.ref e0, .int (nI 0), .int mo]))] sz) := by
  refine vx_ofW (cc := b_Trust_part) (maxL := 3) (ret := (some FieldType.long)) (by decide) rfl ?_
  intro p e s m args below meth c s₁ B hml hnoh hv
  obtain ⟨rfl, hsz, hB0, hP, hK, hD0, hN, hT0, hTh⟩ := hv
  have hx := B.exec
  have hb := B.bytes
  have hr := B.returns
  have hts := atoms_spec (ws := w_Trust_part) B.pre
  have tbin : ∀ w ∈ tb, w ∈ w_Trust_part := fun w h => List.mem_cons_of_mem _ h
  have htb : ∀ w ∈ tb, w.before _ s = true := fun w h => hts w (tbin w h)
  have hown : s.vm.findClass "TrustChain" = some m.cls := findClass_of_methodNamed B.named
  have hlocks := B.notSynchronized
  subst hsz
  have hD := hD0.self (sz := s.heap.size)
  generalize hAe : va_A [(q0, .inr (10, [.ref fe, .ref ho, .ref ce, .ref li, .ref sh, .ref rs, .ref se, .ref ch, .ref fo, .int foS, .int chS, .int faP, .int feS, .int wrP])), (ce, .inr (11, [.ref e0, .int (nI 0), .int mo]))] s.heap.size = A at hD ⊢
  have hA : ∀ q : Nat, s.heap.size ≤ q → A q := fun q h => by rw [← hAe]; exact Or.inr h
  have hAs : ∀ q : Nat, A q → sb.1 ≤ q := fun q h => by
    rw [← hAe] at h
    rcases h with ⟨k, e, h⟩ | h
    · exact hD0.2 k _ h
    · exact Nat.le_trans hB0 h
  have hS : va_S A s.heap s.heap [] := va_S.rf
  have hcs : 1 ≤ (headSpec w_Trust_part ({ frames := 6, cells := 1, slots := 6, locals := 104 })).room.cells ∧ 6 ≤ (headSpec w_Trust_part ({ frames := 6, cells := 1, slots := 6, locals := 104 })).room.slots := ⟨Nat.le_refl _, Nat.le_refl _⟩
  have hP : va_P (dC, dI) classes [(q0, .inr (10, [.ref fe, .ref ho, .ref ce, .ref li, .ref sh, .ref rs, .ref se, .ref ch, .ref fo, .int foS, .int chS, .int faP, .int feS, .int wrP])), (ce, .inr (11, [.ref e0, .int (nI 0), .int mo]))] s.heap := hP
  have hl := lv_entry ([.ref q0, .int i, .int j]) (n := 3) (Nat.le_of_ble_eq_true rfl)
  rw [lg_entry_eq]
  generalize (lg_sl ([.ref q0, .int i, .int j]) ++ List.replicate (3 - (lg_sl ([.ref q0, .int i, .int j])).length) Slot.unset).toArray = ls at hl ⊢
  have hl : lv_has ls 3 [(0, .ref q0), (1, .int i), (2, .int j)] := hl
  refine lv_iload_n hx hb d_Trust_part_0 rfl (lv_at hl 2 rfl) ?_
  refine lv_if_lt (tgt := 10) hx hb d_Trust_part_1 (by decide) (fun c1 => ?_) (fun c1 => ?_)
  · obtain ⟨sa, hsa⟩ := hTh.2.2.1 (169, "no such part") (by decide)
    exact vx_throwS (own := "TrustChain") (cls := "java/lang/IllegalArgumentException") (text := "no such part") (names := xUp) (ik := 110) (is := 169) (ic := 114) (sa := sa) (A := A) hx hb hl0 hown (by decide) (by decide) (htb _ q4_233) (htb _ q1_27) hsa (x_hat x_ot114 x_gd114 x_nw114 htb hN) x_ot114 (hTh.1.narrow hAs) (hTh.2.1.narrow hAs) hS (hl.1.trans hml.symm) d_Trust_part_10 d_Trust_part_13 d_Trust_part_14 d_Trust_part_16 d_Trust_part_19 (fun x h => (hnoh x h).elim) (Nat.le_of_ble_eq_true rfl) (Nat.le_of_ble_eq_true rfl) (Nat.le_of_ble_eq_true rfl) (Nat.le_of_ble_eq_true rfl) hlocks (x_end () (if_pos (by first | exact Or.inl (by assumption) | exact Or.inr (Int32.not_le.mp (by assumption)))).symm hP hK hD hS) hS.2.2 (Nat.le_of_ble_eq_true rfl) (Nat.le_of_ble_eq_true rfl)
  · refine lv_iload_n hx hb d_Trust_part_4 rfl (lv_at hl 2 rfl) ?_
    refine lv_bipush (v := 11) hx hb d_Trust_part_5 (by decide) ?_
    refine lv_icmp_le (tgt := 20) hx hb d_Trust_part_7 (by decide) (fun c7 => ?_) (fun c7 => ?_)
    · refine lv_aload_n hx hb d_Trust_part_20 rfl (lv_at hl 0 rfl) ?_
      refine lv_iload_n hx hb d_Trust_part_21 rfl (lv_at hl 1 rfl) ?_
      refine vp_callSi (pu_callV (As := [.int i]) (rest := []) ⟨hx, hb, hml, hown, hts⟩ tbin (c_Trust_isStored l dC dI sb q0 fe ho ce li sh rs se ch fo foS chS faP feS wrP e0 0 mo i) q5_137 q5_139 qp_18 q1_1 q5_140 (n := 1) (by decide +kernel) rfl ⟨rfl, rfl⟩ ⟨Nat.le_of_ble_eq_true rfl, Nat.le_of_ble_eq_true rfl⟩ ⟨Nat.le_of_ble_eq_true rfl, Nat.le_of_ble_eq_true rfl⟩ hN (hT0.keep hS hAs) hK hP [0, 1] rfl [] rfl 0 10 rfl rfl rfl hl.1 rfl (Nat.le_of_ble_eq_true rfl) d_Trust_part_22) (fun r22 hr22 => ?_)
      refine lv_if_ne (tgt := 38) hx hb d_Trust_part_25 (by decide) (fun c25 => ?_) (fun c25 => ?_)
      · exact absurd (bz_1 hr22 c25) x_no
      obtain ⟨sa, hsa⟩ := hTh.2.2.1 (163, "no such certificate") (by decide)
      exact vx_throwS (own := "TrustChain") (cls := "java/lang/IndexOutOfBoundsException") (text := "no such certificate") (names := xUp) (ik := 74) (is := 163) (ic := 78) (sa := sa) (A := A) hx hb hl0 hown (by decide) (by decide) (htb _ q1_211) (htb _ q1_14) hsa (x_hat x_ot78 x_gd78 x_nw78 htb hN) x_ot78 (hTh.1.narrow hAs) (hTh.2.1.narrow hAs) hS (hl.1.trans hml.symm) d_Trust_part_28 d_Trust_part_31 d_Trust_part_32 d_Trust_part_34 d_Trust_part_37 (fun x h => (hnoh x h).elim) (Nat.le_of_ble_eq_true rfl) (Nat.le_of_ble_eq_true rfl) (Nat.le_of_ble_eq_true rfl) (Nat.le_of_ble_eq_true rfl) hlocks (x_end () (if_neg (fun q => q.elim (by assumption) (by first | assumption | exact fun z => absurd z (Int32.not_lt.mpr (by assumption))))).symm hP hK hD hS) hS.2.2 (Nat.le_of_ble_eq_true rfl) (Nat.le_of_ble_eq_true rfl)
    · obtain ⟨sa, hsa⟩ := hTh.2.2.1 (169, "no such part") (by decide)
      exact vx_throwS (own := "TrustChain") (cls := "java/lang/IllegalArgumentException") (text := "no such part") (names := xUp) (ik := 110) (is := 169) (ic := 114) (sa := sa) (A := A) hx hb hl0 hown (by decide) (by decide) (htb _ q4_233) (htb _ q1_27) hsa (x_hat x_ot114 x_gd114 x_nw114 htb hN) x_ot114 (hTh.1.narrow hAs) (hTh.2.1.narrow hAs) hS (hl.1.trans hml.symm) d_Trust_part_10 d_Trust_part_13 d_Trust_part_14 d_Trust_part_16 d_Trust_part_19 (fun x h => (hnoh x h).elim) (Nat.le_of_ble_eq_true rfl) (Nat.le_of_ble_eq_true rfl) (Nat.le_of_ble_eq_true rfl) (Nat.le_of_ble_eq_true rfl) hlocks (x_end () (if_pos (by first | exact Or.inl (by assumption) | exact Or.inr (Int32.not_le.mp (by assumption)))).symm hP hK hD hS) hS.2.2 (Nat.le_of_ble_eq_true rfl) (Nat.le_of_ble_eq_true rfl)
def y_Trust_listPart : MethodName := ⟨"TrustChain", "listPart", "(II)J"⟩
abbrev b_Trust_listPart : ByteArray := prog_1_method_8_code
def w_Trust_listPart : List Cond := Cond.code y_Trust_listPart b_Trust_listPart 4 ((some FieldType.long)) :: tb
theorem d_Trust_listPart_0 : decode b_Trust_listPart 0 = .ok (.iload_n 2, 1) := by decide +kernel
theorem d_Trust_listPart_1 : decode b_Trust_listPart 1 = .ok (.ifCond .lt 8, 3) := by decide +kernel
theorem d_Trust_listPart_4 : decode b_Trust_listPart 4 = .ok (.iload_n 2, 1) := by decide +kernel
theorem d_Trust_listPart_5 : decode b_Trust_listPart 5 = .ok (.iconst 3, 1) := by decide +kernel
theorem d_Trust_listPart_6 : decode b_Trust_listPart 6 = .ok (.if_icmp .le 13, 3) := by decide +kernel
theorem d_Trust_listPart_9 : decode b_Trust_listPart 9 = .ok (.new 110, 3) := by decide +kernel
theorem d_Trust_listPart_12 : decode b_Trust_listPart 12 = .ok (.dup, 1) := by decide +kernel
theorem d_Trust_listPart_13 : decode b_Trust_listPart 13 = .ok (.ldc 169, 2) := by decide +kernel
theorem d_Trust_listPart_15 : decode b_Trust_listPart 15 = .ok (.invokespecial 114, 3) := by decide +kernel
theorem d_Trust_listPart_18 : decode b_Trust_listPart 18 = .ok (.athrow, 1) := by decide +kernel
theorem d_Trust_listPart_19 : decode b_Trust_listPart 19 = .ok (.aload_n 0, 1) := by decide +kernel
theorem d_Trust_listPart_20 : decode b_Trust_listPart 20 = .ok (.iload_n 1, 1) := by decide +kernel
theorem d_Trust_listPart_21 : decode b_Trust_listPart 21 = .ok (.invokevirtual 175, 3) := by decide +kernel
theorem d_Trust_listPart_24 : decode b_Trust_listPart 24 = .ok (.ifCond .ne 13, 3) := by decide +kernel
theorem d_Trust_listPart_27 : decode b_Trust_listPart 27 = .ok (.new 74, 3) := by decide +kernel
theorem d_Trust_listPart_30 : decode b_Trust_listPart 30 = .ok (.dup, 1) := by decide +kernel
theorem d_Trust_listPart_31 : decode b_Trust_listPart 31 = .ok (.ldc 178, 2) := by decide +kernel
theorem d_Trust_listPart_33 : decode b_Trust_listPart 33 = .ok (.invokespecial 78, 3) := by decide +kernel
theorem d_Trust_listPart_36 : decode b_Trust_listPart 36 = .ok (.athrow, 1) := by decide +kernel
set_option maxHeartbeats 4000000 in
set_option maxRecDepth 100000 in
theorem c0_Trust_listPart (l : Launch) (hl0 : l.stackTraces = false) (dC : Nat → ClassId) (dI : Nat → Nat → Nat) (sb : sB) (q0 fe ho ce li sh rs se ch fo : Nat) (foS chS faP feS wrP : Int32) (e1 : Nat) (mp : Int32) (i j : Int32) (sz : Nat) : vx_Met l y_Trust_listPart w_Trust_listPart ({ frames := 6, cells := 1, slots := 6, locals := 104 }) (mx_P [.ref q0, .int i, .int j] (dC, dI) sb [(q0, .inr (10, [.ref fe, .ref ho, .ref ce, .ref li, .ref sh, .ref rs, .ref se, .ref ch, .ref fo, .int foS, .int chS, .int faP, .int feS, .int wrP])), (li, .inr (11, [.ref e1, .int (nI 0), .int mp]))] [] sz) (va_Ql (fun r (_u : Unit) => False) (mu_B (dC, dI) [] (va_A [(q0, .inr (10, [.ref fe, .ref ho, .ref ce, .ref li, .ref sh, .ref rs, .ref se, .ref ch, .ref fo, .int foS, .int chS, .int faP, .int feS, .int wrP])), (li, .inr (11, [.ref e1, .int (nI 0), .int mp]))] sz) (fun _ : Unit => [(q0, .inr (10, [.ref fe, .ref ho, .ref ce, .ref li, .ref sh, .ref rs, .ref se, .ref ch, .ref fo, .int foS, .int chS, .int faP, .int feS, .int wrP])), (li, .inr (11, [.ref e1, .int (nI 0), .int mp]))])) (va_A [(q0, .inr (10, [.ref fe, .ref ho, .ref ce, .ref li, .ref sh, .ref rs, .ref se, .ref ch, .ref fo, .int foS, .int chS, .int faP, .int feS, .int wrP])), (li, .inr (11, [.ref e1, .int (nI 0), .int mp]))] sz)) (mx_X (fun (E : String) (_u : Unit) => E = (if j < 0 ∨ 3 < j then "java/lang/IllegalArgumentException" else "java/lang/IndexOutOfBoundsException")) (dC, dI) [] (va_A [(q0, .inr (10, [.ref fe, .ref ho, .ref ce, .ref li, .ref sh, .ref rs, .ref se, .ref ch, .ref fo, .int foS, .int chS, .int faP, .int feS, .int wrP])), (li, .inr (11, [.ref e1, .int (nI 0), .int mp]))] sz) (fun _ : Unit => [(q0, .inr (10, [.ref fe, .ref ho, .ref ce, .ref li, .ref sh, .ref rs, .ref se, .ref ch, .ref fo, .int foS, .int chS, .int faP, .int feS, .int wrP])), (li, .inr (11, [.ref e1, .int (nI 0), .int mp]))])) 1 6 (va_A [(q0, .inr (10, [.ref fe, .ref ho, .ref ce, .ref li, .ref sh, .ref rs, .ref se, .ref ch, .ref fo, .int foS, .int chS, .int faP, .int feS, .int wrP])), (li, .inr (11, [.ref e1, .int (nI 0), .int mp]))] sz) := by
  refine vx_ofW (cc := b_Trust_listPart) (maxL := 4) (ret := (some FieldType.long)) (by decide) rfl ?_
  intro p e s m args below meth c s₁ B hml hnoh hv
  obtain ⟨rfl, hsz, hB0, hP, hK, hD0, hN, hT0, hTh⟩ := hv
  have hx := B.exec
  have hb := B.bytes
  have hr := B.returns
  have hts := atoms_spec (ws := w_Trust_listPart) B.pre
  have tbin : ∀ w ∈ tb, w ∈ w_Trust_listPart := fun w h => List.mem_cons_of_mem _ h
  have htb : ∀ w ∈ tb, w.before _ s = true := fun w h => hts w (tbin w h)
  have hown : s.vm.findClass "TrustChain" = some m.cls := findClass_of_methodNamed B.named
  have hlocks := B.notSynchronized
  subst hsz
  have hD := hD0.self (sz := s.heap.size)
  generalize hAe : va_A [(q0, .inr (10, [.ref fe, .ref ho, .ref ce, .ref li, .ref sh, .ref rs, .ref se, .ref ch, .ref fo, .int foS, .int chS, .int faP, .int feS, .int wrP])), (li, .inr (11, [.ref e1, .int (nI 0), .int mp]))] s.heap.size = A at hD ⊢
  have hA : ∀ q : Nat, s.heap.size ≤ q → A q := fun q h => by rw [← hAe]; exact Or.inr h
  have hAs : ∀ q : Nat, A q → sb.1 ≤ q := fun q h => by
    rw [← hAe] at h
    rcases h with ⟨k, e, h⟩ | h
    · exact hD0.2 k _ h
    · exact Nat.le_trans hB0 h
  have hS : va_S A s.heap s.heap [] := va_S.rf
  have hcs : 1 ≤ (headSpec w_Trust_listPart ({ frames := 6, cells := 1, slots := 6, locals := 104 })).room.cells ∧ 6 ≤ (headSpec w_Trust_listPart ({ frames := 6, cells := 1, slots := 6, locals := 104 })).room.slots := ⟨Nat.le_refl _, Nat.le_refl _⟩
  have hP : va_P (dC, dI) classes [(q0, .inr (10, [.ref fe, .ref ho, .ref ce, .ref li, .ref sh, .ref rs, .ref se, .ref ch, .ref fo, .int foS, .int chS, .int faP, .int feS, .int wrP])), (li, .inr (11, [.ref e1, .int (nI 0), .int mp]))] s.heap := hP
  have hl := lv_entry ([.ref q0, .int i, .int j]) (n := 4) (Nat.le_of_ble_eq_true rfl)
  rw [lg_entry_eq]
  generalize (lg_sl ([.ref q0, .int i, .int j]) ++ List.replicate (4 - (lg_sl ([.ref q0, .int i, .int j])).length) Slot.unset).toArray = ls at hl ⊢
  have hl : lv_has ls 4 [(0, .ref q0), (1, .int i), (2, .int j)] := hl
  refine lv_iload_n hx hb d_Trust_listPart_0 rfl (lv_at hl 2 rfl) ?_
  refine lv_if_lt (tgt := 9) hx hb d_Trust_listPart_1 (by decide) (fun c1 => ?_) (fun c1 => ?_)
  · obtain ⟨sa, hsa⟩ := hTh.2.2.1 (169, "no such part") (by decide)
    exact vx_throwS (own := "TrustChain") (cls := "java/lang/IllegalArgumentException") (text := "no such part") (names := xUp) (ik := 110) (is := 169) (ic := 114) (sa := sa) (A := A) hx hb hl0 hown (by decide) (by decide) (htb _ q4_233) (htb _ q1_27) hsa (x_hat x_ot114 x_gd114 x_nw114 htb hN) x_ot114 (hTh.1.narrow hAs) (hTh.2.1.narrow hAs) hS (hl.1.trans hml.symm) d_Trust_listPart_9 d_Trust_listPart_12 d_Trust_listPart_13 d_Trust_listPart_15 d_Trust_listPart_18 (fun x h => (hnoh x h).elim) (Nat.le_of_ble_eq_true rfl) (Nat.le_of_ble_eq_true rfl) (Nat.le_of_ble_eq_true rfl) (Nat.le_of_ble_eq_true rfl) hlocks (x_end () (if_pos (by first | exact Or.inl (by assumption) | exact Or.inr (Int32.not_le.mp (by assumption)))).symm hP hK hD hS) hS.2.2 (Nat.le_of_ble_eq_true rfl) (Nat.le_of_ble_eq_true rfl)
  · refine lv_iload_n hx hb d_Trust_listPart_4 rfl (lv_at hl 2 rfl) ?_
    refine lv_iconst (v := 3) hx hb d_Trust_listPart_5 (by decide) ?_
    refine lv_icmp_le (tgt := 19) hx hb d_Trust_listPart_6 (by decide) (fun c6 => ?_) (fun c6 => ?_)
    · refine lv_aload_n hx hb d_Trust_listPart_19 rfl (lv_at hl 0 rfl) ?_
      refine lv_iload_n hx hb d_Trust_listPart_20 rfl (lv_at hl 1 rfl) ?_
      refine vp_callSi (pu_callV (As := [.int i]) (rest := []) ⟨hx, hb, hml, hown, hts⟩ tbin (c_Trust_isListed l dC dI sb q0 fe ho ce li sh rs se ch fo foS chS faP feS wrP e1 0 mp i) q5_162 q5_164 qp_19 q1_1 q5_165 (n := 1) (by decide +kernel) rfl ⟨rfl, rfl⟩ ⟨Nat.le_of_ble_eq_true rfl, Nat.le_of_ble_eq_true rfl⟩ ⟨Nat.le_of_ble_eq_true rfl, Nat.le_of_ble_eq_true rfl⟩ hN (hT0.keep hS hAs) hK hP [0, 1] rfl [] rfl 0 10 rfl rfl rfl hl.1 rfl (Nat.le_of_ble_eq_true rfl) d_Trust_listPart_21) (fun r21 hr21 => ?_)
      refine lv_if_ne (tgt := 37) hx hb d_Trust_listPart_24 (by decide) (fun c24 => ?_) (fun c24 => ?_)
      · exact absurd (bz_1 hr21 c24) x_no
      obtain ⟨sa, hsa⟩ := hTh.2.2.1 (178, "no such list") (by decide)
      exact vx_throwS (own := "TrustChain") (cls := "java/lang/IndexOutOfBoundsException") (text := "no such list") (names := xUp) (ik := 74) (is := 178) (ic := 78) (sa := sa) (A := A) hx hb hl0 hown (by decide) (by decide) (htb _ q1_211) (htb _ q1_14) hsa (x_hat x_ot78 x_gd78 x_nw78 htb hN) x_ot78 (hTh.1.narrow hAs) (hTh.2.1.narrow hAs) hS (hl.1.trans hml.symm) d_Trust_listPart_27 d_Trust_listPart_30 d_Trust_listPart_31 d_Trust_listPart_33 d_Trust_listPart_36 (fun x h => (hnoh x h).elim) (Nat.le_of_ble_eq_true rfl) (Nat.le_of_ble_eq_true rfl) (Nat.le_of_ble_eq_true rfl) (Nat.le_of_ble_eq_true rfl) hlocks (x_end () (if_neg (fun q => q.elim (by assumption) (by first | assumption | exact fun z => absurd z (Int32.not_lt.mpr (by assumption))))).symm hP hK hD hS) hS.2.2 (Nat.le_of_ble_eq_true rfl) (Nat.le_of_ble_eq_true rfl)
    · obtain ⟨sa, hsa⟩ := hTh.2.2.1 (169, "no such part") (by decide)
      exact vx_throwS (own := "TrustChain") (cls := "java/lang/IllegalArgumentException") (text := "no such part") (names := xUp) (ik := 110) (is := 169) (ic := 114) (sa := sa) (A := A) hx hb hl0 hown (by decide) (by decide) (htb _ q4_233) (htb _ q1_27) hsa (x_hat x_ot114 x_gd114 x_nw114 htb hN) x_ot114 (hTh.1.narrow hAs) (hTh.2.1.narrow hAs) hS (hl.1.trans hml.symm) d_Trust_listPart_9 d_Trust_listPart_12 d_Trust_listPart_13 d_Trust_listPart_15 d_Trust_listPart_18 (fun x h => (hnoh x h).elim) (Nat.le_of_ble_eq_true rfl) (Nat.le_of_ble_eq_true rfl) (Nat.le_of_ble_eq_true rfl) (Nat.le_of_ble_eq_true rfl) hlocks (x_end () (if_pos (by first | exact Or.inl (by assumption) | exact Or.inr (Int32.not_le.mp (by assumption)))).symm hP hK hD hS) hS.2.2 (Nat.le_of_ble_eq_true rfl) (Nat.le_of_ble_eq_true rfl)
def y_Trust_validate : MethodName := ⟨"TrustChain", "validate", "(IJIZ)I"⟩
abbrev b_Trust_validate : ByteArray := prog_1_method_11_code
def w_Trust_validate : List Cond := Cond.code y_Trust_validate b_Trust_validate 10 ((some FieldType.int)) :: tb
theorem d_Trust_validate_0 : decode b_Trust_validate 0 = .ok (.iload 4, 2) := by decide +kernel
theorem d_Trust_validate_2 : decode b_Trust_validate 2 = .ok (.iconst 1, 1) := by decide +kernel
theorem d_Trust_validate_3 : decode b_Trust_validate 3 = .ok (.if_icmp .lt 10, 3) := by decide +kernel
theorem d_Trust_validate_6 : decode b_Trust_validate 6 = .ok (.iload 4, 2) := by decide +kernel
theorem d_Trust_validate_8 : decode b_Trust_validate 8 = .ok (.bipush 16, 2) := by decide +kernel
theorem d_Trust_validate_10 : decode b_Trust_validate 10 = .ok (.if_icmp .le 13, 3) := by decide +kernel
theorem d_Trust_validate_13 : decode b_Trust_validate 13 = .ok (.new 110, 3) := by decide +kernel
theorem d_Trust_validate_16 : decode b_Trust_validate 16 = .ok (.dup, 1) := by decide +kernel
theorem d_Trust_validate_17 : decode b_Trust_validate 17 = .ok (.ldc 201, 2) := by decide +kernel
theorem d_Trust_validate_19 : decode b_Trust_validate 19 = .ok (.invokespecial 114, 3) := by decide +kernel
theorem d_Trust_validate_22 : decode b_Trust_validate 22 = .ok (.athrow, 1) := by decide +kernel
theorem d_Trust_validate_23 : decode b_Trust_validate 23 = .ok (.aload_n 0, 1) := by decide +kernel
theorem d_Trust_validate_24 : decode b_Trust_validate 24 = .ok (.iload_n 1, 1) := by decide +kernel
theorem d_Trust_validate_25 : decode b_Trust_validate 25 = .ok (.invokevirtual 160, 3) := by decide +kernel
theorem d_Trust_validate_28 : decode b_Trust_validate 28 = .ok (.ifCond .ne 13, 3) := by decide +kernel
theorem d_Trust_validate_31 : decode b_Trust_validate 31 = .ok (.new 74, 3) := by decide +kernel
theorem d_Trust_validate_34 : decode b_Trust_validate 34 = .ok (.dup, 1) := by decide +kernel
theorem d_Trust_validate_35 : decode b_Trust_validate 35 = .ok (.ldc 163, 2) := by decide +kernel
theorem d_Trust_validate_37 : decode b_Trust_validate 37 = .ok (.invokespecial 78, 3) := by decide +kernel
theorem d_Trust_validate_40 : decode b_Trust_validate 40 = .ok (.athrow, 1) := by decide +kernel
set_option maxHeartbeats 4000000 in
set_option maxRecDepth 100000 in
theorem c0_Trust_validate (l : Launch) (hl0 : l.stackTraces = false) (dC : Nat → ClassId) (dI : Nat → Nat → Nat) (sb : sB) (q0 fe ho ce li sh rs se ch fo : Nat) (foS chS faP feS wrP : Int32) (e0 : Nat) (mo : Int32) (i j kn : Int32) (tm : Int64) (sz : Nat) : vx_Met l y_Trust_validate w_Trust_validate ({ frames := 6, cells := 1, slots := 6, locals := 104 }) (mx_P [.ref q0, .int i, .long tm, .int j, .int kn] (dC, dI) sb [(q0, .inr (10, [.ref fe, .ref ho, .ref ce, .ref li, .ref sh, .ref rs, .ref se, .ref ch, .ref fo, .int foS, .int chS, .int faP, .int feS, .int wrP])), (ce, .inr (11, [.ref e0, .int (nI 0), .int mo]))] [] sz) (va_Qi (fun r (_u : Unit) => False) (mu_B (dC, dI) [] (va_A [(q0, .inr (10, [.ref fe, .ref ho, .ref ce, .ref li, .ref sh, .ref rs, .ref se, .ref ch, .ref fo, .int foS, .int chS, .int faP, .int feS, .int wrP])), (ce, .inr (11, [.ref e0, .int (nI 0), .int mo]))] sz) (fun _ : Unit => [(q0, .inr (10, [.ref fe, .ref ho, .ref ce, .ref li, .ref sh, .ref rs, .ref se, .ref ch, .ref fo, .int foS, .int chS, .int faP, .int feS, .int wrP])), (ce, .inr (11, [.ref e0, .int (nI 0), .int mo]))])) (va_A [(q0, .inr (10, [.ref fe, .ref ho, .ref ce, .ref li, .ref sh, .ref rs, .ref se, .ref ch, .ref fo, .int foS, .int chS, .int faP, .int feS, .int wrP])), (ce, .inr (11, [.ref e0, .int (nI 0), .int mo]))] sz)) (mx_X (fun (E : String) (_u : Unit) => E = (if j < 1 ∨ 16 < j then "java/lang/IllegalArgumentException" else "java/lang/IndexOutOfBoundsException")) (dC, dI) [] (va_A [(q0, .inr (10, [.ref fe, .ref ho, .ref ce, .ref li, .ref sh, .ref rs, .ref se, .ref ch, .ref fo, .int foS, .int chS, .int faP, .int feS, .int wrP])), (ce, .inr (11, [.ref e0, .int (nI 0), .int mo]))] sz) (fun _ : Unit => [(q0, .inr (10, [.ref fe, .ref ho, .ref ce, .ref li, .ref sh, .ref rs, .ref se, .ref ch, .ref fo, .int foS, .int chS, .int faP, .int feS, .int wrP])), (ce, .inr (11, [.ref e0, .int (nI 0), .int mo]))])) 1 6 (va_A [(q0, .inr (10, [.ref fe, .ref ho, .ref ce, .ref li, .ref sh, .ref rs, .ref se, .ref ch, .ref fo, .int foS, .int chS, .int faP, .int feS, .int wrP])), (ce, .inr (11, [.ref e0, .int (nI 0), .int mo]))] sz) := by
  refine vx_ofW (cc := b_Trust_validate) (maxL := 10) (ret := (some FieldType.int)) (by decide) rfl ?_
  intro p e s m args below meth c s₁ B hml hnoh hv
  obtain ⟨rfl, hsz, hB0, hP, hK, hD0, hN, hT0, hTh⟩ := hv
  have hx := B.exec
  have hb := B.bytes
  have hr := B.returns
  have hts := atoms_spec (ws := w_Trust_validate) B.pre
  have tbin : ∀ w ∈ tb, w ∈ w_Trust_validate := fun w h => List.mem_cons_of_mem _ h
  have htb : ∀ w ∈ tb, w.before _ s = true := fun w h => hts w (tbin w h)
  have hown : s.vm.findClass "TrustChain" = some m.cls := findClass_of_methodNamed B.named
  have hlocks := B.notSynchronized
  subst hsz
  have hD := hD0.self (sz := s.heap.size)
  generalize hAe : va_A [(q0, .inr (10, [.ref fe, .ref ho, .ref ce, .ref li, .ref sh, .ref rs, .ref se, .ref ch, .ref fo, .int foS, .int chS, .int faP, .int feS, .int wrP])), (ce, .inr (11, [.ref e0, .int (nI 0), .int mo]))] s.heap.size = A at hD ⊢
  have hA : ∀ q : Nat, s.heap.size ≤ q → A q := fun q h => by rw [← hAe]; exact Or.inr h
  have hAs : ∀ q : Nat, A q → sb.1 ≤ q := fun q h => by
    rw [← hAe] at h
    rcases h with ⟨k, e, h⟩ | h
    · exact hD0.2 k _ h
    · exact Nat.le_trans hB0 h
  have hS : va_S A s.heap s.heap [] := va_S.rf
  have hcs : 1 ≤ (headSpec w_Trust_validate ({ frames := 6, cells := 1, slots := 6, locals := 104 })).room.cells ∧ 6 ≤ (headSpec w_Trust_validate ({ frames := 6, cells := 1, slots := 6, locals := 104 })).room.slots := ⟨Nat.le_refl _, Nat.le_refl _⟩
  have hP : va_P (dC, dI) classes [(q0, .inr (10, [.ref fe, .ref ho, .ref ce, .ref li, .ref sh, .ref rs, .ref se, .ref ch, .ref fo, .int foS, .int chS, .int faP, .int feS, .int wrP])), (ce, .inr (11, [.ref e0, .int (nI 0), .int mo]))] s.heap := hP
  have hl := lv_entry ([.ref q0, .int i, .long tm, .int j, .int kn]) (n := 10) (Nat.le_of_ble_eq_true rfl)
  rw [lg_entry_eq]
  generalize (lg_sl ([.ref q0, .int i, .long tm, .int j, .int kn]) ++ List.replicate (10 - (lg_sl ([.ref q0, .int i, .long tm, .int j, .int kn])).length) Slot.unset).toArray = ls at hl ⊢
  have hl : lv_has ls 10 [(0, .ref q0), (1, .int i), (2, .long tm), (4, .int j), (5, .int kn)] := hl
  refine lv_iload hx hb d_Trust_validate_0 (lv_at hl 3 rfl) ?_
  refine lv_iconst (v := 1) hx hb d_Trust_validate_2 (by decide) ?_
  refine lv_icmp_lt (tgt := 13) hx hb d_Trust_validate_3 (by decide) (fun c3 => ?_) (fun c3 => ?_)
  · obtain ⟨sa, hsa⟩ := hTh.2.2.1 (201, "depth is not 1..16") (by decide)
    exact vx_throwS (own := "TrustChain") (cls := "java/lang/IllegalArgumentException") (text := "depth is not 1..16") (names := xUp) (ik := 110) (is := 201) (ic := 114) (sa := sa) (A := A) hx hb hl0 hown (by decide) (by decide) (htb _ q4_233) (htb _ q1_27) hsa (x_hat x_ot114 x_gd114 x_nw114 htb hN) x_ot114 (hTh.1.narrow hAs) (hTh.2.1.narrow hAs) hS (hl.1.trans hml.symm) d_Trust_validate_13 d_Trust_validate_16 d_Trust_validate_17 d_Trust_validate_19 d_Trust_validate_22 (fun x h => (hnoh x h).elim) (Nat.le_of_ble_eq_true rfl) (Nat.le_of_ble_eq_true rfl) (Nat.le_of_ble_eq_true rfl) (Nat.le_of_ble_eq_true rfl) hlocks (x_end () (if_pos (by first | exact Or.inl (by assumption) | exact Or.inr (Int32.not_le.mp (by assumption)))).symm hP hK hD hS) hS.2.2 (Nat.le_of_ble_eq_true rfl) (Nat.le_of_ble_eq_true rfl)
  · refine lv_iload hx hb d_Trust_validate_6 (lv_at hl 3 rfl) ?_
    refine lv_bipush (v := 16) hx hb d_Trust_validate_8 (by decide) ?_
    refine lv_icmp_le (tgt := 23) hx hb d_Trust_validate_10 (by decide) (fun c10 => ?_) (fun c10 => ?_)
    · refine lv_aload_n hx hb d_Trust_validate_23 rfl (lv_at hl 0 rfl) ?_
      refine lv_iload_n hx hb d_Trust_validate_24 rfl (lv_at hl 1 rfl) ?_
      refine vp_callSi (pu_callV (As := [.int i]) (rest := []) ⟨hx, hb, hml, hown, hts⟩ tbin (c_Trust_isStored l dC dI sb q0 fe ho ce li sh rs se ch fo foS chS faP feS wrP e0 0 mo i) q5_137 q5_139 qp_18 q1_1 q5_140 (n := 1) (by decide +kernel) rfl ⟨rfl, rfl⟩ ⟨Nat.le_of_ble_eq_true rfl, Nat.le_of_ble_eq_true rfl⟩ ⟨Nat.le_of_ble_eq_true rfl, Nat.le_of_ble_eq_true rfl⟩ hN (hT0.keep hS hAs) hK hP [0, 1] rfl [] rfl 0 10 rfl rfl rfl hl.1 rfl (Nat.le_of_ble_eq_true rfl) d_Trust_validate_25) (fun r25 hr25 => ?_)
      refine lv_if_ne (tgt := 41) hx hb d_Trust_validate_28 (by decide) (fun c28 => ?_) (fun c28 => ?_)
      · exact absurd (bz_1 hr25 c28) x_no
      obtain ⟨sa, hsa⟩ := hTh.2.2.1 (163, "no such certificate") (by decide)
      exact vx_throwS (own := "TrustChain") (cls := "java/lang/IndexOutOfBoundsException") (text := "no such certificate") (names := xUp) (ik := 74) (is := 163) (ic := 78) (sa := sa) (A := A) hx hb hl0 hown (by decide) (by decide) (htb _ q1_211) (htb _ q1_14) hsa (x_hat x_ot78 x_gd78 x_nw78 htb hN) x_ot78 (hTh.1.narrow hAs) (hTh.2.1.narrow hAs) hS (hl.1.trans hml.symm) d_Trust_validate_31 d_Trust_validate_34 d_Trust_validate_35 d_Trust_validate_37 d_Trust_validate_40 (fun x h => (hnoh x h).elim) (Nat.le_of_ble_eq_true rfl) (Nat.le_of_ble_eq_true rfl) (Nat.le_of_ble_eq_true rfl) (Nat.le_of_ble_eq_true rfl) hlocks (x_end () (if_neg (fun q => q.elim (by assumption) (by first | assumption | exact fun z => absurd z (Int32.not_lt.mpr (by assumption))))).symm hP hK hD hS) hS.2.2 (Nat.le_of_ble_eq_true rfl) (Nat.le_of_ble_eq_true rfl)
    · obtain ⟨sa, hsa⟩ := hTh.2.2.1 (201, "depth is not 1..16") (by decide)
      exact vx_throwS (own := "TrustChain") (cls := "java/lang/IllegalArgumentException") (text := "depth is not 1..16") (names := xUp) (ik := 110) (is := 201) (ic := 114) (sa := sa) (A := A) hx hb hl0 hown (by decide) (by decide) (htb _ q4_233) (htb _ q1_27) hsa (x_hat x_ot114 x_gd114 x_nw114 htb hN) x_ot114 (hTh.1.narrow hAs) (hTh.2.1.narrow hAs) hS (hl.1.trans hml.symm) d_Trust_validate_13 d_Trust_validate_16 d_Trust_validate_17 d_Trust_validate_19 d_Trust_validate_22 (fun x h => (hnoh x h).elim) (Nat.le_of_ble_eq_true rfl) (Nat.le_of_ble_eq_true rfl) (Nat.le_of_ble_eq_true rfl) (Nat.le_of_ble_eq_true rfl) hlocks (x_end () (if_pos (by first | exact Or.inl (by assumption) | exact Or.inr (Int32.not_le.mp (by assumption)))).symm hP hK hD hS) hS.2.2 (Nat.le_of_ble_eq_true rfl) (Nat.le_of_ble_eq_true rfl)
