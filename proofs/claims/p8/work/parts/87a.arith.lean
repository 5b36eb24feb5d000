/-! The reference's arithmetic returns. -/
def y_Model_trim : MethodName := ⟨"TrustChainModel", "trim", "([II)I"⟩
abbrev b_Model_trim : ByteArray := prog_14_method_6_code
def w_Model_trim : List Cond := Cond.code y_Model_trim b_Model_trim 3 ((some FieldType.int)) :: tb
theorem d_Model_trim_0 : decode b_Model_trim 0 = .ok (.iload_n 1, 1) := by decide +kernel
theorem d_Model_trim_1 : decode b_Model_trim 1 = .ok (.istore_n 2, 1) := by decide +kernel
theorem d_Model_trim_2 : decode b_Model_trim 2 = .ok (.iload_n 2, 1) := by decide +kernel
theorem d_Model_trim_3 : decode b_Model_trim 3 = .ok (.ifCond .le 17, 3) := by decide +kernel
theorem d_Model_trim_6 : decode b_Model_trim 6 = .ok (.aload_n 0, 1) := by decide +kernel
theorem d_Model_trim_7 : decode b_Model_trim 7 = .ok (.iload_n 2, 1) := by decide +kernel
theorem d_Model_trim_8 : decode b_Model_trim 8 = .ok (.iconst 1, 1) := by decide +kernel
theorem d_Model_trim_9 : decode b_Model_trim 9 = .ok (.isub, 1) := by decide +kernel
theorem d_Model_trim_10 : decode b_Model_trim 10 = .ok (.iaload, 1) := by decide +kernel
theorem d_Model_trim_11 : decode b_Model_trim 11 = .ok (.ifCond .ne 9, 3) := by decide +kernel
theorem d_Model_trim_14 : decode b_Model_trim 14 = .ok (.iinc 2 (-1), 3) := by decide +kernel
theorem d_Model_trim_17 : decode b_Model_trim 17 = .ok (.goto (-15), 3) := by decide +kernel
theorem d_Model_trim_20 : decode b_Model_trim 20 = .ok (.iload_n 2, 1) := by decide +kernel
theorem d_Model_trim_21 : decode b_Model_trim 21 = .ok (.ireturn, 1) := by decide +kernel
theorem trim_z {f : Nat → Int32} {z n : Nat} (h : ∀ i, z ≤ i → i < n → f i = 0) (h0 : f (z - 1) = 0) : ∀ i, z - 1 ≤ i → i < n → f i = 0 := fun i h1 h2 => by
  by_cases e : i = z - 1
  · rw [e]; exact h0
  · exact h i (by omega) h2
set_option maxHeartbeats 4000000 in
set_option maxRecDepth 100000 in
theorem p_Model_trim (l : Launch) (dC : Nat → ClassId) (dI : Nat → Nat → Nat) (sb : sB) (γ : cG) (κ : kE) (Ad : List Nat) (τ : Nat → TD) (gT : ClassId) (G : va_W) (a : Nat) (N n : Nat) (hTy : TR γ κ Ad τ G) (ka : tK κ Ad a (6, N, 0)) (hn : n ≤ N) (hN : N < 2 ^ 20) : Met l y_Model_trim w_Model_trim ({ frames := 0, cells := 0, slots := 0, locals := 0 }) (pu_P [.ref a, .int (nI n)] (dC, dI) sb G [(γ.1, .byte), (γ.2.1, .int), (γ.2.2.1, .long), (γ.2.2.2, .object "java/lang/Object"), (gT, .object "TrustChainModel$Text")]) (vp_Si (fun r => ∃ k, k ≤ n ∧ r = nI k)) 0 0 (fun _ => False) := by
  refine Met.ofW (cc := b_Model_trim) (maxL := 3) (ret := (some FieldType.int)) (by decide) rfl ?_
  intro p e s m args below meth c s₁ B hml hv
  obtain ⟨rfl, hP, hK, hN, hT0⟩ := hv
  have hx := B.exec
  have hb := B.bytes
  have hr := B.returns
  have hts := atoms_spec (ws := w_Model_trim) B.pre
  have tbin : ∀ w ∈ tb, w ∈ w_Model_trim := fun w h => List.mem_cons_of_mem _ h
  have htb : ∀ w ∈ tb, w.before _ s = true := fun w h => hts w (tbin w h)
  have hown : s.vm.findClass "TrustChainModel" = some m.cls := findClass_of_methodNamed B.named
  have hlocks := B.notSynchronized
  have hl := lv_entry ([.ref a, .int (nI n)]) (n := 3) (Nat.le_of_ble_eq_true rfl)
  rw [lg_entry_eq]
  generalize (lg_sl ([.ref a, .int (nI n)]) ++ List.replicate (3 - (lg_sl ([.ref a, .int (nI n)])).length) Slot.unset).toArray = ls at hl ⊢
  have hl : lv_has ls 3 [(0, .ref a), (1, .int (nI n))] := hl
  refine lv_iload_n hx hb d_Model_trim_0 rfl (lv_at hl 1 rfl) ?_
  refine lv_istore_n (lv' := [(2, .int (nI n)), (0, .ref a), (1, .int (nI n))]) hx hb d_Model_trim_1 rfl hl (by decide) rfl (fun ls hl => ?_)
  refine w_loop (α := Nat) (fun a9 => a9 ≤ n) (fun a9 => a9) (fun a9 => [(2, .int (nI a9)), (0, .ref a), (1, .int (nI n))]) (fun _ => []) 3 2 (fun z2 ls hJ hl ih2 => ?_) n ls (Nat.le_refl _) (lv_sub hl [0, 1, 2] rfl)
  refine lv_iload_n hx hb d_Model_trim_2 rfl (lv_at hl 0 rfl) ?_
  refine lv_if_le (tgt := 20) hx hb d_Model_trim_3 (by decide) (fun c3 => ?_) (fun c3 => ?_)
  · have p3 : z2 ≤ 0 := ((nI_leI (a := z2) (b := 0) (by omega) (by omega)).mp c3)
    refine lv_iload_n hx hb d_Model_trim_20 rfl (lv_at hl 0 rfl) ?_
    exact W.iret (v := nI z2) hx hb hr (fun t ht hW => ⟨_, rfl, ⟨z2, hJ, rfl⟩, ht⟩) (fun q h => by cases h) d_Model_trim_21
  · have p3 : ¬ (z2 ≤ 0) := (fun q9 => c3 ((nI_leI (a := z2) (b := 0) (by omega) (by omega)).mpr q9))
    refine lv_aload_n hx hb d_Model_trim_6 rfl (lv_at hl 1 rfl) ?_
    refine lv_iload_n hx hb d_Model_trim_7 rfl (lv_at hl 0 rfl) ?_
    refine lv_iconst (v := 1) hx hb d_Model_trim_8 (by decide) ?_
    refine lv_isub hx hb d_Model_trim_9 ?_
    rw [show ((nI z2) - 1 : Int32) = nI (z2 - 1) from pk_sub (a := z2) (b := 1) (by omega)]
    obtain ⟨i_1, f_1, hn_1, hg_1⟩ := tr_6 hTy ka
    have h10 : vp_in (nI (z2 - 1)) N := vp_in_nI (by omega) (by omega)
    refine va_iald hx hb hK hP i_1 1 hg_1 rfl h10 d_Model_trim_10 ?_
    refine lv_topi (fun e10 he10 => ?_)
    refine lv_if_ne (tgt := 20) hx hb d_Model_trim_11 (by decide) (fun c11 => ?_) (fun c11 => ?_)
    · have p11 : ¬ (e10 = (0 : Int32)) := c11
      refine lv_iload_n hx hb d_Model_trim_20 rfl (lv_at hl 0 rfl) ?_
      exact W.iret (v := nI z2) hx hb hr (fun t ht hW => ⟨_, rfl, ⟨z2, hJ, rfl⟩, ht⟩) (fun q h => by cases h) d_Model_trim_21
    · have p11 : e10 = (0 : Int32) := c11
      refine lv_iinc (v := nI (z2 - 1)) (lv' := [(2, .int (nI (z2 - 1))), (0, .ref a), (1, .int (nI n))]) hx hb d_Model_trim_14 hl (k := 0) rfl (nI_m1 (by omega)) (by decide) rfl (fun ls hl => ?_)
      refine lv_goto (tgt := 2) hx hb d_Model_trim_17 (by decide) ?_
      exact ih2 (z2 - 1) ls (by omega) (by omega) (lv_sub hl [0, 1, 2] rfl)
set_option maxHeartbeats 4000000 in
set_option maxRecDepth 100000 in
theorem px_Model_trim (l : Launch) (dC : Nat → ClassId) (dI : Nat → Nat → Nat) (sb : sB) (γ : cG) (κ : kE) (Ad : List Nat) (τ : Nat → TD) (gT : ClassId) (G : va_W) (a : Nat) (N : Nat) (f : Nat → Int32) (n : Nat) (hTy : TR γ κ Ad τ G) (ka : Xc Ad a (.inl (γ.2.1, N, .inl f)) G) (hn : n ≤ N) (hN : N < 2 ^ 20) : Met l y_Model_trim w_Model_trim ({ frames := 0, cells := 0, slots := 0, locals := 0 }) (pu_P [.ref a, .int (nI n)] (dC, dI) sb G [(γ.1, .byte), (γ.2.1, .int), (γ.2.2.1, .long), (γ.2.2.2, .object "java/lang/Object"), (gT, .object "TrustChainModel$Text")]) (vp_Si (fun r => ∃ k, k ≤ n ∧ r = nI k ∧ (0 < k → f (k - 1) ≠ 0) ∧ (∀ i, k ≤ i → i < n → f i = 0))) 0 0 (fun _ => False) := by
  refine Met.ofW (cc := b_Model_trim) (maxL := 3) (ret := (some FieldType.int)) (by decide) rfl ?_
  intro p e s m args below meth c s₁ B hml hv
  obtain ⟨rfl, hP, hK, hN, hT0⟩ := hv
  have hx := B.exec
  have hb := B.bytes
  have hr := B.returns
  have hts := atoms_spec (ws := w_Model_trim) B.pre
  have tbin : ∀ w ∈ tb, w ∈ w_Model_trim := fun w h => List.mem_cons_of_mem _ h
  have htb : ∀ w ∈ tb, w.before _ s = true := fun w h => hts w (tbin w h)
  have hown : s.vm.findClass "TrustChainModel" = some m.cls := findClass_of_methodNamed B.named
  have hlocks := B.notSynchronized
  have hl := lv_entry ([.ref a, .int (nI n)]) (n := 3) (Nat.le_of_ble_eq_true rfl)
  rw [lg_entry_eq]
  generalize (lg_sl ([.ref a, .int (nI n)]) ++ List.replicate (3 - (lg_sl ([.ref a, .int (nI n)])).length) Slot.unset).toArray = ls at hl ⊢
  have hl : lv_has ls 3 [(0, .ref a), (1, .int (nI n))] := hl
  refine lv_iload_n hx hb d_Model_trim_0 rfl (lv_at hl 1 rfl) ?_
  refine lv_istore_n (lv' := [(2, .int (nI n)), (0, .ref a), (1, .int (nI n))]) hx hb d_Model_trim_1 rfl hl (by decide) rfl (fun ls hl => ?_)
  refine w_loop (α := Nat) (fun a9 => a9 ≤ n ∧ ∀ i, a9 ≤ i → i < n → f i = 0) (fun a9 => a9) (fun a9 => [(2, .int (nI a9)), (0, .ref a), (1, .int (nI n))]) (fun _ => []) 3 2 (fun z2 ls hJ hl ih2 => ?_) n ls ⟨Nat.le_refl _, fun i h1 h2 => absurd h2 (Nat.not_lt.mpr h1)⟩ (lv_sub hl [0, 1, 2] rfl)
  obtain ⟨hJ, hJz⟩ := hJ
  refine lv_iload_n hx hb d_Model_trim_2 rfl (lv_at hl 0 rfl) ?_
  refine lv_if_le (tgt := 20) hx hb d_Model_trim_3 (by decide) (fun c3 => ?_) (fun c3 => ?_)
  · have p3 : z2 ≤ 0 := ((nI_leI (a := z2) (b := 0) (by omega) (by omega)).mp c3)
    refine lv_iload_n hx hb d_Model_trim_20 rfl (lv_at hl 0 rfl) ?_
    exact W.iret (v := nI z2) hx hb hr (fun t ht hW => ⟨_, rfl, ⟨z2, hJ, rfl, fun z => by omega, hJz⟩, ht⟩) (fun q h => by cases h) d_Model_trim_21
  · have p3 : ¬ (z2 ≤ 0) := (fun q9 => c3 ((nI_leI (a := z2) (b := 0) (by omega) (by omega)).mpr q9))
    refine lv_aload_n hx hb d_Model_trim_6 rfl (lv_at hl 1 rfl) ?_
    refine lv_iload_n hx hb d_Model_trim_7 rfl (lv_at hl 0 rfl) ?_
    refine lv_iconst (v := 1) hx hb d_Model_trim_8 (by decide) ?_
    refine lv_isub hx hb d_Model_trim_9 ?_
    rw [show ((nI z2) - 1 : Int32) = nI (z2 - 1) from pk_sub (a := z2) (b := 1) (by omega)]
    obtain ⟨i_1, hg_1⟩ := List.getElem?_of_mem ka.2
    have h10 : vp_in (nI (z2 - 1)) N := vp_in_nI (by omega) (by omega)
    refine va_iald hx hb hK hP i_1 1 hg_1 rfl h10 d_Model_trim_10 ?_
    refine lv_topi (fun e10 he10 => ?_)
    refine lv_if_ne (tgt := 20) hx hb d_Model_trim_11 (by decide) (fun c11 => ?_) (fun c11 => ?_)
    · have p11 : ¬ (e10 = (0 : Int32)) := c11
      refine lv_iload_n hx hb d_Model_trim_20 rfl (lv_at hl 0 rfl) ?_
      exact W.iret (v := nI z2) hx hb hr (fun t ht hW => ⟨_, rfl, ⟨z2, hJ, rfl, fun z => by rw [nI_clamp (by omega)] at he10; rw [← he10]; exact p11, hJz⟩, ht⟩) (fun q h => by cases h) d_Model_trim_21
    · have p11 : e10 = (0 : Int32) := c11
      refine lv_iinc (v := nI (z2 - 1)) (lv' := [(2, .int (nI (z2 - 1))), (0, .ref a), (1, .int (nI n))]) hx hb d_Model_trim_14 hl (k := 0) rfl (nI_m1 (by omega)) (by decide) rfl (fun ls hl => ?_)
      refine lv_goto (tgt := 2) hx hb d_Model_trim_17 (by decide) ?_
      exact ih2 (z2 - 1) ls (by omega) ⟨by omega, trim_z hJz (by rw [nI_clamp (by omega)] at he10; rw [← he10]; exact p11)⟩ (lv_sub hl [0, 1, 2] rfl)
def y_Model_compared : MethodName := ⟨"TrustChainModel", "compared", "([II[II)I"⟩
abbrev b_Model_compared : ByteArray := prog_14_method_3_code
def w_Model_compared : List Cond := Cond.code y_Model_compared b_Model_compared 5 ((some FieldType.int)) :: tb
theorem d_Model_compared_0 : decode b_Model_compared 0 = .ok (.iload_n 1, 1) := by decide +kernel
theorem d_Model_compared_1 : decode b_Model_compared 1 = .ok (.iload_n 3, 1) := by decide +kernel
theorem d_Model_compared_2 : decode b_Model_compared 2 = .ok (.if_icmp .eq 14, 3) := by decide +kernel
theorem d_Model_compared_5 : decode b_Model_compared 5 = .ok (.iload_n 1, 1) := by decide +kernel
theorem d_Model_compared_6 : decode b_Model_compared 6 = .ok (.iload_n 3, 1) := by decide +kernel
theorem d_Model_compared_7 : decode b_Model_compared 7 = .ok (.if_icmp .ge 7, 3) := by decide +kernel
theorem d_Model_compared_10 : decode b_Model_compared 10 = .ok (.iconst (-1), 1) := by decide +kernel
theorem d_Model_compared_11 : decode b_Model_compared 11 = .ok (.goto 4, 3) := by decide +kernel
theorem d_Model_compared_14 : decode b_Model_compared 14 = .ok (.iconst 1, 1) := by decide +kernel
theorem d_Model_compared_15 : decode b_Model_compared 15 = .ok (.ireturn, 1) := by decide +kernel
theorem d_Model_compared_16 : decode b_Model_compared 16 = .ok (.iload_n 1, 1) := by decide +kernel
theorem d_Model_compared_17 : decode b_Model_compared 17 = .ok (.iconst 1, 1) := by decide +kernel
theorem d_Model_compared_18 : decode b_Model_compared 18 = .ok (.isub, 1) := by decide +kernel
theorem d_Model_compared_19 : decode b_Model_compared 19 = .ok (.istore 4, 2) := by decide +kernel
theorem d_Model_compared_21 : decode b_Model_compared 21 = .ok (.iload 4, 2) := by decide +kernel
theorem d_Model_compared_23 : decode b_Model_compared 23 = .ok (.ifCond .lt 37, 3) := by decide +kernel
theorem d_Model_compared_26 : decode b_Model_compared 26 = .ok (.aload_n 0, 1) := by decide +kernel
theorem d_Model_compared_27 : decode b_Model_compared 27 = .ok (.iload 4, 2) := by decide +kernel
theorem d_Model_compared_29 : decode b_Model_compared 29 = .ok (.iaload, 1) := by decide +kernel
theorem d_Model_compared_30 : decode b_Model_compared 30 = .ok (.aload_n 2, 1) := by decide +kernel
theorem d_Model_compared_31 : decode b_Model_compared 31 = .ok (.iload 4, 2) := by decide +kernel
theorem d_Model_compared_33 : decode b_Model_compared 33 = .ok (.iaload, 1) := by decide +kernel
theorem d_Model_compared_34 : decode b_Model_compared 34 = .ok (.if_icmp .eq 20, 3) := by decide +kernel
theorem d_Model_compared_37 : decode b_Model_compared 37 = .ok (.aload_n 0, 1) := by decide +kernel
theorem d_Model_compared_38 : decode b_Model_compared 38 = .ok (.iload 4, 2) := by decide +kernel
theorem d_Model_compared_40 : decode b_Model_compared 40 = .ok (.iaload, 1) := by decide +kernel
theorem d_Model_compared_41 : decode b_Model_compared 41 = .ok (.aload_n 2, 1) := by decide +kernel
theorem d_Model_compared_42 : decode b_Model_compared 42 = .ok (.iload 4, 2) := by decide +kernel
theorem d_Model_compared_44 : decode b_Model_compared 44 = .ok (.iaload, 1) := by decide +kernel
theorem d_Model_compared_45 : decode b_Model_compared 45 = .ok (.if_icmp .ge 7, 3) := by decide +kernel
theorem d_Model_compared_48 : decode b_Model_compared 48 = .ok (.iconst (-1), 1) := by decide +kernel
theorem d_Model_compared_49 : decode b_Model_compared 49 = .ok (.goto 4, 3) := by decide +kernel
theorem d_Model_compared_52 : decode b_Model_compared 52 = .ok (.iconst 1, 1) := by decide +kernel
theorem d_Model_compared_53 : decode b_Model_compared 53 = .ok (.ireturn, 1) := by decide +kernel
theorem d_Model_compared_54 : decode b_Model_compared 54 = .ok (.iinc 4 (-1), 3) := by decide +kernel
theorem d_Model_compared_57 : decode b_Model_compared 57 = .ok (.goto (-36), 3) := by decide +kernel
theorem d_Model_compared_60 : decode b_Model_compared 60 = .ok (.iconst 0, 1) := by decide +kernel
theorem d_Model_compared_61 : decode b_Model_compared 61 = .ok (.ireturn, 1) := by decide +kernel
theorem jD_dec' (k : Nat) : nI k - 1 = jD k := by
  rw [Int32.sub_eq_add_neg]
  exact jD_dec k
set_option maxHeartbeats 4000000 in
set_option maxRecDepth 100000 in
theorem p_Model_compared (l : Launch) (dC : Nat → ClassId) (dI : Nat → Nat → Nat) (sb : sB) (γ : cG) (κ : kE) (Ad : List Nat) (τ : Nat → TD) (gT : ClassId) (G : va_W) (a1 b1 : Nat) (n : Nat) (f : Nat → Int32) (k1 : Nat) (hTy : TR γ κ Ad τ G) (ka1 : tK κ Ad a1 (6, 600, 0)) (kb1 : Xc Ad b1 (.inl (γ.2.1, 600, .inl f)) G) (hn : n ≤ 600) (hm : k1 ≤ 600) : Met l y_Model_compared w_Model_compared ({ frames := 0, cells := 0, slots := 0, locals := 0 }) (pu_P [.ref a1, .int (nI n), .ref b1, .int (nI k1)] (dC, dI) sb G [(γ.1, .byte), (γ.2.1, .int), (γ.2.2.1, .long), (γ.2.2.2, .object "java/lang/Object"), (gT, .object "TrustChainModel$Text")]) (vp_Si (fun r => (r < 0 → n ≤ k1) ∧ (¬ r < 0 → k1 ≤ n))) 0 0 (fun _ => False) := by
  refine Met.ofW (cc := b_Model_compared) (maxL := 5) (ret := (some FieldType.int)) (by decide) rfl ?_
  intro p e s m args below meth c s₁ B hml hv
  obtain ⟨rfl, hP, hK, hN, hT0⟩ := hv
  have hx := B.exec
  have hb := B.bytes
  have hr := B.returns
  have hts := atoms_spec (ws := w_Model_compared) B.pre
  have tbin : ∀ w ∈ tb, w ∈ w_Model_compared := fun w h => List.mem_cons_of_mem _ h
  have htb : ∀ w ∈ tb, w.before _ s = true := fun w h => hts w (tbin w h)
  have hown : s.vm.findClass "TrustChainModel" = some m.cls := findClass_of_methodNamed B.named
  have hlocks := B.notSynchronized
  have hl := lv_entry ([.ref a1, .int (nI n), .ref b1, .int (nI k1)]) (n := 5) (Nat.le_of_ble_eq_true rfl)
  rw [lg_entry_eq]
  generalize (lg_sl ([.ref a1, .int (nI n), .ref b1, .int (nI k1)]) ++ List.replicate (5 - (lg_sl ([.ref a1, .int (nI n), .ref b1, .int (nI k1)])).length) Slot.unset).toArray = ls at hl ⊢
  have hl : lv_has ls 5 [(0, .ref a1), (1, .int (nI n)), (2, .ref b1), (3, .int (nI k1))] := hl
  refine lv_iload_n hx hb d_Model_compared_0 rfl (lv_at hl 1 rfl) ?_
  refine lv_iload_n hx hb d_Model_compared_1 rfl (lv_at hl 3 rfl) ?_
  refine lv_icmp_eq (tgt := 16) hx hb d_Model_compared_2 (by decide) (fun c2 => ?_) (fun c2 => ?_)
  · have p2 : n = k1 := ((nI_eq (a := n) (b := k1) (by omega) (by omega)).mp c2)
    refine lv_iload_n hx hb d_Model_compared_16 rfl (lv_at hl 1 rfl) ?_
    refine lv_iconst (v := 1) hx hb d_Model_compared_17 (by decide) ?_
    refine lv_isub hx hb d_Model_compared_18 ?_
    refine lv_istore (lv' := [(4, .int ((nI n) - 1)), (0, .ref a1), (1, .int (nI n)), (2, .ref b1), (3, .int (nI k1))]) hx hb d_Model_compared_19 hl (by decide) rfl (fun ls hl => ?_)
    have hl : lv_has ls 5 [(4, .int (jD n)), (0, .ref a1), (1, .int (nI n)), (2, .ref b1), (3, .int (nI k1))] := by rw [← jD_dec' n]; exact hl
    refine w_loop (α := Nat) (fun a9 => a9 ≤ n) (fun a9 => a9) (fun a9 => [(4, .int (jD a9)), (0, .ref a1), (1, .int (nI n)), (2, .ref b1), (3, .int (nI k1))]) (fun _ => []) 5 21 (fun z21 ls hJ hl ih21 => ?_) n ls (Nat.le_refl _) (lv_sub hl [0, 1, 2, 3, 4] rfl)
    obtain _ | z21 := z21
    · have hl : lv_has ls 5 [(4, .int (-1)), (0, .ref a1), (1, .int (nI n)), (2, .ref b1), (3, .int (nI k1))] := hl
      refine lv_iload hx hb d_Model_compared_21 (lv_at hl 0 rfl) ?_
      refine lv_if_lt (tgt := 60) hx hb d_Model_compared_23 (by decide) (fun c23 => ?_) (fun c23 => ?_)
      rotate_left
      · exact absurd c23 (by decide)
      refine lv_iconst (v := 0) hx hb d_Model_compared_60 (by decide) ?_
      exact W.iret (v := 0) hx hb hr (fun t ht hW => ⟨_, rfl, ⟨fun _ => by omega, fun _ => by omega⟩, ht⟩) (fun q h => by cases h) d_Model_compared_61
    · have hl : lv_has ls 5 [(4, .int (nI z21)), (0, .ref a1), (1, .int (nI n)), (2, .ref b1), (3, .int (nI k1))] := hl
      refine lv_iload hx hb d_Model_compared_21 (lv_at hl 0 rfl) ?_
      refine lv_if_lt (tgt := 60) hx hb d_Model_compared_23 (by decide) (fun c23 => ?_) (fun c23 => ?_)
      · have p23 : z21 < 0 := ((nI_ltI (a := z21) (b := 0) (by omega) (by omega)).mp c23)
        refine lv_iconst (v := 0) hx hb d_Model_compared_60 (by decide) ?_
        exact W.iret (v := 0) hx hb hr (fun t ht hW => ⟨_, rfl, ⟨fun _ => by omega, fun _ => by omega⟩, ht⟩) (fun q h => by cases h) d_Model_compared_61
      · have p23 : ¬ (z21 < 0) := (fun q9 => c23 ((nI_ltI (a := z21) (b := 0) (by omega) (by omega)).mpr q9))
        refine lv_aload_n hx hb d_Model_compared_26 rfl (lv_at hl 1 rfl) ?_
        refine lv_iload hx hb d_Model_compared_27 (lv_at hl 0 rfl) ?_
        obtain ⟨i_1, f_1, hn_1, hg_1⟩ := tr_6 hTy ka1
        have h29 : vp_in (nI z21) 600 := vp_in_nI (by omega) (by omega)
        refine va_iald hx hb hK hP i_1 1 hg_1 rfl h29 d_Model_compared_29 ?_
        refine lv_topi (fun e29 he29 => ?_)
        refine lv_aload_n hx hb d_Model_compared_30 rfl (lv_at hl 3 rfl) ?_
        refine lv_iload hx hb d_Model_compared_31 (lv_at hl 0 rfl) ?_
        obtain ⟨i_2, hg_2⟩ := List.getElem?_of_mem kb1.2
        have h33 : vp_in (nI z21) 600 := vp_in_nI (by omega) (by omega)
        refine va_iald hx hb hK hP i_2 1 hg_2 rfl h33 d_Model_compared_33 ?_
        refine lv_topi (fun e33 he33 => ?_)
        refine lv_icmp_eq (tgt := 54) hx hb d_Model_compared_34 (by decide) (fun c34 => ?_) (fun c34 => ?_)
        · have p34 : e29 = e33 := c34
          refine lv_iinc (v := jD z21) (lv' := [(4, .int (jD z21)), (0, .ref a1), (1, .int (nI n)), (2, .ref b1), (3, .int (nI k1))]) hx hb d_Model_compared_54 hl (k := 0) rfl (jD_dec _) (by decide) rfl (fun ls hl => ?_)
          refine lv_goto (tgt := 21) hx hb d_Model_compared_57 (by decide) ?_
          exact ih21 z21 ls (by omega) (by omega) (lv_sub hl [0, 1, 2, 3, 4] rfl)
        · have p34 : ¬ (e29 = e33) := c34
          refine lv_aload_n hx hb d_Model_compared_37 rfl (lv_at hl 1 rfl) ?_
          refine lv_iload hx hb d_Model_compared_38 (lv_at hl 0 rfl) ?_
          have h40 : vp_in (nI z21) 600 := vp_in_nI (by omega) (by omega)
          refine va_iald hx hb hK hP i_1 1 hg_1 rfl h40 d_Model_compared_40 ?_
          refine lv_topi (fun e40 he40 => ?_)
          refine lv_aload_n hx hb d_Model_compared_41 rfl (lv_at hl 3 rfl) ?_
          refine lv_iload hx hb d_Model_compared_42 (lv_at hl 0 rfl) ?_
          have h44 : vp_in (nI z21) 600 := vp_in_nI (by omega) (by omega)
          refine va_iald hx hb hK hP i_2 1 hg_2 rfl h44 d_Model_compared_44 ?_
          refine lv_topi (fun e44 he44 => ?_)
          refine lv_icmp_ge (tgt := 52) hx hb d_Model_compared_45 (by decide) (fun c45 => ?_) (fun c45 => ?_)
          · have p45 : e44 ≤ e40 := c45
            refine lv_iconst (v := 1) hx hb d_Model_compared_52 (by decide) ?_
            exact W.iret (v := 1) hx hb hr (fun t ht hW => ⟨_, rfl, ⟨fun q => absurd q (show ¬ (1 : Int32) < 0 by decide), fun _ => by omega⟩, ht⟩) (fun q h => by cases h) d_Model_compared_53
          · have p45 : ¬ (e44 ≤ e40) := c45
            refine lv_iconst (v := -1) hx hb d_Model_compared_48 (by decide) ?_
            refine lv_goto (tgt := 53) hx hb d_Model_compared_49 (by decide) ?_
            exact W.iret (v := -1) hx hb hr (fun t ht hW => ⟨_, rfl, ⟨fun _ => by omega, fun q => absurd (show (-1 : Int32) < 0 by decide) q⟩, ht⟩) (fun q h => by cases h) d_Model_compared_53
  · have p2 : ¬ (n = k1) := (fun q9 => c2 ((nI_eq (a := n) (b := k1) (by omega) (by omega)).mpr q9))
    refine lv_iload_n hx hb d_Model_compared_5 rfl (lv_at hl 1 rfl) ?_
    refine lv_iload_n hx hb d_Model_compared_6 rfl (lv_at hl 3 rfl) ?_
    refine lv_icmp_ge (tgt := 14) hx hb d_Model_compared_7 (by decide) (fun c7 => ?_) (fun c7 => ?_)
    · have p7 : k1 ≤ n := ((nI_leI (a := k1) (b := n) (by omega) (by omega)).mp c7)
      refine lv_iconst (v := 1) hx hb d_Model_compared_14 (by decide) ?_
      exact W.iret (v := 1) hx hb hr (fun t ht hW => ⟨_, rfl, ⟨fun q => absurd q (show ¬ (1 : Int32) < 0 by decide), fun _ => by omega⟩, ht⟩) (fun q h => by cases h) d_Model_compared_15
    · have p7 : ¬ (k1 ≤ n) := (fun q9 => c7 ((nI_leI (a := k1) (b := n) (by omega) (by omega)).mpr q9))
      refine lv_iconst (v := -1) hx hb d_Model_compared_10 (by decide) ?_
      refine lv_goto (tgt := 15) hx hb d_Model_compared_11 (by decide) ?_
      exact W.iret (v := -1) hx hb hr (fun t ht hW => ⟨_, rfl, ⟨fun _ => by omega, fun q => absurd (show (-1 : Int32) < 0 by decide) q⟩, ht⟩) (fun q h => by cases h) d_Model_compared_15
def y_Model_times : MethodName := ⟨"TrustChainModel", "times", "([II[II[I)I"⟩
abbrev b_Model_times : ByteArray := prog_14_method_7_code
def w_Model_times : List Cond := Cond.code y_Model_times b_Model_times 9 ((some FieldType.int)) :: tb
theorem d_Model_times_0 : decode b_Model_times 0 = .ok (.iconst 0, 1) := by decide +kernel
theorem d_Model_times_1 : decode b_Model_times 1 = .ok (.istore 5, 2) := by decide +kernel
theorem d_Model_times_3 : decode b_Model_times 3 = .ok (.iload 5, 2) := by decide +kernel
theorem d_Model_times_5 : decode b_Model_times 5 = .ok (.iload_n 1, 1) := by decide +kernel
theorem d_Model_times_6 : decode b_Model_times 6 = .ok (.iload_n 3, 1) := by decide +kernel
theorem d_Model_times_7 : decode b_Model_times 7 = .ok (.iadd, 1) := by decide +kernel
theorem d_Model_times_8 : decode b_Model_times 8 = .ok (.if_icmp .ge 15, 3) := by decide +kernel
theorem d_Model_times_11 : decode b_Model_times 11 = .ok (.aload 4, 2) := by decide +kernel
theorem d_Model_times_13 : decode b_Model_times 13 = .ok (.iload 5, 2) := by decide +kernel
theorem d_Model_times_15 : decode b_Model_times 15 = .ok (.iconst 0, 1) := by decide +kernel
theorem d_Model_times_16 : decode b_Model_times 16 = .ok (.iastore, 1) := by decide +kernel
theorem d_Model_times_17 : decode b_Model_times 17 = .ok (.iinc 5 1, 3) := by decide +kernel
theorem d_Model_times_20 : decode b_Model_times 20 = .ok (.goto (-17), 3) := by decide +kernel
theorem d_Model_times_23 : decode b_Model_times 23 = .ok (.iconst 0, 1) := by decide +kernel
theorem d_Model_times_24 : decode b_Model_times 24 = .ok (.istore 5, 2) := by decide +kernel
theorem d_Model_times_26 : decode b_Model_times 26 = .ok (.iload 5, 2) := by decide +kernel
theorem d_Model_times_28 : decode b_Model_times 28 = .ok (.iload_n 1, 1) := by decide +kernel
theorem d_Model_times_29 : decode b_Model_times 29 = .ok (.if_icmp .ge 85, 3) := by decide +kernel
theorem d_Model_times_32 : decode b_Model_times 32 = .ok (.lconst 0, 1) := by decide +kernel
theorem d_Model_times_33 : decode b_Model_times 33 = .ok (.lstore 6, 2) := by decide +kernel
theorem d_Model_times_35 : decode b_Model_times 35 = .ok (.iconst 0, 1) := by decide +kernel
theorem d_Model_times_36 : decode b_Model_times 36 = .ok (.istore 8, 2) := by decide +kernel
theorem d_Model_times_38 : decode b_Model_times 38 = .ok (.iload 8, 2) := by decide +kernel
theorem d_Model_times_40 : decode b_Model_times 40 = .ok (.iload_n 3, 1) := by decide +kernel
theorem d_Model_times_41 : decode b_Model_times 41 = .ok (.if_icmp .ge 57, 3) := by decide +kernel
theorem d_Model_times_44 : decode b_Model_times 44 = .ok (.lload 6, 2) := by decide +kernel
theorem d_Model_times_46 : decode b_Model_times 46 = .ok (.aload_n 0, 1) := by decide +kernel
theorem d_Model_times_47 : decode b_Model_times 47 = .ok (.iload 5, 2) := by decide +kernel
theorem d_Model_times_49 : decode b_Model_times 49 = .ok (.iaload, 1) := by decide +kernel
theorem d_Model_times_50 : decode b_Model_times 50 = .ok (.i2l, 1) := by decide +kernel
theorem d_Model_times_51 : decode b_Model_times 51 = .ok (.aload_n 2, 1) := by decide +kernel
theorem d_Model_times_52 : decode b_Model_times 52 = .ok (.iload 8, 2) := by decide +kernel
theorem d_Model_times_54 : decode b_Model_times 54 = .ok (.iaload, 1) := by decide +kernel
theorem d_Model_times_55 : decode b_Model_times 55 = .ok (.i2l, 1) := by decide +kernel
theorem d_Model_times_56 : decode b_Model_times 56 = .ok (.lmul, 1) := by decide +kernel
theorem d_Model_times_57 : decode b_Model_times 57 = .ok (.aload 4, 2) := by decide +kernel
theorem d_Model_times_59 : decode b_Model_times 59 = .ok (.iload 5, 2) := by decide +kernel
theorem d_Model_times_61 : decode b_Model_times 61 = .ok (.iload 8, 2) := by decide +kernel
theorem d_Model_times_63 : decode b_Model_times 63 = .ok (.iadd, 1) := by decide +kernel
theorem d_Model_times_64 : decode b_Model_times 64 = .ok (.iaload, 1) := by decide +kernel
theorem d_Model_times_65 : decode b_Model_times 65 = .ok (.i2l, 1) := by decide +kernel
theorem d_Model_times_66 : decode b_Model_times 66 = .ok (.ladd, 1) := by decide +kernel
theorem d_Model_times_67 : decode b_Model_times 67 = .ok (.ladd, 1) := by decide +kernel
theorem d_Model_times_68 : decode b_Model_times 68 = .ok (.lstore 6, 2) := by decide +kernel
theorem d_Model_times_70 : decode b_Model_times 70 = .ok (.aload 4, 2) := by decide +kernel
theorem d_Model_times_72 : decode b_Model_times 72 = .ok (.iload 5, 2) := by decide +kernel
theorem d_Model_times_74 : decode b_Model_times 74 = .ok (.iload 8, 2) := by decide +kernel
theorem d_Model_times_76 : decode b_Model_times 76 = .ok (.iadd, 1) := by decide +kernel
theorem d_Model_times_77 : decode b_Model_times 77 = .ok (.lload 6, 2) := by decide +kernel
theorem d_Model_times_79 : decode b_Model_times 79 = .ok (.ldc2_w 153, 3) := by decide +kernel
theorem d_Model_times_82 : decode b_Model_times 82 = .ok (.land, 1) := by decide +kernel
theorem d_Model_times_83 : decode b_Model_times 83 = .ok (.l2i, 1) := by decide +kernel
theorem d_Model_times_84 : decode b_Model_times 84 = .ok (.iastore, 1) := by decide +kernel
theorem d_Model_times_85 : decode b_Model_times 85 = .ok (.lload 6, 2) := by decide +kernel
theorem d_Model_times_87 : decode b_Model_times 87 = .ok (.bipush 16, 2) := by decide +kernel
theorem d_Model_times_89 : decode b_Model_times 89 = .ok (.lushr, 1) := by decide +kernel
theorem d_Model_times_90 : decode b_Model_times 90 = .ok (.lstore 6, 2) := by decide +kernel
theorem d_Model_times_92 : decode b_Model_times 92 = .ok (.iinc 8 1, 3) := by decide +kernel
theorem d_Model_times_95 : decode b_Model_times 95 = .ok (.goto (-57), 3) := by decide +kernel
theorem d_Model_times_98 : decode b_Model_times 98 = .ok (.aload 4, 2) := by decide +kernel
theorem d_Model_times_100 : decode b_Model_times 100 = .ok (.iload 5, 2) := by decide +kernel
theorem d_Model_times_102 : decode b_Model_times 102 = .ok (.iload_n 3, 1) := by decide +kernel
theorem d_Model_times_103 : decode b_Model_times 103 = .ok (.iadd, 1) := by decide +kernel
theorem d_Model_times_104 : decode b_Model_times 104 = .ok (.lload 6, 2) := by decide +kernel
theorem d_Model_times_106 : decode b_Model_times 106 = .ok (.l2i, 1) := by decide +kernel
theorem d_Model_times_107 : decode b_Model_times 107 = .ok (.iastore, 1) := by decide +kernel
theorem d_Model_times_108 : decode b_Model_times 108 = .ok (.iinc 5 1, 3) := by decide +kernel
theorem d_Model_times_111 : decode b_Model_times 111 = .ok (.goto (-85), 3) := by decide +kernel
theorem d_Model_times_114 : decode b_Model_times 114 = .ok (.aload 4, 2) := by decide +kernel
theorem d_Model_times_116 : decode b_Model_times 116 = .ok (.iload_n 1, 1) := by decide +kernel
theorem d_Model_times_117 : decode b_Model_times 117 = .ok (.iload_n 3, 1) := by decide +kernel
theorem d_Model_times_118 : decode b_Model_times 118 = .ok (.iadd, 1) := by decide +kernel
theorem d_Model_times_119 : decode b_Model_times 119 = .ok (.invokestatic 149, 3) := by decide +kernel
theorem d_Model_times_122 : decode b_Model_times 122 = .ok (.ireturn, 1) := by decide +kernel
/-- what has no kind stays, but for these -/
def FL (Ad X : List Nat) (G G' : va_W) : Prop := ∀ q : Nat × va_E, q.1 ∉ Ad → q.1 ∉ X → q ∈ G → q ∈ G'
theorem FL.rf (Ad X : List Nat) (G : va_W) : FL Ad X G G := fun _ _ _ h => h
theorem FL.tr {Ad X : List Nat} {G1 G2 G3 : va_W} (h : FL Ad X G1 G2) (g : FL Ad X G2 G3) : FL Ad X G1 G3 := fun q a b z => g q a b (h q a b z)
theorem FR.l {Ad X : List Nat} {G G' : va_W} (h : FR Ad G G') : FL Ad X G G' := fun q a _ z => h q a z
theorem FL.up {Ad X X' : List Nat} {G G' : va_W} (h : FL Ad X G G') (hX : ∀ x, x ∈ X → x ∈ X') : FL Ad X' G G' := fun q a b z => h q a (fun w => b (hX _ w)) z
theorem FL.set {Ad X : List Nat} {G : va_W} {i a : Nat} {c c' : va_E} (hg : G[i]? = some (a, c)) (ha : a ∈ X) : FL Ad X G (G.set i (a, c')) := fun q _ hn h => mem_setX hg h (fun e => hn (by rw [e]; exact ha))
theorem Xc.fl {Ad X : List Nat} {G G' : va_W} {a : Nat} {c : va_E} (h : Xc Ad a c G) (hf : FL Ad X G G') (ha : a ∉ X) : Xc Ad a c G' := ⟨h.1, hf (a, c) h.1 ha h.2⟩
set_option maxHeartbeats 4000000 in
set_option maxRecDepth 100000 in
theorem m_Model_times (l : Launch) (dC : Nat → ClassId) (dI : Nat → Nat → Nat) (sb : sB) (γ : cG) (κ : kE) (Ad : List Nat) (τ : Nat → TD) (gT : ClassId) (G : va_W) (a1 b1 c1 : Nat) (n k1 : Nat) (sz : Nat) (hTy : TR γ κ Ad τ G) (ka1 : tK κ Ad a1 (6, 600, 0)) (kb1 : tK κ Ad b1 (6, 600, 0)) (kc1 : tK κ Ad c1 (6, 600, 0)) (hnm : n + k1 ≤ 600) : Met l y_Model_times w_Model_times ({ frames := 1, cells := 0, slots := 0, locals := 22 }) (mu_P [.ref a1, .int (nI n), .ref b1, .int (nI k1), .ref c1] (dC, dI) sb G [(γ.1, .byte), (γ.2.1, .int), (γ.2.2.1, .long), (γ.2.2.2, .object "java/lang/Object"), (gT, .object "TrustChainModel$Text")] sz) (va_Qi (fun r (G' : va_W) => TR γ κ Ad τ G' ∧ FL Ad [] G G' ∧ (∃ k, k ≤ n + k1 ∧ r = nI k)) (mu_B (dC, dI) [(γ.1, .byte), (γ.2.1, .int), (γ.2.2.1, .long), (γ.2.2.2, .object "java/lang/Object"), (gT, .object "TrustChainModel$Text")] (va_A G sz) (fun G' : va_W => G')) (va_A G sz)) 0 0 (va_A G sz) := by
  refine Met.ofW (cc := b_Model_times) (maxL := 9) (ret := (some FieldType.int)) (by decide) rfl ?_
  intro p e s m args below meth c s₁ B hml hv
  obtain ⟨rfl, hsz, hB0, hP, hK, hD0, hN, hT0⟩ := hv
  have hx := B.exec
  have hb := B.bytes
  have hr := B.returns
  have hts := atoms_spec (ws := w_Model_times) B.pre
  have tbin : ∀ w ∈ tb, w ∈ w_Model_times := fun w h => List.mem_cons_of_mem _ h
  have htb : ∀ w ∈ tb, w.before _ s = true := fun w h => hts w (tbin w h)
  have hown : s.vm.findClass "TrustChainModel" = some m.cls := findClass_of_methodNamed B.named
  have hlocks := B.notSynchronized
  subst hsz
  have hD := hD0.self (sz := s.heap.size)
  generalize hAe : va_A G s.heap.size = A at hD ⊢
  have hA : ∀ q : Nat, s.heap.size ≤ q → A q := fun q h => by rw [← hAe]; exact Or.inr h
  have hAs : ∀ q : Nat, A q → sb.1 ≤ q := fun q h => by
    rw [← hAe] at h
    rcases h with ⟨k, e, h⟩ | h
    · exact hD0.2 k _ h
    · exact Nat.le_trans hB0 h
  have hS : va_S A s.heap s.heap [] := va_S.rf
  have hFR := FL.rf Ad [] G
  have hcs : 0 ≤ (headSpec w_Model_times ({ frames := 1, cells := 0, slots := 0, locals := 22 })).room.cells ∧ 0 ≤ (headSpec w_Model_times ({ frames := 1, cells := 0, slots := 0, locals := 22 })).room.slots := ⟨Nat.le_refl _, Nat.le_refl _⟩
  have hP : va_P (dC, dI) classes G s.heap := hP
  have hl := lv_entry ([.ref a1, .int (nI n), .ref b1, .int (nI k1), .ref c1]) (n := 9) (Nat.le_of_ble_eq_true rfl)
  rw [lg_entry_eq]
  generalize (lg_sl ([.ref a1, .int (nI n), .ref b1, .int (nI k1), .ref c1]) ++ List.replicate (9 - (lg_sl ([.ref a1, .int (nI n), .ref b1, .int (nI k1), .ref c1])).length) Slot.unset).toArray = ls at hl ⊢
  have hl : lv_has ls 9 [(0, .ref a1), (1, .int (nI n)), (2, .ref b1), (3, .int (nI k1)), (4, .ref c1)] := hl
  refine lv_iconst (v := 0) hx hb d_Model_times_0 (by decide) ?_
  refine lv_istore (lv' := [(5, .int 0), (0, .ref a1), (1, .int (nI n)), (2, .ref b1), (3, .int (nI k1)), (4, .ref c1)]) hx hb d_Model_times_1 hl (by decide) rfl (fun ls hl => ?_)
  refine w_loopW (α := Nat × va_W) (fun a9 => 0 ≤ a9.1 ∧ a9.1 ≤ (n + k1) ∧ TR γ κ Ad τ a9.2 ∧ FL Ad [] G a9.2) (fun a9 => (n + k1) - a9.1) (fun a9 => [(5, .int (nI a9.1)), (0, .ref a1), (1, .int (nI n)), (2, .ref b1), (3, .int (nI k1)), (4, .ref c1)]) (fun _ => []) (fun a9 => a9.2) 9 3 (fun a9 HL3 locs ls hJ hP hD hS hl ih3 => ?_) (0, G) _ _ ls ⟨by omega, by omega, hTy, hFR⟩ hP hD hS (lv_sub hl [0, 1, 2, 3, 4, 5] rfl)
  obtain ⟨z3, G3⟩ := a9
  obtain ⟨hy3, hz3, hTy, hFR⟩ := hJ
  dsimp only at hy3 hz3 hTy hFR  hP hD hl ih3
  refine lv_iload hx hb d_Model_times_3 (lv_at hl 0 rfl) ?_
  refine lv_iload_n hx hb d_Model_times_5 rfl (lv_at hl 2 rfl) ?_
  refine lv_iload_n hx hb d_Model_times_6 rfl (lv_at hl 4 rfl) ?_
  refine lv_iadd hx hb d_Model_times_7 ?_
  rw [show ((nI n) + (nI k1) : Int32) = nI (n + k1) from nI_add n k1]
  refine lv_icmp_ge (tgt := 23) hx hb d_Model_times_8 (by decide) (fun c8 => ?_) (fun c8 => ?_)
  · have p8 : (n + k1) ≤ z3 := ((nI_leI (a := (n + k1)) (b := z3) (by omega) (by omega)).mp c8)
    refine lv_iconst (v := 0) hx hb d_Model_times_23 (by decide) ?_
    refine lv_istore (lv' := [(5, .int 0), (0, .ref a1), (1, .int (nI n)), (2, .ref b1), (3, .int (nI k1)), (4, .ref c1)]) hx hb d_Model_times_24 hl (by decide) rfl (fun ls hl => ?_)
    refine w_loopW (α := Nat × va_W) (fun a9 => 0 ≤ a9.1 ∧ a9.1 ≤ n ∧ TR γ κ Ad τ a9.2 ∧ FL Ad [] G a9.2) (fun a9 => n - a9.1) (fun a9 => [(5, .int (nI a9.1)), (0, .ref a1), (1, .int (nI n)), (2, .ref b1), (3, .int (nI k1)), (4, .ref c1)]) (fun _ => []) (fun a9 => a9.2) 9 26 (fun a9 HL26 locs ls hJ hP hD hS hl ih26 => ?_) (0, G3) _ _ ls ⟨by omega, by omega, hTy, hFR⟩ hP hD hS (lv_sub hl [0, 1, 2, 3, 4, 5] rfl)
    obtain ⟨z26, G26⟩ := a9
    obtain ⟨hy26, hz26, hTy, hFR⟩ := hJ
    dsimp only at hy26 hz26 hTy hFR  hP hD hl ih26
    refine lv_iload hx hb d_Model_times_26 (lv_at hl 0 rfl) ?_
    refine lv_iload_n hx hb d_Model_times_28 rfl (lv_at hl 2 rfl) ?_
    refine lv_icmp_ge (tgt := 114) hx hb d_Model_times_29 (by decide) (fun c29 => ?_) (fun c29 => ?_)
    · have p29 : n ≤ z26 := ((nI_leI (a := n) (b := z26) (by omega) (by omega)).mp c29)
      refine lv_aload hx hb d_Model_times_114 (lv_at hl 5 rfl) ?_
      refine lv_iload_n hx hb d_Model_times_116 rfl (lv_at hl 2 rfl) ?_
      refine lv_iload_n hx hb d_Model_times_117 rfl (lv_at hl 4 rfl) ?_
      refine lv_iadd hx hb d_Model_times_118 ?_
      rw [show ((nI n) + (nI k1) : Int32) = nI (n + k1) from nI_add n k1]
      refine vp_callSi (pu_callS (As := [.ref c1, .int (nI (n + k1))]) (rest := []) ⟨hx, hb, hml, hown, hts⟩ tbin (p_Model_trim l dC dI sb γ κ Ad τ gT G26 c1 _ _ hTy kc1 (by omega) (by omega)) q9_103 q9_104 q1_9 q9_105 (n := 2) (by decide +kernel) rfl ⟨rfl, rfl⟩ ⟨Nat.le_of_ble_eq_true rfl, Nat.le_of_ble_eq_true rfl⟩ ⟨Nat.le_of_ble_eq_true rfl, Nat.le_of_ble_eq_true rfl⟩ hN (hT0.keep hS hAs) hK hP (List.range G26.length) (rg_all G26) [0, 1, 2, 3, 4] rfl hl.1 rfl (Nat.le_of_ble_eq_true rfl) d_Model_times_119) (fun r119 hr119 => ?_)
      exact W.iret (v := r119) hx hb hr (fun t ht hW => ⟨⟨_, G26, rfl, ⟨hTy, hFR, hr119⟩, by rw [ht]; exact hP, va_K.moved hW.alike hK, hD⟩, hS.F ht⟩) hS.2.2 d_Model_times_122
    · have p29 : ¬ (n ≤ z26) := (fun q9 => c29 ((nI_leI (a := n) (b := z26) (by omega) (by omega)).mpr q9))
      refine lv_lconst (v := 0) hx hb d_Model_times_32 (by decide) ?_
      refine lv_lstore (lv' := [(6, .long 0), (5, .int (nI z26)), (0, .ref a1), (1, .int (nI n)), (2, .ref b1), (3, .int (nI k1)), (4, .ref c1)]) hx hb d_Model_times_33 hl (by decide) rfl (fun ls hl => ?_)
      refine lv_iconst (v := 0) hx hb d_Model_times_35 (by decide) ?_
      refine lv_istore (lv' := [(8, .int 0), (6, .long 0), (5, .int (nI z26)), (0, .ref a1), (1, .int (nI n)), (2, .ref b1), (3, .int (nI k1)), (4, .ref c1)]) hx hb d_Model_times_36 hl (by decide) rfl (fun ls hl => ?_)
      refine w_loopW (α := Nat × Int64 × va_W) (fun a9 => 0 ≤ a9.1 ∧ a9.1 ≤ k1 ∧ TR γ κ Ad τ a9.2.2 ∧ FL Ad [] G a9.2.2) (fun a9 => k1 - a9.1) (fun a9 => [(8, .int (nI a9.1)), (6, .long a9.2.1), (5, .int (nI z26)), (0, .ref a1), (1, .int (nI n)), (2, .ref b1), (3, .int (nI k1)), (4, .ref c1)]) (fun _ => []) (fun a9 => a9.2.2) 9 38 (fun a9 HL38 locs ls hJ hP hD hS hl ih38 => ?_) (0, (0 : Int64), G26) _ _ ls ⟨by omega, by omega, hTy, hFR⟩ hP hD hS (lv_sub hl [0, 1, 2, 3, 4, 5, 6, 7] rfl)
      obtain ⟨z38, x38_6, G38⟩ := a9
      obtain ⟨hy38, hz38, hTy, hFR⟩ := hJ
      dsimp only at hy38 hz38 hTy hFR  hP hD hl ih38
      refine lv_iload hx hb d_Model_times_38 (lv_at hl 0 rfl) ?_
      refine lv_iload_n hx hb d_Model_times_40 rfl (lv_at hl 6 rfl) ?_
      refine lv_icmp_ge (tgt := 98) hx hb d_Model_times_41 (by decide) (fun c41 => ?_) (fun c41 => ?_)
      · have p41 : k1 ≤ z38 := ((nI_leI (a := k1) (b := z38) (by omega) (by omega)).mp c41)
        refine lv_aload hx hb d_Model_times_98 (lv_at hl 7 rfl) ?_
        refine lv_iload hx hb d_Model_times_100 (lv_at hl 2 rfl) ?_
        refine lv_iload_n hx hb d_Model_times_102 rfl (lv_at hl 6 rfl) ?_
        refine lv_iadd hx hb d_Model_times_103 ?_
        rw [show ((nI z26) + (nI k1) : Int32) = nI (z26 + k1) from nI_add z26 k1]
        refine lv_lload hx hb d_Model_times_104 (lv_at hl 1 rfl) ?_
        refine lv_l2i (v := x38_6.toInt32) hx hb d_Model_times_106 rfl ?_
        obtain ⟨i_1, f_1, hn_1, hg_1⟩ := tr_6 hTy kc1
        have h107 : vp_in (nI (z26 + k1)) 600 := vp_in_nI (by omega) (by omega)
        refine va_iast hx hb hK hP hD hS i_1 1 hg_1 rfl h107 d_Model_times_107 (fun H107 locs hP hD2 hS => ?_)
        have hP : va_P (dC, dI) classes (G38.set i_1 (c1, .inl (γ.2.1, 600, .inl (upd f_1 (nI (z26 + k1)).toNatClampNeg x38_6.toInt32)))) H107 := hP
        have hD3 : va_D A (G38.set i_1 (c1, .inl (γ.2.1, 600, .inl (upd f_1 (nI (z26 + k1)).toNatClampNeg x38_6.toInt32)))) := hD2
        have hF1 := FR.set (c' := .inl (γ.2.1, 600, .inl (upd f_1 (nI (z26 + k1)).toNatClampNeg x38_6.toInt32))) hg_1 kc1.1
        have hFR := hFR.tr hF1.l
        clear hF1
        have hTy := TR.set (c' := .inl (γ.2.1, 600, .inl (upd f_1 (nI (z26 + k1)).toNatClampNeg x38_6.toInt32))) hTy hg_1 (okr_6 kc1 hn_1 _)
        have hD := hD3
        clear hD3 hD2
        generalize G38.set i_1 (c1, .inl (γ.2.1, 600, .inl (upd f_1 (nI (z26 + k1)).toNatClampNeg x38_6.toInt32))) = G_2 at hP hD hTy hFR  
        refine lv_iinc (v := nI (z26 + 1)) (lv' := [(5, .int (nI (z26 + 1))), (8, .int (nI z38)), (6, .long x38_6), (0, .ref a1), (1, .int (nI n)), (2, .ref b1), (3, .int (nI k1)), (4, .ref c1)]) hx hb d_Model_times_108 hl (k := 2) rfl (nI_1 _) (by decide) rfl (fun ls hl => ?_)
        refine lv_goto (tgt := 26) hx hb d_Model_times_111 (by decide) ?_
        exact ih26 (z26 + 1, G_2) _ _ ls (by dsimp only; omega) ⟨by dsimp only; omega, by dsimp only; omega, hTy, hFR⟩ hP hD hS (lv_sub hl [0, 3, 4, 5, 6, 7] rfl)
      · have p41 : ¬ (k1 ≤ z38) := (fun q9 => c41 ((nI_leI (a := k1) (b := z38) (by omega) (by omega)).mpr q9))
        refine lv_lload hx hb d_Model_times_44 (lv_at hl 1 rfl) ?_
        refine lv_aload_n hx hb d_Model_times_46 rfl (lv_at hl 3 rfl) ?_
        refine lv_iload hx hb d_Model_times_47 (lv_at hl 2 rfl) ?_
        obtain ⟨i_3, f_3, hn_3, hg_3⟩ := tr_6 hTy ka1
        have h49 : vp_in (nI z26) 600 := vp_in_nI (by omega) (by omega)
        refine va_iald hx hb hK hP i_3 1 hg_3 rfl h49 d_Model_times_49 ?_
        refine lv_topi (fun e49 he49 => ?_)
        refine lv_i2l (v := e49.toInt64) hx hb d_Model_times_50 rfl ?_
        refine lv_aload_n hx hb d_Model_times_51 rfl (lv_at hl 5 rfl) ?_
        refine lv_iload hx hb d_Model_times_52 (lv_at hl 0 rfl) ?_
        obtain ⟨i_4, f_4, hn_4, hg_4⟩ := tr_6 hTy kb1
        have h54 : vp_in (nI z38) 600 := vp_in_nI (by omega) (by omega)
        refine va_iald hx hb hK hP i_4 1 hg_4 rfl h54 d_Model_times_54 ?_
        refine lv_topi (fun e54 he54 => ?_)
        refine lv_i2l (v := e54.toInt64) hx hb d_Model_times_55 rfl ?_
        refine lv_lmul hx hb d_Model_times_56 ?_
        refine lv_aload hx hb d_Model_times_57 (lv_at hl 7 rfl) ?_
        refine lv_iload hx hb d_Model_times_59 (lv_at hl 2 rfl) ?_
        refine lv_iload hx hb d_Model_times_61 (lv_at hl 0 rfl) ?_
        refine lv_iadd hx hb d_Model_times_63 ?_
        rw [show ((nI z26) + (nI z38) : Int32) = nI (z26 + z38) from nI_add z26 z38]
        obtain ⟨i_5, f_5, hn_5, hg_5⟩ := tr_6 hTy kc1
        have h64 : vp_in (nI (z26 + z38)) 600 := vp_in_nI (by omega) (by omega)
        refine va_iald hx hb hK hP i_5 1 hg_5 rfl h64 d_Model_times_64 ?_
        refine lv_topi (fun e64 he64 => ?_)
        refine lv_i2l (v := e64.toInt64) hx hb d_Model_times_65 rfl ?_
        refine lv_ladd hx hb d_Model_times_66 ?_
        refine lv_ladd hx hb d_Model_times_67 ?_
        refine lv_topl (fun v68 ev68 => ?_)
        refine lv_lstore (lv' := [(6, .long v68), (8, .int (nI z38)), (5, .int (nI z26)), (0, .ref a1), (1, .int (nI n)), (2, .ref b1), (3, .int (nI k1)), (4, .ref c1)]) hx hb d_Model_times_68 hl (by decide) rfl (fun ls hl => ?_)
        refine lv_aload hx hb d_Model_times_70 (lv_at hl 7 rfl) ?_
        refine lv_iload hx hb d_Model_times_72 (lv_at hl 2 rfl) ?_
        refine lv_iload hx hb d_Model_times_74 (lv_at hl 1 rfl) ?_
        refine lv_iadd hx hb d_Model_times_76 ?_
        rw [show ((nI z26) + (nI z38) : Int32) = nI (z26 + z38) from nI_add z26 z38]
        refine lv_lload hx hb d_Model_times_77 (lv_at hl 0 rfl) ?_
        refine lv_ldc2 (v := 65535) hx hb hown (htb _ q9_120) d_Model_times_79 ?_
        refine lv_land hx hb d_Model_times_82 ?_
        refine lv_l2i (v := (v68 &&& 65535).toInt32) hx hb d_Model_times_83 rfl ?_
        have h84 : vp_in (nI (z26 + z38)) 600 := vp_in_nI (by omega) (by omega)
        refine va_iast hx hb hK hP hD hS i_5 1 hg_5 rfl h84 d_Model_times_84 (fun H84 locs hP hD2 hS => ?_)
        have hP : va_P (dC, dI) classes (G38.set i_5 (c1, .inl (γ.2.1, 600, .inl (upd f_5 (nI (z26 + z38)).toNatClampNeg ((v68 &&& 65535).toInt32))))) H84 := hP
        have hD3 : va_D A (G38.set i_5 (c1, .inl (γ.2.1, 600, .inl (upd f_5 (nI (z26 + z38)).toNatClampNeg ((v68 &&& 65535).toInt32))))) := hD2
        have hF1 := FR.set (c' := .inl (γ.2.1, 600, .inl (upd f_5 (nI (z26 + z38)).toNatClampNeg ((v68 &&& 65535).toInt32)))) hg_5 kc1.1
        have hFR := hFR.tr hF1.l
        clear hF1
        have hTy := TR.set (c' := .inl (γ.2.1, 600, .inl (upd f_5 (nI (z26 + z38)).toNatClampNeg ((v68 &&& 65535).toInt32)))) hTy hg_5 (okr_6 kc1 hn_5 _)
        have hD := hD3
        clear hD3 hD2
        generalize G38.set i_5 (c1, .inl (γ.2.1, 600, .inl (upd f_5 (nI (z26 + z38)).toNatClampNeg ((v68 &&& 65535).toInt32)))) = G_6 at hP hD hTy hFR  
        refine lv_lload hx hb d_Model_times_85 (lv_at hl 0 rfl) ?_
        refine lv_bipush (v := 16) hx hb d_Model_times_87 (by decide) ?_
        refine lv_lushr (v := (v68.toUInt64 >>> ((16 : Int32).toInt64.toUInt64 &&& Int64.toUInt64 63)).toInt64) hx hb d_Model_times_89 rfl ?_
        refine lv_topl (fun v90 ev90 => ?_)
        refine lv_lstore (lv' := [(6, .long v90), (8, .int (nI z38)), (5, .int (nI z26)), (0, .ref a1), (1, .int (nI n)), (2, .ref b1), (3, .int (nI k1)), (4, .ref c1)]) hx hb d_Model_times_90 hl (by decide) rfl (fun ls hl => ?_)
        refine lv_iinc (v := nI (z38 + 1)) (lv' := [(8, .int (nI (z38 + 1))), (6, .long v90), (5, .int (nI z26)), (0, .ref a1), (1, .int (nI n)), (2, .ref b1), (3, .int (nI k1)), (4, .ref c1)]) hx hb d_Model_times_92 hl (k := 1) rfl (nI_1 _) (by decide) rfl (fun ls hl => ?_)
        refine lv_goto (tgt := 38) hx hb d_Model_times_95 (by decide) ?_
        exact ih38 (z38 + 1, v90, G_6) _ _ ls (by dsimp only; omega) ⟨by dsimp only; omega, by dsimp only; omega, hTy, hFR⟩ hP hD hS (lv_sub hl [0, 1, 2, 3, 4, 5, 6, 7] rfl)
  · have p8 : ¬ ((n + k1) ≤ z3) := (fun q9 => c8 ((nI_leI (a := (n + k1)) (b := z3) (by omega) (by omega)).mpr q9))
    refine lv_aload hx hb d_Model_times_11 (lv_at hl 5 rfl) ?_
    refine lv_iload hx hb d_Model_times_13 (lv_at hl 0 rfl) ?_
    refine lv_iconst (v := 0) hx hb d_Model_times_15 (by decide) ?_
    obtain ⟨i_7, f_7, hn_7, hg_7⟩ := tr_6 hTy kc1
    have h16 : vp_in (nI z3) 600 := vp_in_nI (by omega) (by omega)
    refine va_iast hx hb hK hP hD hS i_7 1 hg_7 rfl h16 d_Model_times_16 (fun H16 locs hP hD2 hS => ?_)
    have hP : va_P (dC, dI) classes (G3.set i_7 (c1, .inl (γ.2.1, 600, .inl (upd f_7 (nI z3).toNatClampNeg 0)))) H16 := hP
    have hD3 : va_D A (G3.set i_7 (c1, .inl (γ.2.1, 600, .inl (upd f_7 (nI z3).toNatClampNeg 0)))) := hD2
    have hF1 := FR.set (c' := .inl (γ.2.1, 600, .inl (upd f_7 (nI z3).toNatClampNeg 0))) hg_7 kc1.1
    have hFR := hFR.tr hF1.l
    clear hF1
    have hTy := TR.set (c' := .inl (γ.2.1, 600, .inl (upd f_7 (nI z3).toNatClampNeg 0))) hTy hg_7 (okr_6 kc1 hn_7 _)
    have hD := hD3
    clear hD3 hD2
    generalize G3.set i_7 (c1, .inl (γ.2.1, 600, .inl (upd f_7 (nI z3).toNatClampNeg 0))) = G_8 at hP hD hTy hFR  
    refine lv_iinc (v := nI (z3 + 1)) (lv' := [(5, .int (nI (z3 + 1))), (0, .ref a1), (1, .int (nI n)), (2, .ref b1), (3, .int (nI k1)), (4, .ref c1)]) hx hb d_Model_times_17 hl (k := 0) rfl (nI_1 _) (by decide) rfl (fun ls hl => ?_)
    refine lv_goto (tgt := 3) hx hb d_Model_times_20 (by decide) ?_
    exact ih3 (z3 + 1, G_8) _ _ ls (by dsimp only; omega) ⟨by dsimp only; omega, by dsimp only; omega, hTy, hFR⟩ hP hD hS (lv_sub hl [0, 1, 2, 3, 4, 5] rfl)
