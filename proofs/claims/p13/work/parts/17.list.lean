/-! ArrayList: reading. A list: its cell (elementData, size, modCount), its array of cap places, a i: what stands at place i. -/
def y_AL_size : MethodName := ⟨"java/util/ArrayList", "size", "()I"⟩
abbrev b_AL_size : ByteArray := prog_32_method_8_code
def w_AL_size : List Cond := Cond.code y_AL_size b_AL_size 1 ((some FieldType.int)) :: tb
theorem d_AL_size_0 : decode b_AL_size 0 = .ok (.aload_n 0, 1) := by decide +kernel
theorem d_AL_size_1 : decode b_AL_size 1 = .ok (.getfield 48, 3) := by decide +kernel
theorem d_AL_size_4 : decode b_AL_size 4 = .ok (.ireturn, 1) := by decide +kernel
def y_AL_isEmpty : MethodName := ⟨"java/util/ArrayList", "isEmpty", "()Z"⟩
abbrev b_AL_isEmpty : ByteArray := prog_32_method_9_code
def w_AL_isEmpty : List Cond := Cond.code y_AL_isEmpty b_AL_isEmpty 1 ((some FieldType.boolean)) :: tb
theorem d_AL_isEmpty_0 : decode b_AL_isEmpty 0 = .ok (.aload_n 0, 1) := by decide +kernel
theorem d_AL_isEmpty_1 : decode b_AL_isEmpty 1 = .ok (.getfield 48, 3) := by decide +kernel
theorem d_AL_isEmpty_4 : decode b_AL_isEmpty 4 = .ok (.ifCond .ne 7, 3) := by decide +kernel
theorem d_AL_isEmpty_7 : decode b_AL_isEmpty 7 = .ok (.iconst 1, 1) := by decide +kernel
theorem d_AL_isEmpty_8 : decode b_AL_isEmpty 8 = .ok (.goto 4, 3) := by decide +kernel
theorem d_AL_isEmpty_11 : decode b_AL_isEmpty 11 = .ok (.iconst 0, 1) := by decide +kernel
theorem d_AL_isEmpty_12 : decode b_AL_isEmpty 12 = .ok (.ireturn, 1) := by decide +kernel
def y_AL_get : MethodName := ⟨"java/util/ArrayList", "get", "(I)Ljava/lang/Object;"⟩
abbrev b_AL_get : ByteArray := prog_32_method_20_code
def w_AL_get : List Cond := Cond.code y_AL_get b_AL_get 2 ((some (FieldType.object "java/lang/Object"))) :: tb
theorem d_AL_get_0 : decode b_AL_get 0 = .ok (.iload_n 1, 1) := by decide +kernel
theorem d_AL_get_1 : decode b_AL_get 1 = .ok (.aload_n 0, 1) := by decide +kernel
theorem d_AL_get_2 : decode b_AL_get 2 = .ok (.getfield 48, 3) := by decide +kernel
theorem d_AL_get_5 : decode b_AL_get 5 = .ok (.invokestatic 118, 3) := by decide +kernel
theorem d_AL_get_8 : decode b_AL_get 8 = .ok (.pop, 1) := by decide +kernel
theorem d_AL_get_9 : decode b_AL_get 9 = .ok (.aload_n 0, 1) := by decide +kernel
theorem d_AL_get_10 : decode b_AL_get 10 = .ok (.iload_n 1, 1) := by decide +kernel
theorem d_AL_get_11 : decode b_AL_get 11 = .ok (.invokevirtual 123, 3) := by decide +kernel
theorem d_AL_get_14 : decode b_AL_get 14 = .ok (.areturn, 1) := by decide +kernel
def y_AL_elementData : MethodName := ⟨"java/util/ArrayList", "elementData", "(I)Ljava/lang/Object;"⟩
abbrev b_AL_elementData : ByteArray := prog_32_method_18_code
def w_AL_elementData : List Cond := Cond.code y_AL_elementData b_AL_elementData 2 ((some (FieldType.object "java/lang/Object"))) :: tb
theorem d_AL_elementData_0 : decode b_AL_elementData 0 = .ok (.aload_n 0, 1) := by decide +kernel
theorem d_AL_elementData_1 : decode b_AL_elementData 1 = .ok (.getfield 9, 3) := by decide +kernel
theorem d_AL_elementData_4 : decode b_AL_elementData 4 = .ok (.iload_n 1, 1) := by decide +kernel
theorem d_AL_elementData_5 : decode b_AL_elementData 5 = .ok (.aaload, 1) := by decide +kernel
theorem d_AL_elementData_6 : decode b_AL_elementData 6 = .ok (.areturn, 1) := by decide +kernel
def y_Objects_checkIndex : MethodName := ⟨"java/util/Objects", "checkIndex", "(II)I"⟩
abbrev b_Objects_checkIndex : ByteArray := prog_36_method_17_code
def w_Objects_checkIndex : List Cond := Cond.code y_Objects_checkIndex b_Objects_checkIndex 2 ((some FieldType.int)) :: tb
theorem d_Objects_checkIndex_0 : decode b_Objects_checkIndex 0 = .ok (.iload_n 0, 1) := by decide +kernel
theorem d_Objects_checkIndex_1 : decode b_Objects_checkIndex 1 = .ok (.iload_n 1, 1) := by decide +kernel
theorem d_Objects_checkIndex_2 : decode b_Objects_checkIndex 2 = .ok (.aconst_null, 1) := by decide +kernel
theorem d_Objects_checkIndex_3 : decode b_Objects_checkIndex 3 = .ok (.invokestatic 105, 3) := by decide +kernel
theorem d_Objects_checkIndex_6 : decode b_Objects_checkIndex 6 = .ok (.ireturn, 1) := by decide +kernel
def y_Preconditions_checkIndex : MethodName := ⟨"jdk/internal/util/Preconditions", "checkIndex", "(IILjava/util/function/BiFunction;)I"⟩
abbrev b_Preconditions_checkIndex : ByteArray := prog_40_method_11_code
def w_Preconditions_checkIndex : List Cond := Cond.code y_Preconditions_checkIndex b_Preconditions_checkIndex 3 ((some FieldType.int)) :: tb
theorem d_Preconditions_checkIndex_0 : decode b_Preconditions_checkIndex 0 = .ok (.iload_n 0, 1) := by decide +kernel
theorem d_Preconditions_checkIndex_1 : decode b_Preconditions_checkIndex 1 = .ok (.ifCond .lt 8, 3) := by decide +kernel
theorem d_Preconditions_checkIndex_4 : decode b_Preconditions_checkIndex 4 = .ok (.iload_n 0, 1) := by decide +kernel
theorem d_Preconditions_checkIndex_5 : decode b_Preconditions_checkIndex 5 = .ok (.iload_n 1, 1) := by decide +kernel
theorem d_Preconditions_checkIndex_6 : decode b_Preconditions_checkIndex 6 = .ok (.if_icmp .lt 10, 3) := by decide +kernel
theorem d_Preconditions_checkIndex_16 : decode b_Preconditions_checkIndex 16 = .ok (.iload_n 0, 1) := by decide +kernel
theorem d_Preconditions_checkIndex_17 : decode b_Preconditions_checkIndex 17 = .ok (.ireturn, 1) := by decide +kernel
set_option maxHeartbeats 4000000 in
set_option maxRecDepth 100000 in
theorem c_AL_size (l : Launch) (dC : Nat → ClassId) (dI : Nat → Nat → Nat) (sb : sB) (q0 e0 z : Nat) (mo : Int32) : Met l y_AL_size w_AL_size ({ frames := 0, cells := 0, slots := 0, locals := 0 }) (pu_P [.ref q0] (dC, dI) sb [(q0, .inr (11, [.ref e0, .int (nI z), .int mo]))] []) (vp_Si (fun r => r = nI z)) 0 0 (fun _ => False) := by
  refine Met.ofW (cc := b_AL_size) (maxL := 1) (ret := (some FieldType.int)) (by decide) rfl ?_
  intro p e s m args below meth c s₁ B hml hv
  obtain ⟨rfl, hP, hK, hN, hT0⟩ := hv
  have hx := B.exec
  have hb := B.bytes
  have hr := B.returns
  have hts := atoms_spec (ws := w_AL_size) B.pre
  have tbin : ∀ w ∈ tb, w ∈ w_AL_size := fun w h => List.mem_cons_of_mem _ h
  have htb : ∀ w ∈ tb, w.before _ s = true := fun w h => hts w (tbin w h)
  have hown : s.vm.findClass "java/util/ArrayList" = some m.cls := findClass_of_methodNamed B.named
  have hlocks := B.notSynchronized
  have hcs : 0 ≤ (headSpec w_AL_size ({ frames := 0, cells := 0, slots := 0, locals := 0 })).room.cells ∧ 0 ≤ (headSpec w_AL_size ({ frames := 0, cells := 0, slots := 0, locals := 0 })).room.slots := ⟨Nat.zero_le _, Nat.zero_le _⟩
  have hP : va_P (dC, dI) classes [(q0, .inr (11, [.ref e0, .int (nI z), .int mo]))] s.heap := hP
  have hl := lv_entry ([.ref q0]) (n := 1) (Nat.le_of_ble_eq_true rfl)
  rw [lg_entry_eq]
  generalize (lg_sl ([.ref q0]) ++ List.replicate (1 - (lg_sl ([.ref q0])).length) Slot.unset).toArray = ls at hl ⊢
  have hl : lv_has ls 1 [(0, .ref q0)] := hl
  refine lv_aload_n hx hb d_AL_size_0 rfl (lv_at hl 0 rfl) ?_
  refine va_get (v := .int (nI z)) hx hb htb i_AL hown hK hP 0 rfl rfl 1 (by decide) (htb _ q1_56) (fun _ h9 => h9) rfl d_AL_size_1 ?_
  exact W.iret (v := nI z) hx hb hr (fun t ht hW => ⟨_, rfl, rfl, ht⟩) (fun q h => by cases h) d_AL_size_4
set_option maxHeartbeats 4000000 in
set_option maxRecDepth 100000 in
theorem c_AL_isEmpty (l : Launch) (dC : Nat → ClassId) (dI : Nat → Nat → Nat) (sb : sB) (q0 e0 z : Nat) (mo : Int32) (hz : z < 2 ^ 31) : Met l y_AL_isEmpty w_AL_isEmpty ({ frames := 0, cells := 0, slots := 0, locals := 0 }) (pu_P [.ref q0] (dC, dI) sb [(q0, .inr (11, [.ref e0, .int (nI z), .int mo]))] []) (vp_Si (fun r => bz r (z = 0))) 0 0 (fun _ => False) := by
  refine Met.ofW (cc := b_AL_isEmpty) (maxL := 1) (ret := (some FieldType.boolean)) (by decide) rfl ?_
  intro p e s m args below meth c s₁ B hml hv
  obtain ⟨rfl, hP, hK, hN, hT0⟩ := hv
  have hx := B.exec
  have hb := B.bytes
  have hr := B.returns
  have hts := atoms_spec (ws := w_AL_isEmpty) B.pre
  have tbin : ∀ w ∈ tb, w ∈ w_AL_isEmpty := fun w h => List.mem_cons_of_mem _ h
  have htb : ∀ w ∈ tb, w.before _ s = true := fun w h => hts w (tbin w h)
  have hown : s.vm.findClass "java/util/ArrayList" = some m.cls := findClass_of_methodNamed B.named
  have hlocks := B.notSynchronized
  have hcs : 0 ≤ (headSpec w_AL_isEmpty ({ frames := 0, cells := 0, slots := 0, locals := 0 })).room.cells ∧ 0 ≤ (headSpec w_AL_isEmpty ({ frames := 0, cells := 0, slots := 0, locals := 0 })).room.slots := ⟨Nat.zero_le _, Nat.zero_le _⟩
  have hP : va_P (dC, dI) classes [(q0, .inr (11, [.ref e0, .int (nI z), .int mo]))] s.heap := hP
  have hl := lv_entry ([.ref q0]) (n := 1) (Nat.le_of_ble_eq_true rfl)
  rw [lg_entry_eq]
  generalize (lg_sl ([.ref q0]) ++ List.replicate (1 - (lg_sl ([.ref q0])).length) Slot.unset).toArray = ls at hl ⊢
  have hl : lv_has ls 1 [(0, .ref q0)] := hl
  refine w_join (J := fun v => bz v (z = 0)) (pc := 12) (ls := ls) (rest := []) (fun v hv => ?_) (fun k12 => ?_)
  · skip
    exact W.zret (v := v) hx hb hr (bz_n hv) (fun t ht hW => ⟨_, rfl, hv, ht⟩) (fun q h => by cases h) d_AL_isEmpty_12
  · skip
    refine lv_aload_n hx hb d_AL_isEmpty_0 rfl (lv_at hl 0 rfl) ?_
    refine va_get (v := .int (nI z)) hx hb htb i_AL hown hK hP 0 rfl rfl 1 (by decide) (htb _ q1_56) (fun _ h9 => h9) rfl d_AL_isEmpty_1 ?_
    refine lv_if_ne (tgt := 11) hx hb d_AL_isEmpty_4 (by decide) (fun c4 => ?_) (fun c4 => ?_)
    · refine lv_iconst (v := 0) hx hb d_AL_isEmpty_11 (by decide) ?_
      exact k12 _ (bz_f (fun q => c4 (by rw [q]; rfl)))
    · refine lv_iconst (v := 1) hx hb d_AL_isEmpty_7 (by decide) ?_
      refine lv_goto (tgt := 12) hx hb d_AL_isEmpty_8 (by decide) ?_
      exact k12 _ (bz_t (by rw [show (0 : Int32) = nI 0 from rfl, nI_eq (by omega) (by omega)] at c4; exact c4))
set_option maxHeartbeats 4000000 in
set_option maxRecDepth 100000 in
theorem c_preCheck (l : Launch) (dC : Nat → ClassId) (dI : Nat → Nat → Nat) (sb : sB) (k n : Nat) (hk : k < n) (hn : n < 2 ^ 31) : Met l y_Preconditions_checkIndex w_Preconditions_checkIndex ({ frames := 0, cells := 0, slots := 0, locals := 0 }) (pu_P [.int (nI k), .int (nI n), .null] (dC, dI) sb [] []) (vp_Si (fun r => r = nI k)) 0 0 (fun _ => False) := by
  refine Met.ofW (cc := b_Preconditions_checkIndex) (maxL := 3) (ret := (some FieldType.int)) (by decide) rfl ?_
  intro p e s m args below meth c s₁ B hml hv
  obtain ⟨rfl, hP, hK, hN, hT0⟩ := hv
  have hx := B.exec
  have hb := B.bytes
  have hr := B.returns
  have hts := atoms_spec (ws := w_Preconditions_checkIndex) B.pre
  have tbin : ∀ w ∈ tb, w ∈ w_Preconditions_checkIndex := fun w h => List.mem_cons_of_mem _ h
  have htb : ∀ w ∈ tb, w.before _ s = true := fun w h => hts w (tbin w h)
  have hown : s.vm.findClass "jdk/internal/util/Preconditions" = some m.cls := findClass_of_methodNamed B.named
  have hlocks := B.notSynchronized
  have hcs : 0 ≤ (headSpec w_Preconditions_checkIndex ({ frames := 0, cells := 0, slots := 0, locals := 0 })).room.cells ∧ 0 ≤ (headSpec w_Preconditions_checkIndex ({ frames := 0, cells := 0, slots := 0, locals := 0 })).room.slots := ⟨Nat.zero_le _, Nat.zero_le _⟩
  have hP : va_P (dC, dI) classes [] s.heap := hP
  have hl := lv_entry ([.int (nI k), .int (nI n), .null]) (n := 3) (Nat.le_of_ble_eq_true rfl)
  rw [lg_entry_eq]
  generalize (lg_sl ([.int (nI k), .int (nI n), .null]) ++ List.replicate (3 - (lg_sl ([.int (nI k), .int (nI n), .null])).length) Slot.unset).toArray = ls at hl ⊢
  have hl : lv_has ls 3 [(0, .int (nI k)), (1, .int (nI n)), (2, .null)] := hl
  refine lv_iload_n hx hb d_Preconditions_checkIndex_0 rfl (lv_at hl 0 rfl) ?_
  refine lv_if_lt (tgt := 9) hx hb d_Preconditions_checkIndex_1 (by decide) (fun c1 => ?_) (fun c1 => ?_)
  · exact absurd c1 (nI_pos (by omega))
  refine lv_iload_n hx hb d_Preconditions_checkIndex_4 rfl (lv_at hl 0 rfl) ?_
  refine lv_iload_n hx hb d_Preconditions_checkIndex_5 rfl (lv_at hl 1 rfl) ?_
  refine lv_icmp_lt (tgt := 16) hx hb d_Preconditions_checkIndex_6 (by decide) (fun c6 => ?_) (fun c6 => ?_)
  rotate_left
  · exact absurd (nI_lt hk hn) c6
  refine lv_iload_n hx hb d_Preconditions_checkIndex_16 rfl (lv_at hl 0 rfl) ?_
  exact W.iret (v := nI k) hx hb hr (fun t ht hW => ⟨_, rfl, rfl, ht⟩) (fun q h => by cases h) d_Preconditions_checkIndex_17
set_option maxHeartbeats 4000000 in
set_option maxRecDepth 100000 in
theorem c_checkIndex (l : Launch) (dC : Nat → ClassId) (dI : Nat → Nat → Nat) (sb : sB) (k n : Nat) (hk : k < n) (hn : n < 2 ^ 31) : Met l y_Objects_checkIndex w_Objects_checkIndex ({ frames := 1, cells := 0, slots := 0, locals := 22 }) (pu_P [.int (nI k), .int (nI n)] (dC, dI) sb [] []) (vp_Si (fun r => r = nI k)) 0 0 (fun _ => False) := by
  refine Met.ofW (cc := b_Objects_checkIndex) (maxL := 2) (ret := (some FieldType.int)) (by decide) rfl ?_
  intro p e s m args below meth c s₁ B hml hv
  obtain ⟨rfl, hP, hK, hN, hT0⟩ := hv
  have hx := B.exec
  have hb := B.bytes
  have hr := B.returns
  have hts := atoms_spec (ws := w_Objects_checkIndex) B.pre
  have tbin : ∀ w ∈ tb, w ∈ w_Objects_checkIndex := fun w h => List.mem_cons_of_mem _ h
  have htb : ∀ w ∈ tb, w.before _ s = true := fun w h => hts w (tbin w h)
  have hown : s.vm.findClass "java/util/Objects" = some m.cls := findClass_of_methodNamed B.named
  have hlocks := B.notSynchronized
  have hcs : 0 ≤ (headSpec w_Objects_checkIndex ({ frames := 1, cells := 0, slots := 0, locals := 22 })).room.cells ∧ 0 ≤ (headSpec w_Objects_checkIndex ({ frames := 1, cells := 0, slots := 0, locals := 22 })).room.slots := ⟨Nat.zero_le _, Nat.zero_le _⟩
  have hP : va_P (dC, dI) classes [] s.heap := hP
  have hl := lv_entry ([.int (nI k), .int (nI n)]) (n := 2) (Nat.le_of_ble_eq_true rfl)
  rw [lg_entry_eq]
  generalize (lg_sl ([.int (nI k), .int (nI n)]) ++ List.replicate (2 - (lg_sl ([.int (nI k), .int (nI n)])).length) Slot.unset).toArray = ls at hl ⊢
  have hl : lv_has ls 2 [(0, .int (nI k)), (1, .int (nI n))] := hl
  refine lv_iload_n hx hb d_Objects_checkIndex_0 rfl (lv_at hl 0 rfl) ?_
  refine lv_iload_n hx hb d_Objects_checkIndex_1 rfl (lv_at hl 1 rfl) ?_
  refine lv_null hx hb d_Objects_checkIndex_2 ?_
  refine vp_callSi (pu_callS (As := [.int (nI k), .int (nI n), .null]) (rest := []) ⟨hx, hb, hml, hown, hts⟩ tbin (c_preCheck l dC dI sb k n hk hn) q4_216 q4_217 q1_26 q4_218 (n := 3) (by decide +kernel) rfl ⟨rfl, rfl⟩ ⟨Nat.le_of_ble_eq_true rfl, Nat.le_of_ble_eq_true rfl⟩ ⟨Nat.le_of_ble_eq_true rfl, Nat.le_of_ble_eq_true rfl⟩ hN hT0 hK hP [] rfl [] rfl hl.1 rfl (Nat.le_of_ble_eq_true rfl) d_Objects_checkIndex_3) (fun r3 hr3 => ?_)
  exact W.iret (v := r3) hx hb hr (fun t ht hW => ⟨_, rfl, hr3, ht⟩) (fun q h => by cases h) d_Objects_checkIndex_6
set_option maxHeartbeats 4000000 in
set_option maxRecDepth 100000 in
theorem c_AL_elementData (l : Launch) (dC : Nat → ClassId) (dI : Nat → Nat → Nat) (sb : sB) (q0 e0 z cap k q : Nat) (mo : Int32) (cO : ClassId) (f : Nat → Option Nat) (hk : k < z) (hz : z ≤ cap) (hc : cap < 2 ^ 31) (hf : f k = some q) : Met l y_AL_elementData w_AL_elementData ({ frames := 0, cells := 0, slots := 0, locals := 0 }) (pu_P [.ref q0, .int (nI k)] (dC, dI) sb [(q0, .inr (11, [.ref e0, .int (nI z), .int mo])), (e0, .inl (cO, cap, .inr (.inr (.inr (.inr f)))))] [(cO, .object "java/lang/Object")]) (va_Sr (fun r => r = q) (fun k => .ref k)) 0 0 (fun _ => False) := by
  refine Met.ofW (cc := b_AL_elementData) (maxL := 2) (ret := (some (FieldType.object "java/lang/Object"))) (by decide) rfl ?_
  intro p e s m args below meth c s₁ B hml hv
  obtain ⟨rfl, hP, hK, hN, hT0⟩ := hv
  have hx := B.exec
  have hb := B.bytes
  have hr := B.returns
  have hts := atoms_spec (ws := w_AL_elementData) B.pre
  have tbin : ∀ w ∈ tb, w ∈ w_AL_elementData := fun w h => List.mem_cons_of_mem _ h
  have htb : ∀ w ∈ tb, w.before _ s = true := fun w h => hts w (tbin w h)
  have hown : s.vm.findClass "java/util/ArrayList" = some m.cls := findClass_of_methodNamed B.named
  have hlocks := B.notSynchronized
  have hcs : 0 ≤ (headSpec w_AL_elementData ({ frames := 0, cells := 0, slots := 0, locals := 0 })).room.cells ∧ 0 ≤ (headSpec w_AL_elementData ({ frames := 0, cells := 0, slots := 0, locals := 0 })).room.slots := ⟨Nat.zero_le _, Nat.zero_le _⟩
  have hP : va_P (dC, dI) classes [(q0, .inr (11, [.ref e0, .int (nI z), .int mo])), (e0, .inl (cO, cap, .inr (.inr (.inr (.inr f)))))] s.heap := hP
  have hl := lv_entry ([.ref q0, .int (nI k)]) (n := 2) (Nat.le_of_ble_eq_true rfl)
  rw [lg_entry_eq]
  generalize (lg_sl ([.ref q0, .int (nI k)]) ++ List.replicate (2 - (lg_sl ([.ref q0, .int (nI k)])).length) Slot.unset).toArray = ls at hl ⊢
  have hl : lv_has ls 2 [(0, .ref q0), (1, .int (nI k))] := hl
  refine lv_aload_n hx hb d_AL_elementData_0 rfl (lv_at hl 0 rfl) ?_
  refine va_get (v := .ref e0) hx hb htb i_AL hown hK hP 0 rfl rfl 0 (by decide) (htb _ q1_55) (fun _ h9 => h9) rfl d_AL_elementData_1 ?_
  refine lv_iload_n hx hb d_AL_elementData_4 rfl (lv_at hl 1 rfl) ?_
  have h5 : vp_in (nI k) cap := vp_in_nI (by omega) hc
  refine va_aldq hx hb hK hP 1 0 rfl rfl h5 d_AL_elementData_5 ?_
  rw [show va_rf (f (nI k).toNatClampNeg) = .ref q from by rw [nI_clamp (by omega), hf]; rfl]
  exact W.aret (v := .ref q) hx hb hr (Or.inl ⟨_, rfl⟩) (Or.inr ⟨_, rfl⟩) (fun t ht hW => ⟨q, rfl, rfl, ht⟩) (fun q h => by cases h) d_AL_elementData_6
set_option maxHeartbeats 4000000 in
set_option maxRecDepth 100000 in
theorem c_AL_get (l : Launch) (dC : Nat → ClassId) (dI : Nat → Nat → Nat) (sb : sB) (q0 e0 z cap k q : Nat) (mo : Int32) (cO : ClassId) (f : Nat → Option Nat) (hk : k < z) (hz : z ≤ cap) (hc : cap < 2 ^ 31) (hf : f k = some q) : Met l y_AL_get w_AL_get ({ frames := 2, cells := 0, slots := 0, locals := 43 }) (pu_P [.ref q0, .int (nI k)] (dC, dI) sb [(q0, .inr (11, [.ref e0, .int (nI z), .int mo])), (e0, .inl (cO, cap, .inr (.inr (.inr (.inr f)))))] [(cO, .object "java/lang/Object")]) (va_Sr (fun r => r = q) (fun k => .ref k)) 0 0 (fun _ => False) := by
  refine Met.ofW (cc := b_AL_get) (maxL := 2) (ret := (some (FieldType.object "java/lang/Object"))) (by decide) rfl ?_
  intro p e s m args below meth c s₁ B hml hv
  obtain ⟨rfl, hP, hK, hN, hT0⟩ := hv
  have hx := B.exec
  have hb := B.bytes
  have hr := B.returns
  have hts := atoms_spec (ws := w_AL_get) B.pre
  have tbin : ∀ w ∈ tb, w ∈ w_AL_get := fun w h => List.mem_cons_of_mem _ h
  have htb : ∀ w ∈ tb, w.before _ s = true := fun w h => hts w (tbin w h)
  have hown : s.vm.findClass "java/util/ArrayList" = some m.cls := findClass_of_methodNamed B.named
  have hlocks := B.notSynchronized
  have hcs : 0 ≤ (headSpec w_AL_get ({ frames := 2, cells := 0, slots := 0, locals := 43 })).room.cells ∧ 0 ≤ (headSpec w_AL_get ({ frames := 2, cells := 0, slots := 0, locals := 43 })).room.slots := ⟨Nat.zero_le _, Nat.zero_le _⟩
  have hP : va_P (dC, dI) classes [(q0, .inr (11, [.ref e0, .int (nI z), .int mo])), (e0, .inl (cO, cap, .inr (.inr (.inr (.inr f)))))] s.heap := hP
  have hl := lv_entry ([.ref q0, .int (nI k)]) (n := 2) (Nat.le_of_ble_eq_true rfl)
  rw [lg_entry_eq]
  generalize (lg_sl ([.ref q0, .int (nI k)]) ++ List.replicate (2 - (lg_sl ([.ref q0, .int (nI k)])).length) Slot.unset).toArray = ls at hl ⊢
  have hl : lv_has ls 2 [(0, .ref q0), (1, .int (nI k))] := hl
  refine lv_iload_n hx hb d_AL_get_0 rfl (lv_at hl 1 rfl) ?_
  refine lv_aload_n hx hb d_AL_get_1 rfl (lv_at hl 0 rfl) ?_
  refine va_get (v := .int (nI z)) hx hb htb i_AL hown hK hP 0 rfl rfl 1 (by decide) (htb _ q1_56) (fun _ h9 => h9) rfl d_AL_get_2 ?_
  refine vp_callSi (pu_callS (As := [.int (nI k), .int (nI z)]) (rest := []) ⟨hx, hb, hml, hown, hts⟩ tbin (c_checkIndex l dC dI sb k z hk (by omega)) q4_213 q4_214 q1_25 q4_215 (n := 2) (by decide +kernel) rfl ⟨rfl, rfl⟩ ⟨Nat.le_of_ble_eq_true rfl, Nat.le_of_ble_eq_true rfl⟩ ⟨Nat.le_of_ble_eq_true rfl, Nat.le_of_ble_eq_true rfl⟩ hN hT0 hK hP [] rfl [] rfl hl.1 rfl (Nat.le_of_ble_eq_true rfl) d_AL_get_5) (fun r5 hr5 => ?_)
  refine lv_pop hx hb d_AL_get_8 rfl ?_
  refine lv_aload_n hx hb d_AL_get_9 rfl (lv_at hl 0 rfl) ?_
  refine lv_iload_n hx hb d_AL_get_10 rfl (lv_at hl 1 rfl) ?_
  refine va_csr (pu_callV (As := [.int (nI k)]) (rest := []) ⟨hx, hb, hml, hown, hts⟩ tbin (c_AL_elementData l dC dI sb q0 e0 z cap k q mo cO f hk hz hc hf) q4_219 q4_220 q4_221 q1_4 q4_222 (n := 1) (by decide +kernel) rfl ⟨rfl, rfl⟩ ⟨Nat.le_of_ble_eq_true rfl, Nat.le_of_ble_eq_true rfl⟩ ⟨Nat.le_of_ble_eq_true rfl, Nat.le_of_ble_eq_true rfl⟩ hN hT0 hK hP [0, 1] rfl [0] rfl 0 11 rfl rfl rfl hl.1 rfl (Nat.le_of_ble_eq_true rfl) d_AL_get_11) (fun r11 hr11 => ?_)
  subst hr11
  exact W.aret (v := .ref r11) hx hb hr (Or.inl ⟨_, rfl⟩) (Or.inr ⟨_, rfl⟩) (fun t ht hW => ⟨r11, rfl, rfl, ht⟩) (fun q h => by cases h) d_AL_get_14
