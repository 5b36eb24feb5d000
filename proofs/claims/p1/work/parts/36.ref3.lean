/-! The reference: certificate and list where nothing was fed; its constructors. -/
theorem n_z {n : Int32} (h1 : ¬ n < 0) (h2 : ¬ 0 < n) : n = 0 := Int32.le_antisymm (Int32.not_lt.mp h2) (Int32.not_lt.mp h1)
def y_Text_bad : MethodName := ⟨"TrustChainModel$Text", "bad", "(I)Z"⟩
abbrev b_Text_bad : ByteArray := prog_15_method_2_code
def w_Text_bad : List Cond := Cond.code y_Text_bad b_Text_bad 2 ((some FieldType.boolean)) :: tb
theorem d_Text_bad_0 : decode b_Text_bad 0 = .ok (.aload_n 0, 1) := by decide +kernel
theorem d_Text_bad_1 : decode b_Text_bad 1 = .ok (.getfield 48, 3) := by decide +kernel
theorem d_Text_bad_4 : decode b_Text_bad 4 = .ok (.ifCond .ge 8, 3) := by decide +kernel
theorem d_Text_bad_7 : decode b_Text_bad 7 = .ok (.aload_n 0, 1) := by decide +kernel
theorem d_Text_bad_8 : decode b_Text_bad 8 = .ok (.iload_n 1, 1) := by decide +kernel
theorem d_Text_bad_9 : decode b_Text_bad 9 = .ok (.putfield 48, 3) := by decide +kernel
theorem d_Text_bad_12 : decode b_Text_bad 12 = .ok (.iconst 0, 1) := by decide +kernel
theorem d_Text_bad_13 : decode b_Text_bad 13 = .ok (.ireturn, 1) := by decide +kernel
set_option maxHeartbeats 4000000 in
set_option maxRecDepth 100000 in
theorem e_bad (l : Launch) (dC : Nat → ClassId) (dI : Nat → Nat → Nat) (sb : sB) (sp : Nat) (x0 x43 x44 x45 x46 x47 x48 x49 x50 x51 x52 x53 : Nat) (x1 x2 x4 x5 x6 x10 x11 x12 x13 x14 x15 x16 x17 x18 x19 x20 x21 x22 x23 x24 x25 x26 x27 x28 x29 x30 x31 x32 x33 x34 x35 x36 x37 x38 x39 x40 x41 x42 : Int32) (x7 x8 x9 : Int64) (sz : Nat) : Met l y_Text_bad w_Text_bad ({ frames := 0, cells := 0, slots := 0, locals := 0 }) (mu_P [.ref sp, .int 0] (dC, dI) sb [(sp, .inr (13, [.ref x0, .int x1, .int x2, .int (-1), .int x4, .int x5, .int x6, .long x7, .long x8, .long x9, .int x10, .int x11, .int x12, .int x13, .int x14, .int x15, .int x16, .int x17, .int x18, .int x19, .int x20, .int x21, .int x22, .int x23, .int x24, .int x25, .int x26, .int x27, .int x28, .int x29, .int x30, .int x31, .int x32, .int x33, .int x34, .int x35, .int x36, .int x37, .int x38, .int x39, .int x40, .int x41, .int x42, .ref x43, .ref x44, .ref x45, .ref x46, .ref x47, .ref x48, .ref x49, .ref x50, .ref x51, .ref x52, .ref x53]))] [] sz) (va_Qi (fun r (_u : Unit) => r = 0) (mu_B (dC, dI) [] (va_A [(sp, .inr (13, [.ref x0, .int x1, .int x2, .int (-1), .int x4, .int x5, .int x6, .long x7, .long x8, .long x9, .int x10, .int x11, .int x12, .int x13, .int x14, .int x15, .int x16, .int x17, .int x18, .int x19, .int x20, .int x21, .int x22, .int x23, .int x24, .int x25, .int x26, .int x27, .int x28, .int x29, .int x30, .int x31, .int x32, .int x33, .int x34, .int x35, .int x36, .int x37, .int x38, .int x39, .int x40, .int x41, .int x42, .ref x43, .ref x44, .ref x45, .ref x46, .ref x47, .ref x48, .ref x49, .ref x50, .ref x51, .ref x52, .ref x53]))] sz) (fun _ : Unit => [(sp, .inr (13, [.ref x0, .int x1, .int x2, .int 0, .int x4, .int x5, .int x6, .long x7, .long x8, .long x9, .int x10, .int x11, .int x12, .int x13, .int x14, .int x15, .int x16, .int x17, .int x18, .int x19, .int x20, .int x21, .int x22, .int x23, .int x24, .int x25, .int x26, .int x27, .int x28, .int x29, .int x30, .int x31, .int x32, .int x33, .int x34, .int x35, .int x36, .int x37, .int x38, .int x39, .int x40, .int x41, .int x42, .ref x43, .ref x44, .ref x45, .ref x46, .ref x47, .ref x48, .ref x49, .ref x50, .ref x51, .ref x52, .ref x53]))])) (va_A [(sp, .inr (13, [.ref x0, .int x1, .int x2, .int (-1), .int x4, .int x5, .int x6, .long x7, .long x8, .long x9, .int x10, .int x11, .int x12, .int x13, .int x14, .int x15, .int x16, .int x17, .int x18, .int x19, .int x20, .int x21, .int x22, .int x23, .int x24, .int x25, .int x26, .int x27, .int x28, .int x29, .int x30, .int x31, .int x32, .int x33, .int x34, .int x35, .int x36, .int x37, .int x38, .int x39, .int x40, .int x41, .int x42, .ref x43, .ref x44, .ref x45, .ref x46, .ref x47, .ref x48, .ref x49, .ref x50, .ref x51, .ref x52, .ref x53]))] sz)) 0 0 (va_A [(sp, .inr (13, [.ref x0, .int x1, .int x2, .int (-1), .int x4, .int x5, .int x6, .long x7, .long x8, .long x9, .int x10, .int x11, .int x12, .int x13, .int x14, .int x15, .int x16, .int x17, .int x18, .int x19, .int x20, .int x21, .int x22, .int x23, .int x24, .int x25, .int x26, .int x27, .int x28, .int x29, .int x30, .int x31, .int x32, .int x33, .int x34, .int x35, .int x36, .int x37, .int x38, .int x39, .int x40, .int x41, .int x42, .ref x43, .ref x44, .ref x45, .ref x46, .ref x47, .ref x48, .ref x49, .ref x50, .ref x51, .ref x52, .ref x53]))] sz) := by
  refine Met.ofW (cc := b_Text_bad) (maxL := 2) (ret := (some FieldType.boolean)) (by decide) rfl ?_
  intro p e s m args below meth c s₁ B hml hv
  obtain ⟨rfl, hsz, hB0, hP, hK, hD0, hN, hT0⟩ := hv
  have hx := B.exec
  have hb := B.bytes
  have hr := B.returns
  have hts := atoms_spec (ws := w_Text_bad) B.pre
  have tbin : ∀ w ∈ tb, w ∈ w_Text_bad := fun w h => List.mem_cons_of_mem _ h
  have htb : ∀ w ∈ tb, w.before _ s = true := fun w h => hts w (tbin w h)
  have hown : s.vm.findClass "TrustChainModel$Text" = some m.cls := findClass_of_methodNamed B.named
  have hlocks := B.notSynchronized
  subst hsz
  have hD := hD0.self (sz := s.heap.size)
  generalize hAe : va_A [(sp, .inr (13, [.ref x0, .int x1, .int x2, .int (-1), .int x4, .int x5, .int x6, .long x7, .long x8, .long x9, .int x10, .int x11, .int x12, .int x13, .int x14, .int x15, .int x16, .int x17, .int x18, .int x19, .int x20, .int x21, .int x22, .int x23, .int x24, .int x25, .int x26, .int x27, .int x28, .int x29, .int x30, .int x31, .int x32, .int x33, .int x34, .int x35, .int x36, .int x37, .int x38, .int x39, .int x40, .int x41, .int x42, .ref x43, .ref x44, .ref x45, .ref x46, .ref x47, .ref x48, .ref x49, .ref x50, .ref x51, .ref x52, .ref x53]))] s.heap.size = A at hD ⊢
  have hA : ∀ q : Nat, s.heap.size ≤ q → A q := fun q h => by rw [← hAe]; exact Or.inr h
  have hAs : ∀ q : Nat, A q → sb.1 ≤ q := fun q h => by
    rw [← hAe] at h
    rcases h with ⟨k, e, h⟩ | h
    · exact hD0.2 k _ h
    · exact Nat.le_trans hB0 h
  have hS : va_S A s.heap s.heap [] := va_S.rf
  have hcs : 0 ≤ (headSpec w_Text_bad ({ frames := 0, cells := 0, slots := 0, locals := 0 })).room.cells ∧ 0 ≤ (headSpec w_Text_bad ({ frames := 0, cells := 0, slots := 0, locals := 0 })).room.slots := ⟨Nat.le_refl _, Nat.le_refl _⟩
  have hP : va_P (dC, dI) classes [(sp, .inr (13, [.ref x0, .int x1, .int x2, .int (-1), .int x4, .int x5, .int x6, .long x7, .long x8, .long x9, .int x10, .int x11, .int x12, .int x13, .int x14, .int x15, .int x16, .int x17, .int x18, .int x19, .int x20, .int x21, .int x22, .int x23, .int x24, .int x25, .int x26, .int x27, .int x28, .int x29, .int x30, .int x31, .int x32, .int x33, .int x34, .int x35, .int x36, .int x37, .int x38, .int x39, .int x40, .int x41, .int x42, .ref x43, .ref x44, .ref x45, .ref x46, .ref x47, .ref x48, .ref x49, .ref x50, .ref x51, .ref x52, .ref x53]))] s.heap := hP
  have hl := lv_entry ([.ref sp, .int 0]) (n := 2) (Nat.le_of_ble_eq_true rfl)
  rw [lg_entry_eq]
  generalize (lg_sl ([.ref sp, .int 0]) ++ List.replicate (2 - (lg_sl ([.ref sp, .int 0])).length) Slot.unset).toArray = ls at hl ⊢
  have hl : lv_has ls 2 [(0, .ref sp), (1, .int 0)] := hl
  refine lv_aload_n hx hb d_Text_bad_0 rfl (lv_at hl 0 rfl) ?_
  refine va_get (v := .int (-1)) hx hb htb i_Text hown hK hP 0 rfl rfl 3 (by decide) (htb _ q6_183) (fun _ h9 => h9) rfl d_Text_bad_1 ?_
  refine lv_if_ge (tgt := 12) hx hb d_Text_bad_4 (by decide) (fun c4 => ?_) (fun c4 => ?_)
  · exact absurd c4 (by decide)
  refine lv_aload_n hx hb d_Text_bad_7 rfl (lv_at hl 0 rfl) ?_
  refine lv_iload_n hx hb d_Text_bad_8 rfl (lv_at hl 1 rfl) ?_
  refine va_put (v := .int 0) (ty := .int) hx hb htb i_Text t_Text t_Text_ok n_Text hown hK hP hD hS 0 rfl rfl 3 (by decide) (htb _ q6_183) (fun _ h9 => h9) rfl (by decide +kernel) rfl rfl (Nat.le_of_ble_eq_true rfl) d_Text_bad_9 (fun H9 locs hP hD hS => ?_)
  have hP : va_P (dC, dI) classes [(sp, .inr (13, [.ref x0, .int x1, .int x2, .int 0, .int x4, .int x5, .int x6, .long x7, .long x8, .long x9, .int x10, .int x11, .int x12, .int x13, .int x14, .int x15, .int x16, .int x17, .int x18, .int x19, .int x20, .int x21, .int x22, .int x23, .int x24, .int x25, .int x26, .int x27, .int x28, .int x29, .int x30, .int x31, .int x32, .int x33, .int x34, .int x35, .int x36, .int x37, .int x38, .int x39, .int x40, .int x41, .int x42, .ref x43, .ref x44, .ref x45, .ref x46, .ref x47, .ref x48, .ref x49, .ref x50, .ref x51, .ref x52, .ref x53]))] H9 := hP
  have hD : va_D A [(sp, .inr (13, [.ref x0, .int x1, .int x2, .int 0, .int x4, .int x5, .int x6, .long x7, .long x8, .long x9, .int x10, .int x11, .int x12, .int x13, .int x14, .int x15, .int x16, .int x17, .int x18, .int x19, .int x20, .int x21, .int x22, .int x23, .int x24, .int x25, .int x26, .int x27, .int x28, .int x29, .int x30, .int x31, .int x32, .int x33, .int x34, .int x35, .int x36, .int x37, .int x38, .int x39, .int x40, .int x41, .int x42, .ref x43, .ref x44, .ref x45, .ref x46, .ref x47, .ref x48, .ref x49, .ref x50, .ref x51, .ref x52, .ref x53]))] := hD
  refine lv_iconst (v := 0) hx hb d_Text_bad_12 (by decide) ?_
  exact W.zret (v := 0) hx hb hr (bz_n (bz_f not_false)) (fun t ht hW => ⟨⟨_, (), rfl, rfl, by rw [ht]; exact hP, va_K.moved hW.alike hK, hD⟩, hS.F ht⟩) hS.2.2 d_Text_bad_13
def y_Text_element : MethodName := ⟨"TrustChainModel$Text", "element", "(II)Z"⟩
abbrev b_Text_element : ByteArray := prog_15_method_4_code
def w_Text_element : List Cond := Cond.code y_Text_element b_Text_element 5 ((some FieldType.boolean)) :: tb
theorem d_Text_element_0 : decode b_Text_element 0 = .ok (.aload_n 0, 1) := by decide +kernel
theorem d_Text_element_1 : decode b_Text_element 1 = .ok (.getfield 52, 3) := by decide +kernel
theorem d_Text_element_4 : decode b_Text_element 4 = .ok (.iload_n 2, 1) := by decide +kernel
theorem d_Text_element_5 : decode b_Text_element 5 = .ok (.if_icmp .lt 9, 3) := by decide +kernel
theorem d_Text_element_8 : decode b_Text_element 8 = .ok (.aload_n 0, 1) := by decide +kernel
theorem d_Text_element_9 : decode b_Text_element 9 = .ok (.iload_n 2, 1) := by decide +kernel
theorem d_Text_element_10 : decode b_Text_element 10 = .ok (.invokevirtual 55, 3) := by decide +kernel
theorem d_Text_element_13 : decode b_Text_element 13 = .ok (.ireturn, 1) := by decide +kernel
theorem d_Text_element_14 : decode b_Text_element 14 = .ok (.aload_n 0, 1) := by decide +kernel
theorem d_Text_element_15 : decode b_Text_element 15 = .ok (.aload_n 0, 1) := by decide +kernel
theorem d_Text_element_16 : decode b_Text_element 16 = .ok (.getfield 52, 3) := by decide +kernel
set_option maxHeartbeats 4000000 in
set_option maxRecDepth 100000 in
theorem e_element (l : Launch) (dC : Nat → ClassId) (dI : Nat → Nat → Nat) (sb : sB) (sp : Nat) (x0 x43 x44 x45 x46 x47 x48 x49 x50 x51 x52 x53 : Nat) (x1 x4 x5 x6 x10 x11 x12 x13 x14 x15 x16 x17 x18 x19 x20 x21 x22 x23 x24 x25 x26 x27 x28 x29 x30 x31 x32 x33 x34 x35 x36 x37 x38 x39 x40 x41 x42 : Int32) (x7 x8 x9 : Int64) (tg : Int32) (sz : Nat) : Met l y_Text_element w_Text_element ({ frames := 1, cells := 0, slots := 0, locals := 21 }) (mu_P [.ref sp, .int tg, .int 0] (dC, dI) sb [(sp, .inr (13, [.ref x0, .int x1, .int 0, .int (-1), .int x4, .int x5, .int x6, .long x7, .long x8, .long x9, .int x10, .int x11, .int x12, .int x13, .int x14, .int x15, .int x16, .int x17, .int x18, .int x19, .int x20, .int x21, .int x22, .int x23, .int x24, .int x25, .int x26, .int x27, .int x28, .int x29, .int x30, .int x31, .int x32, .int x33, .int x34, .int x35, .int x36, .int x37, .int x38, .int x39, .int x40, .int x41, .int x42, .ref x43, .ref x44, .ref x45, .ref x46, .ref x47, .ref x48, .ref x49, .ref x50, .ref x51, .ref x52, .ref x53]))] [] sz) (va_Qi (fun r (_u : Unit) => r = 0) (mu_B (dC, dI) [] (va_A [(sp, .inr (13, [.ref x0, .int x1, .int 0, .int (-1), .int x4, .int x5, .int x6, .long x7, .long x8, .long x9, .int x10, .int x11, .int x12, .int x13, .int x14, .int x15, .int x16, .int x17, .int x18, .int x19, .int x20, .int x21, .int x22, .int x23, .int x24, .int x25, .int x26, .int x27, .int x28, .int x29, .int x30, .int x31, .int x32, .int x33, .int x34, .int x35, .int x36, .int x37, .int x38, .int x39, .int x40, .int x41, .int x42, .ref x43, .ref x44, .ref x45, .ref x46, .ref x47, .ref x48, .ref x49, .ref x50, .ref x51, .ref x52, .ref x53]))] sz) (fun _ : Unit => [(sp, .inr (13, [.ref x0, .int x1, .int 0, .int 0, .int x4, .int x5, .int x6, .long x7, .long x8, .long x9, .int x10, .int x11, .int x12, .int x13, .int x14, .int x15, .int x16, .int x17, .int x18, .int x19, .int x20, .int x21, .int x22, .int x23, .int x24, .int x25, .int x26, .int x27, .int x28, .int x29, .int x30, .int x31, .int x32, .int x33, .int x34, .int x35, .int x36, .int x37, .int x38, .int x39, .int x40, .int x41, .int x42, .ref x43, .ref x44, .ref x45, .ref x46, .ref x47, .ref x48, .ref x49, .ref x50, .ref x51, .ref x52, .ref x53]))])) (va_A [(sp, .inr (13, [.ref x0, .int x1, .int 0, .int (-1), .int x4, .int x5, .int x6, .long x7, .long x8, .long x9, .int x10, .int x11, .int x12, .int x13, .int x14, .int x15, .int x16, .int x17, .int x18, .int x19, .int x20, .int x21, .int x22, .int x23, .int x24, .int x25, .int x26, .int x27, .int x28, .int x29, .int x30, .int x31, .int x32, .int x33, .int x34, .int x35, .int x36, .int x37, .int x38, .int x39, .int x40, .int x41, .int x42, .ref x43, .ref x44, .ref x45, .ref x46, .ref x47, .ref x48, .ref x49, .ref x50, .ref x51, .ref x52, .ref x53]))] sz)) 0 0 (va_A [(sp, .inr (13, [.ref x0, .int x1, .int 0, .int (-1), .int x4, .int x5, .int x6, .long x7, .long x8, .long x9, .int x10, .int x11, .int x12, .int x13, .int x14, .int x15, .int x16, .int x17, .int x18, .int x19, .int x20, .int x21, .int x22, .int x23, .int x24, .int x25, .int x26, .int x27, .int x28, .int x29, .int x30, .int x31, .int x32, .int x33, .int x34, .int x35, .int x36, .int x37, .int x38, .int x39, .int x40, .int x41, .int x42, .ref x43, .ref x44, .ref x45, .ref x46, .ref x47, .ref x48, .ref x49, .ref x50, .ref x51, .ref x52, .ref x53]))] sz) := by
  refine Met.ofW (cc := b_Text_element) (maxL := 5) (ret := (some FieldType.boolean)) (by decide) rfl ?_
  intro p e s m args below meth c s₁ B hml hv
  obtain ⟨rfl, hsz, hB0, hP, hK, hD0, hN, hT0⟩ := hv
  have hx := B.exec
  have hb := B.bytes
  have hr := B.returns
  have hts := atoms_spec (ws := w_Text_element) B.pre
  have tbin : ∀ w ∈ tb, w ∈ w_Text_element := fun w h => List.mem_cons_of_mem _ h
  have htb : ∀ w ∈ tb, w.before _ s = true := fun w h => hts w (tbin w h)
  have hown : s.vm.findClass "TrustChainModel$Text" = some m.cls := findClass_of_methodNamed B.named
  have hlocks := B.notSynchronized
  subst hsz
  have hD := hD0.self (sz := s.heap.size)
  generalize hAe : va_A [(sp, .inr (13, [.ref x0, .int x1, .int 0, .int (-1), .int x4, .int x5, .int x6, .long x7, .long x8, .long x9, .int x10, .int x11, .int x12, .int x13, .int x14, .int x15, .int x16, .int x17, .int x18, .int x19, .int x20, .int x21, .int x22, .int x23, .int x24, .int x25, .int x26, .int x27, .int x28, .int x29, .int x30, .int x31, .int x32, .int x33, .int x34, .int x35, .int x36, .int x37, .int x38, .int x39, .int x40, .int x41, .int x42, .ref x43, .ref x44, .ref x45, .ref x46, .ref x47, .ref x48, .ref x49, .ref x50, .ref x51, .ref x52, .ref x53]))] s.heap.size = A at hD ⊢
  have hA : ∀ q : Nat, s.heap.size ≤ q → A q := fun q h => by rw [← hAe]; exact Or.inr h
  have hAs : ∀ q : Nat, A q → sb.1 ≤ q := fun q h => by
    rw [← hAe] at h
    rcases h with ⟨k, e, h⟩ | h
    · exact hD0.2 k _ h
    · exact Nat.le_trans hB0 h
  have hS : va_S A s.heap s.heap [] := va_S.rf
  have hcs : 0 ≤ (headSpec w_Text_element ({ frames := 1, cells := 0, slots := 0, locals := 21 })).room.cells ∧ 0 ≤ (headSpec w_Text_element ({ frames := 1, cells := 0, slots := 0, locals := 21 })).room.slots := ⟨Nat.le_refl _, Nat.le_refl _⟩
  have hP : va_P (dC, dI) classes [(sp, .inr (13, [.ref x0, .int x1, .int 0, .int (-1), .int x4, .int x5, .int x6, .long x7, .long x8, .long x9, .int x10, .int x11, .int x12, .int x13, .int x14, .int x15, .int x16, .int x17, .int x18, .int x19, .int x20, .int x21, .int x22, .int x23, .int x24, .int x25, .int x26, .int x27, .int x28, .int x29, .int x30, .int x31, .int x32, .int x33, .int x34, .int x35, .int x36, .int x37, .int x38, .int x39, .int x40, .int x41, .int x42, .ref x43, .ref x44, .ref x45, .ref x46, .ref x47, .ref x48, .ref x49, .ref x50, .ref x51, .ref x52, .ref x53]))] s.heap := hP
  have hl := lv_entry ([.ref sp, .int tg, .int 0]) (n := 5) (Nat.le_of_ble_eq_true rfl)
  rw [lg_entry_eq]
  generalize (lg_sl ([.ref sp, .int tg, .int 0]) ++ List.replicate (5 - (lg_sl ([.ref sp, .int tg, .int 0])).length) Slot.unset).toArray = ls at hl ⊢
  have hl : lv_has ls 5 [(0, .ref sp), (1, .int tg), (2, .int 0)] := hl
  refine lv_aload_n hx hb d_Text_element_0 rfl (lv_at hl 0 rfl) ?_
  refine va_get (v := .int 0) hx hb htb i_Text hown hK hP 0 rfl rfl 2 (by decide) (htb _ q6_182) (fun _ h9 => h9) rfl d_Text_element_1 ?_
  refine lv_iload_n hx hb d_Text_element_4 rfl (lv_at hl 2 rfl) ?_
  refine lv_icmp_lt (tgt := 14) hx hb d_Text_element_5 (by decide) (fun c5 => ?_) (fun c5 => ?_)
  · exact absurd c5 (by decide)
  refine lv_aload_n hx hb d_Text_element_8 rfl (lv_at hl 0 rfl) ?_
  refine lv_iload_n hx hb d_Text_element_9 rfl (lv_at hl 2 rfl) ?_
  have hFc := va_free (wc := [(sp, .inr (13, [.ref x0, .int x1, .int 0, .int (-1), .int x4, .int x5, .int x6, .long x7, .long x8, .long x9, .int x10, .int x11, .int x12, .int x13, .int x14, .int x15, .int x16, .int x17, .int x18, .int x19, .int x20, .int x21, .int x22, .int x23, .int x24, .int x25, .int x26, .int x27, .int x28, .int x29, .int x30, .int x31, .int x32, .int x33, .int x34, .int x35, .int x36, .int x37, .int x38, .int x39, .int x40, .int x41, .int x42, .ref x43, .ref x44, .ref x45, .ref x46, .ref x47, .ref x48, .ref x49, .ref x50, .ref x51, .ref x52, .ref x53]))]) hD hS hA [0] rfl
  refine va_calli (mu_runV (As := [.int 0]) (rest := []) ⟨hx, hb, hml, hown, hts⟩ tbin (e_bad l dC dI sb sp x0 x43 x44 x45 x46 x47 x48 x49 x50 x51 x52 x53 x1 0 x4 x5 x6 x10 x11 x12 x13 x14 x15 x16 x17 x18 x19 x20 x21 x22 x23 x24 x25 x26 x27 x28 x29 x30 x31 x32 x33 x34 x35 x36 x37 x38 x39 x40 x41 x42 x7 x8 x9 s.heap.size) q8_99 q8_100 q8_101 q1_10 q8_102 (n := 1) (by decide +kernel) rfl ⟨rfl, rfl⟩ ⟨Nat.le_of_ble_eq_true rfl, Nat.le_of_ble_eq_true rfl⟩ ⟨Nat.le_of_ble_eq_true rfl, Nat.le_of_ble_eq_true rfl⟩ hN (hT0.keep hS hAs) hAs (Nat.le_trans hB0 hS.1) hK hP hD [0] (by decide) rfl [] rfl 0 13 rfl rfl rfl hl.1 rfl (Nat.le_of_ble_eq_true rfl) d_Text_element_10) hS (fun q _ h => hFc q h) hFc (fun r10 u10 tS H10 locs ht hvm hw10 hB hz1 hk1 hS => ?_)
  skip
  obtain ⟨hP1, hK1, hD1⟩ := hB
  rw [ht] at hP1
  obtain ⟨hP, hD⟩ := va_join (wr := []) (w1 := [(sp, .inr (13, [.ref x0, .int x1, .int 0, .int 0, .int x4, .int x5, .int x6, .long x7, .long x8, .long x9, .int x10, .int x11, .int x12, .int x13, .int x14, .int x15, .int x16, .int x17, .int x18, .int x19, .int x20, .int x21, .int x22, .int x23, .int x24, .int x25, .int x26, .int x27, .int x28, .int x29, .int x30, .int x31, .int x32, .int x33, .int x34, .int x35, .int x36, .int x37, .int x38, .int x39, .int x40, .int x41, .int x42, .ref x43, .ref x44, .ref x45, .ref x46, .ref x47, .ref x48, .ref x49, .ref x50, .ref x51, .ref x52, .ref x53]))]) hP hD [0] [] rfl rfl (by decide) (by decide) hk1 hFc hP1 hD1
  have hP : va_P (dC, dI) classes [(sp, .inr (13, [.ref x0, .int x1, .int 0, .int 0, .int x4, .int x5, .int x6, .long x7, .long x8, .long x9, .int x10, .int x11, .int x12, .int x13, .int x14, .int x15, .int x16, .int x17, .int x18, .int x19, .int x20, .int x21, .int x22, .int x23, .int x24, .int x25, .int x26, .int x27, .int x28, .int x29, .int x30, .int x31, .int x32, .int x33, .int x34, .int x35, .int x36, .int x37, .int x38, .int x39, .int x40, .int x41, .int x42, .ref x43, .ref x44, .ref x45, .ref x46, .ref x47, .ref x48, .ref x49, .ref x50, .ref x51, .ref x52, .ref x53]))] H10 := hP
  have hD : va_D A [(sp, .inr (13, [.ref x0, .int x1, .int 0, .int 0, .int x4, .int x5, .int x6, .long x7, .long x8, .long x9, .int x10, .int x11, .int x12, .int x13, .int x14, .int x15, .int x16, .int x17, .int x18, .int x19, .int x20, .int x21, .int x22, .int x23, .int x24, .int x25, .int x26, .int x27, .int x28, .int x29, .int x30, .int x31, .int x32, .int x33, .int x34, .int x35, .int x36, .int x37, .int x38, .int x39, .int x40, .int x41, .int x42, .ref x43, .ref x44, .ref x45, .ref x46, .ref x47, .ref x48, .ref x49, .ref x50, .ref x51, .ref x52, .ref x53]))] := hD
  subst hw10
  exact W.zret (v := 0) hx hb hr (bz_n (bz_f not_false)) (fun t ht hW => ⟨⟨_, (), rfl, rfl, by rw [ht]; exact hP, va_K.moved hW.alike hK, hD⟩, hS.F ht⟩) hS.2.2 d_Text_element_13
def y_Text_read : MethodName := ⟨"TrustChainModel$Text", "read", "(Z)Z"⟩
abbrev b_Text_read : ByteArray := prog_15_method_28_code
def w_Text_read : List Cond := Cond.code y_Text_read b_Text_read 3 ((some FieldType.boolean)) :: tb
theorem d_Text_read_0 : decode b_Text_read 0 = .ok (.aload_n 0, 1) := by decide +kernel
theorem d_Text_read_1 : decode b_Text_read 1 = .ok (.iconst 0, 1) := by decide +kernel
theorem d_Text_read_2 : decode b_Text_read 2 = .ok (.putfield 52, 3) := by decide +kernel
theorem d_Text_read_5 : decode b_Text_read 5 = .ok (.aload_n 0, 1) := by decide +kernel
theorem d_Text_read_6 : decode b_Text_read 6 = .ok (.iconst (-1), 1) := by decide +kernel
theorem d_Text_read_7 : decode b_Text_read 7 = .ok (.putfield 48, 3) := by decide +kernel
theorem d_Text_read_10 : decode b_Text_read 10 = .ok (.aload_n 0, 1) := by decide +kernel
theorem d_Text_read_11 : decode b_Text_read 11 = .ok (.iconst 0, 1) := by decide +kernel
theorem d_Text_read_12 : decode b_Text_read 12 = .ok (.putfield 235, 3) := by decide +kernel
theorem d_Text_read_15 : decode b_Text_read 15 = .ok (.aload_n 0, 1) := by decide +kernel
theorem d_Text_read_16 : decode b_Text_read 16 = .ok (.iconst 0, 1) := by decide +kernel
theorem d_Text_read_17 : decode b_Text_read 17 = .ok (.putfield 229, 3) := by decide +kernel
theorem d_Text_read_20 : decode b_Text_read 20 = .ok (.aload_n 0, 1) := by decide +kernel
theorem d_Text_read_21 : decode b_Text_read 21 = .ok (.iconst 0, 1) := by decide +kernel
theorem d_Text_read_22 : decode b_Text_read 22 = .ok (.putfield 243, 3) := by decide +kernel
theorem d_Text_read_25 : decode b_Text_read 25 = .ok (.aload_n 0, 1) := by decide +kernel
theorem d_Text_read_26 : decode b_Text_read 26 = .ok (.iconst 0, 1) := by decide +kernel
theorem d_Text_read_27 : decode b_Text_read 27 = .ok (.putfield 179, 3) := by decide +kernel
theorem d_Text_read_30 : decode b_Text_read 30 = .ok (.aload_n 0, 1) := by decide +kernel
theorem d_Text_read_31 : decode b_Text_read 31 = .ok (.iconst 0, 1) := by decide +kernel
theorem d_Text_read_32 : decode b_Text_read 32 = .ok (.putfield 241, 3) := by decide +kernel
theorem d_Text_read_35 : decode b_Text_read 35 = .ok (.aload_n 0, 1) := by decide +kernel
theorem d_Text_read_36 : decode b_Text_read 36 = .ok (.iconst 0, 1) := by decide +kernel
theorem d_Text_read_37 : decode b_Text_read 37 = .ok (.putfield 246, 3) := by decide +kernel
theorem d_Text_read_40 : decode b_Text_read 40 = .ok (.aload_n 0, 1) := by decide +kernel
theorem d_Text_read_41 : decode b_Text_read 41 = .ok (.iconst (-1), 1) := by decide +kernel
theorem d_Text_read_42 : decode b_Text_read 42 = .ok (.putfield 222, 3) := by decide +kernel
theorem d_Text_read_45 : decode b_Text_read 45 = .ok (.aload_n 0, 1) := by decide +kernel
theorem d_Text_read_46 : decode b_Text_read 46 = .ok (.iconst (-1), 1) := by decide +kernel
theorem d_Text_read_47 : decode b_Text_read 47 = .ok (.putfield 224, 3) := by decide +kernel
theorem d_Text_read_50 : decode b_Text_read 50 = .ok (.aload_n 0, 1) := by decide +kernel
theorem d_Text_read_51 : decode b_Text_read 51 = .ok (.iconst (-1), 1) := by decide +kernel
theorem d_Text_read_52 : decode b_Text_read 52 = .ok (.putfield 201, 3) := by decide +kernel
theorem d_Text_read_55 : decode b_Text_read 55 = .ok (.aload_n 0, 1) := by decide +kernel
theorem d_Text_read_56 : decode b_Text_read 56 = .ok (.iconst (-1), 1) := by decide +kernel
theorem d_Text_read_57 : decode b_Text_read 57 = .ok (.putfield 207, 3) := by decide +kernel
theorem d_Text_read_60 : decode b_Text_read 60 = .ok (.aload_n 0, 1) := by decide +kernel
theorem d_Text_read_61 : decode b_Text_read 61 = .ok (.iconst 0, 1) := by decide +kernel
theorem d_Text_read_62 : decode b_Text_read 62 = .ok (.putfield 216, 3) := by decide +kernel
theorem d_Text_read_65 : decode b_Text_read 65 = .ok (.aload_n 0, 1) := by decide +kernel
theorem d_Text_read_66 : decode b_Text_read 66 = .ok (.iconst 0, 1) := by decide +kernel
theorem d_Text_read_67 : decode b_Text_read 67 = .ok (.putfield 213, 3) := by decide +kernel
theorem d_Text_read_70 : decode b_Text_read 70 = .ok (.aload_n 0, 1) := by decide +kernel
theorem d_Text_read_71 : decode b_Text_read 71 = .ok (.bipush 48, 2) := by decide +kernel
theorem d_Text_read_73 : decode b_Text_read 73 = .ok (.aload_n 0, 1) := by decide +kernel
theorem d_Text_read_74 : decode b_Text_read 74 = .ok (.getfield 249, 3) := by decide +kernel
theorem d_Text_read_77 : decode b_Text_read 77 = .ok (.invokevirtual 68, 3) := by decide +kernel
theorem d_Text_read_80 : decode b_Text_read 80 = .ok (.ifCond .ne 5, 3) := by decide +kernel
theorem d_Text_read_83 : decode b_Text_read 83 = .ok (.iconst 0, 1) := by decide +kernel
theorem d_Text_read_84 : decode b_Text_read 84 = .ok (.ireturn, 1) := by decide +kernel
theorem d_Text_read_85 : decode b_Text_read 85 = .ok (.aload_n 0, 1) := by decide +kernel
set_option maxHeartbeats 4000000 in
set_option maxRecDepth 100000 in
theorem e_read (l : Launch) (dC : Nat → ClassId) (dI : Nat → Nat → Nat) (sb : sB) (sp : Nat) (x0 x43 x44 x45 x46 x47 x48 x49 x50 x51 x52 x53 : Nat) (x2 x3 x4 x5 x6 x10 x11 x12 x13 x14 x15 x16 x17 x18 x19 x20 x21 x22 x23 x24 x25 x26 x27 x28 x29 x30 x31 x32 x33 x34 x35 x36 x37 x38 x39 x40 x41 x42 : Int32) (x7 x8 x9 : Int64) (li : Int32) (sz : Nat) : Met l y_Text_read w_Text_read ({ frames := 2, cells := 0, slots := 0, locals := 45 }) (mu_P [.ref sp, .int li] (dC, dI) sb [(sp, .inr (13, [.ref x0, .int 0, .int x2, .int x3, .int x4, .int x5, .int x6, .long x7, .long x8, .long x9, .int x10, .int x11, .int x12, .int x13, .int x14, .int x15, .int x16, .int x17, .int x18, .int x19, .int x20, .int x21, .int x22, .int x23, .int x24, .int x25, .int x26, .int x27, .int x28, .int x29, .int x30, .int x31, .int x32, .int x33, .int x34, .int x35, .int x36, .int x37, .int x38, .int x39, .int x40, .int x41, .int x42, .ref x43, .ref x44, .ref x45, .ref x46, .ref x47, .ref x48, .ref x49, .ref x50, .ref x51, .ref x52, .ref x53]))] [] sz) (va_Qi (fun r (_u : Unit) => r = 0) (mu_B (dC, dI) [] (va_A [(sp, .inr (13, [.ref x0, .int 0, .int x2, .int x3, .int x4, .int x5, .int x6, .long x7, .long x8, .long x9, .int x10, .int x11, .int x12, .int x13, .int x14, .int x15, .int x16, .int x17, .int x18, .int x19, .int x20, .int x21, .int x22, .int x23, .int x24, .int x25, .int x26, .int x27, .int x28, .int x29, .int x30, .int x31, .int x32, .int x33, .int x34, .int x35, .int x36, .int x37, .int x38, .int x39, .int x40, .int x41, .int x42, .ref x43, .ref x44, .ref x45, .ref x46, .ref x47, .ref x48, .ref x49, .ref x50, .ref x51, .ref x52, .ref x53]))] sz) (fun _ : Unit => [(sp, .inr (13, [.ref x0, .int 0, .int 0, .int 0, .int x4, .int x5, .int x6, .long x7, .long x8, .long x9, .int x10, .int x11, .int x12, .int x13, .int x14, .int x15, .int x16, .int x17, .int x18, .int x19, .int x20, .int x21, .int x22, .int x23, .int x24, .int (-1), .int (-1), .int 0, .int 0, .int 0, .int 0, .int (-1), .int x32, .int (-1), .int x34, .int 0, .int 0, .int x37, .int x38, .int x39, .int 0, .int 0, .int x42, .ref x43, .ref x44, .ref x45, .ref x46, .ref x47, .ref x48, .ref x49, .ref x50, .ref x51, .ref x52, .ref x53]))])) (va_A [(sp, .inr (13, [.ref x0, .int 0, .int x2, .int x3, .int x4, .int x5, .int x6, .long x7, .long x8, .long x9, .int x10, .int x11, .int x12, .int x13, .int x14, .int x15, .int x16, .int x17, .int x18, .int x19, .int x20, .int x21, .int x22, .int x23, .int x24, .int x25, .int x26, .int x27, .int x28, .int x29, .int x30, .int x31, .int x32, .int x33, .int x34, .int x35, .int x36, .int x37, .int x38, .int x39, .int x40, .int x41, .int x42, .ref x43, .ref x44, .ref x45, .ref x46, .ref x47, .ref x48, .ref x49, .ref x50, .ref x51, .ref x52, .ref x53]))] sz)) 0 0 (va_A [(sp, .inr (13, [.ref x0, .int 0, .int x2, .int x3, .int x4, .int x5, .int x6, .long x7, .long x8, .long x9, .int x10, .int x11, .int x12, .int x13, .int x14, .int x15, .int x16, .int x17, .int x18, .int x19, .int x20, .int x21, .int x22, .int x23, .int x24, .int x25, .int x26, .int x27, .int x28, .int x29, .int x30, .int x31, .int x32, .int x33, .int x34, .int x35, .int x36, .int x37, .int x38, .int x39, .int x40, .int x41, .int x42, .ref x43, .ref x44, .ref x45, .ref x46, .ref x47, .ref x48, .ref x49, .ref x50, .ref x51, .ref x52, .ref x53]))] sz) := by
  refine Met.ofW (cc := b_Text_read) (maxL := 3) (ret := (some FieldType.boolean)) (by decide) rfl ?_
  intro p e s m args below meth c s₁ B hml hv
  obtain ⟨rfl, hsz, hB0, hP, hK, hD0, hN, hT0⟩ := hv
  have hx := B.exec
  have hb := B.bytes
  have hr := B.returns
  have hts := atoms_spec (ws := w_Text_read) B.pre
  have tbin : ∀ w ∈ tb, w ∈ w_Text_read := fun w h => List.mem_cons_of_mem _ h
  have htb : ∀ w ∈ tb, w.before _ s = true := fun w h => hts w (tbin w h)
  have hown : s.vm.findClass "TrustChainModel$Text" = some m.cls := findClass_of_methodNamed B.named
  have hlocks := B.notSynchronized
  subst hsz
  have hD := hD0.self (sz := s.heap.size)
  generalize hAe : va_A [(sp, .inr (13, [.ref x0, .int 0, .int x2, .int x3, .int x4, .int x5, .int x6, .long x7, .long x8, .long x9, .int x10, .int x11, .int x12, .int x13, .int x14, .int x15, .int x16, .int x17, .int x18, .int x19, .int x20, .int x21, .int x22, .int x23, .int x24, .int x25, .int x26, .int x27, .int x28, .int x29, .int x30, .int x31, .int x32, .int x33, .int x34, .int x35, .int x36, .int x37, .int x38, .int x39, .int x40, .int x41, .int x42, .ref x43, .ref x44, .ref x45, .ref x46, .ref x47, .ref x48, .ref x49, .ref x50, .ref x51, .ref x52, .ref x53]))] s.heap.size = A at hD ⊢
  have hA : ∀ q : Nat, s.heap.size ≤ q → A q := fun q h => by rw [← hAe]; exact Or.inr h
  have hAs : ∀ q : Nat, A q → sb.1 ≤ q := fun q h => by
    rw [← hAe] at h
    rcases h with ⟨k, e, h⟩ | h
    · exact hD0.2 k _ h
    · exact Nat.le_trans hB0 h
  have hS : va_S A s.heap s.heap [] := va_S.rf
  have hcs : 0 ≤ (headSpec w_Text_read ({ frames := 2, cells := 0, slots := 0, locals := 45 })).room.cells ∧ 0 ≤ (headSpec w_Text_read ({ frames := 2, cells := 0, slots := 0, locals := 45 })).room.slots := ⟨Nat.le_refl _, Nat.le_refl _⟩
  have hP : va_P (dC, dI) classes [(sp, .inr (13, [.ref x0, .int 0, .int x2, .int x3, .int x4, .int x5, .int x6, .long x7, .long x8, .long x9, .int x10, .int x11, .int x12, .int x13, .int x14, .int x15, .int x16, .int x17, .int x18, .int x19, .int x20, .int x21, .int x22, .int x23, .int x24, .int x25, .int x26, .int x27, .int x28, .int x29, .int x30, .int x31, .int x32, .int x33, .int x34, .int x35, .int x36, .int x37, .int x38, .int x39, .int x40, .int x41, .int x42, .ref x43, .ref x44, .ref x45, .ref x46, .ref x47, .ref x48, .ref x49, .ref x50, .ref x51, .ref x52, .ref x53]))] s.heap := hP
  have hl := lv_entry ([.ref sp, .int li]) (n := 3) (Nat.le_of_ble_eq_true rfl)
  rw [lg_entry_eq]
  generalize (lg_sl ([.ref sp, .int li]) ++ List.replicate (3 - (lg_sl ([.ref sp, .int li])).length) Slot.unset).toArray = ls at hl ⊢
  have hl : lv_has ls 3 [(0, .ref sp), (1, .int li)] := hl
  refine lv_aload_n hx hb d_Text_read_0 rfl (lv_at hl 0 rfl) ?_
  refine lv_iconst (v := 0) hx hb d_Text_read_1 (by decide) ?_
  refine va_put (v := .int 0) (ty := .int) hx hb htb i_Text t_Text t_Text_ok n_Text hown hK hP hD hS 0 rfl rfl 2 (by decide) (htb _ q6_182) (fun _ h9 => h9) rfl (by decide +kernel) rfl rfl (Nat.le_of_ble_eq_true rfl) d_Text_read_2 (fun H2 locs hP hD hS => ?_)
  have hP : va_P (dC, dI) classes [(sp, .inr (13, [.ref x0, .int 0, .int 0, .int x3, .int x4, .int x5, .int x6, .long x7, .long x8, .long x9, .int x10, .int x11, .int x12, .int x13, .int x14, .int x15, .int x16, .int x17, .int x18, .int x19, .int x20, .int x21, .int x22, .int x23, .int x24, .int x25, .int x26, .int x27, .int x28, .int x29, .int x30, .int x31, .int x32, .int x33, .int x34, .int x35, .int x36, .int x37, .int x38, .int x39, .int x40, .int x41, .int x42, .ref x43, .ref x44, .ref x45, .ref x46, .ref x47, .ref x48, .ref x49, .ref x50, .ref x51, .ref x52, .ref x53]))] H2 := hP
  have hD : va_D A [(sp, .inr (13, [.ref x0, .int 0, .int 0, .int x3, .int x4, .int x5, .int x6, .long x7, .long x8, .long x9, .int x10, .int x11, .int x12, .int x13, .int x14, .int x15, .int x16, .int x17, .int x18, .int x19, .int x20, .int x21, .int x22, .int x23, .int x24, .int x25, .int x26, .int x27, .int x28, .int x29, .int x30, .int x31, .int x32, .int x33, .int x34, .int x35, .int x36, .int x37, .int x38, .int x39, .int x40, .int x41, .int x42, .ref x43, .ref x44, .ref x45, .ref x46, .ref x47, .ref x48, .ref x49, .ref x50, .ref x51, .ref x52, .ref x53]))] := hD
  refine lv_aload_n hx hb d_Text_read_5 rfl (lv_at hl 0 rfl) ?_
  refine lv_iconst (v := -1) hx hb d_Text_read_6 (by decide) ?_
  refine va_put (v := .int (-1)) (ty := .int) hx hb htb i_Text t_Text t_Text_ok n_Text hown hK hP hD hS 0 rfl rfl 3 (by decide) (htb _ q6_183) (fun _ h9 => h9) rfl (by decide +kernel) rfl rfl (Nat.le_of_ble_eq_true rfl) d_Text_read_7 (fun H7 locs hP hD hS => ?_)
  have hP : va_P (dC, dI) classes [(sp, .inr (13, [.ref x0, .int 0, .int 0, .int (-1), .int x4, .int x5, .int x6, .long x7, .long x8, .long x9, .int x10, .int x11, .int x12, .int x13, .int x14, .int x15, .int x16, .int x17, .int x18, .int x19, .int x20, .int x21, .int x22, .int x23, .int x24, .int x25, .int x26, .int x27, .int x28, .int x29, .int x30, .int x31, .int x32, .int x33, .int x34, .int x35, .int x36, .int x37, .int x38, .int x39, .int x40, .int x41, .int x42, .ref x43, .ref x44, .ref x45, .ref x46, .ref x47, .ref x48, .ref x49, .ref x50, .ref x51, .ref x52, .ref x53]))] H7 := hP
  have hD : va_D A [(sp, .inr (13, [.ref x0, .int 0, .int 0, .int (-1), .int x4, .int x5, .int x6, .long x7, .long x8, .long x9, .int x10, .int x11, .int x12, .int x13, .int x14, .int x15, .int x16, .int x17, .int x18, .int x19, .int x20, .int x21, .int x22, .int x23, .int x24, .int x25, .int x26, .int x27, .int x28, .int x29, .int x30, .int x31, .int x32, .int x33, .int x34, .int x35, .int x36, .int x37, .int x38, .int x39, .int x40, .int x41, .int x42, .ref x43, .ref x44, .ref x45, .ref x46, .ref x47, .ref x48, .ref x49, .ref x50, .ref x51, .ref x52, .ref x53]))] := hD
  refine lv_aload_n hx hb d_Text_read_10 rfl (lv_at hl 0 rfl) ?_
  refine lv_iconst (v := 0) hx hb d_Text_read_11 (by decide) ?_
  refine va_put (v := .int 0) (ty := .int) hx hb htb i_Text t_Text t_Text_ok n_Text hown hK hP hD hS 0 rfl rfl 27 (by decide) (htb _ q6_227) (fun _ h9 => h9) rfl (by decide +kernel) rfl rfl (Nat.le_of_ble_eq_true rfl) d_Text_read_12 (fun H12 locs hP hD hS => ?_)
  have hP : va_P (dC, dI) classes [(sp, .inr (13, [.ref x0, .int 0, .int 0, .int (-1), .int x4, .int x5, .int x6, .long x7, .long x8, .long x9, .int x10, .int x11, .int x12, .int x13, .int x14, .int x15, .int x16, .int x17, .int x18, .int x19, .int x20, .int x21, .int x22, .int x23, .int x24, .int x25, .int x26, .int 0, .int x28, .int x29, .int x30, .int x31, .int x32, .int x33, .int x34, .int x35, .int x36, .int x37, .int x38, .int x39, .int x40, .int x41, .int x42, .ref x43, .ref x44, .ref x45, .ref x46, .ref x47, .ref x48, .ref x49, .ref x50, .ref x51, .ref x52, .ref x53]))] H12 := hP
  have hD : va_D A [(sp, .inr (13, [.ref x0, .int 0, .int 0, .int (-1), .int x4, .int x5, .int x6, .long x7, .long x8, .long x9, .int x10, .int x11, .int x12, .int x13, .int x14, .int x15, .int x16, .int x17, .int x18, .int x19, .int x20, .int x21, .int x22, .int x23, .int x24, .int x25, .int x26, .int 0, .int x28, .int x29, .int x30, .int x31, .int x32, .int x33, .int x34, .int x35, .int x36, .int x37, .int x38, .int x39, .int x40, .int x41, .int x42, .ref x43, .ref x44, .ref x45, .ref x46, .ref x47, .ref x48, .ref x49, .ref x50, .ref x51, .ref x52, .ref x53]))] := hD
  refine lv_aload_n hx hb d_Text_read_15 rfl (lv_at hl 0 rfl) ?_
  refine lv_iconst (v := 0) hx hb d_Text_read_16 (by decide) ?_
  refine va_put (v := .int 0) (ty := .int) hx hb htb i_Text t_Text t_Text_ok n_Text hown hK hP hD hS 0 rfl rfl 28 (by decide) (htb _ q6_228) (fun _ h9 => h9) rfl (by decide +kernel) rfl rfl (Nat.le_of_ble_eq_true rfl) d_Text_read_17 (fun H17 locs hP hD hS => ?_)
  have hP : va_P (dC, dI) classes [(sp, .inr (13, [.ref x0, .int 0, .int 0, .int (-1), .int x4, .int x5, .int x6, .long x7, .long x8, .long x9, .int x10, .int x11, .int x12, .int x13, .int x14, .int x15, .int x16, .int x17, .int x18, .int x19, .int x20, .int x21, .int x22, .int x23, .int x24, .int x25, .int x26, .int 0, .int 0, .int x29, .int x30, .int x31, .int x32, .int x33, .int x34, .int x35, .int x36, .int x37, .int x38, .int x39, .int x40, .int x41, .int x42, .ref x43, .ref x44, .ref x45, .ref x46, .ref x47, .ref x48, .ref x49, .ref x50, .ref x51, .ref x52, .ref x53]))] H17 := hP
  have hD : va_D A [(sp, .inr (13, [.ref x0, .int 0, .int 0, .int (-1), .int x4, .int x5, .int x6, .long x7, .long x8, .long x9, .int x10, .int x11, .int x12, .int x13, .int x14, .int x15, .int x16, .int x17, .int x18, .int x19, .int x20, .int x21, .int x22, .int x23, .int x24, .int x25, .int x26, .int 0, .int 0, .int x29, .int x30, .int x31, .int x32, .int x33, .int x34, .int x35, .int x36, .int x37, .int x38, .int x39, .int x40, .int x41, .int x42, .ref x43, .ref x44, .ref x45, .ref x46, .ref x47, .ref x48, .ref x49, .ref x50, .ref x51, .ref x52, .ref x53]))] := hD
  refine lv_aload_n hx hb d_Text_read_20 rfl (lv_at hl 0 rfl) ?_
  refine lv_iconst (v := 0) hx hb d_Text_read_21 (by decide) ?_
  refine va_put (v := .int 0) (ty := .int) hx hb htb i_Text t_Text t_Text_ok n_Text hown hK hP hD hS 0 rfl rfl 29 (by decide) (htb _ q6_231) (fun _ h9 => h9) rfl (by decide +kernel) rfl rfl (Nat.le_of_ble_eq_true rfl) d_Text_read_22 (fun H22 locs hP hD hS => ?_)
  have hP : va_P (dC, dI) classes [(sp, .inr (13, [.ref x0, .int 0, .int 0, .int (-1), .int x4, .int x5, .int x6, .long x7, .long x8, .long x9, .int x10, .int x11, .int x12, .int x13, .int x14, .int x15, .int x16, .int x17, .int x18, .int x19, .int x20, .int x21, .int x22, .int x23, .int x24, .int x25, .int x26, .int 0, .int 0, .int 0, .int x30, .int x31, .int x32, .int x33, .int x34, .int x35, .int x36, .int x37, .int x38, .int x39, .int x40, .int x41, .int x42, .ref x43, .ref x44, .ref x45, .ref x46, .ref x47, .ref x48, .ref x49, .ref x50, .ref x51, .ref x52, .ref x53]))] H22 := hP
  have hD : va_D A [(sp, .inr (13, [.ref x0, .int 0, .int 0, .int (-1), .int x4, .int x5, .int x6, .long x7, .long x8, .long x9, .int x10, .int x11, .int x12, .int x13, .int x14, .int x15, .int x16, .int x17, .int x18, .int x19, .int x20, .int x21, .int x22, .int x23, .int x24, .int x25, .int x26, .int 0, .int 0, .int 0, .int x30, .int x31, .int x32, .int x33, .int x34, .int x35, .int x36, .int x37, .int x38, .int x39, .int x40, .int x41, .int x42, .ref x43, .ref x44, .ref x45, .ref x46, .ref x47, .ref x48, .ref x49, .ref x50, .ref x51, .ref x52, .ref x53]))] := hD
  refine lv_aload_n hx hb d_Text_read_25 rfl (lv_at hl 0 rfl) ?_
  refine lv_iconst (v := 0) hx hb d_Text_read_26 (by decide) ?_
  refine va_put (v := .int 0) (ty := .int) hx hb htb i_Text t_Text t_Text_ok n_Text hown hK hP hD hS 0 rfl rfl 30 (by decide) (htb _ q6_232) (fun _ h9 => h9) rfl (by decide +kernel) rfl rfl (Nat.le_of_ble_eq_true rfl) d_Text_read_27 (fun H27 locs hP hD hS => ?_)
  have hP : va_P (dC, dI) classes [(sp, .inr (13, [.ref x0, .int 0, .int 0, .int (-1), .int x4, .int x5, .int x6, .long x7, .long x8, .long x9, .int x10, .int x11, .int x12, .int x13, .int x14, .int x15, .int x16, .int x17, .int x18, .int x19, .int x20, .int x21, .int x22, .int x23, .int x24, .int x25, .int x26, .int 0, .int 0, .int 0, .int 0, .int x31, .int x32, .int x33, .int x34, .int x35, .int x36, .int x37, .int x38, .int x39, .int x40, .int x41, .int x42, .ref x43, .ref x44, .ref x45, .ref x46, .ref x47, .ref x48, .ref x49, .ref x50, .ref x51, .ref x52, .ref x53]))] H27 := hP
  have hD : va_D A [(sp, .inr (13, [.ref x0, .int 0, .int 0, .int (-1), .int x4, .int x5, .int x6, .long x7, .long x8, .long x9, .int x10, .int x11, .int x12, .int x13, .int x14, .int x15, .int x16, .int x17, .int x18, .int x19, .int x20, .int x21, .int x22, .int x23, .int x24, .int x25, .int x26, .int 0, .int 0, .int 0, .int 0, .int x31, .int x32, .int x33, .int x34, .int x35, .int x36, .int x37, .int x38, .int x39, .int x40, .int x41, .int x42, .ref x43, .ref x44, .ref x45, .ref x46, .ref x47, .ref x48, .ref x49, .ref x50, .ref x51, .ref x52, .ref x53]))] := hD
  refine lv_aload_n hx hb d_Text_read_30 rfl (lv_at hl 0 rfl) ?_
  refine lv_iconst (v := 0) hx hb d_Text_read_31 (by decide) ?_
  refine va_put (v := .int 0) (ty := .int) hx hb htb i_Text t_Text t_Text_ok n_Text hown hK hP hD hS 0 rfl rfl 35 (by decide) (htb _ q7_2) (fun _ h9 => h9) rfl (by decide +kernel) rfl rfl (Nat.le_of_ble_eq_true rfl) d_Text_read_32 (fun H32 locs hP hD hS => ?_)
  have hP : va_P (dC, dI) classes [(sp, .inr (13, [.ref x0, .int 0, .int 0, .int (-1), .int x4, .int x5, .int x6, .long x7, .long x8, .long x9, .int x10, .int x11, .int x12, .int x13, .int x14, .int x15, .int x16, .int x17, .int x18, .int x19, .int x20, .int x21, .int x22, .int x23, .int x24, .int x25, .int x26, .int 0, .int 0, .int 0, .int 0, .int x31, .int x32, .int x33, .int x34, .int 0, .int x36, .int x37, .int x38, .int x39, .int x40, .int x41, .int x42, .ref x43, .ref x44, .ref x45, .ref x46, .ref x47, .ref x48, .ref x49, .ref x50, .ref x51, .ref x52, .ref x53]))] H32 := hP
  have hD : va_D A [(sp, .inr (13, [.ref x0, .int 0, .int 0, .int (-1), .int x4, .int x5, .int x6, .long x7, .long x8, .long x9, .int x10, .int x11, .int x12, .int x13, .int x14, .int x15, .int x16, .int x17, .int x18, .int x19, .int x20, .int x21, .int x22, .int x23, .int x24, .int x25, .int x26, .int 0, .int 0, .int 0, .int 0, .int x31, .int x32, .int x33, .int x34, .int 0, .int x36, .int x37, .int x38, .int x39, .int x40, .int x41, .int x42, .ref x43, .ref x44, .ref x45, .ref x46, .ref x47, .ref x48, .ref x49, .ref x50, .ref x51, .ref x52, .ref x53]))] := hD
  refine lv_aload_n hx hb d_Text_read_35 rfl (lv_at hl 0 rfl) ?_
  refine lv_iconst (v := 0) hx hb d_Text_read_36 (by decide) ?_
  refine va_put (v := .int 0) (ty := .int) hx hb htb i_Text t_Text t_Text_ok n_Text hown hK hP hD hS 0 rfl rfl 36 (by decide) (htb _ q7_5) (fun _ h9 => h9) rfl (by decide +kernel) rfl rfl (Nat.le_of_ble_eq_true rfl) d_Text_read_37 (fun H37 locs hP hD hS => ?_)
  have hP : va_P (dC, dI) classes [(sp, .inr (13, [.ref x0, .int 0, .int 0, .int (-1), .int x4, .int x5, .int x6, .long x7, .long x8, .long x9, .int x10, .int x11, .int x12, .int x13, .int x14, .int x15, .int x16, .int x17, .int x18, .int x19, .int x20, .int x21, .int x22, .int x23, .int x24, .int x25, .int x26, .int 0, .int 0, .int 0, .int 0, .int x31, .int x32, .int x33, .int x34, .int 0, .int 0, .int x37, .int x38, .int x39, .int x40, .int x41, .int x42, .ref x43, .ref x44, .ref x45, .ref x46, .ref x47, .ref x48, .ref x49, .ref x50, .ref x51, .ref x52, .ref x53]))] H37 := hP
  have hD : va_D A [(sp, .inr (13, [.ref x0, .int 0, .int 0, .int (-1), .int x4, .int x5, .int x6, .long x7, .long x8, .long x9, .int x10, .int x11, .int x12, .int x13, .int x14, .int x15, .int x16, .int x17, .int x18, .int x19, .int x20, .int x21, .int x22, .int x23, .int x24, .int x25, .int x26, .int 0, .int 0, .int 0, .int 0, .int x31, .int x32, .int x33, .int x34, .int 0, .int 0, .int x37, .int x38, .int x39, .int x40, .int x41, .int x42, .ref x43, .ref x44, .ref x45, .ref x46, .ref x47, .ref x48, .ref x49, .ref x50, .ref x51, .ref x52, .ref x53]))] := hD
  refine lv_aload_n hx hb d_Text_read_40 rfl (lv_at hl 0 rfl) ?_
  refine lv_iconst (v := -1) hx hb d_Text_read_41 (by decide) ?_
  refine va_put (v := .int (-1)) (ty := .int) hx hb htb i_Text t_Text t_Text_ok n_Text hown hK hP hD hS 0 rfl rfl 25 (by decide) (htb _ q6_223) (fun _ h9 => h9) rfl (by decide +kernel) rfl rfl (Nat.le_of_ble_eq_true rfl) d_Text_read_42 (fun H42 locs hP hD hS => ?_)
  have hP : va_P (dC, dI) classes [(sp, .inr (13, [.ref x0, .int 0, .int 0, .int (-1), .int x4, .int x5, .int x6, .long x7, .long x8, .long x9, .int x10, .int x11, .int x12, .int x13, .int x14, .int x15, .int x16, .int x17, .int x18, .int x19, .int x20, .int x21, .int x22, .int x23, .int x24, .int (-1), .int x26, .int 0, .int 0, .int 0, .int 0, .int x31, .int x32, .int x33, .int x34, .int 0, .int 0, .int x37, .int x38, .int x39, .int x40, .int x41, .int x42, .ref x43, .ref x44, .ref x45, .ref x46, .ref x47, .ref x48, .ref x49, .ref x50, .ref x51, .ref x52, .ref x53]))] H42 := hP
  have hD : va_D A [(sp, .inr (13, [.ref x0, .int 0, .int 0, .int (-1), .int x4, .int x5, .int x6, .long x7, .long x8, .long x9, .int x10, .int x11, .int x12, .int x13, .int x14, .int x15, .int x16, .int x17, .int x18, .int x19, .int x20, .int x21, .int x22, .int x23, .int x24, .int (-1), .int x26, .int 0, .int 0, .int 0, .int 0, .int x31, .int x32, .int x33, .int x34, .int 0, .int 0, .int x37, .int x38, .int x39, .int x40, .int x41, .int x42, .ref x43, .ref x44, .ref x45, .ref x46, .ref x47, .ref x48, .ref x49, .ref x50, .ref x51, .ref x52, .ref x53]))] := hD
  refine lv_aload_n hx hb d_Text_read_45 rfl (lv_at hl 0 rfl) ?_
  refine lv_iconst (v := -1) hx hb d_Text_read_46 (by decide) ?_
  refine va_put (v := .int (-1)) (ty := .int) hx hb htb i_Text t_Text t_Text_ok n_Text hown hK hP hD hS 0 rfl rfl 26 (by decide) (htb _ q6_225) (fun _ h9 => h9) rfl (by decide +kernel) rfl rfl (Nat.le_of_ble_eq_true rfl) d_Text_read_47 (fun H47 locs hP hD hS => ?_)
  have hP : va_P (dC, dI) classes [(sp, .inr (13, [.ref x0, .int 0, .int 0, .int (-1), .int x4, .int x5, .int x6, .long x7, .long x8, .long x9, .int x10, .int x11, .int x12, .int x13, .int x14, .int x15, .int x16, .int x17, .int x18, .int x19, .int x20, .int x21, .int x22, .int x23, .int x24, .int (-1), .int (-1), .int 0, .int 0, .int 0, .int 0, .int x31, .int x32, .int x33, .int x34, .int 0, .int 0, .int x37, .int x38, .int x39, .int x40, .int x41, .int x42, .ref x43, .ref x44, .ref x45, .ref x46, .ref x47, .ref x48, .ref x49, .ref x50, .ref x51, .ref x52, .ref x53]))] H47 := hP
  have hD : va_D A [(sp, .inr (13, [.ref x0, .int 0, .int 0, .int (-1), .int x4, .int x5, .int x6, .long x7, .long x8, .long x9, .int x10, .int x11, .int x12, .int x13, .int x14, .int x15, .int x16, .int x17, .int x18, .int x19, .int x20, .int x21, .int x22, .int x23, .int x24, .int (-1), .int (-1), .int 0, .int 0, .int 0, .int 0, .int x31, .int x32, .int x33, .int x34, .int 0, .int 0, .int x37, .int x38, .int x39, .int x40, .int x41, .int x42, .ref x43, .ref x44, .ref x45, .ref x46, .ref x47, .ref x48, .ref x49, .ref x50, .ref x51, .ref x52, .ref x53]))] := hD
  refine lv_aload_n hx hb d_Text_read_50 rfl (lv_at hl 0 rfl) ?_
  refine lv_iconst (v := -1) hx hb d_Text_read_51 (by decide) ?_
  refine va_put (v := .int (-1)) (ty := .int) hx hb htb i_Text t_Text t_Text_ok n_Text hown hK hP hD hS 0 rfl rfl 31 (by decide) (htb _ q6_234) (fun _ h9 => h9) rfl (by decide +kernel) rfl rfl (Nat.le_of_ble_eq_true rfl) d_Text_read_52 (fun H52 locs hP hD hS => ?_)
  have hP : va_P (dC, dI) classes [(sp, .inr (13, [.ref x0, .int 0, .int 0, .int (-1), .int x4, .int x5, .int x6, .long x7, .long x8, .long x9, .int x10, .int x11, .int x12, .int x13, .int x14, .int x15, .int x16, .int x17, .int x18, .int x19, .int x20, .int x21, .int x22, .int x23, .int x24, .int (-1), .int (-1), .int 0, .int 0, .int 0, .int 0, .int (-1), .int x32, .int x33, .int x34, .int 0, .int 0, .int x37, .int x38, .int x39, .int x40, .int x41, .int x42, .ref x43, .ref x44, .ref x45, .ref x46, .ref x47, .ref x48, .ref x49, .ref x50, .ref x51, .ref x52, .ref x53]))] H52 := hP
  have hD : va_D A [(sp, .inr (13, [.ref x0, .int 0, .int 0, .int (-1), .int x4, .int x5, .int x6, .long x7, .long x8, .long x9, .int x10, .int x11, .int x12, .int x13, .int x14, .int x15, .int x16, .int x17, .int x18, .int x19, .int x20, .int x21, .int x22, .int x23, .int x24, .int (-1), .int (-1), .int 0, .int 0, .int 0, .int 0, .int (-1), .int x32, .int x33, .int x34, .int 0, .int 0, .int x37, .int x38, .int x39, .int x40, .int x41, .int x42, .ref x43, .ref x44, .ref x45, .ref x46, .ref x47, .ref x48, .ref x49, .ref x50, .ref x51, .ref x52, .ref x53]))] := hD
  refine lv_aload_n hx hb d_Text_read_55 rfl (lv_at hl 0 rfl) ?_
  refine lv_iconst (v := -1) hx hb d_Text_read_56 (by decide) ?_
  refine va_put (v := .int (-1)) (ty := .int) hx hb htb i_Text t_Text t_Text_ok n_Text hown hK hP hD hS 0 rfl rfl 33 (by decide) (htb _ q6_238) (fun _ h9 => h9) rfl (by decide +kernel) rfl rfl (Nat.le_of_ble_eq_true rfl) d_Text_read_57 (fun H57 locs hP hD hS => ?_)
  have hP : va_P (dC, dI) classes [(sp, .inr (13, [.ref x0, .int 0, .int 0, .int (-1), .int x4, .int x5, .int x6, .long x7, .long x8, .long x9, .int x10, .int x11, .int x12, .int x13, .int x14, .int x15, .int x16, .int x17, .int x18, .int x19, .int x20, .int x21, .int x22, .int x23, .int x24, .int (-1), .int (-1), .int 0, .int 0, .int 0, .int 0, .int (-1), .int x32, .int (-1), .int x34, .int 0, .int 0, .int x37, .int x38, .int x39, .int x40, .int x41, .int x42, .ref x43, .ref x44, .ref x45, .ref x46, .ref x47, .ref x48, .ref x49, .ref x50, .ref x51, .ref x52, .ref x53]))] H57 := hP
  have hD : va_D A [(sp, .inr (13, [.ref x0, .int 0, .int 0, .int (-1), .int x4, .int x5, .int x6, .long x7, .long x8, .long x9, .int x10, .int x11, .int x12, .int x13, .int x14, .int x15, .int x16, .int x17, .int x18, .int x19, .int x20, .int x21, .int x22, .int x23, .int x24, .int (-1), .int (-1), .int 0, .int 0, .int 0, .int 0, .int (-1), .int x32, .int (-1), .int x34, .int 0, .int 0, .int x37, .int x38, .int x39, .int x40, .int x41, .int x42, .ref x43, .ref x44, .ref x45, .ref x46, .ref x47, .ref x48, .ref x49, .ref x50, .ref x51, .ref x52, .ref x53]))] := hD
  refine lv_aload_n hx hb d_Text_read_60 rfl (lv_at hl 0 rfl) ?_
  refine lv_iconst (v := 0) hx hb d_Text_read_61 (by decide) ?_
  refine va_put (v := .int 0) (ty := .boolean) hx hb htb i_Text t_Text t_Text_ok n_Text hown hK hP hD hS 0 rfl rfl 40 (by decide) (htb _ q7_10) (fun _ h9 => h9) rfl (by decide +kernel) rfl rfl (Nat.le_of_ble_eq_true rfl) d_Text_read_62 (fun H62 locs hP hD hS => ?_)
  have hP : va_P (dC, dI) classes [(sp, .inr (13, [.ref x0, .int 0, .int 0, .int (-1), .int x4, .int x5, .int x6, .long x7, .long x8, .long x9, .int x10, .int x11, .int x12, .int x13, .int x14, .int x15, .int x16, .int x17, .int x18, .int x19, .int x20, .int x21, .int x22, .int x23, .int x24, .int (-1), .int (-1), .int 0, .int 0, .int 0, .int 0, .int (-1), .int x32, .int (-1), .int x34, .int 0, .int 0, .int x37, .int x38, .int x39, .int 0, .int x41, .int x42, .ref x43, .ref x44, .ref x45, .ref x46, .ref x47, .ref x48, .ref x49, .ref x50, .ref x51, .ref x52, .ref x53]))] H62 := hP
  have hD : va_D A [(sp, .inr (13, [.ref x0, .int 0, .int 0, .int (-1), .int x4, .int x5, .int x6, .long x7, .long x8, .long x9, .int x10, .int x11, .int x12, .int x13, .int x14, .int x15, .int x16, .int x17, .int x18, .int x19, .int x20, .int x21, .int x22, .int x23, .int x24, .int (-1), .int (-1), .int 0, .int 0, .int 0, .int 0, .int (-1), .int x32, .int (-1), .int x34, .int 0, .int 0, .int x37, .int x38, .int x39, .int 0, .int x41, .int x42, .ref x43, .ref x44, .ref x45, .ref x46, .ref x47, .ref x48, .ref x49, .ref x50, .ref x51, .ref x52, .ref x53]))] := hD
  refine lv_aload_n hx hb d_Text_read_65 rfl (lv_at hl 0 rfl) ?_
  refine lv_iconst (v := 0) hx hb d_Text_read_66 (by decide) ?_
  refine va_put (v := .int 0) (ty := .boolean) hx hb htb i_Text t_Text t_Text_ok n_Text hown hK hP hD hS 0 rfl rfl 41 (by decide) (htb _ q7_11) (fun _ h9 => h9) rfl (by decide +kernel) rfl rfl (Nat.le_of_ble_eq_true rfl) d_Text_read_67 (fun H67 locs hP hD hS => ?_)
  have hP : va_P (dC, dI) classes [(sp, .inr (13, [.ref x0, .int 0, .int 0, .int (-1), .int x4, .int x5, .int x6, .long x7, .long x8, .long x9, .int x10, .int x11, .int x12, .int x13, .int x14, .int x15, .int x16, .int x17, .int x18, .int x19, .int x20, .int x21, .int x22, .int x23, .int x24, .int (-1), .int (-1), .int 0, .int 0, .int 0, .int 0, .int (-1), .int x32, .int (-1), .int x34, .int 0, .int 0, .int x37, .int x38, .int x39, .int 0, .int 0, .int x42, .ref x43, .ref x44, .ref x45, .ref x46, .ref x47, .ref x48, .ref x49, .ref x50, .ref x51, .ref x52, .ref x53]))] H67 := hP
  have hD : va_D A [(sp, .inr (13, [.ref x0, .int 0, .int 0, .int (-1), .int x4, .int x5, .int x6, .long x7, .long x8, .long x9, .int x10, .int x11, .int x12, .int x13, .int x14, .int x15, .int x16, .int x17, .int x18, .int x19, .int x20, .int x21, .int x22, .int x23, .int x24, .int (-1), .int (-1), .int 0, .int 0, .int 0, .int 0, .int (-1), .int x32, .int (-1), .int x34, .int 0, .int 0, .int x37, .int x38, .int x39, .int 0, .int 0, .int x42, .ref x43, .ref x44, .ref x45, .ref x46, .ref x47, .ref x48, .ref x49, .ref x50, .ref x51, .ref x52, .ref x53]))] := hD
  refine lv_aload_n hx hb d_Text_read_70 rfl (lv_at hl 0 rfl) ?_
  refine lv_bipush (v := 48) hx hb d_Text_read_71 (by decide) ?_
  refine lv_aload_n hx hb d_Text_read_73 rfl (lv_at hl 0 rfl) ?_
  refine va_get (v := .int 0) hx hb htb i_Text hown hK hP 0 rfl rfl 1 (by decide) (htb _ q6_181) (fun _ h9 => h9) rfl d_Text_read_74 ?_
  have hFc := va_free (wc := [(sp, .inr (13, [.ref x0, .int 0, .int 0, .int (-1), .int x4, .int x5, .int x6, .long x7, .long x8, .long x9, .int x10, .int x11, .int x12, .int x13, .int x14, .int x15, .int x16, .int x17, .int x18, .int x19, .int x20, .int x21, .int x22, .int x23, .int x24, .int (-1), .int (-1), .int 0, .int 0, .int 0, .int 0, .int (-1), .int x32, .int (-1), .int x34, .int 0, .int 0, .int x37, .int x38, .int x39, .int 0, .int 0, .int x42, .ref x43, .ref x44, .ref x45, .ref x46, .ref x47, .ref x48, .ref x49, .ref x50, .ref x51, .ref x52, .ref x53]))]) hD hS hA [0] rfl
  refine va_calli (mu_runV (As := [.int 48, .int 0]) (rest := []) ⟨hx, hb, hml, hown, hts⟩ tbin (e_element l dC dI sb sp x0 x43 x44 x45 x46 x47 x48 x49 x50 x51 x52 x53 0 x4 x5 x6 x10 x11 x12 x13 x14 x15 x16 x17 x18 x19 x20 x21 x22 x23 x24 (-1) (-1) 0 0 0 0 (-1) x32 (-1) x34 0 0 x37 x38 x39 0 0 x42 x7 x8 x9 48 H67.size) q8_95 q8_96 q8_97 q1_10 q8_98 (n := 2) (by decide +kernel) rfl ⟨rfl, rfl⟩ ⟨Nat.le_of_ble_eq_true rfl, Nat.le_of_ble_eq_true rfl⟩ ⟨Nat.le_of_ble_eq_true rfl, Nat.le_of_ble_eq_true rfl⟩ hN (hT0.keep hS hAs) hAs (Nat.le_trans hB0 hS.1) hK hP hD [0] (by decide) rfl [] rfl 0 13 rfl rfl rfl hl.1 rfl (Nat.le_of_ble_eq_true rfl) d_Text_read_77) hS (fun q _ h => hFc q h) hFc (fun r77 u77 tS H77 locs ht hvm hw77 hB hz1 hk1 hS => ?_)
  skip
  obtain ⟨hP1, hK1, hD1⟩ := hB
  rw [ht] at hP1
  obtain ⟨hP, hD⟩ := va_join (wr := []) (w1 := [(sp, .inr (13, [.ref x0, .int 0, .int 0, .int 0, .int x4, .int x5, .int x6, .long x7, .long x8, .long x9, .int x10, .int x11, .int x12, .int x13, .int x14, .int x15, .int x16, .int x17, .int x18, .int x19, .int x20, .int x21, .int x22, .int x23, .int x24, .int (-1), .int (-1), .int 0, .int 0, .int 0, .int 0, .int (-1), .int x32, .int (-1), .int x34, .int 0, .int 0, .int x37, .int x38, .int x39, .int 0, .int 0, .int x42, .ref x43, .ref x44, .ref x45, .ref x46, .ref x47, .ref x48, .ref x49, .ref x50, .ref x51, .ref x52, .ref x53]))]) hP hD [0] [] rfl rfl (by decide) (by decide) hk1 hFc hP1 hD1
  have hP : va_P (dC, dI) classes [(sp, .inr (13, [.ref x0, .int 0, .int 0, .int 0, .int x4, .int x5, .int x6, .long x7, .long x8, .long x9, .int x10, .int x11, .int x12, .int x13, .int x14, .int x15, .int x16, .int x17, .int x18, .int x19, .int x20, .int x21, .int x22, .int x23, .int x24, .int (-1), .int (-1), .int 0, .int 0, .int 0, .int 0, .int (-1), .int x32, .int (-1), .int x34, .int 0, .int 0, .int x37, .int x38, .int x39, .int 0, .int 0, .int x42, .ref x43, .ref x44, .ref x45, .ref x46, .ref x47, .ref x48, .ref x49, .ref x50, .ref x51, .ref x52, .ref x53]))] H77 := hP
  have hD : va_D A [(sp, .inr (13, [.ref x0, .int 0, .int 0, .int 0, .int x4, .int x5, .int x6, .long x7, .long x8, .long x9, .int x10, .int x11, .int x12, .int x13, .int x14, .int x15, .int x16, .int x17, .int x18, .int x19, .int x20, .int x21, .int x22, .int x23, .int x24, .int (-1), .int (-1), .int 0, .int 0, .int 0, .int 0, .int (-1), .int x32, .int (-1), .int x34, .int 0, .int 0, .int x37, .int x38, .int x39, .int 0, .int 0, .int x42, .ref x43, .ref x44, .ref x45, .ref x46, .ref x47, .ref x48, .ref x49, .ref x50, .ref x51, .ref x52, .ref x53]))] := hD
  subst hw77
  refine lv_if_ne (tgt := 85) hx hb d_Text_read_80 (by decide) (fun c80 => ?_) (fun c80 => ?_)
  · exact absurd c80 (by decide)
  refine lv_iconst (v := 0) hx hb d_Text_read_83 (by decide) ?_
  exact W.zret (v := 0) hx hb hr (bz_n (bz_f not_false)) (fun t ht hW => ⟨⟨_, (), rfl, rfl, by rw [ht]; exact hP, va_K.moved hW.alike hK, hD⟩, hS.F ht⟩) hS.2.2 d_Text_read_84
set_option maxHeartbeats 4000000 in
set_option maxRecDepth 100000 in
theorem e_fails0 (l : Launch) (dC : Nat → ClassId) (dI : Nat → Nat → Nat) (sb : sB) (q0 oc so rv sp rz bl ww hs fi pm mx my mm mq mz wy fn : Nat) (fd wg nc nl qs si cs cn fa pu de ve mk : Int32) (nw : Int64) (cd : Int32) (sz : Nat) : Met l y_Model_fails w_Model_fails ({ frames := 0, cells := 0, slots := 0, locals := 0 }) (mu_P [.ref q0, .int 0, .int cd] (dC, dI) sb [(q0, .inr (12, [.int 0, .int fd, .int wg, .int nc, .int nl, .ref oc, .ref so, .ref rv, .ref sp, .int qs, .ref rz, .ref bl, .ref ww, .ref hs, .ref fi, .ref pm, .ref mx, .ref my, .ref mm, .ref mq, .ref mz, .ref wy, .ref fn, .int si, .int cs, .int cn, .int fa, .int pu, .int de, .int ve, .long nw, .int mk]))] [] sz) (va_Qi (fun r (_u : Unit) => r = 0) (mu_B (dC, dI) [] (va_A [(q0, .inr (12, [.int 0, .int fd, .int wg, .int nc, .int nl, .ref oc, .ref so, .ref rv, .ref sp, .int qs, .ref rz, .ref bl, .ref ww, .ref hs, .ref fi, .ref pm, .ref mx, .ref my, .ref mm, .ref mq, .ref mz, .ref wy, .ref fn, .int si, .int cs, .int cn, .int fa, .int pu, .int de, .int ve, .long nw, .int mk]))] sz) (fun _ : Unit => [(q0, .inr (12, [.int 0, .int fd, .int wg, .int nc, .int nl, .ref oc, .ref so, .ref rv, .ref sp, .int qs, .ref rz, .ref bl, .ref ww, .ref hs, .ref fi, .ref pm, .ref mx, .ref my, .ref mm, .ref mq, .ref mz, .ref wy, .ref fn, .int si, .int cs, .int cn, .int fa, .int pu, .int de, .int ve, .long nw, .int mk]))])) (va_A [(q0, .inr (12, [.int 0, .int fd, .int wg, .int nc, .int nl, .ref oc, .ref so, .ref rv, .ref sp, .int qs, .ref rz, .ref bl, .ref ww, .ref hs, .ref fi, .ref pm, .ref mx, .ref my, .ref mm, .ref mq, .ref mz, .ref wy, .ref fn, .int si, .int cs, .int cn, .int fa, .int pu, .int de, .int ve, .long nw, .int mk]))] sz)) 0 0 (va_A [(q0, .inr (12, [.int 0, .int fd, .int wg, .int nc, .int nl, .ref oc, .ref so, .ref rv, .ref sp, .int qs, .ref rz, .ref bl, .ref ww, .ref hs, .ref fi, .ref pm, .ref mx, .ref my, .ref mm, .ref mq, .ref mz, .ref wy, .ref fn, .int si, .int cs, .int cn, .int fa, .int pu, .int de, .int ve, .long nw, .int mk]))] sz) := by
  refine Met.ofW (cc := b_Model_fails) (maxL := 3) (ret := (some FieldType.boolean)) (by decide) rfl ?_
  intro p e s m args below meth c s₁ B hml hv
  obtain ⟨rfl, hsz, hB0, hP, hK, hD0, hN, hT0⟩ := hv
  have hx := B.exec
  have hb := B.bytes
  have hr := B.returns
  have hts := atoms_spec (ws := w_Model_fails) B.pre
  have tbin : ∀ w ∈ tb, w ∈ w_Model_fails := fun w h => List.mem_cons_of_mem _ h
  have htb : ∀ w ∈ tb, w.before _ s = true := fun w h => hts w (tbin w h)
  have hown : s.vm.findClass "TrustChainModel" = some m.cls := findClass_of_methodNamed B.named
  have hlocks := B.notSynchronized
  subst hsz
  have hD := hD0.self (sz := s.heap.size)
  generalize hAe : va_A [(q0, .inr (12, [.int 0, .int fd, .int wg, .int nc, .int nl, .ref oc, .ref so, .ref rv, .ref sp, .int qs, .ref rz, .ref bl, .ref ww, .ref hs, .ref fi, .ref pm, .ref mx, .ref my, .ref mm, .ref mq, .ref mz, .ref wy, .ref fn, .int si, .int cs, .int cn, .int fa, .int pu, .int de, .int ve, .long nw, .int mk]))] s.heap.size = A at hD ⊢
  have hA : ∀ q : Nat, s.heap.size ≤ q → A q := fun q h => by rw [← hAe]; exact Or.inr h
  have hAs : ∀ q : Nat, A q → sb.1 ≤ q := fun q h => by
    rw [← hAe] at h
    rcases h with ⟨k, e, h⟩ | h
    · exact hD0.2 k _ h
    · exact Nat.le_trans hB0 h
  have hS : va_S A s.heap s.heap [] := va_S.rf
  have hcs : 0 ≤ (headSpec w_Model_fails ({ frames := 0, cells := 0, slots := 0, locals := 0 })).room.cells ∧ 0 ≤ (headSpec w_Model_fails ({ frames := 0, cells := 0, slots := 0, locals := 0 })).room.slots := ⟨Nat.le_refl _, Nat.le_refl _⟩
  have hP : va_P (dC, dI) classes [(q0, .inr (12, [.int 0, .int fd, .int wg, .int nc, .int nl, .ref oc, .ref so, .ref rv, .ref sp, .int qs, .ref rz, .ref bl, .ref ww, .ref hs, .ref fi, .ref pm, .ref mx, .ref my, .ref mm, .ref mq, .ref mz, .ref wy, .ref fn, .int si, .int cs, .int cn, .int fa, .int pu, .int de, .int ve, .long nw, .int mk]))] s.heap := hP
  have hl := lv_entry ([.ref q0, .int 0, .int cd]) (n := 3) (Nat.le_of_ble_eq_true rfl)
  rw [lg_entry_eq]
  generalize (lg_sl ([.ref q0, .int 0, .int cd]) ++ List.replicate (3 - (lg_sl ([.ref q0, .int 0, .int cd])).length) Slot.unset).toArray = ls at hl ⊢
  have hl : lv_has ls 3 [(0, .ref q0), (1, .int 0), (2, .int cd)] := hl
  refine lv_iload_n hx hb d_Model_fails_0 rfl (lv_at hl 1 rfl) ?_
  refine lv_if_eq (tgt := 16) hx hb d_Model_fails_1 (by decide) (fun c1 => ?_) (fun c1 => ?_)
  rotate_left
  · exact absurd c1 (by decide)
  refine lv_aload_n hx hb d_Model_fails_16 rfl (lv_at hl 0 rfl) ?_
  refine va_get (v := .int 0) hx hb htb i_Model hown hK hP 0 rfl rfl 0 (by decide) (htb _ q7_214) (fun _ h9 => h9) rfl d_Model_fails_17 ?_
  refine lv_if_eq (tgt := 27) hx hb d_Model_fails_20 (by decide) (fun c20 => ?_) (fun c20 => ?_)
  rotate_left
  · exact absurd c20 (by decide)
  refine lv_iconst (v := 0) hx hb d_Model_fails_27 (by decide) ?_
  exact W.zret (v := 0) hx hb hr (bz_n (bz_f not_false)) (fun t ht hW => ⟨⟨_, (), rfl, rfl, by rw [ht]; exact hP, va_K.moved hW.alike hK, hD⟩, hS.F ht⟩) hS.2.2 d_Model_fails_28
set_option maxHeartbeats 4000000 in
set_option maxRecDepth 100000 in
theorem e_fails1 (l : Launch) (dC : Nat → ClassId) (dI : Nat → Nat → Nat) (sb : sB) (q0 oc so rv sp rz bl ww hs fi pm mx my mm mq mz wy fn : Nat) (fd wg nc nl qs si cs cn fa pu de ve mk : Int32) (nw : Int64) (sz : Nat) : Met l y_Model_fails w_Model_fails ({ frames := 0, cells := 0, slots := 0, locals := 0 }) (mu_P [.ref q0, .int 1, .int 1] (dC, dI) sb [(q0, .inr (12, [.int 0, .int fd, .int wg, .int nc, .int nl, .ref oc, .ref so, .ref rv, .ref sp, .int qs, .ref rz, .ref bl, .ref ww, .ref hs, .ref fi, .ref pm, .ref mx, .ref my, .ref mm, .ref mq, .ref mz, .ref wy, .ref fn, .int si, .int cs, .int cn, .int fa, .int pu, .int de, .int ve, .long nw, .int mk]))] [] sz) (va_Qi (fun r (_u : Unit) => r = 1) (mu_B (dC, dI) [] (va_A [(q0, .inr (12, [.int 0, .int fd, .int wg, .int nc, .int nl, .ref oc, .ref so, .ref rv, .ref sp, .int qs, .ref rz, .ref bl, .ref ww, .ref hs, .ref fi, .ref pm, .ref mx, .ref my, .ref mm, .ref mq, .ref mz, .ref wy, .ref fn, .int si, .int cs, .int cn, .int fa, .int pu, .int de, .int ve, .long nw, .int mk]))] sz) (fun _ : Unit => [(q0, .inr (12, [.int 1, .int fd, .int wg, .int nc, .int nl, .ref oc, .ref so, .ref rv, .ref sp, .int qs, .ref rz, .ref bl, .ref ww, .ref hs, .ref fi, .ref pm, .ref mx, .ref my, .ref mm, .ref mq, .ref mz, .ref wy, .ref fn, .int si, .int cs, .int cn, .int fa, .int pu, .int de, .int ve, .long nw, .int mk]))])) (va_A [(q0, .inr (12, [.int 0, .int fd, .int wg, .int nc, .int nl, .ref oc, .ref so, .ref rv, .ref sp, .int qs, .ref rz, .ref bl, .ref ww, .ref hs, .ref fi, .ref pm, .ref mx, .ref my, .ref mm, .ref mq, .ref mz, .ref wy, .ref fn, .int si, .int cs, .int cn, .int fa, .int pu, .int de, .int ve, .long nw, .int mk]))] sz)) 0 0 (va_A [(q0, .inr (12, [.int 0, .int fd, .int wg, .int nc, .int nl, .ref oc, .ref so, .ref rv, .ref sp, .int qs, .ref rz, .ref bl, .ref ww, .ref hs, .ref fi, .ref pm, .ref mx, .ref my, .ref mm, .ref mq, .ref mz, .ref wy, .ref fn, .int si, .int cs, .int cn, .int fa, .int pu, .int de, .int ve, .long nw, .int mk]))] sz) := by
  refine Met.ofW (cc := b_Model_fails) (maxL := 3) (ret := (some FieldType.boolean)) (by decide) rfl ?_
  intro p e s m args below meth c s₁ B hml hv
  obtain ⟨rfl, hsz, hB0, hP, hK, hD0, hN, hT0⟩ := hv
  have hx := B.exec
  have hb := B.bytes
  have hr := B.returns
  have hts := atoms_spec (ws := w_Model_fails) B.pre
  have tbin : ∀ w ∈ tb, w ∈ w_Model_fails := fun w h => List.mem_cons_of_mem _ h
  have htb : ∀ w ∈ tb, w.before _ s = true := fun w h => hts w (tbin w h)
  have hown : s.vm.findClass "TrustChainModel" = some m.cls := findClass_of_methodNamed B.named
  have hlocks := B.notSynchronized
  subst hsz
  have hD := hD0.self (sz := s.heap.size)
  generalize hAe : va_A [(q0, .inr (12, [.int 0, .int fd, .int wg, .int nc, .int nl, .ref oc, .ref so, .ref rv, .ref sp, .int qs, .ref rz, .ref bl, .ref ww, .ref hs, .ref fi, .ref pm, .ref mx, .ref my, .ref mm, .ref mq, .ref mz, .ref wy, .ref fn, .int si, .int cs, .int cn, .int fa, .int pu, .int de, .int ve, .long nw, .int mk]))] s.heap.size = A at hD ⊢
  have hA : ∀ q : Nat, s.heap.size ≤ q → A q := fun q h => by rw [← hAe]; exact Or.inr h
  have hAs : ∀ q : Nat, A q → sb.1 ≤ q := fun q h => by
    rw [← hAe] at h
    rcases h with ⟨k, e, h⟩ | h
    · exact hD0.2 k _ h
    · exact Nat.le_trans hB0 h
  have hS : va_S A s.heap s.heap [] := va_S.rf
  have hcs : 0 ≤ (headSpec w_Model_fails ({ frames := 0, cells := 0, slots := 0, locals := 0 })).room.cells ∧ 0 ≤ (headSpec w_Model_fails ({ frames := 0, cells := 0, slots := 0, locals := 0 })).room.slots := ⟨Nat.le_refl _, Nat.le_refl _⟩
  have hP : va_P (dC, dI) classes [(q0, .inr (12, [.int 0, .int fd, .int wg, .int nc, .int nl, .ref oc, .ref so, .ref rv, .ref sp, .int qs, .ref rz, .ref bl, .ref ww, .ref hs, .ref fi, .ref pm, .ref mx, .ref my, .ref mm, .ref mq, .ref mz, .ref wy, .ref fn, .int si, .int cs, .int cn, .int fa, .int pu, .int de, .int ve, .long nw, .int mk]))] s.heap := hP
  have hl := lv_entry ([.ref q0, .int 1, .int 1]) (n := 3) (Nat.le_of_ble_eq_true rfl)
  rw [lg_entry_eq]
  generalize (lg_sl ([.ref q0, .int 1, .int 1]) ++ List.replicate (3 - (lg_sl ([.ref q0, .int 1, .int 1])).length) Slot.unset).toArray = ls at hl ⊢
  have hl : lv_has ls 3 [(0, .ref q0), (1, .int 1), (2, .int 1)] := hl
  refine lv_iload_n hx hb d_Model_fails_0 rfl (lv_at hl 1 rfl) ?_
  refine lv_if_eq (tgt := 16) hx hb d_Model_fails_1 (by decide) (fun c1 => ?_) (fun c1 => ?_)
  · exact absurd c1 (by decide)
  refine lv_aload_n hx hb d_Model_fails_4 rfl (lv_at hl 0 rfl) ?_
  refine va_get (v := .int 0) hx hb htb i_Model hown hK hP 0 rfl rfl 0 (by decide) (htb _ q7_214) (fun _ h9 => h9) rfl d_Model_fails_5 ?_
  refine lv_if_ne (tgt := 16) hx hb d_Model_fails_8 (by decide) (fun c8 => ?_) (fun c8 => ?_)
  · exact absurd c8 (by decide)
  refine lv_aload_n hx hb d_Model_fails_11 rfl (lv_at hl 0 rfl) ?_
  refine lv_iload_n hx hb d_Model_fails_12 rfl (lv_at hl 2 rfl) ?_
  refine va_put (v := .int 1) (ty := .int) hx hb htb i_Model t_Model t_Model_ok n_Model hown hK hP hD hS 0 rfl rfl 0 (by decide) (htb _ q7_214) (fun _ h9 => h9) rfl (by decide +kernel) rfl rfl (Nat.le_of_ble_eq_true rfl) d_Model_fails_13 (fun H13 locs hP hD hS => ?_)
  have hP : va_P (dC, dI) classes [(q0, .inr (12, [.int 1, .int fd, .int wg, .int nc, .int nl, .ref oc, .ref so, .ref rv, .ref sp, .int qs, .ref rz, .ref bl, .ref ww, .ref hs, .ref fi, .ref pm, .ref mx, .ref my, .ref mm, .ref mq, .ref mz, .ref wy, .ref fn, .int si, .int cs, .int cn, .int fa, .int pu, .int de, .int ve, .long nw, .int mk]))] H13 := hP
  have hD : va_D A [(q0, .inr (12, [.int 1, .int fd, .int wg, .int nc, .int nl, .ref oc, .ref so, .ref rv, .ref sp, .int qs, .ref rz, .ref bl, .ref ww, .ref hs, .ref fi, .ref pm, .ref mx, .ref my, .ref mm, .ref mq, .ref mz, .ref wy, .ref fn, .int si, .int cs, .int cn, .int fa, .int pu, .int de, .int ve, .long nw, .int mk]))] := hD
  refine lv_aload_n hx hb d_Model_fails_16 rfl (lv_at hl 0 rfl) ?_
  refine va_get (v := .int 1) hx hb htb i_Model hown hK hP 0 rfl rfl 0 (by decide) (htb _ q7_214) (fun _ h9 => h9) rfl d_Model_fails_17 ?_
  refine lv_if_eq (tgt := 27) hx hb d_Model_fails_20 (by decide) (fun c20 => ?_) (fun c20 => ?_)
  · exact absurd c20 (by decide)
  refine lv_iconst (v := 1) hx hb d_Model_fails_23 (by decide) ?_
  refine lv_goto (tgt := 28) hx hb d_Model_fails_24 (by decide) ?_
  exact W.zret (v := 1) hx hb hr (bz_n (bz_t trivial)) (fun t ht hW => ⟨⟨_, (), rfl, rfl, by rw [ht]; exact hP, va_K.moved hW.alike hK, hD⟩, hS.F ht⟩) hS.2.2 d_Model_fails_28
set_option maxHeartbeats 4000000 in
set_option maxRecDepth 100000 in
theorem e_fails2 (l : Launch) (dC : Nat → ClassId) (dI : Nat → Nat → Nat) (sb : sB) (q0 oc so rv sp rz bl ww hs fi pm mx my mm mq mz wy fn : Nat) (fd wg nc nl qs si cs cn fa pu de ve mk : Int32) (nw : Int64) (sz : Nat) : Met l y_Model_fails w_Model_fails ({ frames := 0, cells := 0, slots := 0, locals := 0 }) (mu_P [.ref q0, .int 1, .int 2] (dC, dI) sb [(q0, .inr (12, [.int 0, .int fd, .int wg, .int nc, .int nl, .ref oc, .ref so, .ref rv, .ref sp, .int qs, .ref rz, .ref bl, .ref ww, .ref hs, .ref fi, .ref pm, .ref mx, .ref my, .ref mm, .ref mq, .ref mz, .ref wy, .ref fn, .int si, .int cs, .int cn, .int fa, .int pu, .int de, .int ve, .long nw, .int mk]))] [] sz) (va_Qi (fun r (_u : Unit) => r = 1) (mu_B (dC, dI) [] (va_A [(q0, .inr (12, [.int 0, .int fd, .int wg, .int nc, .int nl, .ref oc, .ref so, .ref rv, .ref sp, .int qs, .ref rz, .ref bl, .ref ww, .ref hs, .ref fi, .ref pm, .ref mx, .ref my, .ref mm, .ref mq, .ref mz, .ref wy, .ref fn, .int si, .int cs, .int cn, .int fa, .int pu, .int de, .int ve, .long nw, .int mk]))] sz) (fun _ : Unit => [(q0, .inr (12, [.int 2, .int fd, .int wg, .int nc, .int nl, .ref oc, .ref so, .ref rv, .ref sp, .int qs, .ref rz, .ref bl, .ref ww, .ref hs, .ref fi, .ref pm, .ref mx, .ref my, .ref mm, .ref mq, .ref mz, .ref wy, .ref fn, .int si, .int cs, .int cn, .int fa, .int pu, .int de, .int ve, .long nw, .int mk]))])) (va_A [(q0, .inr (12, [.int 0, .int fd, .int wg, .int nc, .int nl, .ref oc, .ref so, .ref rv, .ref sp, .int qs, .ref rz, .ref bl, .ref ww, .ref hs, .ref fi, .ref pm, .ref mx, .ref my, .ref mm, .ref mq, .ref mz, .ref wy, .ref fn, .int si, .int cs, .int cn, .int fa, .int pu, .int de, .int ve, .long nw, .int mk]))] sz)) 0 0 (va_A [(q0, .inr (12, [.int 0, .int fd, .int wg, .int nc, .int nl, .ref oc, .ref so, .ref rv, .ref sp, .int qs, .ref rz, .ref bl, .ref ww, .ref hs, .ref fi, .ref pm, .ref mx, .ref my, .ref mm, .ref mq, .ref mz, .ref wy, .ref fn, .int si, .int cs, .int cn, .int fa, .int pu, .int de, .int ve, .long nw, .int mk]))] sz) := by
  refine Met.ofW (cc := b_Model_fails) (maxL := 3) (ret := (some FieldType.boolean)) (by decide) rfl ?_
  intro p e s m args below meth c s₁ B hml hv
  obtain ⟨rfl, hsz, hB0, hP, hK, hD0, hN, hT0⟩ := hv
  have hx := B.exec
  have hb := B.bytes
  have hr := B.returns
  have hts := atoms_spec (ws := w_Model_fails) B.pre
  have tbin : ∀ w ∈ tb, w ∈ w_Model_fails := fun w h => List.mem_cons_of_mem _ h
  have htb : ∀ w ∈ tb, w.before _ s = true := fun w h => hts w (tbin w h)
  have hown : s.vm.findClass "TrustChainModel" = some m.cls := findClass_of_methodNamed B.named
  have hlocks := B.notSynchronized
  subst hsz
  have hD := hD0.self (sz := s.heap.size)
  generalize hAe : va_A [(q0, .inr (12, [.int 0, .int fd, .int wg, .int nc, .int nl, .ref oc, .ref so, .ref rv, .ref sp, .int qs, .ref rz, .ref bl, .ref ww, .ref hs, .ref fi, .ref pm, .ref mx, .ref my, .ref mm, .ref mq, .ref mz, .ref wy, .ref fn, .int si, .int cs, .int cn, .int fa, .int pu, .int de, .int ve, .long nw, .int mk]))] s.heap.size = A at hD ⊢
  have hA : ∀ q : Nat, s.heap.size ≤ q → A q := fun q h => by rw [← hAe]; exact Or.inr h
  have hAs : ∀ q : Nat, A q → sb.1 ≤ q := fun q h => by
    rw [← hAe] at h
    rcases h with ⟨k, e, h⟩ | h
    · exact hD0.2 k _ h
    · exact Nat.le_trans hB0 h
  have hS : va_S A s.heap s.heap [] := va_S.rf
  have hcs : 0 ≤ (headSpec w_Model_fails ({ frames := 0, cells := 0, slots := 0, locals := 0 })).room.cells ∧ 0 ≤ (headSpec w_Model_fails ({ frames := 0, cells := 0, slots := 0, locals := 0 })).room.slots := ⟨Nat.le_refl _, Nat.le_refl _⟩
  have hP : va_P (dC, dI) classes [(q0, .inr (12, [.int 0, .int fd, .int wg, .int nc, .int nl, .ref oc, .ref so, .ref rv, .ref sp, .int qs, .ref rz, .ref bl, .ref ww, .ref hs, .ref fi, .ref pm, .ref mx, .ref my, .ref mm, .ref mq, .ref mz, .ref wy, .ref fn, .int si, .int cs, .int cn, .int fa, .int pu, .int de, .int ve, .long nw, .int mk]))] s.heap := hP
  have hl := lv_entry ([.ref q0, .int 1, .int 2]) (n := 3) (Nat.le_of_ble_eq_true rfl)
  rw [lg_entry_eq]
  generalize (lg_sl ([.ref q0, .int 1, .int 2]) ++ List.replicate (3 - (lg_sl ([.ref q0, .int 1, .int 2])).length) Slot.unset).toArray = ls at hl ⊢
  have hl : lv_has ls 3 [(0, .ref q0), (1, .int 1), (2, .int 2)] := hl
  refine lv_iload_n hx hb d_Model_fails_0 rfl (lv_at hl 1 rfl) ?_
  refine lv_if_eq (tgt := 16) hx hb d_Model_fails_1 (by decide) (fun c1 => ?_) (fun c1 => ?_)
  · exact absurd c1 (by decide)
  refine lv_aload_n hx hb d_Model_fails_4 rfl (lv_at hl 0 rfl) ?_
  refine va_get (v := .int 0) hx hb htb i_Model hown hK hP 0 rfl rfl 0 (by decide) (htb _ q7_214) (fun _ h9 => h9) rfl d_Model_fails_5 ?_
  refine lv_if_ne (tgt := 16) hx hb d_Model_fails_8 (by decide) (fun c8 => ?_) (fun c8 => ?_)
  · exact absurd c8 (by decide)
  refine lv_aload_n hx hb d_Model_fails_11 rfl (lv_at hl 0 rfl) ?_
  refine lv_iload_n hx hb d_Model_fails_12 rfl (lv_at hl 2 rfl) ?_
  refine va_put (v := .int 2) (ty := .int) hx hb htb i_Model t_Model t_Model_ok n_Model hown hK hP hD hS 0 rfl rfl 0 (by decide) (htb _ q7_214) (fun _ h9 => h9) rfl (by decide +kernel) rfl rfl (Nat.le_of_ble_eq_true rfl) d_Model_fails_13 (fun H13 locs hP hD hS => ?_)
  have hP : va_P (dC, dI) classes [(q0, .inr (12, [.int 2, .int fd, .int wg, .int nc, .int nl, .ref oc, .ref so, .ref rv, .ref sp, .int qs, .ref rz, .ref bl, .ref ww, .ref hs, .ref fi, .ref pm, .ref mx, .ref my, .ref mm, .ref mq, .ref mz, .ref wy, .ref fn, .int si, .int cs, .int cn, .int fa, .int pu, .int de, .int ve, .long nw, .int mk]))] H13 := hP
  have hD : va_D A [(q0, .inr (12, [.int 2, .int fd, .int wg, .int nc, .int nl, .ref oc, .ref so, .ref rv, .ref sp, .int qs, .ref rz, .ref bl, .ref ww, .ref hs, .ref fi, .ref pm, .ref mx, .ref my, .ref mm, .ref mq, .ref mz, .ref wy, .ref fn, .int si, .int cs, .int cn, .int fa, .int pu, .int de, .int ve, .long nw, .int mk]))] := hD
  refine lv_aload_n hx hb d_Model_fails_16 rfl (lv_at hl 0 rfl) ?_
  refine va_get (v := .int 2) hx hb htb i_Model hown hK hP 0 rfl rfl 0 (by decide) (htb _ q7_214) (fun _ h9 => h9) rfl d_Model_fails_17 ?_
  refine lv_if_eq (tgt := 27) hx hb d_Model_fails_20 (by decide) (fun c20 => ?_) (fun c20 => ?_)
  · exact absurd c20 (by decide)
  refine lv_iconst (v := 1) hx hb d_Model_fails_23 (by decide) ?_
  refine lv_goto (tgt := 28) hx hb d_Model_fails_24 (by decide) ?_
  exact W.zret (v := 1) hx hb hr (bz_n (bz_t trivial)) (fun t ht hW => ⟨⟨_, (), rfl, rfl, by rw [ht]; exact hP, va_K.moved hW.alike hK, hD⟩, hS.F ht⟩) hS.2.2 d_Model_fails_28
def y_Model_store : MethodName := ⟨"TrustChainModel", "store", "(IZ)I"⟩
abbrev b_Model_store : ByteArray := prog_14_method_15_code
def w_Model_store : List Cond := Cond.code y_Model_store b_Model_store 6 ((some FieldType.int)) :: tb
theorem d_Model_store_0 : decode b_Model_store 0 = .ok (.iload_n 2, 1) := by decide +kernel
theorem d_Model_store_1 : decode b_Model_store 1 = .ok (.ifCond .eq 10, 3) := by decide +kernel
theorem d_Model_store_4 : decode b_Model_store 4 = .ok (.aload_n 0, 1) := by decide +kernel
theorem d_Model_store_5 : decode b_Model_store 5 = .ok (.getfield 180, 3) := by decide +kernel
theorem d_Model_store_8 : decode b_Model_store 8 = .ok (.goto 7, 3) := by decide +kernel
theorem d_Model_store_11 : decode b_Model_store 11 = .ok (.aload_n 0, 1) := by decide +kernel
theorem d_Model_store_12 : decode b_Model_store 12 = .ok (.getfield 183, 3) := by decide +kernel
theorem d_Model_store_15 : decode b_Model_store 15 = .ok (.istore_n 3, 1) := by decide +kernel
theorem d_Model_store_16 : decode b_Model_store 16 = .ok (.aload_n 0, 1) := by decide +kernel
theorem d_Model_store_17 : decode b_Model_store 17 = .ok (.iload_n 1, 1) := by decide +kernel
theorem d_Model_store_18 : decode b_Model_store 18 = .ok (.ifCond .lt 33, 3) := by decide +kernel
theorem d_Model_store_21 : decode b_Model_store 21 = .ok (.iload_n 1, 1) := by decide +kernel
theorem d_Model_store_22 : decode b_Model_store 22 = .ok (.sipush 2048, 3) := by decide +kernel
theorem d_Model_store_25 : decode b_Model_store 25 = .ok (.if_icmp .gt 26, 3) := by decide +kernel
theorem d_Model_store_28 : decode b_Model_store 28 = .ok (.iload_n 1, 1) := by decide +kernel
theorem d_Model_store_29 : decode b_Model_store 29 = .ok (.aload_n 0, 1) := by decide +kernel
theorem d_Model_store_30 : decode b_Model_store 30 = .ok (.getfield 173, 3) := by decide +kernel
theorem d_Model_store_33 : decode b_Model_store 33 = .ok (.if_icmp .gt 18, 3) := by decide +kernel
theorem d_Model_store_36 : decode b_Model_store 36 = .ok (.iload_n 3, 1) := by decide +kernel
theorem d_Model_store_37 : decode b_Model_store 37 = .ok (.iload_n 2, 1) := by decide +kernel
theorem d_Model_store_38 : decode b_Model_store 38 = .ok (.ifCond .eq 8, 3) := by decide +kernel
theorem d_Model_store_41 : decode b_Model_store 41 = .ok (.bipush 8, 2) := by decide +kernel
theorem d_Model_store_43 : decode b_Model_store 43 = .ok (.goto 5, 3) := by decide +kernel
theorem d_Model_store_46 : decode b_Model_store 46 = .ok (.bipush 16, 2) := by decide +kernel
theorem d_Model_store_48 : decode b_Model_store 48 = .ok (.if_icmp .ne 7, 3) := by decide +kernel
theorem d_Model_store_51 : decode b_Model_store 51 = .ok (.iconst 1, 1) := by decide +kernel
theorem d_Model_store_52 : decode b_Model_store 52 = .ok (.goto 4, 3) := by decide +kernel
theorem d_Model_store_55 : decode b_Model_store 55 = .ok (.iconst 0, 1) := by decide +kernel
theorem d_Model_store_56 : decode b_Model_store 56 = .ok (.iconst 1, 1) := by decide +kernel
theorem d_Model_store_57 : decode b_Model_store 57 = .ok (.invokevirtual 176, 3) := by decide +kernel
theorem d_Model_store_60 : decode b_Model_store 60 = .ok (.ifCond .eq 5, 3) := by decide +kernel
theorem d_Model_store_63 : decode b_Model_store 63 = .ok (.iconst (-1), 1) := by decide +kernel
theorem d_Model_store_64 : decode b_Model_store 64 = .ok (.ireturn, 1) := by decide +kernel
theorem d_Model_store_65 : decode b_Model_store 65 = .ok (.aload_n 0, 1) := by decide +kernel
theorem d_Model_store_66 : decode b_Model_store 66 = .ok (.iconst 0, 1) := by decide +kernel
theorem d_Model_store_67 : decode b_Model_store 67 = .ok (.putfield 173, 3) := by decide +kernel
theorem d_Model_store_70 : decode b_Model_store 70 = .ok (.aload_n 0, 1) := by decide +kernel
theorem d_Model_store_71 : decode b_Model_store 71 = .ok (.getfield 27, 3) := by decide +kernel
theorem d_Model_store_74 : decode b_Model_store 74 = .ok (.astore 4, 2) := by decide +kernel
theorem d_Model_store_76 : decode b_Model_store 76 = .ok (.aload 4, 2) := by decide +kernel
theorem d_Model_store_78 : decode b_Model_store 78 = .ok (.iload_n 1, 1) := by decide +kernel
theorem d_Model_store_79 : decode b_Model_store 79 = .ok (.putfield 186, 3) := by decide +kernel
theorem d_Model_store_82 : decode b_Model_store 82 = .ok (.iconst 0, 1) := by decide +kernel
theorem d_Model_store_83 : decode b_Model_store 83 = .ok (.istore 5, 2) := by decide +kernel
theorem d_Model_store_85 : decode b_Model_store 85 = .ok (.iload 5, 2) := by decide +kernel
theorem d_Model_store_87 : decode b_Model_store 87 = .ok (.iload_n 1, 1) := by decide +kernel
theorem d_Model_store_88 : decode b_Model_store 88 = .ok (.if_icmp .ge 24, 3) := by decide +kernel
theorem d_Model_store_91 : decode b_Model_store 91 = .ok (.aload 4, 2) := by decide +kernel
theorem d_Model_store_93 : decode b_Model_store 93 = .ok (.getfield 189, 3) := by decide +kernel
theorem d_Model_store_96 : decode b_Model_store 96 = .ok (.iload 5, 2) := by decide +kernel
theorem d_Model_store_98 : decode b_Model_store 98 = .ok (.aload_n 0, 1) := by decide +kernel
theorem d_Model_store_99 : decode b_Model_store 99 = .ok (.getfield 13, 3) := by decide +kernel
theorem d_Model_store_102 : decode b_Model_store 102 = .ok (.iload 5, 2) := by decide +kernel
theorem d_Model_store_104 : decode b_Model_store 104 = .ok (.iaload, 1) := by decide +kernel
theorem d_Model_store_105 : decode b_Model_store 105 = .ok (.iastore, 1) := by decide +kernel
theorem d_Model_store_106 : decode b_Model_store 106 = .ok (.iinc 5 1, 3) := by decide +kernel
theorem d_Model_store_109 : decode b_Model_store 109 = .ok (.goto (-24), 3) := by decide +kernel
theorem d_Model_store_112 : decode b_Model_store 112 = .ok (.aload 4, 2) := by decide +kernel
theorem d_Model_store_114 : decode b_Model_store 114 = .ok (.iload_n 2, 1) := by decide +kernel
theorem d_Model_store_115 : decode b_Model_store 115 = .ok (.invokevirtual 192, 3) := by decide +kernel
theorem d_Model_store_118 : decode b_Model_store 118 = .ok (.istore 5, 2) := by decide +kernel
theorem d_Model_store_120 : decode b_Model_store 120 = .ok (.aload_n 0, 1) := by decide +kernel
theorem d_Model_store_121 : decode b_Model_store 121 = .ok (.aload 4, 2) := by decide +kernel
theorem d_Model_store_123 : decode b_Model_store 123 = .ok (.getfield 196, 3) := by decide +kernel
theorem d_Model_store_126 : decode b_Model_store 126 = .ok (.putfield 7, 3) := by decide +kernel
theorem d_Model_store_129 : decode b_Model_store 129 = .ok (.aload_n 0, 1) := by decide +kernel
theorem d_Model_store_130 : decode b_Model_store 130 = .ok (.iload 5, 2) := by decide +kernel
theorem d_Model_store_132 : decode b_Model_store 132 = .ok (.ifCond .ne 7, 3) := by decide +kernel
theorem d_Model_store_135 : decode b_Model_store 135 = .ok (.iconst 1, 1) := by decide +kernel
theorem d_Model_store_136 : decode b_Model_store 136 = .ok (.goto 4, 3) := by decide +kernel
theorem d_Model_store_139 : decode b_Model_store 139 = .ok (.iconst 0, 1) := by decide +kernel
theorem d_Model_store_140 : decode b_Model_store 140 = .ok (.iconst 2, 1) := by decide +kernel
theorem d_Model_store_141 : decode b_Model_store 141 = .ok (.invokevirtual 176, 3) := by decide +kernel
theorem d_Model_store_144 : decode b_Model_store 144 = .ok (.ifCond .eq 5, 3) := by decide +kernel
theorem d_Model_store_147 : decode b_Model_store 147 = .ok (.iconst (-1), 1) := by decide +kernel
theorem d_Model_store_148 : decode b_Model_store 148 = .ok (.ireturn, 1) := by decide +kernel
theorem d_Model_store_149 : decode b_Model_store 149 = .ok (.aload_n 0, 1) := by decide +kernel
set_option maxHeartbeats 4000000 in
set_option maxRecDepth 100000 in
theorem e_store0c (l : Launch) (dC : Nat → ClassId) (dI : Nat → Nat → Nat) (sb : sB) (q0 oc so rv sp rz bl ww hs fi pm mx my mm mq mz wy fn : Nat) (wg qs si cs cn fa pu de ve mk : Int32) (nw : Int64) (x0 x43 x44 x45 x46 x47 x48 x49 x50 x51 x52 x53 : Nat) (x1 x2 x3 x4 x5 x6 x10 x11 x12 x13 x14 x15 x16 x17 x18 x19 x20 x21 x22 x23 x24 x25 x26 x27 x28 x29 x30 x31 x32 x33 x34 x35 x36 x37 x38 x39 x40 x41 x42 : Int32) (x7 x8 x9 : Int64) (sz : Nat) : Met l y_Model_store w_Model_store ({ frames := 3, cells := 0, slots := 0, locals := 67 }) (mu_P [.ref q0, .int 0, .int 0] (dC, dI) sb [(q0, .inr (12, [.int 0, .int 0, .int wg, .int 0, .int 0, .ref oc, .ref so, .ref rv, .ref sp, .int qs, .ref rz, .ref bl, .ref ww, .ref hs, .ref fi, .ref pm, .ref mx, .ref my, .ref mm, .ref mq, .ref mz, .ref wy, .ref fn, .int si, .int cs, .int cn, .int fa, .int pu, .int de, .int ve, .long nw, .int mk])), (sp, .inr (13, [.ref x0, .int x1, .int x2, .int x3, .int x4, .int x5, .int x6, .long x7, .long x8, .long x9, .int x10, .int x11, .int x12, .int x13, .int x14, .int x15, .int x16, .int x17, .int x18, .int x19, .int x20, .int x21, .int x22, .int x23, .int x24, .int x25, .int x26, .int x27, .int x28, .int x29, .int x30, .int x31, .int x32, .int x33, .int x34, .int x35, .int x36, .int x37, .int x38, .int x39, .int x40, .int x41, .int x42, .ref x43, .ref x44, .ref x45, .ref x46, .ref x47, .ref x48, .ref x49, .ref x50, .ref x51, .ref x52, .ref x53]))] [] sz) (va_Qi (fun r (_u : Unit) => r = -1) (mu_B (dC, dI) [] (va_A [(q0, .inr (12, [.int 0, .int 0, .int wg, .int 0, .int 0, .ref oc, .ref so, .ref rv, .ref sp, .int qs, .ref rz, .ref bl, .ref ww, .ref hs, .ref fi, .ref pm, .ref mx, .ref my, .ref mm, .ref mq, .ref mz, .ref wy, .ref fn, .int si, .int cs, .int cn, .int fa, .int pu, .int de, .int ve, .long nw, .int mk])), (sp, .inr (13, [.ref x0, .int x1, .int x2, .int x3, .int x4, .int x5, .int x6, .long x7, .long x8, .long x9, .int x10, .int x11, .int x12, .int x13, .int x14, .int x15, .int x16, .int x17, .int x18, .int x19, .int x20, .int x21, .int x22, .int x23, .int x24, .int x25, .int x26, .int x27, .int x28, .int x29, .int x30, .int x31, .int x32, .int x33, .int x34, .int x35, .int x36, .int x37, .int x38, .int x39, .int x40, .int x41, .int x42, .ref x43, .ref x44, .ref x45, .ref x46, .ref x47, .ref x48, .ref x49, .ref x50, .ref x51, .ref x52, .ref x53]))] sz) (fun _ : Unit => [(q0, .inr (12, [.int 2, .int 0, .int 0, .int 0, .int 0, .ref oc, .ref so, .ref rv, .ref sp, .int qs, .ref rz, .ref bl, .ref ww, .ref hs, .ref fi, .ref pm, .ref mx, .ref my, .ref mm, .ref mq, .ref mz, .ref wy, .ref fn, .int si, .int cs, .int cn, .int fa, .int pu, .int de, .int ve, .long nw, .int mk])), (sp, .inr (13, [.ref x0, .int 0, .int 0, .int 0, .int x4, .int x5, .int x6, .long x7, .long x8, .long x9, .int x10, .int x11, .int x12, .int x13, .int x14, .int x15, .int x16, .int x17, .int x18, .int x19, .int x20, .int x21, .int x22, .int x23, .int x24, .int (-1), .int (-1), .int 0, .int 0, .int 0, .int 0, .int (-1), .int x32, .int (-1), .int x34, .int 0, .int 0, .int x37, .int x38, .int x39, .int 0, .int 0, .int x42, .ref x43, .ref x44, .ref x45, .ref x46, .ref x47, .ref x48, .ref x49, .ref x50, .ref x51, .ref x52, .ref x53]))])) (va_A [(q0, .inr (12, [.int 0, .int 0, .int wg, .int 0, .int 0, .ref oc, .ref so, .ref rv, .ref sp, .int qs, .ref rz, .ref bl, .ref ww, .ref hs, .ref fi, .ref pm, .ref mx, .ref my, .ref mm, .ref mq, .ref mz, .ref wy, .ref fn, .int si, .int cs, .int cn, .int fa, .int pu, .int de, .int ve, .long nw, .int mk])), (sp, .inr (13, [.ref x0, .int x1, .int x2, .int x3, .int x4, .int x5, .int x6, .long x7, .long x8, .long x9, .int x10, .int x11, .int x12, .int x13, .int x14, .int x15, .int x16, .int x17, .int x18, .int x19, .int x20, .int x21, .int x22, .int x23, .int x24, .int x25, .int x26, .int x27, .int x28, .int x29, .int x30, .int x31, .int x32, .int x33, .int x34, .int x35, .int x36, .int x37, .int x38, .int x39, .int x40, .int x41, .int x42, .ref x43, .ref x44, .ref x45, .ref x46, .ref x47, .ref x48, .ref x49, .ref x50, .ref x51, .ref x52, .ref x53]))] sz)) 0 0 (va_A [(q0, .inr (12, [.int 0, .int 0, .int wg, .int 0, .int 0, .ref oc, .ref so, .ref rv, .ref sp, .int qs, .ref rz, .ref bl, .ref ww, .ref hs, .ref fi, .ref pm, .ref mx, .ref my, .ref mm, .ref mq, .ref mz, .ref wy, .ref fn, .int si, .int cs, .int cn, .int fa, .int pu, .int de, .int ve, .long nw, .int mk])), (sp, .inr (13, [.ref x0, .int x1, .int x2, .int x3, .int x4, .int x5, .int x6, .long x7, .long x8, .long x9, .int x10, .int x11, .int x12, .int x13, .int x14, .int x15, .int x16, .int x17, .int x18, .int x19, .int x20, .int x21, .int x22, .int x23, .int x24, .int x25, .int x26, .int x27, .int x28, .int x29, .int x30, .int x31, .int x32, .int x33, .int x34, .int x35, .int x36, .int x37, .int x38, .int x39, .int x40, .int x41, .int x42, .ref x43, .ref x44, .ref x45, .ref x46, .ref x47, .ref x48, .ref x49, .ref x50, .ref x51, .ref x52, .ref x53]))] sz) := by
  refine Met.ofW (cc := b_Model_store) (maxL := 6) (ret := (some FieldType.int)) (by decide) rfl ?_
  intro p e s m args below meth c s₁ B hml hv
  obtain ⟨rfl, hsz, hB0, hP, hK, hD0, hN, hT0⟩ := hv
  have hx := B.exec
  have hb := B.bytes
  have hr := B.returns
  have hts := atoms_spec (ws := w_Model_store) B.pre
  have tbin : ∀ w ∈ tb, w ∈ w_Model_store := fun w h => List.mem_cons_of_mem _ h
  have htb : ∀ w ∈ tb, w.before _ s = true := fun w h => hts w (tbin w h)
  have hown : s.vm.findClass "TrustChainModel" = some m.cls := findClass_of_methodNamed B.named
  have hlocks := B.notSynchronized
  subst hsz
  have hD := hD0.self (sz := s.heap.size)
  generalize hAe : va_A [(q0, .inr (12, [.int 0, .int 0, .int wg, .int 0, .int 0, .ref oc, .ref so, .ref rv, .ref sp, .int qs, .ref rz, .ref bl, .ref ww, .ref hs, .ref fi, .ref pm, .ref mx, .ref my, .ref mm, .ref mq, .ref mz, .ref wy, .ref fn, .int si, .int cs, .int cn, .int fa, .int pu, .int de, .int ve, .long nw, .int mk])), (sp, .inr (13, [.ref x0, .int x1, .int x2, .int x3, .int x4, .int x5, .int x6, .long x7, .long x8, .long x9, .int x10, .int x11, .int x12, .int x13, .int x14, .int x15, .int x16, .int x17, .int x18, .int x19, .int x20, .int x21, .int x22, .int x23, .int x24, .int x25, .int x26, .int x27, .int x28, .int x29, .int x30, .int x31, .int x32, .int x33, .int x34, .int x35, .int x36, .int x37, .int x38, .int x39, .int x40, .int x41, .int x42, .ref x43, .ref x44, .ref x45, .ref x46, .ref x47, .ref x48, .ref x49, .ref x50, .ref x51, .ref x52, .ref x53]))] s.heap.size = A at hD ⊢
  have hA : ∀ q : Nat, s.heap.size ≤ q → A q := fun q h => by rw [← hAe]; exact Or.inr h
  have hAs : ∀ q : Nat, A q → sb.1 ≤ q := fun q h => by
    rw [← hAe] at h
    rcases h with ⟨k, e, h⟩ | h
    · exact hD0.2 k _ h
    · exact Nat.le_trans hB0 h
  have hS : va_S A s.heap s.heap [] := va_S.rf
  have hcs : 0 ≤ (headSpec w_Model_store ({ frames := 3, cells := 0, slots := 0, locals := 67 })).room.cells ∧ 0 ≤ (headSpec w_Model_store ({ frames := 3, cells := 0, slots := 0, locals := 67 })).room.slots := ⟨Nat.le_refl _, Nat.le_refl _⟩
  have hP : va_P (dC, dI) classes [(q0, .inr (12, [.int 0, .int 0, .int wg, .int 0, .int 0, .ref oc, .ref so, .ref rv, .ref sp, .int qs, .ref rz, .ref bl, .ref ww, .ref hs, .ref fi, .ref pm, .ref mx, .ref my, .ref mm, .ref mq, .ref mz, .ref wy, .ref fn, .int si, .int cs, .int cn, .int fa, .int pu, .int de, .int ve, .long nw, .int mk])), (sp, .inr (13, [.ref x0, .int x1, .int x2, .int x3, .int x4, .int x5, .int x6, .long x7, .long x8, .long x9, .int x10, .int x11, .int x12, .int x13, .int x14, .int x15, .int x16, .int x17, .int x18, .int x19, .int x20, .int x21, .int x22, .int x23, .int x24, .int x25, .int x26, .int x27, .int x28, .int x29, .int x30, .int x31, .int x32, .int x33, .int x34, .int x35, .int x36, .int x37, .int x38, .int x39, .int x40, .int x41, .int x42, .ref x43, .ref x44, .ref x45, .ref x46, .ref x47, .ref x48, .ref x49, .ref x50, .ref x51, .ref x52, .ref x53]))] s.heap := hP
  have hl := lv_entry ([.ref q0, .int 0, .int 0]) (n := 6) (Nat.le_of_ble_eq_true rfl)
  rw [lg_entry_eq]
  generalize (lg_sl ([.ref q0, .int 0, .int 0]) ++ List.replicate (6 - (lg_sl ([.ref q0, .int 0, .int 0])).length) Slot.unset).toArray = ls at hl ⊢
  have hl : lv_has ls 6 [(0, .ref q0), (1, .int 0), (2, .int 0)] := hl
  refine lv_iload_n hx hb d_Model_store_0 rfl (lv_at hl 2 rfl) ?_
  refine lv_if_eq (tgt := 11) hx hb d_Model_store_1 (by decide) (fun c1 => ?_) (fun c1 => ?_)
  rotate_left
  · exact absurd c1 (by decide)
  refine lv_aload_n hx hb d_Model_store_11 rfl (lv_at hl 0 rfl) ?_
  refine va_get (v := .int 0) hx hb htb i_Model hown hK hP 0 rfl rfl 3 (by decide) (htb _ q7_217) (fun _ h9 => h9) rfl d_Model_store_12 ?_
  refine lv_istore_n (lv' := [(3, .int 0), (0, .ref q0), (1, .int 0), (2, .int 0)]) hx hb d_Model_store_15 rfl hl (by decide) rfl (fun ls hl => ?_)
  refine lv_aload_n hx hb d_Model_store_16 rfl (lv_at hl 1 rfl) ?_
  refine lv_iload_n hx hb d_Model_store_17 rfl (lv_at hl 2 rfl) ?_
  refine lv_if_lt (tgt := 51) hx hb d_Model_store_18 (by decide) (fun c18 => ?_) (fun c18 => ?_)
  · exact absurd c18 (by decide)
  refine lv_iload_n hx hb d_Model_store_21 rfl (lv_at hl 2 rfl) ?_
  refine lv_sipush (v := 2048) hx hb d_Model_store_22 (by decide) ?_
  refine lv_icmp_gt (tgt := 51) hx hb d_Model_store_25 (by decide) (fun c25 => ?_) (fun c25 => ?_)
  · exact absurd c25 (by decide)
  refine lv_iload_n hx hb d_Model_store_28 rfl (lv_at hl 2 rfl) ?_
  refine lv_aload_n hx hb d_Model_store_29 rfl (lv_at hl 1 rfl) ?_
  refine va_get (v := .int 0) hx hb htb i_Model hown hK hP 0 rfl rfl 1 (by decide) (htb _ q7_215) (fun _ h9 => h9) rfl d_Model_store_30 ?_
  refine lv_icmp_gt (tgt := 51) hx hb d_Model_store_33 (by decide) (fun c33 => ?_) (fun c33 => ?_)
  · exact absurd c33 (by decide)
  refine lv_iload_n hx hb d_Model_store_36 rfl (lv_at hl 0 rfl) ?_
  refine lv_iload_n hx hb d_Model_store_37 rfl (lv_at hl 3 rfl) ?_
  refine lv_if_eq (tgt := 46) hx hb d_Model_store_38 (by decide) (fun c38 => ?_) (fun c38 => ?_)
  rotate_left
  · exact absurd c38 (by decide)
  refine lv_bipush (v := 16) hx hb d_Model_store_46 (by decide) ?_
  refine lv_icmp_ne (tgt := 55) hx hb d_Model_store_48 (by decide) (fun c48 => ?_) (fun c48 => ?_)
  rotate_left
  · exact absurd c48 (by decide)
  refine lv_iconst (v := 0) hx hb d_Model_store_55 (by decide) ?_
  refine lv_iconst (v := 1) hx hb d_Model_store_56 (by decide) ?_
  have hFc := va_free (wc := [(q0, .inr (12, [.int 0, .int 0, .int wg, .int 0, .int 0, .ref oc, .ref so, .ref rv, .ref sp, .int qs, .ref rz, .ref bl, .ref ww, .ref hs, .ref fi, .ref pm, .ref mx, .ref my, .ref mm, .ref mq, .ref mz, .ref wy, .ref fn, .int si, .int cs, .int cn, .int fa, .int pu, .int de, .int ve, .long nw, .int mk]))]) hD hS hA [0] rfl
  refine va_calli (mu_runV (As := [.int 0, .int 1]) (rest := []) ⟨hx, hb, hml, hown, hts⟩ tbin (e_fails0 l dC dI sb q0 oc so rv sp rz bl ww hs fi pm mx my mm mq mz wy fn 0 wg 0 0 qs si cs cn fa pu de ve mk nw 1 s.heap.size) q8_79 q8_81 qp_36 q1_9 q8_82 (n := 2) (by decide +kernel) rfl ⟨rfl, rfl⟩ ⟨Nat.le_of_ble_eq_true rfl, Nat.le_of_ble_eq_true rfl⟩ ⟨Nat.le_of_ble_eq_true rfl, Nat.le_of_ble_eq_true rfl⟩ hN (hT0.keep hS hAs) hAs (Nat.le_trans hB0 hS.1) hK hP hD [0] (by decide) rfl [] rfl 0 12 rfl rfl rfl hl.1 rfl (Nat.le_of_ble_eq_true rfl) d_Model_store_57) hS (fun q _ h => hFc q h) hFc (fun r57 u57 tS H57 locs ht hvm hw57 hB hz1 hk1 hS => ?_)
  skip
  obtain ⟨hP1, hK1, hD1⟩ := hB
  rw [ht] at hP1
  obtain ⟨hP, hD⟩ := va_join (wr := [(sp, .inr (13, [.ref x0, .int x1, .int x2, .int x3, .int x4, .int x5, .int x6, .long x7, .long x8, .long x9, .int x10, .int x11, .int x12, .int x13, .int x14, .int x15, .int x16, .int x17, .int x18, .int x19, .int x20, .int x21, .int x22, .int x23, .int x24, .int x25, .int x26, .int x27, .int x28, .int x29, .int x30, .int x31, .int x32, .int x33, .int x34, .int x35, .int x36, .int x37, .int x38, .int x39, .int x40, .int x41, .int x42, .ref x43, .ref x44, .ref x45, .ref x46, .ref x47, .ref x48, .ref x49, .ref x50, .ref x51, .ref x52, .ref x53]))]) (w1 := [(q0, .inr (12, [.int 0, .int 0, .int wg, .int 0, .int 0, .ref oc, .ref so, .ref rv, .ref sp, .int qs, .ref rz, .ref bl, .ref ww, .ref hs, .ref fi, .ref pm, .ref mx, .ref my, .ref mm, .ref mq, .ref mz, .ref wy, .ref fn, .int si, .int cs, .int cn, .int fa, .int pu, .int de, .int ve, .long nw, .int mk]))]) hP hD [0] [1] rfl rfl (by decide) (by decide) hk1 hFc hP1 hD1
  have hP : va_P (dC, dI) classes [(sp, .inr (13, [.ref x0, .int x1, .int x2, .int x3, .int x4, .int x5, .int x6, .long x7, .long x8, .long x9, .int x10, .int x11, .int x12, .int x13, .int x14, .int x15, .int x16, .int x17, .int x18, .int x19, .int x20, .int x21, .int x22, .int x23, .int x24, .int x25, .int x26, .int x27, .int x28, .int x29, .int x30, .int x31, .int x32, .int x33, .int x34, .int x35, .int x36, .int x37, .int x38, .int x39, .int x40, .int x41, .int x42, .ref x43, .ref x44, .ref x45, .ref x46, .ref x47, .ref x48, .ref x49, .ref x50, .ref x51, .ref x52, .ref x53])), (q0, .inr (12, [.int 0, .int 0, .int wg, .int 0, .int 0, .ref oc, .ref so, .ref rv, .ref sp, .int qs, .ref rz, .ref bl, .ref ww, .ref hs, .ref fi, .ref pm, .ref mx, .ref my, .ref mm, .ref mq, .ref mz, .ref wy, .ref fn, .int si, .int cs, .int cn, .int fa, .int pu, .int de, .int ve, .long nw, .int mk]))] H57 := hP
  have hD : va_D A [(sp, .inr (13, [.ref x0, .int x1, .int x2, .int x3, .int x4, .int x5, .int x6, .long x7, .long x8, .long x9, .int x10, .int x11, .int x12, .int x13, .int x14, .int x15, .int x16, .int x17, .int x18, .int x19, .int x20, .int x21, .int x22, .int x23, .int x24, .int x25, .int x26, .int x27, .int x28, .int x29, .int x30, .int x31, .int x32, .int x33, .int x34, .int x35, .int x36, .int x37, .int x38, .int x39, .int x40, .int x41, .int x42, .ref x43, .ref x44, .ref x45, .ref x46, .ref x47, .ref x48, .ref x49, .ref x50, .ref x51, .ref x52, .ref x53])), (q0, .inr (12, [.int 0, .int 0, .int wg, .int 0, .int 0, .ref oc, .ref so, .ref rv, .ref sp, .int qs, .ref rz, .ref bl, .ref ww, .ref hs, .ref fi, .ref pm, .ref mx, .ref my, .ref mm, .ref mq, .ref mz, .ref wy, .ref fn, .int si, .int cs, .int cn, .int fa, .int pu, .int de, .int ve, .long nw, .int mk]))] := hD
  subst hw57
  refine lv_if_eq (tgt := 65) hx hb d_Model_store_60 (by decide) (fun c60 => ?_) (fun c60 => ?_)
  rotate_left
  · exact absurd c60 (by decide)
  refine lv_aload_n hx hb d_Model_store_65 rfl (lv_at hl 1 rfl) ?_
  refine lv_iconst (v := 0) hx hb d_Model_store_66 (by decide) ?_
  refine va_put (v := .int 0) (ty := .int) hx hb htb i_Model t_Model t_Model_ok n_Model hown hK hP hD hS 1 rfl rfl 1 (by decide) (htb _ q7_215) (fun _ h9 => h9) rfl (by decide +kernel) rfl rfl (Nat.le_of_ble_eq_true rfl) d_Model_store_67 (fun H67 locs hP hD hS => ?_)
  have hP : va_P (dC, dI) classes [(sp, .inr (13, [.ref x0, .int x1, .int x2, .int x3, .int x4, .int x5, .int x6, .long x7, .long x8, .long x9, .int x10, .int x11, .int x12, .int x13, .int x14, .int x15, .int x16, .int x17, .int x18, .int x19, .int x20, .int x21, .int x22, .int x23, .int x24, .int x25, .int x26, .int x27, .int x28, .int x29, .int x30, .int x31, .int x32, .int x33, .int x34, .int x35, .int x36, .int x37, .int x38, .int x39, .int x40, .int x41, .int x42, .ref x43, .ref x44, .ref x45, .ref x46, .ref x47, .ref x48, .ref x49, .ref x50, .ref x51, .ref x52, .ref x53])), (q0, .inr (12, [.int 0, .int 0, .int wg, .int 0, .int 0, .ref oc, .ref so, .ref rv, .ref sp, .int qs, .ref rz, .ref bl, .ref ww, .ref hs, .ref fi, .ref pm, .ref mx, .ref my, .ref mm, .ref mq, .ref mz, .ref wy, .ref fn, .int si, .int cs, .int cn, .int fa, .int pu, .int de, .int ve, .long nw, .int mk]))] H67 := hP
  have hD : va_D A [(sp, .inr (13, [.ref x0, .int x1, .int x2, .int x3, .int x4, .int x5, .int x6, .long x7, .long x8, .long x9, .int x10, .int x11, .int x12, .int x13, .int x14, .int x15, .int x16, .int x17, .int x18, .int x19, .int x20, .int x21, .int x22, .int x23, .int x24, .int x25, .int x26, .int x27, .int x28, .int x29, .int x30, .int x31, .int x32, .int x33, .int x34, .int x35, .int x36, .int x37, .int x38, .int x39, .int x40, .int x41, .int x42, .ref x43, .ref x44, .ref x45, .ref x46, .ref x47, .ref x48, .ref x49, .ref x50, .ref x51, .ref x52, .ref x53])), (q0, .inr (12, [.int 0, .int 0, .int wg, .int 0, .int 0, .ref oc, .ref so, .ref rv, .ref sp, .int qs, .ref rz, .ref bl, .ref ww, .ref hs, .ref fi, .ref pm, .ref mx, .ref my, .ref mm, .ref mq, .ref mz, .ref wy, .ref fn, .int si, .int cs, .int cn, .int fa, .int pu, .int de, .int ve, .long nw, .int mk]))] := hD
  refine lv_aload_n hx hb d_Model_store_70 rfl (lv_at hl 1 rfl) ?_
  refine va_get (v := .ref sp) hx hb htb i_Model hown hK hP 1 rfl rfl 8 (by decide) (htb _ q7_222) (fun _ h9 => h9) rfl d_Model_store_71 ?_
  refine lv_astore (lv' := [(4, .ref sp), (3, .int 0), (0, .ref q0), (1, .int 0), (2, .int 0)]) hx hb d_Model_store_74 hl (by decide) rfl (fun ls hl => ?_)
  refine lv_aload hx hb d_Model_store_76 (lv_at hl 0 rfl) ?_
  refine lv_iload_n hx hb d_Model_store_78 rfl (lv_at hl 3 rfl) ?_
  refine va_put (v := .int 0) (ty := .int) hx hb htb i_Text t_Text t_Text_ok n_Text hown hK hP hD hS 0 rfl rfl 1 (by decide) (htb _ q6_180) (fun _ h9 => h9) rfl (by decide +kernel) rfl rfl (Nat.le_of_ble_eq_true rfl) d_Model_store_79 (fun H79 locs hP hD hS => ?_)
  have hP : va_P (dC, dI) classes [(sp, .inr (13, [.ref x0, .int 0, .int x2, .int x3, .int x4, .int x5, .int x6, .long x7, .long x8, .long x9, .int x10, .int x11, .int x12, .int x13, .int x14, .int x15, .int x16, .int x17, .int x18, .int x19, .int x20, .int x21, .int x22, .int x23, .int x24, .int x25, .int x26, .int x27, .int x28, .int x29, .int x30, .int x31, .int x32, .int x33, .int x34, .int x35, .int x36, .int x37, .int x38, .int x39, .int x40, .int x41, .int x42, .ref x43, .ref x44, .ref x45, .ref x46, .ref x47, .ref x48, .ref x49, .ref x50, .ref x51, .ref x52, .ref x53])), (q0, .inr (12, [.int 0, .int 0, .int wg, .int 0, .int 0, .ref oc, .ref so, .ref rv, .ref sp, .int qs, .ref rz, .ref bl, .ref ww, .ref hs, .ref fi, .ref pm, .ref mx, .ref my, .ref mm, .ref mq, .ref mz, .ref wy, .ref fn, .int si, .int cs, .int cn, .int fa, .int pu, .int de, .int ve, .long nw, .int mk]))] H79 := hP
  have hD : va_D A [(sp, .inr (13, [.ref x0, .int 0, .int x2, .int x3, .int x4, .int x5, .int x6, .long x7, .long x8, .long x9, .int x10, .int x11, .int x12, .int x13, .int x14, .int x15, .int x16, .int x17, .int x18, .int x19, .int x20, .int x21, .int x22, .int x23, .int x24, .int x25, .int x26, .int x27, .int x28, .int x29, .int x30, .int x31, .int x32, .int x33, .int x34, .int x35, .int x36, .int x37, .int x38, .int x39, .int x40, .int x41, .int x42, .ref x43, .ref x44, .ref x45, .ref x46, .ref x47, .ref x48, .ref x49, .ref x50, .ref x51, .ref x52, .ref x53])), (q0, .inr (12, [.int 0, .int 0, .int wg, .int 0, .int 0, .ref oc, .ref so, .ref rv, .ref sp, .int qs, .ref rz, .ref bl, .ref ww, .ref hs, .ref fi, .ref pm, .ref mx, .ref my, .ref mm, .ref mq, .ref mz, .ref wy, .ref fn, .int si, .int cs, .int cn, .int fa, .int pu, .int de, .int ve, .long nw, .int mk]))] := hD
  refine lv_iconst (v := 0) hx hb d_Model_store_82 (by decide) ?_
  refine lv_istore (lv' := [(5, .int 0), (4, .ref sp), (3, .int 0), (0, .ref q0), (1, .int 0), (2, .int 0)]) hx hb d_Model_store_83 hl (by decide) rfl (fun ls hl => ?_)
  refine lv_iload hx hb d_Model_store_85 (lv_at hl 0 rfl) ?_
  refine lv_iload_n hx hb d_Model_store_87 rfl (lv_at hl 4 rfl) ?_
  refine lv_icmp_ge (tgt := 112) hx hb d_Model_store_88 (by decide) (fun c88 => ?_) (fun c88 => ?_)
  rotate_left
  · exact absurd c88 (by decide)
  refine lv_aload hx hb d_Model_store_112 (lv_at hl 1 rfl) ?_
  refine lv_iload_n hx hb d_Model_store_114 rfl (lv_at hl 5 rfl) ?_
  have hFc := va_free (wc := [(sp, .inr (13, [.ref x0, .int 0, .int x2, .int x3, .int x4, .int x5, .int x6, .long x7, .long x8, .long x9, .int x10, .int x11, .int x12, .int x13, .int x14, .int x15, .int x16, .int x17, .int x18, .int x19, .int x20, .int x21, .int x22, .int x23, .int x24, .int x25, .int x26, .int x27, .int x28, .int x29, .int x30, .int x31, .int x32, .int x33, .int x34, .int x35, .int x36, .int x37, .int x38, .int x39, .int x40, .int x41, .int x42, .ref x43, .ref x44, .ref x45, .ref x46, .ref x47, .ref x48, .ref x49, .ref x50, .ref x51, .ref x52, .ref x53]))]) hD hS hA [0] rfl
  refine va_calli (mu_runV (As := [.int 0]) (rest := []) ⟨hx, hb, hml, hown, hts⟩ tbin (e_read l dC dI sb sp x0 x43 x44 x45 x46 x47 x48 x49 x50 x51 x52 x53 x2 x3 x4 x5 x6 x10 x11 x12 x13 x14 x15 x16 x17 x18 x19 x20 x21 x22 x23 x24 x25 x26 x27 x28 x29 x30 x31 x32 x33 x34 x35 x36 x37 x38 x39 x40 x41 x42 x7 x8 x9 0 H79.size) q8_91 q8_92 q8_93 q1_10 q8_94 (n := 1) (by decide +kernel) rfl ⟨rfl, rfl⟩ ⟨Nat.le_of_ble_eq_true rfl, Nat.le_of_ble_eq_true rfl⟩ ⟨Nat.le_of_ble_eq_true rfl, Nat.le_of_ble_eq_true rfl⟩ hN (hT0.keep hS hAs) hAs (Nat.le_trans hB0 hS.1) hK hP hD [0] (by decide) rfl [] rfl 0 13 rfl rfl rfl hl.1 rfl (Nat.le_of_ble_eq_true rfl) d_Model_store_115) hS (fun q _ h => hFc q h) hFc (fun r115 u115 tS H115 locs ht hvm hw115 hB hz1 hk1 hS => ?_)
  skip
  obtain ⟨hP1, hK1, hD1⟩ := hB
  rw [ht] at hP1
  obtain ⟨hP, hD⟩ := va_join (wr := [(q0, .inr (12, [.int 0, .int 0, .int wg, .int 0, .int 0, .ref oc, .ref so, .ref rv, .ref sp, .int qs, .ref rz, .ref bl, .ref ww, .ref hs, .ref fi, .ref pm, .ref mx, .ref my, .ref mm, .ref mq, .ref mz, .ref wy, .ref fn, .int si, .int cs, .int cn, .int fa, .int pu, .int de, .int ve, .long nw, .int mk]))]) (w1 := [(sp, .inr (13, [.ref x0, .int 0, .int 0, .int 0, .int x4, .int x5, .int x6, .long x7, .long x8, .long x9, .int x10, .int x11, .int x12, .int x13, .int x14, .int x15, .int x16, .int x17, .int x18, .int x19, .int x20, .int x21, .int x22, .int x23, .int x24, .int (-1), .int (-1), .int 0, .int 0, .int 0, .int 0, .int (-1), .int x32, .int (-1), .int x34, .int 0, .int 0, .int x37, .int x38, .int x39, .int 0, .int 0, .int x42, .ref x43, .ref x44, .ref x45, .ref x46, .ref x47, .ref x48, .ref x49, .ref x50, .ref x51, .ref x52, .ref x53]))]) hP hD [0] [1] rfl rfl (by decide) (by decide) hk1 hFc hP1 hD1
  have hP : va_P (dC, dI) classes [(q0, .inr (12, [.int 0, .int 0, .int wg, .int 0, .int 0, .ref oc, .ref so, .ref rv, .ref sp, .int qs, .ref rz, .ref bl, .ref ww, .ref hs, .ref fi, .ref pm, .ref mx, .ref my, .ref mm, .ref mq, .ref mz, .ref wy, .ref fn, .int si, .int cs, .int cn, .int fa, .int pu, .int de, .int ve, .long nw, .int mk])), (sp, .inr (13, [.ref x0, .int 0, .int 0, .int 0, .int x4, .int x5, .int x6, .long x7, .long x8, .long x9, .int x10, .int x11, .int x12, .int x13, .int x14, .int x15, .int x16, .int x17, .int x18, .int x19, .int x20, .int x21, .int x22, .int x23, .int x24, .int (-1), .int (-1), .int 0, .int 0, .int 0, .int 0, .int (-1), .int x32, .int (-1), .int x34, .int 0, .int 0, .int x37, .int x38, .int x39, .int 0, .int 0, .int x42, .ref x43, .ref x44, .ref x45, .ref x46, .ref x47, .ref x48, .ref x49, .ref x50, .ref x51, .ref x52, .ref x53]))] H115 := hP
  have hD : va_D A [(q0, .inr (12, [.int 0, .int 0, .int wg, .int 0, .int 0, .ref oc, .ref so, .ref rv, .ref sp, .int qs, .ref rz, .ref bl, .ref ww, .ref hs, .ref fi, .ref pm, .ref mx, .ref my, .ref mm, .ref mq, .ref mz, .ref wy, .ref fn, .int si, .int cs, .int cn, .int fa, .int pu, .int de, .int ve, .long nw, .int mk])), (sp, .inr (13, [.ref x0, .int 0, .int 0, .int 0, .int x4, .int x5, .int x6, .long x7, .long x8, .long x9, .int x10, .int x11, .int x12, .int x13, .int x14, .int x15, .int x16, .int x17, .int x18, .int x19, .int x20, .int x21, .int x22, .int x23, .int x24, .int (-1), .int (-1), .int 0, .int 0, .int 0, .int 0, .int (-1), .int x32, .int (-1), .int x34, .int 0, .int 0, .int x37, .int x38, .int x39, .int 0, .int 0, .int x42, .ref x43, .ref x44, .ref x45, .ref x46, .ref x47, .ref x48, .ref x49, .ref x50, .ref x51, .ref x52, .ref x53]))] := hD
  subst hw115
  refine lv_istore (lv' := [(5, .int 0), (4, .ref sp), (3, .int 0), (0, .ref q0), (1, .int 0), (2, .int 0)]) hx hb d_Model_store_118 hl (by decide) rfl (fun ls hl => ?_)
  refine lv_aload_n hx hb d_Model_store_120 rfl (lv_at hl 3 rfl) ?_
  refine lv_aload hx hb d_Model_store_121 (lv_at hl 1 rfl) ?_
  refine va_get (v := .int 0) hx hb htb i_Text hown hK hP 1 rfl rfl 3 (by decide) (htb _ q6_184) (fun _ h9 => h9) rfl d_Model_store_123 ?_
  refine va_put (v := .int 0) (ty := .int) hx hb htb i_Model t_Model t_Model_ok n_Model hown hK hP hD hS 0 rfl rfl 2 (by decide) (htb _ q7_216) (fun _ h9 => h9) rfl (by decide +kernel) rfl rfl (Nat.le_of_ble_eq_true rfl) d_Model_store_126 (fun H126 locs hP hD hS => ?_)
  have hP : va_P (dC, dI) classes [(q0, .inr (12, [.int 0, .int 0, .int 0, .int 0, .int 0, .ref oc, .ref so, .ref rv, .ref sp, .int qs, .ref rz, .ref bl, .ref ww, .ref hs, .ref fi, .ref pm, .ref mx, .ref my, .ref mm, .ref mq, .ref mz, .ref wy, .ref fn, .int si, .int cs, .int cn, .int fa, .int pu, .int de, .int ve, .long nw, .int mk])), (sp, .inr (13, [.ref x0, .int 0, .int 0, .int 0, .int x4, .int x5, .int x6, .long x7, .long x8, .long x9, .int x10, .int x11, .int x12, .int x13, .int x14, .int x15, .int x16, .int x17, .int x18, .int x19, .int x20, .int x21, .int x22, .int x23, .int x24, .int (-1), .int (-1), .int 0, .int 0, .int 0, .int 0, .int (-1), .int x32, .int (-1), .int x34, .int 0, .int 0, .int x37, .int x38, .int x39, .int 0, .int 0, .int x42, .ref x43, .ref x44, .ref x45, .ref x46, .ref x47, .ref x48, .ref x49, .ref x50, .ref x51, .ref x52, .ref x53]))] H126 := hP
  have hD : va_D A [(q0, .inr (12, [.int 0, .int 0, .int 0, .int 0, .int 0, .ref oc, .ref so, .ref rv, .ref sp, .int qs, .ref rz, .ref bl, .ref ww, .ref hs, .ref fi, .ref pm, .ref mx, .ref my, .ref mm, .ref mq, .ref mz, .ref wy, .ref fn, .int si, .int cs, .int cn, .int fa, .int pu, .int de, .int ve, .long nw, .int mk])), (sp, .inr (13, [.ref x0, .int 0, .int 0, .int 0, .int x4, .int x5, .int x6, .long x7, .long x8, .long x9, .int x10, .int x11, .int x12, .int x13, .int x14, .int x15, .int x16, .int x17, .int x18, .int x19, .int x20, .int x21, .int x22, .int x23, .int x24, .int (-1), .int (-1), .int 0, .int 0, .int 0, .int 0, .int (-1), .int x32, .int (-1), .int x34, .int 0, .int 0, .int x37, .int x38, .int x39, .int 0, .int 0, .int x42, .ref x43, .ref x44, .ref x45, .ref x46, .ref x47, .ref x48, .ref x49, .ref x50, .ref x51, .ref x52, .ref x53]))] := hD
  refine lv_aload_n hx hb d_Model_store_129 rfl (lv_at hl 3 rfl) ?_
  refine lv_iload hx hb d_Model_store_130 (lv_at hl 0 rfl) ?_
  refine lv_if_ne (tgt := 139) hx hb d_Model_store_132 (by decide) (fun c132 => ?_) (fun c132 => ?_)
  · exact absurd c132 (by decide)
  refine lv_iconst (v := 1) hx hb d_Model_store_135 (by decide) ?_
  refine lv_goto (tgt := 140) hx hb d_Model_store_136 (by decide) ?_
  refine lv_iconst (v := 2) hx hb d_Model_store_140 (by decide) ?_
  have hFc := va_free (wc := [(q0, .inr (12, [.int 0, .int 0, .int 0, .int 0, .int 0, .ref oc, .ref so, .ref rv, .ref sp, .int qs, .ref rz, .ref bl, .ref ww, .ref hs, .ref fi, .ref pm, .ref mx, .ref my, .ref mm, .ref mq, .ref mz, .ref wy, .ref fn, .int si, .int cs, .int cn, .int fa, .int pu, .int de, .int ve, .long nw, .int mk]))]) hD hS hA [0] rfl
  refine va_calli (mu_runV (As := [.int 1, .int 2]) (rest := []) ⟨hx, hb, hml, hown, hts⟩ tbin (e_fails2 l dC dI sb q0 oc so rv sp rz bl ww hs fi pm mx my mm mq mz wy fn 0 0 0 0 qs si cs cn fa pu de ve mk nw H126.size) q8_79 q8_81 qp_36 q1_9 q8_82 (n := 2) (by decide +kernel) rfl ⟨rfl, rfl⟩ ⟨Nat.le_of_ble_eq_true rfl, Nat.le_of_ble_eq_true rfl⟩ ⟨Nat.le_of_ble_eq_true rfl, Nat.le_of_ble_eq_true rfl⟩ hN (hT0.keep hS hAs) hAs (Nat.le_trans hB0 hS.1) hK hP hD [0] (by decide) rfl [] rfl 0 12 rfl rfl rfl hl.1 rfl (Nat.le_of_ble_eq_true rfl) d_Model_store_141) hS (fun q _ h => hFc q h) hFc (fun r141 u141 tS H141 locs ht hvm hw141 hB hz1 hk1 hS => ?_)
  skip
  obtain ⟨hP1, hK1, hD1⟩ := hB
  rw [ht] at hP1
  obtain ⟨hP, hD⟩ := va_join (wr := [(sp, .inr (13, [.ref x0, .int 0, .int 0, .int 0, .int x4, .int x5, .int x6, .long x7, .long x8, .long x9, .int x10, .int x11, .int x12, .int x13, .int x14, .int x15, .int x16, .int x17, .int x18, .int x19, .int x20, .int x21, .int x22, .int x23, .int x24, .int (-1), .int (-1), .int 0, .int 0, .int 0, .int 0, .int (-1), .int x32, .int (-1), .int x34, .int 0, .int 0, .int x37, .int x38, .int x39, .int 0, .int 0, .int x42, .ref x43, .ref x44, .ref x45, .ref x46, .ref x47, .ref x48, .ref x49, .ref x50, .ref x51, .ref x52, .ref x53]))]) (w1 := [(q0, .inr (12, [.int 2, .int 0, .int 0, .int 0, .int 0, .ref oc, .ref so, .ref rv, .ref sp, .int qs, .ref rz, .ref bl, .ref ww, .ref hs, .ref fi, .ref pm, .ref mx, .ref my, .ref mm, .ref mq, .ref mz, .ref wy, .ref fn, .int si, .int cs, .int cn, .int fa, .int pu, .int de, .int ve, .long nw, .int mk]))]) hP hD [0] [1] rfl rfl (by decide) (by decide) hk1 hFc hP1 hD1
  have hP : va_P (dC, dI) classes [(sp, .inr (13, [.ref x0, .int 0, .int 0, .int 0, .int x4, .int x5, .int x6, .long x7, .long x8, .long x9, .int x10, .int x11, .int x12, .int x13, .int x14, .int x15, .int x16, .int x17, .int x18, .int x19, .int x20, .int x21, .int x22, .int x23, .int x24, .int (-1), .int (-1), .int 0, .int 0, .int 0, .int 0, .int (-1), .int x32, .int (-1), .int x34, .int 0, .int 0, .int x37, .int x38, .int x39, .int 0, .int 0, .int x42, .ref x43, .ref x44, .ref x45, .ref x46, .ref x47, .ref x48, .ref x49, .ref x50, .ref x51, .ref x52, .ref x53])), (q0, .inr (12, [.int 2, .int 0, .int 0, .int 0, .int 0, .ref oc, .ref so, .ref rv, .ref sp, .int qs, .ref rz, .ref bl, .ref ww, .ref hs, .ref fi, .ref pm, .ref mx, .ref my, .ref mm, .ref mq, .ref mz, .ref wy, .ref fn, .int si, .int cs, .int cn, .int fa, .int pu, .int de, .int ve, .long nw, .int mk]))] H141 := hP
  have hD : va_D A [(sp, .inr (13, [.ref x0, .int 0, .int 0, .int 0, .int x4, .int x5, .int x6, .long x7, .long x8, .long x9, .int x10, .int x11, .int x12, .int x13, .int x14, .int x15, .int x16, .int x17, .int x18, .int x19, .int x20, .int x21, .int x22, .int x23, .int x24, .int (-1), .int (-1), .int 0, .int 0, .int 0, .int 0, .int (-1), .int x32, .int (-1), .int x34, .int 0, .int 0, .int x37, .int x38, .int x39, .int 0, .int 0, .int x42, .ref x43, .ref x44, .ref x45, .ref x46, .ref x47, .ref x48, .ref x49, .ref x50, .ref x51, .ref x52, .ref x53])), (q0, .inr (12, [.int 2, .int 0, .int 0, .int 0, .int 0, .ref oc, .ref so, .ref rv, .ref sp, .int qs, .ref rz, .ref bl, .ref ww, .ref hs, .ref fi, .ref pm, .ref mx, .ref my, .ref mm, .ref mq, .ref mz, .ref wy, .ref fn, .int si, .int cs, .int cn, .int fa, .int pu, .int de, .int ve, .long nw, .int mk]))] := hD
  subst hw141
  refine lv_if_eq (tgt := 149) hx hb d_Model_store_144 (by decide) (fun c144 => ?_) (fun c144 => ?_)
  · exact absurd c144 (by decide)
  refine lv_iconst (v := -1) hx hb d_Model_store_147 (by decide) ?_
  exact W.iret (v := -1) hx hb hr (fun t ht hW => ⟨⟨_, (), rfl, rfl, by rw [ht]; exact hP.sub [1, 0] rfl, va_K.moved hW.alike hK, hD.sub [1, 0] (by decide) rfl⟩, hS.F ht⟩) hS.2.2 d_Model_store_148
set_option maxHeartbeats 4000000 in
set_option maxRecDepth 100000 in
theorem e_storeNc (l : Launch) (dC : Nat → ClassId) (dI : Nat → Nat → Nat) (sb : sB) (q0 oc so rv sp rz bl ww hs fi pm mx my mm mq mz wy fn : Nat) (wg qs si cs cn fa pu de ve mk : Int32) (nw : Int64) (n : Int32) (sz : Nat) (hn : ¬ n = 0) : Met l y_Model_store w_Model_store ({ frames := 1, cells := 0, slots := 0, locals := 22 }) (mu_P [.ref q0, .int n, .int 0] (dC, dI) sb [(q0, .inr (12, [.int 0, .int 0, .int wg, .int 0, .int 0, .ref oc, .ref so, .ref rv, .ref sp, .int qs, .ref rz, .ref bl, .ref ww, .ref hs, .ref fi, .ref pm, .ref mx, .ref my, .ref mm, .ref mq, .ref mz, .ref wy, .ref fn, .int si, .int cs, .int cn, .int fa, .int pu, .int de, .int ve, .long nw, .int mk]))] [] sz) (va_Qi (fun r (_u : Unit) => r = -1) (mu_B (dC, dI) [] (va_A [(q0, .inr (12, [.int 0, .int 0, .int wg, .int 0, .int 0, .ref oc, .ref so, .ref rv, .ref sp, .int qs, .ref rz, .ref bl, .ref ww, .ref hs, .ref fi, .ref pm, .ref mx, .ref my, .ref mm, .ref mq, .ref mz, .ref wy, .ref fn, .int si, .int cs, .int cn, .int fa, .int pu, .int de, .int ve, .long nw, .int mk]))] sz) (fun _ : Unit => [(q0, .inr (12, [.int 1, .int 0, .int wg, .int 0, .int 0, .ref oc, .ref so, .ref rv, .ref sp, .int qs, .ref rz, .ref bl, .ref ww, .ref hs, .ref fi, .ref pm, .ref mx, .ref my, .ref mm, .ref mq, .ref mz, .ref wy, .ref fn, .int si, .int cs, .int cn, .int fa, .int pu, .int de, .int ve, .long nw, .int mk]))])) (va_A [(q0, .inr (12, [.int 0, .int 0, .int wg, .int 0, .int 0, .ref oc, .ref so, .ref rv, .ref sp, .int qs, .ref rz, .ref bl, .ref ww, .ref hs, .ref fi, .ref pm, .ref mx, .ref my, .ref mm, .ref mq, .ref mz, .ref wy, .ref fn, .int si, .int cs, .int cn, .int fa, .int pu, .int de, .int ve, .long nw, .int mk]))] sz)) 0 0 (va_A [(q0, .inr (12, [.int 0, .int 0, .int wg, .int 0, .int 0, .ref oc, .ref so, .ref rv, .ref sp, .int qs, .ref rz, .ref bl, .ref ww, .ref hs, .ref fi, .ref pm, .ref mx, .ref my, .ref mm, .ref mq, .ref mz, .ref wy, .ref fn, .int si, .int cs, .int cn, .int fa, .int pu, .int de, .int ve, .long nw, .int mk]))] sz) := by
  refine Met.ofW (cc := b_Model_store) (maxL := 6) (ret := (some FieldType.int)) (by decide) rfl ?_
  intro p e s m args below meth c s₁ B hml hv
  obtain ⟨rfl, hsz, hB0, hP, hK, hD0, hN, hT0⟩ := hv
  have hx := B.exec
  have hb := B.bytes
  have hr := B.returns
  have hts := atoms_spec (ws := w_Model_store) B.pre
  have tbin : ∀ w ∈ tb, w ∈ w_Model_store := fun w h => List.mem_cons_of_mem _ h
  have htb : ∀ w ∈ tb, w.before _ s = true := fun w h => hts w (tbin w h)
  have hown : s.vm.findClass "TrustChainModel" = some m.cls := findClass_of_methodNamed B.named
  have hlocks := B.notSynchronized
  subst hsz
  have hD := hD0.self (sz := s.heap.size)
  generalize hAe : va_A [(q0, .inr (12, [.int 0, .int 0, .int wg, .int 0, .int 0, .ref oc, .ref so, .ref rv, .ref sp, .int qs, .ref rz, .ref bl, .ref ww, .ref hs, .ref fi, .ref pm, .ref mx, .ref my, .ref mm, .ref mq, .ref mz, .ref wy, .ref fn, .int si, .int cs, .int cn, .int fa, .int pu, .int de, .int ve, .long nw, .int mk]))] s.heap.size = A at hD ⊢
  have hA : ∀ q : Nat, s.heap.size ≤ q → A q := fun q h => by rw [← hAe]; exact Or.inr h
  have hAs : ∀ q : Nat, A q → sb.1 ≤ q := fun q h => by
    rw [← hAe] at h
    rcases h with ⟨k, e, h⟩ | h
    · exact hD0.2 k _ h
    · exact Nat.le_trans hB0 h
  have hS : va_S A s.heap s.heap [] := va_S.rf
  have hcs : 0 ≤ (headSpec w_Model_store ({ frames := 1, cells := 0, slots := 0, locals := 22 })).room.cells ∧ 0 ≤ (headSpec w_Model_store ({ frames := 1, cells := 0, slots := 0, locals := 22 })).room.slots := ⟨Nat.le_refl _, Nat.le_refl _⟩
  have hP : va_P (dC, dI) classes [(q0, .inr (12, [.int 0, .int 0, .int wg, .int 0, .int 0, .ref oc, .ref so, .ref rv, .ref sp, .int qs, .ref rz, .ref bl, .ref ww, .ref hs, .ref fi, .ref pm, .ref mx, .ref my, .ref mm, .ref mq, .ref mz, .ref wy, .ref fn, .int si, .int cs, .int cn, .int fa, .int pu, .int de, .int ve, .long nw, .int mk]))] s.heap := hP
  have hl := lv_entry ([.ref q0, .int n, .int 0]) (n := 6) (Nat.le_of_ble_eq_true rfl)
  rw [lg_entry_eq]
  generalize (lg_sl ([.ref q0, .int n, .int 0]) ++ List.replicate (6 - (lg_sl ([.ref q0, .int n, .int 0])).length) Slot.unset).toArray = ls at hl ⊢
  have hl : lv_has ls 6 [(0, .ref q0), (1, .int n), (2, .int 0)] := hl
  refine lv_iload_n hx hb d_Model_store_0 rfl (lv_at hl 2 rfl) ?_
  refine lv_if_eq (tgt := 11) hx hb d_Model_store_1 (by decide) (fun c1 => ?_) (fun c1 => ?_)
  rotate_left
  · exact absurd c1 (by decide)
  refine lv_aload_n hx hb d_Model_store_11 rfl (lv_at hl 0 rfl) ?_
  refine va_get (v := .int 0) hx hb htb i_Model hown hK hP 0 rfl rfl 3 (by decide) (htb _ q7_217) (fun _ h9 => h9) rfl d_Model_store_12 ?_
  refine lv_istore_n (lv' := [(3, .int 0), (0, .ref q0), (1, .int n), (2, .int 0)]) hx hb d_Model_store_15 rfl hl (by decide) rfl (fun ls hl => ?_)
  refine lv_aload_n hx hb d_Model_store_16 rfl (lv_at hl 1 rfl) ?_
  refine lv_iload_n hx hb d_Model_store_17 rfl (lv_at hl 2 rfl) ?_
  refine lv_if_lt (tgt := 51) hx hb d_Model_store_18 (by decide) (fun c18 => ?_) (fun c18 => ?_)
  · refine lv_iconst (v := 1) hx hb d_Model_store_51 (by decide) ?_
    refine lv_goto (tgt := 56) hx hb d_Model_store_52 (by decide) ?_
    refine lv_iconst (v := 1) hx hb d_Model_store_56 (by decide) ?_
    have hFc := va_free (wc := [(q0, .inr (12, [.int 0, .int 0, .int wg, .int 0, .int 0, .ref oc, .ref so, .ref rv, .ref sp, .int qs, .ref rz, .ref bl, .ref ww, .ref hs, .ref fi, .ref pm, .ref mx, .ref my, .ref mm, .ref mq, .ref mz, .ref wy, .ref fn, .int si, .int cs, .int cn, .int fa, .int pu, .int de, .int ve, .long nw, .int mk]))]) hD hS hA [0] rfl
    refine va_calli (mu_runV (As := [.int 1, .int 1]) (rest := []) ⟨hx, hb, hml, hown, hts⟩ tbin (e_fails1 l dC dI sb q0 oc so rv sp rz bl ww hs fi pm mx my mm mq mz wy fn 0 wg 0 0 qs si cs cn fa pu de ve mk nw s.heap.size) q8_79 q8_81 qp_36 q1_9 q8_82 (n := 2) (by decide +kernel) rfl ⟨rfl, rfl⟩ ⟨Nat.le_of_ble_eq_true rfl, Nat.le_of_ble_eq_true rfl⟩ ⟨Nat.le_of_ble_eq_true rfl, Nat.le_of_ble_eq_true rfl⟩ hN (hT0.keep hS hAs) hAs (Nat.le_trans hB0 hS.1) hK hP hD [0] (by decide) rfl [] rfl 0 12 rfl rfl rfl hl.1 rfl (Nat.le_of_ble_eq_true rfl) d_Model_store_57) hS (fun q _ h => hFc q h) hFc (fun r57 u57 tS H57 locs ht hvm hw57 hB hz1 hk1 hS => ?_)
    skip
    obtain ⟨hP1, hK1, hD1⟩ := hB
    rw [ht] at hP1
    obtain ⟨hP, hD⟩ := va_join (wr := []) (w1 := [(q0, .inr (12, [.int 1, .int 0, .int wg, .int 0, .int 0, .ref oc, .ref so, .ref rv, .ref sp, .int qs, .ref rz, .ref bl, .ref ww, .ref hs, .ref fi, .ref pm, .ref mx, .ref my, .ref mm, .ref mq, .ref mz, .ref wy, .ref fn, .int si, .int cs, .int cn, .int fa, .int pu, .int de, .int ve, .long nw, .int mk]))]) hP hD [0] [] rfl rfl (by decide) (by decide) hk1 hFc hP1 hD1
    have hP : va_P (dC, dI) classes [(q0, .inr (12, [.int 1, .int 0, .int wg, .int 0, .int 0, .ref oc, .ref so, .ref rv, .ref sp, .int qs, .ref rz, .ref bl, .ref ww, .ref hs, .ref fi, .ref pm, .ref mx, .ref my, .ref mm, .ref mq, .ref mz, .ref wy, .ref fn, .int si, .int cs, .int cn, .int fa, .int pu, .int de, .int ve, .long nw, .int mk]))] H57 := hP
    have hD : va_D A [(q0, .inr (12, [.int 1, .int 0, .int wg, .int 0, .int 0, .ref oc, .ref so, .ref rv, .ref sp, .int qs, .ref rz, .ref bl, .ref ww, .ref hs, .ref fi, .ref pm, .ref mx, .ref my, .ref mm, .ref mq, .ref mz, .ref wy, .ref fn, .int si, .int cs, .int cn, .int fa, .int pu, .int de, .int ve, .long nw, .int mk]))] := hD
    subst hw57
    refine lv_if_eq (tgt := 65) hx hb d_Model_store_60 (by decide) (fun c60 => ?_) (fun c60 => ?_)
    · exact absurd c60 (by decide)
    refine lv_iconst (v := -1) hx hb d_Model_store_63 (by decide) ?_
    exact W.iret (v := -1) hx hb hr (fun t ht hW => ⟨⟨_, (), rfl, rfl, by rw [ht]; exact hP, va_K.moved hW.alike hK, hD⟩, hS.F ht⟩) hS.2.2 d_Model_store_64
  · refine lv_iload_n hx hb d_Model_store_21 rfl (lv_at hl 2 rfl) ?_
    refine lv_sipush (v := 2048) hx hb d_Model_store_22 (by decide) ?_
    refine lv_icmp_gt (tgt := 51) hx hb d_Model_store_25 (by decide) (fun c25 => ?_) (fun c25 => ?_)
    · refine lv_iconst (v := 1) hx hb d_Model_store_51 (by decide) ?_
      refine lv_goto (tgt := 56) hx hb d_Model_store_52 (by decide) ?_
      refine lv_iconst (v := 1) hx hb d_Model_store_56 (by decide) ?_
      have hFc := va_free (wc := [(q0, .inr (12, [.int 0, .int 0, .int wg, .int 0, .int 0, .ref oc, .ref so, .ref rv, .ref sp, .int qs, .ref rz, .ref bl, .ref ww, .ref hs, .ref fi, .ref pm, .ref mx, .ref my, .ref mm, .ref mq, .ref mz, .ref wy, .ref fn, .int si, .int cs, .int cn, .int fa, .int pu, .int de, .int ve, .long nw, .int mk]))]) hD hS hA [0] rfl
      refine va_calli (mu_runV (As := [.int 1, .int 1]) (rest := []) ⟨hx, hb, hml, hown, hts⟩ tbin (e_fails1 l dC dI sb q0 oc so rv sp rz bl ww hs fi pm mx my mm mq mz wy fn 0 wg 0 0 qs si cs cn fa pu de ve mk nw s.heap.size) q8_79 q8_81 qp_36 q1_9 q8_82 (n := 2) (by decide +kernel) rfl ⟨rfl, rfl⟩ ⟨Nat.le_of_ble_eq_true rfl, Nat.le_of_ble_eq_true rfl⟩ ⟨Nat.le_of_ble_eq_true rfl, Nat.le_of_ble_eq_true rfl⟩ hN (hT0.keep hS hAs) hAs (Nat.le_trans hB0 hS.1) hK hP hD [0] (by decide) rfl [] rfl 0 12 rfl rfl rfl hl.1 rfl (Nat.le_of_ble_eq_true rfl) d_Model_store_57) hS (fun q _ h => hFc q h) hFc (fun r57 u57 tS H57 locs ht hvm hw57 hB hz1 hk1 hS => ?_)
      skip
      obtain ⟨hP1, hK1, hD1⟩ := hB
      rw [ht] at hP1
      obtain ⟨hP, hD⟩ := va_join (wr := []) (w1 := [(q0, .inr (12, [.int 1, .int 0, .int wg, .int 0, .int 0, .ref oc, .ref so, .ref rv, .ref sp, .int qs, .ref rz, .ref bl, .ref ww, .ref hs, .ref fi, .ref pm, .ref mx, .ref my, .ref mm, .ref mq, .ref mz, .ref wy, .ref fn, .int si, .int cs, .int cn, .int fa, .int pu, .int de, .int ve, .long nw, .int mk]))]) hP hD [0] [] rfl rfl (by decide) (by decide) hk1 hFc hP1 hD1
      have hP : va_P (dC, dI) classes [(q0, .inr (12, [.int 1, .int 0, .int wg, .int 0, .int 0, .ref oc, .ref so, .ref rv, .ref sp, .int qs, .ref rz, .ref bl, .ref ww, .ref hs, .ref fi, .ref pm, .ref mx, .ref my, .ref mm, .ref mq, .ref mz, .ref wy, .ref fn, .int si, .int cs, .int cn, .int fa, .int pu, .int de, .int ve, .long nw, .int mk]))] H57 := hP
      have hD : va_D A [(q0, .inr (12, [.int 1, .int 0, .int wg, .int 0, .int 0, .ref oc, .ref so, .ref rv, .ref sp, .int qs, .ref rz, .ref bl, .ref ww, .ref hs, .ref fi, .ref pm, .ref mx, .ref my, .ref mm, .ref mq, .ref mz, .ref wy, .ref fn, .int si, .int cs, .int cn, .int fa, .int pu, .int de, .int ve, .long nw, .int mk]))] := hD
      subst hw57
      refine lv_if_eq (tgt := 65) hx hb d_Model_store_60 (by decide) (fun c60 => ?_) (fun c60 => ?_)
      · exact absurd c60 (by decide)
      refine lv_iconst (v := -1) hx hb d_Model_store_63 (by decide) ?_
      exact W.iret (v := -1) hx hb hr (fun t ht hW => ⟨⟨_, (), rfl, rfl, by rw [ht]; exact hP, va_K.moved hW.alike hK, hD⟩, hS.F ht⟩) hS.2.2 d_Model_store_64
    · refine lv_iload_n hx hb d_Model_store_28 rfl (lv_at hl 2 rfl) ?_
      refine lv_aload_n hx hb d_Model_store_29 rfl (lv_at hl 1 rfl) ?_
      refine va_get (v := .int 0) hx hb htb i_Model hown hK hP 0 rfl rfl 1 (by decide) (htb _ q7_215) (fun _ h9 => h9) rfl d_Model_store_30 ?_
      refine lv_icmp_gt (tgt := 51) hx hb d_Model_store_33 (by decide) (fun c33 => ?_) (fun c33 => ?_)
      rotate_left
      · exact absurd (n_z (by assumption) (by first | exact c33 | exact Int32.not_lt.mpr c33 | exact Int32.not_lt.mpr (Int32.not_lt.mp c33))) hn
      refine lv_iconst (v := 1) hx hb d_Model_store_51 (by decide) ?_
      refine lv_goto (tgt := 56) hx hb d_Model_store_52 (by decide) ?_
      refine lv_iconst (v := 1) hx hb d_Model_store_56 (by decide) ?_
      have hFc := va_free (wc := [(q0, .inr (12, [.int 0, .int 0, .int wg, .int 0, .int 0, .ref oc, .ref so, .ref rv, .ref sp, .int qs, .ref rz, .ref bl, .ref ww, .ref hs, .ref fi, .ref pm, .ref mx, .ref my, .ref mm, .ref mq, .ref mz, .ref wy, .ref fn, .int si, .int cs, .int cn, .int fa, .int pu, .int de, .int ve, .long nw, .int mk]))]) hD hS hA [0] rfl
      refine va_calli (mu_runV (As := [.int 1, .int 1]) (rest := []) ⟨hx, hb, hml, hown, hts⟩ tbin (e_fails1 l dC dI sb q0 oc so rv sp rz bl ww hs fi pm mx my mm mq mz wy fn 0 wg 0 0 qs si cs cn fa pu de ve mk nw s.heap.size) q8_79 q8_81 qp_36 q1_9 q8_82 (n := 2) (by decide +kernel) rfl ⟨rfl, rfl⟩ ⟨Nat.le_of_ble_eq_true rfl, Nat.le_of_ble_eq_true rfl⟩ ⟨Nat.le_of_ble_eq_true rfl, Nat.le_of_ble_eq_true rfl⟩ hN (hT0.keep hS hAs) hAs (Nat.le_trans hB0 hS.1) hK hP hD [0] (by decide) rfl [] rfl 0 12 rfl rfl rfl hl.1 rfl (Nat.le_of_ble_eq_true rfl) d_Model_store_57) hS (fun q _ h => hFc q h) hFc (fun r57 u57 tS H57 locs ht hvm hw57 hB hz1 hk1 hS => ?_)
      skip
      obtain ⟨hP1, hK1, hD1⟩ := hB
      rw [ht] at hP1
      obtain ⟨hP, hD⟩ := va_join (wr := []) (w1 := [(q0, .inr (12, [.int 1, .int 0, .int wg, .int 0, .int 0, .ref oc, .ref so, .ref rv, .ref sp, .int qs, .ref rz, .ref bl, .ref ww, .ref hs, .ref fi, .ref pm, .ref mx, .ref my, .ref mm, .ref mq, .ref mz, .ref wy, .ref fn, .int si, .int cs, .int cn, .int fa, .int pu, .int de, .int ve, .long nw, .int mk]))]) hP hD [0] [] rfl rfl (by decide) (by decide) hk1 hFc hP1 hD1
      have hP : va_P (dC, dI) classes [(q0, .inr (12, [.int 1, .int 0, .int wg, .int 0, .int 0, .ref oc, .ref so, .ref rv, .ref sp, .int qs, .ref rz, .ref bl, .ref ww, .ref hs, .ref fi, .ref pm, .ref mx, .ref my, .ref mm, .ref mq, .ref mz, .ref wy, .ref fn, .int si, .int cs, .int cn, .int fa, .int pu, .int de, .int ve, .long nw, .int mk]))] H57 := hP
      have hD : va_D A [(q0, .inr (12, [.int 1, .int 0, .int wg, .int 0, .int 0, .ref oc, .ref so, .ref rv, .ref sp, .int qs, .ref rz, .ref bl, .ref ww, .ref hs, .ref fi, .ref pm, .ref mx, .ref my, .ref mm, .ref mq, .ref mz, .ref wy, .ref fn, .int si, .int cs, .int cn, .int fa, .int pu, .int de, .int ve, .long nw, .int mk]))] := hD
      subst hw57
      refine lv_if_eq (tgt := 65) hx hb d_Model_store_60 (by decide) (fun c60 => ?_) (fun c60 => ?_)
      · exact absurd c60 (by decide)
      refine lv_iconst (v := -1) hx hb d_Model_store_63 (by decide) ?_
      exact W.iret (v := -1) hx hb hr (fun t ht hW => ⟨⟨_, (), rfl, rfl, by rw [ht]; exact hP, va_K.moved hW.alike hK, hD⟩, hS.F ht⟩) hS.2.2 d_Model_store_64
set_option maxHeartbeats 4000000 in
set_option maxRecDepth 100000 in
theorem e_store0l (l : Launch) (dC : Nat → ClassId) (dI : Nat → Nat → Nat) (sb : sB) (q0 oc so rv sp rz bl ww hs fi pm mx my mm mq mz wy fn : Nat) (wg qs si cs cn fa pu de ve mk : Int32) (nw : Int64) (x0 x43 x44 x45 x46 x47 x48 x49 x50 x51 x52 x53 : Nat) (x1 x2 x3 x4 x5 x6 x10 x11 x12 x13 x14 x15 x16 x17 x18 x19 x20 x21 x22 x23 x24 x25 x26 x27 x28 x29 x30 x31 x32 x33 x34 x35 x36 x37 x38 x39 x40 x41 x42 : Int32) (x7 x8 x9 : Int64) (sz : Nat) : Met l y_Model_store w_Model_store ({ frames := 3, cells := 0, slots := 0, locals := 67 }) (mu_P [.ref q0, .int 0, .int 1] (dC, dI) sb [(q0, .inr (12, [.int 0, .int 0, .int wg, .int 0, .int 0, .ref oc, .ref so, .ref rv, .ref sp, .int qs, .ref rz, .ref bl, .ref ww, .ref hs, .ref fi, .ref pm, .ref mx, .ref my, .ref mm, .ref mq, .ref mz, .ref wy, .ref fn, .int si, .int cs, .int cn, .int fa, .int pu, .int de, .int ve, .long nw, .int mk])), (sp, .inr (13, [.ref x0, .int x1, .int x2, .int x3, .int x4, .int x5, .int x6, .long x7, .long x8, .long x9, .int x10, .int x11, .int x12, .int x13, .int x14, .int x15, .int x16, .int x17, .int x18, .int x19, .int x20, .int x21, .int x22, .int x23, .int x24, .int x25, .int x26, .int x27, .int x28, .int x29, .int x30, .int x31, .int x32, .int x33, .int x34, .int x35, .int x36, .int x37, .int x38, .int x39, .int x40, .int x41, .int x42, .ref x43, .ref x44, .ref x45, .ref x46, .ref x47, .ref x48, .ref x49, .ref x50, .ref x51, .ref x52, .ref x53]))] [] sz) (va_Qi (fun r (_u : Unit) => r = -1) (mu_B (dC, dI) [] (va_A [(q0, .inr (12, [.int 0, .int 0, .int wg, .int 0, .int 0, .ref oc, .ref so, .ref rv, .ref sp, .int qs, .ref rz, .ref bl, .ref ww, .ref hs, .ref fi, .ref pm, .ref mx, .ref my, .ref mm, .ref mq, .ref mz, .ref wy, .ref fn, .int si, .int cs, .int cn, .int fa, .int pu, .int de, .int ve, .long nw, .int mk])), (sp, .inr (13, [.ref x0, .int x1, .int x2, .int x3, .int x4, .int x5, .int x6, .long x7, .long x8, .long x9, .int x10, .int x11, .int x12, .int x13, .int x14, .int x15, .int x16, .int x17, .int x18, .int x19, .int x20, .int x21, .int x22, .int x23, .int x24, .int x25, .int x26, .int x27, .int x28, .int x29, .int x30, .int x31, .int x32, .int x33, .int x34, .int x35, .int x36, .int x37, .int x38, .int x39, .int x40, .int x41, .int x42, .ref x43, .ref x44, .ref x45, .ref x46, .ref x47, .ref x48, .ref x49, .ref x50, .ref x51, .ref x52, .ref x53]))] sz) (fun _ : Unit => [(q0, .inr (12, [.int 2, .int 0, .int 0, .int 0, .int 0, .ref oc, .ref so, .ref rv, .ref sp, .int qs, .ref rz, .ref bl, .ref ww, .ref hs, .ref fi, .ref pm, .ref mx, .ref my, .ref mm, .ref mq, .ref mz, .ref wy, .ref fn, .int si, .int cs, .int cn, .int fa, .int pu, .int de, .int ve, .long nw, .int mk])), (sp, .inr (13, [.ref x0, .int 0, .int 0, .int 0, .int x4, .int x5, .int x6, .long x7, .long x8, .long x9, .int x10, .int x11, .int x12, .int x13, .int x14, .int x15, .int x16, .int x17, .int x18, .int x19, .int x20, .int x21, .int x22, .int x23, .int x24, .int (-1), .int (-1), .int 0, .int 0, .int 0, .int 0, .int (-1), .int x32, .int (-1), .int x34, .int 0, .int 0, .int x37, .int x38, .int x39, .int 0, .int 0, .int x42, .ref x43, .ref x44, .ref x45, .ref x46, .ref x47, .ref x48, .ref x49, .ref x50, .ref x51, .ref x52, .ref x53]))])) (va_A [(q0, .inr (12, [.int 0, .int 0, .int wg, .int 0, .int 0, .ref oc, .ref so, .ref rv, .ref sp, .int qs, .ref rz, .ref bl, .ref ww, .ref hs, .ref fi, .ref pm, .ref mx, .ref my, .ref mm, .ref mq, .ref mz, .ref wy, .ref fn, .int si, .int cs, .int cn, .int fa, .int pu, .int de, .int ve, .long nw, .int mk])), (sp, .inr (13, [.ref x0, .int x1, .int x2, .int x3, .int x4, .int x5, .int x6, .long x7, .long x8, .long x9, .int x10, .int x11, .int x12, .int x13, .int x14, .int x15, .int x16, .int x17, .int x18, .int x19, .int x20, .int x21, .int x22, .int x23, .int x24, .int x25, .int x26, .int x27, .int x28, .int x29, .int x30, .int x31, .int x32, .int x33, .int x34, .int x35, .int x36, .int x37, .int x38, .int x39, .int x40, .int x41, .int x42, .ref x43, .ref x44, .ref x45, .ref x46, .ref x47, .ref x48, .ref x49, .ref x50, .ref x51, .ref x52, .ref x53]))] sz)) 0 0 (va_A [(q0, .inr (12, [.int 0, .int 0, .int wg, .int 0, .int 0, .ref oc, .ref so, .ref rv, .ref sp, .int qs, .ref rz, .ref bl, .ref ww, .ref hs, .ref fi, .ref pm, .ref mx, .ref my, .ref mm, .ref mq, .ref mz, .ref wy, .ref fn, .int si, .int cs, .int cn, .int fa, .int pu, .int de, .int ve, .long nw, .int mk])), (sp, .inr (13, [.ref x0, .int x1, .int x2, .int x3, .int x4, .int x5, .int x6, .long x7, .long x8, .long x9, .int x10, .int x11, .int x12, .int x13, .int x14, .int x15, .int x16, .int x17, .int x18, .int x19, .int x20, .int x21, .int x22, .int x23, .int x24, .int x25, .int x26, .int x27, .int x28, .int x29, .int x30, .int x31, .int x32, .int x33, .int x34, .int x35, .int x36, .int x37, .int x38, .int x39, .int x40, .int x41, .int x42, .ref x43, .ref x44, .ref x45, .ref x46, .ref x47, .ref x48, .ref x49, .ref x50, .ref x51, .ref x52, .ref x53]))] sz) := by
  refine Met.ofW (cc := b_Model_store) (maxL := 6) (ret := (some FieldType.int)) (by decide) rfl ?_
  intro p e s m args below meth c s₁ B hml hv
  obtain ⟨rfl, hsz, hB0, hP, hK, hD0, hN, hT0⟩ := hv
  have hx := B.exec
  have hb := B.bytes
  have hr := B.returns
  have hts := atoms_spec (ws := w_Model_store) B.pre
  have tbin : ∀ w ∈ tb, w ∈ w_Model_store := fun w h => List.mem_cons_of_mem _ h
  have htb : ∀ w ∈ tb, w.before _ s = true := fun w h => hts w (tbin w h)
  have hown : s.vm.findClass "TrustChainModel" = some m.cls := findClass_of_methodNamed B.named
  have hlocks := B.notSynchronized
  subst hsz
  have hD := hD0.self (sz := s.heap.size)
  generalize hAe : va_A [(q0, .inr (12, [.int 0, .int 0, .int wg, .int 0, .int 0, .ref oc, .ref so, .ref rv, .ref sp, .int qs, .ref rz, .ref bl, .ref ww, .ref hs, .ref fi, .ref pm, .ref mx, .ref my, .ref mm, .ref mq, .ref mz, .ref wy, .ref fn, .int si, .int cs, .int cn, .int fa, .int pu, .int de, .int ve, .long nw, .int mk])), (sp, .inr (13, [.ref x0, .int x1, .int x2, .int x3, .int x4, .int x5, .int x6, .long x7, .long x8, .long x9, .int x10, .int x11, .int x12, .int x13, .int x14, .int x15, .int x16, .int x17, .int x18, .int x19, .int x20, .int x21, .int x22, .int x23, .int x24, .int x25, .int x26, .int x27, .int x28, .int x29, .int x30, .int x31, .int x32, .int x33, .int x34, .int x35, .int x36, .int x37, .int x38, .int x39, .int x40, .int x41, .int x42, .ref x43, .ref x44, .ref x45, .ref x46, .ref x47, .ref x48, .ref x49, .ref x50, .ref x51, .ref x52, .ref x53]))] s.heap.size = A at hD ⊢
  have hA : ∀ q : Nat, s.heap.size ≤ q → A q := fun q h => by rw [← hAe]; exact Or.inr h
  have hAs : ∀ q : Nat, A q → sb.1 ≤ q := fun q h => by
    rw [← hAe] at h
    rcases h with ⟨k, e, h⟩ | h
    · exact hD0.2 k _ h
    · exact Nat.le_trans hB0 h
  have hS : va_S A s.heap s.heap [] := va_S.rf
  have hcs : 0 ≤ (headSpec w_Model_store ({ frames := 3, cells := 0, slots := 0, locals := 67 })).room.cells ∧ 0 ≤ (headSpec w_Model_store ({ frames := 3, cells := 0, slots := 0, locals := 67 })).room.slots := ⟨Nat.le_refl _, Nat.le_refl _⟩
  have hP : va_P (dC, dI) classes [(q0, .inr (12, [.int 0, .int 0, .int wg, .int 0, .int 0, .ref oc, .ref so, .ref rv, .ref sp, .int qs, .ref rz, .ref bl, .ref ww, .ref hs, .ref fi, .ref pm, .ref mx, .ref my, .ref mm, .ref mq, .ref mz, .ref wy, .ref fn, .int si, .int cs, .int cn, .int fa, .int pu, .int de, .int ve, .long nw, .int mk])), (sp, .inr (13, [.ref x0, .int x1, .int x2, .int x3, .int x4, .int x5, .int x6, .long x7, .long x8, .long x9, .int x10, .int x11, .int x12, .int x13, .int x14, .int x15, .int x16, .int x17, .int x18, .int x19, .int x20, .int x21, .int x22, .int x23, .int x24, .int x25, .int x26, .int x27, .int x28, .int x29, .int x30, .int x31, .int x32, .int x33, .int x34, .int x35, .int x36, .int x37, .int x38, .int x39, .int x40, .int x41, .int x42, .ref x43, .ref x44, .ref x45, .ref x46, .ref x47, .ref x48, .ref x49, .ref x50, .ref x51, .ref x52, .ref x53]))] s.heap := hP
  have hl := lv_entry ([.ref q0, .int 0, .int 1]) (n := 6) (Nat.le_of_ble_eq_true rfl)
  rw [lg_entry_eq]
  generalize (lg_sl ([.ref q0, .int 0, .int 1]) ++ List.replicate (6 - (lg_sl ([.ref q0, .int 0, .int 1])).length) Slot.unset).toArray = ls at hl ⊢
  have hl : lv_has ls 6 [(0, .ref q0), (1, .int 0), (2, .int 1)] := hl
  refine lv_iload_n hx hb d_Model_store_0 rfl (lv_at hl 2 rfl) ?_
  refine lv_if_eq (tgt := 11) hx hb d_Model_store_1 (by decide) (fun c1 => ?_) (fun c1 => ?_)
  · exact absurd c1 (by decide)
  refine lv_aload_n hx hb d_Model_store_4 rfl (lv_at hl 0 rfl) ?_
  refine va_get (v := .int 0) hx hb htb i_Model hown hK hP 0 rfl rfl 4 (by decide) (htb _ q7_218) (fun _ h9 => h9) rfl d_Model_store_5 ?_
  refine lv_goto (tgt := 15) hx hb d_Model_store_8 (by decide) ?_
  refine lv_istore_n (lv' := [(3, .int 0), (0, .ref q0), (1, .int 0), (2, .int 1)]) hx hb d_Model_store_15 rfl hl (by decide) rfl (fun ls hl => ?_)
  refine lv_aload_n hx hb d_Model_store_16 rfl (lv_at hl 1 rfl) ?_
  refine lv_iload_n hx hb d_Model_store_17 rfl (lv_at hl 2 rfl) ?_
  refine lv_if_lt (tgt := 51) hx hb d_Model_store_18 (by decide) (fun c18 => ?_) (fun c18 => ?_)
  · exact absurd c18 (by decide)
  refine lv_iload_n hx hb d_Model_store_21 rfl (lv_at hl 2 rfl) ?_
  refine lv_sipush (v := 2048) hx hb d_Model_store_22 (by decide) ?_
  refine lv_icmp_gt (tgt := 51) hx hb d_Model_store_25 (by decide) (fun c25 => ?_) (fun c25 => ?_)
  · exact absurd c25 (by decide)
  refine lv_iload_n hx hb d_Model_store_28 rfl (lv_at hl 2 rfl) ?_
  refine lv_aload_n hx hb d_Model_store_29 rfl (lv_at hl 1 rfl) ?_
  refine va_get (v := .int 0) hx hb htb i_Model hown hK hP 0 rfl rfl 1 (by decide) (htb _ q7_215) (fun _ h9 => h9) rfl d_Model_store_30 ?_
  refine lv_icmp_gt (tgt := 51) hx hb d_Model_store_33 (by decide) (fun c33 => ?_) (fun c33 => ?_)
  · exact absurd c33 (by decide)
  refine lv_iload_n hx hb d_Model_store_36 rfl (lv_at hl 0 rfl) ?_
  refine lv_iload_n hx hb d_Model_store_37 rfl (lv_at hl 3 rfl) ?_
  refine lv_if_eq (tgt := 46) hx hb d_Model_store_38 (by decide) (fun c38 => ?_) (fun c38 => ?_)
  · exact absurd c38 (by decide)
  refine lv_bipush (v := 8) hx hb d_Model_store_41 (by decide) ?_
  refine lv_goto (tgt := 48) hx hb d_Model_store_43 (by decide) ?_
  refine lv_icmp_ne (tgt := 55) hx hb d_Model_store_48 (by decide) (fun c48 => ?_) (fun c48 => ?_)
  rotate_left
  · exact absurd c48 (by decide)
  refine lv_iconst (v := 0) hx hb d_Model_store_55 (by decide) ?_
  refine lv_iconst (v := 1) hx hb d_Model_store_56 (by decide) ?_
  have hFc := va_free (wc := [(q0, .inr (12, [.int 0, .int 0, .int wg, .int 0, .int 0, .ref oc, .ref so, .ref rv, .ref sp, .int qs, .ref rz, .ref bl, .ref ww, .ref hs, .ref fi, .ref pm, .ref mx, .ref my, .ref mm, .ref mq, .ref mz, .ref wy, .ref fn, .int si, .int cs, .int cn, .int fa, .int pu, .int de, .int ve, .long nw, .int mk]))]) hD hS hA [0] rfl
  refine va_calli (mu_runV (As := [.int 0, .int 1]) (rest := []) ⟨hx, hb, hml, hown, hts⟩ tbin (e_fails0 l dC dI sb q0 oc so rv sp rz bl ww hs fi pm mx my mm mq mz wy fn 0 wg 0 0 qs si cs cn fa pu de ve mk nw 1 s.heap.size) q8_79 q8_81 qp_36 q1_9 q8_82 (n := 2) (by decide +kernel) rfl ⟨rfl, rfl⟩ ⟨Nat.le_of_ble_eq_true rfl, Nat.le_of_ble_eq_true rfl⟩ ⟨Nat.le_of_ble_eq_true rfl, Nat.le_of_ble_eq_true rfl⟩ hN (hT0.keep hS hAs) hAs (Nat.le_trans hB0 hS.1) hK hP hD [0] (by decide) rfl [] rfl 0 12 rfl rfl rfl hl.1 rfl (Nat.le_of_ble_eq_true rfl) d_Model_store_57) hS (fun q _ h => hFc q h) hFc (fun r57 u57 tS H57 locs ht hvm hw57 hB hz1 hk1 hS => ?_)
  skip
  obtain ⟨hP1, hK1, hD1⟩ := hB
  rw [ht] at hP1
  obtain ⟨hP, hD⟩ := va_join (wr := [(sp, .inr (13, [.ref x0, .int x1, .int x2, .int x3, .int x4, .int x5, .int x6, .long x7, .long x8, .long x9, .int x10, .int x11, .int x12, .int x13, .int x14, .int x15, .int x16, .int x17, .int x18, .int x19, .int x20, .int x21, .int x22, .int x23, .int x24, .int x25, .int x26, .int x27, .int x28, .int x29, .int x30, .int x31, .int x32, .int x33, .int x34, .int x35, .int x36, .int x37, .int x38, .int x39, .int x40, .int x41, .int x42, .ref x43, .ref x44, .ref x45, .ref x46, .ref x47, .ref x48, .ref x49, .ref x50, .ref x51, .ref x52, .ref x53]))]) (w1 := [(q0, .inr (12, [.int 0, .int 0, .int wg, .int 0, .int 0, .ref oc, .ref so, .ref rv, .ref sp, .int qs, .ref rz, .ref bl, .ref ww, .ref hs, .ref fi, .ref pm, .ref mx, .ref my, .ref mm, .ref mq, .ref mz, .ref wy, .ref fn, .int si, .int cs, .int cn, .int fa, .int pu, .int de, .int ve, .long nw, .int mk]))]) hP hD [0] [1] rfl rfl (by decide) (by decide) hk1 hFc hP1 hD1
  have hP : va_P (dC, dI) classes [(sp, .inr (13, [.ref x0, .int x1, .int x2, .int x3, .int x4, .int x5, .int x6, .long x7, .long x8, .long x9, .int x10, .int x11, .int x12, .int x13, .int x14, .int x15, .int x16, .int x17, .int x18, .int x19, .int x20, .int x21, .int x22, .int x23, .int x24, .int x25, .int x26, .int x27, .int x28, .int x29, .int x30, .int x31, .int x32, .int x33, .int x34, .int x35, .int x36, .int x37, .int x38, .int x39, .int x40, .int x41, .int x42, .ref x43, .ref x44, .ref x45, .ref x46, .ref x47, .ref x48, .ref x49, .ref x50, .ref x51, .ref x52, .ref x53])), (q0, .inr (12, [.int 0, .int 0, .int wg, .int 0, .int 0, .ref oc, .ref so, .ref rv, .ref sp, .int qs, .ref rz, .ref bl, .ref ww, .ref hs, .ref fi, .ref pm, .ref mx, .ref my, .ref mm, .ref mq, .ref mz, .ref wy, .ref fn, .int si, .int cs, .int cn, .int fa, .int pu, .int de, .int ve, .long nw, .int mk]))] H57 := hP
  have hD : va_D A [(sp, .inr (13, [.ref x0, .int x1, .int x2, .int x3, .int x4, .int x5, .int x6, .long x7, .long x8, .long x9, .int x10, .int x11, .int x12, .int x13, .int x14, .int x15, .int x16, .int x17, .int x18, .int x19, .int x20, .int x21, .int x22, .int x23, .int x24, .int x25, .int x26, .int x27, .int x28, .int x29, .int x30, .int x31, .int x32, .int x33, .int x34, .int x35, .int x36, .int x37, .int x38, .int x39, .int x40, .int x41, .int x42, .ref x43, .ref x44, .ref x45, .ref x46, .ref x47, .ref x48, .ref x49, .ref x50, .ref x51, .ref x52, .ref x53])), (q0, .inr (12, [.int 0, .int 0, .int wg, .int 0, .int 0, .ref oc, .ref so, .ref rv, .ref sp, .int qs, .ref rz, .ref bl, .ref ww, .ref hs, .ref fi, .ref pm, .ref mx, .ref my, .ref mm, .ref mq, .ref mz, .ref wy, .ref fn, .int si, .int cs, .int cn, .int fa, .int pu, .int de, .int ve, .long nw, .int mk]))] := hD
  subst hw57
  refine lv_if_eq (tgt := 65) hx hb d_Model_store_60 (by decide) (fun c60 => ?_) (fun c60 => ?_)
  rotate_left
  · exact absurd c60 (by decide)
  refine lv_aload_n hx hb d_Model_store_65 rfl (lv_at hl 1 rfl) ?_
  refine lv_iconst (v := 0) hx hb d_Model_store_66 (by decide) ?_
  refine va_put (v := .int 0) (ty := .int) hx hb htb i_Model t_Model t_Model_ok n_Model hown hK hP hD hS 1 rfl rfl 1 (by decide) (htb _ q7_215) (fun _ h9 => h9) rfl (by decide +kernel) rfl rfl (Nat.le_of_ble_eq_true rfl) d_Model_store_67 (fun H67 locs hP hD hS => ?_)
  have hP : va_P (dC, dI) classes [(sp, .inr (13, [.ref x0, .int x1, .int x2, .int x3, .int x4, .int x5, .int x6, .long x7, .long x8, .long x9, .int x10, .int x11, .int x12, .int x13, .int x14, .int x15, .int x16, .int x17, .int x18, .int x19, .int x20, .int x21, .int x22, .int x23, .int x24, .int x25, .int x26, .int x27, .int x28, .int x29, .int x30, .int x31, .int x32, .int x33, .int x34, .int x35, .int x36, .int x37, .int x38, .int x39, .int x40, .int x41, .int x42, .ref x43, .ref x44, .ref x45, .ref x46, .ref x47, .ref x48, .ref x49, .ref x50, .ref x51, .ref x52, .ref x53])), (q0, .inr (12, [.int 0, .int 0, .int wg, .int 0, .int 0, .ref oc, .ref so, .ref rv, .ref sp, .int qs, .ref rz, .ref bl, .ref ww, .ref hs, .ref fi, .ref pm, .ref mx, .ref my, .ref mm, .ref mq, .ref mz, .ref wy, .ref fn, .int si, .int cs, .int cn, .int fa, .int pu, .int de, .int ve, .long nw, .int mk]))] H67 := hP
  have hD : va_D A [(sp, .inr (13, [.ref x0, .int x1, .int x2, .int x3, .int x4, .int x5, .int x6, .long x7, .long x8, .long x9, .int x10, .int x11, .int x12, .int x13, .int x14, .int x15, .int x16, .int x17, .int x18, .int x19, .int x20, .int x21, .int x22, .int x23, .int x24, .int x25, .int x26, .int x27, .int x28, .int x29, .int x30, .int x31, .int x32, .int x33, .int x34, .int x35, .int x36, .int x37, .int x38, .int x39, .int x40, .int x41, .int x42, .ref x43, .ref x44, .ref x45, .ref x46, .ref x47, .ref x48, .ref x49, .ref x50, .ref x51, .ref x52, .ref x53])), (q0, .inr (12, [.int 0, .int 0, .int wg, .int 0, .int 0, .ref oc, .ref so, .ref rv, .ref sp, .int qs, .ref rz, .ref bl, .ref ww, .ref hs, .ref fi, .ref pm, .ref mx, .ref my, .ref mm, .ref mq, .ref mz, .ref wy, .ref fn, .int si, .int cs, .int cn, .int fa, .int pu, .int de, .int ve, .long nw, .int mk]))] := hD
  refine lv_aload_n hx hb d_Model_store_70 rfl (lv_at hl 1 rfl) ?_
  refine va_get (v := .ref sp) hx hb htb i_Model hown hK hP 1 rfl rfl 8 (by decide) (htb _ q7_222) (fun _ h9 => h9) rfl d_Model_store_71 ?_
  refine lv_astore (lv' := [(4, .ref sp), (3, .int 0), (0, .ref q0), (1, .int 0), (2, .int 1)]) hx hb d_Model_store_74 hl (by decide) rfl (fun ls hl => ?_)
  refine lv_aload hx hb d_Model_store_76 (lv_at hl 0 rfl) ?_
  refine lv_iload_n hx hb d_Model_store_78 rfl (lv_at hl 3 rfl) ?_
  refine va_put (v := .int 0) (ty := .int) hx hb htb i_Text t_Text t_Text_ok n_Text hown hK hP hD hS 0 rfl rfl 1 (by decide) (htb _ q6_180) (fun _ h9 => h9) rfl (by decide +kernel) rfl rfl (Nat.le_of_ble_eq_true rfl) d_Model_store_79 (fun H79 locs hP hD hS => ?_)
  have hP : va_P (dC, dI) classes [(sp, .inr (13, [.ref x0, .int 0, .int x2, .int x3, .int x4, .int x5, .int x6, .long x7, .long x8, .long x9, .int x10, .int x11, .int x12, .int x13, .int x14, .int x15, .int x16, .int x17, .int x18, .int x19, .int x20, .int x21, .int x22, .int x23, .int x24, .int x25, .int x26, .int x27, .int x28, .int x29, .int x30, .int x31, .int x32, .int x33, .int x34, .int x35, .int x36, .int x37, .int x38, .int x39, .int x40, .int x41, .int x42, .ref x43, .ref x44, .ref x45, .ref x46, .ref x47, .ref x48, .ref x49, .ref x50, .ref x51, .ref x52, .ref x53])), (q0, .inr (12, [.int 0, .int 0, .int wg, .int 0, .int 0, .ref oc, .ref so, .ref rv, .ref sp, .int qs, .ref rz, .ref bl, .ref ww, .ref hs, .ref fi, .ref pm, .ref mx, .ref my, .ref mm, .ref mq, .ref mz, .ref wy, .ref fn, .int si, .int cs, .int cn, .int fa, .int pu, .int de, .int ve, .long nw, .int mk]))] H79 := hP
  have hD : va_D A [(sp, .inr (13, [.ref x0, .int 0, .int x2, .int x3, .int x4, .int x5, .int x6, .long x7, .long x8, .long x9, .int x10, .int x11, .int x12, .int x13, .int x14, .int x15, .int x16, .int x17, .int x18, .int x19, .int x20, .int x21, .int x22, .int x23, .int x24, .int x25, .int x26, .int x27, .int x28, .int x29, .int x30, .int x31, .int x32, .int x33, .int x34, .int x35, .int x36, .int x37, .int x38, .int x39, .int x40, .int x41, .int x42, .ref x43, .ref x44, .ref x45, .ref x46, .ref x47, .ref x48, .ref x49, .ref x50, .ref x51, .ref x52, .ref x53])), (q0, .inr (12, [.int 0, .int 0, .int wg, .int 0, .int 0, .ref oc, .ref so, .ref rv, .ref sp, .int qs, .ref rz, .ref bl, .ref ww, .ref hs, .ref fi, .ref pm, .ref mx, .ref my, .ref mm, .ref mq, .ref mz, .ref wy, .ref fn, .int si, .int cs, .int cn, .int fa, .int pu, .int de, .int ve, .long nw, .int mk]))] := hD
  refine lv_iconst (v := 0) hx hb d_Model_store_82 (by decide) ?_
  refine lv_istore (lv' := [(5, .int 0), (4, .ref sp), (3, .int 0), (0, .ref q0), (1, .int 0), (2, .int 1)]) hx hb d_Model_store_83 hl (by decide) rfl (fun ls hl => ?_)
  refine lv_iload hx hb d_Model_store_85 (lv_at hl 0 rfl) ?_
  refine lv_iload_n hx hb d_Model_store_87 rfl (lv_at hl 4 rfl) ?_
  refine lv_icmp_ge (tgt := 112) hx hb d_Model_store_88 (by decide) (fun c88 => ?_) (fun c88 => ?_)
  rotate_left
  · exact absurd c88 (by decide)
  refine lv_aload hx hb d_Model_store_112 (lv_at hl 1 rfl) ?_
  refine lv_iload_n hx hb d_Model_store_114 rfl (lv_at hl 5 rfl) ?_
  have hFc := va_free (wc := [(sp, .inr (13, [.ref x0, .int 0, .int x2, .int x3, .int x4, .int x5, .int x6, .long x7, .long x8, .long x9, .int x10, .int x11, .int x12, .int x13, .int x14, .int x15, .int x16, .int x17, .int x18, .int x19, .int x20, .int x21, .int x22, .int x23, .int x24, .int x25, .int x26, .int x27, .int x28, .int x29, .int x30, .int x31, .int x32, .int x33, .int x34, .int x35, .int x36, .int x37, .int x38, .int x39, .int x40, .int x41, .int x42, .ref x43, .ref x44, .ref x45, .ref x46, .ref x47, .ref x48, .ref x49, .ref x50, .ref x51, .ref x52, .ref x53]))]) hD hS hA [0] rfl
  refine va_calli (mu_runV (As := [.int 1]) (rest := []) ⟨hx, hb, hml, hown, hts⟩ tbin (e_read l dC dI sb sp x0 x43 x44 x45 x46 x47 x48 x49 x50 x51 x52 x53 x2 x3 x4 x5 x6 x10 x11 x12 x13 x14 x15 x16 x17 x18 x19 x20 x21 x22 x23 x24 x25 x26 x27 x28 x29 x30 x31 x32 x33 x34 x35 x36 x37 x38 x39 x40 x41 x42 x7 x8 x9 1 H79.size) q8_91 q8_92 q8_93 q1_10 q8_94 (n := 1) (by decide +kernel) rfl ⟨rfl, rfl⟩ ⟨Nat.le_of_ble_eq_true rfl, Nat.le_of_ble_eq_true rfl⟩ ⟨Nat.le_of_ble_eq_true rfl, Nat.le_of_ble_eq_true rfl⟩ hN (hT0.keep hS hAs) hAs (Nat.le_trans hB0 hS.1) hK hP hD [0] (by decide) rfl [] rfl 0 13 rfl rfl rfl hl.1 rfl (Nat.le_of_ble_eq_true rfl) d_Model_store_115) hS (fun q _ h => hFc q h) hFc (fun r115 u115 tS H115 locs ht hvm hw115 hB hz1 hk1 hS => ?_)
  skip
  obtain ⟨hP1, hK1, hD1⟩ := hB
  rw [ht] at hP1
  obtain ⟨hP, hD⟩ := va_join (wr := [(q0, .inr (12, [.int 0, .int 0, .int wg, .int 0, .int 0, .ref oc, .ref so, .ref rv, .ref sp, .int qs, .ref rz, .ref bl, .ref ww, .ref hs, .ref fi, .ref pm, .ref mx, .ref my, .ref mm, .ref mq, .ref mz, .ref wy, .ref fn, .int si, .int cs, .int cn, .int fa, .int pu, .int de, .int ve, .long nw, .int mk]))]) (w1 := [(sp, .inr (13, [.ref x0, .int 0, .int 0, .int 0, .int x4, .int x5, .int x6, .long x7, .long x8, .long x9, .int x10, .int x11, .int x12, .int x13, .int x14, .int x15, .int x16, .int x17, .int x18, .int x19, .int x20, .int x21, .int x22, .int x23, .int x24, .int (-1), .int (-1), .int 0, .int 0, .int 0, .int 0, .int (-1), .int x32, .int (-1), .int x34, .int 0, .int 0, .int x37, .int x38, .int x39, .int 0, .int 0, .int x42, .ref x43, .ref x44, .ref x45, .ref x46, .ref x47, .ref x48, .ref x49, .ref x50, .ref x51, .ref x52, .ref x53]))]) hP hD [0] [1] rfl rfl (by decide) (by decide) hk1 hFc hP1 hD1
  have hP : va_P (dC, dI) classes [(q0, .inr (12, [.int 0, .int 0, .int wg, .int 0, .int 0, .ref oc, .ref so, .ref rv, .ref sp, .int qs, .ref rz, .ref bl, .ref ww, .ref hs, .ref fi, .ref pm, .ref mx, .ref my, .ref mm, .ref mq, .ref mz, .ref wy, .ref fn, .int si, .int cs, .int cn, .int fa, .int pu, .int de, .int ve, .long nw, .int mk])), (sp, .inr (13, [.ref x0, .int 0, .int 0, .int 0, .int x4, .int x5, .int x6, .long x7, .long x8, .long x9, .int x10, .int x11, .int x12, .int x13, .int x14, .int x15, .int x16, .int x17, .int x18, .int x19, .int x20, .int x21, .int x22, .int x23, .int x24, .int (-1), .int (-1), .int 0, .int 0, .int 0, .int 0, .int (-1), .int x32, .int (-1), .int x34, .int 0, .int 0, .int x37, .int x38, .int x39, .int 0, .int 0, .int x42, .ref x43, .ref x44, .ref x45, .ref x46, .ref x47, .ref x48, .ref x49, .ref x50, .ref x51, .ref x52, .ref x53]))] H115 := hP
  have hD : va_D A [(q0, .inr (12, [.int 0, .int 0, .int wg, .int 0, .int 0, .ref oc, .ref so, .ref rv, .ref sp, .int qs, .ref rz, .ref bl, .ref ww, .ref hs, .ref fi, .ref pm, .ref mx, .ref my, .ref mm, .ref mq, .ref mz, .ref wy, .ref fn, .int si, .int cs, .int cn, .int fa, .int pu, .int de, .int ve, .long nw, .int mk])), (sp, .inr (13, [.ref x0, .int 0, .int 0, .int 0, .int x4, .int x5, .int x6, .long x7, .long x8, .long x9, .int x10, .int x11, .int x12, .int x13, .int x14, .int x15, .int x16, .int x17, .int x18, .int x19, .int x20, .int x21, .int x22, .int x23, .int x24, .int (-1), .int (-1), .int 0, .int 0, .int 0, .int 0, .int (-1), .int x32, .int (-1), .int x34, .int 0, .int 0, .int x37, .int x38, .int x39, .int 0, .int 0, .int x42, .ref x43, .ref x44, .ref x45, .ref x46, .ref x47, .ref x48, .ref x49, .ref x50, .ref x51, .ref x52, .ref x53]))] := hD
  subst hw115
  refine lv_istore (lv' := [(5, .int 0), (4, .ref sp), (3, .int 0), (0, .ref q0), (1, .int 0), (2, .int 1)]) hx hb d_Model_store_118 hl (by decide) rfl (fun ls hl => ?_)
  refine lv_aload_n hx hb d_Model_store_120 rfl (lv_at hl 3 rfl) ?_
  refine lv_aload hx hb d_Model_store_121 (lv_at hl 1 rfl) ?_
  refine va_get (v := .int 0) hx hb htb i_Text hown hK hP 1 rfl rfl 3 (by decide) (htb _ q6_184) (fun _ h9 => h9) rfl d_Model_store_123 ?_
  refine va_put (v := .int 0) (ty := .int) hx hb htb i_Model t_Model t_Model_ok n_Model hown hK hP hD hS 0 rfl rfl 2 (by decide) (htb _ q7_216) (fun _ h9 => h9) rfl (by decide +kernel) rfl rfl (Nat.le_of_ble_eq_true rfl) d_Model_store_126 (fun H126 locs hP hD hS => ?_)
  have hP : va_P (dC, dI) classes [(q0, .inr (12, [.int 0, .int 0, .int 0, .int 0, .int 0, .ref oc, .ref so, .ref rv, .ref sp, .int qs, .ref rz, .ref bl, .ref ww, .ref hs, .ref fi, .ref pm, .ref mx, .ref my, .ref mm, .ref mq, .ref mz, .ref wy, .ref fn, .int si, .int cs, .int cn, .int fa, .int pu, .int de, .int ve, .long nw, .int mk])), (sp, .inr (13, [.ref x0, .int 0, .int 0, .int 0, .int x4, .int x5, .int x6, .long x7, .long x8, .long x9, .int x10, .int x11, .int x12, .int x13, .int x14, .int x15, .int x16, .int x17, .int x18, .int x19, .int x20, .int x21, .int x22, .int x23, .int x24, .int (-1), .int (-1), .int 0, .int 0, .int 0, .int 0, .int (-1), .int x32, .int (-1), .int x34, .int 0, .int 0, .int x37, .int x38, .int x39, .int 0, .int 0, .int x42, .ref x43, .ref x44, .ref x45, .ref x46, .ref x47, .ref x48, .ref x49, .ref x50, .ref x51, .ref x52, .ref x53]))] H126 := hP
  have hD : va_D A [(q0, .inr (12, [.int 0, .int 0, .int 0, .int 0, .int 0, .ref oc, .ref so, .ref rv, .ref sp, .int qs, .ref rz, .ref bl, .ref ww, .ref hs, .ref fi, .ref pm, .ref mx, .ref my, .ref mm, .ref mq, .ref mz, .ref wy, .ref fn, .int si, .int cs, .int cn, .int fa, .int pu, .int de, .int ve, .long nw, .int mk])), (sp, .inr (13, [.ref x0, .int 0, .int 0, .int 0, .int x4, .int x5, .int x6, .long x7, .long x8, .long x9, .int x10, .int x11, .int x12, .int x13, .int x14, .int x15, .int x16, .int x17, .int x18, .int x19, .int x20, .int x21, .int x22, .int x23, .int x24, .int (-1), .int (-1), .int 0, .int 0, .int 0, .int 0, .int (-1), .int x32, .int (-1), .int x34, .int 0, .int 0, .int x37, .int x38, .int x39, .int 0, .int 0, .int x42, .ref x43, .ref x44, .ref x45, .ref x46, .ref x47, .ref x48, .ref x49, .ref x50, .ref x51, .ref x52, .ref x53]))] := hD
  refine lv_aload_n hx hb d_Model_store_129 rfl (lv_at hl 3 rfl) ?_
  refine lv_iload hx hb d_Model_store_130 (lv_at hl 0 rfl) ?_
  refine lv_if_ne (tgt := 139) hx hb d_Model_store_132 (by decide) (fun c132 => ?_) (fun c132 => ?_)
  · exact absurd c132 (by decide)
  refine lv_iconst (v := 1) hx hb d_Model_store_135 (by decide) ?_
  refine lv_goto (tgt := 140) hx hb d_Model_store_136 (by decide) ?_
  refine lv_iconst (v := 2) hx hb d_Model_store_140 (by decide) ?_
  have hFc := va_free (wc := [(q0, .inr (12, [.int 0, .int 0, .int 0, .int 0, .int 0, .ref oc, .ref so, .ref rv, .ref sp, .int qs, .ref rz, .ref bl, .ref ww, .ref hs, .ref fi, .ref pm, .ref mx, .ref my, .ref mm, .ref mq, .ref mz, .ref wy, .ref fn, .int si, .int cs, .int cn, .int fa, .int pu, .int de, .int ve, .long nw, .int mk]))]) hD hS hA [0] rfl
  refine va_calli (mu_runV (As := [.int 1, .int 2]) (rest := []) ⟨hx, hb, hml, hown, hts⟩ tbin (e_fails2 l dC dI sb q0 oc so rv sp rz bl ww hs fi pm mx my mm mq mz wy fn 0 0 0 0 qs si cs cn fa pu de ve mk nw H126.size) q8_79 q8_81 qp_36 q1_9 q8_82 (n := 2) (by decide +kernel) rfl ⟨rfl, rfl⟩ ⟨Nat.le_of_ble_eq_true rfl, Nat.le_of_ble_eq_true rfl⟩ ⟨Nat.le_of_ble_eq_true rfl, Nat.le_of_ble_eq_true rfl⟩ hN (hT0.keep hS hAs) hAs (Nat.le_trans hB0 hS.1) hK hP hD [0] (by decide) rfl [] rfl 0 12 rfl rfl rfl hl.1 rfl (Nat.le_of_ble_eq_true rfl) d_Model_store_141) hS (fun q _ h => hFc q h) hFc (fun r141 u141 tS H141 locs ht hvm hw141 hB hz1 hk1 hS => ?_)
  skip
  obtain ⟨hP1, hK1, hD1⟩ := hB
  rw [ht] at hP1
  obtain ⟨hP, hD⟩ := va_join (wr := [(sp, .inr (13, [.ref x0, .int 0, .int 0, .int 0, .int x4, .int x5, .int x6, .long x7, .long x8, .long x9, .int x10, .int x11, .int x12, .int x13, .int x14, .int x15, .int x16, .int x17, .int x18, .int x19, .int x20, .int x21, .int x22, .int x23, .int x24, .int (-1), .int (-1), .int 0, .int 0, .int 0, .int 0, .int (-1), .int x32, .int (-1), .int x34, .int 0, .int 0, .int x37, .int x38, .int x39, .int 0, .int 0, .int x42, .ref x43, .ref x44, .ref x45, .ref x46, .ref x47, .ref x48, .ref x49, .ref x50, .ref x51, .ref x52, .ref x53]))]) (w1 := [(q0, .inr (12, [.int 2, .int 0, .int 0, .int 0, .int 0, .ref oc, .ref so, .ref rv, .ref sp, .int qs, .ref rz, .ref bl, .ref ww, .ref hs, .ref fi, .ref pm, .ref mx, .ref my, .ref mm, .ref mq, .ref mz, .ref wy, .ref fn, .int si, .int cs, .int cn, .int fa, .int pu, .int de, .int ve, .long nw, .int mk]))]) hP hD [0] [1] rfl rfl (by decide) (by decide) hk1 hFc hP1 hD1
  have hP : va_P (dC, dI) classes [(sp, .inr (13, [.ref x0, .int 0, .int 0, .int 0, .int x4, .int x5, .int x6, .long x7, .long x8, .long x9, .int x10, .int x11, .int x12, .int x13, .int x14, .int x15, .int x16, .int x17, .int x18, .int x19, .int x20, .int x21, .int x22, .int x23, .int x24, .int (-1), .int (-1), .int 0, .int 0, .int 0, .int 0, .int (-1), .int x32, .int (-1), .int x34, .int 0, .int 0, .int x37, .int x38, .int x39, .int 0, .int 0, .int x42, .ref x43, .ref x44, .ref x45, .ref x46, .ref x47, .ref x48, .ref x49, .ref x50, .ref x51, .ref x52, .ref x53])), (q0, .inr (12, [.int 2, .int 0, .int 0, .int 0, .int 0, .ref oc, .ref so, .ref rv, .ref sp, .int qs, .ref rz, .ref bl, .ref ww, .ref hs, .ref fi, .ref pm, .ref mx, .ref my, .ref mm, .ref mq, .ref mz, .ref wy, .ref fn, .int si, .int cs, .int cn, .int fa, .int pu, .int de, .int ve, .long nw, .int mk]))] H141 := hP
  have hD : va_D A [(sp, .inr (13, [.ref x0, .int 0, .int 0, .int 0, .int x4, .int x5, .int x6, .long x7, .long x8, .long x9, .int x10, .int x11, .int x12, .int x13, .int x14, .int x15, .int x16, .int x17, .int x18, .int x19, .int x20, .int x21, .int x22, .int x23, .int x24, .int (-1), .int (-1), .int 0, .int 0, .int 0, .int 0, .int (-1), .int x32, .int (-1), .int x34, .int 0, .int 0, .int x37, .int x38, .int x39, .int 0, .int 0, .int x42, .ref x43, .ref x44, .ref x45, .ref x46, .ref x47, .ref x48, .ref x49, .ref x50, .ref x51, .ref x52, .ref x53])), (q0, .inr (12, [.int 2, .int 0, .int 0, .int 0, .int 0, .ref oc, .ref so, .ref rv, .ref sp, .int qs, .ref rz, .ref bl, .ref ww, .ref hs, .ref fi, .ref pm, .ref mx, .ref my, .ref mm, .ref mq, .ref mz, .ref wy, .ref fn, .int si, .int cs, .int cn, .int fa, .int pu, .int de, .int ve, .long nw, .int mk]))] := hD
  subst hw141
  refine lv_if_eq (tgt := 149) hx hb d_Model_store_144 (by decide) (fun c144 => ?_) (fun c144 => ?_)
  · exact absurd c144 (by decide)
  refine lv_iconst (v := -1) hx hb d_Model_store_147 (by decide) ?_
  exact W.iret (v := -1) hx hb hr (fun t ht hW => ⟨⟨_, (), rfl, rfl, by rw [ht]; exact hP.sub [1, 0] rfl, va_K.moved hW.alike hK, hD.sub [1, 0] (by decide) rfl⟩, hS.F ht⟩) hS.2.2 d_Model_store_148
set_option maxHeartbeats 4000000 in
set_option maxRecDepth 100000 in
theorem e_storeNl (l : Launch) (dC : Nat → ClassId) (dI : Nat → Nat → Nat) (sb : sB) (q0 oc so rv sp rz bl ww hs fi pm mx my mm mq mz wy fn : Nat) (wg qs si cs cn fa pu de ve mk : Int32) (nw : Int64) (n : Int32) (sz : Nat) (hn : ¬ n = 0) : Met l y_Model_store w_Model_store ({ frames := 1, cells := 0, slots := 0, locals := 22 }) (mu_P [.ref q0, .int n, .int 1] (dC, dI) sb [(q0, .inr (12, [.int 0, .int 0, .int wg, .int 0, .int 0, .ref oc, .ref so, .ref rv, .ref sp, .int qs, .ref rz, .ref bl, .ref ww, .ref hs, .ref fi, .ref pm, .ref mx, .ref my, .ref mm, .ref mq, .ref mz, .ref wy, .ref fn, .int si, .int cs, .int cn, .int fa, .int pu, .int de, .int ve, .long nw, .int mk]))] [] sz) (va_Qi (fun r (_u : Unit) => r = -1) (mu_B (dC, dI) [] (va_A [(q0, .inr (12, [.int 0, .int 0, .int wg, .int 0, .int 0, .ref oc, .ref so, .ref rv, .ref sp, .int qs, .ref rz, .ref bl, .ref ww, .ref hs, .ref fi, .ref pm, .ref mx, .ref my, .ref mm, .ref mq, .ref mz, .ref wy, .ref fn, .int si, .int cs, .int cn, .int fa, .int pu, .int de, .int ve, .long nw, .int mk]))] sz) (fun _ : Unit => [(q0, .inr (12, [.int 1, .int 0, .int wg, .int 0, .int 0, .ref oc, .ref so, .ref rv, .ref sp, .int qs, .ref rz, .ref bl, .ref ww, .ref hs, .ref fi, .ref pm, .ref mx, .ref my, .ref mm, .ref mq, .ref mz, .ref wy, .ref fn, .int si, .int cs, .int cn, .int fa, .int pu, .int de, .int ve, .long nw, .int mk]))])) (va_A [(q0, .inr (12, [.int 0, .int 0, .int wg, .int 0, .int 0, .ref oc, .ref so, .ref rv, .ref sp, .int qs, .ref rz, .ref bl, .ref ww, .ref hs, .ref fi, .ref pm, .ref mx, .ref my, .ref mm, .ref mq, .ref mz, .ref wy, .ref fn, .int si, .int cs, .int cn, .int fa, .int pu, .int de, .int ve, .long nw, .int mk]))] sz)) 0 0 (va_A [(q0, .inr (12, [.int 0, .int 0, .int wg, .int 0, .int 0, .ref oc, .ref so, .ref rv, .ref sp, .int qs, .ref rz, .ref bl, .ref ww, .ref hs, .ref fi, .ref pm, .ref mx, .ref my, .ref mm, .ref mq, .ref mz, .ref wy, .ref fn, .int si, .int cs, .int cn, .int fa, .int pu, .int de, .int ve, .long nw, .int mk]))] sz) := by
  refine Met.ofW (cc := b_Model_store) (maxL := 6) (ret := (some FieldType.int)) (by decide) rfl ?_
  intro p e s m args below meth c s₁ B hml hv
  obtain ⟨rfl, hsz, hB0, hP, hK, hD0, hN, hT0⟩ := hv
  have hx := B.exec
  have hb := B.bytes
  have hr := B.returns
  have hts := atoms_spec (ws := w_Model_store) B.pre
  have tbin : ∀ w ∈ tb, w ∈ w_Model_store := fun w h => List.mem_cons_of_mem _ h
  have htb : ∀ w ∈ tb, w.before _ s = true := fun w h => hts w (tbin w h)
  have hown : s.vm.findClass "TrustChainModel" = some m.cls := findClass_of_methodNamed B.named
  have hlocks := B.notSynchronized
  subst hsz
  have hD := hD0.self (sz := s.heap.size)
  generalize hAe : va_A [(q0, .inr (12, [.int 0, .int 0, .int wg, .int 0, .int 0, .ref oc, .ref so, .ref rv, .ref sp, .int qs, .ref rz, .ref bl, .ref ww, .ref hs, .ref fi, .ref pm, .ref mx, .ref my, .ref mm, .ref mq, .ref mz, .ref wy, .ref fn, .int si, .int cs, .int cn, .int fa, .int pu, .int de, .int ve, .long nw, .int mk]))] s.heap.size = A at hD ⊢
  have hA : ∀ q : Nat, s.heap.size ≤ q → A q := fun q h => by rw [← hAe]; exact Or.inr h
  have hAs : ∀ q : Nat, A q → sb.1 ≤ q := fun q h => by
    rw [← hAe] at h
    rcases h with ⟨k, e, h⟩ | h
    · exact hD0.2 k _ h
    · exact Nat.le_trans hB0 h
  have hS : va_S A s.heap s.heap [] := va_S.rf
  have hcs : 0 ≤ (headSpec w_Model_store ({ frames := 1, cells := 0, slots := 0, locals := 22 })).room.cells ∧ 0 ≤ (headSpec w_Model_store ({ frames := 1, cells := 0, slots := 0, locals := 22 })).room.slots := ⟨Nat.le_refl _, Nat.le_refl _⟩
  have hP : va_P (dC, dI) classes [(q0, .inr (12, [.int 0, .int 0, .int wg, .int 0, .int 0, .ref oc, .ref so, .ref rv, .ref sp, .int qs, .ref rz, .ref bl, .ref ww, .ref hs, .ref fi, .ref pm, .ref mx, .ref my, .ref mm, .ref mq, .ref mz, .ref wy, .ref fn, .int si, .int cs, .int cn, .int fa, .int pu, .int de, .int ve, .long nw, .int mk]))] s.heap := hP
  have hl := lv_entry ([.ref q0, .int n, .int 1]) (n := 6) (Nat.le_of_ble_eq_true rfl)
  rw [lg_entry_eq]
  generalize (lg_sl ([.ref q0, .int n, .int 1]) ++ List.replicate (6 - (lg_sl ([.ref q0, .int n, .int 1])).length) Slot.unset).toArray = ls at hl ⊢
  have hl : lv_has ls 6 [(0, .ref q0), (1, .int n), (2, .int 1)] := hl
  refine lv_iload_n hx hb d_Model_store_0 rfl (lv_at hl 2 rfl) ?_
  refine lv_if_eq (tgt := 11) hx hb d_Model_store_1 (by decide) (fun c1 => ?_) (fun c1 => ?_)
  · exact absurd c1 (by decide)
  refine lv_aload_n hx hb d_Model_store_4 rfl (lv_at hl 0 rfl) ?_
  refine va_get (v := .int 0) hx hb htb i_Model hown hK hP 0 rfl rfl 4 (by decide) (htb _ q7_218) (fun _ h9 => h9) rfl d_Model_store_5 ?_
  refine lv_goto (tgt := 15) hx hb d_Model_store_8 (by decide) ?_
  refine lv_istore_n (lv' := [(3, .int 0), (0, .ref q0), (1, .int n), (2, .int 1)]) hx hb d_Model_store_15 rfl hl (by decide) rfl (fun ls hl => ?_)
  refine lv_aload_n hx hb d_Model_store_16 rfl (lv_at hl 1 rfl) ?_
  refine lv_iload_n hx hb d_Model_store_17 rfl (lv_at hl 2 rfl) ?_
  refine lv_if_lt (tgt := 51) hx hb d_Model_store_18 (by decide) (fun c18 => ?_) (fun c18 => ?_)
  · refine lv_iconst (v := 1) hx hb d_Model_store_51 (by decide) ?_
    refine lv_goto (tgt := 56) hx hb d_Model_store_52 (by decide) ?_
    refine lv_iconst (v := 1) hx hb d_Model_store_56 (by decide) ?_
    have hFc := va_free (wc := [(q0, .inr (12, [.int 0, .int 0, .int wg, .int 0, .int 0, .ref oc, .ref so, .ref rv, .ref sp, .int qs, .ref rz, .ref bl, .ref ww, .ref hs, .ref fi, .ref pm, .ref mx, .ref my, .ref mm, .ref mq, .ref mz, .ref wy, .ref fn, .int si, .int cs, .int cn, .int fa, .int pu, .int de, .int ve, .long nw, .int mk]))]) hD hS hA [0] rfl
    refine va_calli (mu_runV (As := [.int 1, .int 1]) (rest := []) ⟨hx, hb, hml, hown, hts⟩ tbin (e_fails1 l dC dI sb q0 oc so rv sp rz bl ww hs fi pm mx my mm mq mz wy fn 0 wg 0 0 qs si cs cn fa pu de ve mk nw s.heap.size) q8_79 q8_81 qp_36 q1_9 q8_82 (n := 2) (by decide +kernel) rfl ⟨rfl, rfl⟩ ⟨Nat.le_of_ble_eq_true rfl, Nat.le_of_ble_eq_true rfl⟩ ⟨Nat.le_of_ble_eq_true rfl, Nat.le_of_ble_eq_true rfl⟩ hN (hT0.keep hS hAs) hAs (Nat.le_trans hB0 hS.1) hK hP hD [0] (by decide) rfl [] rfl 0 12 rfl rfl rfl hl.1 rfl (Nat.le_of_ble_eq_true rfl) d_Model_store_57) hS (fun q _ h => hFc q h) hFc (fun r57 u57 tS H57 locs ht hvm hw57 hB hz1 hk1 hS => ?_)
    skip
    obtain ⟨hP1, hK1, hD1⟩ := hB
    rw [ht] at hP1
    obtain ⟨hP, hD⟩ := va_join (wr := []) (w1 := [(q0, .inr (12, [.int 1, .int 0, .int wg, .int 0, .int 0, .ref oc, .ref so, .ref rv, .ref sp, .int qs, .ref rz, .ref bl, .ref ww, .ref hs, .ref fi, .ref pm, .ref mx, .ref my, .ref mm, .ref mq, .ref mz, .ref wy, .ref fn, .int si, .int cs, .int cn, .int fa, .int pu, .int de, .int ve, .long nw, .int mk]))]) hP hD [0] [] rfl rfl (by decide) (by decide) hk1 hFc hP1 hD1
    have hP : va_P (dC, dI) classes [(q0, .inr (12, [.int 1, .int 0, .int wg, .int 0, .int 0, .ref oc, .ref so, .ref rv, .ref sp, .int qs, .ref rz, .ref bl, .ref ww, .ref hs, .ref fi, .ref pm, .ref mx, .ref my, .ref mm, .ref mq, .ref mz, .ref wy, .ref fn, .int si, .int cs, .int cn, .int fa, .int pu, .int de, .int ve, .long nw, .int mk]))] H57 := hP
    have hD : va_D A [(q0, .inr (12, [.int 1, .int 0, .int wg, .int 0, .int 0, .ref oc, .ref so, .ref rv, .ref sp, .int qs, .ref rz, .ref bl, .ref ww, .ref hs, .ref fi, .ref pm, .ref mx, .ref my, .ref mm, .ref mq, .ref mz, .ref wy, .ref fn, .int si, .int cs, .int cn, .int fa, .int pu, .int de, .int ve, .long nw, .int mk]))] := hD
    subst hw57
    refine lv_if_eq (tgt := 65) hx hb d_Model_store_60 (by decide) (fun c60 => ?_) (fun c60 => ?_)
    · exact absurd c60 (by decide)
    refine lv_iconst (v := -1) hx hb d_Model_store_63 (by decide) ?_
    exact W.iret (v := -1) hx hb hr (fun t ht hW => ⟨⟨_, (), rfl, rfl, by rw [ht]; exact hP, va_K.moved hW.alike hK, hD⟩, hS.F ht⟩) hS.2.2 d_Model_store_64
  · refine lv_iload_n hx hb d_Model_store_21 rfl (lv_at hl 2 rfl) ?_
    refine lv_sipush (v := 2048) hx hb d_Model_store_22 (by decide) ?_
    refine lv_icmp_gt (tgt := 51) hx hb d_Model_store_25 (by decide) (fun c25 => ?_) (fun c25 => ?_)
    · refine lv_iconst (v := 1) hx hb d_Model_store_51 (by decide) ?_
      refine lv_goto (tgt := 56) hx hb d_Model_store_52 (by decide) ?_
      refine lv_iconst (v := 1) hx hb d_Model_store_56 (by decide) ?_
      have hFc := va_free (wc := [(q0, .inr (12, [.int 0, .int 0, .int wg, .int 0, .int 0, .ref oc, .ref so, .ref rv, .ref sp, .int qs, .ref rz, .ref bl, .ref ww, .ref hs, .ref fi, .ref pm, .ref mx, .ref my, .ref mm, .ref mq, .ref mz, .ref wy, .ref fn, .int si, .int cs, .int cn, .int fa, .int pu, .int de, .int ve, .long nw, .int mk]))]) hD hS hA [0] rfl
      refine va_calli (mu_runV (As := [.int 1, .int 1]) (rest := []) ⟨hx, hb, hml, hown, hts⟩ tbin (e_fails1 l dC dI sb q0 oc so rv sp rz bl ww hs fi pm mx my mm mq mz wy fn 0 wg 0 0 qs si cs cn fa pu de ve mk nw s.heap.size) q8_79 q8_81 qp_36 q1_9 q8_82 (n := 2) (by decide +kernel) rfl ⟨rfl, rfl⟩ ⟨Nat.le_of_ble_eq_true rfl, Nat.le_of_ble_eq_true rfl⟩ ⟨Nat.le_of_ble_eq_true rfl, Nat.le_of_ble_eq_true rfl⟩ hN (hT0.keep hS hAs) hAs (Nat.le_trans hB0 hS.1) hK hP hD [0] (by decide) rfl [] rfl 0 12 rfl rfl rfl hl.1 rfl (Nat.le_of_ble_eq_true rfl) d_Model_store_57) hS (fun q _ h => hFc q h) hFc (fun r57 u57 tS H57 locs ht hvm hw57 hB hz1 hk1 hS => ?_)
      skip
      obtain ⟨hP1, hK1, hD1⟩ := hB
      rw [ht] at hP1
      obtain ⟨hP, hD⟩ := va_join (wr := []) (w1 := [(q0, .inr (12, [.int 1, .int 0, .int wg, .int 0, .int 0, .ref oc, .ref so, .ref rv, .ref sp, .int qs, .ref rz, .ref bl, .ref ww, .ref hs, .ref fi, .ref pm, .ref mx, .ref my, .ref mm, .ref mq, .ref mz, .ref wy, .ref fn, .int si, .int cs, .int cn, .int fa, .int pu, .int de, .int ve, .long nw, .int mk]))]) hP hD [0] [] rfl rfl (by decide) (by decide) hk1 hFc hP1 hD1
      have hP : va_P (dC, dI) classes [(q0, .inr (12, [.int 1, .int 0, .int wg, .int 0, .int 0, .ref oc, .ref so, .ref rv, .ref sp, .int qs, .ref rz, .ref bl, .ref ww, .ref hs, .ref fi, .ref pm, .ref mx, .ref my, .ref mm, .ref mq, .ref mz, .ref wy, .ref fn, .int si, .int cs, .int cn, .int fa, .int pu, .int de, .int ve, .long nw, .int mk]))] H57 := hP
      have hD : va_D A [(q0, .inr (12, [.int 1, .int 0, .int wg, .int 0, .int 0, .ref oc, .ref so, .ref rv, .ref sp, .int qs, .ref rz, .ref bl, .ref ww, .ref hs, .ref fi, .ref pm, .ref mx, .ref my, .ref mm, .ref mq, .ref mz, .ref wy, .ref fn, .int si, .int cs, .int cn, .int fa, .int pu, .int de, .int ve, .long nw, .int mk]))] := hD
      subst hw57
      refine lv_if_eq (tgt := 65) hx hb d_Model_store_60 (by decide) (fun c60 => ?_) (fun c60 => ?_)
      · exact absurd c60 (by decide)
      refine lv_iconst (v := -1) hx hb d_Model_store_63 (by decide) ?_
      exact W.iret (v := -1) hx hb hr (fun t ht hW => ⟨⟨_, (), rfl, rfl, by rw [ht]; exact hP, va_K.moved hW.alike hK, hD⟩, hS.F ht⟩) hS.2.2 d_Model_store_64
    · refine lv_iload_n hx hb d_Model_store_28 rfl (lv_at hl 2 rfl) ?_
      refine lv_aload_n hx hb d_Model_store_29 rfl (lv_at hl 1 rfl) ?_
      refine va_get (v := .int 0) hx hb htb i_Model hown hK hP 0 rfl rfl 1 (by decide) (htb _ q7_215) (fun _ h9 => h9) rfl d_Model_store_30 ?_
      refine lv_icmp_gt (tgt := 51) hx hb d_Model_store_33 (by decide) (fun c33 => ?_) (fun c33 => ?_)
      rotate_left
      · exact absurd (n_z (by assumption) (by first | exact c33 | exact Int32.not_lt.mpr c33 | exact Int32.not_lt.mpr (Int32.not_lt.mp c33))) hn
      refine lv_iconst (v := 1) hx hb d_Model_store_51 (by decide) ?_
      refine lv_goto (tgt := 56) hx hb d_Model_store_52 (by decide) ?_
      refine lv_iconst (v := 1) hx hb d_Model_store_56 (by decide) ?_
      have hFc := va_free (wc := [(q0, .inr (12, [.int 0, .int 0, .int wg, .int 0, .int 0, .ref oc, .ref so, .ref rv, .ref sp, .int qs, .ref rz, .ref bl, .ref ww, .ref hs, .ref fi, .ref pm, .ref mx, .ref my, .ref mm, .ref mq, .ref mz, .ref wy, .ref fn, .int si, .int cs, .int cn, .int fa, .int pu, .int de, .int ve, .long nw, .int mk]))]) hD hS hA [0] rfl
      refine va_calli (mu_runV (As := [.int 1, .int 1]) (rest := []) ⟨hx, hb, hml, hown, hts⟩ tbin (e_fails1 l dC dI sb q0 oc so rv sp rz bl ww hs fi pm mx my mm mq mz wy fn 0 wg 0 0 qs si cs cn fa pu de ve mk nw s.heap.size) q8_79 q8_81 qp_36 q1_9 q8_82 (n := 2) (by decide +kernel) rfl ⟨rfl, rfl⟩ ⟨Nat.le_of_ble_eq_true rfl, Nat.le_of_ble_eq_true rfl⟩ ⟨Nat.le_of_ble_eq_true rfl, Nat.le_of_ble_eq_true rfl⟩ hN (hT0.keep hS hAs) hAs (Nat.le_trans hB0 hS.1) hK hP hD [0] (by decide) rfl [] rfl 0 12 rfl rfl rfl hl.1 rfl (Nat.le_of_ble_eq_true rfl) d_Model_store_57) hS (fun q _ h => hFc q h) hFc (fun r57 u57 tS H57 locs ht hvm hw57 hB hz1 hk1 hS => ?_)
      skip
      obtain ⟨hP1, hK1, hD1⟩ := hB
      rw [ht] at hP1
      obtain ⟨hP, hD⟩ := va_join (wr := []) (w1 := [(q0, .inr (12, [.int 1, .int 0, .int wg, .int 0, .int 0, .ref oc, .ref so, .ref rv, .ref sp, .int qs, .ref rz, .ref bl, .ref ww, .ref hs, .ref fi, .ref pm, .ref mx, .ref my, .ref mm, .ref mq, .ref mz, .ref wy, .ref fn, .int si, .int cs, .int cn, .int fa, .int pu, .int de, .int ve, .long nw, .int mk]))]) hP hD [0] [] rfl rfl (by decide) (by decide) hk1 hFc hP1 hD1
      have hP : va_P (dC, dI) classes [(q0, .inr (12, [.int 1, .int 0, .int wg, .int 0, .int 0, .ref oc, .ref so, .ref rv, .ref sp, .int qs, .ref rz, .ref bl, .ref ww, .ref hs, .ref fi, .ref pm, .ref mx, .ref my, .ref mm, .ref mq, .ref mz, .ref wy, .ref fn, .int si, .int cs, .int cn, .int fa, .int pu, .int de, .int ve, .long nw, .int mk]))] H57 := hP
      have hD : va_D A [(q0, .inr (12, [.int 1, .int 0, .int wg, .int 0, .int 0, .ref oc, .ref so, .ref rv, .ref sp, .int qs, .ref rz, .ref bl, .ref ww, .ref hs, .ref fi, .ref pm, .ref mx, .ref my, .ref mm, .ref mq, .ref mz, .ref wy, .ref fn, .int si, .int cs, .int cn, .int fa, .int pu, .int de, .int ve, .long nw, .int mk]))] := hD
      subst hw57
      refine lv_if_eq (tgt := 65) hx hb d_Model_store_60 (by decide) (fun c60 => ?_) (fun c60 => ?_)
      · exact absurd c60 (by decide)
      refine lv_iconst (v := -1) hx hb d_Model_store_63 (by decide) ?_
      exact W.iret (v := -1) hx hb hr (fun t ht hW => ⟨⟨_, (), rfl, rfl, by rw [ht]; exact hP, va_K.moved hW.alike hK, hD⟩, hS.F ht⟩) hS.2.2 d_Model_store_64
def y_Model_certificate : MethodName := ⟨"TrustChainModel", "certificate", "(IZ)I"⟩
abbrev b_Model_certificate : ByteArray := prog_14_method_16_code
def w_Model_certificate : List Cond := Cond.code y_Model_certificate b_Model_certificate 4 ((some FieldType.int)) :: tb
theorem d_Model_certificate_0 : decode b_Model_certificate 0 = .ok (.aload_n 0, 1) := by decide +kernel
theorem d_Model_certificate_1 : decode b_Model_certificate 1 = .ok (.iconst 0, 1) := by decide +kernel
theorem d_Model_certificate_2 : decode b_Model_certificate 2 = .ok (.putfield 145, 3) := by decide +kernel
theorem d_Model_certificate_5 : decode b_Model_certificate 5 = .ok (.aload_n 0, 1) := by decide +kernel
theorem d_Model_certificate_6 : decode b_Model_certificate 6 = .ok (.iload_n 1, 1) := by decide +kernel
theorem d_Model_certificate_7 : decode b_Model_certificate 7 = .ok (.iconst 0, 1) := by decide +kernel
theorem d_Model_certificate_8 : decode b_Model_certificate 8 = .ok (.invokevirtual 197, 3) := by decide +kernel
theorem d_Model_certificate_11 : decode b_Model_certificate 11 = .ok (.istore_n 3, 1) := by decide +kernel
theorem d_Model_certificate_12 : decode b_Model_certificate 12 = .ok (.iload_n 3, 1) := by decide +kernel
theorem d_Model_certificate_13 : decode b_Model_certificate 13 = .ok (.ifCond .ge 5, 3) := by decide +kernel
theorem d_Model_certificate_16 : decode b_Model_certificate 16 = .ok (.iconst 0, 1) := by decide +kernel
theorem d_Model_certificate_17 : decode b_Model_certificate 17 = .ok (.ireturn, 1) := by decide +kernel
set_option maxHeartbeats 4000000 in
set_option maxRecDepth 100000 in
theorem e_certificate0 (l : Launch) (dC : Nat → ClassId) (dI : Nat → Nat → Nat) (sb : sB) (q0 oc so rv sp rz bl ww hs fi pm mx my mm mq mz wy fn : Nat) (wg qs si cs cn fa pu de ve mk : Int32) (nw : Int64) (x0 x43 x44 x45 x46 x47 x48 x49 x50 x51 x52 x53 : Nat) (x1 x2 x3 x4 x5 x6 x10 x11 x12 x13 x14 x15 x16 x17 x18 x19 x20 x21 x22 x23 x24 x25 x26 x27 x28 x29 x30 x31 x32 x33 x34 x35 x36 x37 x38 x39 x40 x41 x42 : Int32) (x7 x8 x9 : Int64) (er : Int32) (tr : Int32) (sz : Nat) : Met l y_Model_certificate w_Model_certificate ({ frames := 4, cells := 0, slots := 0, locals := 92 }) (mu_P [.ref q0, .int 0, .int tr] (dC, dI) sb [(q0, .inr (12, [.int er, .int 0, .int wg, .int 0, .int 0, .ref oc, .ref so, .ref rv, .ref sp, .int qs, .ref rz, .ref bl, .ref ww, .ref hs, .ref fi, .ref pm, .ref mx, .ref my, .ref mm, .ref mq, .ref mz, .ref wy, .ref fn, .int si, .int cs, .int cn, .int fa, .int pu, .int de, .int ve, .long nw, .int mk])), (sp, .inr (13, [.ref x0, .int x1, .int x2, .int x3, .int x4, .int x5, .int x6, .long x7, .long x8, .long x9, .int x10, .int x11, .int x12, .int x13, .int x14, .int x15, .int x16, .int x17, .int x18, .int x19, .int x20, .int x21, .int x22, .int x23, .int x24, .int x25, .int x26, .int x27, .int x28, .int x29, .int x30, .int x31, .int x32, .int x33, .int x34, .int x35, .int x36, .int x37, .int x38, .int x39, .int x40, .int x41, .int x42, .ref x43, .ref x44, .ref x45, .ref x46, .ref x47, .ref x48, .ref x49, .ref x50, .ref x51, .ref x52, .ref x53]))] [] sz) (va_Qi (fun r (_u : Unit) => r = 0) (mu_B (dC, dI) [] (va_A [(q0, .inr (12, [.int er, .int 0, .int wg, .int 0, .int 0, .ref oc, .ref so, .ref rv, .ref sp, .int qs, .ref rz, .ref bl, .ref ww, .ref hs, .ref fi, .ref pm, .ref mx, .ref my, .ref mm, .ref mq, .ref mz, .ref wy, .ref fn, .int si, .int cs, .int cn, .int fa, .int pu, .int de, .int ve, .long nw, .int mk])), (sp, .inr (13, [.ref x0, .int x1, .int x2, .int x3, .int x4, .int x5, .int x6, .long x7, .long x8, .long x9, .int x10, .int x11, .int x12, .int x13, .int x14, .int x15, .int x16, .int x17, .int x18, .int x19, .int x20, .int x21, .int x22, .int x23, .int x24, .int x25, .int x26, .int x27, .int x28, .int x29, .int x30, .int x31, .int x32, .int x33, .int x34, .int x35, .int x36, .int x37, .int x38, .int x39, .int x40, .int x41, .int x42, .ref x43, .ref x44, .ref x45, .ref x46, .ref x47, .ref x48, .ref x49, .ref x50, .ref x51, .ref x52, .ref x53]))] sz) (fun _ : Unit => [(q0, .inr (12, [.int 2, .int 0, .int 0, .int 0, .int 0, .ref oc, .ref so, .ref rv, .ref sp, .int qs, .ref rz, .ref bl, .ref ww, .ref hs, .ref fi, .ref pm, .ref mx, .ref my, .ref mm, .ref mq, .ref mz, .ref wy, .ref fn, .int si, .int cs, .int cn, .int fa, .int pu, .int de, .int ve, .long nw, .int mk])), (sp, .inr (13, [.ref x0, .int 0, .int 0, .int 0, .int x4, .int x5, .int x6, .long x7, .long x8, .long x9, .int x10, .int x11, .int x12, .int x13, .int x14, .int x15, .int x16, .int x17, .int x18, .int x19, .int x20, .int x21, .int x22, .int x23, .int x24, .int (-1), .int (-1), .int 0, .int 0, .int 0, .int 0, .int (-1), .int x32, .int (-1), .int x34, .int 0, .int 0, .int x37, .int x38, .int x39, .int 0, .int 0, .int x42, .ref x43, .ref x44, .ref x45, .ref x46, .ref x47, .ref x48, .ref x49, .ref x50, .ref x51, .ref x52, .ref x53]))])) (va_A [(q0, .inr (12, [.int er, .int 0, .int wg, .int 0, .int 0, .ref oc, .ref so, .ref rv, .ref sp, .int qs, .ref rz, .ref bl, .ref ww, .ref hs, .ref fi, .ref pm, .ref mx, .ref my, .ref mm, .ref mq, .ref mz, .ref wy, .ref fn, .int si, .int cs, .int cn, .int fa, .int pu, .int de, .int ve, .long nw, .int mk])), (sp, .inr (13, [.ref x0, .int x1, .int x2, .int x3, .int x4, .int x5, .int x6, .long x7, .long x8, .long x9, .int x10, .int x11, .int x12, .int x13, .int x14, .int x15, .int x16, .int x17, .int x18, .int x19, .int x20, .int x21, .int x22, .int x23, .int x24, .int x25, .int x26, .int x27, .int x28, .int x29, .int x30, .int x31, .int x32, .int x33, .int x34, .int x35, .int x36, .int x37, .int x38, .int x39, .int x40, .int x41, .int x42, .ref x43, .ref x44, .ref x45, .ref x46, .ref x47, .ref x48, .ref x49, .ref x50, .ref x51, .ref x52, .ref x53]))] sz)) 0 0 (va_A [(q0, .inr (12, [.int er, .int 0, .int wg, .int 0, .int 0, .ref oc, .ref so, .ref rv, .ref sp, .int qs, .ref rz, .ref bl, .ref ww, .ref hs, .ref fi, .ref pm, .ref mx, .ref my, .ref mm, .ref mq, .ref mz, .ref wy, .ref fn, .int si, .int cs, .int cn, .int fa, .int pu, .int de, .int ve, .long nw, .int mk])), (sp, .inr (13, [.ref x0, .int x1, .int x2, .int x3, .int x4, .int x5, .int x6, .long x7, .long x8, .long x9, .int x10, .int x11, .int x12, .int x13, .int x14, .int x15, .int x16, .int x17, .int x18, .int x19, .int x20, .int x21, .int x22, .int x23, .int x24, .int x25, .int x26, .int x27, .int x28, .int x29, .int x30, .int x31, .int x32, .int x33, .int x34, .int x35, .int x36, .int x37, .int x38, .int x39, .int x40, .int x41, .int x42, .ref x43, .ref x44, .ref x45, .ref x46, .ref x47, .ref x48, .ref x49, .ref x50, .ref x51, .ref x52, .ref x53]))] sz) := by
  refine Met.ofW (cc := b_Model_certificate) (maxL := 4) (ret := (some FieldType.int)) (by decide) rfl ?_
  intro p e s m args below meth c s₁ B hml hv
  obtain ⟨rfl, hsz, hB0, hP, hK, hD0, hN, hT0⟩ := hv
  have hx := B.exec
  have hb := B.bytes
  have hr := B.returns
  have hts := atoms_spec (ws := w_Model_certificate) B.pre
  have tbin : ∀ w ∈ tb, w ∈ w_Model_certificate := fun w h => List.mem_cons_of_mem _ h
  have htb : ∀ w ∈ tb, w.before _ s = true := fun w h => hts w (tbin w h)
  have hown : s.vm.findClass "TrustChainModel" = some m.cls := findClass_of_methodNamed B.named
  have hlocks := B.notSynchronized
  subst hsz
  have hD := hD0.self (sz := s.heap.size)
  generalize hAe : va_A [(q0, .inr (12, [.int er, .int 0, .int wg, .int 0, .int 0, .ref oc, .ref so, .ref rv, .ref sp, .int qs, .ref rz, .ref bl, .ref ww, .ref hs, .ref fi, .ref pm, .ref mx, .ref my, .ref mm, .ref mq, .ref mz, .ref wy, .ref fn, .int si, .int cs, .int cn, .int fa, .int pu, .int de, .int ve, .long nw, .int mk])), (sp, .inr (13, [.ref x0, .int x1, .int x2, .int x3, .int x4, .int x5, .int x6, .long x7, .long x8, .long x9, .int x10, .int x11, .int x12, .int x13, .int x14, .int x15, .int x16, .int x17, .int x18, .int x19, .int x20, .int x21, .int x22, .int x23, .int x24, .int x25, .int x26, .int x27, .int x28, .int x29, .int x30, .int x31, .int x32, .int x33, .int x34, .int x35, .int x36, .int x37, .int x38, .int x39, .int x40, .int x41, .int x42, .ref x43, .ref x44, .ref x45, .ref x46, .ref x47, .ref x48, .ref x49, .ref x50, .ref x51, .ref x52, .ref x53]))] s.heap.size = A at hD ⊢
  have hA : ∀ q : Nat, s.heap.size ≤ q → A q := fun q h => by rw [← hAe]; exact Or.inr h
  have hAs : ∀ q : Nat, A q → sb.1 ≤ q := fun q h => by
    rw [← hAe] at h
    rcases h with ⟨k, e, h⟩ | h
    · exact hD0.2 k _ h
    · exact Nat.le_trans hB0 h
  have hS : va_S A s.heap s.heap [] := va_S.rf
  have hcs : 0 ≤ (headSpec w_Model_certificate ({ frames := 4, cells := 0, slots := 0, locals := 92 })).room.cells ∧ 0 ≤ (headSpec w_Model_certificate ({ frames := 4, cells := 0, slots := 0, locals := 92 })).room.slots := ⟨Nat.le_refl _, Nat.le_refl _⟩
  have hP : va_P (dC, dI) classes [(q0, .inr (12, [.int er, .int 0, .int wg, .int 0, .int 0, .ref oc, .ref so, .ref rv, .ref sp, .int qs, .ref rz, .ref bl, .ref ww, .ref hs, .ref fi, .ref pm, .ref mx, .ref my, .ref mm, .ref mq, .ref mz, .ref wy, .ref fn, .int si, .int cs, .int cn, .int fa, .int pu, .int de, .int ve, .long nw, .int mk])), (sp, .inr (13, [.ref x0, .int x1, .int x2, .int x3, .int x4, .int x5, .int x6, .long x7, .long x8, .long x9, .int x10, .int x11, .int x12, .int x13, .int x14, .int x15, .int x16, .int x17, .int x18, .int x19, .int x20, .int x21, .int x22, .int x23, .int x24, .int x25, .int x26, .int x27, .int x28, .int x29, .int x30, .int x31, .int x32, .int x33, .int x34, .int x35, .int x36, .int x37, .int x38, .int x39, .int x40, .int x41, .int x42, .ref x43, .ref x44, .ref x45, .ref x46, .ref x47, .ref x48, .ref x49, .ref x50, .ref x51, .ref x52, .ref x53]))] s.heap := hP
  have hl := lv_entry ([.ref q0, .int 0, .int tr]) (n := 4) (Nat.le_of_ble_eq_true rfl)
  rw [lg_entry_eq]
  generalize (lg_sl ([.ref q0, .int 0, .int tr]) ++ List.replicate (4 - (lg_sl ([.ref q0, .int 0, .int tr])).length) Slot.unset).toArray = ls at hl ⊢
  have hl : lv_has ls 4 [(0, .ref q0), (1, .int 0), (2, .int tr)] := hl
  refine lv_aload_n hx hb d_Model_certificate_0 rfl (lv_at hl 0 rfl) ?_
  refine lv_iconst (v := 0) hx hb d_Model_certificate_1 (by decide) ?_
  refine va_put (v := .int 0) (ty := .int) hx hb htb i_Model t_Model t_Model_ok n_Model hown hK hP hD hS 0 rfl rfl 0 (by decide) (htb _ q7_214) (fun _ h9 => h9) rfl (by decide +kernel) rfl rfl (Nat.le_of_ble_eq_true rfl) d_Model_certificate_2 (fun H2 locs hP hD hS => ?_)
  have hP : va_P (dC, dI) classes [(q0, .inr (12, [.int 0, .int 0, .int wg, .int 0, .int 0, .ref oc, .ref so, .ref rv, .ref sp, .int qs, .ref rz, .ref bl, .ref ww, .ref hs, .ref fi, .ref pm, .ref mx, .ref my, .ref mm, .ref mq, .ref mz, .ref wy, .ref fn, .int si, .int cs, .int cn, .int fa, .int pu, .int de, .int ve, .long nw, .int mk])), (sp, .inr (13, [.ref x0, .int x1, .int x2, .int x3, .int x4, .int x5, .int x6, .long x7, .long x8, .long x9, .int x10, .int x11, .int x12, .int x13, .int x14, .int x15, .int x16, .int x17, .int x18, .int x19, .int x20, .int x21, .int x22, .int x23, .int x24, .int x25, .int x26, .int x27, .int x28, .int x29, .int x30, .int x31, .int x32, .int x33, .int x34, .int x35, .int x36, .int x37, .int x38, .int x39, .int x40, .int x41, .int x42, .ref x43, .ref x44, .ref x45, .ref x46, .ref x47, .ref x48, .ref x49, .ref x50, .ref x51, .ref x52, .ref x53]))] H2 := hP
  have hD : va_D A [(q0, .inr (12, [.int 0, .int 0, .int wg, .int 0, .int 0, .ref oc, .ref so, .ref rv, .ref sp, .int qs, .ref rz, .ref bl, .ref ww, .ref hs, .ref fi, .ref pm, .ref mx, .ref my, .ref mm, .ref mq, .ref mz, .ref wy, .ref fn, .int si, .int cs, .int cn, .int fa, .int pu, .int de, .int ve, .long nw, .int mk])), (sp, .inr (13, [.ref x0, .int x1, .int x2, .int x3, .int x4, .int x5, .int x6, .long x7, .long x8, .long x9, .int x10, .int x11, .int x12, .int x13, .int x14, .int x15, .int x16, .int x17, .int x18, .int x19, .int x20, .int x21, .int x22, .int x23, .int x24, .int x25, .int x26, .int x27, .int x28, .int x29, .int x30, .int x31, .int x32, .int x33, .int x34, .int x35, .int x36, .int x37, .int x38, .int x39, .int x40, .int x41, .int x42, .ref x43, .ref x44, .ref x45, .ref x46, .ref x47, .ref x48, .ref x49, .ref x50, .ref x51, .ref x52, .ref x53]))] := hD
  refine lv_aload_n hx hb d_Model_certificate_5 rfl (lv_at hl 0 rfl) ?_
  refine lv_iload_n hx hb d_Model_certificate_6 rfl (lv_at hl 1 rfl) ?_
  refine lv_iconst (v := 0) hx hb d_Model_certificate_7 (by decide) ?_
  have hFc := va_free (wc := [(q0, .inr (12, [.int 0, .int 0, .int wg, .int 0, .int 0, .ref oc, .ref so, .ref rv, .ref sp, .int qs, .ref rz, .ref bl, .ref ww, .ref hs, .ref fi, .ref pm, .ref mx, .ref my, .ref mm, .ref mq, .ref mz, .ref wy, .ref fn, .int si, .int cs, .int cn, .int fa, .int pu, .int de, .int ve, .long nw, .int mk])), (sp, .inr (13, [.ref x0, .int x1, .int x2, .int x3, .int x4, .int x5, .int x6, .long x7, .long x8, .long x9, .int x10, .int x11, .int x12, .int x13, .int x14, .int x15, .int x16, .int x17, .int x18, .int x19, .int x20, .int x21, .int x22, .int x23, .int x24, .int x25, .int x26, .int x27, .int x28, .int x29, .int x30, .int x31, .int x32, .int x33, .int x34, .int x35, .int x36, .int x37, .int x38, .int x39, .int x40, .int x41, .int x42, .ref x43, .ref x44, .ref x45, .ref x46, .ref x47, .ref x48, .ref x49, .ref x50, .ref x51, .ref x52, .ref x53]))]) hD hS hA [0, 1] rfl
  refine va_calli (mu_runV (As := [.int 0, .int 0]) (rest := []) ⟨hx, hb, hml, hown, hts⟩ tbin (e_store0c l dC dI sb q0 oc so rv sp rz bl ww hs fi pm mx my mm mq mz wy fn wg qs si cs cn fa pu de ve mk nw x0 x43 x44 x45 x46 x47 x48 x49 x50 x51 x52 x53 x1 x2 x3 x4 x5 x6 x10 x11 x12 x13 x14 x15 x16 x17 x18 x19 x20 x21 x22 x23 x24 x25 x26 x27 x28 x29 x30 x31 x32 x33 x34 x35 x36 x37 x38 x39 x40 x41 x42 x7 x8 x9 H2.size) q8_87 q8_89 qp_37 q1_9 q8_90 (n := 2) (by decide +kernel) rfl ⟨rfl, rfl⟩ ⟨Nat.le_of_ble_eq_true rfl, Nat.le_of_ble_eq_true rfl⟩ ⟨Nat.le_of_ble_eq_true rfl, Nat.le_of_ble_eq_true rfl⟩ hN (hT0.keep hS hAs) hAs (Nat.le_trans hB0 hS.1) hK hP hD [0, 1] (by decide) rfl [] rfl 0 12 rfl rfl rfl hl.1 rfl (Nat.le_of_ble_eq_true rfl) d_Model_certificate_8) hS (fun q _ h => hFc q h) hFc (fun r8 u8 tS H8 locs ht hvm hw8 hB hz1 hk1 hS => ?_)
  skip
  obtain ⟨hP1, hK1, hD1⟩ := hB
  rw [ht] at hP1
  obtain ⟨hP, hD⟩ := va_join (wr := []) (w1 := [(q0, .inr (12, [.int 2, .int 0, .int 0, .int 0, .int 0, .ref oc, .ref so, .ref rv, .ref sp, .int qs, .ref rz, .ref bl, .ref ww, .ref hs, .ref fi, .ref pm, .ref mx, .ref my, .ref mm, .ref mq, .ref mz, .ref wy, .ref fn, .int si, .int cs, .int cn, .int fa, .int pu, .int de, .int ve, .long nw, .int mk])), (sp, .inr (13, [.ref x0, .int 0, .int 0, .int 0, .int x4, .int x5, .int x6, .long x7, .long x8, .long x9, .int x10, .int x11, .int x12, .int x13, .int x14, .int x15, .int x16, .int x17, .int x18, .int x19, .int x20, .int x21, .int x22, .int x23, .int x24, .int (-1), .int (-1), .int 0, .int 0, .int 0, .int 0, .int (-1), .int x32, .int (-1), .int x34, .int 0, .int 0, .int x37, .int x38, .int x39, .int 0, .int 0, .int x42, .ref x43, .ref x44, .ref x45, .ref x46, .ref x47, .ref x48, .ref x49, .ref x50, .ref x51, .ref x52, .ref x53]))]) hP hD [0, 1] [] rfl rfl (by decide) (by decide) hk1 hFc hP1 hD1
  have hP : va_P (dC, dI) classes [(q0, .inr (12, [.int 2, .int 0, .int 0, .int 0, .int 0, .ref oc, .ref so, .ref rv, .ref sp, .int qs, .ref rz, .ref bl, .ref ww, .ref hs, .ref fi, .ref pm, .ref mx, .ref my, .ref mm, .ref mq, .ref mz, .ref wy, .ref fn, .int si, .int cs, .int cn, .int fa, .int pu, .int de, .int ve, .long nw, .int mk])), (sp, .inr (13, [.ref x0, .int 0, .int 0, .int 0, .int x4, .int x5, .int x6, .long x7, .long x8, .long x9, .int x10, .int x11, .int x12, .int x13, .int x14, .int x15, .int x16, .int x17, .int x18, .int x19, .int x20, .int x21, .int x22, .int x23, .int x24, .int (-1), .int (-1), .int 0, .int 0, .int 0, .int 0, .int (-1), .int x32, .int (-1), .int x34, .int 0, .int 0, .int x37, .int x38, .int x39, .int 0, .int 0, .int x42, .ref x43, .ref x44, .ref x45, .ref x46, .ref x47, .ref x48, .ref x49, .ref x50, .ref x51, .ref x52, .ref x53]))] H8 := hP
  have hD : va_D A [(q0, .inr (12, [.int 2, .int 0, .int 0, .int 0, .int 0, .ref oc, .ref so, .ref rv, .ref sp, .int qs, .ref rz, .ref bl, .ref ww, .ref hs, .ref fi, .ref pm, .ref mx, .ref my, .ref mm, .ref mq, .ref mz, .ref wy, .ref fn, .int si, .int cs, .int cn, .int fa, .int pu, .int de, .int ve, .long nw, .int mk])), (sp, .inr (13, [.ref x0, .int 0, .int 0, .int 0, .int x4, .int x5, .int x6, .long x7, .long x8, .long x9, .int x10, .int x11, .int x12, .int x13, .int x14, .int x15, .int x16, .int x17, .int x18, .int x19, .int x20, .int x21, .int x22, .int x23, .int x24, .int (-1), .int (-1), .int 0, .int 0, .int 0, .int 0, .int (-1), .int x32, .int (-1), .int x34, .int 0, .int 0, .int x37, .int x38, .int x39, .int 0, .int 0, .int x42, .ref x43, .ref x44, .ref x45, .ref x46, .ref x47, .ref x48, .ref x49, .ref x50, .ref x51, .ref x52, .ref x53]))] := hD
  subst hw8
  refine lv_istore_n (lv' := [(3, .int (-1)), (0, .ref q0), (1, .int 0), (2, .int tr)]) hx hb d_Model_certificate_11 rfl hl (by decide) rfl (fun ls hl => ?_)
  refine lv_iload_n hx hb d_Model_certificate_12 rfl (lv_at hl 0 rfl) ?_
  refine lv_if_ge (tgt := 18) hx hb d_Model_certificate_13 (by decide) (fun c13 => ?_) (fun c13 => ?_)
  · exact absurd c13 (by decide)
  refine lv_iconst (v := 0) hx hb d_Model_certificate_16 (by decide) ?_
  exact W.iret (v := 0) hx hb hr (fun t ht hW => ⟨⟨_, (), rfl, rfl, by rw [ht]; exact hP, va_K.moved hW.alike hK, hD⟩, hS.F ht⟩) hS.2.2 d_Model_certificate_17
set_option maxHeartbeats 4000000 in
set_option maxRecDepth 100000 in
theorem e_certificateN (l : Launch) (dC : Nat → ClassId) (dI : Nat → Nat → Nat) (sb : sB) (q0 oc so rv sp rz bl ww hs fi pm mx my mm mq mz wy fn : Nat) (wg qs si cs cn fa pu de ve mk : Int32) (nw : Int64) (n : Int32) (er : Int32) (tr : Int32) (sz : Nat) (hn : ¬ n = 0) : Met l y_Model_certificate w_Model_certificate ({ frames := 2, cells := 0, slots := 0, locals := 47 }) (mu_P [.ref q0, .int n, .int tr] (dC, dI) sb [(q0, .inr (12, [.int er, .int 0, .int wg, .int 0, .int 0, .ref oc, .ref so, .ref rv, .ref sp, .int qs, .ref rz, .ref bl, .ref ww, .ref hs, .ref fi, .ref pm, .ref mx, .ref my, .ref mm, .ref mq, .ref mz, .ref wy, .ref fn, .int si, .int cs, .int cn, .int fa, .int pu, .int de, .int ve, .long nw, .int mk]))] [] sz) (va_Qi (fun r (_u : Unit) => r = 0) (mu_B (dC, dI) [] (va_A [(q0, .inr (12, [.int er, .int 0, .int wg, .int 0, .int 0, .ref oc, .ref so, .ref rv, .ref sp, .int qs, .ref rz, .ref bl, .ref ww, .ref hs, .ref fi, .ref pm, .ref mx, .ref my, .ref mm, .ref mq, .ref mz, .ref wy, .ref fn, .int si, .int cs, .int cn, .int fa, .int pu, .int de, .int ve, .long nw, .int mk]))] sz) (fun _ : Unit => [(q0, .inr (12, [.int 1, .int 0, .int wg, .int 0, .int 0, .ref oc, .ref so, .ref rv, .ref sp, .int qs, .ref rz, .ref bl, .ref ww, .ref hs, .ref fi, .ref pm, .ref mx, .ref my, .ref mm, .ref mq, .ref mz, .ref wy, .ref fn, .int si, .int cs, .int cn, .int fa, .int pu, .int de, .int ve, .long nw, .int mk]))])) (va_A [(q0, .inr (12, [.int er, .int 0, .int wg, .int 0, .int 0, .ref oc, .ref so, .ref rv, .ref sp, .int qs, .ref rz, .ref bl, .ref ww, .ref hs, .ref fi, .ref pm, .ref mx, .ref my, .ref mm, .ref mq, .ref mz, .ref wy, .ref fn, .int si, .int cs, .int cn, .int fa, .int pu, .int de, .int ve, .long nw, .int mk]))] sz)) 0 0 (va_A [(q0, .inr (12, [.int er, .int 0, .int wg, .int 0, .int 0, .ref oc, .ref so, .ref rv, .ref sp, .int qs, .ref rz, .ref bl, .ref ww, .ref hs, .ref fi, .ref pm, .ref mx, .ref my, .ref mm, .ref mq, .ref mz, .ref wy, .ref fn, .int si, .int cs, .int cn, .int fa, .int pu, .int de, .int ve, .long nw, .int mk]))] sz) := by
  refine Met.ofW (cc := b_Model_certificate) (maxL := 4) (ret := (some FieldType.int)) (by decide) rfl ?_
  intro p e s m args below meth c s₁ B hml hv
  obtain ⟨rfl, hsz, hB0, hP, hK, hD0, hN, hT0⟩ := hv
  have hx := B.exec
  have hb := B.bytes
  have hr := B.returns
  have hts := atoms_spec (ws := w_Model_certificate) B.pre
  have tbin : ∀ w ∈ tb, w ∈ w_Model_certificate := fun w h => List.mem_cons_of_mem _ h
  have htb : ∀ w ∈ tb, w.before _ s = true := fun w h => hts w (tbin w h)
  have hown : s.vm.findClass "TrustChainModel" = some m.cls := findClass_of_methodNamed B.named
  have hlocks := B.notSynchronized
  subst hsz
  have hD := hD0.self (sz := s.heap.size)
  generalize hAe : va_A [(q0, .inr (12, [.int er, .int 0, .int wg, .int 0, .int 0, .ref oc, .ref so, .ref rv, .ref sp, .int qs, .ref rz, .ref bl, .ref ww, .ref hs, .ref fi, .ref pm, .ref mx, .ref my, .ref mm, .ref mq, .ref mz, .ref wy, .ref fn, .int si, .int cs, .int cn, .int fa, .int pu, .int de, .int ve, .long nw, .int mk]))] s.heap.size = A at hD ⊢
  have hA : ∀ q : Nat, s.heap.size ≤ q → A q := fun q h => by rw [← hAe]; exact Or.inr h
  have hAs : ∀ q : Nat, A q → sb.1 ≤ q := fun q h => by
    rw [← hAe] at h
    rcases h with ⟨k, e, h⟩ | h
    · exact hD0.2 k _ h
    · exact Nat.le_trans hB0 h
  have hS : va_S A s.heap s.heap [] := va_S.rf
  have hcs : 0 ≤ (headSpec w_Model_certificate ({ frames := 2, cells := 0, slots := 0, locals := 47 })).room.cells ∧ 0 ≤ (headSpec w_Model_certificate ({ frames := 2, cells := 0, slots := 0, locals := 47 })).room.slots := ⟨Nat.le_refl _, Nat.le_refl _⟩
  have hP : va_P (dC, dI) classes [(q0, .inr (12, [.int er, .int 0, .int wg, .int 0, .int 0, .ref oc, .ref so, .ref rv, .ref sp, .int qs, .ref rz, .ref bl, .ref ww, .ref hs, .ref fi, .ref pm, .ref mx, .ref my, .ref mm, .ref mq, .ref mz, .ref wy, .ref fn, .int si, .int cs, .int cn, .int fa, .int pu, .int de, .int ve, .long nw, .int mk]))] s.heap := hP
  have hl := lv_entry ([.ref q0, .int n, .int tr]) (n := 4) (Nat.le_of_ble_eq_true rfl)
  rw [lg_entry_eq]
  generalize (lg_sl ([.ref q0, .int n, .int tr]) ++ List.replicate (4 - (lg_sl ([.ref q0, .int n, .int tr])).length) Slot.unset).toArray = ls at hl ⊢
  have hl : lv_has ls 4 [(0, .ref q0), (1, .int n), (2, .int tr)] := hl
  refine lv_aload_n hx hb d_Model_certificate_0 rfl (lv_at hl 0 rfl) ?_
  refine lv_iconst (v := 0) hx hb d_Model_certificate_1 (by decide) ?_
  refine va_put (v := .int 0) (ty := .int) hx hb htb i_Model t_Model t_Model_ok n_Model hown hK hP hD hS 0 rfl rfl 0 (by decide) (htb _ q7_214) (fun _ h9 => h9) rfl (by decide +kernel) rfl rfl (Nat.le_of_ble_eq_true rfl) d_Model_certificate_2 (fun H2 locs hP hD hS => ?_)
  have hP : va_P (dC, dI) classes [(q0, .inr (12, [.int 0, .int 0, .int wg, .int 0, .int 0, .ref oc, .ref so, .ref rv, .ref sp, .int qs, .ref rz, .ref bl, .ref ww, .ref hs, .ref fi, .ref pm, .ref mx, .ref my, .ref mm, .ref mq, .ref mz, .ref wy, .ref fn, .int si, .int cs, .int cn, .int fa, .int pu, .int de, .int ve, .long nw, .int mk]))] H2 := hP
  have hD : va_D A [(q0, .inr (12, [.int 0, .int 0, .int wg, .int 0, .int 0, .ref oc, .ref so, .ref rv, .ref sp, .int qs, .ref rz, .ref bl, .ref ww, .ref hs, .ref fi, .ref pm, .ref mx, .ref my, .ref mm, .ref mq, .ref mz, .ref wy, .ref fn, .int si, .int cs, .int cn, .int fa, .int pu, .int de, .int ve, .long nw, .int mk]))] := hD
  refine lv_aload_n hx hb d_Model_certificate_5 rfl (lv_at hl 0 rfl) ?_
  refine lv_iload_n hx hb d_Model_certificate_6 rfl (lv_at hl 1 rfl) ?_
  refine lv_iconst (v := 0) hx hb d_Model_certificate_7 (by decide) ?_
  have hFc := va_free (wc := [(q0, .inr (12, [.int 0, .int 0, .int wg, .int 0, .int 0, .ref oc, .ref so, .ref rv, .ref sp, .int qs, .ref rz, .ref bl, .ref ww, .ref hs, .ref fi, .ref pm, .ref mx, .ref my, .ref mm, .ref mq, .ref mz, .ref wy, .ref fn, .int si, .int cs, .int cn, .int fa, .int pu, .int de, .int ve, .long nw, .int mk]))]) hD hS hA [0] rfl
  refine va_calli (mu_runV (As := [.int n, .int 0]) (rest := []) ⟨hx, hb, hml, hown, hts⟩ tbin (e_storeNc l dC dI sb q0 oc so rv sp rz bl ww hs fi pm mx my mm mq mz wy fn wg qs si cs cn fa pu de ve mk nw n H2.size hn) q8_87 q8_89 qp_37 q1_9 q8_90 (n := 2) (by decide +kernel) rfl ⟨rfl, rfl⟩ ⟨Nat.le_of_ble_eq_true rfl, Nat.le_of_ble_eq_true rfl⟩ ⟨Nat.le_of_ble_eq_true rfl, Nat.le_of_ble_eq_true rfl⟩ hN (hT0.keep hS hAs) hAs (Nat.le_trans hB0 hS.1) hK hP hD [0] (by decide) rfl [] rfl 0 12 rfl rfl rfl hl.1 rfl (Nat.le_of_ble_eq_true rfl) d_Model_certificate_8) hS (fun q _ h => hFc q h) hFc (fun r8 u8 tS H8 locs ht hvm hw8 hB hz1 hk1 hS => ?_)
  skip
  obtain ⟨hP1, hK1, hD1⟩ := hB
  rw [ht] at hP1
  obtain ⟨hP, hD⟩ := va_join (wr := []) (w1 := [(q0, .inr (12, [.int 1, .int 0, .int wg, .int 0, .int 0, .ref oc, .ref so, .ref rv, .ref sp, .int qs, .ref rz, .ref bl, .ref ww, .ref hs, .ref fi, .ref pm, .ref mx, .ref my, .ref mm, .ref mq, .ref mz, .ref wy, .ref fn, .int si, .int cs, .int cn, .int fa, .int pu, .int de, .int ve, .long nw, .int mk]))]) hP hD [0] [] rfl rfl (by decide) (by decide) hk1 hFc hP1 hD1
  have hP : va_P (dC, dI) classes [(q0, .inr (12, [.int 1, .int 0, .int wg, .int 0, .int 0, .ref oc, .ref so, .ref rv, .ref sp, .int qs, .ref rz, .ref bl, .ref ww, .ref hs, .ref fi, .ref pm, .ref mx, .ref my, .ref mm, .ref mq, .ref mz, .ref wy, .ref fn, .int si, .int cs, .int cn, .int fa, .int pu, .int de, .int ve, .long nw, .int mk]))] H8 := hP
  have hD : va_D A [(q0, .inr (12, [.int 1, .int 0, .int wg, .int 0, .int 0, .ref oc, .ref so, .ref rv, .ref sp, .int qs, .ref rz, .ref bl, .ref ww, .ref hs, .ref fi, .ref pm, .ref mx, .ref my, .ref mm, .ref mq, .ref mz, .ref wy, .ref fn, .int si, .int cs, .int cn, .int fa, .int pu, .int de, .int ve, .long nw, .int mk]))] := hD
  subst hw8
  refine lv_istore_n (lv' := [(3, .int (-1)), (0, .ref q0), (1, .int n), (2, .int tr)]) hx hb d_Model_certificate_11 rfl hl (by decide) rfl (fun ls hl => ?_)
  refine lv_iload_n hx hb d_Model_certificate_12 rfl (lv_at hl 0 rfl) ?_
  refine lv_if_ge (tgt := 18) hx hb d_Model_certificate_13 (by decide) (fun c13 => ?_) (fun c13 => ?_)
  · exact absurd c13 (by decide)
  refine lv_iconst (v := 0) hx hb d_Model_certificate_16 (by decide) ?_
  exact W.iret (v := 0) hx hb hr (fun t ht hW => ⟨⟨_, (), rfl, rfl, by rw [ht]; exact hP, va_K.moved hW.alike hK, hD⟩, hS.F ht⟩) hS.2.2 d_Model_certificate_17
def y_Model_list : MethodName := ⟨"TrustChainModel", "list", "(I)I"⟩
abbrev b_Model_list : ByteArray := prog_14_method_17_code
def w_Model_list : List Cond := Cond.code y_Model_list b_Model_list 3 ((some FieldType.int)) :: tb
theorem d_Model_list_0 : decode b_Model_list 0 = .ok (.aload_n 0, 1) := by decide +kernel
theorem d_Model_list_1 : decode b_Model_list 1 = .ok (.iconst 0, 1) := by decide +kernel
theorem d_Model_list_2 : decode b_Model_list 2 = .ok (.putfield 145, 3) := by decide +kernel
theorem d_Model_list_5 : decode b_Model_list 5 = .ok (.aload_n 0, 1) := by decide +kernel
theorem d_Model_list_6 : decode b_Model_list 6 = .ok (.iload_n 1, 1) := by decide +kernel
theorem d_Model_list_7 : decode b_Model_list 7 = .ok (.iconst 1, 1) := by decide +kernel
theorem d_Model_list_8 : decode b_Model_list 8 = .ok (.invokevirtual 197, 3) := by decide +kernel
theorem d_Model_list_11 : decode b_Model_list 11 = .ok (.istore_n 2, 1) := by decide +kernel
theorem d_Model_list_12 : decode b_Model_list 12 = .ok (.iload_n 2, 1) := by decide +kernel
theorem d_Model_list_13 : decode b_Model_list 13 = .ok (.ifCond .ge 7, 3) := by decide +kernel
theorem d_Model_list_16 : decode b_Model_list 16 = .ok (.iconst 0, 1) := by decide +kernel
theorem d_Model_list_17 : decode b_Model_list 17 = .ok (.goto 4, 3) := by decide +kernel
theorem d_Model_list_20 : decode b_Model_list 20 = .ok (.iload_n 2, 1) := by decide +kernel
theorem d_Model_list_21 : decode b_Model_list 21 = .ok (.ireturn, 1) := by decide +kernel
set_option maxHeartbeats 4000000 in
set_option maxRecDepth 100000 in
theorem e_list0 (l : Launch) (dC : Nat → ClassId) (dI : Nat → Nat → Nat) (sb : sB) (q0 oc so rv sp rz bl ww hs fi pm mx my mm mq mz wy fn : Nat) (wg qs si cs cn fa pu de ve mk : Int32) (nw : Int64) (x0 x43 x44 x45 x46 x47 x48 x49 x50 x51 x52 x53 : Nat) (x1 x2 x3 x4 x5 x6 x10 x11 x12 x13 x14 x15 x16 x17 x18 x19 x20 x21 x22 x23 x24 x25 x26 x27 x28 x29 x30 x31 x32 x33 x34 x35 x36 x37 x38 x39 x40 x41 x42 : Int32) (x7 x8 x9 : Int64) (er : Int32) (sz : Nat) : Met l y_Model_list w_Model_list ({ frames := 4, cells := 0, slots := 0, locals := 92 }) (mu_P [.ref q0, .int 0] (dC, dI) sb [(q0, .inr (12, [.int er, .int 0, .int wg, .int 0, .int 0, .ref oc, .ref so, .ref rv, .ref sp, .int qs, .ref rz, .ref bl, .ref ww, .ref hs, .ref fi, .ref pm, .ref mx, .ref my, .ref mm, .ref mq, .ref mz, .ref wy, .ref fn, .int si, .int cs, .int cn, .int fa, .int pu, .int de, .int ve, .long nw, .int mk])), (sp, .inr (13, [.ref x0, .int x1, .int x2, .int x3, .int x4, .int x5, .int x6, .long x7, .long x8, .long x9, .int x10, .int x11, .int x12, .int x13, .int x14, .int x15, .int x16, .int x17, .int x18, .int x19, .int x20, .int x21, .int x22, .int x23, .int x24, .int x25, .int x26, .int x27, .int x28, .int x29, .int x30, .int x31, .int x32, .int x33, .int x34, .int x35, .int x36, .int x37, .int x38, .int x39, .int x40, .int x41, .int x42, .ref x43, .ref x44, .ref x45, .ref x46, .ref x47, .ref x48, .ref x49, .ref x50, .ref x51, .ref x52, .ref x53]))] [] sz) (va_Qi (fun r (_u : Unit) => r = 0) (mu_B (dC, dI) [] (va_A [(q0, .inr (12, [.int er, .int 0, .int wg, .int 0, .int 0, .ref oc, .ref so, .ref rv, .ref sp, .int qs, .ref rz, .ref bl, .ref ww, .ref hs, .ref fi, .ref pm, .ref mx, .ref my, .ref mm, .ref mq, .ref mz, .ref wy, .ref fn, .int si, .int cs, .int cn, .int fa, .int pu, .int de, .int ve, .long nw, .int mk])), (sp, .inr (13, [.ref x0, .int x1, .int x2, .int x3, .int x4, .int x5, .int x6, .long x7, .long x8, .long x9, .int x10, .int x11, .int x12, .int x13, .int x14, .int x15, .int x16, .int x17, .int x18, .int x19, .int x20, .int x21, .int x22, .int x23, .int x24, .int x25, .int x26, .int x27, .int x28, .int x29, .int x30, .int x31, .int x32, .int x33, .int x34, .int x35, .int x36, .int x37, .int x38, .int x39, .int x40, .int x41, .int x42, .ref x43, .ref x44, .ref x45, .ref x46, .ref x47, .ref x48, .ref x49, .ref x50, .ref x51, .ref x52, .ref x53]))] sz) (fun _ : Unit => [(q0, .inr (12, [.int 2, .int 0, .int 0, .int 0, .int 0, .ref oc, .ref so, .ref rv, .ref sp, .int qs, .ref rz, .ref bl, .ref ww, .ref hs, .ref fi, .ref pm, .ref mx, .ref my, .ref mm, .ref mq, .ref mz, .ref wy, .ref fn, .int si, .int cs, .int cn, .int fa, .int pu, .int de, .int ve, .long nw, .int mk])), (sp, .inr (13, [.ref x0, .int 0, .int 0, .int 0, .int x4, .int x5, .int x6, .long x7, .long x8, .long x9, .int x10, .int x11, .int x12, .int x13, .int x14, .int x15, .int x16, .int x17, .int x18, .int x19, .int x20, .int x21, .int x22, .int x23, .int x24, .int (-1), .int (-1), .int 0, .int 0, .int 0, .int 0, .int (-1), .int x32, .int (-1), .int x34, .int 0, .int 0, .int x37, .int x38, .int x39, .int 0, .int 0, .int x42, .ref x43, .ref x44, .ref x45, .ref x46, .ref x47, .ref x48, .ref x49, .ref x50, .ref x51, .ref x52, .ref x53]))])) (va_A [(q0, .inr (12, [.int er, .int 0, .int wg, .int 0, .int 0, .ref oc, .ref so, .ref rv, .ref sp, .int qs, .ref rz, .ref bl, .ref ww, .ref hs, .ref fi, .ref pm, .ref mx, .ref my, .ref mm, .ref mq, .ref mz, .ref wy, .ref fn, .int si, .int cs, .int cn, .int fa, .int pu, .int de, .int ve, .long nw, .int mk])), (sp, .inr (13, [.ref x0, .int x1, .int x2, .int x3, .int x4, .int x5, .int x6, .long x7, .long x8, .long x9, .int x10, .int x11, .int x12, .int x13, .int x14, .int x15, .int x16, .int x17, .int x18, .int x19, .int x20, .int x21, .int x22, .int x23, .int x24, .int x25, .int x26, .int x27, .int x28, .int x29, .int x30, .int x31, .int x32, .int x33, .int x34, .int x35, .int x36, .int x37, .int x38, .int x39, .int x40, .int x41, .int x42, .ref x43, .ref x44, .ref x45, .ref x46, .ref x47, .ref x48, .ref x49, .ref x50, .ref x51, .ref x52, .ref x53]))] sz)) 0 0 (va_A [(q0, .inr (12, [.int er, .int 0, .int wg, .int 0, .int 0, .ref oc, .ref so, .ref rv, .ref sp, .int qs, .ref rz, .ref bl, .ref ww, .ref hs, .ref fi, .ref pm, .ref mx, .ref my, .ref mm, .ref mq, .ref mz, .ref wy, .ref fn, .int si, .int cs, .int cn, .int fa, .int pu, .int de, .int ve, .long nw, .int mk])), (sp, .inr (13, [.ref x0, .int x1, .int x2, .int x3, .int x4, .int x5, .int x6, .long x7, .long x8, .long x9, .int x10, .int x11, .int x12, .int x13, .int x14, .int x15, .int x16, .int x17, .int x18, .int x19, .int x20, .int x21, .int x22, .int x23, .int x24, .int x25, .int x26, .int x27, .int x28, .int x29, .int x30, .int x31, .int x32, .int x33, .int x34, .int x35, .int x36, .int x37, .int x38, .int x39, .int x40, .int x41, .int x42, .ref x43, .ref x44, .ref x45, .ref x46, .ref x47, .ref x48, .ref x49, .ref x50, .ref x51, .ref x52, .ref x53]))] sz) := by
  refine Met.ofW (cc := b_Model_list) (maxL := 3) (ret := (some FieldType.int)) (by decide) rfl ?_
  intro p e s m args below meth c s₁ B hml hv
  obtain ⟨rfl, hsz, hB0, hP, hK, hD0, hN, hT0⟩ := hv
  have hx := B.exec
  have hb := B.bytes
  have hr := B.returns
  have hts := atoms_spec (ws := w_Model_list) B.pre
  have tbin : ∀ w ∈ tb, w ∈ w_Model_list := fun w h => List.mem_cons_of_mem _ h
  have htb : ∀ w ∈ tb, w.before _ s = true := fun w h => hts w (tbin w h)
  have hown : s.vm.findClass "TrustChainModel" = some m.cls := findClass_of_methodNamed B.named
  have hlocks := B.notSynchronized
  subst hsz
  have hD := hD0.self (sz := s.heap.size)
  generalize hAe : va_A [(q0, .inr (12, [.int er, .int 0, .int wg, .int 0, .int 0, .ref oc, .ref so, .ref rv, .ref sp, .int qs, .ref rz, .ref bl, .ref ww, .ref hs, .ref fi, .ref pm, .ref mx, .ref my, .ref mm, .ref mq, .ref mz, .ref wy, .ref fn, .int si, .int cs, .int cn, .int fa, .int pu, .int de, .int ve, .long nw, .int mk])), (sp, .inr (13, [.ref x0, .int x1, .int x2, .int x3, .int x4, .int x5, .int x6, .long x7, .long x8, .long x9, .int x10, .int x11, .int x12, .int x13, .int x14, .int x15, .int x16, .int x17, .int x18, .int x19, .int x20, .int x21, .int x22, .int x23, .int x24, .int x25, .int x26, .int x27, .int x28, .int x29, .int x30, .int x31, .int x32, .int x33, .int x34, .int x35, .int x36, .int x37, .int x38, .int x39, .int x40, .int x41, .int x42, .ref x43, .ref x44, .ref x45, .ref x46, .ref x47, .ref x48, .ref x49, .ref x50, .ref x51, .ref x52, .ref x53]))] s.heap.size = A at hD ⊢
  have hA : ∀ q : Nat, s.heap.size ≤ q → A q := fun q h => by rw [← hAe]; exact Or.inr h
  have hAs : ∀ q : Nat, A q → sb.1 ≤ q := fun q h => by
    rw [← hAe] at h
    rcases h with ⟨k, e, h⟩ | h
    · exact hD0.2 k _ h
    · exact Nat.le_trans hB0 h
  have hS : va_S A s.heap s.heap [] := va_S.rf
  have hcs : 0 ≤ (headSpec w_Model_list ({ frames := 4, cells := 0, slots := 0, locals := 92 })).room.cells ∧ 0 ≤ (headSpec w_Model_list ({ frames := 4, cells := 0, slots := 0, locals := 92 })).room.slots := ⟨Nat.le_refl _, Nat.le_refl _⟩
  have hP : va_P (dC, dI) classes [(q0, .inr (12, [.int er, .int 0, .int wg, .int 0, .int 0, .ref oc, .ref so, .ref rv, .ref sp, .int qs, .ref rz, .ref bl, .ref ww, .ref hs, .ref fi, .ref pm, .ref mx, .ref my, .ref mm, .ref mq, .ref mz, .ref wy, .ref fn, .int si, .int cs, .int cn, .int fa, .int pu, .int de, .int ve, .long nw, .int mk])), (sp, .inr (13, [.ref x0, .int x1, .int x2, .int x3, .int x4, .int x5, .int x6, .long x7, .long x8, .long x9, .int x10, .int x11, .int x12, .int x13, .int x14, .int x15, .int x16, .int x17, .int x18, .int x19, .int x20, .int x21, .int x22, .int x23, .int x24, .int x25, .int x26, .int x27, .int x28, .int x29, .int x30, .int x31, .int x32, .int x33, .int x34, .int x35, .int x36, .int x37, .int x38, .int x39, .int x40, .int x41, .int x42, .ref x43, .ref x44, .ref x45, .ref x46, .ref x47, .ref x48, .ref x49, .ref x50, .ref x51, .ref x52, .ref x53]))] s.heap := hP
  have hl := lv_entry ([.ref q0, .int 0]) (n := 3) (Nat.le_of_ble_eq_true rfl)
  rw [lg_entry_eq]
  generalize (lg_sl ([.ref q0, .int 0]) ++ List.replicate (3 - (lg_sl ([.ref q0, .int 0])).length) Slot.unset).toArray = ls at hl ⊢
  have hl : lv_has ls 3 [(0, .ref q0), (1, .int 0)] := hl
  refine lv_aload_n hx hb d_Model_list_0 rfl (lv_at hl 0 rfl) ?_
  refine lv_iconst (v := 0) hx hb d_Model_list_1 (by decide) ?_
  refine va_put (v := .int 0) (ty := .int) hx hb htb i_Model t_Model t_Model_ok n_Model hown hK hP hD hS 0 rfl rfl 0 (by decide) (htb _ q7_214) (fun _ h9 => h9) rfl (by decide +kernel) rfl rfl (Nat.le_of_ble_eq_true rfl) d_Model_list_2 (fun H2 locs hP hD hS => ?_)
  have hP : va_P (dC, dI) classes [(q0, .inr (12, [.int 0, .int 0, .int wg, .int 0, .int 0, .ref oc, .ref so, .ref rv, .ref sp, .int qs, .ref rz, .ref bl, .ref ww, .ref hs, .ref fi, .ref pm, .ref mx, .ref my, .ref mm, .ref mq, .ref mz, .ref wy, .ref fn, .int si, .int cs, .int cn, .int fa, .int pu, .int de, .int ve, .long nw, .int mk])), (sp, .inr (13, [.ref x0, .int x1, .int x2, .int x3, .int x4, .int x5, .int x6, .long x7, .long x8, .long x9, .int x10, .int x11, .int x12, .int x13, .int x14, .int x15, .int x16, .int x17, .int x18, .int x19, .int x20, .int x21, .int x22, .int x23, .int x24, .int x25, .int x26, .int x27, .int x28, .int x29, .int x30, .int x31, .int x32, .int x33, .int x34, .int x35, .int x36, .int x37, .int x38, .int x39, .int x40, .int x41, .int x42, .ref x43, .ref x44, .ref x45, .ref x46, .ref x47, .ref x48, .ref x49, .ref x50, .ref x51, .ref x52, .ref x53]))] H2 := hP
  have hD : va_D A [(q0, .inr (12, [.int 0, .int 0, .int wg, .int 0, .int 0, .ref oc, .ref so, .ref rv, .ref sp, .int qs, .ref rz, .ref bl, .ref ww, .ref hs, .ref fi, .ref pm, .ref mx, .ref my, .ref mm, .ref mq, .ref mz, .ref wy, .ref fn, .int si, .int cs, .int cn, .int fa, .int pu, .int de, .int ve, .long nw, .int mk])), (sp, .inr (13, [.ref x0, .int x1, .int x2, .int x3, .int x4, .int x5, .int x6, .long x7, .long x8, .long x9, .int x10, .int x11, .int x12, .int x13, .int x14, .int x15, .int x16, .int x17, .int x18, .int x19, .int x20, .int x21, .int x22, .int x23, .int x24, .int x25, .int x26, .int x27, .int x28, .int x29, .int x30, .int x31, .int x32, .int x33, .int x34, .int x35, .int x36, .int x37, .int x38, .int x39, .int x40, .int x41, .int x42, .ref x43, .ref x44, .ref x45, .ref x46, .ref x47, .ref x48, .ref x49, .ref x50, .ref x51, .ref x52, .ref x53]))] := hD
  refine lv_aload_n hx hb d_Model_list_5 rfl (lv_at hl 0 rfl) ?_
  refine lv_iload_n hx hb d_Model_list_6 rfl (lv_at hl 1 rfl) ?_
  refine lv_iconst (v := 1) hx hb d_Model_list_7 (by decide) ?_
  have hFc := va_free (wc := [(q0, .inr (12, [.int 0, .int 0, .int wg, .int 0, .int 0, .ref oc, .ref so, .ref rv, .ref sp, .int qs, .ref rz, .ref bl, .ref ww, .ref hs, .ref fi, .ref pm, .ref mx, .ref my, .ref mm, .ref mq, .ref mz, .ref wy, .ref fn, .int si, .int cs, .int cn, .int fa, .int pu, .int de, .int ve, .long nw, .int mk])), (sp, .inr (13, [.ref x0, .int x1, .int x2, .int x3, .int x4, .int x5, .int x6, .long x7, .long x8, .long x9, .int x10, .int x11, .int x12, .int x13, .int x14, .int x15, .int x16, .int x17, .int x18, .int x19, .int x20, .int x21, .int x22, .int x23, .int x24, .int x25, .int x26, .int x27, .int x28, .int x29, .int x30, .int x31, .int x32, .int x33, .int x34, .int x35, .int x36, .int x37, .int x38, .int x39, .int x40, .int x41, .int x42, .ref x43, .ref x44, .ref x45, .ref x46, .ref x47, .ref x48, .ref x49, .ref x50, .ref x51, .ref x52, .ref x53]))]) hD hS hA [0, 1] rfl
  refine va_calli (mu_runV (As := [.int 0, .int 1]) (rest := []) ⟨hx, hb, hml, hown, hts⟩ tbin (e_store0l l dC dI sb q0 oc so rv sp rz bl ww hs fi pm mx my mm mq mz wy fn wg qs si cs cn fa pu de ve mk nw x0 x43 x44 x45 x46 x47 x48 x49 x50 x51 x52 x53 x1 x2 x3 x4 x5 x6 x10 x11 x12 x13 x14 x15 x16 x17 x18 x19 x20 x21 x22 x23 x24 x25 x26 x27 x28 x29 x30 x31 x32 x33 x34 x35 x36 x37 x38 x39 x40 x41 x42 x7 x8 x9 H2.size) q8_87 q8_89 qp_37 q1_9 q8_90 (n := 2) (by decide +kernel) rfl ⟨rfl, rfl⟩ ⟨Nat.le_of_ble_eq_true rfl, Nat.le_of_ble_eq_true rfl⟩ ⟨Nat.le_of_ble_eq_true rfl, Nat.le_of_ble_eq_true rfl⟩ hN (hT0.keep hS hAs) hAs (Nat.le_trans hB0 hS.1) hK hP hD [0, 1] (by decide) rfl [] rfl 0 12 rfl rfl rfl hl.1 rfl (Nat.le_of_ble_eq_true rfl) d_Model_list_8) hS (fun q _ h => hFc q h) hFc (fun r8 u8 tS H8 locs ht hvm hw8 hB hz1 hk1 hS => ?_)
  skip
  obtain ⟨hP1, hK1, hD1⟩ := hB
  rw [ht] at hP1
  obtain ⟨hP, hD⟩ := va_join (wr := []) (w1 := [(q0, .inr (12, [.int 2, .int 0, .int 0, .int 0, .int 0, .ref oc, .ref so, .ref rv, .ref sp, .int qs, .ref rz, .ref bl, .ref ww, .ref hs, .ref fi, .ref pm, .ref mx, .ref my, .ref mm, .ref mq, .ref mz, .ref wy, .ref fn, .int si, .int cs, .int cn, .int fa, .int pu, .int de, .int ve, .long nw, .int mk])), (sp, .inr (13, [.ref x0, .int 0, .int 0, .int 0, .int x4, .int x5, .int x6, .long x7, .long x8, .long x9, .int x10, .int x11, .int x12, .int x13, .int x14, .int x15, .int x16, .int x17, .int x18, .int x19, .int x20, .int x21, .int x22, .int x23, .int x24, .int (-1), .int (-1), .int 0, .int 0, .int 0, .int 0, .int (-1), .int x32, .int (-1), .int x34, .int 0, .int 0, .int x37, .int x38, .int x39, .int 0, .int 0, .int x42, .ref x43, .ref x44, .ref x45, .ref x46, .ref x47, .ref x48, .ref x49, .ref x50, .ref x51, .ref x52, .ref x53]))]) hP hD [0, 1] [] rfl rfl (by decide) (by decide) hk1 hFc hP1 hD1
  have hP : va_P (dC, dI) classes [(q0, .inr (12, [.int 2, .int 0, .int 0, .int 0, .int 0, .ref oc, .ref so, .ref rv, .ref sp, .int qs, .ref rz, .ref bl, .ref ww, .ref hs, .ref fi, .ref pm, .ref mx, .ref my, .ref mm, .ref mq, .ref mz, .ref wy, .ref fn, .int si, .int cs, .int cn, .int fa, .int pu, .int de, .int ve, .long nw, .int mk])), (sp, .inr (13, [.ref x0, .int 0, .int 0, .int 0, .int x4, .int x5, .int x6, .long x7, .long x8, .long x9, .int x10, .int x11, .int x12, .int x13, .int x14, .int x15, .int x16, .int x17, .int x18, .int x19, .int x20, .int x21, .int x22, .int x23, .int x24, .int (-1), .int (-1), .int 0, .int 0, .int 0, .int 0, .int (-1), .int x32, .int (-1), .int x34, .int 0, .int 0, .int x37, .int x38, .int x39, .int 0, .int 0, .int x42, .ref x43, .ref x44, .ref x45, .ref x46, .ref x47, .ref x48, .ref x49, .ref x50, .ref x51, .ref x52, .ref x53]))] H8 := hP
  have hD : va_D A [(q0, .inr (12, [.int 2, .int 0, .int 0, .int 0, .int 0, .ref oc, .ref so, .ref rv, .ref sp, .int qs, .ref rz, .ref bl, .ref ww, .ref hs, .ref fi, .ref pm, .ref mx, .ref my, .ref mm, .ref mq, .ref mz, .ref wy, .ref fn, .int si, .int cs, .int cn, .int fa, .int pu, .int de, .int ve, .long nw, .int mk])), (sp, .inr (13, [.ref x0, .int 0, .int 0, .int 0, .int x4, .int x5, .int x6, .long x7, .long x8, .long x9, .int x10, .int x11, .int x12, .int x13, .int x14, .int x15, .int x16, .int x17, .int x18, .int x19, .int x20, .int x21, .int x22, .int x23, .int x24, .int (-1), .int (-1), .int 0, .int 0, .int 0, .int 0, .int (-1), .int x32, .int (-1), .int x34, .int 0, .int 0, .int x37, .int x38, .int x39, .int 0, .int 0, .int x42, .ref x43, .ref x44, .ref x45, .ref x46, .ref x47, .ref x48, .ref x49, .ref x50, .ref x51, .ref x52, .ref x53]))] := hD
  subst hw8
  refine lv_istore_n (lv' := [(2, .int (-1)), (0, .ref q0), (1, .int 0)]) hx hb d_Model_list_11 rfl hl (by decide) rfl (fun ls hl => ?_)
  refine lv_iload_n hx hb d_Model_list_12 rfl (lv_at hl 0 rfl) ?_
  refine lv_if_ge (tgt := 20) hx hb d_Model_list_13 (by decide) (fun c13 => ?_) (fun c13 => ?_)
  · exact absurd c13 (by decide)
  refine lv_iconst (v := 0) hx hb d_Model_list_16 (by decide) ?_
  refine lv_goto (tgt := 21) hx hb d_Model_list_17 (by decide) ?_
  exact W.iret (v := 0) hx hb hr (fun t ht hW => ⟨⟨_, (), rfl, rfl, by rw [ht]; exact hP, va_K.moved hW.alike hK, hD⟩, hS.F ht⟩) hS.2.2 d_Model_list_21
set_option maxHeartbeats 4000000 in
set_option maxRecDepth 100000 in
theorem e_listN (l : Launch) (dC : Nat → ClassId) (dI : Nat → Nat → Nat) (sb : sB) (q0 oc so rv sp rz bl ww hs fi pm mx my mm mq mz wy fn : Nat) (wg qs si cs cn fa pu de ve mk : Int32) (nw : Int64) (n : Int32) (er : Int32) (sz : Nat) (hn : ¬ n = 0) : Met l y_Model_list w_Model_list ({ frames := 2, cells := 0, slots := 0, locals := 47 }) (mu_P [.ref q0, .int n] (dC, dI) sb [(q0, .inr (12, [.int er, .int 0, .int wg, .int 0, .int 0, .ref oc, .ref so, .ref rv, .ref sp, .int qs, .ref rz, .ref bl, .ref ww, .ref hs, .ref fi, .ref pm, .ref mx, .ref my, .ref mm, .ref mq, .ref mz, .ref wy, .ref fn, .int si, .int cs, .int cn, .int fa, .int pu, .int de, .int ve, .long nw, .int mk]))] [] sz) (va_Qi (fun r (_u : Unit) => r = 0) (mu_B (dC, dI) [] (va_A [(q0, .inr (12, [.int er, .int 0, .int wg, .int 0, .int 0, .ref oc, .ref so, .ref rv, .ref sp, .int qs, .ref rz, .ref bl, .ref ww, .ref hs, .ref fi, .ref pm, .ref mx, .ref my, .ref mm, .ref mq, .ref mz, .ref wy, .ref fn, .int si, .int cs, .int cn, .int fa, .int pu, .int de, .int ve, .long nw, .int mk]))] sz) (fun _ : Unit => [(q0, .inr (12, [.int 1, .int 0, .int wg, .int 0, .int 0, .ref oc, .ref so, .ref rv, .ref sp, .int qs, .ref rz, .ref bl, .ref ww, .ref hs, .ref fi, .ref pm, .ref mx, .ref my, .ref mm, .ref mq, .ref mz, .ref wy, .ref fn, .int si, .int cs, .int cn, .int fa, .int pu, .int de, .int ve, .long nw, .int mk]))])) (va_A [(q0, .inr (12, [.int er, .int 0, .int wg, .int 0, .int 0, .ref oc, .ref so, .ref rv, .ref sp, .int qs, .ref rz, .ref bl, .ref ww, .ref hs, .ref fi, .ref pm, .ref mx, .ref my, .ref mm, .ref mq, .ref mz, .ref wy, .ref fn, .int si, .int cs, .int cn, .int fa, .int pu, .int de, .int ve, .long nw, .int mk]))] sz)) 0 0 (va_A [(q0, .inr (12, [.int er, .int 0, .int wg, .int 0, .int 0, .ref oc, .ref so, .ref rv, .ref sp, .int qs, .ref rz, .ref bl, .ref ww, .ref hs, .ref fi, .ref pm, .ref mx, .ref my, .ref mm, .ref mq, .ref mz, .ref wy, .ref fn, .int si, .int cs, .int cn, .int fa, .int pu, .int de, .int ve, .long nw, .int mk]))] sz) := by
  refine Met.ofW (cc := b_Model_list) (maxL := 3) (ret := (some FieldType.int)) (by decide) rfl ?_
  intro p e s m args below meth c s₁ B hml hv
  obtain ⟨rfl, hsz, hB0, hP, hK, hD0, hN, hT0⟩ := hv
  have hx := B.exec
  have hb := B.bytes
  have hr := B.returns
  have hts := atoms_spec (ws := w_Model_list) B.pre
  have tbin : ∀ w ∈ tb, w ∈ w_Model_list := fun w h => List.mem_cons_of_mem _ h
  have htb : ∀ w ∈ tb, w.before _ s = true := fun w h => hts w (tbin w h)
  have hown : s.vm.findClass "TrustChainModel" = some m.cls := findClass_of_methodNamed B.named
  have hlocks := B.notSynchronized
  subst hsz
  have hD := hD0.self (sz := s.heap.size)
  generalize hAe : va_A [(q0, .inr (12, [.int er, .int 0, .int wg, .int 0, .int 0, .ref oc, .ref so, .ref rv, .ref sp, .int qs, .ref rz, .ref bl, .ref ww, .ref hs, .ref fi, .ref pm, .ref mx, .ref my, .ref mm, .ref mq, .ref mz, .ref wy, .ref fn, .int si, .int cs, .int cn, .int fa, .int pu, .int de, .int ve, .long nw, .int mk]))] s.heap.size = A at hD ⊢
  have hA : ∀ q : Nat, s.heap.size ≤ q → A q := fun q h => by rw [← hAe]; exact Or.inr h
  have hAs : ∀ q : Nat, A q → sb.1 ≤ q := fun q h => by
    rw [← hAe] at h
    rcases h with ⟨k, e, h⟩ | h
    · exact hD0.2 k _ h
    · exact Nat.le_trans hB0 h
  have hS : va_S A s.heap s.heap [] := va_S.rf
  have hcs : 0 ≤ (headSpec w_Model_list ({ frames := 2, cells := 0, slots := 0, locals := 47 })).room.cells ∧ 0 ≤ (headSpec w_Model_list ({ frames := 2, cells := 0, slots := 0, locals := 47 })).room.slots := ⟨Nat.le_refl _, Nat.le_refl _⟩
  have hP : va_P (dC, dI) classes [(q0, .inr (12, [.int er, .int 0, .int wg, .int 0, .int 0, .ref oc, .ref so, .ref rv, .ref sp, .int qs, .ref rz, .ref bl, .ref ww, .ref hs, .ref fi, .ref pm, .ref mx, .ref my, .ref mm, .ref mq, .ref mz, .ref wy, .ref fn, .int si, .int cs, .int cn, .int fa, .int pu, .int de, .int ve, .long nw, .int mk]))] s.heap := hP
  have hl := lv_entry ([.ref q0, .int n]) (n := 3) (Nat.le_of_ble_eq_true rfl)
  rw [lg_entry_eq]
  generalize (lg_sl ([.ref q0, .int n]) ++ List.replicate (3 - (lg_sl ([.ref q0, .int n])).length) Slot.unset).toArray = ls at hl ⊢
  have hl : lv_has ls 3 [(0, .ref q0), (1, .int n)] := hl
  refine lv_aload_n hx hb d_Model_list_0 rfl (lv_at hl 0 rfl) ?_
  refine lv_iconst (v := 0) hx hb d_Model_list_1 (by decide) ?_
  refine va_put (v := .int 0) (ty := .int) hx hb htb i_Model t_Model t_Model_ok n_Model hown hK hP hD hS 0 rfl rfl 0 (by decide) (htb _ q7_214) (fun _ h9 => h9) rfl (by decide +kernel) rfl rfl (Nat.le_of_ble_eq_true rfl) d_Model_list_2 (fun H2 locs hP hD hS => ?_)
  have hP : va_P (dC, dI) classes [(q0, .inr (12, [.int 0, .int 0, .int wg, .int 0, .int 0, .ref oc, .ref so, .ref rv, .ref sp, .int qs, .ref rz, .ref bl, .ref ww, .ref hs, .ref fi, .ref pm, .ref mx, .ref my, .ref mm, .ref mq, .ref mz, .ref wy, .ref fn, .int si, .int cs, .int cn, .int fa, .int pu, .int de, .int ve, .long nw, .int mk]))] H2 := hP
  have hD : va_D A [(q0, .inr (12, [.int 0, .int 0, .int wg, .int 0, .int 0, .ref oc, .ref so, .ref rv, .ref sp, .int qs, .ref rz, .ref bl, .ref ww, .ref hs, .ref fi, .ref pm, .ref mx, .ref my, .ref mm, .ref mq, .ref mz, .ref wy, .ref fn, .int si, .int cs, .int cn, .int fa, .int pu, .int de, .int ve, .long nw, .int mk]))] := hD
  refine lv_aload_n hx hb d_Model_list_5 rfl (lv_at hl 0 rfl) ?_
  refine lv_iload_n hx hb d_Model_list_6 rfl (lv_at hl 1 rfl) ?_
  refine lv_iconst (v := 1) hx hb d_Model_list_7 (by decide) ?_
  have hFc := va_free (wc := [(q0, .inr (12, [.int 0, .int 0, .int wg, .int 0, .int 0, .ref oc, .ref so, .ref rv, .ref sp, .int qs, .ref rz, .ref bl, .ref ww, .ref hs, .ref fi, .ref pm, .ref mx, .ref my, .ref mm, .ref mq, .ref mz, .ref wy, .ref fn, .int si, .int cs, .int cn, .int fa, .int pu, .int de, .int ve, .long nw, .int mk]))]) hD hS hA [0] rfl
  refine va_calli (mu_runV (As := [.int n, .int 1]) (rest := []) ⟨hx, hb, hml, hown, hts⟩ tbin (e_storeNl l dC dI sb q0 oc so rv sp rz bl ww hs fi pm mx my mm mq mz wy fn wg qs si cs cn fa pu de ve mk nw n H2.size hn) q8_87 q8_89 qp_37 q1_9 q8_90 (n := 2) (by decide +kernel) rfl ⟨rfl, rfl⟩ ⟨Nat.le_of_ble_eq_true rfl, Nat.le_of_ble_eq_true rfl⟩ ⟨Nat.le_of_ble_eq_true rfl, Nat.le_of_ble_eq_true rfl⟩ hN (hT0.keep hS hAs) hAs (Nat.le_trans hB0 hS.1) hK hP hD [0] (by decide) rfl [] rfl 0 12 rfl rfl rfl hl.1 rfl (Nat.le_of_ble_eq_true rfl) d_Model_list_8) hS (fun q _ h => hFc q h) hFc (fun r8 u8 tS H8 locs ht hvm hw8 hB hz1 hk1 hS => ?_)
  skip
  obtain ⟨hP1, hK1, hD1⟩ := hB
  rw [ht] at hP1
  obtain ⟨hP, hD⟩ := va_join (wr := []) (w1 := [(q0, .inr (12, [.int 1, .int 0, .int wg, .int 0, .int 0, .ref oc, .ref so, .ref rv, .ref sp, .int qs, .ref rz, .ref bl, .ref ww, .ref hs, .ref fi, .ref pm, .ref mx, .ref my, .ref mm, .ref mq, .ref mz, .ref wy, .ref fn, .int si, .int cs, .int cn, .int fa, .int pu, .int de, .int ve, .long nw, .int mk]))]) hP hD [0] [] rfl rfl (by decide) (by decide) hk1 hFc hP1 hD1
  have hP : va_P (dC, dI) classes [(q0, .inr (12, [.int 1, .int 0, .int wg, .int 0, .int 0, .ref oc, .ref so, .ref rv, .ref sp, .int qs, .ref rz, .ref bl, .ref ww, .ref hs, .ref fi, .ref pm, .ref mx, .ref my, .ref mm, .ref mq, .ref mz, .ref wy, .ref fn, .int si, .int cs, .int cn, .int fa, .int pu, .int de, .int ve, .long nw, .int mk]))] H8 := hP
  have hD : va_D A [(q0, .inr (12, [.int 1, .int 0, .int wg, .int 0, .int 0, .ref oc, .ref so, .ref rv, .ref sp, .int qs, .ref rz, .ref bl, .ref ww, .ref hs, .ref fi, .ref pm, .ref mx, .ref my, .ref mm, .ref mq, .ref mz, .ref wy, .ref fn, .int si, .int cs, .int cn, .int fa, .int pu, .int de, .int ve, .long nw, .int mk]))] := hD
  subst hw8
  refine lv_istore_n (lv' := [(2, .int (-1)), (0, .ref q0), (1, .int n)]) hx hb d_Model_list_11 rfl hl (by decide) rfl (fun ls hl => ?_)
  refine lv_iload_n hx hb d_Model_list_12 rfl (lv_at hl 0 rfl) ?_
  refine lv_if_ge (tgt := 20) hx hb d_Model_list_13 (by decide) (fun c13 => ?_) (fun c13 => ?_)
  · exact absurd c13 (by decide)
  refine lv_iconst (v := 0) hx hb d_Model_list_16 (by decide) ?_
  refine lv_goto (tgt := 21) hx hb d_Model_list_17 (by decide) ?_
  exact W.iret (v := 0) hx hb hr (fun t ht hW => ⟨⟨_, (), rfl, rfl, by rw [ht]; exact hP, va_K.moved hW.alike hK, hD⟩, hS.F ht⟩) hS.2.2 d_Model_list_21
def y_Model_feed : MethodName := ⟨"TrustChainModel", "feed", "(IIIII)I"⟩
abbrev b_Model_feed : ByteArray := prog_14_method_14_code
def w_Model_feed : List Cond := Cond.code y_Model_feed b_Model_feed 8 ((some FieldType.int)) :: tb
theorem d_Model_feed_0 : decode b_Model_feed 0 = .ok (.aload_n 0, 1) := by decide +kernel
theorem d_Model_feed_1 : decode b_Model_feed 1 = .ok (.iconst 0, 1) := by decide +kernel
theorem d_Model_feed_2 : decode b_Model_feed 2 = .ok (.putfield 145, 3) := by decide +kernel
theorem d_Model_feed_5 : decode b_Model_feed 5 = .ok (.aload_n 0, 1) := by decide +kernel
theorem d_Model_feed_6 : decode b_Model_feed 6 = .ok (.aload_n 0, 1) := by decide +kernel
theorem d_Model_feed_7 : decode b_Model_feed 7 = .ok (.getfield 173, 3) := by decide +kernel
theorem d_Model_feed_10 : decode b_Model_feed 10 = .ok (.bipush 20, 2) := by decide +kernel
theorem d_Model_feed_12 : decode b_Model_feed 12 = .ok (.iadd, 1) := by decide +kernel
theorem d_Model_feed_13 : decode b_Model_feed 13 = .ok (.sipush 2060, 3) := by decide +kernel
theorem d_Model_feed_16 : decode b_Model_feed 16 = .ok (.if_icmp .le 7, 3) := by decide +kernel
theorem d_Model_feed_19 : decode b_Model_feed 19 = .ok (.iconst 1, 1) := by decide +kernel
theorem d_Model_feed_20 : decode b_Model_feed 20 = .ok (.goto 4, 3) := by decide +kernel
theorem d_Model_feed_23 : decode b_Model_feed 23 = .ok (.iconst 0, 1) := by decide +kernel
theorem d_Model_feed_24 : decode b_Model_feed 24 = .ok (.iconst 1, 1) := by decide +kernel
theorem d_Model_feed_25 : decode b_Model_feed 25 = .ok (.invokevirtual 176, 3) := by decide +kernel
theorem d_Model_feed_28 : decode b_Model_feed 28 = .ok (.ifCond .eq 5, 3) := by decide +kernel
theorem d_Model_feed_31 : decode b_Model_feed 31 = .ok (.iconst 0, 1) := by decide +kernel
theorem d_Model_feed_32 : decode b_Model_feed 32 = .ok (.ireturn, 1) := by decide +kernel
theorem d_Model_feed_33 : decode b_Model_feed 33 = .ok (.iconst 0, 1) := by decide +kernel
theorem d_Model_feed_34 : decode b_Model_feed 34 = .ok (.istore 6, 2) := by decide +kernel
theorem d_Model_feed_36 : decode b_Model_feed 36 = .ok (.iload 6, 2) := by decide +kernel
theorem d_Model_feed_38 : decode b_Model_feed 38 = .ok (.bipush 20, 2) := by decide +kernel
theorem d_Model_feed_40 : decode b_Model_feed 40 = .ok (.if_icmp .ge 90, 3) := by decide +kernel
theorem d_Model_feed_43 : decode b_Model_feed 43 = .ok (.iload 6, 2) := by decide +kernel
theorem d_Model_feed_45 : decode b_Model_feed 45 = .ok (.iconst 4, 1) := by decide +kernel
theorem d_Model_feed_46 : decode b_Model_feed 46 = .ok (.if_icmp .ge 7, 3) := by decide +kernel
theorem d_Model_feed_49 : decode b_Model_feed 49 = .ok (.iload_n 1, 1) := by decide +kernel
theorem d_Model_feed_50 : decode b_Model_feed 50 = .ok (.goto 39, 3) := by decide +kernel
theorem d_Model_feed_53 : decode b_Model_feed 53 = .ok (.iload 6, 2) := by decide +kernel
theorem d_Model_feed_55 : decode b_Model_feed 55 = .ok (.bipush 8, 2) := by decide +kernel
theorem d_Model_feed_57 : decode b_Model_feed 57 = .ok (.if_icmp .ge 7, 3) := by decide +kernel
theorem d_Model_feed_60 : decode b_Model_feed 60 = .ok (.iload_n 2, 1) := by decide +kernel
theorem d_Model_feed_61 : decode b_Model_feed 61 = .ok (.goto 28, 3) := by decide +kernel
theorem d_Model_feed_64 : decode b_Model_feed 64 = .ok (.iload 6, 2) := by decide +kernel
theorem d_Model_feed_66 : decode b_Model_feed 66 = .ok (.bipush 12, 2) := by decide +kernel
theorem d_Model_feed_68 : decode b_Model_feed 68 = .ok (.if_icmp .ge 7, 3) := by decide +kernel
theorem d_Model_feed_71 : decode b_Model_feed 71 = .ok (.iload_n 3, 1) := by decide +kernel
theorem d_Model_feed_72 : decode b_Model_feed 72 = .ok (.goto 17, 3) := by decide +kernel
theorem d_Model_feed_75 : decode b_Model_feed 75 = .ok (.iload 6, 2) := by decide +kernel
theorem d_Model_feed_77 : decode b_Model_feed 77 = .ok (.bipush 16, 2) := by decide +kernel
theorem d_Model_feed_79 : decode b_Model_feed 79 = .ok (.if_icmp .ge 8, 3) := by decide +kernel
theorem d_Model_feed_82 : decode b_Model_feed 82 = .ok (.iload 4, 2) := by decide +kernel
theorem d_Model_feed_84 : decode b_Model_feed 84 = .ok (.goto 5, 3) := by decide +kernel
theorem d_Model_feed_87 : decode b_Model_feed 87 = .ok (.iload 5, 2) := by decide +kernel
theorem d_Model_feed_89 : decode b_Model_feed 89 = .ok (.istore 7, 2) := by decide +kernel
theorem d_Model_feed_91 : decode b_Model_feed 91 = .ok (.aload_n 0, 1) := by decide +kernel
theorem d_Model_feed_92 : decode b_Model_feed 92 = .ok (.getfield 13, 3) := by decide +kernel
theorem d_Model_feed_95 : decode b_Model_feed 95 = .ok (.aload_n 0, 1) := by decide +kernel
theorem d_Model_feed_96 : decode b_Model_feed 96 = .ok (.dup, 1) := by decide +kernel
theorem d_Model_feed_97 : decode b_Model_feed 97 = .ok (.getfield 173, 3) := by decide +kernel
theorem d_Model_feed_100 : decode b_Model_feed 100 = .ok (.dup_x1, 1) := by decide +kernel
theorem d_Model_feed_101 : decode b_Model_feed 101 = .ok (.iconst 1, 1) := by decide +kernel
theorem d_Model_feed_102 : decode b_Model_feed 102 = .ok (.iadd, 1) := by decide +kernel
theorem d_Model_feed_103 : decode b_Model_feed 103 = .ok (.putfield 173, 3) := by decide +kernel
theorem d_Model_feed_106 : decode b_Model_feed 106 = .ok (.iload 7, 2) := by decide +kernel
theorem d_Model_feed_108 : decode b_Model_feed 108 = .ok (.bipush 24, 2) := by decide +kernel
theorem d_Model_feed_110 : decode b_Model_feed 110 = .ok (.bipush 8, 2) := by decide +kernel
theorem d_Model_feed_112 : decode b_Model_feed 112 = .ok (.iload 6, 2) := by decide +kernel
theorem d_Model_feed_114 : decode b_Model_feed 114 = .ok (.iconst 3, 1) := by decide +kernel
theorem d_Model_feed_115 : decode b_Model_feed 115 = .ok (.iand, 1) := by decide +kernel
theorem d_Model_feed_116 : decode b_Model_feed 116 = .ok (.imul, 1) := by decide +kernel
theorem d_Model_feed_117 : decode b_Model_feed 117 = .ok (.isub, 1) := by decide +kernel
theorem d_Model_feed_118 : decode b_Model_feed 118 = .ok (.iushr, 1) := by decide +kernel
theorem d_Model_feed_119 : decode b_Model_feed 119 = .ok (.sipush 255, 3) := by decide +kernel
theorem d_Model_feed_122 : decode b_Model_feed 122 = .ok (.iand, 1) := by decide +kernel
theorem d_Model_feed_123 : decode b_Model_feed 123 = .ok (.iastore, 1) := by decide +kernel
theorem d_Model_feed_124 : decode b_Model_feed 124 = .ok (.iinc 6 1, 3) := by decide +kernel
theorem d_Model_feed_127 : decode b_Model_feed 127 = .ok (.goto (-91), 3) := by decide +kernel
theorem d_Model_feed_130 : decode b_Model_feed 130 = .ok (.aload_n 0, 1) := by decide +kernel
theorem d_Model_feed_131 : decode b_Model_feed 131 = .ok (.getfield 173, 3) := by decide +kernel
theorem d_Model_feed_134 : decode b_Model_feed 134 = .ok (.ireturn, 1) := by decide +kernel
set_option maxHeartbeats 4000000 in
set_option maxRecDepth 100000 in
theorem e_feed (l : Launch) (dC : Nat → ClassId) (dI : Nat → Nat → Nat) (sb : sB) (q0 oc so rv sp rz bl ww hs fi pm mx my mm mq mz wy fn : Nat) (wg nc nl qs si cs cn fa pu de ve mk : Int32) (nw : Int64) (er a0 a1 a2 a3 a4 : Int32) (cI : ClassId) (f : Nat → Int32) (sz : Nat) : Met l y_Model_feed w_Model_feed ({ frames := 1, cells := 0, slots := 0, locals := 22 }) (mu_P [.ref q0, .int a0, .int a1, .int a2, .int a3, .int a4] (dC, dI) sb [(q0, .inr (12, [.int er, .int 0, .int wg, .int nc, .int nl, .ref oc, .ref so, .ref rv, .ref sp, .int qs, .ref rz, .ref bl, .ref ww, .ref hs, .ref fi, .ref pm, .ref mx, .ref my, .ref mm, .ref mq, .ref mz, .ref wy, .ref fn, .int si, .int cs, .int cn, .int fa, .int pu, .int de, .int ve, .long nw, .int mk])), (oc, .inl (cI, 2060, .inl f))] [(cI, .int)] sz) (va_Qi (fun r (_u : (Nat → Int32)) => r = 20) (mu_B (dC, dI) [(cI, .int)] (va_A [(q0, .inr (12, [.int er, .int 0, .int wg, .int nc, .int nl, .ref oc, .ref so, .ref rv, .ref sp, .int qs, .ref rz, .ref bl, .ref ww, .ref hs, .ref fi, .ref pm, .ref mx, .ref my, .ref mm, .ref mq, .ref mz, .ref wy, .ref fn, .int si, .int cs, .int cn, .int fa, .int pu, .int de, .int ve, .long nw, .int mk])), (oc, .inl (cI, 2060, .inl f))] sz) (fun u' : (Nat → Int32) => [(q0, .inr (12, [.int 0, .int 20, .int wg, .int nc, .int nl, .ref oc, .ref so, .ref rv, .ref sp, .int qs, .ref rz, .ref bl, .ref ww, .ref hs, .ref fi, .ref pm, .ref mx, .ref my, .ref mm, .ref mq, .ref mz, .ref wy, .ref fn, .int si, .int cs, .int cn, .int fa, .int pu, .int de, .int ve, .long nw, .int mk])), (oc, .inl (cI, 2060, .inl u'))])) (va_A [(q0, .inr (12, [.int er, .int 0, .int wg, .int nc, .int nl, .ref oc, .ref so, .ref rv, .ref sp, .int qs, .ref rz, .ref bl, .ref ww, .ref hs, .ref fi, .ref pm, .ref mx, .ref my, .ref mm, .ref mq, .ref mz, .ref wy, .ref fn, .int si, .int cs, .int cn, .int fa, .int pu, .int de, .int ve, .long nw, .int mk])), (oc, .inl (cI, 2060, .inl f))] sz)) 0 0 (va_A [(q0, .inr (12, [.int er, .int 0, .int wg, .int nc, .int nl, .ref oc, .ref so, .ref rv, .ref sp, .int qs, .ref rz, .ref bl, .ref ww, .ref hs, .ref fi, .ref pm, .ref mx, .ref my, .ref mm, .ref mq, .ref mz, .ref wy, .ref fn, .int si, .int cs, .int cn, .int fa, .int pu, .int de, .int ve, .long nw, .int mk])), (oc, .inl (cI, 2060, .inl f))] sz) := by
  refine Met.ofW (cc := b_Model_feed) (maxL := 8) (ret := (some FieldType.int)) (by decide) rfl ?_
  intro p e s m args below meth c s₁ B hml hv
  obtain ⟨rfl, hsz, hB0, hP, hK, hD0, hN, hT0⟩ := hv
  have hx := B.exec
  have hb := B.bytes
  have hr := B.returns
  have hts := atoms_spec (ws := w_Model_feed) B.pre
  have tbin : ∀ w ∈ tb, w ∈ w_Model_feed := fun w h => List.mem_cons_of_mem _ h
  have htb : ∀ w ∈ tb, w.before _ s = true := fun w h => hts w (tbin w h)
  have hown : s.vm.findClass "TrustChainModel" = some m.cls := findClass_of_methodNamed B.named
  have hlocks := B.notSynchronized
  subst hsz
  have hD := hD0.self (sz := s.heap.size)
  generalize hAe : va_A [(q0, .inr (12, [.int er, .int 0, .int wg, .int nc, .int nl, .ref oc, .ref so, .ref rv, .ref sp, .int qs, .ref rz, .ref bl, .ref ww, .ref hs, .ref fi, .ref pm, .ref mx, .ref my, .ref mm, .ref mq, .ref mz, .ref wy, .ref fn, .int si, .int cs, .int cn, .int fa, .int pu, .int de, .int ve, .long nw, .int mk])), (oc, .inl (cI, 2060, .inl f))] s.heap.size = A at hD ⊢
  have hA : ∀ q : Nat, s.heap.size ≤ q → A q := fun q h => by rw [← hAe]; exact Or.inr h
  have hAs : ∀ q : Nat, A q → sb.1 ≤ q := fun q h => by
    rw [← hAe] at h
    rcases h with ⟨k, e, h⟩ | h
    · exact hD0.2 k _ h
    · exact Nat.le_trans hB0 h
  have hS : va_S A s.heap s.heap [] := va_S.rf
  have hcs : 0 ≤ (headSpec w_Model_feed ({ frames := 1, cells := 0, slots := 0, locals := 22 })).room.cells ∧ 0 ≤ (headSpec w_Model_feed ({ frames := 1, cells := 0, slots := 0, locals := 22 })).room.slots := ⟨Nat.le_refl _, Nat.le_refl _⟩
  have hP : va_P (dC, dI) classes [(q0, .inr (12, [.int er, .int 0, .int wg, .int nc, .int nl, .ref oc, .ref so, .ref rv, .ref sp, .int qs, .ref rz, .ref bl, .ref ww, .ref hs, .ref fi, .ref pm, .ref mx, .ref my, .ref mm, .ref mq, .ref mz, .ref wy, .ref fn, .int si, .int cs, .int cn, .int fa, .int pu, .int de, .int ve, .long nw, .int mk])), (oc, .inl (cI, 2060, .inl f))] s.heap := hP
  have hl := lv_entry ([.ref q0, .int a0, .int a1, .int a2, .int a3, .int a4]) (n := 8) (Nat.le_of_ble_eq_true rfl)
  rw [lg_entry_eq]
  generalize (lg_sl ([.ref q0, .int a0, .int a1, .int a2, .int a3, .int a4]) ++ List.replicate (8 - (lg_sl ([.ref q0, .int a0, .int a1, .int a2, .int a3, .int a4])).length) Slot.unset).toArray = ls at hl ⊢
  have hl : lv_has ls 8 [(0, .ref q0), (1, .int a0), (2, .int a1), (3, .int a2), (4, .int a3), (5, .int a4)] := hl
  refine lv_aload_n hx hb d_Model_feed_0 rfl (lv_at hl 0 rfl) ?_
  refine lv_iconst (v := 0) hx hb d_Model_feed_1 (by decide) ?_
  refine va_put (v := .int 0) (ty := .int) hx hb htb i_Model t_Model t_Model_ok n_Model hown hK hP hD hS 0 rfl rfl 0 (by decide) (htb _ q7_214) (fun _ h9 => h9) rfl (by decide +kernel) rfl rfl (Nat.le_of_ble_eq_true rfl) d_Model_feed_2 (fun H2 locs hP hD hS => ?_)
  have hP : va_P (dC, dI) classes [(q0, .inr (12, [.int 0, .int 0, .int wg, .int nc, .int nl, .ref oc, .ref so, .ref rv, .ref sp, .int qs, .ref rz, .ref bl, .ref ww, .ref hs, .ref fi, .ref pm, .ref mx, .ref my, .ref mm, .ref mq, .ref mz, .ref wy, .ref fn, .int si, .int cs, .int cn, .int fa, .int pu, .int de, .int ve, .long nw, .int mk])), (oc, .inl (cI, 2060, .inl f))] H2 := hP
  have hD : va_D A [(q0, .inr (12, [.int 0, .int 0, .int wg, .int nc, .int nl, .ref oc, .ref so, .ref rv, .ref sp, .int qs, .ref rz, .ref bl, .ref ww, .ref hs, .ref fi, .ref pm, .ref mx, .ref my, .ref mm, .ref mq, .ref mz, .ref wy, .ref fn, .int si, .int cs, .int cn, .int fa, .int pu, .int de, .int ve, .long nw, .int mk])), (oc, .inl (cI, 2060, .inl f))] := hD
  refine lv_aload_n hx hb d_Model_feed_5 rfl (lv_at hl 0 rfl) ?_
  refine lv_aload_n hx hb d_Model_feed_6 rfl (lv_at hl 0 rfl) ?_
  refine va_get (v := .int 0) hx hb htb i_Model hown hK hP 0 rfl rfl 1 (by decide) (htb _ q7_215) (fun _ h9 => h9) rfl d_Model_feed_7 ?_
  refine lv_bipush (v := 20) hx hb d_Model_feed_10 (by decide) ?_
  refine lv_iadd hx hb d_Model_feed_12 ?_
  rw [show (0 + 20 : Int32) = 20 from by decide]
  refine lv_sipush (v := 2060) hx hb d_Model_feed_13 (by decide) ?_
  refine lv_icmp_le (tgt := 23) hx hb d_Model_feed_16 (by decide) (fun c16 => ?_) (fun c16 => ?_)
  rotate_left
  · exact absurd c16 (by decide)
  refine lv_iconst (v := 0) hx hb d_Model_feed_23 (by decide) ?_
  refine lv_iconst (v := 1) hx hb d_Model_feed_24 (by decide) ?_
  have hFc := va_free (wc := [(q0, .inr (12, [.int 0, .int 0, .int wg, .int nc, .int nl, .ref oc, .ref so, .ref rv, .ref sp, .int qs, .ref rz, .ref bl, .ref ww, .ref hs, .ref fi, .ref pm, .ref mx, .ref my, .ref mm, .ref mq, .ref mz, .ref wy, .ref fn, .int si, .int cs, .int cn, .int fa, .int pu, .int de, .int ve, .long nw, .int mk]))]) hD hS hA [0] rfl
  refine va_calli (mu_runV (As := [.int 0, .int 1]) (rest := []) ⟨hx, hb, hml, hown, hts⟩ tbin (e_fails0 l dC dI sb q0 oc so rv sp rz bl ww hs fi pm mx my mm mq mz wy fn 0 wg nc nl qs si cs cn fa pu de ve mk nw 1 H2.size) q8_79 q8_81 qp_36 q1_9 q8_82 (n := 2) (by decide +kernel) rfl ⟨rfl, rfl⟩ ⟨Nat.le_of_ble_eq_true rfl, Nat.le_of_ble_eq_true rfl⟩ ⟨Nat.le_of_ble_eq_true rfl, Nat.le_of_ble_eq_true rfl⟩ hN (hT0.keep hS hAs) hAs (Nat.le_trans hB0 hS.1) hK hP hD [0] (by decide) rfl [] rfl 0 12 rfl rfl rfl hl.1 rfl (Nat.le_of_ble_eq_true rfl) d_Model_feed_25) hS (fun q _ h => hFc q h) hFc (fun r25 u25 tS H25 locs ht hvm hw25 hB hz1 hk1 hS => ?_)
  skip
  obtain ⟨hP1, hK1, hD1⟩ := hB
  rw [ht] at hP1
  obtain ⟨hP, hD⟩ := va_join (wr := [(oc, .inl (cI, 2060, .inl f))]) (w1 := [(q0, .inr (12, [.int 0, .int 0, .int wg, .int nc, .int nl, .ref oc, .ref so, .ref rv, .ref sp, .int qs, .ref rz, .ref bl, .ref ww, .ref hs, .ref fi, .ref pm, .ref mx, .ref my, .ref mm, .ref mq, .ref mz, .ref wy, .ref fn, .int si, .int cs, .int cn, .int fa, .int pu, .int de, .int ve, .long nw, .int mk]))]) hP hD [0] [1] rfl rfl (by decide) (by decide) hk1 hFc hP1 hD1
  have hP : va_P (dC, dI) classes [(oc, .inl (cI, 2060, .inl f)), (q0, .inr (12, [.int 0, .int 0, .int wg, .int nc, .int nl, .ref oc, .ref so, .ref rv, .ref sp, .int qs, .ref rz, .ref bl, .ref ww, .ref hs, .ref fi, .ref pm, .ref mx, .ref my, .ref mm, .ref mq, .ref mz, .ref wy, .ref fn, .int si, .int cs, .int cn, .int fa, .int pu, .int de, .int ve, .long nw, .int mk]))] H25 := hP
  have hD : va_D A [(oc, .inl (cI, 2060, .inl f)), (q0, .inr (12, [.int 0, .int 0, .int wg, .int nc, .int nl, .ref oc, .ref so, .ref rv, .ref sp, .int qs, .ref rz, .ref bl, .ref ww, .ref hs, .ref fi, .ref pm, .ref mx, .ref my, .ref mm, .ref mq, .ref mz, .ref wy, .ref fn, .int si, .int cs, .int cn, .int fa, .int pu, .int de, .int ve, .long nw, .int mk]))] := hD
  subst hw25
  refine lv_if_eq (tgt := 33) hx hb d_Model_feed_28 (by decide) (fun c28 => ?_) (fun c28 => ?_)
  rotate_left
  · exact absurd c28 (by decide)
  refine lv_iconst (v := 0) hx hb d_Model_feed_33 (by decide) ?_
  refine lv_istore (lv' := [(6, .int 0), (0, .ref q0), (1, .int a0), (2, .int a1), (3, .int a2), (4, .int a3), (5, .int a4)]) hx hb d_Model_feed_34 hl (by decide) rfl (fun ls hl => ?_)
  refine lv_iload hx hb d_Model_feed_36 (lv_at hl 0 rfl) ?_
  refine lv_bipush (v := 20) hx hb d_Model_feed_38 (by decide) ?_
  refine lv_icmp_ge (tgt := 130) hx hb d_Model_feed_40 (by decide) (fun c40 => ?_) (fun c40 => ?_)
  · exact absurd c40 (by decide)
  refine lv_iload hx hb d_Model_feed_43 (lv_at hl 0 rfl) ?_
  refine lv_iconst (v := 4) hx hb d_Model_feed_45 (by decide) ?_
  refine lv_icmp_ge (tgt := 53) hx hb d_Model_feed_46 (by decide) (fun c46 => ?_) (fun c46 => ?_)
  · exact absurd c46 (by decide)
  refine lv_iload_n hx hb d_Model_feed_49 rfl (lv_at hl 2 rfl) ?_
  refine lv_goto (tgt := 89) hx hb d_Model_feed_50 (by decide) ?_
  refine lv_istore (lv' := [(7, .int a0), (6, .int 0), (0, .ref q0), (1, .int a0), (2, .int a1), (3, .int a2), (4, .int a3), (5, .int a4)]) hx hb d_Model_feed_89 hl (by decide) rfl (fun ls hl => ?_)
  refine lv_aload_n hx hb d_Model_feed_91 rfl (lv_at hl 2 rfl) ?_
  refine va_get (v := .ref oc) hx hb htb i_Model hown hK hP 1 rfl rfl 5 (by decide) (htb _ q7_219) (fun _ h9 => h9) rfl d_Model_feed_92 ?_
  refine lv_aload_n hx hb d_Model_feed_95 rfl (lv_at hl 2 rfl) ?_
  refine lv_dup hx hb d_Model_feed_96 rfl ?_
  refine va_get (v := .int 0) hx hb htb i_Model hown hK hP 1 rfl rfl 1 (by decide) (htb _ q7_215) (fun _ h9 => h9) rfl d_Model_feed_97 ?_
  refine lv_dup_x1 hx hb d_Model_feed_100 rfl rfl ?_
  refine lv_iconst (v := 1) hx hb d_Model_feed_101 (by decide) ?_
  refine lv_iadd hx hb d_Model_feed_102 ?_
  rw [show (0 + 1 : Int32) = 1 from by decide]
  refine va_put (v := .int 1) (ty := .int) hx hb htb i_Model t_Model t_Model_ok n_Model hown hK hP hD hS 1 rfl rfl 1 (by decide) (htb _ q7_215) (fun _ h9 => h9) rfl (by decide +kernel) rfl rfl (Nat.le_of_ble_eq_true rfl) d_Model_feed_103 (fun H103 locs hP hD hS => ?_)
  have hP : va_P (dC, dI) classes [(oc, .inl (cI, 2060, .inl f)), (q0, .inr (12, [.int 0, .int 1, .int wg, .int nc, .int nl, .ref oc, .ref so, .ref rv, .ref sp, .int qs, .ref rz, .ref bl, .ref ww, .ref hs, .ref fi, .ref pm, .ref mx, .ref my, .ref mm, .ref mq, .ref mz, .ref wy, .ref fn, .int si, .int cs, .int cn, .int fa, .int pu, .int de, .int ve, .long nw, .int mk]))] H103 := hP
  have hD : va_D A [(oc, .inl (cI, 2060, .inl f)), (q0, .inr (12, [.int 0, .int 1, .int wg, .int nc, .int nl, .ref oc, .ref so, .ref rv, .ref sp, .int qs, .ref rz, .ref bl, .ref ww, .ref hs, .ref fi, .ref pm, .ref mx, .ref my, .ref mm, .ref mq, .ref mz, .ref wy, .ref fn, .int si, .int cs, .int cn, .int fa, .int pu, .int de, .int ve, .long nw, .int mk]))] := hD
  refine lv_iload hx hb d_Model_feed_106 (lv_at hl 0 rfl) ?_
  refine lv_bipush (v := 24) hx hb d_Model_feed_108 (by decide) ?_
  refine lv_bipush (v := 8) hx hb d_Model_feed_110 (by decide) ?_
  refine lv_iload hx hb d_Model_feed_112 (lv_at hl 1 rfl) ?_
  refine lv_iconst (v := 3) hx hb d_Model_feed_114 (by decide) ?_
  refine lv_iand hx hb d_Model_feed_115 ?_
  rw [show (0 &&& 3 : Int32) = 0 from by decide]
  refine lv_imul hx hb d_Model_feed_116 ?_
  rw [show (8 * 0 : Int32) = 0 from by decide]
  refine lv_isub hx hb d_Model_feed_117 ?_
  rw [show (24 - 0 : Int32) = 24 from by decide]
  refine lv_iushr (v := (a0.toUInt32 >>> ((24 : Int32).toUInt32 &&& Int32.toUInt32 31)).toInt32) hx hb d_Model_feed_118 rfl ?_
  refine lv_sipush (v := 255) hx hb d_Model_feed_119 (by decide) ?_
  refine lv_iand hx hb d_Model_feed_122 ?_
  have h123 : vp_in 0 2060 := by unfold vp_in; decide
  refine va_iast hx hb hK hP hD hS 0 0 rfl rfl h123 d_Model_feed_123 (fun H123 locs hP hD hS => ?_)
  have hP : va_P (dC, dI) classes [(oc, .inl (cI, 2060, .inl (upd f (0 : Int32).toNatClampNeg (((a0.toUInt32 >>> ((24 : Int32).toUInt32 &&& Int32.toUInt32 31)).toInt32) &&& 255)))), (q0, .inr (12, [.int 0, .int 1, .int wg, .int nc, .int nl, .ref oc, .ref so, .ref rv, .ref sp, .int qs, .ref rz, .ref bl, .ref ww, .ref hs, .ref fi, .ref pm, .ref mx, .ref my, .ref mm, .ref mq, .ref mz, .ref wy, .ref fn, .int si, .int cs, .int cn, .int fa, .int pu, .int de, .int ve, .long nw, .int mk]))] H123 := hP
  have hD : va_D A [(oc, .inl (cI, 2060, .inl (upd f (0 : Int32).toNatClampNeg (((a0.toUInt32 >>> ((24 : Int32).toUInt32 &&& Int32.toUInt32 31)).toInt32) &&& 255)))), (q0, .inr (12, [.int 0, .int 1, .int wg, .int nc, .int nl, .ref oc, .ref so, .ref rv, .ref sp, .int qs, .ref rz, .ref bl, .ref ww, .ref hs, .ref fi, .ref pm, .ref mx, .ref my, .ref mm, .ref mq, .ref mz, .ref wy, .ref fn, .int si, .int cs, .int cn, .int fa, .int pu, .int de, .int ve, .long nw, .int mk]))] := hD
  generalize upd f (0 : Int32).toNatClampNeg (((a0.toUInt32 >>> ((24 : Int32).toUInt32 &&& Int32.toUInt32 31)).toInt32) &&& 255) = g123 at hP hD
  refine lv_iinc (v := 1) (lv' := [(6, .int 1), (7, .int a0), (0, .ref q0), (1, .int a0), (2, .int a1), (3, .int a2), (4, .int a3), (5, .int a4)]) hx hb d_Model_feed_124 hl (k := 1) rfl (by decide) (by decide) rfl (fun ls hl => ?_)
  refine lv_goto (tgt := 36) hx hb d_Model_feed_127 (by decide) ?_
  refine lv_iload hx hb d_Model_feed_36 (lv_at hl 0 rfl) ?_
  refine lv_bipush (v := 20) hx hb d_Model_feed_38 (by decide) ?_
  refine lv_icmp_ge (tgt := 130) hx hb d_Model_feed_40 (by decide) (fun c40 => ?_) (fun c40 => ?_)
  · exact absurd c40 (by decide)
  refine lv_iload hx hb d_Model_feed_43 (lv_at hl 0 rfl) ?_
  refine lv_iconst (v := 4) hx hb d_Model_feed_45 (by decide) ?_
  refine lv_icmp_ge (tgt := 53) hx hb d_Model_feed_46 (by decide) (fun c46 => ?_) (fun c46 => ?_)
  · exact absurd c46 (by decide)
  refine lv_iload_n hx hb d_Model_feed_49 rfl (lv_at hl 3 rfl) ?_
  refine lv_goto (tgt := 89) hx hb d_Model_feed_50 (by decide) ?_
  refine lv_istore (lv' := [(7, .int a0), (6, .int 1), (0, .ref q0), (1, .int a0), (2, .int a1), (3, .int a2), (4, .int a3), (5, .int a4)]) hx hb d_Model_feed_89 hl (by decide) rfl (fun ls hl => ?_)
  refine lv_aload_n hx hb d_Model_feed_91 rfl (lv_at hl 2 rfl) ?_
  refine va_get (v := .ref oc) hx hb htb i_Model hown hK hP 1 rfl rfl 5 (by decide) (htb _ q7_219) (fun _ h9 => h9) rfl d_Model_feed_92 ?_
  refine lv_aload_n hx hb d_Model_feed_95 rfl (lv_at hl 2 rfl) ?_
  refine lv_dup hx hb d_Model_feed_96 rfl ?_
  refine va_get (v := .int 1) hx hb htb i_Model hown hK hP 1 rfl rfl 1 (by decide) (htb _ q7_215) (fun _ h9 => h9) rfl d_Model_feed_97 ?_
  refine lv_dup_x1 hx hb d_Model_feed_100 rfl rfl ?_
  refine lv_iconst (v := 1) hx hb d_Model_feed_101 (by decide) ?_
  refine lv_iadd hx hb d_Model_feed_102 ?_
  rw [show (1 + 1 : Int32) = 2 from by decide]
  refine va_put (v := .int 2) (ty := .int) hx hb htb i_Model t_Model t_Model_ok n_Model hown hK hP hD hS 1 rfl rfl 1 (by decide) (htb _ q7_215) (fun _ h9 => h9) rfl (by decide +kernel) rfl rfl (Nat.le_of_ble_eq_true rfl) d_Model_feed_103 (fun H103 locs hP hD hS => ?_)
  have hP : va_P (dC, dI) classes [(oc, .inl (cI, 2060, .inl g123)), (q0, .inr (12, [.int 0, .int 2, .int wg, .int nc, .int nl, .ref oc, .ref so, .ref rv, .ref sp, .int qs, .ref rz, .ref bl, .ref ww, .ref hs, .ref fi, .ref pm, .ref mx, .ref my, .ref mm, .ref mq, .ref mz, .ref wy, .ref fn, .int si, .int cs, .int cn, .int fa, .int pu, .int de, .int ve, .long nw, .int mk]))] H103 := hP
  have hD : va_D A [(oc, .inl (cI, 2060, .inl g123)), (q0, .inr (12, [.int 0, .int 2, .int wg, .int nc, .int nl, .ref oc, .ref so, .ref rv, .ref sp, .int qs, .ref rz, .ref bl, .ref ww, .ref hs, .ref fi, .ref pm, .ref mx, .ref my, .ref mm, .ref mq, .ref mz, .ref wy, .ref fn, .int si, .int cs, .int cn, .int fa, .int pu, .int de, .int ve, .long nw, .int mk]))] := hD
  refine lv_iload hx hb d_Model_feed_106 (lv_at hl 0 rfl) ?_
  refine lv_bipush (v := 24) hx hb d_Model_feed_108 (by decide) ?_
  refine lv_bipush (v := 8) hx hb d_Model_feed_110 (by decide) ?_
  refine lv_iload hx hb d_Model_feed_112 (lv_at hl 1 rfl) ?_
  refine lv_iconst (v := 3) hx hb d_Model_feed_114 (by decide) ?_
  refine lv_iand hx hb d_Model_feed_115 ?_
  rw [show (1 &&& 3 : Int32) = 1 from by decide]
  refine lv_imul hx hb d_Model_feed_116 ?_
  rw [show (8 * 1 : Int32) = 8 from by decide]
  refine lv_isub hx hb d_Model_feed_117 ?_
  rw [show (24 - 8 : Int32) = 16 from by decide]
  refine lv_iushr (v := (a0.toUInt32 >>> ((16 : Int32).toUInt32 &&& Int32.toUInt32 31)).toInt32) hx hb d_Model_feed_118 rfl ?_
  refine lv_sipush (v := 255) hx hb d_Model_feed_119 (by decide) ?_
  refine lv_iand hx hb d_Model_feed_122 ?_
  have h123 : vp_in 1 2060 := by unfold vp_in; decide
  refine va_iast hx hb hK hP hD hS 0 0 rfl rfl h123 d_Model_feed_123 (fun H123 locs hP hD hS => ?_)
  have hP : va_P (dC, dI) classes [(oc, .inl (cI, 2060, .inl (upd g123 (1 : Int32).toNatClampNeg (((a0.toUInt32 >>> ((16 : Int32).toUInt32 &&& Int32.toUInt32 31)).toInt32) &&& 255)))), (q0, .inr (12, [.int 0, .int 2, .int wg, .int nc, .int nl, .ref oc, .ref so, .ref rv, .ref sp, .int qs, .ref rz, .ref bl, .ref ww, .ref hs, .ref fi, .ref pm, .ref mx, .ref my, .ref mm, .ref mq, .ref mz, .ref wy, .ref fn, .int si, .int cs, .int cn, .int fa, .int pu, .int de, .int ve, .long nw, .int mk]))] H123 := hP
  have hD : va_D A [(oc, .inl (cI, 2060, .inl (upd g123 (1 : Int32).toNatClampNeg (((a0.toUInt32 >>> ((16 : Int32).toUInt32 &&& Int32.toUInt32 31)).toInt32) &&& 255)))), (q0, .inr (12, [.int 0, .int 2, .int wg, .int nc, .int nl, .ref oc, .ref so, .ref rv, .ref sp, .int qs, .ref rz, .ref bl, .ref ww, .ref hs, .ref fi, .ref pm, .ref mx, .ref my, .ref mm, .ref mq, .ref mz, .ref wy, .ref fn, .int si, .int cs, .int cn, .int fa, .int pu, .int de, .int ve, .long nw, .int mk]))] := hD
  generalize upd g123 (1 : Int32).toNatClampNeg (((a0.toUInt32 >>> ((16 : Int32).toUInt32 &&& Int32.toUInt32 31)).toInt32) &&& 255) = g123 at hP hD
  refine lv_iinc (v := 2) (lv' := [(6, .int 2), (7, .int a0), (0, .ref q0), (1, .int a0), (2, .int a1), (3, .int a2), (4, .int a3), (5, .int a4)]) hx hb d_Model_feed_124 hl (k := 1) rfl (by decide) (by decide) rfl (fun ls hl => ?_)
  refine lv_goto (tgt := 36) hx hb d_Model_feed_127 (by decide) ?_
  refine lv_iload hx hb d_Model_feed_36 (lv_at hl 0 rfl) ?_
  refine lv_bipush (v := 20) hx hb d_Model_feed_38 (by decide) ?_
  refine lv_icmp_ge (tgt := 130) hx hb d_Model_feed_40 (by decide) (fun c40 => ?_) (fun c40 => ?_)
  · exact absurd c40 (by decide)
  refine lv_iload hx hb d_Model_feed_43 (lv_at hl 0 rfl) ?_
  refine lv_iconst (v := 4) hx hb d_Model_feed_45 (by decide) ?_
  refine lv_icmp_ge (tgt := 53) hx hb d_Model_feed_46 (by decide) (fun c46 => ?_) (fun c46 => ?_)
  · exact absurd c46 (by decide)
  refine lv_iload_n hx hb d_Model_feed_49 rfl (lv_at hl 3 rfl) ?_
  refine lv_goto (tgt := 89) hx hb d_Model_feed_50 (by decide) ?_
  refine lv_istore (lv' := [(7, .int a0), (6, .int 2), (0, .ref q0), (1, .int a0), (2, .int a1), (3, .int a2), (4, .int a3), (5, .int a4)]) hx hb d_Model_feed_89 hl (by decide) rfl (fun ls hl => ?_)
  refine lv_aload_n hx hb d_Model_feed_91 rfl (lv_at hl 2 rfl) ?_
  refine va_get (v := .ref oc) hx hb htb i_Model hown hK hP 1 rfl rfl 5 (by decide) (htb _ q7_219) (fun _ h9 => h9) rfl d_Model_feed_92 ?_
  refine lv_aload_n hx hb d_Model_feed_95 rfl (lv_at hl 2 rfl) ?_
  refine lv_dup hx hb d_Model_feed_96 rfl ?_
  refine va_get (v := .int 2) hx hb htb i_Model hown hK hP 1 rfl rfl 1 (by decide) (htb _ q7_215) (fun _ h9 => h9) rfl d_Model_feed_97 ?_
  refine lv_dup_x1 hx hb d_Model_feed_100 rfl rfl ?_
  refine lv_iconst (v := 1) hx hb d_Model_feed_101 (by decide) ?_
  refine lv_iadd hx hb d_Model_feed_102 ?_
  rw [show (2 + 1 : Int32) = 3 from by decide]
  refine va_put (v := .int 3) (ty := .int) hx hb htb i_Model t_Model t_Model_ok n_Model hown hK hP hD hS 1 rfl rfl 1 (by decide) (htb _ q7_215) (fun _ h9 => h9) rfl (by decide +kernel) rfl rfl (Nat.le_of_ble_eq_true rfl) d_Model_feed_103 (fun H103 locs hP hD hS => ?_)
  have hP : va_P (dC, dI) classes [(oc, .inl (cI, 2060, .inl g123)), (q0, .inr (12, [.int 0, .int 3, .int wg, .int nc, .int nl, .ref oc, .ref so, .ref rv, .ref sp, .int qs, .ref rz, .ref bl, .ref ww, .ref hs, .ref fi, .ref pm, .ref mx, .ref my, .ref mm, .ref mq, .ref mz, .ref wy, .ref fn, .int si, .int cs, .int cn, .int fa, .int pu, .int de, .int ve, .long nw, .int mk]))] H103 := hP
  have hD : va_D A [(oc, .inl (cI, 2060, .inl g123)), (q0, .inr (12, [.int 0, .int 3, .int wg, .int nc, .int nl, .ref oc, .ref so, .ref rv, .ref sp, .int qs, .ref rz, .ref bl, .ref ww, .ref hs, .ref fi, .ref pm, .ref mx, .ref my, .ref mm, .ref mq, .ref mz, .ref wy, .ref fn, .int si, .int cs, .int cn, .int fa, .int pu, .int de, .int ve, .long nw, .int mk]))] := hD
  refine lv_iload hx hb d_Model_feed_106 (lv_at hl 0 rfl) ?_
  refine lv_bipush (v := 24) hx hb d_Model_feed_108 (by decide) ?_
  refine lv_bipush (v := 8) hx hb d_Model_feed_110 (by decide) ?_
  refine lv_iload hx hb d_Model_feed_112 (lv_at hl 1 rfl) ?_
  refine lv_iconst (v := 3) hx hb d_Model_feed_114 (by decide) ?_
  refine lv_iand hx hb d_Model_feed_115 ?_
  rw [show (2 &&& 3 : Int32) = 2 from by decide]
  refine lv_imul hx hb d_Model_feed_116 ?_
  rw [show (8 * 2 : Int32) = 16 from by decide]
  refine lv_isub hx hb d_Model_feed_117 ?_
  rw [show (24 - 16 : Int32) = 8 from by decide]
  refine lv_iushr (v := (a0.toUInt32 >>> ((8 : Int32).toUInt32 &&& Int32.toUInt32 31)).toInt32) hx hb d_Model_feed_118 rfl ?_
  refine lv_sipush (v := 255) hx hb d_Model_feed_119 (by decide) ?_
  refine lv_iand hx hb d_Model_feed_122 ?_
  have h123 : vp_in 2 2060 := by unfold vp_in; decide
  refine va_iast hx hb hK hP hD hS 0 0 rfl rfl h123 d_Model_feed_123 (fun H123 locs hP hD hS => ?_)
  have hP : va_P (dC, dI) classes [(oc, .inl (cI, 2060, .inl (upd g123 (2 : Int32).toNatClampNeg (((a0.toUInt32 >>> ((8 : Int32).toUInt32 &&& Int32.toUInt32 31)).toInt32) &&& 255)))), (q0, .inr (12, [.int 0, .int 3, .int wg, .int nc, .int nl, .ref oc, .ref so, .ref rv, .ref sp, .int qs, .ref rz, .ref bl, .ref ww, .ref hs, .ref fi, .ref pm, .ref mx, .ref my, .ref mm, .ref mq, .ref mz, .ref wy, .ref fn, .int si, .int cs, .int cn, .int fa, .int pu, .int de, .int ve, .long nw, .int mk]))] H123 := hP
  have hD : va_D A [(oc, .inl (cI, 2060, .inl (upd g123 (2 : Int32).toNatClampNeg (((a0.toUInt32 >>> ((8 : Int32).toUInt32 &&& Int32.toUInt32 31)).toInt32) &&& 255)))), (q0, .inr (12, [.int 0, .int 3, .int wg, .int nc, .int nl, .ref oc, .ref so, .ref rv, .ref sp, .int qs, .ref rz, .ref bl, .ref ww, .ref hs, .ref fi, .ref pm, .ref mx, .ref my, .ref mm, .ref mq, .ref mz, .ref wy, .ref fn, .int si, .int cs, .int cn, .int fa, .int pu, .int de, .int ve, .long nw, .int mk]))] := hD
  generalize upd g123 (2 : Int32).toNatClampNeg (((a0.toUInt32 >>> ((8 : Int32).toUInt32 &&& Int32.toUInt32 31)).toInt32) &&& 255) = g123 at hP hD
  refine lv_iinc (v := 3) (lv' := [(6, .int 3), (7, .int a0), (0, .ref q0), (1, .int a0), (2, .int a1), (3, .int a2), (4, .int a3), (5, .int a4)]) hx hb d_Model_feed_124 hl (k := 1) rfl (by decide) (by decide) rfl (fun ls hl => ?_)
  refine lv_goto (tgt := 36) hx hb d_Model_feed_127 (by decide) ?_
  refine lv_iload hx hb d_Model_feed_36 (lv_at hl 0 rfl) ?_
  refine lv_bipush (v := 20) hx hb d_Model_feed_38 (by decide) ?_
  refine lv_icmp_ge (tgt := 130) hx hb d_Model_feed_40 (by decide) (fun c40 => ?_) (fun c40 => ?_)
  · exact absurd c40 (by decide)
  refine lv_iload hx hb d_Model_feed_43 (lv_at hl 0 rfl) ?_
  refine lv_iconst (v := 4) hx hb d_Model_feed_45 (by decide) ?_
  refine lv_icmp_ge (tgt := 53) hx hb d_Model_feed_46 (by decide) (fun c46 => ?_) (fun c46 => ?_)
  · exact absurd c46 (by decide)
  refine lv_iload_n hx hb d_Model_feed_49 rfl (lv_at hl 3 rfl) ?_
  refine lv_goto (tgt := 89) hx hb d_Model_feed_50 (by decide) ?_
  refine lv_istore (lv' := [(7, .int a0), (6, .int 3), (0, .ref q0), (1, .int a0), (2, .int a1), (3, .int a2), (4, .int a3), (5, .int a4)]) hx hb d_Model_feed_89 hl (by decide) rfl (fun ls hl => ?_)
  refine lv_aload_n hx hb d_Model_feed_91 rfl (lv_at hl 2 rfl) ?_
  refine va_get (v := .ref oc) hx hb htb i_Model hown hK hP 1 rfl rfl 5 (by decide) (htb _ q7_219) (fun _ h9 => h9) rfl d_Model_feed_92 ?_
  refine lv_aload_n hx hb d_Model_feed_95 rfl (lv_at hl 2 rfl) ?_
  refine lv_dup hx hb d_Model_feed_96 rfl ?_
  refine va_get (v := .int 3) hx hb htb i_Model hown hK hP 1 rfl rfl 1 (by decide) (htb _ q7_215) (fun _ h9 => h9) rfl d_Model_feed_97 ?_
  refine lv_dup_x1 hx hb d_Model_feed_100 rfl rfl ?_
  refine lv_iconst (v := 1) hx hb d_Model_feed_101 (by decide) ?_
  refine lv_iadd hx hb d_Model_feed_102 ?_
  rw [show (3 + 1 : Int32) = 4 from by decide]
  refine va_put (v := .int 4) (ty := .int) hx hb htb i_Model t_Model t_Model_ok n_Model hown hK hP hD hS 1 rfl rfl 1 (by decide) (htb _ q7_215) (fun _ h9 => h9) rfl (by decide +kernel) rfl rfl (Nat.le_of_ble_eq_true rfl) d_Model_feed_103 (fun H103 locs hP hD hS => ?_)
  have hP : va_P (dC, dI) classes [(oc, .inl (cI, 2060, .inl g123)), (q0, .inr (12, [.int 0, .int 4, .int wg, .int nc, .int nl, .ref oc, .ref so, .ref rv, .ref sp, .int qs, .ref rz, .ref bl, .ref ww, .ref hs, .ref fi, .ref pm, .ref mx, .ref my, .ref mm, .ref mq, .ref mz, .ref wy, .ref fn, .int si, .int cs, .int cn, .int fa, .int pu, .int de, .int ve, .long nw, .int mk]))] H103 := hP
  have hD : va_D A [(oc, .inl (cI, 2060, .inl g123)), (q0, .inr (12, [.int 0, .int 4, .int wg, .int nc, .int nl, .ref oc, .ref so, .ref rv, .ref sp, .int qs, .ref rz, .ref bl, .ref ww, .ref hs, .ref fi, .ref pm, .ref mx, .ref my, .ref mm, .ref mq, .ref mz, .ref wy, .ref fn, .int si, .int cs, .int cn, .int fa, .int pu, .int de, .int ve, .long nw, .int mk]))] := hD
  refine lv_iload hx hb d_Model_feed_106 (lv_at hl 0 rfl) ?_
  refine lv_bipush (v := 24) hx hb d_Model_feed_108 (by decide) ?_
  refine lv_bipush (v := 8) hx hb d_Model_feed_110 (by decide) ?_
  refine lv_iload hx hb d_Model_feed_112 (lv_at hl 1 rfl) ?_
  refine lv_iconst (v := 3) hx hb d_Model_feed_114 (by decide) ?_
  refine lv_iand hx hb d_Model_feed_115 ?_
  rw [show (3 &&& 3 : Int32) = 3 from by decide]
  refine lv_imul hx hb d_Model_feed_116 ?_
  rw [show (8 * 3 : Int32) = 24 from by decide]
  refine lv_isub hx hb d_Model_feed_117 ?_
  rw [show (24 - 24 : Int32) = 0 from by decide]
  refine lv_iushr (v := (a0.toUInt32 >>> ((0 : Int32).toUInt32 &&& Int32.toUInt32 31)).toInt32) hx hb d_Model_feed_118 rfl ?_
  refine lv_sipush (v := 255) hx hb d_Model_feed_119 (by decide) ?_
  refine lv_iand hx hb d_Model_feed_122 ?_
  have h123 : vp_in 3 2060 := by unfold vp_in; decide
  refine va_iast hx hb hK hP hD hS 0 0 rfl rfl h123 d_Model_feed_123 (fun H123 locs hP hD hS => ?_)
  have hP : va_P (dC, dI) classes [(oc, .inl (cI, 2060, .inl (upd g123 (3 : Int32).toNatClampNeg (((a0.toUInt32 >>> ((0 : Int32).toUInt32 &&& Int32.toUInt32 31)).toInt32) &&& 255)))), (q0, .inr (12, [.int 0, .int 4, .int wg, .int nc, .int nl, .ref oc, .ref so, .ref rv, .ref sp, .int qs, .ref rz, .ref bl, .ref ww, .ref hs, .ref fi, .ref pm, .ref mx, .ref my, .ref mm, .ref mq, .ref mz, .ref wy, .ref fn, .int si, .int cs, .int cn, .int fa, .int pu, .int de, .int ve, .long nw, .int mk]))] H123 := hP
  have hD : va_D A [(oc, .inl (cI, 2060, .inl (upd g123 (3 : Int32).toNatClampNeg (((a0.toUInt32 >>> ((0 : Int32).toUInt32 &&& Int32.toUInt32 31)).toInt32) &&& 255)))), (q0, .inr (12, [.int 0, .int 4, .int wg, .int nc, .int nl, .ref oc, .ref so, .ref rv, .ref sp, .int qs, .ref rz, .ref bl, .ref ww, .ref hs, .ref fi, .ref pm, .ref mx, .ref my, .ref mm, .ref mq, .ref mz, .ref wy, .ref fn, .int si, .int cs, .int cn, .int fa, .int pu, .int de, .int ve, .long nw, .int mk]))] := hD
  generalize upd g123 (3 : Int32).toNatClampNeg (((a0.toUInt32 >>> ((0 : Int32).toUInt32 &&& Int32.toUInt32 31)).toInt32) &&& 255) = g123 at hP hD
  refine lv_iinc (v := 4) (lv' := [(6, .int 4), (7, .int a0), (0, .ref q0), (1, .int a0), (2, .int a1), (3, .int a2), (4, .int a3), (5, .int a4)]) hx hb d_Model_feed_124 hl (k := 1) rfl (by decide) (by decide) rfl (fun ls hl => ?_)
  refine lv_goto (tgt := 36) hx hb d_Model_feed_127 (by decide) ?_
  refine lv_iload hx hb d_Model_feed_36 (lv_at hl 0 rfl) ?_
  refine lv_bipush (v := 20) hx hb d_Model_feed_38 (by decide) ?_
  refine lv_icmp_ge (tgt := 130) hx hb d_Model_feed_40 (by decide) (fun c40 => ?_) (fun c40 => ?_)
  · exact absurd c40 (by decide)
  refine lv_iload hx hb d_Model_feed_43 (lv_at hl 0 rfl) ?_
  refine lv_iconst (v := 4) hx hb d_Model_feed_45 (by decide) ?_
  refine lv_icmp_ge (tgt := 53) hx hb d_Model_feed_46 (by decide) (fun c46 => ?_) (fun c46 => ?_)
  rotate_left
  · exact absurd c46 (by decide)
  refine lv_iload hx hb d_Model_feed_53 (lv_at hl 0 rfl) ?_
  refine lv_bipush (v := 8) hx hb d_Model_feed_55 (by decide) ?_
  refine lv_icmp_ge (tgt := 64) hx hb d_Model_feed_57 (by decide) (fun c57 => ?_) (fun c57 => ?_)
  · exact absurd c57 (by decide)
  refine lv_iload_n hx hb d_Model_feed_60 rfl (lv_at hl 4 rfl) ?_
  refine lv_goto (tgt := 89) hx hb d_Model_feed_61 (by decide) ?_
  refine lv_istore (lv' := [(7, .int a1), (6, .int 4), (0, .ref q0), (1, .int a0), (2, .int a1), (3, .int a2), (4, .int a3), (5, .int a4)]) hx hb d_Model_feed_89 hl (by decide) rfl (fun ls hl => ?_)
  refine lv_aload_n hx hb d_Model_feed_91 rfl (lv_at hl 2 rfl) ?_
  refine va_get (v := .ref oc) hx hb htb i_Model hown hK hP 1 rfl rfl 5 (by decide) (htb _ q7_219) (fun _ h9 => h9) rfl d_Model_feed_92 ?_
  refine lv_aload_n hx hb d_Model_feed_95 rfl (lv_at hl 2 rfl) ?_
  refine lv_dup hx hb d_Model_feed_96 rfl ?_
  refine va_get (v := .int 4) hx hb htb i_Model hown hK hP 1 rfl rfl 1 (by decide) (htb _ q7_215) (fun _ h9 => h9) rfl d_Model_feed_97 ?_
  refine lv_dup_x1 hx hb d_Model_feed_100 rfl rfl ?_
  refine lv_iconst (v := 1) hx hb d_Model_feed_101 (by decide) ?_
  refine lv_iadd hx hb d_Model_feed_102 ?_
  rw [show (4 + 1 : Int32) = 5 from by decide]
  refine va_put (v := .int 5) (ty := .int) hx hb htb i_Model t_Model t_Model_ok n_Model hown hK hP hD hS 1 rfl rfl 1 (by decide) (htb _ q7_215) (fun _ h9 => h9) rfl (by decide +kernel) rfl rfl (Nat.le_of_ble_eq_true rfl) d_Model_feed_103 (fun H103 locs hP hD hS => ?_)
  have hP : va_P (dC, dI) classes [(oc, .inl (cI, 2060, .inl g123)), (q0, .inr (12, [.int 0, .int 5, .int wg, .int nc, .int nl, .ref oc, .ref so, .ref rv, .ref sp, .int qs, .ref rz, .ref bl, .ref ww, .ref hs, .ref fi, .ref pm, .ref mx, .ref my, .ref mm, .ref mq, .ref mz, .ref wy, .ref fn, .int si, .int cs, .int cn, .int fa, .int pu, .int de, .int ve, .long nw, .int mk]))] H103 := hP
  have hD : va_D A [(oc, .inl (cI, 2060, .inl g123)), (q0, .inr (12, [.int 0, .int 5, .int wg, .int nc, .int nl, .ref oc, .ref so, .ref rv, .ref sp, .int qs, .ref rz, .ref bl, .ref ww, .ref hs, .ref fi, .ref pm, .ref mx, .ref my, .ref mm, .ref mq, .ref mz, .ref wy, .ref fn, .int si, .int cs, .int cn, .int fa, .int pu, .int de, .int ve, .long nw, .int mk]))] := hD
  refine lv_iload hx hb d_Model_feed_106 (lv_at hl 0 rfl) ?_
  refine lv_bipush (v := 24) hx hb d_Model_feed_108 (by decide) ?_
  refine lv_bipush (v := 8) hx hb d_Model_feed_110 (by decide) ?_
  refine lv_iload hx hb d_Model_feed_112 (lv_at hl 1 rfl) ?_
  refine lv_iconst (v := 3) hx hb d_Model_feed_114 (by decide) ?_
  refine lv_iand hx hb d_Model_feed_115 ?_
  rw [show (4 &&& 3 : Int32) = 0 from by decide]
  refine lv_imul hx hb d_Model_feed_116 ?_
  rw [show (8 * 0 : Int32) = 0 from by decide]
  refine lv_isub hx hb d_Model_feed_117 ?_
  rw [show (24 - 0 : Int32) = 24 from by decide]
  refine lv_iushr (v := (a1.toUInt32 >>> ((24 : Int32).toUInt32 &&& Int32.toUInt32 31)).toInt32) hx hb d_Model_feed_118 rfl ?_
  refine lv_sipush (v := 255) hx hb d_Model_feed_119 (by decide) ?_
  refine lv_iand hx hb d_Model_feed_122 ?_
  have h123 : vp_in 4 2060 := by unfold vp_in; decide
  refine va_iast hx hb hK hP hD hS 0 0 rfl rfl h123 d_Model_feed_123 (fun H123 locs hP hD hS => ?_)
  have hP : va_P (dC, dI) classes [(oc, .inl (cI, 2060, .inl (upd g123 (4 : Int32).toNatClampNeg (((a1.toUInt32 >>> ((24 : Int32).toUInt32 &&& Int32.toUInt32 31)).toInt32) &&& 255)))), (q0, .inr (12, [.int 0, .int 5, .int wg, .int nc, .int nl, .ref oc, .ref so, .ref rv, .ref sp, .int qs, .ref rz, .ref bl, .ref ww, .ref hs, .ref fi, .ref pm, .ref mx, .ref my, .ref mm, .ref mq, .ref mz, .ref wy, .ref fn, .int si, .int cs, .int cn, .int fa, .int pu, .int de, .int ve, .long nw, .int mk]))] H123 := hP
  have hD : va_D A [(oc, .inl (cI, 2060, .inl (upd g123 (4 : Int32).toNatClampNeg (((a1.toUInt32 >>> ((24 : Int32).toUInt32 &&& Int32.toUInt32 31)).toInt32) &&& 255)))), (q0, .inr (12, [.int 0, .int 5, .int wg, .int nc, .int nl, .ref oc, .ref so, .ref rv, .ref sp, .int qs, .ref rz, .ref bl, .ref ww, .ref hs, .ref fi, .ref pm, .ref mx, .ref my, .ref mm, .ref mq, .ref mz, .ref wy, .ref fn, .int si, .int cs, .int cn, .int fa, .int pu, .int de, .int ve, .long nw, .int mk]))] := hD
  generalize upd g123 (4 : Int32).toNatClampNeg (((a1.toUInt32 >>> ((24 : Int32).toUInt32 &&& Int32.toUInt32 31)).toInt32) &&& 255) = g123 at hP hD
  refine lv_iinc (v := 5) (lv' := [(6, .int 5), (7, .int a1), (0, .ref q0), (1, .int a0), (2, .int a1), (3, .int a2), (4, .int a3), (5, .int a4)]) hx hb d_Model_feed_124 hl (k := 1) rfl (by decide) (by decide) rfl (fun ls hl => ?_)
  refine lv_goto (tgt := 36) hx hb d_Model_feed_127 (by decide) ?_
  refine lv_iload hx hb d_Model_feed_36 (lv_at hl 0 rfl) ?_
  refine lv_bipush (v := 20) hx hb d_Model_feed_38 (by decide) ?_
  refine lv_icmp_ge (tgt := 130) hx hb d_Model_feed_40 (by decide) (fun c40 => ?_) (fun c40 => ?_)
  · exact absurd c40 (by decide)
  refine lv_iload hx hb d_Model_feed_43 (lv_at hl 0 rfl) ?_
  refine lv_iconst (v := 4) hx hb d_Model_feed_45 (by decide) ?_
  refine lv_icmp_ge (tgt := 53) hx hb d_Model_feed_46 (by decide) (fun c46 => ?_) (fun c46 => ?_)
  rotate_left
  · exact absurd c46 (by decide)
  refine lv_iload hx hb d_Model_feed_53 (lv_at hl 0 rfl) ?_
  refine lv_bipush (v := 8) hx hb d_Model_feed_55 (by decide) ?_
  refine lv_icmp_ge (tgt := 64) hx hb d_Model_feed_57 (by decide) (fun c57 => ?_) (fun c57 => ?_)
  · exact absurd c57 (by decide)
  refine lv_iload_n hx hb d_Model_feed_60 rfl (lv_at hl 4 rfl) ?_
  refine lv_goto (tgt := 89) hx hb d_Model_feed_61 (by decide) ?_
  refine lv_istore (lv' := [(7, .int a1), (6, .int 5), (0, .ref q0), (1, .int a0), (2, .int a1), (3, .int a2), (4, .int a3), (5, .int a4)]) hx hb d_Model_feed_89 hl (by decide) rfl (fun ls hl => ?_)
  refine lv_aload_n hx hb d_Model_feed_91 rfl (lv_at hl 2 rfl) ?_
  refine va_get (v := .ref oc) hx hb htb i_Model hown hK hP 1 rfl rfl 5 (by decide) (htb _ q7_219) (fun _ h9 => h9) rfl d_Model_feed_92 ?_
  refine lv_aload_n hx hb d_Model_feed_95 rfl (lv_at hl 2 rfl) ?_
  refine lv_dup hx hb d_Model_feed_96 rfl ?_
  refine va_get (v := .int 5) hx hb htb i_Model hown hK hP 1 rfl rfl 1 (by decide) (htb _ q7_215) (fun _ h9 => h9) rfl d_Model_feed_97 ?_
  refine lv_dup_x1 hx hb d_Model_feed_100 rfl rfl ?_
  refine lv_iconst (v := 1) hx hb d_Model_feed_101 (by decide) ?_
  refine lv_iadd hx hb d_Model_feed_102 ?_
  rw [show (5 + 1 : Int32) = 6 from by decide]
  refine va_put (v := .int 6) (ty := .int) hx hb htb i_Model t_Model t_Model_ok n_Model hown hK hP hD hS 1 rfl rfl 1 (by decide) (htb _ q7_215) (fun _ h9 => h9) rfl (by decide +kernel) rfl rfl (Nat.le_of_ble_eq_true rfl) d_Model_feed_103 (fun H103 locs hP hD hS => ?_)
  have hP : va_P (dC, dI) classes [(oc, .inl (cI, 2060, .inl g123)), (q0, .inr (12, [.int 0, .int 6, .int wg, .int nc, .int nl, .ref oc, .ref so, .ref rv, .ref sp, .int qs, .ref rz, .ref bl, .ref ww, .ref hs, .ref fi, .ref pm, .ref mx, .ref my, .ref mm, .ref mq, .ref mz, .ref wy, .ref fn, .int si, .int cs, .int cn, .int fa, .int pu, .int de, .int ve, .long nw, .int mk]))] H103 := hP
  have hD : va_D A [(oc, .inl (cI, 2060, .inl g123)), (q0, .inr (12, [.int 0, .int 6, .int wg, .int nc, .int nl, .ref oc, .ref so, .ref rv, .ref sp, .int qs, .ref rz, .ref bl, .ref ww, .ref hs, .ref fi, .ref pm, .ref mx, .ref my, .ref mm, .ref mq, .ref mz, .ref wy, .ref fn, .int si, .int cs, .int cn, .int fa, .int pu, .int de, .int ve, .long nw, .int mk]))] := hD
  refine lv_iload hx hb d_Model_feed_106 (lv_at hl 0 rfl) ?_
  refine lv_bipush (v := 24) hx hb d_Model_feed_108 (by decide) ?_
  refine lv_bipush (v := 8) hx hb d_Model_feed_110 (by decide) ?_
  refine lv_iload hx hb d_Model_feed_112 (lv_at hl 1 rfl) ?_
  refine lv_iconst (v := 3) hx hb d_Model_feed_114 (by decide) ?_
  refine lv_iand hx hb d_Model_feed_115 ?_
  rw [show (5 &&& 3 : Int32) = 1 from by decide]
  refine lv_imul hx hb d_Model_feed_116 ?_
  rw [show (8 * 1 : Int32) = 8 from by decide]
  refine lv_isub hx hb d_Model_feed_117 ?_
  rw [show (24 - 8 : Int32) = 16 from by decide]
  refine lv_iushr (v := (a1.toUInt32 >>> ((16 : Int32).toUInt32 &&& Int32.toUInt32 31)).toInt32) hx hb d_Model_feed_118 rfl ?_
  refine lv_sipush (v := 255) hx hb d_Model_feed_119 (by decide) ?_
  refine lv_iand hx hb d_Model_feed_122 ?_
  have h123 : vp_in 5 2060 := by unfold vp_in; decide
  refine va_iast hx hb hK hP hD hS 0 0 rfl rfl h123 d_Model_feed_123 (fun H123 locs hP hD hS => ?_)
  have hP : va_P (dC, dI) classes [(oc, .inl (cI, 2060, .inl (upd g123 (5 : Int32).toNatClampNeg (((a1.toUInt32 >>> ((16 : Int32).toUInt32 &&& Int32.toUInt32 31)).toInt32) &&& 255)))), (q0, .inr (12, [.int 0, .int 6, .int wg, .int nc, .int nl, .ref oc, .ref so, .ref rv, .ref sp, .int qs, .ref rz, .ref bl, .ref ww, .ref hs, .ref fi, .ref pm, .ref mx, .ref my, .ref mm, .ref mq, .ref mz, .ref wy, .ref fn, .int si, .int cs, .int cn, .int fa, .int pu, .int de, .int ve, .long nw, .int mk]))] H123 := hP
  have hD : va_D A [(oc, .inl (cI, 2060, .inl (upd g123 (5 : Int32).toNatClampNeg (((a1.toUInt32 >>> ((16 : Int32).toUInt32 &&& Int32.toUInt32 31)).toInt32) &&& 255)))), (q0, .inr (12, [.int 0, .int 6, .int wg, .int nc, .int nl, .ref oc, .ref so, .ref rv, .ref sp, .int qs, .ref rz, .ref bl, .ref ww, .ref hs, .ref fi, .ref pm, .ref mx, .ref my, .ref mm, .ref mq, .ref mz, .ref wy, .ref fn, .int si, .int cs, .int cn, .int fa, .int pu, .int de, .int ve, .long nw, .int mk]))] := hD
  generalize upd g123 (5 : Int32).toNatClampNeg (((a1.toUInt32 >>> ((16 : Int32).toUInt32 &&& Int32.toUInt32 31)).toInt32) &&& 255) = g123 at hP hD
  refine lv_iinc (v := 6) (lv' := [(6, .int 6), (7, .int a1), (0, .ref q0), (1, .int a0), (2, .int a1), (3, .int a2), (4, .int a3), (5, .int a4)]) hx hb d_Model_feed_124 hl (k := 1) rfl (by decide) (by decide) rfl (fun ls hl => ?_)
  refine lv_goto (tgt := 36) hx hb d_Model_feed_127 (by decide) ?_
  refine lv_iload hx hb d_Model_feed_36 (lv_at hl 0 rfl) ?_
  refine lv_bipush (v := 20) hx hb d_Model_feed_38 (by decide) ?_
  refine lv_icmp_ge (tgt := 130) hx hb d_Model_feed_40 (by decide) (fun c40 => ?_) (fun c40 => ?_)
  · exact absurd c40 (by decide)
  refine lv_iload hx hb d_Model_feed_43 (lv_at hl 0 rfl) ?_
  refine lv_iconst (v := 4) hx hb d_Model_feed_45 (by decide) ?_
  refine lv_icmp_ge (tgt := 53) hx hb d_Model_feed_46 (by decide) (fun c46 => ?_) (fun c46 => ?_)
  rotate_left
  · exact absurd c46 (by decide)
  refine lv_iload hx hb d_Model_feed_53 (lv_at hl 0 rfl) ?_
  refine lv_bipush (v := 8) hx hb d_Model_feed_55 (by decide) ?_
  refine lv_icmp_ge (tgt := 64) hx hb d_Model_feed_57 (by decide) (fun c57 => ?_) (fun c57 => ?_)
  · exact absurd c57 (by decide)
  refine lv_iload_n hx hb d_Model_feed_60 rfl (lv_at hl 4 rfl) ?_
  refine lv_goto (tgt := 89) hx hb d_Model_feed_61 (by decide) ?_
  refine lv_istore (lv' := [(7, .int a1), (6, .int 6), (0, .ref q0), (1, .int a0), (2, .int a1), (3, .int a2), (4, .int a3), (5, .int a4)]) hx hb d_Model_feed_89 hl (by decide) rfl (fun ls hl => ?_)
  refine lv_aload_n hx hb d_Model_feed_91 rfl (lv_at hl 2 rfl) ?_
  refine va_get (v := .ref oc) hx hb htb i_Model hown hK hP 1 rfl rfl 5 (by decide) (htb _ q7_219) (fun _ h9 => h9) rfl d_Model_feed_92 ?_
  refine lv_aload_n hx hb d_Model_feed_95 rfl (lv_at hl 2 rfl) ?_
  refine lv_dup hx hb d_Model_feed_96 rfl ?_
  refine va_get (v := .int 6) hx hb htb i_Model hown hK hP 1 rfl rfl 1 (by decide) (htb _ q7_215) (fun _ h9 => h9) rfl d_Model_feed_97 ?_
  refine lv_dup_x1 hx hb d_Model_feed_100 rfl rfl ?_
  refine lv_iconst (v := 1) hx hb d_Model_feed_101 (by decide) ?_
  refine lv_iadd hx hb d_Model_feed_102 ?_
  rw [show (6 + 1 : Int32) = 7 from by decide]
  refine va_put (v := .int 7) (ty := .int) hx hb htb i_Model t_Model t_Model_ok n_Model hown hK hP hD hS 1 rfl rfl 1 (by decide) (htb _ q7_215) (fun _ h9 => h9) rfl (by decide +kernel) rfl rfl (Nat.le_of_ble_eq_true rfl) d_Model_feed_103 (fun H103 locs hP hD hS => ?_)
  have hP : va_P (dC, dI) classes [(oc, .inl (cI, 2060, .inl g123)), (q0, .inr (12, [.int 0, .int 7, .int wg, .int nc, .int nl, .ref oc, .ref so, .ref rv, .ref sp, .int qs, .ref rz, .ref bl, .ref ww, .ref hs, .ref fi, .ref pm, .ref mx, .ref my, .ref mm, .ref mq, .ref mz, .ref wy, .ref fn, .int si, .int cs, .int cn, .int fa, .int pu, .int de, .int ve, .long nw, .int mk]))] H103 := hP
  have hD : va_D A [(oc, .inl (cI, 2060, .inl g123)), (q0, .inr (12, [.int 0, .int 7, .int wg, .int nc, .int nl, .ref oc, .ref so, .ref rv, .ref sp, .int qs, .ref rz, .ref bl, .ref ww, .ref hs, .ref fi, .ref pm, .ref mx, .ref my, .ref mm, .ref mq, .ref mz, .ref wy, .ref fn, .int si, .int cs, .int cn, .int fa, .int pu, .int de, .int ve, .long nw, .int mk]))] := hD
  refine lv_iload hx hb d_Model_feed_106 (lv_at hl 0 rfl) ?_
  refine lv_bipush (v := 24) hx hb d_Model_feed_108 (by decide) ?_
  refine lv_bipush (v := 8) hx hb d_Model_feed_110 (by decide) ?_
  refine lv_iload hx hb d_Model_feed_112 (lv_at hl 1 rfl) ?_
  refine lv_iconst (v := 3) hx hb d_Model_feed_114 (by decide) ?_
  refine lv_iand hx hb d_Model_feed_115 ?_
  rw [show (6 &&& 3 : Int32) = 2 from by decide]
  refine lv_imul hx hb d_Model_feed_116 ?_
  rw [show (8 * 2 : Int32) = 16 from by decide]
  refine lv_isub hx hb d_Model_feed_117 ?_
  rw [show (24 - 16 : Int32) = 8 from by decide]
  refine lv_iushr (v := (a1.toUInt32 >>> ((8 : Int32).toUInt32 &&& Int32.toUInt32 31)).toInt32) hx hb d_Model_feed_118 rfl ?_
  refine lv_sipush (v := 255) hx hb d_Model_feed_119 (by decide) ?_
  refine lv_iand hx hb d_Model_feed_122 ?_
  have h123 : vp_in 6 2060 := by unfold vp_in; decide
  refine va_iast hx hb hK hP hD hS 0 0 rfl rfl h123 d_Model_feed_123 (fun H123 locs hP hD hS => ?_)
  have hP : va_P (dC, dI) classes [(oc, .inl (cI, 2060, .inl (upd g123 (6 : Int32).toNatClampNeg (((a1.toUInt32 >>> ((8 : Int32).toUInt32 &&& Int32.toUInt32 31)).toInt32) &&& 255)))), (q0, .inr (12, [.int 0, .int 7, .int wg, .int nc, .int nl, .ref oc, .ref so, .ref rv, .ref sp, .int qs, .ref rz, .ref bl, .ref ww, .ref hs, .ref fi, .ref pm, .ref mx, .ref my, .ref mm, .ref mq, .ref mz, .ref wy, .ref fn, .int si, .int cs, .int cn, .int fa, .int pu, .int de, .int ve, .long nw, .int mk]))] H123 := hP
  have hD : va_D A [(oc, .inl (cI, 2060, .inl (upd g123 (6 : Int32).toNatClampNeg (((a1.toUInt32 >>> ((8 : Int32).toUInt32 &&& Int32.toUInt32 31)).toInt32) &&& 255)))), (q0, .inr (12, [.int 0, .int 7, .int wg, .int nc, .int nl, .ref oc, .ref so, .ref rv, .ref sp, .int qs, .ref rz, .ref bl, .ref ww, .ref hs, .ref fi, .ref pm, .ref mx, .ref my, .ref mm, .ref mq, .ref mz, .ref wy, .ref fn, .int si, .int cs, .int cn, .int fa, .int pu, .int de, .int ve, .long nw, .int mk]))] := hD
  generalize upd g123 (6 : Int32).toNatClampNeg (((a1.toUInt32 >>> ((8 : Int32).toUInt32 &&& Int32.toUInt32 31)).toInt32) &&& 255) = g123 at hP hD
  refine lv_iinc (v := 7) (lv' := [(6, .int 7), (7, .int a1), (0, .ref q0), (1, .int a0), (2, .int a1), (3, .int a2), (4, .int a3), (5, .int a4)]) hx hb d_Model_feed_124 hl (k := 1) rfl (by decide) (by decide) rfl (fun ls hl => ?_)
  refine lv_goto (tgt := 36) hx hb d_Model_feed_127 (by decide) ?_
  refine lv_iload hx hb d_Model_feed_36 (lv_at hl 0 rfl) ?_
  refine lv_bipush (v := 20) hx hb d_Model_feed_38 (by decide) ?_
  refine lv_icmp_ge (tgt := 130) hx hb d_Model_feed_40 (by decide) (fun c40 => ?_) (fun c40 => ?_)
  · exact absurd c40 (by decide)
  refine lv_iload hx hb d_Model_feed_43 (lv_at hl 0 rfl) ?_
  refine lv_iconst (v := 4) hx hb d_Model_feed_45 (by decide) ?_
  refine lv_icmp_ge (tgt := 53) hx hb d_Model_feed_46 (by decide) (fun c46 => ?_) (fun c46 => ?_)
  rotate_left
  · exact absurd c46 (by decide)
  refine lv_iload hx hb d_Model_feed_53 (lv_at hl 0 rfl) ?_
  refine lv_bipush (v := 8) hx hb d_Model_feed_55 (by decide) ?_
  refine lv_icmp_ge (tgt := 64) hx hb d_Model_feed_57 (by decide) (fun c57 => ?_) (fun c57 => ?_)
  · exact absurd c57 (by decide)
  refine lv_iload_n hx hb d_Model_feed_60 rfl (lv_at hl 4 rfl) ?_
  refine lv_goto (tgt := 89) hx hb d_Model_feed_61 (by decide) ?_
  refine lv_istore (lv' := [(7, .int a1), (6, .int 7), (0, .ref q0), (1, .int a0), (2, .int a1), (3, .int a2), (4, .int a3), (5, .int a4)]) hx hb d_Model_feed_89 hl (by decide) rfl (fun ls hl => ?_)
  refine lv_aload_n hx hb d_Model_feed_91 rfl (lv_at hl 2 rfl) ?_
  refine va_get (v := .ref oc) hx hb htb i_Model hown hK hP 1 rfl rfl 5 (by decide) (htb _ q7_219) (fun _ h9 => h9) rfl d_Model_feed_92 ?_
  refine lv_aload_n hx hb d_Model_feed_95 rfl (lv_at hl 2 rfl) ?_
  refine lv_dup hx hb d_Model_feed_96 rfl ?_
  refine va_get (v := .int 7) hx hb htb i_Model hown hK hP 1 rfl rfl 1 (by decide) (htb _ q7_215) (fun _ h9 => h9) rfl d_Model_feed_97 ?_
  refine lv_dup_x1 hx hb d_Model_feed_100 rfl rfl ?_
  refine lv_iconst (v := 1) hx hb d_Model_feed_101 (by decide) ?_
  refine lv_iadd hx hb d_Model_feed_102 ?_
  rw [show (7 + 1 : Int32) = 8 from by decide]
  refine va_put (v := .int 8) (ty := .int) hx hb htb i_Model t_Model t_Model_ok n_Model hown hK hP hD hS 1 rfl rfl 1 (by decide) (htb _ q7_215) (fun _ h9 => h9) rfl (by decide +kernel) rfl rfl (Nat.le_of_ble_eq_true rfl) d_Model_feed_103 (fun H103 locs hP hD hS => ?_)
  have hP : va_P (dC, dI) classes [(oc, .inl (cI, 2060, .inl g123)), (q0, .inr (12, [.int 0, .int 8, .int wg, .int nc, .int nl, .ref oc, .ref so, .ref rv, .ref sp, .int qs, .ref rz, .ref bl, .ref ww, .ref hs, .ref fi, .ref pm, .ref mx, .ref my, .ref mm, .ref mq, .ref mz, .ref wy, .ref fn, .int si, .int cs, .int cn, .int fa, .int pu, .int de, .int ve, .long nw, .int mk]))] H103 := hP
  have hD : va_D A [(oc, .inl (cI, 2060, .inl g123)), (q0, .inr (12, [.int 0, .int 8, .int wg, .int nc, .int nl, .ref oc, .ref so, .ref rv, .ref sp, .int qs, .ref rz, .ref bl, .ref ww, .ref hs, .ref fi, .ref pm, .ref mx, .ref my, .ref mm, .ref mq, .ref mz, .ref wy, .ref fn, .int si, .int cs, .int cn, .int fa, .int pu, .int de, .int ve, .long nw, .int mk]))] := hD
  refine lv_iload hx hb d_Model_feed_106 (lv_at hl 0 rfl) ?_
  refine lv_bipush (v := 24) hx hb d_Model_feed_108 (by decide) ?_
  refine lv_bipush (v := 8) hx hb d_Model_feed_110 (by decide) ?_
  refine lv_iload hx hb d_Model_feed_112 (lv_at hl 1 rfl) ?_
  refine lv_iconst (v := 3) hx hb d_Model_feed_114 (by decide) ?_
  refine lv_iand hx hb d_Model_feed_115 ?_
  rw [show (7 &&& 3 : Int32) = 3 from by decide]
  refine lv_imul hx hb d_Model_feed_116 ?_
  rw [show (8 * 3 : Int32) = 24 from by decide]
  refine lv_isub hx hb d_Model_feed_117 ?_
  rw [show (24 - 24 : Int32) = 0 from by decide]
  refine lv_iushr (v := (a1.toUInt32 >>> ((0 : Int32).toUInt32 &&& Int32.toUInt32 31)).toInt32) hx hb d_Model_feed_118 rfl ?_
  refine lv_sipush (v := 255) hx hb d_Model_feed_119 (by decide) ?_
  refine lv_iand hx hb d_Model_feed_122 ?_
  have h123 : vp_in 7 2060 := by unfold vp_in; decide
  refine va_iast hx hb hK hP hD hS 0 0 rfl rfl h123 d_Model_feed_123 (fun H123 locs hP hD hS => ?_)
  have hP : va_P (dC, dI) classes [(oc, .inl (cI, 2060, .inl (upd g123 (7 : Int32).toNatClampNeg (((a1.toUInt32 >>> ((0 : Int32).toUInt32 &&& Int32.toUInt32 31)).toInt32) &&& 255)))), (q0, .inr (12, [.int 0, .int 8, .int wg, .int nc, .int nl, .ref oc, .ref so, .ref rv, .ref sp, .int qs, .ref rz, .ref bl, .ref ww, .ref hs, .ref fi, .ref pm, .ref mx, .ref my, .ref mm, .ref mq, .ref mz, .ref wy, .ref fn, .int si, .int cs, .int cn, .int fa, .int pu, .int de, .int ve, .long nw, .int mk]))] H123 := hP
  have hD : va_D A [(oc, .inl (cI, 2060, .inl (upd g123 (7 : Int32).toNatClampNeg (((a1.toUInt32 >>> ((0 : Int32).toUInt32 &&& Int32.toUInt32 31)).toInt32) &&& 255)))), (q0, .inr (12, [.int 0, .int 8, .int wg, .int nc, .int nl, .ref oc, .ref so, .ref rv, .ref sp, .int qs, .ref rz, .ref bl, .ref ww, .ref hs, .ref fi, .ref pm, .ref mx, .ref my, .ref mm, .ref mq, .ref mz, .ref wy, .ref fn, .int si, .int cs, .int cn, .int fa, .int pu, .int de, .int ve, .long nw, .int mk]))] := hD
  generalize upd g123 (7 : Int32).toNatClampNeg (((a1.toUInt32 >>> ((0 : Int32).toUInt32 &&& Int32.toUInt32 31)).toInt32) &&& 255) = g123 at hP hD
  refine lv_iinc (v := 8) (lv' := [(6, .int 8), (7, .int a1), (0, .ref q0), (1, .int a0), (2, .int a1), (3, .int a2), (4, .int a3), (5, .int a4)]) hx hb d_Model_feed_124 hl (k := 1) rfl (by decide) (by decide) rfl (fun ls hl => ?_)
  refine lv_goto (tgt := 36) hx hb d_Model_feed_127 (by decide) ?_
  refine lv_iload hx hb d_Model_feed_36 (lv_at hl 0 rfl) ?_
  refine lv_bipush (v := 20) hx hb d_Model_feed_38 (by decide) ?_
  refine lv_icmp_ge (tgt := 130) hx hb d_Model_feed_40 (by decide) (fun c40 => ?_) (fun c40 => ?_)
  · exact absurd c40 (by decide)
  refine lv_iload hx hb d_Model_feed_43 (lv_at hl 0 rfl) ?_
  refine lv_iconst (v := 4) hx hb d_Model_feed_45 (by decide) ?_
  refine lv_icmp_ge (tgt := 53) hx hb d_Model_feed_46 (by decide) (fun c46 => ?_) (fun c46 => ?_)
  rotate_left
  · exact absurd c46 (by decide)
  refine lv_iload hx hb d_Model_feed_53 (lv_at hl 0 rfl) ?_
  refine lv_bipush (v := 8) hx hb d_Model_feed_55 (by decide) ?_
  refine lv_icmp_ge (tgt := 64) hx hb d_Model_feed_57 (by decide) (fun c57 => ?_) (fun c57 => ?_)
  rotate_left
  · exact absurd c57 (by decide)
  refine lv_iload hx hb d_Model_feed_64 (lv_at hl 0 rfl) ?_
  refine lv_bipush (v := 12) hx hb d_Model_feed_66 (by decide) ?_
  refine lv_icmp_ge (tgt := 75) hx hb d_Model_feed_68 (by decide) (fun c68 => ?_) (fun c68 => ?_)
  · exact absurd c68 (by decide)
  refine lv_iload_n hx hb d_Model_feed_71 rfl (lv_at hl 5 rfl) ?_
  refine lv_goto (tgt := 89) hx hb d_Model_feed_72 (by decide) ?_
  refine lv_istore (lv' := [(7, .int a2), (6, .int 8), (0, .ref q0), (1, .int a0), (2, .int a1), (3, .int a2), (4, .int a3), (5, .int a4)]) hx hb d_Model_feed_89 hl (by decide) rfl (fun ls hl => ?_)
  refine lv_aload_n hx hb d_Model_feed_91 rfl (lv_at hl 2 rfl) ?_
  refine va_get (v := .ref oc) hx hb htb i_Model hown hK hP 1 rfl rfl 5 (by decide) (htb _ q7_219) (fun _ h9 => h9) rfl d_Model_feed_92 ?_
  refine lv_aload_n hx hb d_Model_feed_95 rfl (lv_at hl 2 rfl) ?_
  refine lv_dup hx hb d_Model_feed_96 rfl ?_
  refine va_get (v := .int 8) hx hb htb i_Model hown hK hP 1 rfl rfl 1 (by decide) (htb _ q7_215) (fun _ h9 => h9) rfl d_Model_feed_97 ?_
  refine lv_dup_x1 hx hb d_Model_feed_100 rfl rfl ?_
  refine lv_iconst (v := 1) hx hb d_Model_feed_101 (by decide) ?_
  refine lv_iadd hx hb d_Model_feed_102 ?_
  rw [show (8 + 1 : Int32) = 9 from by decide]
  refine va_put (v := .int 9) (ty := .int) hx hb htb i_Model t_Model t_Model_ok n_Model hown hK hP hD hS 1 rfl rfl 1 (by decide) (htb _ q7_215) (fun _ h9 => h9) rfl (by decide +kernel) rfl rfl (Nat.le_of_ble_eq_true rfl) d_Model_feed_103 (fun H103 locs hP hD hS => ?_)
  have hP : va_P (dC, dI) classes [(oc, .inl (cI, 2060, .inl g123)), (q0, .inr (12, [.int 0, .int 9, .int wg, .int nc, .int nl, .ref oc, .ref so, .ref rv, .ref sp, .int qs, .ref rz, .ref bl, .ref ww, .ref hs, .ref fi, .ref pm, .ref mx, .ref my, .ref mm, .ref mq, .ref mz, .ref wy, .ref fn, .int si, .int cs, .int cn, .int fa, .int pu, .int de, .int ve, .long nw, .int mk]))] H103 := hP
  have hD : va_D A [(oc, .inl (cI, 2060, .inl g123)), (q0, .inr (12, [.int 0, .int 9, .int wg, .int nc, .int nl, .ref oc, .ref so, .ref rv, .ref sp, .int qs, .ref rz, .ref bl, .ref ww, .ref hs, .ref fi, .ref pm, .ref mx, .ref my, .ref mm, .ref mq, .ref mz, .ref wy, .ref fn, .int si, .int cs, .int cn, .int fa, .int pu, .int de, .int ve, .long nw, .int mk]))] := hD
  refine lv_iload hx hb d_Model_feed_106 (lv_at hl 0 rfl) ?_
  refine lv_bipush (v := 24) hx hb d_Model_feed_108 (by decide) ?_
  refine lv_bipush (v := 8) hx hb d_Model_feed_110 (by decide) ?_
  refine lv_iload hx hb d_Model_feed_112 (lv_at hl 1 rfl) ?_
  refine lv_iconst (v := 3) hx hb d_Model_feed_114 (by decide) ?_
  refine lv_iand hx hb d_Model_feed_115 ?_
  rw [show (8 &&& 3 : Int32) = 0 from by decide]
  refine lv_imul hx hb d_Model_feed_116 ?_
  rw [show (8 * 0 : Int32) = 0 from by decide]
  refine lv_isub hx hb d_Model_feed_117 ?_
  rw [show (24 - 0 : Int32) = 24 from by decide]
  refine lv_iushr (v := (a2.toUInt32 >>> ((24 : Int32).toUInt32 &&& Int32.toUInt32 31)).toInt32) hx hb d_Model_feed_118 rfl ?_
  refine lv_sipush (v := 255) hx hb d_Model_feed_119 (by decide) ?_
  refine lv_iand hx hb d_Model_feed_122 ?_
  have h123 : vp_in 8 2060 := by unfold vp_in; decide
  refine va_iast hx hb hK hP hD hS 0 0 rfl rfl h123 d_Model_feed_123 (fun H123 locs hP hD hS => ?_)
  have hP : va_P (dC, dI) classes [(oc, .inl (cI, 2060, .inl (upd g123 (8 : Int32).toNatClampNeg (((a2.toUInt32 >>> ((24 : Int32).toUInt32 &&& Int32.toUInt32 31)).toInt32) &&& 255)))), (q0, .inr (12, [.int 0, .int 9, .int wg, .int nc, .int nl, .ref oc, .ref so, .ref rv, .ref sp, .int qs, .ref rz, .ref bl, .ref ww, .ref hs, .ref fi, .ref pm, .ref mx, .ref my, .ref mm, .ref mq, .ref mz, .ref wy, .ref fn, .int si, .int cs, .int cn, .int fa, .int pu, .int de, .int ve, .long nw, .int mk]))] H123 := hP
  have hD : va_D A [(oc, .inl (cI, 2060, .inl (upd g123 (8 : Int32).toNatClampNeg (((a2.toUInt32 >>> ((24 : Int32).toUInt32 &&& Int32.toUInt32 31)).toInt32) &&& 255)))), (q0, .inr (12, [.int 0, .int 9, .int wg, .int nc, .int nl, .ref oc, .ref so, .ref rv, .ref sp, .int qs, .ref rz, .ref bl, .ref ww, .ref hs, .ref fi, .ref pm, .ref mx, .ref my, .ref mm, .ref mq, .ref mz, .ref wy, .ref fn, .int si, .int cs, .int cn, .int fa, .int pu, .int de, .int ve, .long nw, .int mk]))] := hD
  generalize upd g123 (8 : Int32).toNatClampNeg (((a2.toUInt32 >>> ((24 : Int32).toUInt32 &&& Int32.toUInt32 31)).toInt32) &&& 255) = g123 at hP hD
  refine lv_iinc (v := 9) (lv' := [(6, .int 9), (7, .int a2), (0, .ref q0), (1, .int a0), (2, .int a1), (3, .int a2), (4, .int a3), (5, .int a4)]) hx hb d_Model_feed_124 hl (k := 1) rfl (by decide) (by decide) rfl (fun ls hl => ?_)
  refine lv_goto (tgt := 36) hx hb d_Model_feed_127 (by decide) ?_
  refine lv_iload hx hb d_Model_feed_36 (lv_at hl 0 rfl) ?_
  refine lv_bipush (v := 20) hx hb d_Model_feed_38 (by decide) ?_
  refine lv_icmp_ge (tgt := 130) hx hb d_Model_feed_40 (by decide) (fun c40 => ?_) (fun c40 => ?_)
  · exact absurd c40 (by decide)
  refine lv_iload hx hb d_Model_feed_43 (lv_at hl 0 rfl) ?_
  refine lv_iconst (v := 4) hx hb d_Model_feed_45 (by decide) ?_
  refine lv_icmp_ge (tgt := 53) hx hb d_Model_feed_46 (by decide) (fun c46 => ?_) (fun c46 => ?_)
  rotate_left
  · exact absurd c46 (by decide)
  refine lv_iload hx hb d_Model_feed_53 (lv_at hl 0 rfl) ?_
  refine lv_bipush (v := 8) hx hb d_Model_feed_55 (by decide) ?_
  refine lv_icmp_ge (tgt := 64) hx hb d_Model_feed_57 (by decide) (fun c57 => ?_) (fun c57 => ?_)
  rotate_left
  · exact absurd c57 (by decide)
  refine lv_iload hx hb d_Model_feed_64 (lv_at hl 0 rfl) ?_
  refine lv_bipush (v := 12) hx hb d_Model_feed_66 (by decide) ?_
  refine lv_icmp_ge (tgt := 75) hx hb d_Model_feed_68 (by decide) (fun c68 => ?_) (fun c68 => ?_)
  · exact absurd c68 (by decide)
  refine lv_iload_n hx hb d_Model_feed_71 rfl (lv_at hl 5 rfl) ?_
  refine lv_goto (tgt := 89) hx hb d_Model_feed_72 (by decide) ?_
  refine lv_istore (lv' := [(7, .int a2), (6, .int 9), (0, .ref q0), (1, .int a0), (2, .int a1), (3, .int a2), (4, .int a3), (5, .int a4)]) hx hb d_Model_feed_89 hl (by decide) rfl (fun ls hl => ?_)
  refine lv_aload_n hx hb d_Model_feed_91 rfl (lv_at hl 2 rfl) ?_
  refine va_get (v := .ref oc) hx hb htb i_Model hown hK hP 1 rfl rfl 5 (by decide) (htb _ q7_219) (fun _ h9 => h9) rfl d_Model_feed_92 ?_
  refine lv_aload_n hx hb d_Model_feed_95 rfl (lv_at hl 2 rfl) ?_
  refine lv_dup hx hb d_Model_feed_96 rfl ?_
  refine va_get (v := .int 9) hx hb htb i_Model hown hK hP 1 rfl rfl 1 (by decide) (htb _ q7_215) (fun _ h9 => h9) rfl d_Model_feed_97 ?_
  refine lv_dup_x1 hx hb d_Model_feed_100 rfl rfl ?_
  refine lv_iconst (v := 1) hx hb d_Model_feed_101 (by decide) ?_
  refine lv_iadd hx hb d_Model_feed_102 ?_
  rw [show (9 + 1 : Int32) = 10 from by decide]
  refine va_put (v := .int 10) (ty := .int) hx hb htb i_Model t_Model t_Model_ok n_Model hown hK hP hD hS 1 rfl rfl 1 (by decide) (htb _ q7_215) (fun _ h9 => h9) rfl (by decide +kernel) rfl rfl (Nat.le_of_ble_eq_true rfl) d_Model_feed_103 (fun H103 locs hP hD hS => ?_)
  have hP : va_P (dC, dI) classes [(oc, .inl (cI, 2060, .inl g123)), (q0, .inr (12, [.int 0, .int 10, .int wg, .int nc, .int nl, .ref oc, .ref so, .ref rv, .ref sp, .int qs, .ref rz, .ref bl, .ref ww, .ref hs, .ref fi, .ref pm, .ref mx, .ref my, .ref mm, .ref mq, .ref mz, .ref wy, .ref fn, .int si, .int cs, .int cn, .int fa, .int pu, .int de, .int ve, .long nw, .int mk]))] H103 := hP
  have hD : va_D A [(oc, .inl (cI, 2060, .inl g123)), (q0, .inr (12, [.int 0, .int 10, .int wg, .int nc, .int nl, .ref oc, .ref so, .ref rv, .ref sp, .int qs, .ref rz, .ref bl, .ref ww, .ref hs, .ref fi, .ref pm, .ref mx, .ref my, .ref mm, .ref mq, .ref mz, .ref wy, .ref fn, .int si, .int cs, .int cn, .int fa, .int pu, .int de, .int ve, .long nw, .int mk]))] := hD
  refine lv_iload hx hb d_Model_feed_106 (lv_at hl 0 rfl) ?_
  refine lv_bipush (v := 24) hx hb d_Model_feed_108 (by decide) ?_
  refine lv_bipush (v := 8) hx hb d_Model_feed_110 (by decide) ?_
  refine lv_iload hx hb d_Model_feed_112 (lv_at hl 1 rfl) ?_
  refine lv_iconst (v := 3) hx hb d_Model_feed_114 (by decide) ?_
  refine lv_iand hx hb d_Model_feed_115 ?_
  rw [show (9 &&& 3 : Int32) = 1 from by decide]
  refine lv_imul hx hb d_Model_feed_116 ?_
  rw [show (8 * 1 : Int32) = 8 from by decide]
  refine lv_isub hx hb d_Model_feed_117 ?_
  rw [show (24 - 8 : Int32) = 16 from by decide]
  refine lv_iushr (v := (a2.toUInt32 >>> ((16 : Int32).toUInt32 &&& Int32.toUInt32 31)).toInt32) hx hb d_Model_feed_118 rfl ?_
  refine lv_sipush (v := 255) hx hb d_Model_feed_119 (by decide) ?_
  refine lv_iand hx hb d_Model_feed_122 ?_
  have h123 : vp_in 9 2060 := by unfold vp_in; decide
  refine va_iast hx hb hK hP hD hS 0 0 rfl rfl h123 d_Model_feed_123 (fun H123 locs hP hD hS => ?_)
  have hP : va_P (dC, dI) classes [(oc, .inl (cI, 2060, .inl (upd g123 (9 : Int32).toNatClampNeg (((a2.toUInt32 >>> ((16 : Int32).toUInt32 &&& Int32.toUInt32 31)).toInt32) &&& 255)))), (q0, .inr (12, [.int 0, .int 10, .int wg, .int nc, .int nl, .ref oc, .ref so, .ref rv, .ref sp, .int qs, .ref rz, .ref bl, .ref ww, .ref hs, .ref fi, .ref pm, .ref mx, .ref my, .ref mm, .ref mq, .ref mz, .ref wy, .ref fn, .int si, .int cs, .int cn, .int fa, .int pu, .int de, .int ve, .long nw, .int mk]))] H123 := hP
  have hD : va_D A [(oc, .inl (cI, 2060, .inl (upd g123 (9 : Int32).toNatClampNeg (((a2.toUInt32 >>> ((16 : Int32).toUInt32 &&& Int32.toUInt32 31)).toInt32) &&& 255)))), (q0, .inr (12, [.int 0, .int 10, .int wg, .int nc, .int nl, .ref oc, .ref so, .ref rv, .ref sp, .int qs, .ref rz, .ref bl, .ref ww, .ref hs, .ref fi, .ref pm, .ref mx, .ref my, .ref mm, .ref mq, .ref mz, .ref wy, .ref fn, .int si, .int cs, .int cn, .int fa, .int pu, .int de, .int ve, .long nw, .int mk]))] := hD
  generalize upd g123 (9 : Int32).toNatClampNeg (((a2.toUInt32 >>> ((16 : Int32).toUInt32 &&& Int32.toUInt32 31)).toInt32) &&& 255) = g123 at hP hD
  refine lv_iinc (v := 10) (lv' := [(6, .int 10), (7, .int a2), (0, .ref q0), (1, .int a0), (2, .int a1), (3, .int a2), (4, .int a3), (5, .int a4)]) hx hb d_Model_feed_124 hl (k := 1) rfl (by decide) (by decide) rfl (fun ls hl => ?_)
  refine lv_goto (tgt := 36) hx hb d_Model_feed_127 (by decide) ?_
  refine lv_iload hx hb d_Model_feed_36 (lv_at hl 0 rfl) ?_
  refine lv_bipush (v := 20) hx hb d_Model_feed_38 (by decide) ?_
  refine lv_icmp_ge (tgt := 130) hx hb d_Model_feed_40 (by decide) (fun c40 => ?_) (fun c40 => ?_)
  · exact absurd c40 (by decide)
  refine lv_iload hx hb d_Model_feed_43 (lv_at hl 0 rfl) ?_
  refine lv_iconst (v := 4) hx hb d_Model_feed_45 (by decide) ?_
  refine lv_icmp_ge (tgt := 53) hx hb d_Model_feed_46 (by decide) (fun c46 => ?_) (fun c46 => ?_)
  rotate_left
  · exact absurd c46 (by decide)
  refine lv_iload hx hb d_Model_feed_53 (lv_at hl 0 rfl) ?_
  refine lv_bipush (v := 8) hx hb d_Model_feed_55 (by decide) ?_
  refine lv_icmp_ge (tgt := 64) hx hb d_Model_feed_57 (by decide) (fun c57 => ?_) (fun c57 => ?_)
  rotate_left
  · exact absurd c57 (by decide)
  refine lv_iload hx hb d_Model_feed_64 (lv_at hl 0 rfl) ?_
  refine lv_bipush (v := 12) hx hb d_Model_feed_66 (by decide) ?_
  refine lv_icmp_ge (tgt := 75) hx hb d_Model_feed_68 (by decide) (fun c68 => ?_) (fun c68 => ?_)
  · exact absurd c68 (by decide)
  refine lv_iload_n hx hb d_Model_feed_71 rfl (lv_at hl 5 rfl) ?_
  refine lv_goto (tgt := 89) hx hb d_Model_feed_72 (by decide) ?_
  refine lv_istore (lv' := [(7, .int a2), (6, .int 10), (0, .ref q0), (1, .int a0), (2, .int a1), (3, .int a2), (4, .int a3), (5, .int a4)]) hx hb d_Model_feed_89 hl (by decide) rfl (fun ls hl => ?_)
  refine lv_aload_n hx hb d_Model_feed_91 rfl (lv_at hl 2 rfl) ?_
  refine va_get (v := .ref oc) hx hb htb i_Model hown hK hP 1 rfl rfl 5 (by decide) (htb _ q7_219) (fun _ h9 => h9) rfl d_Model_feed_92 ?_
  refine lv_aload_n hx hb d_Model_feed_95 rfl (lv_at hl 2 rfl) ?_
  refine lv_dup hx hb d_Model_feed_96 rfl ?_
  refine va_get (v := .int 10) hx hb htb i_Model hown hK hP 1 rfl rfl 1 (by decide) (htb _ q7_215) (fun _ h9 => h9) rfl d_Model_feed_97 ?_
  refine lv_dup_x1 hx hb d_Model_feed_100 rfl rfl ?_
  refine lv_iconst (v := 1) hx hb d_Model_feed_101 (by decide) ?_
  refine lv_iadd hx hb d_Model_feed_102 ?_
  rw [show (10 + 1 : Int32) = 11 from by decide]
  refine va_put (v := .int 11) (ty := .int) hx hb htb i_Model t_Model t_Model_ok n_Model hown hK hP hD hS 1 rfl rfl 1 (by decide) (htb _ q7_215) (fun _ h9 => h9) rfl (by decide +kernel) rfl rfl (Nat.le_of_ble_eq_true rfl) d_Model_feed_103 (fun H103 locs hP hD hS => ?_)
  have hP : va_P (dC, dI) classes [(oc, .inl (cI, 2060, .inl g123)), (q0, .inr (12, [.int 0, .int 11, .int wg, .int nc, .int nl, .ref oc, .ref so, .ref rv, .ref sp, .int qs, .ref rz, .ref bl, .ref ww, .ref hs, .ref fi, .ref pm, .ref mx, .ref my, .ref mm, .ref mq, .ref mz, .ref wy, .ref fn, .int si, .int cs, .int cn, .int fa, .int pu, .int de, .int ve, .long nw, .int mk]))] H103 := hP
  have hD : va_D A [(oc, .inl (cI, 2060, .inl g123)), (q0, .inr (12, [.int 0, .int 11, .int wg, .int nc, .int nl, .ref oc, .ref so, .ref rv, .ref sp, .int qs, .ref rz, .ref bl, .ref ww, .ref hs, .ref fi, .ref pm, .ref mx, .ref my, .ref mm, .ref mq, .ref mz, .ref wy, .ref fn, .int si, .int cs, .int cn, .int fa, .int pu, .int de, .int ve, .long nw, .int mk]))] := hD
  refine lv_iload hx hb d_Model_feed_106 (lv_at hl 0 rfl) ?_
  refine lv_bipush (v := 24) hx hb d_Model_feed_108 (by decide) ?_
  refine lv_bipush (v := 8) hx hb d_Model_feed_110 (by decide) ?_
  refine lv_iload hx hb d_Model_feed_112 (lv_at hl 1 rfl) ?_
  refine lv_iconst (v := 3) hx hb d_Model_feed_114 (by decide) ?_
  refine lv_iand hx hb d_Model_feed_115 ?_
  rw [show (10 &&& 3 : Int32) = 2 from by decide]
  refine lv_imul hx hb d_Model_feed_116 ?_
  rw [show (8 * 2 : Int32) = 16 from by decide]
  refine lv_isub hx hb d_Model_feed_117 ?_
  rw [show (24 - 16 : Int32) = 8 from by decide]
  refine lv_iushr (v := (a2.toUInt32 >>> ((8 : Int32).toUInt32 &&& Int32.toUInt32 31)).toInt32) hx hb d_Model_feed_118 rfl ?_
  refine lv_sipush (v := 255) hx hb d_Model_feed_119 (by decide) ?_
  refine lv_iand hx hb d_Model_feed_122 ?_
  have h123 : vp_in 10 2060 := by unfold vp_in; decide
  refine va_iast hx hb hK hP hD hS 0 0 rfl rfl h123 d_Model_feed_123 (fun H123 locs hP hD hS => ?_)
  have hP : va_P (dC, dI) classes [(oc, .inl (cI, 2060, .inl (upd g123 (10 : Int32).toNatClampNeg (((a2.toUInt32 >>> ((8 : Int32).toUInt32 &&& Int32.toUInt32 31)).toInt32) &&& 255)))), (q0, .inr (12, [.int 0, .int 11, .int wg, .int nc, .int nl, .ref oc, .ref so, .ref rv, .ref sp, .int qs, .ref rz, .ref bl, .ref ww, .ref hs, .ref fi, .ref pm, .ref mx, .ref my, .ref mm, .ref mq, .ref mz, .ref wy, .ref fn, .int si, .int cs, .int cn, .int fa, .int pu, .int de, .int ve, .long nw, .int mk]))] H123 := hP
  have hD : va_D A [(oc, .inl (cI, 2060, .inl (upd g123 (10 : Int32).toNatClampNeg (((a2.toUInt32 >>> ((8 : Int32).toUInt32 &&& Int32.toUInt32 31)).toInt32) &&& 255)))), (q0, .inr (12, [.int 0, .int 11, .int wg, .int nc, .int nl, .ref oc, .ref so, .ref rv, .ref sp, .int qs, .ref rz, .ref bl, .ref ww, .ref hs, .ref fi, .ref pm, .ref mx, .ref my, .ref mm, .ref mq, .ref mz, .ref wy, .ref fn, .int si, .int cs, .int cn, .int fa, .int pu, .int de, .int ve, .long nw, .int mk]))] := hD
  generalize upd g123 (10 : Int32).toNatClampNeg (((a2.toUInt32 >>> ((8 : Int32).toUInt32 &&& Int32.toUInt32 31)).toInt32) &&& 255) = g123 at hP hD
  refine lv_iinc (v := 11) (lv' := [(6, .int 11), (7, .int a2), (0, .ref q0), (1, .int a0), (2, .int a1), (3, .int a2), (4, .int a3), (5, .int a4)]) hx hb d_Model_feed_124 hl (k := 1) rfl (by decide) (by decide) rfl (fun ls hl => ?_)
  refine lv_goto (tgt := 36) hx hb d_Model_feed_127 (by decide) ?_
  refine lv_iload hx hb d_Model_feed_36 (lv_at hl 0 rfl) ?_
  refine lv_bipush (v := 20) hx hb d_Model_feed_38 (by decide) ?_
  refine lv_icmp_ge (tgt := 130) hx hb d_Model_feed_40 (by decide) (fun c40 => ?_) (fun c40 => ?_)
  · exact absurd c40 (by decide)
  refine lv_iload hx hb d_Model_feed_43 (lv_at hl 0 rfl) ?_
  refine lv_iconst (v := 4) hx hb d_Model_feed_45 (by decide) ?_
  refine lv_icmp_ge (tgt := 53) hx hb d_Model_feed_46 (by decide) (fun c46 => ?_) (fun c46 => ?_)
  rotate_left
  · exact absurd c46 (by decide)
  refine lv_iload hx hb d_Model_feed_53 (lv_at hl 0 rfl) ?_
  refine lv_bipush (v := 8) hx hb d_Model_feed_55 (by decide) ?_
  refine lv_icmp_ge (tgt := 64) hx hb d_Model_feed_57 (by decide) (fun c57 => ?_) (fun c57 => ?_)
  rotate_left
  · exact absurd c57 (by decide)
  refine lv_iload hx hb d_Model_feed_64 (lv_at hl 0 rfl) ?_
  refine lv_bipush (v := 12) hx hb d_Model_feed_66 (by decide) ?_
  refine lv_icmp_ge (tgt := 75) hx hb d_Model_feed_68 (by decide) (fun c68 => ?_) (fun c68 => ?_)
  · exact absurd c68 (by decide)
  refine lv_iload_n hx hb d_Model_feed_71 rfl (lv_at hl 5 rfl) ?_
  refine lv_goto (tgt := 89) hx hb d_Model_feed_72 (by decide) ?_
  refine lv_istore (lv' := [(7, .int a2), (6, .int 11), (0, .ref q0), (1, .int a0), (2, .int a1), (3, .int a2), (4, .int a3), (5, .int a4)]) hx hb d_Model_feed_89 hl (by decide) rfl (fun ls hl => ?_)
  refine lv_aload_n hx hb d_Model_feed_91 rfl (lv_at hl 2 rfl) ?_
  refine va_get (v := .ref oc) hx hb htb i_Model hown hK hP 1 rfl rfl 5 (by decide) (htb _ q7_219) (fun _ h9 => h9) rfl d_Model_feed_92 ?_
  refine lv_aload_n hx hb d_Model_feed_95 rfl (lv_at hl 2 rfl) ?_
  refine lv_dup hx hb d_Model_feed_96 rfl ?_
  refine va_get (v := .int 11) hx hb htb i_Model hown hK hP 1 rfl rfl 1 (by decide) (htb _ q7_215) (fun _ h9 => h9) rfl d_Model_feed_97 ?_
  refine lv_dup_x1 hx hb d_Model_feed_100 rfl rfl ?_
  refine lv_iconst (v := 1) hx hb d_Model_feed_101 (by decide) ?_
  refine lv_iadd hx hb d_Model_feed_102 ?_
  rw [show (11 + 1 : Int32) = 12 from by decide]
  refine va_put (v := .int 12) (ty := .int) hx hb htb i_Model t_Model t_Model_ok n_Model hown hK hP hD hS 1 rfl rfl 1 (by decide) (htb _ q7_215) (fun _ h9 => h9) rfl (by decide +kernel) rfl rfl (Nat.le_of_ble_eq_true rfl) d_Model_feed_103 (fun H103 locs hP hD hS => ?_)
  have hP : va_P (dC, dI) classes [(oc, .inl (cI, 2060, .inl g123)), (q0, .inr (12, [.int 0, .int 12, .int wg, .int nc, .int nl, .ref oc, .ref so, .ref rv, .ref sp, .int qs, .ref rz, .ref bl, .ref ww, .ref hs, .ref fi, .ref pm, .ref mx, .ref my, .ref mm, .ref mq, .ref mz, .ref wy, .ref fn, .int si, .int cs, .int cn, .int fa, .int pu, .int de, .int ve, .long nw, .int mk]))] H103 := hP
  have hD : va_D A [(oc, .inl (cI, 2060, .inl g123)), (q0, .inr (12, [.int 0, .int 12, .int wg, .int nc, .int nl, .ref oc, .ref so, .ref rv, .ref sp, .int qs, .ref rz, .ref bl, .ref ww, .ref hs, .ref fi, .ref pm, .ref mx, .ref my, .ref mm, .ref mq, .ref mz, .ref wy, .ref fn, .int si, .int cs, .int cn, .int fa, .int pu, .int de, .int ve, .long nw, .int mk]))] := hD
  refine lv_iload hx hb d_Model_feed_106 (lv_at hl 0 rfl) ?_
  refine lv_bipush (v := 24) hx hb d_Model_feed_108 (by decide) ?_
  refine lv_bipush (v := 8) hx hb d_Model_feed_110 (by decide) ?_
  refine lv_iload hx hb d_Model_feed_112 (lv_at hl 1 rfl) ?_
  refine lv_iconst (v := 3) hx hb d_Model_feed_114 (by decide) ?_
  refine lv_iand hx hb d_Model_feed_115 ?_
  rw [show (11 &&& 3 : Int32) = 3 from by decide]
  refine lv_imul hx hb d_Model_feed_116 ?_
  rw [show (8 * 3 : Int32) = 24 from by decide]
  refine lv_isub hx hb d_Model_feed_117 ?_
  rw [show (24 - 24 : Int32) = 0 from by decide]
  refine lv_iushr (v := (a2.toUInt32 >>> ((0 : Int32).toUInt32 &&& Int32.toUInt32 31)).toInt32) hx hb d_Model_feed_118 rfl ?_
  refine lv_sipush (v := 255) hx hb d_Model_feed_119 (by decide) ?_
  refine lv_iand hx hb d_Model_feed_122 ?_
  have h123 : vp_in 11 2060 := by unfold vp_in; decide
  refine va_iast hx hb hK hP hD hS 0 0 rfl rfl h123 d_Model_feed_123 (fun H123 locs hP hD hS => ?_)
  have hP : va_P (dC, dI) classes [(oc, .inl (cI, 2060, .inl (upd g123 (11 : Int32).toNatClampNeg (((a2.toUInt32 >>> ((0 : Int32).toUInt32 &&& Int32.toUInt32 31)).toInt32) &&& 255)))), (q0, .inr (12, [.int 0, .int 12, .int wg, .int nc, .int nl, .ref oc, .ref so, .ref rv, .ref sp, .int qs, .ref rz, .ref bl, .ref ww, .ref hs, .ref fi, .ref pm, .ref mx, .ref my, .ref mm, .ref mq, .ref mz, .ref wy, .ref fn, .int si, .int cs, .int cn, .int fa, .int pu, .int de, .int ve, .long nw, .int mk]))] H123 := hP
  have hD : va_D A [(oc, .inl (cI, 2060, .inl (upd g123 (11 : Int32).toNatClampNeg (((a2.toUInt32 >>> ((0 : Int32).toUInt32 &&& Int32.toUInt32 31)).toInt32) &&& 255)))), (q0, .inr (12, [.int 0, .int 12, .int wg, .int nc, .int nl, .ref oc, .ref so, .ref rv, .ref sp, .int qs, .ref rz, .ref bl, .ref ww, .ref hs, .ref fi, .ref pm, .ref mx, .ref my, .ref mm, .ref mq, .ref mz, .ref wy, .ref fn, .int si, .int cs, .int cn, .int fa, .int pu, .int de, .int ve, .long nw, .int mk]))] := hD
  generalize upd g123 (11 : Int32).toNatClampNeg (((a2.toUInt32 >>> ((0 : Int32).toUInt32 &&& Int32.toUInt32 31)).toInt32) &&& 255) = g123 at hP hD
  refine lv_iinc (v := 12) (lv' := [(6, .int 12), (7, .int a2), (0, .ref q0), (1, .int a0), (2, .int a1), (3, .int a2), (4, .int a3), (5, .int a4)]) hx hb d_Model_feed_124 hl (k := 1) rfl (by decide) (by decide) rfl (fun ls hl => ?_)
  refine lv_goto (tgt := 36) hx hb d_Model_feed_127 (by decide) ?_
  refine lv_iload hx hb d_Model_feed_36 (lv_at hl 0 rfl) ?_
  refine lv_bipush (v := 20) hx hb d_Model_feed_38 (by decide) ?_
  refine lv_icmp_ge (tgt := 130) hx hb d_Model_feed_40 (by decide) (fun c40 => ?_) (fun c40 => ?_)
  · exact absurd c40 (by decide)
  refine lv_iload hx hb d_Model_feed_43 (lv_at hl 0 rfl) ?_
  refine lv_iconst (v := 4) hx hb d_Model_feed_45 (by decide) ?_
  refine lv_icmp_ge (tgt := 53) hx hb d_Model_feed_46 (by decide) (fun c46 => ?_) (fun c46 => ?_)
  rotate_left
  · exact absurd c46 (by decide)
  refine lv_iload hx hb d_Model_feed_53 (lv_at hl 0 rfl) ?_
  refine lv_bipush (v := 8) hx hb d_Model_feed_55 (by decide) ?_
  refine lv_icmp_ge (tgt := 64) hx hb d_Model_feed_57 (by decide) (fun c57 => ?_) (fun c57 => ?_)
  rotate_left
  · exact absurd c57 (by decide)
  refine lv_iload hx hb d_Model_feed_64 (lv_at hl 0 rfl) ?_
  refine lv_bipush (v := 12) hx hb d_Model_feed_66 (by decide) ?_
  refine lv_icmp_ge (tgt := 75) hx hb d_Model_feed_68 (by decide) (fun c68 => ?_) (fun c68 => ?_)
  rotate_left
  · exact absurd c68 (by decide)
  refine lv_iload hx hb d_Model_feed_75 (lv_at hl 0 rfl) ?_
  refine lv_bipush (v := 16) hx hb d_Model_feed_77 (by decide) ?_
  refine lv_icmp_ge (tgt := 87) hx hb d_Model_feed_79 (by decide) (fun c79 => ?_) (fun c79 => ?_)
  · exact absurd c79 (by decide)
  refine lv_iload hx hb d_Model_feed_82 (lv_at hl 6 rfl) ?_
  refine lv_goto (tgt := 89) hx hb d_Model_feed_84 (by decide) ?_
  refine lv_istore (lv' := [(7, .int a3), (6, .int 12), (0, .ref q0), (1, .int a0), (2, .int a1), (3, .int a2), (4, .int a3), (5, .int a4)]) hx hb d_Model_feed_89 hl (by decide) rfl (fun ls hl => ?_)
  refine lv_aload_n hx hb d_Model_feed_91 rfl (lv_at hl 2 rfl) ?_
  refine va_get (v := .ref oc) hx hb htb i_Model hown hK hP 1 rfl rfl 5 (by decide) (htb _ q7_219) (fun _ h9 => h9) rfl d_Model_feed_92 ?_
  refine lv_aload_n hx hb d_Model_feed_95 rfl (lv_at hl 2 rfl) ?_
  refine lv_dup hx hb d_Model_feed_96 rfl ?_
  refine va_get (v := .int 12) hx hb htb i_Model hown hK hP 1 rfl rfl 1 (by decide) (htb _ q7_215) (fun _ h9 => h9) rfl d_Model_feed_97 ?_
  refine lv_dup_x1 hx hb d_Model_feed_100 rfl rfl ?_
  refine lv_iconst (v := 1) hx hb d_Model_feed_101 (by decide) ?_
  refine lv_iadd hx hb d_Model_feed_102 ?_
  rw [show (12 + 1 : Int32) = 13 from by decide]
  refine va_put (v := .int 13) (ty := .int) hx hb htb i_Model t_Model t_Model_ok n_Model hown hK hP hD hS 1 rfl rfl 1 (by decide) (htb _ q7_215) (fun _ h9 => h9) rfl (by decide +kernel) rfl rfl (Nat.le_of_ble_eq_true rfl) d_Model_feed_103 (fun H103 locs hP hD hS => ?_)
  have hP : va_P (dC, dI) classes [(oc, .inl (cI, 2060, .inl g123)), (q0, .inr (12, [.int 0, .int 13, .int wg, .int nc, .int nl, .ref oc, .ref so, .ref rv, .ref sp, .int qs, .ref rz, .ref bl, .ref ww, .ref hs, .ref fi, .ref pm, .ref mx, .ref my, .ref mm, .ref mq, .ref mz, .ref wy, .ref fn, .int si, .int cs, .int cn, .int fa, .int pu, .int de, .int ve, .long nw, .int mk]))] H103 := hP
  have hD : va_D A [(oc, .inl (cI, 2060, .inl g123)), (q0, .inr (12, [.int 0, .int 13, .int wg, .int nc, .int nl, .ref oc, .ref so, .ref rv, .ref sp, .int qs, .ref rz, .ref bl, .ref ww, .ref hs, .ref fi, .ref pm, .ref mx, .ref my, .ref mm, .ref mq, .ref mz, .ref wy, .ref fn, .int si, .int cs, .int cn, .int fa, .int pu, .int de, .int ve, .long nw, .int mk]))] := hD
  refine lv_iload hx hb d_Model_feed_106 (lv_at hl 0 rfl) ?_
  refine lv_bipush (v := 24) hx hb d_Model_feed_108 (by decide) ?_
  refine lv_bipush (v := 8) hx hb d_Model_feed_110 (by decide) ?_
  refine lv_iload hx hb d_Model_feed_112 (lv_at hl 1 rfl) ?_
  refine lv_iconst (v := 3) hx hb d_Model_feed_114 (by decide) ?_
  refine lv_iand hx hb d_Model_feed_115 ?_
  rw [show (12 &&& 3 : Int32) = 0 from by decide]
  refine lv_imul hx hb d_Model_feed_116 ?_
  rw [show (8 * 0 : Int32) = 0 from by decide]
  refine lv_isub hx hb d_Model_feed_117 ?_
  rw [show (24 - 0 : Int32) = 24 from by decide]
  refine lv_iushr (v := (a3.toUInt32 >>> ((24 : Int32).toUInt32 &&& Int32.toUInt32 31)).toInt32) hx hb d_Model_feed_118 rfl ?_
  refine lv_sipush (v := 255) hx hb d_Model_feed_119 (by decide) ?_
  refine lv_iand hx hb d_Model_feed_122 ?_
  have h123 : vp_in 12 2060 := by unfold vp_in; decide
  refine va_iast hx hb hK hP hD hS 0 0 rfl rfl h123 d_Model_feed_123 (fun H123 locs hP hD hS => ?_)
  have hP : va_P (dC, dI) classes [(oc, .inl (cI, 2060, .inl (upd g123 (12 : Int32).toNatClampNeg (((a3.toUInt32 >>> ((24 : Int32).toUInt32 &&& Int32.toUInt32 31)).toInt32) &&& 255)))), (q0, .inr (12, [.int 0, .int 13, .int wg, .int nc, .int nl, .ref oc, .ref so, .ref rv, .ref sp, .int qs, .ref rz, .ref bl, .ref ww, .ref hs, .ref fi, .ref pm, .ref mx, .ref my, .ref mm, .ref mq, .ref mz, .ref wy, .ref fn, .int si, .int cs, .int cn, .int fa, .int pu, .int de, .int ve, .long nw, .int mk]))] H123 := hP
  have hD : va_D A [(oc, .inl (cI, 2060, .inl (upd g123 (12 : Int32).toNatClampNeg (((a3.toUInt32 >>> ((24 : Int32).toUInt32 &&& Int32.toUInt32 31)).toInt32) &&& 255)))), (q0, .inr (12, [.int 0, .int 13, .int wg, .int nc, .int nl, .ref oc, .ref so, .ref rv, .ref sp, .int qs, .ref rz, .ref bl, .ref ww, .ref hs, .ref fi, .ref pm, .ref mx, .ref my, .ref mm, .ref mq, .ref mz, .ref wy, .ref fn, .int si, .int cs, .int cn, .int fa, .int pu, .int de, .int ve, .long nw, .int mk]))] := hD
  generalize upd g123 (12 : Int32).toNatClampNeg (((a3.toUInt32 >>> ((24 : Int32).toUInt32 &&& Int32.toUInt32 31)).toInt32) &&& 255) = g123 at hP hD
  refine lv_iinc (v := 13) (lv' := [(6, .int 13), (7, .int a3), (0, .ref q0), (1, .int a0), (2, .int a1), (3, .int a2), (4, .int a3), (5, .int a4)]) hx hb d_Model_feed_124 hl (k := 1) rfl (by decide) (by decide) rfl (fun ls hl => ?_)
  refine lv_goto (tgt := 36) hx hb d_Model_feed_127 (by decide) ?_
  refine lv_iload hx hb d_Model_feed_36 (lv_at hl 0 rfl) ?_
  refine lv_bipush (v := 20) hx hb d_Model_feed_38 (by decide) ?_
  refine lv_icmp_ge (tgt := 130) hx hb d_Model_feed_40 (by decide) (fun c40 => ?_) (fun c40 => ?_)
  · exact absurd c40 (by decide)
  refine lv_iload hx hb d_Model_feed_43 (lv_at hl 0 rfl) ?_
  refine lv_iconst (v := 4) hx hb d_Model_feed_45 (by decide) ?_
  refine lv_icmp_ge (tgt := 53) hx hb d_Model_feed_46 (by decide) (fun c46 => ?_) (fun c46 => ?_)
  rotate_left
  · exact absurd c46 (by decide)
  refine lv_iload hx hb d_Model_feed_53 (lv_at hl 0 rfl) ?_
  refine lv_bipush (v := 8) hx hb d_Model_feed_55 (by decide) ?_
  refine lv_icmp_ge (tgt := 64) hx hb d_Model_feed_57 (by decide) (fun c57 => ?_) (fun c57 => ?_)
  rotate_left
  · exact absurd c57 (by decide)
  refine lv_iload hx hb d_Model_feed_64 (lv_at hl 0 rfl) ?_
  refine lv_bipush (v := 12) hx hb d_Model_feed_66 (by decide) ?_
  refine lv_icmp_ge (tgt := 75) hx hb d_Model_feed_68 (by decide) (fun c68 => ?_) (fun c68 => ?_)
  rotate_left
  · exact absurd c68 (by decide)
  refine lv_iload hx hb d_Model_feed_75 (lv_at hl 0 rfl) ?_
  refine lv_bipush (v := 16) hx hb d_Model_feed_77 (by decide) ?_
  refine lv_icmp_ge (tgt := 87) hx hb d_Model_feed_79 (by decide) (fun c79 => ?_) (fun c79 => ?_)
  · exact absurd c79 (by decide)
  refine lv_iload hx hb d_Model_feed_82 (lv_at hl 6 rfl) ?_
  refine lv_goto (tgt := 89) hx hb d_Model_feed_84 (by decide) ?_
  refine lv_istore (lv' := [(7, .int a3), (6, .int 13), (0, .ref q0), (1, .int a0), (2, .int a1), (3, .int a2), (4, .int a3), (5, .int a4)]) hx hb d_Model_feed_89 hl (by decide) rfl (fun ls hl => ?_)
  refine lv_aload_n hx hb d_Model_feed_91 rfl (lv_at hl 2 rfl) ?_
  refine va_get (v := .ref oc) hx hb htb i_Model hown hK hP 1 rfl rfl 5 (by decide) (htb _ q7_219) (fun _ h9 => h9) rfl d_Model_feed_92 ?_
  refine lv_aload_n hx hb d_Model_feed_95 rfl (lv_at hl 2 rfl) ?_
  refine lv_dup hx hb d_Model_feed_96 rfl ?_
  refine va_get (v := .int 13) hx hb htb i_Model hown hK hP 1 rfl rfl 1 (by decide) (htb _ q7_215) (fun _ h9 => h9) rfl d_Model_feed_97 ?_
  refine lv_dup_x1 hx hb d_Model_feed_100 rfl rfl ?_
  refine lv_iconst (v := 1) hx hb d_Model_feed_101 (by decide) ?_
  refine lv_iadd hx hb d_Model_feed_102 ?_
  rw [show (13 + 1 : Int32) = 14 from by decide]
  refine va_put (v := .int 14) (ty := .int) hx hb htb i_Model t_Model t_Model_ok n_Model hown hK hP hD hS 1 rfl rfl 1 (by decide) (htb _ q7_215) (fun _ h9 => h9) rfl (by decide +kernel) rfl rfl (Nat.le_of_ble_eq_true rfl) d_Model_feed_103 (fun H103 locs hP hD hS => ?_)
  have hP : va_P (dC, dI) classes [(oc, .inl (cI, 2060, .inl g123)), (q0, .inr (12, [.int 0, .int 14, .int wg, .int nc, .int nl, .ref oc, .ref so, .ref rv, .ref sp, .int qs, .ref rz, .ref bl, .ref ww, .ref hs, .ref fi, .ref pm, .ref mx, .ref my, .ref mm, .ref mq, .ref mz, .ref wy, .ref fn, .int si, .int cs, .int cn, .int fa, .int pu, .int de, .int ve, .long nw, .int mk]))] H103 := hP
  have hD : va_D A [(oc, .inl (cI, 2060, .inl g123)), (q0, .inr (12, [.int 0, .int 14, .int wg, .int nc, .int nl, .ref oc, .ref so, .ref rv, .ref sp, .int qs, .ref rz, .ref bl, .ref ww, .ref hs, .ref fi, .ref pm, .ref mx, .ref my, .ref mm, .ref mq, .ref mz, .ref wy, .ref fn, .int si, .int cs, .int cn, .int fa, .int pu, .int de, .int ve, .long nw, .int mk]))] := hD
  refine lv_iload hx hb d_Model_feed_106 (lv_at hl 0 rfl) ?_
  refine lv_bipush (v := 24) hx hb d_Model_feed_108 (by decide) ?_
  refine lv_bipush (v := 8) hx hb d_Model_feed_110 (by decide) ?_
  refine lv_iload hx hb d_Model_feed_112 (lv_at hl 1 rfl) ?_
  refine lv_iconst (v := 3) hx hb d_Model_feed_114 (by decide) ?_
  refine lv_iand hx hb d_Model_feed_115 ?_
  rw [show (13 &&& 3 : Int32) = 1 from by decide]
  refine lv_imul hx hb d_Model_feed_116 ?_
  rw [show (8 * 1 : Int32) = 8 from by decide]
  refine lv_isub hx hb d_Model_feed_117 ?_
  rw [show (24 - 8 : Int32) = 16 from by decide]
  refine lv_iushr (v := (a3.toUInt32 >>> ((16 : Int32).toUInt32 &&& Int32.toUInt32 31)).toInt32) hx hb d_Model_feed_118 rfl ?_
  refine lv_sipush (v := 255) hx hb d_Model_feed_119 (by decide) ?_
  refine lv_iand hx hb d_Model_feed_122 ?_
  have h123 : vp_in 13 2060 := by unfold vp_in; decide
  refine va_iast hx hb hK hP hD hS 0 0 rfl rfl h123 d_Model_feed_123 (fun H123 locs hP hD hS => ?_)
  have hP : va_P (dC, dI) classes [(oc, .inl (cI, 2060, .inl (upd g123 (13 : Int32).toNatClampNeg (((a3.toUInt32 >>> ((16 : Int32).toUInt32 &&& Int32.toUInt32 31)).toInt32) &&& 255)))), (q0, .inr (12, [.int 0, .int 14, .int wg, .int nc, .int nl, .ref oc, .ref so, .ref rv, .ref sp, .int qs, .ref rz, .ref bl, .ref ww, .ref hs, .ref fi, .ref pm, .ref mx, .ref my, .ref mm, .ref mq, .ref mz, .ref wy, .ref fn, .int si, .int cs, .int cn, .int fa, .int pu, .int de, .int ve, .long nw, .int mk]))] H123 := hP
  have hD : va_D A [(oc, .inl (cI, 2060, .inl (upd g123 (13 : Int32).toNatClampNeg (((a3.toUInt32 >>> ((16 : Int32).toUInt32 &&& Int32.toUInt32 31)).toInt32) &&& 255)))), (q0, .inr (12, [.int 0, .int 14, .int wg, .int nc, .int nl, .ref oc, .ref so, .ref rv, .ref sp, .int qs, .ref rz, .ref bl, .ref ww, .ref hs, .ref fi, .ref pm, .ref mx, .ref my, .ref mm, .ref mq, .ref mz, .ref wy, .ref fn, .int si, .int cs, .int cn, .int fa, .int pu, .int de, .int ve, .long nw, .int mk]))] := hD
  generalize upd g123 (13 : Int32).toNatClampNeg (((a3.toUInt32 >>> ((16 : Int32).toUInt32 &&& Int32.toUInt32 31)).toInt32) &&& 255) = g123 at hP hD
  refine lv_iinc (v := 14) (lv' := [(6, .int 14), (7, .int a3), (0, .ref q0), (1, .int a0), (2, .int a1), (3, .int a2), (4, .int a3), (5, .int a4)]) hx hb d_Model_feed_124 hl (k := 1) rfl (by decide) (by decide) rfl (fun ls hl => ?_)
  refine lv_goto (tgt := 36) hx hb d_Model_feed_127 (by decide) ?_
  refine lv_iload hx hb d_Model_feed_36 (lv_at hl 0 rfl) ?_
  refine lv_bipush (v := 20) hx hb d_Model_feed_38 (by decide) ?_
  refine lv_icmp_ge (tgt := 130) hx hb d_Model_feed_40 (by decide) (fun c40 => ?_) (fun c40 => ?_)
  · exact absurd c40 (by decide)
  refine lv_iload hx hb d_Model_feed_43 (lv_at hl 0 rfl) ?_
  refine lv_iconst (v := 4) hx hb d_Model_feed_45 (by decide) ?_
  refine lv_icmp_ge (tgt := 53) hx hb d_Model_feed_46 (by decide) (fun c46 => ?_) (fun c46 => ?_)
  rotate_left
  · exact absurd c46 (by decide)
  refine lv_iload hx hb d_Model_feed_53 (lv_at hl 0 rfl) ?_
  refine lv_bipush (v := 8) hx hb d_Model_feed_55 (by decide) ?_
  refine lv_icmp_ge (tgt := 64) hx hb d_Model_feed_57 (by decide) (fun c57 => ?_) (fun c57 => ?_)
  rotate_left
  · exact absurd c57 (by decide)
  refine lv_iload hx hb d_Model_feed_64 (lv_at hl 0 rfl) ?_
  refine lv_bipush (v := 12) hx hb d_Model_feed_66 (by decide) ?_
  refine lv_icmp_ge (tgt := 75) hx hb d_Model_feed_68 (by decide) (fun c68 => ?_) (fun c68 => ?_)
  rotate_left
  · exact absurd c68 (by decide)
  refine lv_iload hx hb d_Model_feed_75 (lv_at hl 0 rfl) ?_
  refine lv_bipush (v := 16) hx hb d_Model_feed_77 (by decide) ?_
  refine lv_icmp_ge (tgt := 87) hx hb d_Model_feed_79 (by decide) (fun c79 => ?_) (fun c79 => ?_)
  · exact absurd c79 (by decide)
  refine lv_iload hx hb d_Model_feed_82 (lv_at hl 6 rfl) ?_
  refine lv_goto (tgt := 89) hx hb d_Model_feed_84 (by decide) ?_
  refine lv_istore (lv' := [(7, .int a3), (6, .int 14), (0, .ref q0), (1, .int a0), (2, .int a1), (3, .int a2), (4, .int a3), (5, .int a4)]) hx hb d_Model_feed_89 hl (by decide) rfl (fun ls hl => ?_)
  refine lv_aload_n hx hb d_Model_feed_91 rfl (lv_at hl 2 rfl) ?_
  refine va_get (v := .ref oc) hx hb htb i_Model hown hK hP 1 rfl rfl 5 (by decide) (htb _ q7_219) (fun _ h9 => h9) rfl d_Model_feed_92 ?_
  refine lv_aload_n hx hb d_Model_feed_95 rfl (lv_at hl 2 rfl) ?_
  refine lv_dup hx hb d_Model_feed_96 rfl ?_
  refine va_get (v := .int 14) hx hb htb i_Model hown hK hP 1 rfl rfl 1 (by decide) (htb _ q7_215) (fun _ h9 => h9) rfl d_Model_feed_97 ?_
  refine lv_dup_x1 hx hb d_Model_feed_100 rfl rfl ?_
  refine lv_iconst (v := 1) hx hb d_Model_feed_101 (by decide) ?_
  refine lv_iadd hx hb d_Model_feed_102 ?_
  rw [show (14 + 1 : Int32) = 15 from by decide]
  refine va_put (v := .int 15) (ty := .int) hx hb htb i_Model t_Model t_Model_ok n_Model hown hK hP hD hS 1 rfl rfl 1 (by decide) (htb _ q7_215) (fun _ h9 => h9) rfl (by decide +kernel) rfl rfl (Nat.le_of_ble_eq_true rfl) d_Model_feed_103 (fun H103 locs hP hD hS => ?_)
  have hP : va_P (dC, dI) classes [(oc, .inl (cI, 2060, .inl g123)), (q0, .inr (12, [.int 0, .int 15, .int wg, .int nc, .int nl, .ref oc, .ref so, .ref rv, .ref sp, .int qs, .ref rz, .ref bl, .ref ww, .ref hs, .ref fi, .ref pm, .ref mx, .ref my, .ref mm, .ref mq, .ref mz, .ref wy, .ref fn, .int si, .int cs, .int cn, .int fa, .int pu, .int de, .int ve, .long nw, .int mk]))] H103 := hP
  have hD : va_D A [(oc, .inl (cI, 2060, .inl g123)), (q0, .inr (12, [.int 0, .int 15, .int wg, .int nc, .int nl, .ref oc, .ref so, .ref rv, .ref sp, .int qs, .ref rz, .ref bl, .ref ww, .ref hs, .ref fi, .ref pm, .ref mx, .ref my, .ref mm, .ref mq, .ref mz, .ref wy, .ref fn, .int si, .int cs, .int cn, .int fa, .int pu, .int de, .int ve, .long nw, .int mk]))] := hD
  refine lv_iload hx hb d_Model_feed_106 (lv_at hl 0 rfl) ?_
  refine lv_bipush (v := 24) hx hb d_Model_feed_108 (by decide) ?_
  refine lv_bipush (v := 8) hx hb d_Model_feed_110 (by decide) ?_
  refine lv_iload hx hb d_Model_feed_112 (lv_at hl 1 rfl) ?_
  refine lv_iconst (v := 3) hx hb d_Model_feed_114 (by decide) ?_
  refine lv_iand hx hb d_Model_feed_115 ?_
  rw [show (14 &&& 3 : Int32) = 2 from by decide]
  refine lv_imul hx hb d_Model_feed_116 ?_
  rw [show (8 * 2 : Int32) = 16 from by decide]
  refine lv_isub hx hb d_Model_feed_117 ?_
  rw [show (24 - 16 : Int32) = 8 from by decide]
  refine lv_iushr (v := (a3.toUInt32 >>> ((8 : Int32).toUInt32 &&& Int32.toUInt32 31)).toInt32) hx hb d_Model_feed_118 rfl ?_
  refine lv_sipush (v := 255) hx hb d_Model_feed_119 (by decide) ?_
  refine lv_iand hx hb d_Model_feed_122 ?_
  have h123 : vp_in 14 2060 := by unfold vp_in; decide
  refine va_iast hx hb hK hP hD hS 0 0 rfl rfl h123 d_Model_feed_123 (fun H123 locs hP hD hS => ?_)
  have hP : va_P (dC, dI) classes [(oc, .inl (cI, 2060, .inl (upd g123 (14 : Int32).toNatClampNeg (((a3.toUInt32 >>> ((8 : Int32).toUInt32 &&& Int32.toUInt32 31)).toInt32) &&& 255)))), (q0, .inr (12, [.int 0, .int 15, .int wg, .int nc, .int nl, .ref oc, .ref so, .ref rv, .ref sp, .int qs, .ref rz, .ref bl, .ref ww, .ref hs, .ref fi, .ref pm, .ref mx, .ref my, .ref mm, .ref mq, .ref mz, .ref wy, .ref fn, .int si, .int cs, .int cn, .int fa, .int pu, .int de, .int ve, .long nw, .int mk]))] H123 := hP
  have hD : va_D A [(oc, .inl (cI, 2060, .inl (upd g123 (14 : Int32).toNatClampNeg (((a3.toUInt32 >>> ((8 : Int32).toUInt32 &&& Int32.toUInt32 31)).toInt32) &&& 255)))), (q0, .inr (12, [.int 0, .int 15, .int wg, .int nc, .int nl, .ref oc, .ref so, .ref rv, .ref sp, .int qs, .ref rz, .ref bl, .ref ww, .ref hs, .ref fi, .ref pm, .ref mx, .ref my, .ref mm, .ref mq, .ref mz, .ref wy, .ref fn, .int si, .int cs, .int cn, .int fa, .int pu, .int de, .int ve, .long nw, .int mk]))] := hD
  generalize upd g123 (14 : Int32).toNatClampNeg (((a3.toUInt32 >>> ((8 : Int32).toUInt32 &&& Int32.toUInt32 31)).toInt32) &&& 255) = g123 at hP hD
  refine lv_iinc (v := 15) (lv' := [(6, .int 15), (7, .int a3), (0, .ref q0), (1, .int a0), (2, .int a1), (3, .int a2), (4, .int a3), (5, .int a4)]) hx hb d_Model_feed_124 hl (k := 1) rfl (by decide) (by decide) rfl (fun ls hl => ?_)
  refine lv_goto (tgt := 36) hx hb d_Model_feed_127 (by decide) ?_
  refine lv_iload hx hb d_Model_feed_36 (lv_at hl 0 rfl) ?_
  refine lv_bipush (v := 20) hx hb d_Model_feed_38 (by decide) ?_
  refine lv_icmp_ge (tgt := 130) hx hb d_Model_feed_40 (by decide) (fun c40 => ?_) (fun c40 => ?_)
  · exact absurd c40 (by decide)
  refine lv_iload hx hb d_Model_feed_43 (lv_at hl 0 rfl) ?_
  refine lv_iconst (v := 4) hx hb d_Model_feed_45 (by decide) ?_
  refine lv_icmp_ge (tgt := 53) hx hb d_Model_feed_46 (by decide) (fun c46 => ?_) (fun c46 => ?_)
  rotate_left
  · exact absurd c46 (by decide)
  refine lv_iload hx hb d_Model_feed_53 (lv_at hl 0 rfl) ?_
  refine lv_bipush (v := 8) hx hb d_Model_feed_55 (by decide) ?_
  refine lv_icmp_ge (tgt := 64) hx hb d_Model_feed_57 (by decide) (fun c57 => ?_) (fun c57 => ?_)
  rotate_left
  · exact absurd c57 (by decide)
  refine lv_iload hx hb d_Model_feed_64 (lv_at hl 0 rfl) ?_
  refine lv_bipush (v := 12) hx hb d_Model_feed_66 (by decide) ?_
  refine lv_icmp_ge (tgt := 75) hx hb d_Model_feed_68 (by decide) (fun c68 => ?_) (fun c68 => ?_)
  rotate_left
  · exact absurd c68 (by decide)
  refine lv_iload hx hb d_Model_feed_75 (lv_at hl 0 rfl) ?_
  refine lv_bipush (v := 16) hx hb d_Model_feed_77 (by decide) ?_
  refine lv_icmp_ge (tgt := 87) hx hb d_Model_feed_79 (by decide) (fun c79 => ?_) (fun c79 => ?_)
  · exact absurd c79 (by decide)
  refine lv_iload hx hb d_Model_feed_82 (lv_at hl 6 rfl) ?_
  refine lv_goto (tgt := 89) hx hb d_Model_feed_84 (by decide) ?_
  refine lv_istore (lv' := [(7, .int a3), (6, .int 15), (0, .ref q0), (1, .int a0), (2, .int a1), (3, .int a2), (4, .int a3), (5, .int a4)]) hx hb d_Model_feed_89 hl (by decide) rfl (fun ls hl => ?_)
  refine lv_aload_n hx hb d_Model_feed_91 rfl (lv_at hl 2 rfl) ?_
  refine va_get (v := .ref oc) hx hb htb i_Model hown hK hP 1 rfl rfl 5 (by decide) (htb _ q7_219) (fun _ h9 => h9) rfl d_Model_feed_92 ?_
  refine lv_aload_n hx hb d_Model_feed_95 rfl (lv_at hl 2 rfl) ?_
  refine lv_dup hx hb d_Model_feed_96 rfl ?_
  refine va_get (v := .int 15) hx hb htb i_Model hown hK hP 1 rfl rfl 1 (by decide) (htb _ q7_215) (fun _ h9 => h9) rfl d_Model_feed_97 ?_
  refine lv_dup_x1 hx hb d_Model_feed_100 rfl rfl ?_
  refine lv_iconst (v := 1) hx hb d_Model_feed_101 (by decide) ?_
  refine lv_iadd hx hb d_Model_feed_102 ?_
  rw [show (15 + 1 : Int32) = 16 from by decide]
  refine va_put (v := .int 16) (ty := .int) hx hb htb i_Model t_Model t_Model_ok n_Model hown hK hP hD hS 1 rfl rfl 1 (by decide) (htb _ q7_215) (fun _ h9 => h9) rfl (by decide +kernel) rfl rfl (Nat.le_of_ble_eq_true rfl) d_Model_feed_103 (fun H103 locs hP hD hS => ?_)
  have hP : va_P (dC, dI) classes [(oc, .inl (cI, 2060, .inl g123)), (q0, .inr (12, [.int 0, .int 16, .int wg, .int nc, .int nl, .ref oc, .ref so, .ref rv, .ref sp, .int qs, .ref rz, .ref bl, .ref ww, .ref hs, .ref fi, .ref pm, .ref mx, .ref my, .ref mm, .ref mq, .ref mz, .ref wy, .ref fn, .int si, .int cs, .int cn, .int fa, .int pu, .int de, .int ve, .long nw, .int mk]))] H103 := hP
  have hD : va_D A [(oc, .inl (cI, 2060, .inl g123)), (q0, .inr (12, [.int 0, .int 16, .int wg, .int nc, .int nl, .ref oc, .ref so, .ref rv, .ref sp, .int qs, .ref rz, .ref bl, .ref ww, .ref hs, .ref fi, .ref pm, .ref mx, .ref my, .ref mm, .ref mq, .ref mz, .ref wy, .ref fn, .int si, .int cs, .int cn, .int fa, .int pu, .int de, .int ve, .long nw, .int mk]))] := hD
  refine lv_iload hx hb d_Model_feed_106 (lv_at hl 0 rfl) ?_
  refine lv_bipush (v := 24) hx hb d_Model_feed_108 (by decide) ?_
  refine lv_bipush (v := 8) hx hb d_Model_feed_110 (by decide) ?_
  refine lv_iload hx hb d_Model_feed_112 (lv_at hl 1 rfl) ?_
  refine lv_iconst (v := 3) hx hb d_Model_feed_114 (by decide) ?_
  refine lv_iand hx hb d_Model_feed_115 ?_
  rw [show (15 &&& 3 : Int32) = 3 from by decide]
  refine lv_imul hx hb d_Model_feed_116 ?_
  rw [show (8 * 3 : Int32) = 24 from by decide]
  refine lv_isub hx hb d_Model_feed_117 ?_
  rw [show (24 - 24 : Int32) = 0 from by decide]
  refine lv_iushr (v := (a3.toUInt32 >>> ((0 : Int32).toUInt32 &&& Int32.toUInt32 31)).toInt32) hx hb d_Model_feed_118 rfl ?_
  refine lv_sipush (v := 255) hx hb d_Model_feed_119 (by decide) ?_
  refine lv_iand hx hb d_Model_feed_122 ?_
  have h123 : vp_in 15 2060 := by unfold vp_in; decide
  refine va_iast hx hb hK hP hD hS 0 0 rfl rfl h123 d_Model_feed_123 (fun H123 locs hP hD hS => ?_)
  have hP : va_P (dC, dI) classes [(oc, .inl (cI, 2060, .inl (upd g123 (15 : Int32).toNatClampNeg (((a3.toUInt32 >>> ((0 : Int32).toUInt32 &&& Int32.toUInt32 31)).toInt32) &&& 255)))), (q0, .inr (12, [.int 0, .int 16, .int wg, .int nc, .int nl, .ref oc, .ref so, .ref rv, .ref sp, .int qs, .ref rz, .ref bl, .ref ww, .ref hs, .ref fi, .ref pm, .ref mx, .ref my, .ref mm, .ref mq, .ref mz, .ref wy, .ref fn, .int si, .int cs, .int cn, .int fa, .int pu, .int de, .int ve, .long nw, .int mk]))] H123 := hP
  have hD : va_D A [(oc, .inl (cI, 2060, .inl (upd g123 (15 : Int32).toNatClampNeg (((a3.toUInt32 >>> ((0 : Int32).toUInt32 &&& Int32.toUInt32 31)).toInt32) &&& 255)))), (q0, .inr (12, [.int 0, .int 16, .int wg, .int nc, .int nl, .ref oc, .ref so, .ref rv, .ref sp, .int qs, .ref rz, .ref bl, .ref ww, .ref hs, .ref fi, .ref pm, .ref mx, .ref my, .ref mm, .ref mq, .ref mz, .ref wy, .ref fn, .int si, .int cs, .int cn, .int fa, .int pu, .int de, .int ve, .long nw, .int mk]))] := hD
  generalize upd g123 (15 : Int32).toNatClampNeg (((a3.toUInt32 >>> ((0 : Int32).toUInt32 &&& Int32.toUInt32 31)).toInt32) &&& 255) = g123 at hP hD
  refine lv_iinc (v := 16) (lv' := [(6, .int 16), (7, .int a3), (0, .ref q0), (1, .int a0), (2, .int a1), (3, .int a2), (4, .int a3), (5, .int a4)]) hx hb d_Model_feed_124 hl (k := 1) rfl (by decide) (by decide) rfl (fun ls hl => ?_)
  refine lv_goto (tgt := 36) hx hb d_Model_feed_127 (by decide) ?_
  refine lv_iload hx hb d_Model_feed_36 (lv_at hl 0 rfl) ?_
  refine lv_bipush (v := 20) hx hb d_Model_feed_38 (by decide) ?_
  refine lv_icmp_ge (tgt := 130) hx hb d_Model_feed_40 (by decide) (fun c40 => ?_) (fun c40 => ?_)
  · exact absurd c40 (by decide)
  refine lv_iload hx hb d_Model_feed_43 (lv_at hl 0 rfl) ?_
  refine lv_iconst (v := 4) hx hb d_Model_feed_45 (by decide) ?_
  refine lv_icmp_ge (tgt := 53) hx hb d_Model_feed_46 (by decide) (fun c46 => ?_) (fun c46 => ?_)
  rotate_left
  · exact absurd c46 (by decide)
  refine lv_iload hx hb d_Model_feed_53 (lv_at hl 0 rfl) ?_
  refine lv_bipush (v := 8) hx hb d_Model_feed_55 (by decide) ?_
  refine lv_icmp_ge (tgt := 64) hx hb d_Model_feed_57 (by decide) (fun c57 => ?_) (fun c57 => ?_)
  rotate_left
  · exact absurd c57 (by decide)
  refine lv_iload hx hb d_Model_feed_64 (lv_at hl 0 rfl) ?_
  refine lv_bipush (v := 12) hx hb d_Model_feed_66 (by decide) ?_
  refine lv_icmp_ge (tgt := 75) hx hb d_Model_feed_68 (by decide) (fun c68 => ?_) (fun c68 => ?_)
  rotate_left
  · exact absurd c68 (by decide)
  refine lv_iload hx hb d_Model_feed_75 (lv_at hl 0 rfl) ?_
  refine lv_bipush (v := 16) hx hb d_Model_feed_77 (by decide) ?_
  refine lv_icmp_ge (tgt := 87) hx hb d_Model_feed_79 (by decide) (fun c79 => ?_) (fun c79 => ?_)
  rotate_left
  · exact absurd c79 (by decide)
  refine lv_iload hx hb d_Model_feed_87 (lv_at hl 7 rfl) ?_
  refine lv_istore (lv' := [(7, .int a4), (6, .int 16), (0, .ref q0), (1, .int a0), (2, .int a1), (3, .int a2), (4, .int a3), (5, .int a4)]) hx hb d_Model_feed_89 hl (by decide) rfl (fun ls hl => ?_)
  refine lv_aload_n hx hb d_Model_feed_91 rfl (lv_at hl 2 rfl) ?_
  refine va_get (v := .ref oc) hx hb htb i_Model hown hK hP 1 rfl rfl 5 (by decide) (htb _ q7_219) (fun _ h9 => h9) rfl d_Model_feed_92 ?_
  refine lv_aload_n hx hb d_Model_feed_95 rfl (lv_at hl 2 rfl) ?_
  refine lv_dup hx hb d_Model_feed_96 rfl ?_
  refine va_get (v := .int 16) hx hb htb i_Model hown hK hP 1 rfl rfl 1 (by decide) (htb _ q7_215) (fun _ h9 => h9) rfl d_Model_feed_97 ?_
  refine lv_dup_x1 hx hb d_Model_feed_100 rfl rfl ?_
  refine lv_iconst (v := 1) hx hb d_Model_feed_101 (by decide) ?_
  refine lv_iadd hx hb d_Model_feed_102 ?_
  rw [show (16 + 1 : Int32) = 17 from by decide]
  refine va_put (v := .int 17) (ty := .int) hx hb htb i_Model t_Model t_Model_ok n_Model hown hK hP hD hS 1 rfl rfl 1 (by decide) (htb _ q7_215) (fun _ h9 => h9) rfl (by decide +kernel) rfl rfl (Nat.le_of_ble_eq_true rfl) d_Model_feed_103 (fun H103 locs hP hD hS => ?_)
  have hP : va_P (dC, dI) classes [(oc, .inl (cI, 2060, .inl g123)), (q0, .inr (12, [.int 0, .int 17, .int wg, .int nc, .int nl, .ref oc, .ref so, .ref rv, .ref sp, .int qs, .ref rz, .ref bl, .ref ww, .ref hs, .ref fi, .ref pm, .ref mx, .ref my, .ref mm, .ref mq, .ref mz, .ref wy, .ref fn, .int si, .int cs, .int cn, .int fa, .int pu, .int de, .int ve, .long nw, .int mk]))] H103 := hP
  have hD : va_D A [(oc, .inl (cI, 2060, .inl g123)), (q0, .inr (12, [.int 0, .int 17, .int wg, .int nc, .int nl, .ref oc, .ref so, .ref rv, .ref sp, .int qs, .ref rz, .ref bl, .ref ww, .ref hs, .ref fi, .ref pm, .ref mx, .ref my, .ref mm, .ref mq, .ref mz, .ref wy, .ref fn, .int si, .int cs, .int cn, .int fa, .int pu, .int de, .int ve, .long nw, .int mk]))] := hD
  refine lv_iload hx hb d_Model_feed_106 (lv_at hl 0 rfl) ?_
  refine lv_bipush (v := 24) hx hb d_Model_feed_108 (by decide) ?_
  refine lv_bipush (v := 8) hx hb d_Model_feed_110 (by decide) ?_
  refine lv_iload hx hb d_Model_feed_112 (lv_at hl 1 rfl) ?_
  refine lv_iconst (v := 3) hx hb d_Model_feed_114 (by decide) ?_
  refine lv_iand hx hb d_Model_feed_115 ?_
  rw [show (16 &&& 3 : Int32) = 0 from by decide]
  refine lv_imul hx hb d_Model_feed_116 ?_
  rw [show (8 * 0 : Int32) = 0 from by decide]
  refine lv_isub hx hb d_Model_feed_117 ?_
  rw [show (24 - 0 : Int32) = 24 from by decide]
  refine lv_iushr (v := (a4.toUInt32 >>> ((24 : Int32).toUInt32 &&& Int32.toUInt32 31)).toInt32) hx hb d_Model_feed_118 rfl ?_
  refine lv_sipush (v := 255) hx hb d_Model_feed_119 (by decide) ?_
  refine lv_iand hx hb d_Model_feed_122 ?_
  have h123 : vp_in 16 2060 := by unfold vp_in; decide
  refine va_iast hx hb hK hP hD hS 0 0 rfl rfl h123 d_Model_feed_123 (fun H123 locs hP hD hS => ?_)
  have hP : va_P (dC, dI) classes [(oc, .inl (cI, 2060, .inl (upd g123 (16 : Int32).toNatClampNeg (((a4.toUInt32 >>> ((24 : Int32).toUInt32 &&& Int32.toUInt32 31)).toInt32) &&& 255)))), (q0, .inr (12, [.int 0, .int 17, .int wg, .int nc, .int nl, .ref oc, .ref so, .ref rv, .ref sp, .int qs, .ref rz, .ref bl, .ref ww, .ref hs, .ref fi, .ref pm, .ref mx, .ref my, .ref mm, .ref mq, .ref mz, .ref wy, .ref fn, .int si, .int cs, .int cn, .int fa, .int pu, .int de, .int ve, .long nw, .int mk]))] H123 := hP
  have hD : va_D A [(oc, .inl (cI, 2060, .inl (upd g123 (16 : Int32).toNatClampNeg (((a4.toUInt32 >>> ((24 : Int32).toUInt32 &&& Int32.toUInt32 31)).toInt32) &&& 255)))), (q0, .inr (12, [.int 0, .int 17, .int wg, .int nc, .int nl, .ref oc, .ref so, .ref rv, .ref sp, .int qs, .ref rz, .ref bl, .ref ww, .ref hs, .ref fi, .ref pm, .ref mx, .ref my, .ref mm, .ref mq, .ref mz, .ref wy, .ref fn, .int si, .int cs, .int cn, .int fa, .int pu, .int de, .int ve, .long nw, .int mk]))] := hD
  generalize upd g123 (16 : Int32).toNatClampNeg (((a4.toUInt32 >>> ((24 : Int32).toUInt32 &&& Int32.toUInt32 31)).toInt32) &&& 255) = g123 at hP hD
  refine lv_iinc (v := 17) (lv' := [(6, .int 17), (7, .int a4), (0, .ref q0), (1, .int a0), (2, .int a1), (3, .int a2), (4, .int a3), (5, .int a4)]) hx hb d_Model_feed_124 hl (k := 1) rfl (by decide) (by decide) rfl (fun ls hl => ?_)
  refine lv_goto (tgt := 36) hx hb d_Model_feed_127 (by decide) ?_
  refine lv_iload hx hb d_Model_feed_36 (lv_at hl 0 rfl) ?_
  refine lv_bipush (v := 20) hx hb d_Model_feed_38 (by decide) ?_
  refine lv_icmp_ge (tgt := 130) hx hb d_Model_feed_40 (by decide) (fun c40 => ?_) (fun c40 => ?_)
  · exact absurd c40 (by decide)
  refine lv_iload hx hb d_Model_feed_43 (lv_at hl 0 rfl) ?_
  refine lv_iconst (v := 4) hx hb d_Model_feed_45 (by decide) ?_
  refine lv_icmp_ge (tgt := 53) hx hb d_Model_feed_46 (by decide) (fun c46 => ?_) (fun c46 => ?_)
  rotate_left
  · exact absurd c46 (by decide)
  refine lv_iload hx hb d_Model_feed_53 (lv_at hl 0 rfl) ?_
  refine lv_bipush (v := 8) hx hb d_Model_feed_55 (by decide) ?_
  refine lv_icmp_ge (tgt := 64) hx hb d_Model_feed_57 (by decide) (fun c57 => ?_) (fun c57 => ?_)
  rotate_left
  · exact absurd c57 (by decide)
  refine lv_iload hx hb d_Model_feed_64 (lv_at hl 0 rfl) ?_
  refine lv_bipush (v := 12) hx hb d_Model_feed_66 (by decide) ?_
  refine lv_icmp_ge (tgt := 75) hx hb d_Model_feed_68 (by decide) (fun c68 => ?_) (fun c68 => ?_)
  rotate_left
  · exact absurd c68 (by decide)
  refine lv_iload hx hb d_Model_feed_75 (lv_at hl 0 rfl) ?_
  refine lv_bipush (v := 16) hx hb d_Model_feed_77 (by decide) ?_
  refine lv_icmp_ge (tgt := 87) hx hb d_Model_feed_79 (by decide) (fun c79 => ?_) (fun c79 => ?_)
  rotate_left
  · exact absurd c79 (by decide)
  refine lv_iload hx hb d_Model_feed_87 (lv_at hl 7 rfl) ?_
  refine lv_istore (lv' := [(7, .int a4), (6, .int 17), (0, .ref q0), (1, .int a0), (2, .int a1), (3, .int a2), (4, .int a3), (5, .int a4)]) hx hb d_Model_feed_89 hl (by decide) rfl (fun ls hl => ?_)
  refine lv_aload_n hx hb d_Model_feed_91 rfl (lv_at hl 2 rfl) ?_
  refine va_get (v := .ref oc) hx hb htb i_Model hown hK hP 1 rfl rfl 5 (by decide) (htb _ q7_219) (fun _ h9 => h9) rfl d_Model_feed_92 ?_
  refine lv_aload_n hx hb d_Model_feed_95 rfl (lv_at hl 2 rfl) ?_
  refine lv_dup hx hb d_Model_feed_96 rfl ?_
  refine va_get (v := .int 17) hx hb htb i_Model hown hK hP 1 rfl rfl 1 (by decide) (htb _ q7_215) (fun _ h9 => h9) rfl d_Model_feed_97 ?_
  refine lv_dup_x1 hx hb d_Model_feed_100 rfl rfl ?_
  refine lv_iconst (v := 1) hx hb d_Model_feed_101 (by decide) ?_
  refine lv_iadd hx hb d_Model_feed_102 ?_
  rw [show (17 + 1 : Int32) = 18 from by decide]
  refine va_put (v := .int 18) (ty := .int) hx hb htb i_Model t_Model t_Model_ok n_Model hown hK hP hD hS 1 rfl rfl 1 (by decide) (htb _ q7_215) (fun _ h9 => h9) rfl (by decide +kernel) rfl rfl (Nat.le_of_ble_eq_true rfl) d_Model_feed_103 (fun H103 locs hP hD hS => ?_)
  have hP : va_P (dC, dI) classes [(oc, .inl (cI, 2060, .inl g123)), (q0, .inr (12, [.int 0, .int 18, .int wg, .int nc, .int nl, .ref oc, .ref so, .ref rv, .ref sp, .int qs, .ref rz, .ref bl, .ref ww, .ref hs, .ref fi, .ref pm, .ref mx, .ref my, .ref mm, .ref mq, .ref mz, .ref wy, .ref fn, .int si, .int cs, .int cn, .int fa, .int pu, .int de, .int ve, .long nw, .int mk]))] H103 := hP
  have hD : va_D A [(oc, .inl (cI, 2060, .inl g123)), (q0, .inr (12, [.int 0, .int 18, .int wg, .int nc, .int nl, .ref oc, .ref so, .ref rv, .ref sp, .int qs, .ref rz, .ref bl, .ref ww, .ref hs, .ref fi, .ref pm, .ref mx, .ref my, .ref mm, .ref mq, .ref mz, .ref wy, .ref fn, .int si, .int cs, .int cn, .int fa, .int pu, .int de, .int ve, .long nw, .int mk]))] := hD
  refine lv_iload hx hb d_Model_feed_106 (lv_at hl 0 rfl) ?_
  refine lv_bipush (v := 24) hx hb d_Model_feed_108 (by decide) ?_
  refine lv_bipush (v := 8) hx hb d_Model_feed_110 (by decide) ?_
  refine lv_iload hx hb d_Model_feed_112 (lv_at hl 1 rfl) ?_
  refine lv_iconst (v := 3) hx hb d_Model_feed_114 (by decide) ?_
  refine lv_iand hx hb d_Model_feed_115 ?_
  rw [show (17 &&& 3 : Int32) = 1 from by decide]
  refine lv_imul hx hb d_Model_feed_116 ?_
  rw [show (8 * 1 : Int32) = 8 from by decide]
  refine lv_isub hx hb d_Model_feed_117 ?_
  rw [show (24 - 8 : Int32) = 16 from by decide]
  refine lv_iushr (v := (a4.toUInt32 >>> ((16 : Int32).toUInt32 &&& Int32.toUInt32 31)).toInt32) hx hb d_Model_feed_118 rfl ?_
  refine lv_sipush (v := 255) hx hb d_Model_feed_119 (by decide) ?_
  refine lv_iand hx hb d_Model_feed_122 ?_
  have h123 : vp_in 17 2060 := by unfold vp_in; decide
  refine va_iast hx hb hK hP hD hS 0 0 rfl rfl h123 d_Model_feed_123 (fun H123 locs hP hD hS => ?_)
  have hP : va_P (dC, dI) classes [(oc, .inl (cI, 2060, .inl (upd g123 (17 : Int32).toNatClampNeg (((a4.toUInt32 >>> ((16 : Int32).toUInt32 &&& Int32.toUInt32 31)).toInt32) &&& 255)))), (q0, .inr (12, [.int 0, .int 18, .int wg, .int nc, .int nl, .ref oc, .ref so, .ref rv, .ref sp, .int qs, .ref rz, .ref bl, .ref ww, .ref hs, .ref fi, .ref pm, .ref mx, .ref my, .ref mm, .ref mq, .ref mz, .ref wy, .ref fn, .int si, .int cs, .int cn, .int fa, .int pu, .int de, .int ve, .long nw, .int mk]))] H123 := hP
  have hD : va_D A [(oc, .inl (cI, 2060, .inl (upd g123 (17 : Int32).toNatClampNeg (((a4.toUInt32 >>> ((16 : Int32).toUInt32 &&& Int32.toUInt32 31)).toInt32) &&& 255)))), (q0, .inr (12, [.int 0, .int 18, .int wg, .int nc, .int nl, .ref oc, .ref so, .ref rv, .ref sp, .int qs, .ref rz, .ref bl, .ref ww, .ref hs, .ref fi, .ref pm, .ref mx, .ref my, .ref mm, .ref mq, .ref mz, .ref wy, .ref fn, .int si, .int cs, .int cn, .int fa, .int pu, .int de, .int ve, .long nw, .int mk]))] := hD
  generalize upd g123 (17 : Int32).toNatClampNeg (((a4.toUInt32 >>> ((16 : Int32).toUInt32 &&& Int32.toUInt32 31)).toInt32) &&& 255) = g123 at hP hD
  refine lv_iinc (v := 18) (lv' := [(6, .int 18), (7, .int a4), (0, .ref q0), (1, .int a0), (2, .int a1), (3, .int a2), (4, .int a3), (5, .int a4)]) hx hb d_Model_feed_124 hl (k := 1) rfl (by decide) (by decide) rfl (fun ls hl => ?_)
  refine lv_goto (tgt := 36) hx hb d_Model_feed_127 (by decide) ?_
  refine lv_iload hx hb d_Model_feed_36 (lv_at hl 0 rfl) ?_
  refine lv_bipush (v := 20) hx hb d_Model_feed_38 (by decide) ?_
  refine lv_icmp_ge (tgt := 130) hx hb d_Model_feed_40 (by decide) (fun c40 => ?_) (fun c40 => ?_)
  · exact absurd c40 (by decide)
  refine lv_iload hx hb d_Model_feed_43 (lv_at hl 0 rfl) ?_
  refine lv_iconst (v := 4) hx hb d_Model_feed_45 (by decide) ?_
  refine lv_icmp_ge (tgt := 53) hx hb d_Model_feed_46 (by decide) (fun c46 => ?_) (fun c46 => ?_)
  rotate_left
  · exact absurd c46 (by decide)
  refine lv_iload hx hb d_Model_feed_53 (lv_at hl 0 rfl) ?_
  refine lv_bipush (v := 8) hx hb d_Model_feed_55 (by decide) ?_
  refine lv_icmp_ge (tgt := 64) hx hb d_Model_feed_57 (by decide) (fun c57 => ?_) (fun c57 => ?_)
  rotate_left
  · exact absurd c57 (by decide)
  refine lv_iload hx hb d_Model_feed_64 (lv_at hl 0 rfl) ?_
  refine lv_bipush (v := 12) hx hb d_Model_feed_66 (by decide) ?_
  refine lv_icmp_ge (tgt := 75) hx hb d_Model_feed_68 (by decide) (fun c68 => ?_) (fun c68 => ?_)
  rotate_left
  · exact absurd c68 (by decide)
  refine lv_iload hx hb d_Model_feed_75 (lv_at hl 0 rfl) ?_
  refine lv_bipush (v := 16) hx hb d_Model_feed_77 (by decide) ?_
  refine lv_icmp_ge (tgt := 87) hx hb d_Model_feed_79 (by decide) (fun c79 => ?_) (fun c79 => ?_)
  rotate_left
  · exact absurd c79 (by decide)
  refine lv_iload hx hb d_Model_feed_87 (lv_at hl 7 rfl) ?_
  refine lv_istore (lv' := [(7, .int a4), (6, .int 18), (0, .ref q0), (1, .int a0), (2, .int a1), (3, .int a2), (4, .int a3), (5, .int a4)]) hx hb d_Model_feed_89 hl (by decide) rfl (fun ls hl => ?_)
  refine lv_aload_n hx hb d_Model_feed_91 rfl (lv_at hl 2 rfl) ?_
  refine va_get (v := .ref oc) hx hb htb i_Model hown hK hP 1 rfl rfl 5 (by decide) (htb _ q7_219) (fun _ h9 => h9) rfl d_Model_feed_92 ?_
  refine lv_aload_n hx hb d_Model_feed_95 rfl (lv_at hl 2 rfl) ?_
  refine lv_dup hx hb d_Model_feed_96 rfl ?_
  refine va_get (v := .int 18) hx hb htb i_Model hown hK hP 1 rfl rfl 1 (by decide) (htb _ q7_215) (fun _ h9 => h9) rfl d_Model_feed_97 ?_
  refine lv_dup_x1 hx hb d_Model_feed_100 rfl rfl ?_
  refine lv_iconst (v := 1) hx hb d_Model_feed_101 (by decide) ?_
  refine lv_iadd hx hb d_Model_feed_102 ?_
  rw [show (18 + 1 : Int32) = 19 from by decide]
  refine va_put (v := .int 19) (ty := .int) hx hb htb i_Model t_Model t_Model_ok n_Model hown hK hP hD hS 1 rfl rfl 1 (by decide) (htb _ q7_215) (fun _ h9 => h9) rfl (by decide +kernel) rfl rfl (Nat.le_of_ble_eq_true rfl) d_Model_feed_103 (fun H103 locs hP hD hS => ?_)
  have hP : va_P (dC, dI) classes [(oc, .inl (cI, 2060, .inl g123)), (q0, .inr (12, [.int 0, .int 19, .int wg, .int nc, .int nl, .ref oc, .ref so, .ref rv, .ref sp, .int qs, .ref rz, .ref bl, .ref ww, .ref hs, .ref fi, .ref pm, .ref mx, .ref my, .ref mm, .ref mq, .ref mz, .ref wy, .ref fn, .int si, .int cs, .int cn, .int fa, .int pu, .int de, .int ve, .long nw, .int mk]))] H103 := hP
  have hD : va_D A [(oc, .inl (cI, 2060, .inl g123)), (q0, .inr (12, [.int 0, .int 19, .int wg, .int nc, .int nl, .ref oc, .ref so, .ref rv, .ref sp, .int qs, .ref rz, .ref bl, .ref ww, .ref hs, .ref fi, .ref pm, .ref mx, .ref my, .ref mm, .ref mq, .ref mz, .ref wy, .ref fn, .int si, .int cs, .int cn, .int fa, .int pu, .int de, .int ve, .long nw, .int mk]))] := hD
  refine lv_iload hx hb d_Model_feed_106 (lv_at hl 0 rfl) ?_
  refine lv_bipush (v := 24) hx hb d_Model_feed_108 (by decide) ?_
  refine lv_bipush (v := 8) hx hb d_Model_feed_110 (by decide) ?_
  refine lv_iload hx hb d_Model_feed_112 (lv_at hl 1 rfl) ?_
  refine lv_iconst (v := 3) hx hb d_Model_feed_114 (by decide) ?_
  refine lv_iand hx hb d_Model_feed_115 ?_
  rw [show (18 &&& 3 : Int32) = 2 from by decide]
  refine lv_imul hx hb d_Model_feed_116 ?_
  rw [show (8 * 2 : Int32) = 16 from by decide]
  refine lv_isub hx hb d_Model_feed_117 ?_
  rw [show (24 - 16 : Int32) = 8 from by decide]
  refine lv_iushr (v := (a4.toUInt32 >>> ((8 : Int32).toUInt32 &&& Int32.toUInt32 31)).toInt32) hx hb d_Model_feed_118 rfl ?_
  refine lv_sipush (v := 255) hx hb d_Model_feed_119 (by decide) ?_
  refine lv_iand hx hb d_Model_feed_122 ?_
  have h123 : vp_in 18 2060 := by unfold vp_in; decide
  refine va_iast hx hb hK hP hD hS 0 0 rfl rfl h123 d_Model_feed_123 (fun H123 locs hP hD hS => ?_)
  have hP : va_P (dC, dI) classes [(oc, .inl (cI, 2060, .inl (upd g123 (18 : Int32).toNatClampNeg (((a4.toUInt32 >>> ((8 : Int32).toUInt32 &&& Int32.toUInt32 31)).toInt32) &&& 255)))), (q0, .inr (12, [.int 0, .int 19, .int wg, .int nc, .int nl, .ref oc, .ref so, .ref rv, .ref sp, .int qs, .ref rz, .ref bl, .ref ww, .ref hs, .ref fi, .ref pm, .ref mx, .ref my, .ref mm, .ref mq, .ref mz, .ref wy, .ref fn, .int si, .int cs, .int cn, .int fa, .int pu, .int de, .int ve, .long nw, .int mk]))] H123 := hP
  have hD : va_D A [(oc, .inl (cI, 2060, .inl (upd g123 (18 : Int32).toNatClampNeg (((a4.toUInt32 >>> ((8 : Int32).toUInt32 &&& Int32.toUInt32 31)).toInt32) &&& 255)))), (q0, .inr (12, [.int 0, .int 19, .int wg, .int nc, .int nl, .ref oc, .ref so, .ref rv, .ref sp, .int qs, .ref rz, .ref bl, .ref ww, .ref hs, .ref fi, .ref pm, .ref mx, .ref my, .ref mm, .ref mq, .ref mz, .ref wy, .ref fn, .int si, .int cs, .int cn, .int fa, .int pu, .int de, .int ve, .long nw, .int mk]))] := hD
  generalize upd g123 (18 : Int32).toNatClampNeg (((a4.toUInt32 >>> ((8 : Int32).toUInt32 &&& Int32.toUInt32 31)).toInt32) &&& 255) = g123 at hP hD
  refine lv_iinc (v := 19) (lv' := [(6, .int 19), (7, .int a4), (0, .ref q0), (1, .int a0), (2, .int a1), (3, .int a2), (4, .int a3), (5, .int a4)]) hx hb d_Model_feed_124 hl (k := 1) rfl (by decide) (by decide) rfl (fun ls hl => ?_)
  refine lv_goto (tgt := 36) hx hb d_Model_feed_127 (by decide) ?_
  refine lv_iload hx hb d_Model_feed_36 (lv_at hl 0 rfl) ?_
  refine lv_bipush (v := 20) hx hb d_Model_feed_38 (by decide) ?_
  refine lv_icmp_ge (tgt := 130) hx hb d_Model_feed_40 (by decide) (fun c40 => ?_) (fun c40 => ?_)
  · exact absurd c40 (by decide)
  refine lv_iload hx hb d_Model_feed_43 (lv_at hl 0 rfl) ?_
  refine lv_iconst (v := 4) hx hb d_Model_feed_45 (by decide) ?_
  refine lv_icmp_ge (tgt := 53) hx hb d_Model_feed_46 (by decide) (fun c46 => ?_) (fun c46 => ?_)
  rotate_left
  · exact absurd c46 (by decide)
  refine lv_iload hx hb d_Model_feed_53 (lv_at hl 0 rfl) ?_
  refine lv_bipush (v := 8) hx hb d_Model_feed_55 (by decide) ?_
  refine lv_icmp_ge (tgt := 64) hx hb d_Model_feed_57 (by decide) (fun c57 => ?_) (fun c57 => ?_)
  rotate_left
  · exact absurd c57 (by decide)
  refine lv_iload hx hb d_Model_feed_64 (lv_at hl 0 rfl) ?_
  refine lv_bipush (v := 12) hx hb d_Model_feed_66 (by decide) ?_
  refine lv_icmp_ge (tgt := 75) hx hb d_Model_feed_68 (by decide) (fun c68 => ?_) (fun c68 => ?_)
  rotate_left
  · exact absurd c68 (by decide)
  refine lv_iload hx hb d_Model_feed_75 (lv_at hl 0 rfl) ?_
  refine lv_bipush (v := 16) hx hb d_Model_feed_77 (by decide) ?_
  refine lv_icmp_ge (tgt := 87) hx hb d_Model_feed_79 (by decide) (fun c79 => ?_) (fun c79 => ?_)
  rotate_left
  · exact absurd c79 (by decide)
  refine lv_iload hx hb d_Model_feed_87 (lv_at hl 7 rfl) ?_
  refine lv_istore (lv' := [(7, .int a4), (6, .int 19), (0, .ref q0), (1, .int a0), (2, .int a1), (3, .int a2), (4, .int a3), (5, .int a4)]) hx hb d_Model_feed_89 hl (by decide) rfl (fun ls hl => ?_)
  refine lv_aload_n hx hb d_Model_feed_91 rfl (lv_at hl 2 rfl) ?_
  refine va_get (v := .ref oc) hx hb htb i_Model hown hK hP 1 rfl rfl 5 (by decide) (htb _ q7_219) (fun _ h9 => h9) rfl d_Model_feed_92 ?_
  refine lv_aload_n hx hb d_Model_feed_95 rfl (lv_at hl 2 rfl) ?_
  refine lv_dup hx hb d_Model_feed_96 rfl ?_
  refine va_get (v := .int 19) hx hb htb i_Model hown hK hP 1 rfl rfl 1 (by decide) (htb _ q7_215) (fun _ h9 => h9) rfl d_Model_feed_97 ?_
  refine lv_dup_x1 hx hb d_Model_feed_100 rfl rfl ?_
  refine lv_iconst (v := 1) hx hb d_Model_feed_101 (by decide) ?_
  refine lv_iadd hx hb d_Model_feed_102 ?_
  rw [show (19 + 1 : Int32) = 20 from by decide]
  refine va_put (v := .int 20) (ty := .int) hx hb htb i_Model t_Model t_Model_ok n_Model hown hK hP hD hS 1 rfl rfl 1 (by decide) (htb _ q7_215) (fun _ h9 => h9) rfl (by decide +kernel) rfl rfl (Nat.le_of_ble_eq_true rfl) d_Model_feed_103 (fun H103 locs hP hD hS => ?_)
  have hP : va_P (dC, dI) classes [(oc, .inl (cI, 2060, .inl g123)), (q0, .inr (12, [.int 0, .int 20, .int wg, .int nc, .int nl, .ref oc, .ref so, .ref rv, .ref sp, .int qs, .ref rz, .ref bl, .ref ww, .ref hs, .ref fi, .ref pm, .ref mx, .ref my, .ref mm, .ref mq, .ref mz, .ref wy, .ref fn, .int si, .int cs, .int cn, .int fa, .int pu, .int de, .int ve, .long nw, .int mk]))] H103 := hP
  have hD : va_D A [(oc, .inl (cI, 2060, .inl g123)), (q0, .inr (12, [.int 0, .int 20, .int wg, .int nc, .int nl, .ref oc, .ref so, .ref rv, .ref sp, .int qs, .ref rz, .ref bl, .ref ww, .ref hs, .ref fi, .ref pm, .ref mx, .ref my, .ref mm, .ref mq, .ref mz, .ref wy, .ref fn, .int si, .int cs, .int cn, .int fa, .int pu, .int de, .int ve, .long nw, .int mk]))] := hD
  refine lv_iload hx hb d_Model_feed_106 (lv_at hl 0 rfl) ?_
  refine lv_bipush (v := 24) hx hb d_Model_feed_108 (by decide) ?_
  refine lv_bipush (v := 8) hx hb d_Model_feed_110 (by decide) ?_
  refine lv_iload hx hb d_Model_feed_112 (lv_at hl 1 rfl) ?_
  refine lv_iconst (v := 3) hx hb d_Model_feed_114 (by decide) ?_
  refine lv_iand hx hb d_Model_feed_115 ?_
  rw [show (19 &&& 3 : Int32) = 3 from by decide]
  refine lv_imul hx hb d_Model_feed_116 ?_
  rw [show (8 * 3 : Int32) = 24 from by decide]
  refine lv_isub hx hb d_Model_feed_117 ?_
  rw [show (24 - 24 : Int32) = 0 from by decide]
  refine lv_iushr (v := (a4.toUInt32 >>> ((0 : Int32).toUInt32 &&& Int32.toUInt32 31)).toInt32) hx hb d_Model_feed_118 rfl ?_
  refine lv_sipush (v := 255) hx hb d_Model_feed_119 (by decide) ?_
  refine lv_iand hx hb d_Model_feed_122 ?_
  have h123 : vp_in 19 2060 := by unfold vp_in; decide
  refine va_iast hx hb hK hP hD hS 0 0 rfl rfl h123 d_Model_feed_123 (fun H123 locs hP hD hS => ?_)
  have hP : va_P (dC, dI) classes [(oc, .inl (cI, 2060, .inl (upd g123 (19 : Int32).toNatClampNeg (((a4.toUInt32 >>> ((0 : Int32).toUInt32 &&& Int32.toUInt32 31)).toInt32) &&& 255)))), (q0, .inr (12, [.int 0, .int 20, .int wg, .int nc, .int nl, .ref oc, .ref so, .ref rv, .ref sp, .int qs, .ref rz, .ref bl, .ref ww, .ref hs, .ref fi, .ref pm, .ref mx, .ref my, .ref mm, .ref mq, .ref mz, .ref wy, .ref fn, .int si, .int cs, .int cn, .int fa, .int pu, .int de, .int ve, .long nw, .int mk]))] H123 := hP
  have hD : va_D A [(oc, .inl (cI, 2060, .inl (upd g123 (19 : Int32).toNatClampNeg (((a4.toUInt32 >>> ((0 : Int32).toUInt32 &&& Int32.toUInt32 31)).toInt32) &&& 255)))), (q0, .inr (12, [.int 0, .int 20, .int wg, .int nc, .int nl, .ref oc, .ref so, .ref rv, .ref sp, .int qs, .ref rz, .ref bl, .ref ww, .ref hs, .ref fi, .ref pm, .ref mx, .ref my, .ref mm, .ref mq, .ref mz, .ref wy, .ref fn, .int si, .int cs, .int cn, .int fa, .int pu, .int de, .int ve, .long nw, .int mk]))] := hD
  generalize upd g123 (19 : Int32).toNatClampNeg (((a4.toUInt32 >>> ((0 : Int32).toUInt32 &&& Int32.toUInt32 31)).toInt32) &&& 255) = g123 at hP hD
  refine lv_iinc (v := 20) (lv' := [(6, .int 20), (7, .int a4), (0, .ref q0), (1, .int a0), (2, .int a1), (3, .int a2), (4, .int a3), (5, .int a4)]) hx hb d_Model_feed_124 hl (k := 1) rfl (by decide) (by decide) rfl (fun ls hl => ?_)
  refine lv_goto (tgt := 36) hx hb d_Model_feed_127 (by decide) ?_
  refine lv_iload hx hb d_Model_feed_36 (lv_at hl 0 rfl) ?_
  refine lv_bipush (v := 20) hx hb d_Model_feed_38 (by decide) ?_
  refine lv_icmp_ge (tgt := 130) hx hb d_Model_feed_40 (by decide) (fun c40 => ?_) (fun c40 => ?_)
  rotate_left
  · exact absurd c40 (by decide)
  refine lv_aload_n hx hb d_Model_feed_130 rfl (lv_at hl 2 rfl) ?_
  refine va_get (v := .int 20) hx hb htb i_Model hown hK hP 1 rfl rfl 1 (by decide) (htb _ q7_215) (fun _ h9 => h9) rfl d_Model_feed_131 ?_
  exact W.iret (v := 20) hx hb hr (fun t ht hW => ⟨⟨_, g123, rfl, rfl, by rw [ht]; exact hP.sub [1, 0] rfl, va_K.moved hW.alike hK, hD.sub [1, 0] (by decide) rfl⟩, hS.F ht⟩) hS.2.2 d_Model_feed_134
