/-! The reference: certificate and list where nothing was fed; its constructors. -/
def y_Text_bad : MethodName := ⟨"TrustChainModel$Text", "bad", "(I)Z"⟩
abbrev b_Text_bad : ByteArray := prog_15_method_2_code
def w_Text_bad : List Cond := Cond.code y_Text_bad b_Text_bad 2 ((some FieldType.boolean)) :: tb
theorem d_Text_bad_0 : decode b_Text_bad 0 = .ok (.aload_n 0, 1) := by decide +kernel
theorem d_Text_bad_1 : decode b_Text_bad 1 = .ok (.getfield 48, 3) := by decide +kernel
theorem d_Text_bad_4 : decode b_Text_bad 4 = .ok (.ifCond .ge 8, 3) := by decide +kernel
theorem d_Text_bad_7 : decode b_Text_bad 7 = .ok (.aload_n 0, 1) := by decide +kernel
theorem d_Text_bad_8 : decode b_Text_bad 8 = .ok (.iload_n 1, 1) := by decide +kernel
theorem d_Text_bad_9 : decode b_Text_bad 9 = .ok (.putfield 48, 3) := by decide +kernel
theorem d_Text_bad_12 : decode b_Text_bad 12 = .ok (.iconst 0, 1) := by decide +kernel
theorem d_Text_bad_13 : decode b_Text_bad 13 = .ok (.ireturn, 1) := by decide +kernel
def y_Text_element : MethodName := ⟨"TrustChainModel$Text", "element", "(II)Z"⟩
abbrev b_Text_element : ByteArray := prog_15_method_4_code
def w_Text_element : List Cond := Cond.code y_Text_element b_Text_element 5 ((some FieldType.boolean)) :: tb
theorem d_Text_element_0 : decode b_Text_element 0 = .ok (.aload_n 0, 1) := by decide +kernel
theorem d_Text_element_1 : decode b_Text_element 1 = .ok (.getfield 52, 3) := by decide +kernel
theorem d_Text_element_4 : decode b_Text_element 4 = .ok (.iload_n 2, 1) := by decide +kernel
theorem d_Text_element_5 : decode b_Text_element 5 = .ok (.if_icmp .lt 9, 3) := by decide +kernel
theorem d_Text_element_8 : decode b_Text_element 8 = .ok (.aload_n 0, 1) := by decide +kernel
theorem d_Text_element_9 : decode b_Text_element 9 = .ok (.iload_n 2, 1) := by decide +kernel
theorem d_Text_element_10 : decode b_Text_element 10 = .ok (.invokevirtual 55, 3) := by decide +kernel
theorem d_Text_element_13 : decode b_Text_element 13 = .ok (.ireturn, 1) := by decide +kernel
theorem d_Text_element_14 : decode b_Text_element 14 = .ok (.aload_n 0, 1) := by decide +kernel
theorem d_Text_element_15 : decode b_Text_element 15 = .ok (.aload_n 0, 1) := by decide +kernel
theorem d_Text_element_16 : decode b_Text_element 16 = .ok (.getfield 52, 3) := by decide +kernel
def y_Text_read : MethodName := ⟨"TrustChainModel$Text", "read", "(Z)Z"⟩
abbrev b_Text_read : ByteArray := prog_15_method_28_code
def w_Text_read : List Cond := Cond.code y_Text_read b_Text_read 3 ((some FieldType.boolean)) :: tb
theorem d_Text_read_0 : decode b_Text_read 0 = .ok (.aload_n 0, 1) := by decide +kernel
theorem d_Text_read_1 : decode b_Text_read 1 = .ok (.iconst 0, 1) := by decide +kernel
theorem d_Text_read_2 : decode b_Text_read 2 = .ok (.putfield 52, 3) := by decide +kernel
theorem d_Text_read_5 : decode b_Text_read 5 = .ok (.aload_n 0, 1) := by decide +kernel
theorem d_Text_read_6 : decode b_Text_read 6 = .ok (.iconst (-1), 1) := by decide +kernel
theorem d_Text_read_7 : decode b_Text_read 7 = .ok (.putfield 48, 3) := by decide +kernel
theorem d_Text_read_10 : decode b_Text_read 10 = .ok (.aload_n 0, 1) := by decide +kernel
theorem d_Text_read_11 : decode b_Text_read 11 = .ok (.iconst 0, 1) := by decide +kernel
theorem d_Text_read_12 : decode b_Text_read 12 = .ok (.putfield 235, 3) := by decide +kernel
theorem d_Text_read_15 : decode b_Text_read 15 = .ok (.aload_n 0, 1) := by decide +kernel
theorem d_Text_read_16 : decode b_Text_read 16 = .ok (.iconst 0, 1) := by decide +kernel
theorem d_Text_read_17 : decode b_Text_read 17 = .ok (.putfield 229, 3) := by decide +kernel
theorem d_Text_read_20 : decode b_Text_read 20 = .ok (.aload_n 0, 1) := by decide +kernel
theorem d_Text_read_21 : decode b_Text_read 21 = .ok (.iconst 0, 1) := by decide +kernel
theorem d_Text_read_22 : decode b_Text_read 22 = .ok (.putfield 243, 3) := by decide +kernel
theorem d_Text_read_25 : decode b_Text_read 25 = .ok (.aload_n 0, 1) := by decide +kernel
theorem d_Text_read_26 : decode b_Text_read 26 = .ok (.iconst 0, 1) := by decide +kernel
theorem d_Text_read_27 : decode b_Text_read 27 = .ok (.putfield 179, 3) := by decide +kernel
theorem d_Text_read_30 : decode b_Text_read 30 = .ok (.aload_n 0, 1) := by decide +kernel
theorem d_Text_read_31 : decode b_Text_read 31 = .ok (.iconst 0, 1) := by decide +kernel
theorem d_Text_read_32 : decode b_Text_read 32 = .ok (.putfield 241, 3) := by decide +kernel
theorem d_Text_read_35 : decode b_Text_read 35 = .ok (.aload_n 0, 1) := by decide +kernel
theorem d_Text_read_36 : decode b_Text_read 36 = .ok (.iconst 0, 1) := by decide +kernel
theorem d_Text_read_37 : decode b_Text_read 37 = .ok (.putfield 246, 3) := by decide +kernel
theorem d_Text_read_40 : decode b_Text_read 40 = .ok (.aload_n 0, 1) := by decide +kernel
theorem d_Text_read_41 : decode b_Text_read 41 = .ok (.iconst (-1), 1) := by decide +kernel
theorem d_Text_read_42 : decode b_Text_read 42 = .ok (.putfield 222, 3) := by decide +kernel
theorem d_Text_read_45 : decode b_Text_read 45 = .ok (.aload_n 0, 1) := by decide +kernel
theorem d_Text_read_46 : decode b_Text_read 46 = .ok (.iconst (-1), 1) := by decide +kernel
theorem d_Text_read_47 : decode b_Text_read 47 = .ok (.putfield 224, 3) := by decide +kernel
theorem d_Text_read_50 : decode b_Text_read 50 = .ok (.aload_n 0, 1) := by decide +kernel
theorem d_Text_read_51 : decode b_Text_read 51 = .ok (.iconst (-1), 1) := by decide +kernel
theorem d_Text_read_52 : decode b_Text_read 52 = .ok (.putfield 201, 3) := by decide +kernel
theorem d_Text_read_55 : decode b_Text_read 55 = .ok (.aload_n 0, 1) := by decide +kernel
theorem d_Text_read_56 : decode b_Text_read 56 = .ok (.iconst (-1), 1) := by decide +kernel
theorem d_Text_read_57 : decode b_Text_read 57 = .ok (.putfield 207, 3) := by decide +kernel
theorem d_Text_read_60 : decode b_Text_read 60 = .ok (.aload_n 0, 1) := by decide +kernel
theorem d_Text_read_61 : decode b_Text_read 61 = .ok (.iconst 0, 1) := by decide +kernel
theorem d_Text_read_62 : decode b_Text_read 62 = .ok (.putfield 216, 3) := by decide +kernel
theorem d_Text_read_65 : decode b_Text_read 65 = .ok (.aload_n 0, 1) := by decide +kernel
theorem d_Text_read_66 : decode b_Text_read 66 = .ok (.iconst 0, 1) := by decide +kernel
theorem d_Text_read_67 : decode b_Text_read 67 = .ok (.putfield 213, 3) := by decide +kernel
theorem d_Text_read_70 : decode b_Text_read 70 = .ok (.aload_n 0, 1) := by decide +kernel
theorem d_Text_read_71 : decode b_Text_read 71 = .ok (.bipush 48, 2) := by decide +kernel
theorem d_Text_read_73 : decode b_Text_read 73 = .ok (.aload_n 0, 1) := by decide +kernel
theorem d_Text_read_74 : decode b_Text_read 74 = .ok (.getfield 249, 3) := by decide +kernel
theorem d_Text_read_77 : decode b_Text_read 77 = .ok (.invokevirtual 68, 3) := by decide +kernel
theorem d_Text_read_80 : decode b_Text_read 80 = .ok (.ifCond .ne 5, 3) := by decide +kernel
theorem d_Text_read_83 : decode b_Text_read 83 = .ok (.iconst 0, 1) := by decide +kernel
theorem d_Text_read_84 : decode b_Text_read 84 = .ok (.ireturn, 1) := by decide +kernel
theorem d_Text_read_85 : decode b_Text_read 85 = .ok (.aload_n 0, 1) := by decide +kernel
set_option maxHeartbeats 4000000 in
set_option maxRecDepth 100000 in
theorem e_fails0 (l : Launch) (dC : Nat → ClassId) (dI : Nat → Nat → Nat) (sb : sB) (q0 oc so rv sp rz bl ww hs fi pm mx my mm mq mz wy fn : Nat) (fd wg nc nl qs si cs cn fa pu de ve mk : Int32) (nw : Int64) (cd : Int32) (sz : Nat) : Met l y_Model_fails w_Model_fails ({ frames := 0, cells := 0, slots := 0, locals := 0 }) (mu_P [.ref q0, .int 0, .int cd] (dC, dI) sb [(q0, .inr (12, [.int 0, .int fd, .int wg, .int nc, .int nl, .ref oc, .ref so, .ref rv, .ref sp, .int qs, .ref rz, .ref bl, .ref ww, .ref hs, .ref fi, .ref pm, .ref mx, .ref my, .ref mm, .ref mq, .ref mz, .ref wy, .ref fn, .int si, .int cs, .int cn, .int fa, .int pu, .int de, .int ve, .long nw, .int mk]))] [] sz) (va_Qi (fun r (_u : Unit) => r = 0) (mu_B (dC, dI) [] (va_A [(q0, .inr (12, [.int 0, .int fd, .int wg, .int nc, .int nl, .ref oc, .ref so, .ref rv, .ref sp, .int qs, .ref rz, .ref bl, .ref ww, .ref hs, .ref fi, .ref pm, .ref mx, .ref my, .ref mm, .ref mq, .ref mz, .ref wy, .ref fn, .int si, .int cs, .int cn, .int fa, .int pu, .int de, .int ve, .long nw, .int mk]))] sz) (fun _ : Unit => [(q0, .inr (12, [.int 0, .int fd, .int wg, .int nc, .int nl, .ref oc, .ref so, .ref rv, .ref sp, .int qs, .ref rz, .ref bl, .ref ww, .ref hs, .ref fi, .ref pm, .ref mx, .ref my, .ref mm, .ref mq, .ref mz, .ref wy, .ref fn, .int si, .int cs, .int cn, .int fa, .int pu, .int de, .int ve, .long nw, .int mk]))])) (va_A [(q0, .inr (12, [.int 0, .int fd, .int wg, .int nc, .int nl, .ref oc, .ref so, .ref rv, .ref sp, .int qs, .ref rz, .ref bl, .ref ww, .ref hs, .ref fi, .ref pm, .ref mx, .ref my, .ref mm, .ref mq, .ref mz, .ref wy, .ref fn, .int si, .int cs, .int cn, .int fa, .int pu, .int de, .int ve, .long nw, .int mk]))] sz)) 0 0 (va_A [(q0, .inr (12, [.int 0, .int fd, .int wg, .int nc, .int nl, .ref oc, .ref so, .ref rv, .ref sp, .int qs, .ref rz, .ref bl, .ref ww, .ref hs, .ref fi, .ref pm, .ref mx, .ref my, .ref mm, .ref mq, .ref mz, .ref wy, .ref fn, .int si, .int cs, .int cn, .int fa, .int pu, .int de, .int ve, .long nw, .int mk]))] sz) := by
  refine Met.ofW (cc := b_Model_fails) (maxL := 3) (ret := (some FieldType.boolean)) (by decide) rfl ?_
  intro p e s m args below meth c s₁ B hml hv
  obtain ⟨rfl, hsz, hB0, hP, hK, hD0, hN, hT0⟩ := hv
  have hx := B.exec
  have hb := B.bytes
  have hr := B.returns
  have hts := atoms_spec (ws := w_Model_fails) B.pre
  have tbin : ∀ w ∈ tb, w ∈ w_Model_fails := fun w h => List.mem_cons_of_mem _ h
  have htb : ∀ w ∈ tb, w.before _ s = true := fun w h => hts w (tbin w h)
  have hown : s.vm.findClass "TrustChainModel" = some m.cls := findClass_of_methodNamed B.named
  have hlocks := B.notSynchronized
  subst hsz
  have hD := hD0.self (sz := s.heap.size)
  generalize hAe : va_A [(q0, .inr (12, [.int 0, .int fd, .int wg, .int nc, .int nl, .ref oc, .ref so, .ref rv, .ref sp, .int qs, .ref rz, .ref bl, .ref ww, .ref hs, .ref fi, .ref pm, .ref mx, .ref my, .ref mm, .ref mq, .ref mz, .ref wy, .ref fn, .int si, .int cs, .int cn, .int fa, .int pu, .int de, .int ve, .long nw, .int mk]))] s.heap.size = A at hD ⊢
  have hA : ∀ q : Nat, s.heap.size ≤ q → A q := fun q h => by rw [← hAe]; exact Or.inr h
  have hAs : ∀ q : Nat, A q → sb.1 ≤ q := fun q h => by
    rw [← hAe] at h
    rcases h with ⟨k, e, h⟩ | h
    · exact hD0.2 k _ h
    · exact Nat.le_trans hB0 h
  have hS : va_S A s.heap s.heap [] := va_S.rf
  have hcs : 0 ≤ (headSpec w_Model_fails ({ frames := 0, cells := 0, slots := 0, locals := 0 })).room.cells ∧ 0 ≤ (headSpec w_Model_fails ({ frames := 0, cells := 0, slots := 0, locals := 0 })).room.slots := ⟨Nat.le_refl _, Nat.le_refl _⟩
  have hP : va_P (dC, dI) classes [(q0, .inr (12, [.int 0, .int fd, .int wg, .int nc, .int nl, .ref oc, .ref so, .ref rv, .ref sp, .int qs, .ref rz, .ref bl, .ref ww, .ref hs, .ref fi, .ref pm, .ref mx, .ref my, .ref mm, .ref mq, .ref mz, .ref wy, .ref fn, .int si, .int cs, .int cn, .int fa, .int pu, .int de, .int ve, .long nw, .int mk]))] s.heap := hP
  have hl := lv_entry ([.ref q0, .int 0, .int cd]) (n := 3) (Nat.le_of_ble_eq_true rfl)
  rw [lg_entry_eq]
  generalize (lg_sl ([.ref q0, .int 0, .int cd]) ++ List.replicate (3 - (lg_sl ([.ref q0, .int 0, .int cd])).length) Slot.unset).toArray = ls at hl ⊢
  have hl : lv_has ls 3 [(0, .ref q0), (1, .int 0), (2, .int cd)] := hl
  refine lv_iload_n hx hb d_Model_fails_0 rfl (lv_at hl 1 rfl) ?_
  refine lv_if_eq (tgt := 16) hx hb d_Model_fails_1 (by decide) (fun c1 => ?_) (fun c1 => ?_)
  rotate_left
  · exact absurd c1 (by decide)
  refine lv_aload_n hx hb d_Model_fails_16 rfl (lv_at hl 0 rfl) ?_
  refine va_get (v := .int 0) hx hb htb i_Model hown hK hP 0 rfl rfl 0 (by decide) (htb _ q7_214) (fun _ h9 => h9) rfl d_Model_fails_17 ?_
  refine lv_if_eq (tgt := 27) hx hb d_Model_fails_20 (by decide) (fun c20 => ?_) (fun c20 => ?_)
  rotate_left
  · exact absurd c20 (by decide)
  refine lv_iconst (v := 0) hx hb d_Model_fails_27 (by decide) ?_
  exact W.zret (v := 0) hx hb hr (bz_n (bz_f not_false)) (fun t ht hW => ⟨⟨_, (), rfl, rfl, by rw [ht]; exact hP, va_K.moved hW.alike hK, hD⟩, hS.F ht⟩) hS.2.2 d_Model_fails_28
set_option maxHeartbeats 4000000 in
set_option maxRecDepth 100000 in
theorem e_fails2 (l : Launch) (dC : Nat → ClassId) (dI : Nat → Nat → Nat) (sb : sB) (q0 oc so rv sp rz bl ww hs fi pm mx my mm mq mz wy fn : Nat) (fd wg nc nl qs si cs cn fa pu de ve mk : Int32) (nw : Int64) (sz : Nat) : Met l y_Model_fails w_Model_fails ({ frames := 0, cells := 0, slots := 0, locals := 0 }) (mu_P [.ref q0, .int 1, .int 2] (dC, dI) sb [(q0, .inr (12, [.int 0, .int fd, .int wg, .int nc, .int nl, .ref oc, .ref so, .ref rv, .ref sp, .int qs, .ref rz, .ref bl, .ref ww, .ref hs, .ref fi, .ref pm, .ref mx, .ref my, .ref mm, .ref mq, .ref mz, .ref wy, .ref fn, .int si, .int cs, .int cn, .int fa, .int pu, .int de, .int ve, .long nw, .int mk]))] [] sz) (va_Qi (fun r (_u : Unit) => r = 1) (mu_B (dC, dI) [] (va_A [(q0, .inr (12, [.int 0, .int fd, .int wg, .int nc, .int nl, .ref oc, .ref so, .ref rv, .ref sp, .int qs, .ref rz, .ref bl, .ref ww, .ref hs, .ref fi, .ref pm, .ref mx, .ref my, .ref mm, .ref mq, .ref mz, .ref wy, .ref fn, .int si, .int cs, .int cn, .int fa, .int pu, .int de, .int ve, .long nw, .int mk]))] sz) (fun _ : Unit => [(q0, .inr (12, [.int 2, .int fd, .int wg, .int nc, .int nl, .ref oc, .ref so, .ref rv, .ref sp, .int qs, .ref rz, .ref bl, .ref ww, .ref hs, .ref fi, .ref pm, .ref mx, .ref my, .ref mm, .ref mq, .ref mz, .ref wy, .ref fn, .int si, .int cs, .int cn, .int fa, .int pu, .int de, .int ve, .long nw, .int mk]))])) (va_A [(q0, .inr (12, [.int 0, .int fd, .int wg, .int nc, .int nl, .ref oc, .ref so, .ref rv, .ref sp, .int qs, .ref rz, .ref bl, .ref ww, .ref hs, .ref fi, .ref pm, .ref mx, .ref my, .ref mm, .ref mq, .ref mz, .ref wy, .ref fn, .int si, .int cs, .int cn, .int fa, .int pu, .int de, .int ve, .long nw, .int mk]))] sz)) 0 0 (va_A [(q0, .inr (12, [.int 0, .int fd, .int wg, .int nc, .int nl, .ref oc, .ref so, .ref rv, .ref sp, .int qs, .ref rz, .ref bl, .ref ww, .ref hs, .ref fi, .ref pm, .ref mx, .ref my, .ref mm, .ref mq, .ref mz, .ref wy, .ref fn, .int si, .int cs, .int cn, .int fa, .int pu, .int de, .int ve, .long nw, .int mk]))] sz) := by
  refine Met.ofW (cc := b_Model_fails) (maxL := 3) (ret := (some FieldType.boolean)) (by decide) rfl ?_
  intro p e s m args below meth c s₁ B hml hv
  obtain ⟨rfl, hsz, hB0, hP, hK, hD0, hN, hT0⟩ := hv
  have hx := B.exec
  have hb := B.bytes
  have hr := B.returns
  have hts := atoms_spec (ws := w_Model_fails) B.pre
  have tbin : ∀ w ∈ tb, w ∈ w_Model_fails := fun w h => List.mem_cons_of_mem _ h
  have htb : ∀ w ∈ tb, w.before _ s = true := fun w h => hts w (tbin w h)
  have hown : s.vm.findClass "TrustChainModel" = some m.cls := findClass_of_methodNamed B.named
  have hlocks := B.notSynchronized
  subst hsz
  have hD := hD0.self (sz := s.heap.size)
  generalize hAe : va_A [(q0, .inr (12, [.int 0, .int fd, .int wg, .int nc, .int nl, .ref oc, .ref so, .ref rv, .ref sp, .int qs, .ref rz, .ref bl, .ref ww, .ref hs, .ref fi, .ref pm, .ref mx, .ref my, .ref mm, .ref mq, .ref mz, .ref wy, .ref fn, .int si, .int cs, .int cn, .int fa, .int pu, .int de, .int ve, .long nw, .int mk]))] s.heap.size = A at hD ⊢
  have hA : ∀ q : Nat, s.heap.size ≤ q → A q := fun q h => by rw [← hAe]; exact Or.inr h
  have hAs : ∀ q : Nat, A q → sb.1 ≤ q := fun q h => by
    rw [← hAe] at h
    rcases h with ⟨k, e, h⟩ | h
    · exact hD0.2 k _ h
    · exact Nat.le_trans hB0 h
  have hS : va_S A s.heap s.heap [] := va_S.rf
  have hcs : 0 ≤ (headSpec w_Model_fails ({ frames := 0, cells := 0, slots := 0, locals := 0 })).room.cells ∧ 0 ≤ (headSpec w_Model_fails ({ frames := 0, cells := 0, slots := 0, locals := 0 })).room.slots := ⟨Nat.le_refl _, Nat.le_refl _⟩
  have hP : va_P (dC, dI) classes [(q0, .inr (12, [.int 0, .int fd, .int wg, .int nc, .int nl, .ref oc, .ref so, .ref rv, .ref sp, .int qs, .ref rz, .ref bl, .ref ww, .ref hs, .ref fi, .ref pm, .ref mx, .ref my, .ref mm, .ref mq, .ref mz, .ref wy, .ref fn, .int si, .int cs, .int cn, .int fa, .int pu, .int de, .int ve, .long nw, .int mk]))] s.heap := hP
  have hl := lv_entry ([.ref q0, .int 1, .int 2]) (n := 3) (Nat.le_of_ble_eq_true rfl)
  rw [lg_entry_eq]
  generalize (lg_sl ([.ref q0, .int 1, .int 2]) ++ List.replicate (3 - (lg_sl ([.ref q0, .int 1, .int 2])).length) Slot.unset).toArray = ls at hl ⊢
  have hl : lv_has ls 3 [(0, .ref q0), (1, .int 1), (2, .int 2)] := hl
  refine lv_iload_n hx hb d_Model_fails_0 rfl (lv_at hl 1 rfl) ?_
  refine lv_if_eq (tgt := 16) hx hb d_Model_fails_1 (by decide) (fun c1 => ?_) (fun c1 => ?_)
  · exact absurd c1 (by decide)
  refine lv_aload_n hx hb d_Model_fails_4 rfl (lv_at hl 0 rfl) ?_
  refine va_get (v := .int 0) hx hb htb i_Model hown hK hP 0 rfl rfl 0 (by decide) (htb _ q7_214) (fun _ h9 => h9) rfl d_Model_fails_5 ?_
  refine lv_if_ne (tgt := 16) hx hb d_Model_fails_8 (by decide) (fun c8 => ?_) (fun c8 => ?_)
  · exact absurd c8 (by decide)
  refine lv_aload_n hx hb d_Model_fails_11 rfl (lv_at hl 0 rfl) ?_
  refine lv_iload_n hx hb d_Model_fails_12 rfl (lv_at hl 2 rfl) ?_
  refine va_put (v := .int 2) (ty := .int) hx hb htb i_Model t_Model t_Model_ok n_Model hown hK hP hD hS 0 rfl rfl 0 (by decide) (htb _ q7_214) (fun _ h9 => h9) rfl (by decide +kernel) rfl rfl (Nat.le_of_ble_eq_true rfl) d_Model_fails_13 (fun H13 locs hP hD hS => ?_)
  have hP : va_P (dC, dI) classes [(q0, .inr (12, [.int 2, .int fd, .int wg, .int nc, .int nl, .ref oc, .ref so, .ref rv, .ref sp, .int qs, .ref rz, .ref bl, .ref ww, .ref hs, .ref fi, .ref pm, .ref mx, .ref my, .ref mm, .ref mq, .ref mz, .ref wy, .ref fn, .int si, .int cs, .int cn, .int fa, .int pu, .int de, .int ve, .long nw, .int mk]))] H13 := hP
  have hD : va_D A [(q0, .inr (12, [.int 2, .int fd, .int wg, .int nc, .int nl, .ref oc, .ref so, .ref rv, .ref sp, .int qs, .ref rz, .ref bl, .ref ww, .ref hs, .ref fi, .ref pm, .ref mx, .ref my, .ref mm, .ref mq, .ref mz, .ref wy, .ref fn, .int si, .int cs, .int cn, .int fa, .int pu, .int de, .int ve, .long nw, .int mk]))] := hD
  refine lv_aload_n hx hb d_Model_fails_16 rfl (lv_at hl 0 rfl) ?_
  refine va_get (v := .int 2) hx hb htb i_Model hown hK hP 0 rfl rfl 0 (by decide) (htb _ q7_214) (fun _ h9 => h9) rfl d_Model_fails_17 ?_
  refine lv_if_eq (tgt := 27) hx hb d_Model_fails_20 (by decide) (fun c20 => ?_) (fun c20 => ?_)
  · exact absurd c20 (by decide)
  refine lv_iconst (v := 1) hx hb d_Model_fails_23 (by decide) ?_
  refine lv_goto (tgt := 28) hx hb d_Model_fails_24 (by decide) ?_
  exact W.zret (v := 1) hx hb hr (bz_n (bz_t trivial)) (fun t ht hW => ⟨⟨_, (), rfl, rfl, by rw [ht]; exact hP, va_K.moved hW.alike hK, hD⟩, hS.F ht⟩) hS.2.2 d_Model_fails_28
def y_Model_store : MethodName := ⟨"TrustChainModel", "store", "(IZ)I"⟩
abbrev b_Model_store : ByteArray := prog_14_method_15_code
def w_Model_store : List Cond := Cond.code y_Model_store b_Model_store 6 ((some FieldType.int)) :: tb
theorem d_Model_store_0 : decode b_Model_store 0 = .ok (.iload_n 2, 1) := by decide +kernel
theorem d_Model_store_1 : decode b_Model_store 1 = .ok (.ifCond .eq 10, 3) := by decide +kernel
theorem d_Model_store_4 : decode b_Model_store 4 = .ok (.aload_n 0, 1) := by decide +kernel
theorem d_Model_store_5 : decode b_Model_store 5 = .ok (.getfield 180, 3) := by decide +kernel
theorem d_Model_store_8 : decode b_Model_store 8 = .ok (.goto 7, 3) := by decide +kernel
theorem d_Model_store_11 : decode b_Model_store 11 = .ok (.aload_n 0, 1) := by decide +kernel
theorem d_Model_store_12 : decode b_Model_store 12 = .ok (.getfield 183, 3) := by decide +kernel
theorem d_Model_store_15 : decode b_Model_store 15 = .ok (.istore_n 3, 1) := by decide +kernel
theorem d_Model_store_16 : decode b_Model_store 16 = .ok (.aload_n 0, 1) := by decide +kernel
theorem d_Model_store_17 : decode b_Model_store 17 = .ok (.iload_n 1, 1) := by decide +kernel
theorem d_Model_store_18 : decode b_Model_store 18 = .ok (.ifCond .lt 33, 3) := by decide +kernel
theorem d_Model_store_21 : decode b_Model_store 21 = .ok (.iload_n 1, 1) := by decide +kernel
theorem d_Model_store_22 : decode b_Model_store 22 = .ok (.sipush 2048, 3) := by decide +kernel
theorem d_Model_store_25 : decode b_Model_store 25 = .ok (.if_icmp .gt 26, 3) := by decide +kernel
theorem d_Model_store_28 : decode b_Model_store 28 = .ok (.iload_n 1, 1) := by decide +kernel
theorem d_Model_store_29 : decode b_Model_store 29 = .ok (.aload_n 0, 1) := by decide +kernel
theorem d_Model_store_30 : decode b_Model_store 30 = .ok (.getfield 173, 3) := by decide +kernel
theorem d_Model_store_33 : decode b_Model_store 33 = .ok (.if_icmp .gt 18, 3) := by decide +kernel
theorem d_Model_store_36 : decode b_Model_store 36 = .ok (.iload_n 3, 1) := by decide +kernel
theorem d_Model_store_37 : decode b_Model_store 37 = .ok (.iload_n 2, 1) := by decide +kernel
theorem d_Model_store_38 : decode b_Model_store 38 = .ok (.ifCond .eq 8, 3) := by decide +kernel
theorem d_Model_store_41 : decode b_Model_store 41 = .ok (.bipush 8, 2) := by decide +kernel
theorem d_Model_store_43 : decode b_Model_store 43 = .ok (.goto 5, 3) := by decide +kernel
theorem d_Model_store_46 : decode b_Model_store 46 = .ok (.bipush 16, 2) := by decide +kernel
theorem d_Model_store_48 : decode b_Model_store 48 = .ok (.if_icmp .ne 7, 3) := by decide +kernel
theorem d_Model_store_51 : decode b_Model_store 51 = .ok (.iconst 1, 1) := by decide +kernel
theorem d_Model_store_52 : decode b_Model_store 52 = .ok (.goto 4, 3) := by decide +kernel
theorem d_Model_store_55 : decode b_Model_store 55 = .ok (.iconst 0, 1) := by decide +kernel
theorem d_Model_store_56 : decode b_Model_store 56 = .ok (.iconst 1, 1) := by decide +kernel
theorem d_Model_store_57 : decode b_Model_store 57 = .ok (.invokevirtual 176, 3) := by decide +kernel
theorem d_Model_store_60 : decode b_Model_store 60 = .ok (.ifCond .eq 5, 3) := by decide +kernel
theorem d_Model_store_63 : decode b_Model_store 63 = .ok (.iconst (-1), 1) := by decide +kernel
theorem d_Model_store_64 : decode b_Model_store 64 = .ok (.ireturn, 1) := by decide +kernel
theorem d_Model_store_65 : decode b_Model_store 65 = .ok (.aload_n 0, 1) := by decide +kernel
theorem d_Model_store_66 : decode b_Model_store 66 = .ok (.iconst 0, 1) := by decide +kernel
theorem d_Model_store_67 : decode b_Model_store 67 = .ok (.putfield 173, 3) := by decide +kernel
theorem d_Model_store_70 : decode b_Model_store 70 = .ok (.aload_n 0, 1) := by decide +kernel
theorem d_Model_store_71 : decode b_Model_store 71 = .ok (.getfield 27, 3) := by decide +kernel
theorem d_Model_store_74 : decode b_Model_store 74 = .ok (.astore 4, 2) := by decide +kernel
theorem d_Model_store_76 : decode b_Model_store 76 = .ok (.aload 4, 2) := by decide +kernel
theorem d_Model_store_78 : decode b_Model_store 78 = .ok (.iload_n 1, 1) := by decide +kernel
theorem d_Model_store_79 : decode b_Model_store 79 = .ok (.putfield 186, 3) := by decide +kernel
theorem d_Model_store_82 : decode b_Model_store 82 = .ok (.iconst 0, 1) := by decide +kernel
theorem d_Model_store_83 : decode b_Model_store 83 = .ok (.istore 5, 2) := by decide +kernel
theorem d_Model_store_85 : decode b_Model_store 85 = .ok (.iload 5, 2) := by decide +kernel
theorem d_Model_store_87 : decode b_Model_store 87 = .ok (.iload_n 1, 1) := by decide +kernel
theorem d_Model_store_88 : decode b_Model_store 88 = .ok (.if_icmp .ge 24, 3) := by decide +kernel
theorem d_Model_store_91 : decode b_Model_store 91 = .ok (.aload 4, 2) := by decide +kernel
theorem d_Model_store_93 : decode b_Model_store 93 = .ok (.getfield 189, 3) := by decide +kernel
theorem d_Model_store_96 : decode b_Model_store 96 = .ok (.iload 5, 2) := by decide +kernel
theorem d_Model_store_98 : decode b_Model_store 98 = .ok (.aload_n 0, 1) := by decide +kernel
theorem d_Model_store_99 : decode b_Model_store 99 = .ok (.getfield 13, 3) := by decide +kernel
theorem d_Model_store_102 : decode b_Model_store 102 = .ok (.iload 5, 2) := by decide +kernel
theorem d_Model_store_104 : decode b_Model_store 104 = .ok (.iaload, 1) := by decide +kernel
theorem d_Model_store_105 : decode b_Model_store 105 = .ok (.iastore, 1) := by decide +kernel
theorem d_Model_store_106 : decode b_Model_store 106 = .ok (.iinc 5 1, 3) := by decide +kernel
theorem d_Model_store_109 : decode b_Model_store 109 = .ok (.goto (-24), 3) := by decide +kernel
theorem d_Model_store_112 : decode b_Model_store 112 = .ok (.aload 4, 2) := by decide +kernel
theorem d_Model_store_114 : decode b_Model_store 114 = .ok (.iload_n 2, 1) := by decide +kernel
theorem d_Model_store_115 : decode b_Model_store 115 = .ok (.invokevirtual 192, 3) := by decide +kernel
theorem d_Model_store_118 : decode b_Model_store 118 = .ok (.istore 5, 2) := by decide +kernel
theorem d_Model_store_120 : decode b_Model_store 120 = .ok (.aload_n 0, 1) := by decide +kernel
theorem d_Model_store_121 : decode b_Model_store 121 = .ok (.aload 4, 2) := by decide +kernel
theorem d_Model_store_123 : decode b_Model_store 123 = .ok (.getfield 196, 3) := by decide +kernel
theorem d_Model_store_126 : decode b_Model_store 126 = .ok (.putfield 7, 3) := by decide +kernel
theorem d_Model_store_129 : decode b_Model_store 129 = .ok (.aload_n 0, 1) := by decide +kernel
theorem d_Model_store_130 : decode b_Model_store 130 = .ok (.iload 5, 2) := by decide +kernel
theorem d_Model_store_132 : decode b_Model_store 132 = .ok (.ifCond .ne 7, 3) := by decide +kernel
theorem d_Model_store_135 : decode b_Model_store 135 = .ok (.iconst 1, 1) := by decide +kernel
theorem d_Model_store_136 : decode b_Model_store 136 = .ok (.goto 4, 3) := by decide +kernel
theorem d_Model_store_139 : decode b_Model_store 139 = .ok (.iconst 0, 1) := by decide +kernel
theorem d_Model_store_140 : decode b_Model_store 140 = .ok (.iconst 2, 1) := by decide +kernel
theorem d_Model_store_141 : decode b_Model_store 141 = .ok (.invokevirtual 176, 3) := by decide +kernel
theorem d_Model_store_144 : decode b_Model_store 144 = .ok (.ifCond .eq 5, 3) := by decide +kernel
theorem d_Model_store_147 : decode b_Model_store 147 = .ok (.iconst (-1), 1) := by decide +kernel
theorem d_Model_store_148 : decode b_Model_store 148 = .ok (.ireturn, 1) := by decide +kernel
theorem d_Model_store_149 : decode b_Model_store 149 = .ok (.aload_n 0, 1) := by decide +kernel
def y_Model_certificate : MethodName := ⟨"TrustChainModel", "certificate", "(IZ)I"⟩
abbrev b_Model_certificate : ByteArray := prog_14_method_16_code
def w_Model_certificate : List Cond := Cond.code y_Model_certificate b_Model_certificate 4 ((some FieldType.int)) :: tb
theorem d_Model_certificate_0 : decode b_Model_certificate 0 = .ok (.aload_n 0, 1) := by decide +kernel
theorem d_Model_certificate_1 : decode b_Model_certificate 1 = .ok (.iconst 0, 1) := by decide +kernel
theorem d_Model_certificate_2 : decode b_Model_certificate 2 = .ok (.putfield 145, 3) := by decide +kernel
theorem d_Model_certificate_5 : decode b_Model_certificate 5 = .ok (.aload_n 0, 1) := by decide +kernel
theorem d_Model_certificate_6 : decode b_Model_certificate 6 = .ok (.iload_n 1, 1) := by decide +kernel
theorem d_Model_certificate_7 : decode b_Model_certificate 7 = .ok (.iconst 0, 1) := by decide +kernel
theorem d_Model_certificate_8 : decode b_Model_certificate 8 = .ok (.invokevirtual 197, 3) := by decide +kernel
theorem d_Model_certificate_11 : decode b_Model_certificate 11 = .ok (.istore_n 3, 1) := by decide +kernel
theorem d_Model_certificate_12 : decode b_Model_certificate 12 = .ok (.iload_n 3, 1) := by decide +kernel
theorem d_Model_certificate_13 : decode b_Model_certificate 13 = .ok (.ifCond .ge 5, 3) := by decide +kernel
theorem d_Model_certificate_16 : decode b_Model_certificate 16 = .ok (.iconst 0, 1) := by decide +kernel
theorem d_Model_certificate_17 : decode b_Model_certificate 17 = .ok (.ireturn, 1) := by decide +kernel
def y_Model_list : MethodName := ⟨"TrustChainModel", "list", "(I)I"⟩
abbrev b_Model_list : ByteArray := prog_14_method_17_code
def w_Model_list : List Cond := Cond.code y_Model_list b_Model_list 3 ((some FieldType.int)) :: tb
theorem d_Model_list_0 : decode b_Model_list 0 = .ok (.aload_n 0, 1) := by decide +kernel
theorem d_Model_list_1 : decode b_Model_list 1 = .ok (.iconst 0, 1) := by decide +kernel
theorem d_Model_list_2 : decode b_Model_list 2 = .ok (.putfield 145, 3) := by decide +kernel
theorem d_Model_list_5 : decode b_Model_list 5 = .ok (.aload_n 0, 1) := by decide +kernel
theorem d_Model_list_6 : decode b_Model_list 6 = .ok (.iload_n 1, 1) := by decide +kernel
theorem d_Model_list_7 : decode b_Model_list 7 = .ok (.iconst 1, 1) := by decide +kernel
theorem d_Model_list_8 : decode b_Model_list 8 = .ok (.invokevirtual 197, 3) := by decide +kernel
theorem d_Model_list_11 : decode b_Model_list 11 = .ok (.istore_n 2, 1) := by decide +kernel
theorem d_Model_list_12 : decode b_Model_list 12 = .ok (.iload_n 2, 1) := by decide +kernel
theorem d_Model_list_13 : decode b_Model_list 13 = .ok (.ifCond .ge 7, 3) := by decide +kernel
theorem d_Model_list_16 : decode b_Model_list 16 = .ok (.iconst 0, 1) := by decide +kernel
theorem d_Model_list_17 : decode b_Model_list 17 = .ok (.goto 4, 3) := by decide +kernel
theorem d_Model_list_20 : decode b_Model_list 20 = .ok (.iload_n 2, 1) := by decide +kernel
theorem d_Model_list_21 : decode b_Model_list 21 = .ok (.ireturn, 1) := by decide +kernel
def y_Model_feed : MethodName := ⟨"TrustChainModel", "feed", "(IIIII)I"⟩
abbrev b_Model_feed : ByteArray := prog_14_method_14_code
def w_Model_feed : List Cond := Cond.code y_Model_feed b_Model_feed 8 ((some FieldType.int)) :: tb
theorem d_Model_feed_0 : decode b_Model_feed 0 = .ok (.aload_n 0, 1) := by decide +kernel
theorem d_Model_feed_1 : decode b_Model_feed 1 = .ok (.iconst 0, 1) := by decide +kernel
theorem d_Model_feed_2 : decode b_Model_feed 2 = .ok (.putfield 145, 3) := by decide +kernel
theorem d_Model_feed_5 : decode b_Model_feed 5 = .ok (.aload_n 0, 1) := by decide +kernel
theorem d_Model_feed_6 : decode b_Model_feed 6 = .ok (.aload_n 0, 1) := by decide +kernel
theorem d_Model_feed_7 : decode b_Model_feed 7 = .ok (.getfield 173, 3) := by decide +kernel
theorem d_Model_feed_10 : decode b_Model_feed 10 = .ok (.bipush 20, 2) := by decide +kernel
theorem d_Model_feed_12 : decode b_Model_feed 12 = .ok (.iadd, 1) := by decide +kernel
theorem d_Model_feed_13 : decode b_Model_feed 13 = .ok (.sipush 2060, 3) := by decide +kernel
theorem d_Model_feed_16 : decode b_Model_feed 16 = .ok (.if_icmp .le 7, 3) := by decide +kernel
theorem d_Model_feed_19 : decode b_Model_feed 19 = .ok (.iconst 1, 1) := by decide +kernel
theorem d_Model_feed_20 : decode b_Model_feed 20 = .ok (.goto 4, 3) := by decide +kernel
theorem d_Model_feed_23 : decode b_Model_feed 23 = .ok (.iconst 0, 1) := by decide +kernel
theorem d_Model_feed_24 : decode b_Model_feed 24 = .ok (.iconst 1, 1) := by decide +kernel
theorem d_Model_feed_25 : decode b_Model_feed 25 = .ok (.invokevirtual 176, 3) := by decide +kernel
theorem d_Model_feed_28 : decode b_Model_feed 28 = .ok (.ifCond .eq 5, 3) := by decide +kernel
theorem d_Model_feed_31 : decode b_Model_feed 31 = .ok (.iconst 0, 1) := by decide +kernel
theorem d_Model_feed_32 : decode b_Model_feed 32 = .ok (.ireturn, 1) := by decide +kernel
theorem d_Model_feed_33 : decode b_Model_feed 33 = .ok (.iconst 0, 1) := by decide +kernel
theorem d_Model_feed_34 : decode b_Model_feed 34 = .ok (.istore 6, 2) := by decide +kernel
theorem d_Model_feed_36 : decode b_Model_feed 36 = .ok (.iload 6, 2) := by decide +kernel
theorem d_Model_feed_38 : decode b_Model_feed 38 = .ok (.bipush 20, 2) := by decide +kernel
theorem d_Model_feed_40 : decode b_Model_feed 40 = .ok (.if_icmp .ge 90, 3) := by decide +kernel
theorem d_Model_feed_43 : decode b_Model_feed 43 = .ok (.iload 6, 2) := by decide +kernel
theorem d_Model_feed_45 : decode b_Model_feed 45 = .ok (.iconst 4, 1) := by decide +kernel
theorem d_Model_feed_46 : decode b_Model_feed 46 = .ok (.if_icmp .ge 7, 3) := by decide +kernel
theorem d_Model_feed_49 : decode b_Model_feed 49 = .ok (.iload_n 1, 1) := by decide +kernel
theorem d_Model_feed_50 : decode b_Model_feed 50 = .ok (.goto 39, 3) := by decide +kernel
theorem d_Model_feed_53 : decode b_Model_feed 53 = .ok (.iload 6, 2) := by decide +kernel
theorem d_Model_feed_55 : decode b_Model_feed 55 = .ok (.bipush 8, 2) := by decide +kernel
theorem d_Model_feed_57 : decode b_Model_feed 57 = .ok (.if_icmp .ge 7, 3) := by decide +kernel
theorem d_Model_feed_60 : decode b_Model_feed 60 = .ok (.iload_n 2, 1) := by decide +kernel
theorem d_Model_feed_61 : decode b_Model_feed 61 = .ok (.goto 28, 3) := by decide +kernel
theorem d_Model_feed_64 : decode b_Model_feed 64 = .ok (.iload 6, 2) := by decide +kernel
theorem d_Model_feed_66 : decode b_Model_feed 66 = .ok (.bipush 12, 2) := by decide +kernel
theorem d_Model_feed_68 : decode b_Model_feed 68 = .ok (.if_icmp .ge 7, 3) := by decide +kernel
theorem d_Model_feed_71 : decode b_Model_feed 71 = .ok (.iload_n 3, 1) := by decide +kernel
theorem d_Model_feed_72 : decode b_Model_feed 72 = .ok (.goto 17, 3) := by decide +kernel
theorem d_Model_feed_75 : decode b_Model_feed 75 = .ok (.iload 6, 2) := by decide +kernel
theorem d_Model_feed_77 : decode b_Model_feed 77 = .ok (.bipush 16, 2) := by decide +kernel
theorem d_Model_feed_79 : decode b_Model_feed 79 = .ok (.if_icmp .ge 8, 3) := by decide +kernel
theorem d_Model_feed_82 : decode b_Model_feed 82 = .ok (.iload 4, 2) := by decide +kernel
theorem d_Model_feed_84 : decode b_Model_feed 84 = .ok (.goto 5, 3) := by decide +kernel
theorem d_Model_feed_87 : decode b_Model_feed 87 = .ok (.iload 5, 2) := by decide +kernel
theorem d_Model_feed_89 : decode b_Model_feed 89 = .ok (.istore 7, 2) := by decide +kernel
theorem d_Model_feed_91 : decode b_Model_feed 91 = .ok (.aload_n 0, 1) := by decide +kernel
theorem d_Model_feed_92 : decode b_Model_feed 92 = .ok (.getfield 13, 3) := by decide +kernel
theorem d_Model_feed_95 : decode b_Model_feed 95 = .ok (.aload_n 0, 1) := by decide +kernel
theorem d_Model_feed_96 : decode b_Model_feed 96 = .ok (.dup, 1) := by decide +kernel
theorem d_Model_feed_97 : decode b_Model_feed 97 = .ok (.getfield 173, 3) := by decide +kernel
theorem d_Model_feed_100 : decode b_Model_feed 100 = .ok (.dup_x1, 1) := by decide +kernel
theorem d_Model_feed_101 : decode b_Model_feed 101 = .ok (.iconst 1, 1) := by decide +kernel
theorem d_Model_feed_102 : decode b_Model_feed 102 = .ok (.iadd, 1) := by decide +kernel
theorem d_Model_feed_103 : decode b_Model_feed 103 = .ok (.putfield 173, 3) := by decide +kernel
theorem d_Model_feed_106 : decode b_Model_feed 106 = .ok (.iload 7, 2) := by decide +kernel
theorem d_Model_feed_108 : decode b_Model_feed 108 = .ok (.bipush 24, 2) := by decide +kernel
theorem d_Model_feed_110 : decode b_Model_feed 110 = .ok (.bipush 8, 2) := by decide +kernel
theorem d_Model_feed_112 : decode b_Model_feed 112 = .ok (.iload 6, 2) := by decide +kernel
theorem d_Model_feed_114 : decode b_Model_feed 114 = .ok (.iconst 3, 1) := by decide +kernel
theorem d_Model_feed_115 : decode b_Model_feed 115 = .ok (.iand, 1) := by decide +kernel
theorem d_Model_feed_116 : decode b_Model_feed 116 = .ok (.imul, 1) := by decide +kernel
theorem d_Model_feed_117 : decode b_Model_feed 117 = .ok (.isub, 1) := by decide +kernel
theorem d_Model_feed_118 : decode b_Model_feed 118 = .ok (.iushr, 1) := by decide +kernel
theorem d_Model_feed_119 : decode b_Model_feed 119 = .ok (.sipush 255, 3) := by decide +kernel
theorem d_Model_feed_122 : decode b_Model_feed 122 = .ok (.iand, 1) := by decide +kernel
theorem d_Model_feed_123 : decode b_Model_feed 123 = .ok (.iastore, 1) := by decide +kernel
theorem d_Model_feed_124 : decode b_Model_feed 124 = .ok (.iinc 6 1, 3) := by decide +kernel
theorem d_Model_feed_127 : decode b_Model_feed 127 = .ok (.goto (-91), 3) := by decide +kernel
theorem d_Model_feed_130 : decode b_Model_feed 130 = .ok (.aload_n 0, 1) := by decide +kernel
theorem d_Model_feed_131 : decode b_Model_feed 131 = .ok (.getfield 173, 3) := by decide +kernel
theorem d_Model_feed_134 : decode b_Model_feed 134 = .ok (.ireturn, 1) := by decide +kernel
