/-! The reference's small methods. -/
def flI (er b cd : Int32) : Int32 := if b = 0 then er else if er = 0 then cd else er
def y_Model_thrown : MethodName := ⟨"TrustChainModel", "thrown", "()I"⟩
abbrev b_Model_thrown : ByteArray := prog_14_method_2_code
def w_Model_thrown : List Cond := Cond.code y_Model_thrown b_Model_thrown 1 ((some FieldType.int)) :: tb
theorem d_Model_thrown_0 : decode b_Model_thrown 0 = .ok (.aload_n 0, 1) := by decide +kernel
theorem d_Model_thrown_1 : decode b_Model_thrown 1 = .ok (.getfield 145, 3) := by decide +kernel
theorem d_Model_thrown_4 : decode b_Model_thrown 4 = .ok (.ireturn, 1) := by decide +kernel
set_option maxHeartbeats 4000000 in
set_option maxRecDepth 100000 in
theorem c_Model_thrown (l : Launch) (dC : Nat → ClassId) (dI : Nat → Nat → Nat) (sb : sB) (q0 oc so rv sp rz bl ww hs fi pm mx my mm mq mz wy fn : Nat) (fd wg nc nl qs si cs cn fa pu de ve mk : Int32) (nw : Int64) (er : Int32) : Met l y_Model_thrown w_Model_thrown ({ frames := 0, cells := 0, slots := 0, locals := 0 }) (pu_P [.ref q0] (dC, dI) sb [(q0, .inr (12, [.int er, .int fd, .int wg, .int nc, .int nl, .ref oc, .ref so, .ref rv, .ref sp, .int qs, .ref rz, .ref bl, .ref ww, .ref hs, .ref fi, .ref pm, .ref mx, .ref my, .ref mm, .ref mq, .ref mz, .ref wy, .ref fn, .int si, .int cs, .int cn, .int fa, .int pu, .int de, .int ve, .long nw, .int mk]))] []) (vp_Si (fun r => r = er)) 0 0 (fun _ => False) := by
  refine Met.ofW (cc := b_Model_thrown) (maxL := 1) (ret := (some FieldType.int)) (by decide) rfl ?_
  intro p e s m args below meth c s₁ B hml hv
  obtain ⟨rfl, hP, hK, hN, hT0⟩ := hv
  have hx := B.exec
  have hb := B.bytes
  have hr := B.returns
  have hts := atoms_spec (ws := w_Model_thrown) B.pre
  have tbin : ∀ w ∈ tb, w ∈ w_Model_thrown := fun w h => List.mem_cons_of_mem _ h
  have htb : ∀ w ∈ tb, w.before _ s = true := fun w h => hts w (tbin w h)
  have hown : s.vm.findClass "TrustChainModel" = some m.cls := findClass_of_methodNamed B.named
  have hlocks := B.notSynchronized
  have hcs : 0 ≤ (headSpec w_Model_thrown ({ frames := 0, cells := 0, slots := 0, locals := 0 })).room.cells ∧ 0 ≤ (headSpec w_Model_thrown ({ frames := 0, cells := 0, slots := 0, locals := 0 })).room.slots := ⟨Nat.zero_le _, Nat.zero_le _⟩
  have hP : va_P (dC, dI) classes [(q0, .inr (12, [.int er, .int fd, .int wg, .int nc, .int nl, .ref oc, .ref so, .ref rv, .ref sp, .int qs, .ref rz, .ref bl, .ref ww, .ref hs, .ref fi, .ref pm, .ref mx, .ref my, .ref mm, .ref mq, .ref mz, .ref wy, .ref fn, .int si, .int cs, .int cn, .int fa, .int pu, .int de, .int ve, .long nw, .int mk]))] s.heap := hP
  have hl := lv_entry ([.ref q0]) (n := 1) (Nat.le_of_ble_eq_true rfl)
  rw [lg_entry_eq]
  generalize (lg_sl ([.ref q0]) ++ List.replicate (1 - (lg_sl ([.ref q0])).length) Slot.unset).toArray = ls at hl ⊢
  have hl : lv_has ls 1 [(0, .ref q0)] := hl
  refine lv_aload_n hx hb d_Model_thrown_0 rfl (lv_at hl 0 rfl) ?_
  refine va_get (v := .int er) hx hb htb i_Model hown hK hP 0 rfl rfl 0 (by decide) (htb _ q7_214) (fun _ h9 => h9) rfl d_Model_thrown_1 ?_
  exact W.iret (v := er) hx hb hr (fun t ht hW => ⟨_, rfl, rfl, ht⟩) (fun q h => by cases h) d_Model_thrown_4
def y_Model_wrong : MethodName := ⟨"TrustChainModel", "wrong", "()I"⟩
abbrev b_Model_wrong : ByteArray := prog_14_method_18_code
def w_Model_wrong : List Cond := Cond.code y_Model_wrong b_Model_wrong 1 ((some FieldType.int)) :: tb
theorem d_Model_wrong_0 : decode b_Model_wrong 0 = .ok (.aload_n 0, 1) := by decide +kernel
theorem d_Model_wrong_1 : decode b_Model_wrong 1 = .ok (.iconst 0, 1) := by decide +kernel
theorem d_Model_wrong_2 : decode b_Model_wrong 2 = .ok (.putfield 145, 3) := by decide +kernel
theorem d_Model_wrong_5 : decode b_Model_wrong 5 = .ok (.aload_n 0, 1) := by decide +kernel
theorem d_Model_wrong_6 : decode b_Model_wrong 6 = .ok (.getfield 7, 3) := by decide +kernel
theorem d_Model_wrong_9 : decode b_Model_wrong 9 = .ok (.ireturn, 1) := by decide +kernel
def y_Model_fails : MethodName := ⟨"TrustChainModel", "fails", "(ZI)Z"⟩
abbrev b_Model_fails : ByteArray := prog_14_method_13_code
def w_Model_fails : List Cond := Cond.code y_Model_fails b_Model_fails 3 ((some FieldType.boolean)) :: tb
theorem d_Model_fails_0 : decode b_Model_fails 0 = .ok (.iload_n 1, 1) := by decide +kernel
theorem d_Model_fails_1 : decode b_Model_fails 1 = .ok (.ifCond .eq 15, 3) := by decide +kernel
theorem d_Model_fails_4 : decode b_Model_fails 4 = .ok (.aload_n 0, 1) := by decide +kernel
theorem d_Model_fails_5 : decode b_Model_fails 5 = .ok (.getfield 145, 3) := by decide +kernel
theorem d_Model_fails_8 : decode b_Model_fails 8 = .ok (.ifCond .ne 8, 3) := by decide +kernel
theorem d_Model_fails_11 : decode b_Model_fails 11 = .ok (.aload_n 0, 1) := by decide +kernel
theorem d_Model_fails_12 : decode b_Model_fails 12 = .ok (.iload_n 2, 1) := by decide +kernel
theorem d_Model_fails_13 : decode b_Model_fails 13 = .ok (.putfield 145, 3) := by decide +kernel
theorem d_Model_fails_16 : decode b_Model_fails 16 = .ok (.aload_n 0, 1) := by decide +kernel
theorem d_Model_fails_17 : decode b_Model_fails 17 = .ok (.getfield 145, 3) := by decide +kernel
theorem d_Model_fails_20 : decode b_Model_fails 20 = .ok (.ifCond .eq 7, 3) := by decide +kernel
theorem d_Model_fails_23 : decode b_Model_fails 23 = .ok (.iconst 1, 1) := by decide +kernel
theorem d_Model_fails_24 : decode b_Model_fails 24 = .ok (.goto 4, 3) := by decide +kernel
theorem d_Model_fails_27 : decode b_Model_fails 27 = .ok (.iconst 0, 1) := by decide +kernel
theorem d_Model_fails_28 : decode b_Model_fails 28 = .ok (.ireturn, 1) := by decide +kernel
set_option maxHeartbeats 4000000 in
set_option maxRecDepth 100000 in
theorem c_Model_fails (l : Launch) (dC : Nat → ClassId) (dI : Nat → Nat → Nat) (sb : sB) (q0 oc so rv sp rz bl ww hs fi pm mx my mm mq mz wy fn : Nat) (fd wg nc nl qs si cs cn fa pu de ve mk : Int32) (nw : Int64) (er b cd : Int32) (sz : Nat) : Met l y_Model_fails w_Model_fails ({ frames := 0, cells := 0, slots := 0, locals := 0 }) (mu_P [.ref q0, .int b, .int cd] (dC, dI) sb [(q0, .inr (12, [.int er, .int fd, .int wg, .int nc, .int nl, .ref oc, .ref so, .ref rv, .ref sp, .int qs, .ref rz, .ref bl, .ref ww, .ref hs, .ref fi, .ref pm, .ref mx, .ref my, .ref mm, .ref mq, .ref mz, .ref wy, .ref fn, .int si, .int cs, .int cn, .int fa, .int pu, .int de, .int ve, .long nw, .int mk]))] [] sz) (va_Qi (fun r (u : Int32) => u = flI er b cd ∧ bz r (u ≠ 0)) (mu_B (dC, dI) [] (va_A [(q0, .inr (12, [.int er, .int fd, .int wg, .int nc, .int nl, .ref oc, .ref so, .ref rv, .ref sp, .int qs, .ref rz, .ref bl, .ref ww, .ref hs, .ref fi, .ref pm, .ref mx, .ref my, .ref mm, .ref mq, .ref mz, .ref wy, .ref fn, .int si, .int cs, .int cn, .int fa, .int pu, .int de, .int ve, .long nw, .int mk]))] sz) (fun u : Int32 => [(q0, .inr (12, [.int u, .int fd, .int wg, .int nc, .int nl, .ref oc, .ref so, .ref rv, .ref sp, .int qs, .ref rz, .ref bl, .ref ww, .ref hs, .ref fi, .ref pm, .ref mx, .ref my, .ref mm, .ref mq, .ref mz, .ref wy, .ref fn, .int si, .int cs, .int cn, .int fa, .int pu, .int de, .int ve, .long nw, .int mk]))])) (va_A [(q0, .inr (12, [.int er, .int fd, .int wg, .int nc, .int nl, .ref oc, .ref so, .ref rv, .ref sp, .int qs, .ref rz, .ref bl, .ref ww, .ref hs, .ref fi, .ref pm, .ref mx, .ref my, .ref mm, .ref mq, .ref mz, .ref wy, .ref fn, .int si, .int cs, .int cn, .int fa, .int pu, .int de, .int ve, .long nw, .int mk]))] sz)) 0 0 (va_A [(q0, .inr (12, [.int er, .int fd, .int wg, .int nc, .int nl, .ref oc, .ref so, .ref rv, .ref sp, .int qs, .ref rz, .ref bl, .ref ww, .ref hs, .ref fi, .ref pm, .ref mx, .ref my, .ref mm, .ref mq, .ref mz, .ref wy, .ref fn, .int si, .int cs, .int cn, .int fa, .int pu, .int de, .int ve, .long nw, .int mk]))] sz) := by
  refine Met.ofW (cc := b_Model_fails) (maxL := 3) (ret := (some FieldType.boolean)) (by decide) rfl ?_
  intro p e s m args below meth c s₁ B hml hv
  obtain ⟨rfl, hsz, hB0, hP, hK, hD0, hN, hT0⟩ := hv
  have hx := B.exec
  have hb := B.bytes
  have hr := B.returns
  have hts := atoms_spec (ws := w_Model_fails) B.pre
  have tbin : ∀ w ∈ tb, w ∈ w_Model_fails := fun w h => List.mem_cons_of_mem _ h
  have htb : ∀ w ∈ tb, w.before _ s = true := fun w h => hts w (tbin w h)
  have hown : s.vm.findClass "TrustChainModel" = some m.cls := findClass_of_methodNamed B.named
  have hlocks := B.notSynchronized
  subst hsz
  have hD := hD0.self (sz := s.heap.size)
  generalize hAe : va_A [(q0, .inr (12, [.int er, .int fd, .int wg, .int nc, .int nl, .ref oc, .ref so, .ref rv, .ref sp, .int qs, .ref rz, .ref bl, .ref ww, .ref hs, .ref fi, .ref pm, .ref mx, .ref my, .ref mm, .ref mq, .ref mz, .ref wy, .ref fn, .int si, .int cs, .int cn, .int fa, .int pu, .int de, .int ve, .long nw, .int mk]))] s.heap.size = A at hD ⊢
  have hA : ∀ q : Nat, s.heap.size ≤ q → A q := fun q h => by rw [← hAe]; exact Or.inr h
  have hAs : ∀ q : Nat, A q → sb.1 ≤ q := fun q h => by
    rw [← hAe] at h
    rcases h with ⟨k, e, h⟩ | h
    · exact hD0.2 k _ h
    · exact Nat.le_trans hB0 h
  have hS : va_S A s.heap s.heap [] := va_S.rf
  have hcs : 0 ≤ (headSpec w_Model_fails ({ frames := 0, cells := 0, slots := 0, locals := 0 })).room.cells ∧ 0 ≤ (headSpec w_Model_fails ({ frames := 0, cells := 0, slots := 0, locals := 0 })).room.slots := ⟨Nat.le_refl _, Nat.le_refl _⟩
  have hP : va_P (dC, dI) classes [(q0, .inr (12, [.int er, .int fd, .int wg, .int nc, .int nl, .ref oc, .ref so, .ref rv, .ref sp, .int qs, .ref rz, .ref bl, .ref ww, .ref hs, .ref fi, .ref pm, .ref mx, .ref my, .ref mm, .ref mq, .ref mz, .ref wy, .ref fn, .int si, .int cs, .int cn, .int fa, .int pu, .int de, .int ve, .long nw, .int mk]))] s.heap := hP
  have hl := lv_entry ([.ref q0, .int b, .int cd]) (n := 3) (Nat.le_of_ble_eq_true rfl)
  rw [lg_entry_eq]
  generalize (lg_sl ([.ref q0, .int b, .int cd]) ++ List.replicate (3 - (lg_sl ([.ref q0, .int b, .int cd])).length) Slot.unset).toArray = ls at hl ⊢
  have hl : lv_has ls 3 [(0, .ref q0), (1, .int b), (2, .int cd)] := hl
  refine lv_iload_n hx hb d_Model_fails_0 rfl (lv_at hl 1 rfl) ?_
  refine lv_if_eq (tgt := 16) hx hb d_Model_fails_1 (by decide) (fun c1 => ?_) (fun c1 => ?_)
  · refine lv_aload_n hx hb d_Model_fails_16 rfl (lv_at hl 0 rfl) ?_
    refine va_get (v := .int er) hx hb htb i_Model hown hK hP 0 rfl rfl 0 (by decide) (htb _ q7_214) (fun _ h9 => h9) rfl d_Model_fails_17 ?_
    refine lv_if_eq (tgt := 27) hx hb d_Model_fails_20 (by decide) (fun c20 => ?_) (fun c20 => ?_)
    · refine lv_iconst (v := 0) hx hb d_Model_fails_27 (by decide) ?_
      exact W.zret (v := 0) hx hb hr (bz_n (bz_f not_false)) (fun t ht hW => ⟨⟨_, er, rfl, ⟨by rw [flI, if_pos c1], bz_f (fun q => q c20)⟩, by rw [ht]; exact hP, va_K.moved hW.alike hK, hD⟩, hS.F ht⟩) hS.2.2 d_Model_fails_28
    · refine lv_iconst (v := 1) hx hb d_Model_fails_23 (by decide) ?_
      refine lv_goto (tgt := 28) hx hb d_Model_fails_24 (by decide) ?_
      exact W.zret (v := 1) hx hb hr (bz_n (bz_t trivial)) (fun t ht hW => ⟨⟨_, er, rfl, ⟨by rw [flI, if_pos c1], bz_t c20⟩, by rw [ht]; exact hP, va_K.moved hW.alike hK, hD⟩, hS.F ht⟩) hS.2.2 d_Model_fails_28
  · refine lv_aload_n hx hb d_Model_fails_4 rfl (lv_at hl 0 rfl) ?_
    refine va_get (v := .int er) hx hb htb i_Model hown hK hP 0 rfl rfl 0 (by decide) (htb _ q7_214) (fun _ h9 => h9) rfl d_Model_fails_5 ?_
    refine lv_if_ne (tgt := 16) hx hb d_Model_fails_8 (by decide) (fun c8 => ?_) (fun c8 => ?_)
    · refine lv_aload_n hx hb d_Model_fails_16 rfl (lv_at hl 0 rfl) ?_
      refine va_get (v := .int er) hx hb htb i_Model hown hK hP 0 rfl rfl 0 (by decide) (htb _ q7_214) (fun _ h9 => h9) rfl d_Model_fails_17 ?_
      refine lv_if_eq (tgt := 27) hx hb d_Model_fails_20 (by decide) (fun c20 => ?_) (fun c20 => ?_)
      · refine lv_iconst (v := 0) hx hb d_Model_fails_27 (by decide) ?_
        exact W.zret (v := 0) hx hb hr (bz_n (bz_f not_false)) (fun t ht hW => ⟨⟨_, er, rfl, ⟨by rw [flI, if_neg c1, if_neg c8], bz_f (fun q => q c20)⟩, by rw [ht]; exact hP, va_K.moved hW.alike hK, hD⟩, hS.F ht⟩) hS.2.2 d_Model_fails_28
      · refine lv_iconst (v := 1) hx hb d_Model_fails_23 (by decide) ?_
        refine lv_goto (tgt := 28) hx hb d_Model_fails_24 (by decide) ?_
        exact W.zret (v := 1) hx hb hr (bz_n (bz_t trivial)) (fun t ht hW => ⟨⟨_, er, rfl, ⟨by rw [flI, if_neg c1, if_neg c8], bz_t c20⟩, by rw [ht]; exact hP, va_K.moved hW.alike hK, hD⟩, hS.F ht⟩) hS.2.2 d_Model_fails_28
    · refine lv_aload_n hx hb d_Model_fails_11 rfl (lv_at hl 0 rfl) ?_
      refine lv_iload_n hx hb d_Model_fails_12 rfl (lv_at hl 2 rfl) ?_
      refine va_put (v := .int cd) (ty := .int) hx hb htb i_Model t_Model t_Model_ok n_Model hown hK hP hD hS 0 rfl rfl 0 (by decide) (htb _ q7_214) (fun _ h9 => h9) rfl (by decide +kernel) rfl rfl (Nat.le_of_ble_eq_true rfl) d_Model_fails_13 (fun H13 locs hP hD hS => ?_)
      have hP : va_P (dC, dI) classes [(q0, .inr (12, [.int cd, .int fd, .int wg, .int nc, .int nl, .ref oc, .ref so, .ref rv, .ref sp, .int qs, .ref rz, .ref bl, .ref ww, .ref hs, .ref fi, .ref pm, .ref mx, .ref my, .ref mm, .ref mq, .ref mz, .ref wy, .ref fn, .int si, .int cs, .int cn, .int fa, .int pu, .int de, .int ve, .long nw, .int mk]))] H13 := hP
      have hD : va_D A [(q0, .inr (12, [.int cd, .int fd, .int wg, .int nc, .int nl, .ref oc, .ref so, .ref rv, .ref sp, .int qs, .ref rz, .ref bl, .ref ww, .ref hs, .ref fi, .ref pm, .ref mx, .ref my, .ref mm, .ref mq, .ref mz, .ref wy, .ref fn, .int si, .int cs, .int cn, .int fa, .int pu, .int de, .int ve, .long nw, .int mk]))] := hD
      refine lv_aload_n hx hb d_Model_fails_16 rfl (lv_at hl 0 rfl) ?_
      refine va_get (v := .int cd) hx hb htb i_Model hown hK hP 0 rfl rfl 0 (by decide) (htb _ q7_214) (fun _ h9 => h9) rfl d_Model_fails_17 ?_
      refine lv_if_eq (tgt := 27) hx hb d_Model_fails_20 (by decide) (fun c20 => ?_) (fun c20 => ?_)
      · refine lv_iconst (v := 0) hx hb d_Model_fails_27 (by decide) ?_
        exact W.zret (v := 0) hx hb hr (bz_n (bz_f not_false)) (fun t ht hW => ⟨⟨_, cd, rfl, ⟨by rw [flI, if_neg c1, if_pos (by first | exact c8 | exact Classical.not_not.mp c8)], bz_f (fun q => q c20)⟩, by rw [ht]; exact hP, va_K.moved hW.alike hK, hD⟩, hS.F ht⟩) hS.2.2 d_Model_fails_28
      · refine lv_iconst (v := 1) hx hb d_Model_fails_23 (by decide) ?_
        refine lv_goto (tgt := 28) hx hb d_Model_fails_24 (by decide) ?_
        exact W.zret (v := 1) hx hb hr (bz_n (bz_t trivial)) (fun t ht hW => ⟨⟨_, cd, rfl, ⟨by rw [flI, if_neg c1, if_pos (by first | exact c8 | exact Classical.not_not.mp c8)], bz_t c20⟩, by rw [ht]; exact hP, va_K.moved hW.alike hK, hD⟩, hS.F ht⟩) hS.2.2 d_Model_fails_28
