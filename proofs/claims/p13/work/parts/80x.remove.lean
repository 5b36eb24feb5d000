/-! ArrayList.remove of the last entry. -/
def y_AL_fastRemove : MethodName := ⟨"java/util/ArrayList", "fastRemove", "([Ljava/lang/Object;I)V"⟩
abbrev b_AL_fastRemove : ByteArray := prog_32_method_39_code
def w_AL_fastRemove : List Cond := Cond.code y_AL_fastRemove b_AL_fastRemove 4 (none) :: tb
theorem d_AL_fastRemove_0 : decode b_AL_fastRemove 0 = .ok (.aload_n 0, 1) := by decide +kernel
theorem d_AL_fastRemove_1 : decode b_AL_fastRemove 1 = .ok (.dup, 1) := by decide +kernel
theorem d_AL_fastRemove_2 : decode b_AL_fastRemove 2 = .ok (.getfield 63, 3) := by decide +kernel
theorem d_AL_fastRemove_5 : decode b_AL_fastRemove 5 = .ok (.iconst 1, 1) := by decide +kernel
theorem d_AL_fastRemove_6 : decode b_AL_fastRemove 6 = .ok (.iadd, 1) := by decide +kernel
theorem d_AL_fastRemove_7 : decode b_AL_fastRemove 7 = .ok (.putfield 63, 3) := by decide +kernel
theorem d_AL_fastRemove_10 : decode b_AL_fastRemove 10 = .ok (.aload_n 0, 1) := by decide +kernel
theorem d_AL_fastRemove_11 : decode b_AL_fastRemove 11 = .ok (.getfield 48, 3) := by decide +kernel
theorem d_AL_fastRemove_14 : decode b_AL_fastRemove 14 = .ok (.iconst 1, 1) := by decide +kernel
theorem d_AL_fastRemove_15 : decode b_AL_fastRemove 15 = .ok (.isub, 1) := by decide +kernel
theorem d_AL_fastRemove_16 : decode b_AL_fastRemove 16 = .ok (.dup, 1) := by decide +kernel
theorem d_AL_fastRemove_17 : decode b_AL_fastRemove 17 = .ok (.istore_n 3, 1) := by decide +kernel
theorem d_AL_fastRemove_18 : decode b_AL_fastRemove 18 = .ok (.iload_n 2, 1) := by decide +kernel
theorem d_AL_fastRemove_19 : decode b_AL_fastRemove 19 = .ok (.if_icmp .le 15, 3) := by decide +kernel
theorem d_AL_fastRemove_34 : decode b_AL_fastRemove 34 = .ok (.aload_n 1, 1) := by decide +kernel
theorem d_AL_fastRemove_35 : decode b_AL_fastRemove 35 = .ok (.aload_n 0, 1) := by decide +kernel
theorem d_AL_fastRemove_36 : decode b_AL_fastRemove 36 = .ok (.iload_n 3, 1) := by decide +kernel
theorem d_AL_fastRemove_37 : decode b_AL_fastRemove 37 = .ok (.dup_x1, 1) := by decide +kernel
theorem d_AL_fastRemove_38 : decode b_AL_fastRemove 38 = .ok (.putfield 48, 3) := by decide +kernel
theorem d_AL_fastRemove_41 : decode b_AL_fastRemove 41 = .ok (.aconst_null, 1) := by decide +kernel
theorem d_AL_fastRemove_42 : decode b_AL_fastRemove 42 = .ok (.aastore, 1) := by decide +kernel
theorem d_AL_fastRemove_43 : decode b_AL_fastRemove 43 = .ok (.return_, 1) := by decide +kernel
set_option maxHeartbeats 4000000 in
set_option maxRecDepth 100000 in
theorem c_fastRemove (l : Launch) (dC : Nat → ClassId) (dI : Nat → Nat → Nat) (sb : sB) (q0 e0 z cap q : Nat) (mo : Int32) (cO : ClassId) (f : Nat → Option Nat) (sz : Nat) (hz : z + 1 ≤ cap) (hc : cap < 2 ^ 30) (hf : f z = some q) : Met l y_AL_fastRemove w_AL_fastRemove ({ frames := 0, cells := 0, slots := 0, locals := 0 }) (mu_P [.ref q0, .ref e0, .int (nI z)] (dC, dI) sb [(q0, .inr (11, [.ref e0, .int (nI (z + 1)), .int mo])), (e0, .inl (cO, cap, .inr (.inr (.inr (.inr f)))))] [(cO, .object "java/lang/Object")] sz) (va_Qv (fun (_u : Int32) => True) (mu_B (dC, dI) [(cO, .object "java/lang/Object")] (va_A [(q0, .inr (11, [.ref e0, .int (nI (z + 1)), .int mo])), (e0, .inl (cO, cap, .inr (.inr (.inr (.inr f)))))] sz) (fun u' : Int32 => [(q0, .inr (11, [.ref e0, .int (nI z), .int u'])), (e0, .inl (cO, cap, .inr (.inr (.inr (.inr (va_up f z none))))))])) (va_A [(q0, .inr (11, [.ref e0, .int (nI (z + 1)), .int mo])), (e0, .inl (cO, cap, .inr (.inr (.inr (.inr f)))))] sz)) 0 0 (va_A [(q0, .inr (11, [.ref e0, .int (nI (z + 1)), .int mo])), (e0, .inl (cO, cap, .inr (.inr (.inr (.inr f)))))] sz) := by
  refine Met.ofW (cc := b_AL_fastRemove) (maxL := 4) (ret := none) (by decide) rfl ?_
  intro p e s m args below meth c s₁ B hml hv
  obtain ⟨rfl, hsz, hB0, hP, hK, hD0, hN, hT0⟩ := hv
  have hx := B.exec
  have hb := B.bytes
  have hr := B.returns
  have hts := atoms_spec (ws := w_AL_fastRemove) B.pre
  have tbin : ∀ w ∈ tb, w ∈ w_AL_fastRemove := fun w h => List.mem_cons_of_mem _ h
  have htb : ∀ w ∈ tb, w.before _ s = true := fun w h => hts w (tbin w h)
  have hown : s.vm.findClass "java/util/ArrayList" = some m.cls := findClass_of_methodNamed B.named
  have hlocks := B.notSynchronized
  subst hsz
  have hD := hD0.self (sz := s.heap.size)
  generalize hAe : va_A [(q0, .inr (11, [.ref e0, .int (nI (z + 1)), .int mo])), (e0, .inl (cO, cap, .inr (.inr (.inr (.inr f)))))] s.heap.size = A at hD ⊢
  have hA : ∀ q : Nat, s.heap.size ≤ q → A q := fun q h => by rw [← hAe]; exact Or.inr h
  have hAs : ∀ q : Nat, A q → sb.1 ≤ q := fun q h => by
    rw [← hAe] at h
    rcases h with ⟨k, e, h⟩ | h
    · exact hD0.2 k _ h
    · exact Nat.le_trans hB0 h
  have hS : va_S A s.heap s.heap [] := va_S.rf
  have hcs : 0 ≤ (headSpec w_AL_fastRemove ({ frames := 0, cells := 0, slots := 0, locals := 0 })).room.cells ∧ 0 ≤ (headSpec w_AL_fastRemove ({ frames := 0, cells := 0, slots := 0, locals := 0 })).room.slots := ⟨Nat.le_refl _, Nat.le_refl _⟩
  have hP : va_P (dC, dI) classes [(q0, .inr (11, [.ref e0, .int (nI (z + 1)), .int mo])), (e0, .inl (cO, cap, .inr (.inr (.inr (.inr f)))))] s.heap := hP
  have hl := lv_entry ([.ref q0, .ref e0, .int (nI z)]) (n := 4) (Nat.le_of_ble_eq_true rfl)
  rw [lg_entry_eq]
  generalize (lg_sl ([.ref q0, .ref e0, .int (nI z)]) ++ List.replicate (4 - (lg_sl ([.ref q0, .ref e0, .int (nI z)])).length) Slot.unset).toArray = ls at hl ⊢
  have hl : lv_has ls 4 [(0, .ref q0), (1, .ref e0), (2, .int (nI z))] := hl
  refine lv_aload_n hx hb d_AL_fastRemove_0 rfl (lv_at hl 0 rfl) ?_
  refine lv_dup hx hb d_AL_fastRemove_1 rfl ?_
  refine va_get (v := .int mo) hx hb htb i_AL hown hK hP 0 rfl rfl 2 (by decide) (htb _ q1_58) (fun x9 h9 => u_same (htb _ q1_59) x9 h9) rfl d_AL_fastRemove_2 ?_
  refine lv_iconst (v := 1) hx hb d_AL_fastRemove_5 (by decide) ?_
  refine lv_iadd hx hb d_AL_fastRemove_6 ?_
  refine va_put (v := .int (mo + 1)) (ty := .int) hx hb htb i_AL t_AL t_AL_ok n_AL hown hK hP hD hS 0 rfl rfl 2 (by decide) (htb _ q1_58) (fun x9 h9 => u_same (htb _ q1_59) x9 h9) rfl (by decide +kernel) rfl rfl (Nat.le_of_ble_eq_true rfl) d_AL_fastRemove_7 (fun H7 locs hP hD hS => ?_)
  have hP : va_P (dC, dI) classes [(q0, .inr (11, [.ref e0, .int (nI (z + 1)), .int (mo + 1)])), (e0, .inl (cO, cap, .inr (.inr (.inr (.inr f)))))] H7 := hP
  have hD : va_D A [(q0, .inr (11, [.ref e0, .int (nI (z + 1)), .int (mo + 1)])), (e0, .inl (cO, cap, .inr (.inr (.inr (.inr f)))))] := hD
  refine lv_aload_n hx hb d_AL_fastRemove_10 rfl (lv_at hl 0 rfl) ?_
  refine va_get (v := .int (nI (z + 1))) hx hb htb i_AL hown hK hP 0 rfl rfl 1 (by decide) (htb _ q1_56) (fun _ h9 => h9) rfl d_AL_fastRemove_11 ?_
  refine lv_iconst (v := 1) hx hb d_AL_fastRemove_14 (by decide) ?_
  refine lv_isub hx hb d_AL_fastRemove_15 ?_
  rw [show ((nI (z + 1)) - 1 : Int32) = nI ((z + 1) - 1) from pk_sub (a := (z + 1)) (b := 1) (by omega)]
  refine lv_dup hx hb d_AL_fastRemove_16 rfl ?_
  refine lv_istore_n (lv' := [(3, .int (nI ((z + 1) - 1))), (0, .ref q0), (1, .ref e0), (2, .int (nI z))]) hx hb d_AL_fastRemove_17 rfl hl (by decide) rfl (fun ls hl => ?_)
  refine lv_iload_n hx hb d_AL_fastRemove_18 rfl (lv_at hl 3 rfl) ?_
  refine lv_icmp_le (tgt := 34) hx hb d_AL_fastRemove_19 (by decide) (fun c19 => ?_) (fun c19 => ?_)
  rotate_left
  · exact absurd (nI_le (by omega) (by omega)) c19
  refine lv_aload_n hx hb d_AL_fastRemove_34 rfl (lv_at hl 2 rfl) ?_
  refine lv_aload_n hx hb d_AL_fastRemove_35 rfl (lv_at hl 1 rfl) ?_
  refine lv_iload_n hx hb d_AL_fastRemove_36 rfl (lv_at hl 0 rfl) ?_
  refine lv_dup_x1 hx hb d_AL_fastRemove_37 rfl rfl ?_
  refine va_put (v := .int (nI ((z + 1) - 1))) (ty := .int) hx hb htb i_AL t_AL t_AL_ok n_AL hown hK hP hD hS 0 rfl rfl 1 (by decide) (htb _ q1_56) (fun _ h9 => h9) rfl (by decide +kernel) rfl rfl (Nat.le_of_ble_eq_true rfl) d_AL_fastRemove_38 (fun H38 locs hP hD hS => ?_)
  have hP : va_P (dC, dI) classes [(q0, .inr (11, [.ref e0, .int (nI ((z + 1) - 1)), .int (mo + 1)])), (e0, .inl (cO, cap, .inr (.inr (.inr (.inr f)))))] H38 := hP
  have hD : va_D A [(q0, .inr (11, [.ref e0, .int (nI ((z + 1) - 1)), .int (mo + 1)])), (e0, .inl (cO, cap, .inr (.inr (.inr (.inr f)))))] := hD
  refine lv_null hx hb d_AL_fastRemove_41 ?_
  have h42 : vp_in (nI ((z + 1) - 1)) cap := vp_in_nI (by omega) (by omega)
  refine va_astqN hx hb hK hP hD hS 1 0 rfl rfl h42 d_AL_fastRemove_42 (fun H42 locs hP hD hS => ?_)
  have hP : va_P (dC, dI) classes [(q0, .inr (11, [.ref e0, .int (nI ((z + 1) - 1)), .int (mo + 1)])), (e0, .inl (cO, cap, .inr (.inr (.inr (.inr (va_up f (nI ((z + 1) - 1)).toNatClampNeg none))))))] H42 := hP
  have hD : va_D A [(q0, .inr (11, [.ref e0, .int (nI ((z + 1) - 1)), .int (mo + 1)])), (e0, .inl (cO, cap, .inr (.inr (.inr (.inr (va_up f (nI ((z + 1) - 1)).toNatClampNeg none))))))] := hD
  rw [nI_clamp (by omega)] at hP hD
  exact W.vret hx hb hr (fun t ht hW => ⟨⟨mo + 1, rfl, trivial, by rw [ht]; exact hP, va_K.moved hW.alike hK, hD⟩, hS.F ht⟩) hS.2.2 d_AL_fastRemove_43
def y_AL_remove : MethodName := ⟨"java/util/ArrayList", "remove", "(I)Ljava/lang/Object;"⟩
abbrev b_AL_remove : ByteArray := prog_32_method_29_code
def w_AL_remove : List Cond := Cond.code y_AL_remove b_AL_remove 4 ((some (FieldType.object "java/lang/Object"))) :: tb
theorem d_AL_remove_0 : decode b_AL_remove 0 = .ok (.iload_n 1, 1) := by decide +kernel
theorem d_AL_remove_1 : decode b_AL_remove 1 = .ok (.aload_n 0, 1) := by decide +kernel
theorem d_AL_remove_2 : decode b_AL_remove 2 = .ok (.getfield 48, 3) := by decide +kernel
theorem d_AL_remove_5 : decode b_AL_remove 5 = .ok (.invokestatic 118, 3) := by decide +kernel
theorem d_AL_remove_8 : decode b_AL_remove 8 = .ok (.pop, 1) := by decide +kernel
theorem d_AL_remove_9 : decode b_AL_remove 9 = .ok (.aload_n 0, 1) := by decide +kernel
theorem d_AL_remove_10 : decode b_AL_remove 10 = .ok (.getfield 9, 3) := by decide +kernel
theorem d_AL_remove_13 : decode b_AL_remove 13 = .ok (.astore_n 2, 1) := by decide +kernel
theorem d_AL_remove_14 : decode b_AL_remove 14 = .ok (.aload_n 2, 1) := by decide +kernel
theorem d_AL_remove_15 : decode b_AL_remove 15 = .ok (.iload_n 1, 1) := by decide +kernel
theorem d_AL_remove_16 : decode b_AL_remove 16 = .ok (.aaload, 1) := by decide +kernel
theorem d_AL_remove_17 : decode b_AL_remove 17 = .ok (.astore_n 3, 1) := by decide +kernel
theorem d_AL_remove_18 : decode b_AL_remove 18 = .ok (.aload_n 0, 1) := by decide +kernel
theorem d_AL_remove_19 : decode b_AL_remove 19 = .ok (.aload_n 2, 1) := by decide +kernel
theorem d_AL_remove_20 : decode b_AL_remove 20 = .ok (.iload_n 1, 1) := by decide +kernel
theorem d_AL_remove_21 : decode b_AL_remove 21 = .ok (.invokevirtual 144, 3) := by decide +kernel
theorem d_AL_remove_24 : decode b_AL_remove 24 = .ok (.aload_n 3, 1) := by decide +kernel
theorem d_AL_remove_25 : decode b_AL_remove 25 = .ok (.areturn, 1) := by decide +kernel
def mu_Bq {S : Type} (D : va_G) (tys : List (ClassId × FieldType)) (A : Nat → Prop) (F : S → va_W) (q : Nat) (u : S) (a : Nat) (t : State) : Prop := a = q ∧ va_P D classes (F u) t.heap ∧ va_K D classes tys t ∧ va_D A (F u)
set_option maxHeartbeats 4000000 in
set_option maxRecDepth 100000 in
theorem c_AL_removeLast (l : Launch) (dC : Nat → ClassId) (dI : Nat → Nat → Nat) (sb : sB) (q0 e0 z cap q : Nat) (mo : Int32) (cO : ClassId) (f : Nat → Option Nat) (sz : Nat) (hz : z + 1 ≤ cap) (hc : cap < 2 ^ 30) (hf : f z = some q) : Met l y_AL_remove w_AL_remove ({ frames := 2, cells := 0, slots := 0, locals := 43 }) (mu_P [.ref q0, .int (nI z)] (dC, dI) sb [(q0, .inr (11, [.ref e0, .int (nI (z + 1)), .int mo])), (e0, .inl (cO, cap, .inr (.inr (.inr (.inr f)))))] [(cO, .object "java/lang/Object")] sz) (va_Qr (fun (_u : Int32) => True) (mu_Bq (dC, dI) [(cO, .object "java/lang/Object")] (va_A [(q0, .inr (11, [.ref e0, .int (nI (z + 1)), .int mo])), (e0, .inl (cO, cap, .inr (.inr (.inr (.inr f)))))] sz) (fun u' : Int32 => [(q0, .inr (11, [.ref e0, .int (nI z), .int u'])), (e0, .inl (cO, cap, .inr (.inr (.inr (.inr (va_up f z none))))))]) q) (va_A [(q0, .inr (11, [.ref e0, .int (nI (z + 1)), .int mo])), (e0, .inl (cO, cap, .inr (.inr (.inr (.inr f)))))] sz)) 0 0 (va_A [(q0, .inr (11, [.ref e0, .int (nI (z + 1)), .int mo])), (e0, .inl (cO, cap, .inr (.inr (.inr (.inr f)))))] sz) := by
  refine Met.ofW (cc := b_AL_remove) (maxL := 4) (ret := (some (FieldType.object "java/lang/Object"))) (by decide) rfl ?_
  intro p e s m args below meth c s₁ B hml hv
  obtain ⟨rfl, hsz, hB0, hP, hK, hD0, hN, hT0⟩ := hv
  have hx := B.exec
  have hb := B.bytes
  have hr := B.returns
  have hts := atoms_spec (ws := w_AL_remove) B.pre
  have tbin : ∀ w ∈ tb, w ∈ w_AL_remove := fun w h => List.mem_cons_of_mem _ h
  have htb : ∀ w ∈ tb, w.before _ s = true := fun w h => hts w (tbin w h)
  have hown : s.vm.findClass "java/util/ArrayList" = some m.cls := findClass_of_methodNamed B.named
  have hlocks := B.notSynchronized
  subst hsz
  have hD := hD0.self (sz := s.heap.size)
  generalize hAe : va_A [(q0, .inr (11, [.ref e0, .int (nI (z + 1)), .int mo])), (e0, .inl (cO, cap, .inr (.inr (.inr (.inr f)))))] s.heap.size = A at hD ⊢
  have hA : ∀ q : Nat, s.heap.size ≤ q → A q := fun q h => by rw [← hAe]; exact Or.inr h
  have hAs : ∀ q : Nat, A q → sb.1 ≤ q := fun q h => by
    rw [← hAe] at h
    rcases h with ⟨k, e, h⟩ | h
    · exact hD0.2 k _ h
    · exact Nat.le_trans hB0 h
  have hS : va_S A s.heap s.heap [] := va_S.rf
  have hcs : 0 ≤ (headSpec w_AL_remove ({ frames := 2, cells := 0, slots := 0, locals := 43 })).room.cells ∧ 0 ≤ (headSpec w_AL_remove ({ frames := 2, cells := 0, slots := 0, locals := 43 })).room.slots := ⟨Nat.le_refl _, Nat.le_refl _⟩
  have hP : va_P (dC, dI) classes [(q0, .inr (11, [.ref e0, .int (nI (z + 1)), .int mo])), (e0, .inl (cO, cap, .inr (.inr (.inr (.inr f)))))] s.heap := hP
  have hl := lv_entry ([.ref q0, .int (nI z)]) (n := 4) (Nat.le_of_ble_eq_true rfl)
  rw [lg_entry_eq]
  generalize (lg_sl ([.ref q0, .int (nI z)]) ++ List.replicate (4 - (lg_sl ([.ref q0, .int (nI z)])).length) Slot.unset).toArray = ls at hl ⊢
  have hl : lv_has ls 4 [(0, .ref q0), (1, .int (nI z))] := hl
  refine lv_iload_n hx hb d_AL_remove_0 rfl (lv_at hl 1 rfl) ?_
  refine lv_aload_n hx hb d_AL_remove_1 rfl (lv_at hl 0 rfl) ?_
  refine va_get (v := .int (nI (z + 1))) hx hb htb i_AL hown hK hP 0 rfl rfl 1 (by decide) (htb _ q1_56) (fun _ h9 => h9) rfl d_AL_remove_2 ?_
  refine vp_callSi (pu_callS (As := [.int (nI z), .int (nI (z + 1))]) (rest := []) ⟨hx, hb, hml, hown, hts⟩ tbin (c_checkIndex l dC dI sb z (z + 1) (by omega) (by omega)) q4_213 q4_214 q1_25 q4_215 (n := 2) (by decide +kernel) rfl ⟨rfl, rfl⟩ ⟨Nat.le_of_ble_eq_true rfl, Nat.le_of_ble_eq_true rfl⟩ ⟨Nat.le_of_ble_eq_true rfl, Nat.le_of_ble_eq_true rfl⟩ hN (hT0.keep hS hAs) hK hP [] rfl [] rfl hl.1 rfl (Nat.le_of_ble_eq_true rfl) d_AL_remove_5) (fun r5 hr5 => ?_)
  refine lv_pop hx hb d_AL_remove_8 rfl ?_
  refine lv_aload_n hx hb d_AL_remove_9 rfl (lv_at hl 0 rfl) ?_
  refine va_get (v := .ref e0) hx hb htb i_AL hown hK hP 0 rfl rfl 0 (by decide) (htb _ q1_55) (fun _ h9 => h9) rfl d_AL_remove_10 ?_
  refine lv_astore_n (lv' := [(2, .ref e0), (0, .ref q0), (1, .int (nI z))]) hx hb d_AL_remove_13 rfl hl (by decide) rfl (fun ls hl => ?_)
  refine lv_aload_n hx hb d_AL_remove_14 rfl (lv_at hl 0 rfl) ?_
  refine lv_iload_n hx hb d_AL_remove_15 rfl (lv_at hl 2 rfl) ?_
  have h16 : vp_in (nI z) cap := vp_in_nI (by omega) (by omega)
  refine va_aldq hx hb hK hP 1 0 rfl rfl h16 d_AL_remove_16 ?_
  rw [show va_rf (f (nI z).toNatClampNeg) = .ref q from by rw [nI_clamp (by omega), hf]; rfl]
  refine lv_astore_n (lv' := [(3, .ref q), (2, .ref e0), (0, .ref q0), (1, .int (nI z))]) hx hb d_AL_remove_17 rfl hl (by decide) rfl (fun ls hl => ?_)
  refine lv_aload_n hx hb d_AL_remove_18 rfl (lv_at hl 2 rfl) ?_
  refine lv_aload_n hx hb d_AL_remove_19 rfl (lv_at hl 1 rfl) ?_
  refine lv_iload_n hx hb d_AL_remove_20 rfl (lv_at hl 3 rfl) ?_
  have hFc := va_free (wc := [(q0, .inr (11, [.ref e0, .int (nI (z + 1)), .int mo])), (e0, .inl (cO, cap, .inr (.inr (.inr (.inr f)))))]) hD hS hA [0, 1] rfl
  refine va_callv (mu_runV (As := [.ref e0, .int (nI z)]) (rest := []) ⟨hx, hb, hml, hown, hts⟩ tbin (c_fastRemove l dC dI sb q0 e0 z cap q mo cO f s.heap.size hz hc hf) q6_37 q6_39 qp_30 q1_4 q6_40 (n := 2) (by decide +kernel) rfl ⟨rfl, rfl⟩ ⟨Nat.le_of_ble_eq_true rfl, Nat.le_of_ble_eq_true rfl⟩ ⟨Nat.le_of_ble_eq_true rfl, Nat.le_of_ble_eq_true rfl⟩ hN (hT0.keep hS hAs) hAs (Nat.le_trans hB0 hS.1) hK hP hD [0, 1] (by decide) rfl [0] rfl 0 11 rfl rfl rfl hl.1 rfl (Nat.le_of_ble_eq_true rfl) d_AL_remove_21) hS (fun q _ h => hFc q h) hFc (fun u21 tS H21 locs ht hvm hw21 hB hz1 hk1 hS => ?_)
  obtain ⟨m21, rfl⟩ : ∃ z, z = u21 := ⟨_, rfl⟩
  obtain ⟨hP1, hK1, hD1⟩ := hB
  rw [ht] at hP1
  obtain ⟨hP, hD⟩ := va_join (wr := []) (w1 := [(q0, .inr (11, [.ref e0, .int (nI z), .int m21])), (e0, .inl (cO, cap, .inr (.inr (.inr (.inr (va_up f z none))))))]) hP hD [0, 1] [] rfl rfl (by decide) (by decide) hk1 hFc hP1 hD1
  have hP : va_P (dC, dI) classes [(q0, .inr (11, [.ref e0, .int (nI z), .int m21])), (e0, .inl (cO, cap, .inr (.inr (.inr (.inr (va_up f z none))))))] H21 := hP
  have hD : va_D A [(q0, .inr (11, [.ref e0, .int (nI z), .int m21])), (e0, .inl (cO, cap, .inr (.inr (.inr (.inr (va_up f z none))))))] := hD
  refine lv_aload_n hx hb d_AL_remove_24 rfl (lv_at hl 0 rfl) ?_
  exact W.aret (v := .ref q) hx hb hr (Or.inl ⟨_, rfl⟩) (Or.inr ⟨_, rfl⟩) (fun t ht hW => ⟨⟨m21, q, rfl, trivial, rfl, by rw [ht]; exact hP, va_K.moved hW.alike hK, hD⟩, hS.F ht⟩) hS.2.2 d_AL_remove_25
