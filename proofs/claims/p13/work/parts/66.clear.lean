/-! ArrayList.clear; what a list's known extensions leave behind. -/
def y_AL_clear : MethodName := ⟨"java/util/ArrayList", "clear", "()V"⟩
abbrev b_AL_clear : ByteArray := prog_32_method_40_code
def w_AL_clear : List Cond := Cond.code y_AL_clear b_AL_clear 4 (none) :: tb
theorem d_AL_clear_0 : decode b_AL_clear 0 = .ok (.aload_n 0, 1) := by decide +kernel
theorem d_AL_clear_1 : decode b_AL_clear 1 = .ok (.dup, 1) := by decide +kernel
theorem d_AL_clear_2 : decode b_AL_clear 2 = .ok (.getfield 63, 3) := by decide +kernel
theorem d_AL_clear_5 : decode b_AL_clear 5 = .ok (.iconst 1, 1) := by decide +kernel
theorem d_AL_clear_6 : decode b_AL_clear 6 = .ok (.iadd, 1) := by decide +kernel
theorem d_AL_clear_7 : decode b_AL_clear 7 = .ok (.putfield 63, 3) := by decide +kernel
theorem d_AL_clear_10 : decode b_AL_clear 10 = .ok (.aload_n 0, 1) := by decide +kernel
theorem d_AL_clear_11 : decode b_AL_clear 11 = .ok (.getfield 9, 3) := by decide +kernel
theorem d_AL_clear_14 : decode b_AL_clear 14 = .ok (.astore_n 1, 1) := by decide +kernel
theorem d_AL_clear_15 : decode b_AL_clear 15 = .ok (.aload_n 0, 1) := by decide +kernel
theorem d_AL_clear_16 : decode b_AL_clear 16 = .ok (.getfield 48, 3) := by decide +kernel
theorem d_AL_clear_19 : decode b_AL_clear 19 = .ok (.istore_n 2, 1) := by decide +kernel
theorem d_AL_clear_20 : decode b_AL_clear 20 = .ok (.aload_n 0, 1) := by decide +kernel
theorem d_AL_clear_21 : decode b_AL_clear 21 = .ok (.iconst 0, 1) := by decide +kernel
theorem d_AL_clear_22 : decode b_AL_clear 22 = .ok (.dup_x1, 1) := by decide +kernel
theorem d_AL_clear_23 : decode b_AL_clear 23 = .ok (.putfield 48, 3) := by decide +kernel
theorem d_AL_clear_26 : decode b_AL_clear 26 = .ok (.istore_n 3, 1) := by decide +kernel
theorem d_AL_clear_27 : decode b_AL_clear 27 = .ok (.iload_n 3, 1) := by decide +kernel
theorem d_AL_clear_28 : decode b_AL_clear 28 = .ok (.iload_n 2, 1) := by decide +kernel
theorem d_AL_clear_29 : decode b_AL_clear 29 = .ok (.if_icmp .ge 13, 3) := by decide +kernel
theorem d_AL_clear_32 : decode b_AL_clear 32 = .ok (.aload_n 1, 1) := by decide +kernel
theorem d_AL_clear_33 : decode b_AL_clear 33 = .ok (.iload_n 3, 1) := by decide +kernel
theorem d_AL_clear_34 : decode b_AL_clear 34 = .ok (.aconst_null, 1) := by decide +kernel
theorem d_AL_clear_35 : decode b_AL_clear 35 = .ok (.aastore, 1) := by decide +kernel
theorem d_AL_clear_36 : decode b_AL_clear 36 = .ok (.iinc 3 1, 3) := by decide +kernel
theorem d_AL_clear_39 : decode b_AL_clear 39 = .ok (.goto (-12), 3) := by decide +kernel
theorem d_AL_clear_42 : decode b_AL_clear 42 = .ok (.return_, 1) := by decide +kernel
set_option maxHeartbeats 4000000 in
set_option maxRecDepth 100000 in
theorem c_clearA (l : Launch) (dC : Nat → ClassId) (dI : Nat → Nat → Nat) (sb : sB) (al el z cap : Nat) (mo : Int32) (cO : ClassId) (f : Nat → Option Nat) (sz : Nat) (hz : z ≤ cap) (hc : cap < 2 ^ 31) : Met l y_AL_clear w_AL_clear ({ frames := 0, cells := 0, slots := 0, locals := 0 }) (mu_P [.ref al] (dC, dI) sb [(al, .inr (11, [.ref el, .int (nI z), .int mo])), (el, .inl (cO, cap, .inr (.inr (.inr (.inr f)))))] [(cO, .object "java/lang/Object")] sz) (va_Qv (fun (_u : Int32 × (Nat → Option Nat)) => True) (mu_B (dC, dI) [(cO, .object "java/lang/Object")] (va_A [(al, .inr (11, [.ref el, .int (nI z), .int mo])), (el, .inl (cO, cap, .inr (.inr (.inr (.inr f)))))] sz) (fun u' : Int32 × (Nat → Option Nat) => [(al, .inr (11, [.ref el, .int 0, .int u'.1])), (el, .inl (cO, cap, .inr (.inr (.inr (.inr u'.2)))))])) (va_A [(al, .inr (11, [.ref el, .int (nI z), .int mo])), (el, .inl (cO, cap, .inr (.inr (.inr (.inr f)))))] sz)) 0 0 (va_A [(al, .inr (11, [.ref el, .int (nI z), .int mo])), (el, .inl (cO, cap, .inr (.inr (.inr (.inr f)))))] sz) := by
  refine Met.ofW (cc := b_AL_clear) (maxL := 4) (ret := none) (by decide) rfl ?_
  intro p e s m args below meth c s₁ B hml hv
  obtain ⟨rfl, hsz, hB0, hP, hK, hD0, hN, hT0⟩ := hv
  have hx := B.exec
  have hb := B.bytes
  have hr := B.returns
  have hts := atoms_spec (ws := w_AL_clear) B.pre
  have tbin : ∀ w ∈ tb, w ∈ w_AL_clear := fun w h => List.mem_cons_of_mem _ h
  have htb : ∀ w ∈ tb, w.before _ s = true := fun w h => hts w (tbin w h)
  have hown : s.vm.findClass "java/util/ArrayList" = some m.cls := findClass_of_methodNamed B.named
  have hlocks := B.notSynchronized
  subst hsz
  have hD := hD0.self (sz := s.heap.size)
  generalize hAe : va_A [(al, .inr (11, [.ref el, .int (nI z), .int mo])), (el, .inl (cO, cap, .inr (.inr (.inr (.inr f)))))] s.heap.size = A at hD ⊢
  have hA : ∀ q : Nat, s.heap.size ≤ q → A q := fun q h => by rw [← hAe]; exact Or.inr h
  have hAs : ∀ q : Nat, A q → sb.1 ≤ q := fun q h => by
    rw [← hAe] at h
    rcases h with ⟨k, e, h⟩ | h
    · exact hD0.2 k _ h
    · exact Nat.le_trans hB0 h
  have hS : va_S A s.heap s.heap [] := va_S.rf
  have hcs : 0 ≤ (headSpec w_AL_clear ({ frames := 0, cells := 0, slots := 0, locals := 0 })).room.cells ∧ 0 ≤ (headSpec w_AL_clear ({ frames := 0, cells := 0, slots := 0, locals := 0 })).room.slots := ⟨Nat.le_refl _, Nat.le_refl _⟩
  have hP : va_P (dC, dI) classes [(al, .inr (11, [.ref el, .int (nI z), .int mo])), (el, .inl (cO, cap, .inr (.inr (.inr (.inr f)))))] s.heap := hP
  have hl := lv_entry ([.ref al]) (n := 4) (Nat.le_of_ble_eq_true rfl)
  rw [lg_entry_eq]
  generalize (lg_sl ([.ref al]) ++ List.replicate (4 - (lg_sl ([.ref al])).length) Slot.unset).toArray = ls at hl ⊢
  have hl : lv_has ls 4 [(0, .ref al)] := hl
  refine lv_aload_n hx hb d_AL_clear_0 rfl (lv_at hl 0 rfl) ?_
  refine lv_dup hx hb d_AL_clear_1 rfl ?_
  refine va_get (v := .int mo) hx hb htb i_AL hown hK hP 0 rfl rfl 2 (by decide) (htb _ q1_58) (fun x9 h9 => u_same (htb _ q1_59) x9 h9) rfl d_AL_clear_2 ?_
  refine lv_iconst (v := 1) hx hb d_AL_clear_5 (by decide) ?_
  refine lv_iadd hx hb d_AL_clear_6 ?_
  refine lv_topi (fun v7 ev7 => ?_)
  refine va_put (v := .int v7) (ty := .int) hx hb htb i_AL t_AL t_AL_ok n_AL hown hK hP hD hS 0 rfl rfl 2 (by decide) (htb _ q1_58) (fun x9 h9 => u_same (htb _ q1_59) x9 h9) rfl (by decide +kernel) rfl rfl (Nat.le_of_ble_eq_true rfl) d_AL_clear_7 (fun H7 locs hP hD hS => ?_)
  have hP : va_P (dC, dI) classes [(al, .inr (11, [.ref el, .int (nI z), .int v7])), (el, .inl (cO, cap, .inr (.inr (.inr (.inr f)))))] H7 := hP
  have hD : va_D A [(al, .inr (11, [.ref el, .int (nI z), .int v7])), (el, .inl (cO, cap, .inr (.inr (.inr (.inr f)))))] := hD
  refine lv_aload_n hx hb d_AL_clear_10 rfl (lv_at hl 0 rfl) ?_
  refine va_get (v := .ref el) hx hb htb i_AL hown hK hP 0 rfl rfl 0 (by decide) (htb _ q1_55) (fun _ h9 => h9) rfl d_AL_clear_11 ?_
  refine lv_astore_n (lv' := [(1, .ref el), (0, .ref al)]) hx hb d_AL_clear_14 rfl hl (by decide) rfl (fun ls hl => ?_)
  refine lv_aload_n hx hb d_AL_clear_15 rfl (lv_at hl 1 rfl) ?_
  refine va_get (v := .int (nI z)) hx hb htb i_AL hown hK hP 0 rfl rfl 1 (by decide) (htb _ q1_56) (fun _ h9 => h9) rfl d_AL_clear_16 ?_
  refine lv_istore_n (lv' := [(2, .int (nI z)), (1, .ref el), (0, .ref al)]) hx hb d_AL_clear_19 rfl hl (by decide) rfl (fun ls hl => ?_)
  refine lv_aload_n hx hb d_AL_clear_20 rfl (lv_at hl 2 rfl) ?_
  refine lv_iconst (v := 0) hx hb d_AL_clear_21 (by decide) ?_
  refine lv_dup_x1 hx hb d_AL_clear_22 rfl rfl ?_
  refine va_put (v := .int 0) (ty := .int) hx hb htb i_AL t_AL t_AL_ok n_AL hown hK hP hD hS 0 rfl rfl 1 (by decide) (htb _ q1_56) (fun _ h9 => h9) rfl (by decide +kernel) rfl rfl (Nat.le_of_ble_eq_true rfl) d_AL_clear_23 (fun H23 locs hP hD hS => ?_)
  have hP : va_P (dC, dI) classes [(al, .inr (11, [.ref el, .int 0, .int v7])), (el, .inl (cO, cap, .inr (.inr (.inr (.inr f)))))] H23 := hP
  have hD : va_D A [(al, .inr (11, [.ref el, .int 0, .int v7])), (el, .inl (cO, cap, .inr (.inr (.inr (.inr f)))))] := hD
  refine lv_istore_n (lv' := [(3, .int 0), (2, .int (nI z)), (1, .ref el), (0, .ref al)]) hx hb d_AL_clear_26 rfl hl (by decide) rfl (fun ls hl => ?_)
  refine w_loopW (α := Nat × (Nat → Option Nat)) (fun a => a.1 ≤ z) (fun a => z - a.1) (fun a => [(1, .ref el), (2, .int (nI z)), (3, .int (nI a.1))]) (fun _ => []) (fun a => [(al, .inr (11, [.ref el, .int 0, .int v7])), (el, .inl (cO, cap, .inr (.inr (.inr (.inr (a.2))))))]) 4 27 (fun a HL27 locs ls hJ hP hD hS hl ih => ?_) (0, f) _ _ ls (Nat.zero_le _) hP hD hS (lv_sub hl [2, 1, 0] rfl)
  have hP : va_P (dC, dI) classes [(al, .inr (11, [.ref el, .int 0, .int v7])), (el, .inl (cO, cap, .inr (.inr (.inr (.inr (a.2))))))] HL27 := hP
  have hD : va_D A [(al, .inr (11, [.ref el, .int 0, .int v7])), (el, .inl (cO, cap, .inr (.inr (.inr (.inr (a.2))))))] := hD
  have hk9 : a.1 ≤ z := hJ
  refine lv_iload_n hx hb d_AL_clear_27 rfl (lv_at hl 2 rfl) ?_
  refine lv_iload_n hx hb d_AL_clear_28 rfl (lv_at hl 1 rfl) ?_
  refine lv_icmp_ge (tgt := 42) hx hb d_AL_clear_29 (by decide) (fun c29 => ?_) (fun c29 => ?_)
  · exact W.vret hx hb hr (fun t ht hW => ⟨⟨(v7, a.2), rfl, trivial, by rw [ht]; exact hP, va_K.moved hW.alike hK, hD⟩, hS.F ht⟩) hS.2.2 d_AL_clear_42
  · have hlt : a.1 < z := by rw [nI_leI (by omega) (by omega)] at c29; omega
    refine lv_aload_n hx hb d_AL_clear_32 rfl (lv_at hl 0 rfl) ?_
    refine lv_iload_n hx hb d_AL_clear_33 rfl (lv_at hl 2 rfl) ?_
    refine lv_null hx hb d_AL_clear_34 ?_
    have h35 : vp_in (nI a.1) cap := vp_in_nI (by omega) (by omega)
    refine va_astqN hx hb hK hP hD hS 1 0 rfl rfl h35 d_AL_clear_35 (fun H35 locs hP hD hS => ?_)
    have hP : va_P (dC, dI) classes [(al, .inr (11, [.ref el, .int 0, .int v7])), (el, .inl (cO, cap, .inr (.inr (.inr (.inr (va_up (a.2) (nI a.1).toNatClampNeg none))))))] H35 := hP
    have hD : va_D A [(al, .inr (11, [.ref el, .int 0, .int v7])), (el, .inl (cO, cap, .inr (.inr (.inr (.inr (va_up (a.2) (nI a.1).toNatClampNeg none))))))] := hD
    rw [nI_clamp (by omega)] at hP hD
    refine lv_iinc (v := nI (a.1 + 1)) (lv' := [(3, .int (nI (a.1 + 1))), (1, .ref el), (2, .int (nI z))]) hx hb d_AL_clear_36 hl (k := 2) rfl (nI_1 _) (by decide) rfl (fun ls hl => ?_)
    refine lv_goto (tgt := 27) hx hb d_AL_clear_39 (by decide) ?_
    exact ih (a.1 + 1, va_up a.2 a.1 none) _ _ ls (by show z - (a.1 + 1) < z - a.1; omega) (hlt) hP hD hS (lv_sub hl [1, 2, 0] rfl)
set_option maxHeartbeats 4000000 in
set_option maxRecDepth 100000 in
theorem c_clearB (l : Launch) (dC : Nat → ClassId) (dI : Nat → Nat → Nat) (sb : sB) (al : Nat) (mo : Int32) (cO : ClassId) (sz : Nat) : Met l y_AL_clear w_AL_clear ({ frames := 0, cells := 0, slots := 0, locals := 0 }) (mu_P [.ref al] (dC, dI) sb [(al, .inr (11, [.ref (sb.2 5), .int (nI 0), .int mo]))] [(cO, .object "java/lang/Object")] sz) (va_Qv (fun (_u : Int32) => True) (mu_B (dC, dI) [(cO, .object "java/lang/Object")] (va_A [(al, .inr (11, [.ref (sb.2 5), .int (nI 0), .int mo]))] sz) (fun u' : Int32 => [(al, .inr (11, [.ref (sb.2 5), .int 0, .int u']))])) (va_A [(al, .inr (11, [.ref (sb.2 5), .int (nI 0), .int mo]))] sz)) 0 0 (va_A [(al, .inr (11, [.ref (sb.2 5), .int (nI 0), .int mo]))] sz) := by
  refine Met.ofW (cc := b_AL_clear) (maxL := 4) (ret := none) (by decide) rfl ?_
  intro p e s m args below meth c s₁ B hml hv
  obtain ⟨rfl, hsz, hB0, hP, hK, hD0, hN, hT0⟩ := hv
  have hx := B.exec
  have hb := B.bytes
  have hr := B.returns
  have hts := atoms_spec (ws := w_AL_clear) B.pre
  have tbin : ∀ w ∈ tb, w ∈ w_AL_clear := fun w h => List.mem_cons_of_mem _ h
  have htb : ∀ w ∈ tb, w.before _ s = true := fun w h => hts w (tbin w h)
  have hown : s.vm.findClass "java/util/ArrayList" = some m.cls := findClass_of_methodNamed B.named
  have hlocks := B.notSynchronized
  subst hsz
  have hD := hD0.self (sz := s.heap.size)
  generalize hAe : va_A [(al, .inr (11, [.ref (sb.2 5), .int (nI 0), .int mo]))] s.heap.size = A at hD ⊢
  have hA : ∀ q : Nat, s.heap.size ≤ q → A q := fun q h => by rw [← hAe]; exact Or.inr h
  have hAs : ∀ q : Nat, A q → sb.1 ≤ q := fun q h => by
    rw [← hAe] at h
    rcases h with ⟨k, e, h⟩ | h
    · exact hD0.2 k _ h
    · exact Nat.le_trans hB0 h
  have hS : va_S A s.heap s.heap [] := va_S.rf
  have hcs : 0 ≤ (headSpec w_AL_clear ({ frames := 0, cells := 0, slots := 0, locals := 0 })).room.cells ∧ 0 ≤ (headSpec w_AL_clear ({ frames := 0, cells := 0, slots := 0, locals := 0 })).room.slots := ⟨Nat.le_refl _, Nat.le_refl _⟩
  have hP : va_P (dC, dI) classes [(al, .inr (11, [.ref (sb.2 5), .int (nI 0), .int mo]))] s.heap := hP
  have hl := lv_entry ([.ref al]) (n := 4) (Nat.le_of_ble_eq_true rfl)
  rw [lg_entry_eq]
  generalize (lg_sl ([.ref al]) ++ List.replicate (4 - (lg_sl ([.ref al])).length) Slot.unset).toArray = ls at hl ⊢
  have hl : lv_has ls 4 [(0, .ref al)] := hl
  refine lv_aload_n hx hb d_AL_clear_0 rfl (lv_at hl 0 rfl) ?_
  refine lv_dup hx hb d_AL_clear_1 rfl ?_
  refine va_get (v := .int mo) hx hb htb i_AL hown hK hP 0 rfl rfl 2 (by decide) (htb _ q1_58) (fun x9 h9 => u_same (htb _ q1_59) x9 h9) rfl d_AL_clear_2 ?_
  refine lv_iconst (v := 1) hx hb d_AL_clear_5 (by decide) ?_
  refine lv_iadd hx hb d_AL_clear_6 ?_
  refine lv_topi (fun v7 ev7 => ?_)
  refine va_put (v := .int v7) (ty := .int) hx hb htb i_AL t_AL t_AL_ok n_AL hown hK hP hD hS 0 rfl rfl 2 (by decide) (htb _ q1_58) (fun x9 h9 => u_same (htb _ q1_59) x9 h9) rfl (by decide +kernel) rfl rfl (Nat.le_of_ble_eq_true rfl) d_AL_clear_7 (fun H7 locs hP hD hS => ?_)
  have hP : va_P (dC, dI) classes [(al, .inr (11, [.ref (sb.2 5), .int (nI 0), .int v7]))] H7 := hP
  have hD : va_D A [(al, .inr (11, [.ref (sb.2 5), .int (nI 0), .int v7]))] := hD
  refine lv_aload_n hx hb d_AL_clear_10 rfl (lv_at hl 0 rfl) ?_
  refine va_get (v := .ref (sb.2 5)) hx hb htb i_AL hown hK hP 0 rfl rfl 0 (by decide) (htb _ q1_55) (fun _ h9 => h9) rfl d_AL_clear_11 ?_
  refine lv_astore_n (lv' := [(1, .ref (sb.2 5)), (0, .ref al)]) hx hb d_AL_clear_14 rfl hl (by decide) rfl (fun ls hl => ?_)
  refine lv_aload_n hx hb d_AL_clear_15 rfl (lv_at hl 1 rfl) ?_
  refine va_get (v := .int (nI 0)) hx hb htb i_AL hown hK hP 0 rfl rfl 1 (by decide) (htb _ q1_56) (fun _ h9 => h9) rfl d_AL_clear_16 ?_
  refine lv_istore_n (lv' := [(2, .int (nI 0)), (1, .ref (sb.2 5)), (0, .ref al)]) hx hb d_AL_clear_19 rfl hl (by decide) rfl (fun ls hl => ?_)
  refine lv_aload_n hx hb d_AL_clear_20 rfl (lv_at hl 2 rfl) ?_
  refine lv_iconst (v := 0) hx hb d_AL_clear_21 (by decide) ?_
  refine lv_dup_x1 hx hb d_AL_clear_22 rfl rfl ?_
  refine va_put (v := .int 0) (ty := .int) hx hb htb i_AL t_AL t_AL_ok n_AL hown hK hP hD hS 0 rfl rfl 1 (by decide) (htb _ q1_56) (fun _ h9 => h9) rfl (by decide +kernel) rfl rfl (Nat.le_of_ble_eq_true rfl) d_AL_clear_23 (fun H23 locs hP hD hS => ?_)
  have hP : va_P (dC, dI) classes [(al, .inr (11, [.ref (sb.2 5), .int 0, .int v7]))] H23 := hP
  have hD : va_D A [(al, .inr (11, [.ref (sb.2 5), .int 0, .int v7]))] := hD
  refine lv_istore_n (lv' := [(3, .int 0), (2, .int (nI 0)), (1, .ref (sb.2 5)), (0, .ref al)]) hx hb d_AL_clear_26 rfl hl (by decide) rfl (fun ls hl => ?_)
  refine lv_iload_n hx hb d_AL_clear_27 rfl (lv_at hl 0 rfl) ?_
  refine lv_iload_n hx hb d_AL_clear_28 rfl (lv_at hl 1 rfl) ?_
  refine lv_icmp_ge (tgt := 42) hx hb d_AL_clear_29 (by decide) (fun c29 => ?_) (fun c29 => ?_)
  rotate_left
  · exact absurd c29 (by decide)
  exact W.vret hx hb hr (fun t ht hW => ⟨⟨v7, rfl, trivial, by rw [ht]; exact hP, va_K.moved hW.alike hK, hD⟩, hS.F ht⟩) hS.2.2 d_AL_clear_42
section ALC
variable {p : Program} {l : Launch} {e : Env} {R : Room} {s : State} {m : MethodId} {args : Array Value} {below : List Frame} {meth : Method} {c : Code} {H : Heap} {locs : List Loc} {cells slots : Nat} {Q : State → Prop}
variable {pc : Nat} {ls : Array Slot} {rest : List Value} {cc : ByteArray} {nL index : Nat} {Ts : List Cond} {own : String} {dC : Nat → ClassId} {dI : Nat → Nat → Nat} {pl : va_W} {tysB : List (ClassId × FieldType)} {A : Nat → Prop} {sb : sB} {H0 : Heap}
/-- list.clear() -/
theorem al_clear (al z : Nat) (mo : Int32) (cO : ClassId) (o : alD) (S : CallFix p m c cc nL s args Ts own) (hin : ∀ w ∈ tb, w ∈ Ts)
    (h1 : Cond.methodLink own index y_AL_clear ∈ tb) (hN : nwOK sb s) (hT : stOK sb s H) (hAs : ∀ q, A q → sb.1 ≤ q) (hbH : sb.1 ≤ H.size) (hA : ∀ q, H0.size ≤ q → A q) (hK : va_K (dC, dI) classes tysB s) (t0 : Nat) (ht0 : tysB[t0]? = some (cO, .object "java/lang/Object"))
    (hP : va_P (dC, dI) classes ((al, .inr (11, [.ref (alO sb o), .int (nI z), .int mo])) :: (alC cO o ++ pl)) H) (hD : va_D A ((al, .inr (11, [.ref (alO sb o), .int (nI z), .int mo])) :: (alC cO o ++ pl))) (hS : va_S A H0 H locs)
    (hi : alI o z) (hfr : 1 ≤ R.frames) (hlo : 30 ≤ R.locals) (hc9 : cells ≤ R.cells) (hs9 : slots ≤ R.slots)
    (hsize : ls.size = nL) (hW : (rest.map fun v => v.category).sum ≤ 8) (hdg : decode cc pc = .ok (.invokevirtual index, 3))
    (kk : ∀ (o' : alD) (mo' : Int32) (H1 : Heap) (locs1 : List Loc), alI o' 0 → alK o' = alK o →
      va_P (dC, dI) classes ((al, .inr (11, [.ref (alO sb o'), .int (nI 0), .int mo'])) :: (alC cO o' ++ pl)) H1 → va_D A ((al, .inr (11, [.ref (alO sb o'), .int (nI 0), .int mo'])) :: (alC cO o' ++ pl)) → va_S A H0 H1 locs1 →
      W p l e R s m args below meth c H1 locs1 cells slots Q (F0 m (pc + 3) ls rest)) :
    W p l e R s m args below meth c H locs cells slots Q (F0 m pc ls (.ref al :: rest)) := by
  cases o with
  | none =>
    have hz0 : z = 0 := hi
    subst hz0
    have hP9 : va_P (dC, dI) classes (([(al, .inr (11, [.ref (sb.2 5), .int (nI 0), .int mo]))] : va_W) ++ pl) H := hP
    have hD9 : va_D A (([(al, .inr (11, [.ref (sb.2 5), .int (nI 0), .int mo]))] : va_W) ++ pl) := hD
    have hFc := va_free (wc := [(al, .inr (11, [.ref (sb.2 5), .int (nI 0), .int mo]))]) hD9 hS hA [0] rfl
    refine va_callv (mu_runV (As := []) (rest := rest) S hin (c_clearB l dC dI sb al mo cO H.size) h1 q4_63 q4_64 q1_4 q4_65 (n := 0) (by decide +kernel) rfl ⟨rfl, rfl⟩ ⟨hfr, (by show 8 + (4 + 11) + 0 ≤ R.locals; omega)⟩ ⟨hc9, hs9⟩ hN hT hAs hbH hK hP9 hD9 [0] (by decide) rfl [t0] (by simp [ht0]) 0 11 rfl rfl rfl hsize rfl hW hdg) hS (fun q _ h => hFc q h) hFc (fun u tS H1 locs ht hvm hw hB hz1 hk1 hS => ?_)
    obtain ⟨hP1, hK1, hD1⟩ := hB
    rw [ht] at hP1
    obtain ⟨hP2, hD2⟩ := va_joinF hP9 hD9 [0] rfl hk1 hFc hP1 hD1
    exact kk none u H1 locs rfl rfl hP2 hD2 hS
  | some d =>
    obtain ⟨el, cap, f⟩ := d
    have hi : z ≤ cap ∧ 10 ≤ cap ∧ cap < 2 ^ 24 := hi
    have hP9 : va_P (dC, dI) classes (([(al, .inr (11, [.ref el, .int (nI z), .int mo])), (el, .inl (cO, cap, .inr (.inr (.inr (.inr f)))))] : va_W) ++ pl) H := hP
    have hD9 : va_D A (([(al, .inr (11, [.ref el, .int (nI z), .int mo])), (el, .inl (cO, cap, .inr (.inr (.inr (.inr f)))))] : va_W) ++ pl) := hD
    have hFc := va_free (wc := [(al, .inr (11, [.ref el, .int (nI z), .int mo])), (el, .inl (cO, cap, .inr (.inr (.inr (.inr f)))))]) hD9 hS hA [0, 1] rfl
    refine va_callv (mu_runV (As := []) (rest := rest) S hin (c_clearA l dC dI sb al el z cap mo cO f H.size hi.1 (by omega)) h1 q4_63 q4_64 q1_4 q4_65 (n := 0) (by decide +kernel) rfl ⟨rfl, rfl⟩ ⟨hfr, (by show 8 + (4 + 11) + 0 ≤ R.locals; omega)⟩ ⟨hc9, hs9⟩ hN hT hAs hbH hK hP9 hD9 [0, 1] (by decide) rfl [t0] (by simp [ht0]) 0 11 rfl rfl rfl hsize rfl hW hdg) hS (fun q _ h => hFc q h) hFc (fun u tS H1 locs ht hvm hw hB hz1 hk1 hS => ?_)
    obtain ⟨mo', g⟩ := u
    obtain ⟨hP1, hK1, hD1⟩ := hB
    rw [ht] at hP1
    obtain ⟨hP2, hD2⟩ := va_joinF hP9 hD9 [0, 1] rfl hk1 hFc hP1 hD1
    exact kk (some (el, cap, g)) mo' H1 locs ⟨Nat.zero_le _, hi.2.1, hi.2.2⟩ rfl hP2 hD2 hS
end ALC
section CUA
variable {R : Room} {s : State} {args : Array Value} {Ts : List Cond} {own C : String} {index maxL n : Nat} {y : MethodName} {bytes : ByteArray} {ret : Option FieldType} {rm : Room}
/-- what a call of a method asks that the named class only declares -/
theorem cu_abs {owner : String} {x : MethodName} {mc ms : Nat} (ht : ∀ w ∈ Ts, w.before args s = true) (hin : ∀ w ∈ tb, w ∈ Ts) (h1 : Cond.methodLink own index x ∈ tb) (h6 : Cond.sameMethod x.cls owner x.name x.desc ∈ tb) (h2 : Cond.instanceMethod y ∈ tb) (h3 : Cond.selects C x y ∈ tb) (h4 : Cond.initialized y.cls ∈ tb) (h5 : Cond.code y bytes maxL ret ∈ tb)
    (hz0 : va_Nw (.declares ⟨owner, x.name, x.desc⟩) s) (hd : owner ≠ "java/lang/invoke/MethodHandle" ∧ owner ≠ "java/lang/invoke/VarHandle" ∧ (parseMethodDescriptor x.desc).map (fun d => d.parameters.length) = some n) (hz : rm.cells = mc ∧ rm.slots = ms) (hR : rm.frames + 1 ≤ R.frames ∧ 8 + (maxL + 11) + rm.locals ≤ R.locals) :
    va_CU R s args own C owner index x y bytes maxL ret (Cond.code y bytes maxL ret :: tb) rm mc ms n := by
  refine va_cwA n ht (gd_in hin (fun w hw => ?_)) rfl hz.1 hz.2 hz0 hd hR
  rcases List.mem_append.mp hw with hw | hw
  · rcases List.mem_cons.mp hw with rfl | hw
    · exact h1
    rcases List.mem_cons.mp hw with rfl | hw
    · exact h6
    rcases List.mem_cons.mp hw with rfl | hw
    · exact h3
    rcases List.mem_cons.mp hw with rfl | hw
    · exact h2
    rcases List.mem_cons.mp hw with rfl | hw
    · exact h4
    cases hw
  · exact gd_cons h5 w hw
end CUA
def y_ListReader_readKnown : MethodName := ⟨"TrustChain$ListReader", "readKnown", "(II)Z"⟩
abbrev b_ListReader_readKnown : ByteArray := prog_4_method_4_code
def w_ListReader_readKnown : List Cond := Cond.code y_ListReader_readKnown b_ListReader_readKnown 5 ((some FieldType.boolean)) :: tb
theorem d_ListReader_readKnown_0 : decode b_ListReader_readKnown 0 = .ok (.aload_n 0, 1) := by decide +kernel
theorem d_ListReader_readKnown_1 : decode b_ListReader_readKnown 1 = .ok (.getfield 9, 3) := by decide +kernel
theorem d_ListReader_readKnown_4 : decode b_ListReader_readKnown 4 = .ok (.ifCond .eq 53, 3) := by decide +kernel
theorem d_ListReader_readKnown_7 : decode b_ListReader_readKnown 7 = .ok (.iload_n 1, 1) := by decide +kernel
theorem d_ListReader_readKnown_8 : decode b_ListReader_readKnown 8 = .ok (.bipush 21, 2) := by decide +kernel
theorem d_ListReader_readKnown_10 : decode b_ListReader_readKnown 10 = .ok (.if_icmp .ne 47, 3) := by decide +kernel
theorem d_ListReader_readKnown_13 : decode b_ListReader_readKnown 13 = .ok (.aload_n 0, 1) := by decide +kernel
theorem d_ListReader_readKnown_14 : decode b_ListReader_readKnown 14 = .ok (.bipush 10, 2) := by decide +kernel
theorem d_ListReader_readKnown_16 : decode b_ListReader_readKnown 16 = .ok (.iload_n 2, 1) := by decide +kernel
theorem d_ListReader_readKnown_17 : decode b_ListReader_readKnown 17 = .ok (.invokevirtual 89, 3) := by decide +kernel
theorem d_ListReader_readKnown_20 : decode b_ListReader_readKnown 20 = .ok (.invokevirtual 93, 3) := by decide +kernel
theorem d_ListReader_readKnown_23 : decode b_ListReader_readKnown 23 = .ok (.lstore_n 3, 1) := by decide +kernel
theorem d_ListReader_readKnown_24 : decode b_ListReader_readKnown 24 = .ok (.aload_n 0, 1) := by decide +kernel
theorem d_ListReader_readKnown_25 : decode b_ListReader_readKnown 25 = .ok (.lload_n 3, 1) := by decide +kernel
theorem d_ListReader_readKnown_26 : decode b_ListReader_readKnown 26 = .ok (.lconst 0, 1) := by decide +kernel
theorem d_ListReader_readKnown_27 : decode b_ListReader_readKnown 27 = .ok (.lcmp, 1) := by decide +kernel
theorem d_ListReader_readKnown_28 : decode b_ListReader_readKnown 28 = .ok (.ifCond .lt 23, 3) := by decide +kernel
theorem d_ListReader_readKnown_31 : decode b_ListReader_readKnown 31 = .ok (.lload_n 3, 1) := by decide +kernel
theorem d_ListReader_readKnown_32 : decode b_ListReader_readKnown 32 = .ok (.ldc2_w 117, 3) := by decide +kernel
theorem d_ListReader_readKnown_35 : decode b_ListReader_readKnown 35 = .ok (.lcmp, 1) := by decide +kernel
theorem d_ListReader_readKnown_36 : decode b_ListReader_readKnown 36 = .ok (.ifCond .gt 15, 3) := by decide +kernel
theorem d_ListReader_readKnown_39 : decode b_ListReader_readKnown 39 = .ok (.lload_n 3, 1) := by decide +kernel
theorem d_ListReader_readKnown_40 : decode b_ListReader_readKnown 40 = .ok (.ldc2_w 119, 3) := by decide +kernel
theorem d_ListReader_readKnown_43 : decode b_ListReader_readKnown 43 = .ok (.lcmp, 1) := by decide +kernel
theorem d_ListReader_readKnown_44 : decode b_ListReader_readKnown 44 = .ok (.ifCond .eq 7, 3) := by decide +kernel
theorem d_ListReader_readKnown_47 : decode b_ListReader_readKnown 47 = .ok (.iconst 1, 1) := by decide +kernel
theorem d_ListReader_readKnown_48 : decode b_ListReader_readKnown 48 = .ok (.goto 4, 3) := by decide +kernel
theorem d_ListReader_readKnown_51 : decode b_ListReader_readKnown 51 = .ok (.iconst 0, 1) := by decide +kernel
theorem d_ListReader_readKnown_52 : decode b_ListReader_readKnown 52 = .ok (.invokevirtual 96, 3) := by decide +kernel
theorem d_ListReader_readKnown_55 : decode b_ListReader_readKnown 55 = .ok (.iconst 1, 1) := by decide +kernel
theorem d_ListReader_readKnown_56 : decode b_ListReader_readKnown 56 = .ok (.ireturn, 1) := by decide +kernel
theorem d_ListReader_readKnown_57 : decode b_ListReader_readKnown 57 = .ok (.aload_n 0, 1) := by decide +kernel
theorem d_ListReader_readKnown_58 : decode b_ListReader_readKnown 58 = .ok (.getfield 9, 3) := by decide +kernel
theorem d_ListReader_readKnown_61 : decode b_ListReader_readKnown 61 = .ok (.ifCond .ne 47, 3) := by decide +kernel
theorem d_ListReader_readKnown_64 : decode b_ListReader_readKnown 64 = .ok (.iload_n 1, 1) := by decide +kernel
theorem d_ListReader_readKnown_65 : decode b_ListReader_readKnown 65 = .ok (.bipush 20, 2) := by decide +kernel
theorem d_ListReader_readKnown_67 : decode b_ListReader_readKnown 67 = .ok (.if_icmp .ne 41, 3) := by decide +kernel
theorem d_ListReader_readKnown_70 : decode b_ListReader_readKnown 70 = .ok (.aload_n 0, 1) := by decide +kernel
theorem d_ListReader_readKnown_71 : decode b_ListReader_readKnown 71 = .ok (.iconst 2, 1) := by decide +kernel
theorem d_ListReader_readKnown_72 : decode b_ListReader_readKnown 72 = .ok (.iload_n 2, 1) := by decide +kernel
theorem d_ListReader_readKnown_73 : decode b_ListReader_readKnown 73 = .ok (.invokevirtual 89, 3) := by decide +kernel
theorem d_ListReader_readKnown_76 : decode b_ListReader_readKnown 76 = .ok (.astore_n 3, 1) := by decide +kernel
theorem d_ListReader_readKnown_77 : decode b_ListReader_readKnown 77 = .ok (.aload_n 0, 1) := by decide +kernel
theorem d_ListReader_readKnown_78 : decode b_ListReader_readKnown 78 = .ok (.aload_n 3, 1) := by decide +kernel
theorem d_ListReader_readKnown_79 : decode b_ListReader_readKnown 79 = .ok (.iconst 0, 1) := by decide +kernel
theorem d_ListReader_readKnown_80 : decode b_ListReader_readKnown 80 = .ok (.invokevirtual 121, 3) := by decide +kernel
theorem d_ListReader_readKnown_83 : decode b_ListReader_readKnown 83 = .ok (.sipush 128, 3) := by decide +kernel
theorem d_ListReader_readKnown_86 : decode b_ListReader_readKnown 86 = .ok (.if_icmp .ge 16, 3) := by decide +kernel
theorem d_ListReader_readKnown_89 : decode b_ListReader_readKnown 89 = .ok (.aload_n 3, 1) := by decide +kernel
theorem d_ListReader_readKnown_90 : decode b_ListReader_readKnown 90 = .ok (.invokevirtual 125, 3) := by decide +kernel
theorem d_ListReader_readKnown_93 : decode b_ListReader_readKnown 93 = .ok (.bipush 20, 2) := by decide +kernel
theorem d_ListReader_readKnown_95 : decode b_ListReader_readKnown 95 = .ok (.if_icmp .gt 7, 3) := by decide +kernel
theorem d_ListReader_readKnown_98 : decode b_ListReader_readKnown 98 = .ok (.iconst 1, 1) := by decide +kernel
theorem d_ListReader_readKnown_99 : decode b_ListReader_readKnown 99 = .ok (.goto 4, 3) := by decide +kernel
theorem d_ListReader_readKnown_102 : decode b_ListReader_readKnown 102 = .ok (.iconst 0, 1) := by decide +kernel
theorem d_ListReader_readKnown_103 : decode b_ListReader_readKnown 103 = .ok (.invokevirtual 96, 3) := by decide +kernel
theorem d_ListReader_readKnown_106 : decode b_ListReader_readKnown 106 = .ok (.iconst 1, 1) := by decide +kernel
theorem d_ListReader_readKnown_107 : decode b_ListReader_readKnown 107 = .ok (.ireturn, 1) := by decide +kernel
theorem d_ListReader_readKnown_108 : decode b_ListReader_readKnown 108 = .ok (.aload_n 0, 1) := by decide +kernel
theorem d_ListReader_readKnown_109 : decode b_ListReader_readKnown 109 = .ok (.getfield 9, 3) := by decide +kernel
theorem d_ListReader_readKnown_112 : decode b_ListReader_readKnown 112 = .ok (.ifCond .ne 17, 3) := by decide +kernel
theorem d_ListReader_readKnown_115 : decode b_ListReader_readKnown 115 = .ok (.iload_n 1, 1) := by decide +kernel
theorem d_ListReader_readKnown_116 : decode b_ListReader_readKnown 116 = .ok (.bipush 35, 2) := by decide +kernel
theorem d_ListReader_readKnown_118 : decode b_ListReader_readKnown 118 = .ok (.if_icmp .ne 11, 3) := by decide +kernel
theorem d_ListReader_readKnown_121 : decode b_ListReader_readKnown 121 = .ok (.aload_n 0, 1) := by decide +kernel
theorem d_ListReader_readKnown_122 : decode b_ListReader_readKnown 122 = .ok (.iload_n 2, 1) := by decide +kernel
theorem d_ListReader_readKnown_123 : decode b_ListReader_readKnown 123 = .ok (.invokevirtual 129, 3) := by decide +kernel
theorem d_ListReader_readKnown_126 : decode b_ListReader_readKnown 126 = .ok (.pop, 1) := by decide +kernel
theorem d_ListReader_readKnown_127 : decode b_ListReader_readKnown 127 = .ok (.iconst 1, 1) := by decide +kernel
theorem d_ListReader_readKnown_128 : decode b_ListReader_readKnown 128 = .ok (.ireturn, 1) := by decide +kernel
theorem d_ListReader_readKnown_129 : decode b_ListReader_readKnown 129 = .ok (.iconst 0, 1) := by decide +kernel
theorem d_ListReader_readKnown_130 : decode b_ListReader_readKnown 130 = .ok (.ireturn, 1) := by decide +kernel
set_option maxHeartbeats 4000000 in
set_option maxRecDepth 100000 in
theorem cL_readKnown (l : Launch) (dC : Nat → ClassId) (dI : Nat → Nat → Nat) (sb : sB) (h res t ki n : Nat) (x : rS) (pa ma ex ie : Int32) (cB : ClassId) (u : Nat → Nat) (en : Nat) (kd : Int32) (sz : Nat) (hu : ∀ j, u j < 256) (hn : n < 2 ^ 30) (hi : rdInv n x) (he : en ≤ n) : Met l y_ListReader_readKnown w_ListReader_readKnown ({ frames := 4, cells := 1, slots := 3, locals := 94 }) (mu_P [.ref h, .int kd, .int (nI en)] (dC, dI) sb [(h, .inr (5, [.ref res, .int ie, .ref t, .int (nI x.1), .int (nI x.2.1), .int (wI x.2.2), .int pa, .int ma, .int ex, .ref ki])), (t, .inl (cB, n, .inl (tx u)))] [(cB, .byte)] sz) (va_Qi (fun r (u' : rS) => (u', r) = rd_knL u n ie kd x en ∧ rdInv n u') (mu_B (dC, dI) [(cB, .byte)] (va_A [(h, .inr (5, [.ref res, .int ie, .ref t, .int (nI x.1), .int (nI x.2.1), .int (wI x.2.2), .int pa, .int ma, .int ex, .ref ki])), (t, .inl (cB, n, .inl (tx u)))] sz) (fun u' : rS => [(h, .inr (5, [.ref res, .int ie, .ref t, .int (nI u'.1), .int (nI u'.2.1), .int (wI u'.2.2), .int pa, .int ma, .int ex, .ref ki])), (t, .inl (cB, n, .inl (tx u)))])) (va_A [(h, .inr (5, [.ref res, .int ie, .ref t, .int (nI x.1), .int (nI x.2.1), .int (wI x.2.2), .int pa, .int ma, .int ex, .ref ki])), (t, .inl (cB, n, .inl (tx u)))] sz)) 1 3 (va_A [(h, .inr (5, [.ref res, .int ie, .ref t, .int (nI x.1), .int (nI x.2.1), .int (wI x.2.2), .int pa, .int ma, .int ex, .ref ki])), (t, .inl (cB, n, .inl (tx u)))] sz) := by
  refine Met.ofW (cc := b_ListReader_readKnown) (maxL := 5) (ret := (some FieldType.boolean)) (by decide) rfl ?_
  intro p e s m args below meth c s₁ B hml hv
  obtain ⟨rfl, hsz, hB0, hP, hK, hD0, hN, hT0⟩ := hv
  have hx := B.exec
  have hb := B.bytes
  have hr := B.returns
  have hts := atoms_spec (ws := w_ListReader_readKnown) B.pre
  have tbin : ∀ w ∈ tb, w ∈ w_ListReader_readKnown := fun w h => List.mem_cons_of_mem _ h
  have htb : ∀ w ∈ tb, w.before _ s = true := fun w h => hts w (tbin w h)
  have hown : s.vm.findClass "TrustChain$ListReader" = some m.cls := findClass_of_methodNamed B.named
  have hlocks := B.notSynchronized
  subst hsz
  have hD := hD0.self (sz := s.heap.size)
  generalize hAe : va_A [(h, .inr (5, [.ref res, .int ie, .ref t, .int (nI x.1), .int (nI x.2.1), .int (wI x.2.2), .int pa, .int ma, .int ex, .ref ki])), (t, .inl (cB, n, .inl (tx u)))] s.heap.size = A at hD ⊢
  have hA : ∀ q : Nat, s.heap.size ≤ q → A q := fun q h => by rw [← hAe]; exact Or.inr h
  have hAs : ∀ q : Nat, A q → sb.1 ≤ q := fun q h => by
    rw [← hAe] at h
    rcases h with ⟨k, e, h⟩ | h
    · exact hD0.2 k _ h
    · exact Nat.le_trans hB0 h
  have hS : va_S A s.heap s.heap [] := va_S.rf
  have hcs : 1 ≤ (headSpec w_ListReader_readKnown ({ frames := 4, cells := 1, slots := 3, locals := 94 })).room.cells ∧ 3 ≤ (headSpec w_ListReader_readKnown ({ frames := 4, cells := 1, slots := 3, locals := 94 })).room.slots := ⟨Nat.le_refl _, Nat.le_refl _⟩
  have hP : va_P (dC, dI) classes [(h, .inr (5, [.ref res, .int ie, .ref t, .int (nI x.1), .int (nI x.2.1), .int (wI x.2.2), .int pa, .int ma, .int ex, .ref ki])), (t, .inl (cB, n, .inl (tx u)))] s.heap := hP
  have hl := lv_entry ([.ref h, .int kd, .int (nI en)]) (n := 5) (Nat.le_of_ble_eq_true rfl)
  rw [lg_entry_eq]
  generalize (lg_sl ([.ref h, .int kd, .int (nI en)]) ++ List.replicate (5 - (lg_sl ([.ref h, .int kd, .int (nI en)])).length) Slot.unset).toArray = ls at hl ⊢
  have hl : lv_has ls 5 [(0, .ref h), (1, .int kd), (2, .int (nI en))] := hl
  refine lv_aload_n hx hb d_ListReader_readKnown_0 rfl (lv_at hl 0 rfl) ?_
  refine va_get (v := .int ie) hx hb htb i_ListReader hown hK hP 0 rfl rfl 1 (by decide) (htb _ q5_77) (fun _ h9 => h9) rfl d_ListReader_readKnown_1 ?_
  refine lv_if_eq (tgt := 57) hx hb d_ListReader_readKnown_4 (by decide) (fun c4 => ?_) (fun c4 => ?_)
  · have p4 : ie = (0 : Int32) := c4
    refine lv_aload_n hx hb d_ListReader_readKnown_57 rfl (lv_at hl 0 rfl) ?_
    refine va_get (v := .int ie) hx hb htb i_ListReader hown hK hP 0 rfl rfl 1 (by decide) (htb _ q5_77) (fun _ h9 => h9) rfl d_ListReader_readKnown_58 ?_
    refine lv_if_ne (tgt := 108) hx hb d_ListReader_readKnown_61 (by decide) (fun c61 => ?_) (fun c61 => ?_)
    · have p61 : ¬ (ie = (0 : Int32)) := c61
      refine lv_aload_n hx hb d_ListReader_readKnown_108 rfl (lv_at hl 0 rfl) ?_
      refine va_get (v := .int ie) hx hb htb i_ListReader hown hK hP 0 rfl rfl 1 (by decide) (htb _ q5_77) (fun _ h9 => h9) rfl d_ListReader_readKnown_109 ?_
      refine lv_if_ne (tgt := 129) hx hb d_ListReader_readKnown_112 (by decide) (fun c112 => ?_) (fun c112 => ?_)
      · have p112 : ¬ (ie = (0 : Int32)) := c112
        refine lv_iconst (v := 0) hx hb d_ListReader_readKnown_129 (by decide) ?_
        have e9 : rd_knL u n ie kd x en = (x, (0 : Int32)) := by
          exact ((if_pos p4).trans ((if_neg p61).trans ((if_neg p112).trans rfl)))
        refine W.widen (k := 1) (n := 3) (Nat.le_of_ble_eq_true rfl) (Nat.le_of_ble_eq_true rfl) ?_
        exact W.zret (v := 0) hx hb hr (bz_n (bz_f not_false)) (fun t ht hW => ⟨⟨_, x, rfl, ⟨e9.symm, hi⟩, by rw [ht]; exact hP, va_K.moved hW.alike hK, hD⟩, hS.F ht⟩) hS.2.2 d_ListReader_readKnown_130
      · have p112 : ie = (0 : Int32) := c112
        refine lv_iload_n hx hb d_ListReader_readKnown_115 rfl (lv_at hl 1 rfl) ?_
        refine lv_bipush (v := 35) hx hb d_ListReader_readKnown_116 (by decide) ?_
        refine lv_icmp_ne (tgt := 129) hx hb d_ListReader_readKnown_118 (by decide) (fun c118 => ?_) (fun c118 => ?_)
        · have p118 : ¬ (kd = (35 : Int32)) := c118
          refine lv_iconst (v := 0) hx hb d_ListReader_readKnown_129 (by decide) ?_
          have e9 : rd_knL u n ie kd x en = (x, (0 : Int32)) := by
            exact ((if_pos p4).trans ((if_neg p61).trans ((if_pos p112).trans ((if_neg p118).trans rfl))))
          refine W.widen (k := 1) (n := 3) (Nat.le_of_ble_eq_true rfl) (Nat.le_of_ble_eq_true rfl) ?_
          exact W.zret (v := 0) hx hb hr (bz_n (bz_f not_false)) (fun t ht hW => ⟨⟨_, x, rfl, ⟨e9.symm, hi⟩, by rw [ht]; exact hP, va_K.moved hW.alike hK, hD⟩, hS.F ht⟩) hS.2.2 d_ListReader_readKnown_130
        · have p118 : kd = (35 : Int32) := c118
          refine lv_aload_n hx hb d_ListReader_readKnown_121 rfl (lv_at hl 0 rfl) ?_
          refine lv_iload_n hx hb d_ListReader_readKnown_122 rfl (lv_at hl 2 rfl) ?_
          have hFc := va_free (wc := [(h, .inr (5, [.ref res, .int ie, .ref t, .int (nI x.1), .int (nI x.2.1), .int (wI x.2.2), .int pa, .int ma, .int ex, .ref ki])), (t, .inl (cB, n, .inl (tx u)))]) hD hS hA [0, 1] rfl
          refine va_callr (mu_runU (As := [.int (nI en)]) (rest := []) ⟨hx, hb, hml, hown, hts⟩ (cL_issuerKey l dC dI sb h res t ki n x pa ma ex ie cB u en s.heap.size hu hn hi (by omega)) (cu_of (n := 1) hts tbin q4_201 q4_202 q4_184 q4_203 q1_15 q4_185 rfl (by decide +kernel) ⟨rfl, rfl⟩ ⟨Nat.le_of_ble_eq_true rfl, Nat.le_of_ble_eq_true rfl⟩) rfl ⟨Nat.le_of_ble_eq_true rfl, Nat.le_of_ble_eq_true rfl⟩ hN (hT0.keep hS hAs) hAs (Nat.le_trans hB0 hS.1) hK hP hD [0, 1] (by decide) rfl [0] rfl 0 5 rfl rfl rfl hl.1 rfl (Nat.le_of_ble_eq_true rfl) d_ListReader_readKnown_123) hS (fun q _ h => hFc q h) hFc (fun u123 q123 tS H123 locs ht hvm hw123 hB hz1 hk1 hS => ?_)
          obtain ⟨x123, rfl⟩ : ∃ z, z = u123 := ⟨_, rfl⟩
          obtain ⟨hP1, hK1, hD1⟩ := hB
          rw [ht] at hP1
          obtain ⟨hP, hD⟩ := va_join (wr := []) (w1 := [(h, .inr (5, [.ref res, .int ie, .ref t, .int (nI x123.1), .int (nI x123.2.1), .int (wI x123.2.2), .int pa, .int ma, .int ex, .ref ki])), (t, .inl (cB, n, .inl (tx u))), (q123, .inr (0, [.ref t, .int (nI ((rd_iky u n x en).2.1)), .int (nI ((rd_iky u n x en).2.2))]))]) hP hD [0, 1] [] rfl rfl (by decide) (by decide) hk1 hFc hP1 hD1
          have hP : va_P (dC, dI) classes [(h, .inr (5, [.ref res, .int ie, .ref t, .int (nI x123.1), .int (nI x123.2.1), .int (wI x123.2.2), .int pa, .int ma, .int ex, .ref ki])), (t, .inl (cB, n, .inl (tx u))), (q123, .inr (0, [.ref t, .int (nI ((rd_iky u n x en).2.1)), .int (nI ((rd_iky u n x en).2.2))]))] H123 := hP
          have hD : va_D A [(h, .inr (5, [.ref res, .int ie, .ref t, .int (nI x123.1), .int (nI x123.2.1), .int (wI x123.2.2), .int pa, .int ma, .int ex, .ref ki])), (t, .inl (cB, n, .inl (tx u))), (q123, .inr (0, [.ref t, .int (nI ((rd_iky u n x en).2.1)), .int (nI ((rd_iky u n x en).2.2))]))] := hD
          have hi123 := iky_inv (u := u) hi (show en ≤ n by omega)
          obtain ⟨z123, hz123⟩ : ∃ o, o = rd_iky u n x en := ⟨_, rfl⟩
          rw [← hz123] at hw123 hi123 hP hD
          subst hw123
          have hb123 : z123.1.1 ≤ n := hi123.1.1
          have hc123 := hi123.2.1
          have hd123 := hi123.2.2
          have hP : va_P (dC, dI) classes [(h, .inr (5, [.ref res, .int ie, .ref t, .int (nI z123.1.1), .int (nI z123.1.2.1), .int (wI z123.1.2.2), .int pa, .int ma, .int ex, .ref ki])), (t, .inl (cB, n, .inl (tx u))), (q123, .inr (0, [.ref t, .int (nI z123.2.1), .int (nI z123.2.2)]))] H123 := hP
          have hD : va_D A [(h, .inr (5, [.ref res, .int ie, .ref t, .int (nI z123.1.1), .int (nI z123.1.2.1), .int (wI z123.1.2.2), .int pa, .int ma, .int ex, .ref ki])), (t, .inl (cB, n, .inl (tx u))), (q123, .inr (0, [.ref t, .int (nI z123.2.1), .int (nI z123.2.2)]))] := hD
          refine lv_pop hx hb d_ListReader_readKnown_126 rfl ?_
          refine lv_iconst (v := 1) hx hb d_ListReader_readKnown_127 (by decide) ?_
          have e9 : rd_knL u n ie kd x en = (z123.1, (1 : Int32)) := by
            subst hz123
            exact ((if_pos p4).trans ((if_neg p61).trans ((if_pos p112).trans ((if_pos p118).trans rfl))))
          refine W.widen (k := 1) (n := 3) (Nat.le_of_ble_eq_true rfl) (Nat.le_of_ble_eq_true rfl) ?_
          exact W.zret (v := 1) hx hb hr (bz_n (bz_t trivial)) (fun t ht hW => ⟨⟨_, z123.1, rfl, ⟨e9.symm, hi123.1⟩, by rw [ht]; exact hP.sub [0, 1] rfl, va_K.moved hW.alike hK, hD.sub [0, 1] (by decide) rfl⟩, hS.F ht⟩) hS.2.2 d_ListReader_readKnown_128
    · have p61 : ie = (0 : Int32) := c61
      refine lv_iload_n hx hb d_ListReader_readKnown_64 rfl (lv_at hl 1 rfl) ?_
      refine lv_bipush (v := 20) hx hb d_ListReader_readKnown_65 (by decide) ?_
      refine lv_icmp_ne (tgt := 108) hx hb d_ListReader_readKnown_67 (by decide) (fun c67 => ?_) (fun c67 => ?_)
      · have p67 : ¬ (kd = (20 : Int32)) := c67
        refine lv_aload_n hx hb d_ListReader_readKnown_108 rfl (lv_at hl 0 rfl) ?_
        refine va_get (v := .int ie) hx hb htb i_ListReader hown hK hP 0 rfl rfl 1 (by decide) (htb _ q5_77) (fun _ h9 => h9) rfl d_ListReader_readKnown_109 ?_
        refine lv_if_ne (tgt := 129) hx hb d_ListReader_readKnown_112 (by decide) (fun c112 => ?_) (fun c112 => ?_)
        · have p112 : ¬ (ie = (0 : Int32)) := c112
          refine lv_iconst (v := 0) hx hb d_ListReader_readKnown_129 (by decide) ?_
          have e9 : rd_knL u n ie kd x en = (x, (0 : Int32)) := by
            exact ((if_pos p4).trans ((if_pos p61).trans ((if_neg p67).trans ((if_neg p112).trans rfl))))
          refine W.widen (k := 1) (n := 3) (Nat.le_of_ble_eq_true rfl) (Nat.le_of_ble_eq_true rfl) ?_
          exact W.zret (v := 0) hx hb hr (bz_n (bz_f not_false)) (fun t ht hW => ⟨⟨_, x, rfl, ⟨e9.symm, hi⟩, by rw [ht]; exact hP, va_K.moved hW.alike hK, hD⟩, hS.F ht⟩) hS.2.2 d_ListReader_readKnown_130
        · have p112 : ie = (0 : Int32) := c112
          refine lv_iload_n hx hb d_ListReader_readKnown_115 rfl (lv_at hl 1 rfl) ?_
          refine lv_bipush (v := 35) hx hb d_ListReader_readKnown_116 (by decide) ?_
          refine lv_icmp_ne (tgt := 129) hx hb d_ListReader_readKnown_118 (by decide) (fun c118 => ?_) (fun c118 => ?_)
          · have p118 : ¬ (kd = (35 : Int32)) := c118
            refine lv_iconst (v := 0) hx hb d_ListReader_readKnown_129 (by decide) ?_
            have e9 : rd_knL u n ie kd x en = (x, (0 : Int32)) := by
              exact ((if_pos p4).trans ((if_pos p61).trans ((if_neg p67).trans ((if_pos p112).trans ((if_neg p118).trans rfl)))))
            refine W.widen (k := 1) (n := 3) (Nat.le_of_ble_eq_true rfl) (Nat.le_of_ble_eq_true rfl) ?_
            exact W.zret (v := 0) hx hb hr (bz_n (bz_f not_false)) (fun t ht hW => ⟨⟨_, x, rfl, ⟨e9.symm, hi⟩, by rw [ht]; exact hP, va_K.moved hW.alike hK, hD⟩, hS.F ht⟩) hS.2.2 d_ListReader_readKnown_130
          · have p118 : kd = (35 : Int32) := c118
            refine lv_aload_n hx hb d_ListReader_readKnown_121 rfl (lv_at hl 0 rfl) ?_
            refine lv_iload_n hx hb d_ListReader_readKnown_122 rfl (lv_at hl 2 rfl) ?_
            have hFc := va_free (wc := [(h, .inr (5, [.ref res, .int ie, .ref t, .int (nI x.1), .int (nI x.2.1), .int (wI x.2.2), .int pa, .int ma, .int ex, .ref ki])), (t, .inl (cB, n, .inl (tx u)))]) hD hS hA [0, 1] rfl
            refine va_callr (mu_runU (As := [.int (nI en)]) (rest := []) ⟨hx, hb, hml, hown, hts⟩ (cL_issuerKey l dC dI sb h res t ki n x pa ma ex ie cB u en s.heap.size hu hn hi (by omega)) (cu_of (n := 1) hts tbin q4_201 q4_202 q4_184 q4_203 q1_15 q4_185 rfl (by decide +kernel) ⟨rfl, rfl⟩ ⟨Nat.le_of_ble_eq_true rfl, Nat.le_of_ble_eq_true rfl⟩) rfl ⟨Nat.le_of_ble_eq_true rfl, Nat.le_of_ble_eq_true rfl⟩ hN (hT0.keep hS hAs) hAs (Nat.le_trans hB0 hS.1) hK hP hD [0, 1] (by decide) rfl [0] rfl 0 5 rfl rfl rfl hl.1 rfl (Nat.le_of_ble_eq_true rfl) d_ListReader_readKnown_123) hS (fun q _ h => hFc q h) hFc (fun u123 q123 tS H123 locs ht hvm hw123 hB hz1 hk1 hS => ?_)
            obtain ⟨x123, rfl⟩ : ∃ z, z = u123 := ⟨_, rfl⟩
            obtain ⟨hP1, hK1, hD1⟩ := hB
            rw [ht] at hP1
            obtain ⟨hP, hD⟩ := va_join (wr := []) (w1 := [(h, .inr (5, [.ref res, .int ie, .ref t, .int (nI x123.1), .int (nI x123.2.1), .int (wI x123.2.2), .int pa, .int ma, .int ex, .ref ki])), (t, .inl (cB, n, .inl (tx u))), (q123, .inr (0, [.ref t, .int (nI ((rd_iky u n x en).2.1)), .int (nI ((rd_iky u n x en).2.2))]))]) hP hD [0, 1] [] rfl rfl (by decide) (by decide) hk1 hFc hP1 hD1
            have hP : va_P (dC, dI) classes [(h, .inr (5, [.ref res, .int ie, .ref t, .int (nI x123.1), .int (nI x123.2.1), .int (wI x123.2.2), .int pa, .int ma, .int ex, .ref ki])), (t, .inl (cB, n, .inl (tx u))), (q123, .inr (0, [.ref t, .int (nI ((rd_iky u n x en).2.1)), .int (nI ((rd_iky u n x en).2.2))]))] H123 := hP
            have hD : va_D A [(h, .inr (5, [.ref res, .int ie, .ref t, .int (nI x123.1), .int (nI x123.2.1), .int (wI x123.2.2), .int pa, .int ma, .int ex, .ref ki])), (t, .inl (cB, n, .inl (tx u))), (q123, .inr (0, [.ref t, .int (nI ((rd_iky u n x en).2.1)), .int (nI ((rd_iky u n x en).2.2))]))] := hD
            have hi123 := iky_inv (u := u) hi (show en ≤ n by omega)
            obtain ⟨z123, hz123⟩ : ∃ o, o = rd_iky u n x en := ⟨_, rfl⟩
            rw [← hz123] at hw123 hi123 hP hD
            subst hw123
            have hb123 : z123.1.1 ≤ n := hi123.1.1
            have hc123 := hi123.2.1
            have hd123 := hi123.2.2
            have hP : va_P (dC, dI) classes [(h, .inr (5, [.ref res, .int ie, .ref t, .int (nI z123.1.1), .int (nI z123.1.2.1), .int (wI z123.1.2.2), .int pa, .int ma, .int ex, .ref ki])), (t, .inl (cB, n, .inl (tx u))), (q123, .inr (0, [.ref t, .int (nI z123.2.1), .int (nI z123.2.2)]))] H123 := hP
            have hD : va_D A [(h, .inr (5, [.ref res, .int ie, .ref t, .int (nI z123.1.1), .int (nI z123.1.2.1), .int (wI z123.1.2.2), .int pa, .int ma, .int ex, .ref ki])), (t, .inl (cB, n, .inl (tx u))), (q123, .inr (0, [.ref t, .int (nI z123.2.1), .int (nI z123.2.2)]))] := hD
            refine lv_pop hx hb d_ListReader_readKnown_126 rfl ?_
            refine lv_iconst (v := 1) hx hb d_ListReader_readKnown_127 (by decide) ?_
            have e9 : rd_knL u n ie kd x en = (z123.1, (1 : Int32)) := by
              subst hz123
              exact ((if_pos p4).trans ((if_pos p61).trans ((if_neg p67).trans ((if_pos p112).trans ((if_pos p118).trans rfl)))))
            refine W.widen (k := 1) (n := 3) (Nat.le_of_ble_eq_true rfl) (Nat.le_of_ble_eq_true rfl) ?_
            exact W.zret (v := 1) hx hb hr (bz_n (bz_t trivial)) (fun t ht hW => ⟨⟨_, z123.1, rfl, ⟨e9.symm, hi123.1⟩, by rw [ht]; exact hP.sub [0, 1] rfl, va_K.moved hW.alike hK, hD.sub [0, 1] (by decide) rfl⟩, hS.F ht⟩) hS.2.2 d_ListReader_readKnown_128
      · have p67 : kd = (20 : Int32) := c67
        refine lv_aload_n hx hb d_ListReader_readKnown_70 rfl (lv_at hl 0 rfl) ?_
        refine lv_iconst (v := 2) hx hb d_ListReader_readKnown_71 (by decide) ?_
        refine lv_iload_n hx hb d_ListReader_readKnown_72 rfl (lv_at hl 2 rfl) ?_
        have hFc := va_free (wc := [(h, .inr (5, [.ref res, .int ie, .ref t, .int (nI x.1), .int (nI x.2.1), .int (wI x.2.2), .int pa, .int ma, .int ex, .ref ki])), (t, .inl (cB, n, .inl (tx u)))]) hD hS hA [0, 1] rfl
        refine va_callr (mu_runU (As := [.int 2, .int (nI en)]) (rest := []) ⟨hx, hb, hml, hown, hts⟩ (cL_number l dC dI sb h res t ki n x pa ma ex ie cB u 2 en s.heap.size hu hn hi (by omega) (by decide)) (cu_of (n := 2) hts tbin q4_190 q4_191 q3_128 q4_192 q1_15 q3_129 rfl (by decide +kernel) ⟨rfl, rfl⟩ ⟨Nat.le_of_ble_eq_true rfl, Nat.le_of_ble_eq_true rfl⟩) rfl ⟨Nat.le_of_ble_eq_true rfl, Nat.le_of_ble_eq_true rfl⟩ hN (hT0.keep hS hAs) hAs (Nat.le_trans hB0 hS.1) hK hP hD [0, 1] (by decide) rfl [0] rfl 0 5 rfl rfl rfl hl.1 rfl (Nat.le_of_ble_eq_true rfl) d_ListReader_readKnown_73) hS (fun q _ h => hFc q h) hFc (fun u73 q73 tS H73 locs ht hvm hw73 hB hz1 hk1 hS => ?_)
        obtain ⟨x73, rfl⟩ : ∃ z, z = u73 := ⟨_, rfl⟩
        obtain ⟨hP1, hK1, hD1⟩ := hB
        rw [ht] at hP1
        obtain ⟨hP, hD⟩ := va_join (wr := []) (w1 := [(h, .inr (5, [.ref res, .int ie, .ref t, .int (nI x73.1), .int (nI x73.2.1), .int (wI x73.2.2), .int pa, .int ma, .int ex, .ref ki])), (t, .inl (cB, n, .inl (tx u))), (q73, .inr (0, [.ref t, .int (nI ((rd_nm u n x 2 en).2.1)), .int (nI ((rd_nm u n x 2 en).2.2))]))]) hP hD [0, 1] [] rfl rfl (by decide) (by decide) hk1 hFc hP1 hD1
        have hP : va_P (dC, dI) classes [(h, .inr (5, [.ref res, .int ie, .ref t, .int (nI x73.1), .int (nI x73.2.1), .int (wI x73.2.2), .int pa, .int ma, .int ex, .ref ki])), (t, .inl (cB, n, .inl (tx u))), (q73, .inr (0, [.ref t, .int (nI ((rd_nm u n x 2 en).2.1)), .int (nI ((rd_nm u n x 2 en).2.2))]))] H73 := hP
        have hD : va_D A [(h, .inr (5, [.ref res, .int ie, .ref t, .int (nI x73.1), .int (nI x73.2.1), .int (wI x73.2.2), .int pa, .int ma, .int ex, .ref ki])), (t, .inl (cB, n, .inl (tx u))), (q73, .inr (0, [.ref t, .int (nI ((rd_nm u n x 2 en).2.1)), .int (nI ((rd_nm u n x 2 en).2.2))]))] := hD
        have hi73 := nm_inv (u := u) (tg := 2) hi (show en ≤ n by omega)
        obtain ⟨z73, hz73⟩ : ∃ o, o = rd_nm u n x 2 en := ⟨_, rfl⟩
        rw [← hz73] at hw73 hi73 hP hD
        subst hw73
        have hb73 : z73.1.1 ≤ n := hi73.1.1
        have hc73 := hi73.2.1
        have hd73 := hi73.2.2
        have hP : va_P (dC, dI) classes [(h, .inr (5, [.ref res, .int ie, .ref t, .int (nI z73.1.1), .int (nI z73.1.2.1), .int (wI z73.1.2.2), .int pa, .int ma, .int ex, .ref ki])), (t, .inl (cB, n, .inl (tx u))), (q73, .inr (0, [.ref t, .int (nI z73.2.1), .int (nI z73.2.2)]))] H73 := hP
        have hD : va_D A [(h, .inr (5, [.ref res, .int ie, .ref t, .int (nI z73.1.1), .int (nI z73.1.2.1), .int (wI z73.1.2.2), .int pa, .int ma, .int ex, .ref ki])), (t, .inl (cB, n, .inl (tx u))), (q73, .inr (0, [.ref t, .int (nI z73.2.1), .int (nI z73.2.2)]))] := hD
        refine lv_astore_n (lv' := [(3, .ref q73), (0, .ref h), (1, .int kd), (2, .int (nI en))]) hx hb d_ListReader_readKnown_76 rfl hl (by decide) rfl (fun ls hl => ?_)
        refine lv_aload_n hx hb d_ListReader_readKnown_77 rfl (lv_at hl 1 rfl) ?_
        refine lv_aload_n hx hb d_ListReader_readKnown_78 rfl (lv_at hl 0 rfl) ?_
        refine lv_iconst (v := 0) hx hb d_ListReader_readKnown_79 (by decide) ?_
        refine vp_callSi (pu_callV (As := [.int 0]) (rest := [.ref h]) ⟨hx, hb, hml, hown, hts⟩ tbin (c_Slice_at l dC dI sb q73 t z73.2.1 z73.2.2 n cB u 0 hu (by omega) (by omega) (by omega)) q4_199 q3_149 q3_150 q1_22 q3_151 (n := 1) (by decide +kernel) rfl ⟨rfl, rfl⟩ ⟨Nat.le_of_ble_eq_true rfl, Nat.le_of_ble_eq_true rfl⟩ ⟨Nat.le_of_ble_eq_true rfl, Nat.le_of_ble_eq_true rfl⟩ hN (hT0.keep hS hAs) hK hP [2, 1] rfl [0] rfl 2 0 rfl rfl rfl hl.1 rfl (Nat.le_of_ble_eq_true rfl) d_ListReader_readKnown_80) (fun r80 hr80 => ?_)
        subst hr80
        refine lv_sipush (v := 128) hx hb d_ListReader_readKnown_83 (by decide) ?_
        refine w_join (J := fun v9 => v9 = zP (¬ ((128 : Int32) ≤ (sl_at u z73.2.1 z73.2.2 (0 : Int32))) ∧ (¬ (20 < (z73.2.2 - z73.2.1))))) (pc := 103) (ls := ls) (rest := [.ref h]) (fun v9 hv9 => ?_) (fun k103 => ?_)
        · subst hv9
          have hFc := va_free (wc := [(h, .inr (5, [.ref res, .int ie, .ref t, .int (nI z73.1.1), .int (nI z73.1.2.1), .int (wI z73.1.2.2), .int pa, .int ma, .int ex, .ref ki]))]) hD hS hA [0] rfl
          refine va_callv (mu_runU (As := [.int (zP (¬ ((128 : Int32) ≤ (sl_at u z73.2.1 z73.2.2 (0 : Int32))) ∧ (¬ (20 < (z73.2.2 - z73.2.1)))))]) (rest := []) ⟨hx, hb, hml, hown, hts⟩ (cL_require l dC dI sb h res t ki z73.1.1 z73.1.2.1 n z73.1.2.2 pa ma ex ie cB u (zP (¬ ((128 : Int32) ≤ (sl_at u z73.2.1 z73.2.2 (0 : Int32))) ∧ (¬ (20 < (z73.2.2 - z73.2.1))))) H73.size ((hi73.1).w hn)) (cu_of (n := 1) hts tbin q4_196 q4_197 q3_157 q4_198 q1_15 q3_158 rfl (by decide +kernel) ⟨rfl, rfl⟩ ⟨Nat.le_of_ble_eq_true rfl, Nat.le_of_ble_eq_true rfl⟩) rfl ⟨Nat.le_of_ble_eq_true rfl, Nat.le_of_ble_eq_true rfl⟩ hN (hT0.keep hS hAs) hAs (Nat.le_trans hB0 hS.1) hK hP hD [0] (by decide) rfl [] rfl 0 5 rfl rfl rfl hl.1 rfl (Nat.le_of_ble_eq_true rfl) d_ListReader_readKnown_103) hS (fun q _ h => hFc q h) hFc (fun u103 tS H103 locs ht hvm hw103 hB hz1 hk1 hS => ?_)
          obtain ⟨z103, rfl⟩ : ∃ z, z = u103 := ⟨_, rfl⟩
          obtain ⟨hP1, hK1, hD1⟩ := hB
          rw [ht] at hP1
          obtain ⟨hP, hD⟩ := va_join (wr := [(t, .inl (cB, n, .inl (tx u))), (q73, .inr (0, [.ref t, .int (nI z73.2.1), .int (nI z73.2.2)]))]) (w1 := [(h, .inr (5, [.ref res, .int ie, .ref t, .int (nI z103.1), .int (nI z103.2.1), .int (wI z103.2.2), .int pa, .int ma, .int ex, .ref ki]))]) hP hD [0] [1, 2] rfl rfl (by decide) (by decide) hk1 hFc hP1 hD1
          have hP : va_P (dC, dI) classes [(t, .inl (cB, n, .inl (tx u))), (q73, .inr (0, [.ref t, .int (nI z73.2.1), .int (nI z73.2.2)])), (h, .inr (5, [.ref res, .int ie, .ref t, .int (nI z103.1), .int (nI z103.2.1), .int (wI z103.2.2), .int pa, .int ma, .int ex, .ref ki]))] H103 := hP
          have hD : va_D A [(t, .inl (cB, n, .inl (tx u))), (q73, .inr (0, [.ref t, .int (nI z73.2.1), .int (nI z73.2.2)])), (h, .inr (5, [.ref res, .int ie, .ref t, .int (nI z103.1), .int (nI z103.2.1), .int (wI z103.2.2), .int pa, .int ma, .int ex, .ref ki]))] := hD
          have hz103 : z103 = rd_req z73.1 (zP (¬ ((128 : Int32) ≤ (sl_at u z73.2.1 z73.2.2 (0 : Int32))) ∧ (¬ (20 < (z73.2.2 - z73.2.1))))) := hw103
          have hi103 : rdInv n z103 := by rw [hz103]; exact req_inv hi73.1
          have hb103 : z103.1 ≤ n := hi103.1
          refine lv_iconst (v := 1) hx hb d_ListReader_readKnown_106 (by decide) ?_
          have e9 : rd_knL u n ie kd x en = (z103, (1 : Int32)) := by
            subst hz103
            subst hz73
            exact ((if_pos p4).trans ((if_pos p61).trans ((if_pos p67).trans rfl)))
          refine W.widen (k := 1) (n := 3) (Nat.le_of_ble_eq_true rfl) (Nat.le_of_ble_eq_true rfl) ?_
          exact W.zret (v := 1) hx hb hr (bz_n (bz_t trivial)) (fun t ht hW => ⟨⟨_, z103, rfl, ⟨e9.symm, hi103⟩, by rw [ht]; exact hP.sub [2, 0] rfl, va_K.moved hW.alike hK, hD.sub [2, 0] (by decide) rfl⟩, hS.F ht⟩) hS.2.2 d_ListReader_readKnown_107
        · skip
          refine lv_icmp_ge (tgt := 102) hx hb d_ListReader_readKnown_86 (by decide) (fun c86 => ?_) (fun c86 => ?_)
          · have p86 : (128 : Int32) ≤ (sl_at u z73.2.1 z73.2.2 (0 : Int32)) := c86
            refine lv_iconst (v := 0) hx hb d_ListReader_readKnown_102 (by decide) ?_
            exact k103 _ (zP_f (fun z => z.1 p86))
          · have p86 : ¬ ((128 : Int32) ≤ (sl_at u z73.2.1 z73.2.2 (0 : Int32))) := c86
            refine lv_aload_n hx hb d_ListReader_readKnown_89 rfl (lv_at hl 0 rfl) ?_
            refine vp_callSi (pu_callV (As := []) (rest := [.ref h]) ⟨hx, hb, hml, hown, hts⟩ tbin (c_Slice_length l dC dI sb q73 t z73.2.1 z73.2.2 (by omega)) q4_200 q3_144 q3_145 q1_22 q3_146 (n := 0) (by decide +kernel) rfl ⟨rfl, rfl⟩ ⟨Nat.le_of_ble_eq_true rfl, Nat.le_of_ble_eq_true rfl⟩ ⟨Nat.le_of_ble_eq_true rfl, Nat.le_of_ble_eq_true rfl⟩ hN (hT0.keep hS hAs) hK hP [2] rfl [] rfl 2 0 rfl rfl rfl hl.1 rfl (Nat.le_of_ble_eq_true rfl) d_ListReader_readKnown_90) (fun r90 hr90 => ?_)
            subst hr90
            refine lv_bipush (v := 20) hx hb d_ListReader_readKnown_93 (by decide) ?_
            refine lv_icmp_gt (tgt := 102) hx hb d_ListReader_readKnown_95 (by decide) (fun c95 => ?_) (fun c95 => ?_)
            · have p95 : 20 < (z73.2.2 - z73.2.1) := ((nI_ltI (a := 20) (b := (z73.2.2 - z73.2.1)) (by omega) (by omega)).mp c95)
              refine lv_iconst (v := 0) hx hb d_ListReader_readKnown_102 (by decide) ?_
              exact k103 _ (zP_f (fun z => (fun z => z p95) z.2))
            · have p95 : ¬ (20 < (z73.2.2 - z73.2.1)) := (fun q9 => c95 ((nI_ltI (a := 20) (b := (z73.2.2 - z73.2.1)) (by omega) (by omega)).mpr q9))
              refine lv_iconst (v := 1) hx hb d_ListReader_readKnown_98 (by decide) ?_
              refine lv_goto (tgt := 103) hx hb d_ListReader_readKnown_99 (by decide) ?_
              exact k103 _ (zP_t ⟨p86, p95⟩)
  · have p4 : ¬ (ie = (0 : Int32)) := c4
    refine lv_iload_n hx hb d_ListReader_readKnown_7 rfl (lv_at hl 1 rfl) ?_
    refine lv_bipush (v := 21) hx hb d_ListReader_readKnown_8 (by decide) ?_
    refine lv_icmp_ne (tgt := 57) hx hb d_ListReader_readKnown_10 (by decide) (fun c10 => ?_) (fun c10 => ?_)
    · have p10 : ¬ (kd = (21 : Int32)) := c10
      refine lv_aload_n hx hb d_ListReader_readKnown_57 rfl (lv_at hl 0 rfl) ?_
      refine va_get (v := .int ie) hx hb htb i_ListReader hown hK hP 0 rfl rfl 1 (by decide) (htb _ q5_77) (fun _ h9 => h9) rfl d_ListReader_readKnown_58 ?_
      refine lv_if_ne (tgt := 108) hx hb d_ListReader_readKnown_61 (by decide) (fun c61 => ?_) (fun c61 => ?_)
      · have p61 : ¬ (ie = (0 : Int32)) := c61
        refine lv_aload_n hx hb d_ListReader_readKnown_108 rfl (lv_at hl 0 rfl) ?_
        refine va_get (v := .int ie) hx hb htb i_ListReader hown hK hP 0 rfl rfl 1 (by decide) (htb _ q5_77) (fun _ h9 => h9) rfl d_ListReader_readKnown_109 ?_
        refine lv_if_ne (tgt := 129) hx hb d_ListReader_readKnown_112 (by decide) (fun c112 => ?_) (fun c112 => ?_)
        · have p112 : ¬ (ie = (0 : Int32)) := c112
          refine lv_iconst (v := 0) hx hb d_ListReader_readKnown_129 (by decide) ?_
          have e9 : rd_knL u n ie kd x en = (x, (0 : Int32)) := by
            exact ((if_neg p4).trans ((if_neg p10).trans ((if_neg p61).trans ((if_neg p112).trans rfl))))
          refine W.widen (k := 1) (n := 3) (Nat.le_of_ble_eq_true rfl) (Nat.le_of_ble_eq_true rfl) ?_
          exact W.zret (v := 0) hx hb hr (bz_n (bz_f not_false)) (fun t ht hW => ⟨⟨_, x, rfl, ⟨e9.symm, hi⟩, by rw [ht]; exact hP, va_K.moved hW.alike hK, hD⟩, hS.F ht⟩) hS.2.2 d_ListReader_readKnown_130
        · have p112 : ie = (0 : Int32) := c112
          refine lv_iload_n hx hb d_ListReader_readKnown_115 rfl (lv_at hl 1 rfl) ?_
          refine lv_bipush (v := 35) hx hb d_ListReader_readKnown_116 (by decide) ?_
          refine lv_icmp_ne (tgt := 129) hx hb d_ListReader_readKnown_118 (by decide) (fun c118 => ?_) (fun c118 => ?_)
          · have p118 : ¬ (kd = (35 : Int32)) := c118
            refine lv_iconst (v := 0) hx hb d_ListReader_readKnown_129 (by decide) ?_
            have e9 : rd_knL u n ie kd x en = (x, (0 : Int32)) := by
              exact ((if_neg p4).trans ((if_neg p10).trans ((if_neg p61).trans ((if_pos p112).trans ((if_neg p118).trans rfl)))))
            refine W.widen (k := 1) (n := 3) (Nat.le_of_ble_eq_true rfl) (Nat.le_of_ble_eq_true rfl) ?_
            exact W.zret (v := 0) hx hb hr (bz_n (bz_f not_false)) (fun t ht hW => ⟨⟨_, x, rfl, ⟨e9.symm, hi⟩, by rw [ht]; exact hP, va_K.moved hW.alike hK, hD⟩, hS.F ht⟩) hS.2.2 d_ListReader_readKnown_130
          · have p118 : kd = (35 : Int32) := c118
            refine lv_aload_n hx hb d_ListReader_readKnown_121 rfl (lv_at hl 0 rfl) ?_
            refine lv_iload_n hx hb d_ListReader_readKnown_122 rfl (lv_at hl 2 rfl) ?_
            have hFc := va_free (wc := [(h, .inr (5, [.ref res, .int ie, .ref t, .int (nI x.1), .int (nI x.2.1), .int (wI x.2.2), .int pa, .int ma, .int ex, .ref ki])), (t, .inl (cB, n, .inl (tx u)))]) hD hS hA [0, 1] rfl
            refine va_callr (mu_runU (As := [.int (nI en)]) (rest := []) ⟨hx, hb, hml, hown, hts⟩ (cL_issuerKey l dC dI sb h res t ki n x pa ma ex ie cB u en s.heap.size hu hn hi (by omega)) (cu_of (n := 1) hts tbin q4_201 q4_202 q4_184 q4_203 q1_15 q4_185 rfl (by decide +kernel) ⟨rfl, rfl⟩ ⟨Nat.le_of_ble_eq_true rfl, Nat.le_of_ble_eq_true rfl⟩) rfl ⟨Nat.le_of_ble_eq_true rfl, Nat.le_of_ble_eq_true rfl⟩ hN (hT0.keep hS hAs) hAs (Nat.le_trans hB0 hS.1) hK hP hD [0, 1] (by decide) rfl [0] rfl 0 5 rfl rfl rfl hl.1 rfl (Nat.le_of_ble_eq_true rfl) d_ListReader_readKnown_123) hS (fun q _ h => hFc q h) hFc (fun u123 q123 tS H123 locs ht hvm hw123 hB hz1 hk1 hS => ?_)
            obtain ⟨x123, rfl⟩ : ∃ z, z = u123 := ⟨_, rfl⟩
            obtain ⟨hP1, hK1, hD1⟩ := hB
            rw [ht] at hP1
            obtain ⟨hP, hD⟩ := va_join (wr := []) (w1 := [(h, .inr (5, [.ref res, .int ie, .ref t, .int (nI x123.1), .int (nI x123.2.1), .int (wI x123.2.2), .int pa, .int ma, .int ex, .ref ki])), (t, .inl (cB, n, .inl (tx u))), (q123, .inr (0, [.ref t, .int (nI ((rd_iky u n x en).2.1)), .int (nI ((rd_iky u n x en).2.2))]))]) hP hD [0, 1] [] rfl rfl (by decide) (by decide) hk1 hFc hP1 hD1
            have hP : va_P (dC, dI) classes [(h, .inr (5, [.ref res, .int ie, .ref t, .int (nI x123.1), .int (nI x123.2.1), .int (wI x123.2.2), .int pa, .int ma, .int ex, .ref ki])), (t, .inl (cB, n, .inl (tx u))), (q123, .inr (0, [.ref t, .int (nI ((rd_iky u n x en).2.1)), .int (nI ((rd_iky u n x en).2.2))]))] H123 := hP
            have hD : va_D A [(h, .inr (5, [.ref res, .int ie, .ref t, .int (nI x123.1), .int (nI x123.2.1), .int (wI x123.2.2), .int pa, .int ma, .int ex, .ref ki])), (t, .inl (cB, n, .inl (tx u))), (q123, .inr (0, [.ref t, .int (nI ((rd_iky u n x en).2.1)), .int (nI ((rd_iky u n x en).2.2))]))] := hD
            have hi123 := iky_inv (u := u) hi (show en ≤ n by omega)
            obtain ⟨z123, hz123⟩ : ∃ o, o = rd_iky u n x en := ⟨_, rfl⟩
            rw [← hz123] at hw123 hi123 hP hD
            subst hw123
            have hb123 : z123.1.1 ≤ n := hi123.1.1
            have hc123 := hi123.2.1
            have hd123 := hi123.2.2
            have hP : va_P (dC, dI) classes [(h, .inr (5, [.ref res, .int ie, .ref t, .int (nI z123.1.1), .int (nI z123.1.2.1), .int (wI z123.1.2.2), .int pa, .int ma, .int ex, .ref ki])), (t, .inl (cB, n, .inl (tx u))), (q123, .inr (0, [.ref t, .int (nI z123.2.1), .int (nI z123.2.2)]))] H123 := hP
            have hD : va_D A [(h, .inr (5, [.ref res, .int ie, .ref t, .int (nI z123.1.1), .int (nI z123.1.2.1), .int (wI z123.1.2.2), .int pa, .int ma, .int ex, .ref ki])), (t, .inl (cB, n, .inl (tx u))), (q123, .inr (0, [.ref t, .int (nI z123.2.1), .int (nI z123.2.2)]))] := hD
            refine lv_pop hx hb d_ListReader_readKnown_126 rfl ?_
            refine lv_iconst (v := 1) hx hb d_ListReader_readKnown_127 (by decide) ?_
            have e9 : rd_knL u n ie kd x en = (z123.1, (1 : Int32)) := by
              subst hz123
              exact ((if_neg p4).trans ((if_neg p10).trans ((if_neg p61).trans ((if_pos p112).trans ((if_pos p118).trans rfl)))))
            refine W.widen (k := 1) (n := 3) (Nat.le_of_ble_eq_true rfl) (Nat.le_of_ble_eq_true rfl) ?_
            exact W.zret (v := 1) hx hb hr (bz_n (bz_t trivial)) (fun t ht hW => ⟨⟨_, z123.1, rfl, ⟨e9.symm, hi123.1⟩, by rw [ht]; exact hP.sub [0, 1] rfl, va_K.moved hW.alike hK, hD.sub [0, 1] (by decide) rfl⟩, hS.F ht⟩) hS.2.2 d_ListReader_readKnown_128
      · have p61 : ie = (0 : Int32) := c61
        refine lv_iload_n hx hb d_ListReader_readKnown_64 rfl (lv_at hl 1 rfl) ?_
        refine lv_bipush (v := 20) hx hb d_ListReader_readKnown_65 (by decide) ?_
        refine lv_icmp_ne (tgt := 108) hx hb d_ListReader_readKnown_67 (by decide) (fun c67 => ?_) (fun c67 => ?_)
        · have p67 : ¬ (kd = (20 : Int32)) := c67
          refine lv_aload_n hx hb d_ListReader_readKnown_108 rfl (lv_at hl 0 rfl) ?_
          refine va_get (v := .int ie) hx hb htb i_ListReader hown hK hP 0 rfl rfl 1 (by decide) (htb _ q5_77) (fun _ h9 => h9) rfl d_ListReader_readKnown_109 ?_
          refine lv_if_ne (tgt := 129) hx hb d_ListReader_readKnown_112 (by decide) (fun c112 => ?_) (fun c112 => ?_)
          · have p112 : ¬ (ie = (0 : Int32)) := c112
            refine lv_iconst (v := 0) hx hb d_ListReader_readKnown_129 (by decide) ?_
            have e9 : rd_knL u n ie kd x en = (x, (0 : Int32)) := by
              exact ((if_neg p4).trans ((if_neg p10).trans ((if_pos p61).trans ((if_neg p67).trans ((if_neg p112).trans rfl)))))
            refine W.widen (k := 1) (n := 3) (Nat.le_of_ble_eq_true rfl) (Nat.le_of_ble_eq_true rfl) ?_
            exact W.zret (v := 0) hx hb hr (bz_n (bz_f not_false)) (fun t ht hW => ⟨⟨_, x, rfl, ⟨e9.symm, hi⟩, by rw [ht]; exact hP, va_K.moved hW.alike hK, hD⟩, hS.F ht⟩) hS.2.2 d_ListReader_readKnown_130
          · have p112 : ie = (0 : Int32) := c112
            refine lv_iload_n hx hb d_ListReader_readKnown_115 rfl (lv_at hl 1 rfl) ?_
            refine lv_bipush (v := 35) hx hb d_ListReader_readKnown_116 (by decide) ?_
            refine lv_icmp_ne (tgt := 129) hx hb d_ListReader_readKnown_118 (by decide) (fun c118 => ?_) (fun c118 => ?_)
            · have p118 : ¬ (kd = (35 : Int32)) := c118
              refine lv_iconst (v := 0) hx hb d_ListReader_readKnown_129 (by decide) ?_
              have e9 : rd_knL u n ie kd x en = (x, (0 : Int32)) := by
                exact ((if_neg p4).trans ((if_neg p10).trans ((if_pos p61).trans ((if_neg p67).trans ((if_pos p112).trans ((if_neg p118).trans rfl))))))
              refine W.widen (k := 1) (n := 3) (Nat.le_of_ble_eq_true rfl) (Nat.le_of_ble_eq_true rfl) ?_
              exact W.zret (v := 0) hx hb hr (bz_n (bz_f not_false)) (fun t ht hW => ⟨⟨_, x, rfl, ⟨e9.symm, hi⟩, by rw [ht]; exact hP, va_K.moved hW.alike hK, hD⟩, hS.F ht⟩) hS.2.2 d_ListReader_readKnown_130
            · have p118 : kd = (35 : Int32) := c118
              refine lv_aload_n hx hb d_ListReader_readKnown_121 rfl (lv_at hl 0 rfl) ?_
              refine lv_iload_n hx hb d_ListReader_readKnown_122 rfl (lv_at hl 2 rfl) ?_
              have hFc := va_free (wc := [(h, .inr (5, [.ref res, .int ie, .ref t, .int (nI x.1), .int (nI x.2.1), .int (wI x.2.2), .int pa, .int ma, .int ex, .ref ki])), (t, .inl (cB, n, .inl (tx u)))]) hD hS hA [0, 1] rfl
              refine va_callr (mu_runU (As := [.int (nI en)]) (rest := []) ⟨hx, hb, hml, hown, hts⟩ (cL_issuerKey l dC dI sb h res t ki n x pa ma ex ie cB u en s.heap.size hu hn hi (by omega)) (cu_of (n := 1) hts tbin q4_201 q4_202 q4_184 q4_203 q1_15 q4_185 rfl (by decide +kernel) ⟨rfl, rfl⟩ ⟨Nat.le_of_ble_eq_true rfl, Nat.le_of_ble_eq_true rfl⟩) rfl ⟨Nat.le_of_ble_eq_true rfl, Nat.le_of_ble_eq_true rfl⟩ hN (hT0.keep hS hAs) hAs (Nat.le_trans hB0 hS.1) hK hP hD [0, 1] (by decide) rfl [0] rfl 0 5 rfl rfl rfl hl.1 rfl (Nat.le_of_ble_eq_true rfl) d_ListReader_readKnown_123) hS (fun q _ h => hFc q h) hFc (fun u123 q123 tS H123 locs ht hvm hw123 hB hz1 hk1 hS => ?_)
              obtain ⟨x123, rfl⟩ : ∃ z, z = u123 := ⟨_, rfl⟩
              obtain ⟨hP1, hK1, hD1⟩ := hB
              rw [ht] at hP1
              obtain ⟨hP, hD⟩ := va_join (wr := []) (w1 := [(h, .inr (5, [.ref res, .int ie, .ref t, .int (nI x123.1), .int (nI x123.2.1), .int (wI x123.2.2), .int pa, .int ma, .int ex, .ref ki])), (t, .inl (cB, n, .inl (tx u))), (q123, .inr (0, [.ref t, .int (nI ((rd_iky u n x en).2.1)), .int (nI ((rd_iky u n x en).2.2))]))]) hP hD [0, 1] [] rfl rfl (by decide) (by decide) hk1 hFc hP1 hD1
              have hP : va_P (dC, dI) classes [(h, .inr (5, [.ref res, .int ie, .ref t, .int (nI x123.1), .int (nI x123.2.1), .int (wI x123.2.2), .int pa, .int ma, .int ex, .ref ki])), (t, .inl (cB, n, .inl (tx u))), (q123, .inr (0, [.ref t, .int (nI ((rd_iky u n x en).2.1)), .int (nI ((rd_iky u n x en).2.2))]))] H123 := hP
              have hD : va_D A [(h, .inr (5, [.ref res, .int ie, .ref t, .int (nI x123.1), .int (nI x123.2.1), .int (wI x123.2.2), .int pa, .int ma, .int ex, .ref ki])), (t, .inl (cB, n, .inl (tx u))), (q123, .inr (0, [.ref t, .int (nI ((rd_iky u n x en).2.1)), .int (nI ((rd_iky u n x en).2.2))]))] := hD
              have hi123 := iky_inv (u := u) hi (show en ≤ n by omega)
              obtain ⟨z123, hz123⟩ : ∃ o, o = rd_iky u n x en := ⟨_, rfl⟩
              rw [← hz123] at hw123 hi123 hP hD
              subst hw123
              have hb123 : z123.1.1 ≤ n := hi123.1.1
              have hc123 := hi123.2.1
              have hd123 := hi123.2.2
              have hP : va_P (dC, dI) classes [(h, .inr (5, [.ref res, .int ie, .ref t, .int (nI z123.1.1), .int (nI z123.1.2.1), .int (wI z123.1.2.2), .int pa, .int ma, .int ex, .ref ki])), (t, .inl (cB, n, .inl (tx u))), (q123, .inr (0, [.ref t, .int (nI z123.2.1), .int (nI z123.2.2)]))] H123 := hP
              have hD : va_D A [(h, .inr (5, [.ref res, .int ie, .ref t, .int (nI z123.1.1), .int (nI z123.1.2.1), .int (wI z123.1.2.2), .int pa, .int ma, .int ex, .ref ki])), (t, .inl (cB, n, .inl (tx u))), (q123, .inr (0, [.ref t, .int (nI z123.2.1), .int (nI z123.2.2)]))] := hD
              refine lv_pop hx hb d_ListReader_readKnown_126 rfl ?_
              refine lv_iconst (v := 1) hx hb d_ListReader_readKnown_127 (by decide) ?_
              have e9 : rd_knL u n ie kd x en = (z123.1, (1 : Int32)) := by
                subst hz123
                exact ((if_neg p4).trans ((if_neg p10).trans ((if_pos p61).trans ((if_neg p67).trans ((if_pos p112).trans ((if_pos p118).trans rfl))))))
              refine W.widen (k := 1) (n := 3) (Nat.le_of_ble_eq_true rfl) (Nat.le_of_ble_eq_true rfl) ?_
              exact W.zret (v := 1) hx hb hr (bz_n (bz_t trivial)) (fun t ht hW => ⟨⟨_, z123.1, rfl, ⟨e9.symm, hi123.1⟩, by rw [ht]; exact hP.sub [0, 1] rfl, va_K.moved hW.alike hK, hD.sub [0, 1] (by decide) rfl⟩, hS.F ht⟩) hS.2.2 d_ListReader_readKnown_128
        · have p67 : kd = (20 : Int32) := c67
          refine lv_aload_n hx hb d_ListReader_readKnown_70 rfl (lv_at hl 0 rfl) ?_
          refine lv_iconst (v := 2) hx hb d_ListReader_readKnown_71 (by decide) ?_
          refine lv_iload_n hx hb d_ListReader_readKnown_72 rfl (lv_at hl 2 rfl) ?_
          have hFc := va_free (wc := [(h, .inr (5, [.ref res, .int ie, .ref t, .int (nI x.1), .int (nI x.2.1), .int (wI x.2.2), .int pa, .int ma, .int ex, .ref ki])), (t, .inl (cB, n, .inl (tx u)))]) hD hS hA [0, 1] rfl
          refine va_callr (mu_runU (As := [.int 2, .int (nI en)]) (rest := []) ⟨hx, hb, hml, hown, hts⟩ (cL_number l dC dI sb h res t ki n x pa ma ex ie cB u 2 en s.heap.size hu hn hi (by omega) (by decide)) (cu_of (n := 2) hts tbin q4_190 q4_191 q3_128 q4_192 q1_15 q3_129 rfl (by decide +kernel) ⟨rfl, rfl⟩ ⟨Nat.le_of_ble_eq_true rfl, Nat.le_of_ble_eq_true rfl⟩) rfl ⟨Nat.le_of_ble_eq_true rfl, Nat.le_of_ble_eq_true rfl⟩ hN (hT0.keep hS hAs) hAs (Nat.le_trans hB0 hS.1) hK hP hD [0, 1] (by decide) rfl [0] rfl 0 5 rfl rfl rfl hl.1 rfl (Nat.le_of_ble_eq_true rfl) d_ListReader_readKnown_73) hS (fun q _ h => hFc q h) hFc (fun u73 q73 tS H73 locs ht hvm hw73 hB hz1 hk1 hS => ?_)
          obtain ⟨x73, rfl⟩ : ∃ z, z = u73 := ⟨_, rfl⟩
          obtain ⟨hP1, hK1, hD1⟩ := hB
          rw [ht] at hP1
          obtain ⟨hP, hD⟩ := va_join (wr := []) (w1 := [(h, .inr (5, [.ref res, .int ie, .ref t, .int (nI x73.1), .int (nI x73.2.1), .int (wI x73.2.2), .int pa, .int ma, .int ex, .ref ki])), (t, .inl (cB, n, .inl (tx u))), (q73, .inr (0, [.ref t, .int (nI ((rd_nm u n x 2 en).2.1)), .int (nI ((rd_nm u n x 2 en).2.2))]))]) hP hD [0, 1] [] rfl rfl (by decide) (by decide) hk1 hFc hP1 hD1
          have hP : va_P (dC, dI) classes [(h, .inr (5, [.ref res, .int ie, .ref t, .int (nI x73.1), .int (nI x73.2.1), .int (wI x73.2.2), .int pa, .int ma, .int ex, .ref ki])), (t, .inl (cB, n, .inl (tx u))), (q73, .inr (0, [.ref t, .int (nI ((rd_nm u n x 2 en).2.1)), .int (nI ((rd_nm u n x 2 en).2.2))]))] H73 := hP
          have hD : va_D A [(h, .inr (5, [.ref res, .int ie, .ref t, .int (nI x73.1), .int (nI x73.2.1), .int (wI x73.2.2), .int pa, .int ma, .int ex, .ref ki])), (t, .inl (cB, n, .inl (tx u))), (q73, .inr (0, [.ref t, .int (nI ((rd_nm u n x 2 en).2.1)), .int (nI ((rd_nm u n x 2 en).2.2))]))] := hD
          have hi73 := nm_inv (u := u) (tg := 2) hi (show en ≤ n by omega)
          obtain ⟨z73, hz73⟩ : ∃ o, o = rd_nm u n x 2 en := ⟨_, rfl⟩
          rw [← hz73] at hw73 hi73 hP hD
          subst hw73
          have hb73 : z73.1.1 ≤ n := hi73.1.1
          have hc73 := hi73.2.1
          have hd73 := hi73.2.2
          have hP : va_P (dC, dI) classes [(h, .inr (5, [.ref res, .int ie, .ref t, .int (nI z73.1.1), .int (nI z73.1.2.1), .int (wI z73.1.2.2), .int pa, .int ma, .int ex, .ref ki])), (t, .inl (cB, n, .inl (tx u))), (q73, .inr (0, [.ref t, .int (nI z73.2.1), .int (nI z73.2.2)]))] H73 := hP
          have hD : va_D A [(h, .inr (5, [.ref res, .int ie, .ref t, .int (nI z73.1.1), .int (nI z73.1.2.1), .int (wI z73.1.2.2), .int pa, .int ma, .int ex, .ref ki])), (t, .inl (cB, n, .inl (tx u))), (q73, .inr (0, [.ref t, .int (nI z73.2.1), .int (nI z73.2.2)]))] := hD
          refine lv_astore_n (lv' := [(3, .ref q73), (0, .ref h), (1, .int kd), (2, .int (nI en))]) hx hb d_ListReader_readKnown_76 rfl hl (by decide) rfl (fun ls hl => ?_)
          refine lv_aload_n hx hb d_ListReader_readKnown_77 rfl (lv_at hl 1 rfl) ?_
          refine lv_aload_n hx hb d_ListReader_readKnown_78 rfl (lv_at hl 0 rfl) ?_
          refine lv_iconst (v := 0) hx hb d_ListReader_readKnown_79 (by decide) ?_
          refine vp_callSi (pu_callV (As := [.int 0]) (rest := [.ref h]) ⟨hx, hb, hml, hown, hts⟩ tbin (c_Slice_at l dC dI sb q73 t z73.2.1 z73.2.2 n cB u 0 hu (by omega) (by omega) (by omega)) q4_199 q3_149 q3_150 q1_22 q3_151 (n := 1) (by decide +kernel) rfl ⟨rfl, rfl⟩ ⟨Nat.le_of_ble_eq_true rfl, Nat.le_of_ble_eq_true rfl⟩ ⟨Nat.le_of_ble_eq_true rfl, Nat.le_of_ble_eq_true rfl⟩ hN (hT0.keep hS hAs) hK hP [2, 1] rfl [0] rfl 2 0 rfl rfl rfl hl.1 rfl (Nat.le_of_ble_eq_true rfl) d_ListReader_readKnown_80) (fun r80 hr80 => ?_)
          subst hr80
          refine lv_sipush (v := 128) hx hb d_ListReader_readKnown_83 (by decide) ?_
          refine w_join (J := fun v9 => v9 = zP (¬ ((128 : Int32) ≤ (sl_at u z73.2.1 z73.2.2 (0 : Int32))) ∧ (¬ (20 < (z73.2.2 - z73.2.1))))) (pc := 103) (ls := ls) (rest := [.ref h]) (fun v9 hv9 => ?_) (fun k103 => ?_)
          · subst hv9
            have hFc := va_free (wc := [(h, .inr (5, [.ref res, .int ie, .ref t, .int (nI z73.1.1), .int (nI z73.1.2.1), .int (wI z73.1.2.2), .int pa, .int ma, .int ex, .ref ki]))]) hD hS hA [0] rfl
            refine va_callv (mu_runU (As := [.int (zP (¬ ((128 : Int32) ≤ (sl_at u z73.2.1 z73.2.2 (0 : Int32))) ∧ (¬ (20 < (z73.2.2 - z73.2.1)))))]) (rest := []) ⟨hx, hb, hml, hown, hts⟩ (cL_require l dC dI sb h res t ki z73.1.1 z73.1.2.1 n z73.1.2.2 pa ma ex ie cB u (zP (¬ ((128 : Int32) ≤ (sl_at u z73.2.1 z73.2.2 (0 : Int32))) ∧ (¬ (20 < (z73.2.2 - z73.2.1))))) H73.size ((hi73.1).w hn)) (cu_of (n := 1) hts tbin q4_196 q4_197 q3_157 q4_198 q1_15 q3_158 rfl (by decide +kernel) ⟨rfl, rfl⟩ ⟨Nat.le_of_ble_eq_true rfl, Nat.le_of_ble_eq_true rfl⟩) rfl ⟨Nat.le_of_ble_eq_true rfl, Nat.le_of_ble_eq_true rfl⟩ hN (hT0.keep hS hAs) hAs (Nat.le_trans hB0 hS.1) hK hP hD [0] (by decide) rfl [] rfl 0 5 rfl rfl rfl hl.1 rfl (Nat.le_of_ble_eq_true rfl) d_ListReader_readKnown_103) hS (fun q _ h => hFc q h) hFc (fun u103 tS H103 locs ht hvm hw103 hB hz1 hk1 hS => ?_)
            obtain ⟨z103, rfl⟩ : ∃ z, z = u103 := ⟨_, rfl⟩
            obtain ⟨hP1, hK1, hD1⟩ := hB
            rw [ht] at hP1
            obtain ⟨hP, hD⟩ := va_join (wr := [(t, .inl (cB, n, .inl (tx u))), (q73, .inr (0, [.ref t, .int (nI z73.2.1), .int (nI z73.2.2)]))]) (w1 := [(h, .inr (5, [.ref res, .int ie, .ref t, .int (nI z103.1), .int (nI z103.2.1), .int (wI z103.2.2), .int pa, .int ma, .int ex, .ref ki]))]) hP hD [0] [1, 2] rfl rfl (by decide) (by decide) hk1 hFc hP1 hD1
            have hP : va_P (dC, dI) classes [(t, .inl (cB, n, .inl (tx u))), (q73, .inr (0, [.ref t, .int (nI z73.2.1), .int (nI z73.2.2)])), (h, .inr (5, [.ref res, .int ie, .ref t, .int (nI z103.1), .int (nI z103.2.1), .int (wI z103.2.2), .int pa, .int ma, .int ex, .ref ki]))] H103 := hP
            have hD : va_D A [(t, .inl (cB, n, .inl (tx u))), (q73, .inr (0, [.ref t, .int (nI z73.2.1), .int (nI z73.2.2)])), (h, .inr (5, [.ref res, .int ie, .ref t, .int (nI z103.1), .int (nI z103.2.1), .int (wI z103.2.2), .int pa, .int ma, .int ex, .ref ki]))] := hD
            have hz103 : z103 = rd_req z73.1 (zP (¬ ((128 : Int32) ≤ (sl_at u z73.2.1 z73.2.2 (0 : Int32))) ∧ (¬ (20 < (z73.2.2 - z73.2.1))))) := hw103
            have hi103 : rdInv n z103 := by rw [hz103]; exact req_inv hi73.1
            have hb103 : z103.1 ≤ n := hi103.1
            refine lv_iconst (v := 1) hx hb d_ListReader_readKnown_106 (by decide) ?_
            have e9 : rd_knL u n ie kd x en = (z103, (1 : Int32)) := by
              subst hz103
              subst hz73
              exact ((if_neg p4).trans ((if_neg p10).trans ((if_pos p61).trans ((if_pos p67).trans rfl))))
            refine W.widen (k := 1) (n := 3) (Nat.le_of_ble_eq_true rfl) (Nat.le_of_ble_eq_true rfl) ?_
            exact W.zret (v := 1) hx hb hr (bz_n (bz_t trivial)) (fun t ht hW => ⟨⟨_, z103, rfl, ⟨e9.symm, hi103⟩, by rw [ht]; exact hP.sub [2, 0] rfl, va_K.moved hW.alike hK, hD.sub [2, 0] (by decide) rfl⟩, hS.F ht⟩) hS.2.2 d_ListReader_readKnown_107
          · skip
            refine lv_icmp_ge (tgt := 102) hx hb d_ListReader_readKnown_86 (by decide) (fun c86 => ?_) (fun c86 => ?_)
            · have p86 : (128 : Int32) ≤ (sl_at u z73.2.1 z73.2.2 (0 : Int32)) := c86
              refine lv_iconst (v := 0) hx hb d_ListReader_readKnown_102 (by decide) ?_
              exact k103 _ (zP_f (fun z => z.1 p86))
            · have p86 : ¬ ((128 : Int32) ≤ (sl_at u z73.2.1 z73.2.2 (0 : Int32))) := c86
              refine lv_aload_n hx hb d_ListReader_readKnown_89 rfl (lv_at hl 0 rfl) ?_
              refine vp_callSi (pu_callV (As := []) (rest := [.ref h]) ⟨hx, hb, hml, hown, hts⟩ tbin (c_Slice_length l dC dI sb q73 t z73.2.1 z73.2.2 (by omega)) q4_200 q3_144 q3_145 q1_22 q3_146 (n := 0) (by decide +kernel) rfl ⟨rfl, rfl⟩ ⟨Nat.le_of_ble_eq_true rfl, Nat.le_of_ble_eq_true rfl⟩ ⟨Nat.le_of_ble_eq_true rfl, Nat.le_of_ble_eq_true rfl⟩ hN (hT0.keep hS hAs) hK hP [2] rfl [] rfl 2 0 rfl rfl rfl hl.1 rfl (Nat.le_of_ble_eq_true rfl) d_ListReader_readKnown_90) (fun r90 hr90 => ?_)
              subst hr90
              refine lv_bipush (v := 20) hx hb d_ListReader_readKnown_93 (by decide) ?_
              refine lv_icmp_gt (tgt := 102) hx hb d_ListReader_readKnown_95 (by decide) (fun c95 => ?_) (fun c95 => ?_)
              · have p95 : 20 < (z73.2.2 - z73.2.1) := ((nI_ltI (a := 20) (b := (z73.2.2 - z73.2.1)) (by omega) (by omega)).mp c95)
                refine lv_iconst (v := 0) hx hb d_ListReader_readKnown_102 (by decide) ?_
                exact k103 _ (zP_f (fun z => (fun z => z p95) z.2))
              · have p95 : ¬ (20 < (z73.2.2 - z73.2.1)) := (fun q9 => c95 ((nI_ltI (a := 20) (b := (z73.2.2 - z73.2.1)) (by omega) (by omega)).mpr q9))
                refine lv_iconst (v := 1) hx hb d_ListReader_readKnown_98 (by decide) ?_
                refine lv_goto (tgt := 103) hx hb d_ListReader_readKnown_99 (by decide) ?_
                exact k103 _ (zP_t ⟨p86, p95⟩)
    · have p10 : kd = (21 : Int32) := c10
      refine lv_aload_n hx hb d_ListReader_readKnown_13 rfl (lv_at hl 0 rfl) ?_
      refine lv_bipush (v := 10) hx hb d_ListReader_readKnown_14 (by decide) ?_
      refine lv_iload_n hx hb d_ListReader_readKnown_16 rfl (lv_at hl 2 rfl) ?_
      have hFc := va_free (wc := [(h, .inr (5, [.ref res, .int ie, .ref t, .int (nI x.1), .int (nI x.2.1), .int (wI x.2.2), .int pa, .int ma, .int ex, .ref ki])), (t, .inl (cB, n, .inl (tx u)))]) hD hS hA [0, 1] rfl
      refine va_callr (mu_runU (As := [.int 10, .int (nI en)]) (rest := []) ⟨hx, hb, hml, hown, hts⟩ (cL_number l dC dI sb h res t ki n x pa ma ex ie cB u 10 en s.heap.size hu hn hi (by omega) (by decide)) (cu_of (n := 2) hts tbin q4_190 q4_191 q3_128 q4_192 q1_15 q3_129 rfl (by decide +kernel) ⟨rfl, rfl⟩ ⟨Nat.le_of_ble_eq_true rfl, Nat.le_of_ble_eq_true rfl⟩) rfl ⟨Nat.le_of_ble_eq_true rfl, Nat.le_of_ble_eq_true rfl⟩ hN (hT0.keep hS hAs) hAs (Nat.le_trans hB0 hS.1) hK hP hD [0, 1] (by decide) rfl [0] rfl 0 5 rfl rfl rfl hl.1 rfl (Nat.le_of_ble_eq_true rfl) d_ListReader_readKnown_17) hS (fun q _ h => hFc q h) hFc (fun u17 q17 tS H17 locs ht hvm hw17 hB hz1 hk1 hS => ?_)
      obtain ⟨x17, rfl⟩ : ∃ z, z = u17 := ⟨_, rfl⟩
      obtain ⟨hP1, hK1, hD1⟩ := hB
      rw [ht] at hP1
      obtain ⟨hP, hD⟩ := va_join (wr := []) (w1 := [(h, .inr (5, [.ref res, .int ie, .ref t, .int (nI x17.1), .int (nI x17.2.1), .int (wI x17.2.2), .int pa, .int ma, .int ex, .ref ki])), (t, .inl (cB, n, .inl (tx u))), (q17, .inr (0, [.ref t, .int (nI ((rd_nm u n x 10 en).2.1)), .int (nI ((rd_nm u n x 10 en).2.2))]))]) hP hD [0, 1] [] rfl rfl (by decide) (by decide) hk1 hFc hP1 hD1
      have hP : va_P (dC, dI) classes [(h, .inr (5, [.ref res, .int ie, .ref t, .int (nI x17.1), .int (nI x17.2.1), .int (wI x17.2.2), .int pa, .int ma, .int ex, .ref ki])), (t, .inl (cB, n, .inl (tx u))), (q17, .inr (0, [.ref t, .int (nI ((rd_nm u n x 10 en).2.1)), .int (nI ((rd_nm u n x 10 en).2.2))]))] H17 := hP
      have hD : va_D A [(h, .inr (5, [.ref res, .int ie, .ref t, .int (nI x17.1), .int (nI x17.2.1), .int (wI x17.2.2), .int pa, .int ma, .int ex, .ref ki])), (t, .inl (cB, n, .inl (tx u))), (q17, .inr (0, [.ref t, .int (nI ((rd_nm u n x 10 en).2.1)), .int (nI ((rd_nm u n x 10 en).2.2))]))] := hD
      have hi17 := nm_inv (u := u) (tg := 10) hi (show en ≤ n by omega)
      obtain ⟨z17, hz17⟩ : ∃ o, o = rd_nm u n x 10 en := ⟨_, rfl⟩
      rw [← hz17] at hw17 hi17 hP hD
      subst hw17
      have hb17 : z17.1.1 ≤ n := hi17.1.1
      have hc17 := hi17.2.1
      have hd17 := hi17.2.2
      have hP : va_P (dC, dI) classes [(h, .inr (5, [.ref res, .int ie, .ref t, .int (nI z17.1.1), .int (nI z17.1.2.1), .int (wI z17.1.2.2), .int pa, .int ma, .int ex, .ref ki])), (t, .inl (cB, n, .inl (tx u))), (q17, .inr (0, [.ref t, .int (nI z17.2.1), .int (nI z17.2.2)]))] H17 := hP
      have hD : va_D A [(h, .inr (5, [.ref res, .int ie, .ref t, .int (nI z17.1.1), .int (nI z17.1.2.1), .int (wI z17.1.2.2), .int pa, .int ma, .int ex, .ref ki])), (t, .inl (cB, n, .inl (tx u))), (q17, .inr (0, [.ref t, .int (nI z17.2.1), .int (nI z17.2.2)]))] := hD
      refine vp_callSl (pu_callV (As := []) (rest := []) ⟨hx, hb, hml, hown, hts⟩ tbin (c_Slice_number l dC dI sb q17 t z17.2.1 z17.2.2 n cB u hu (by omega) (by omega) (by omega)) q4_193 q3_140 q3_141 q1_22 q3_142 (n := 0) (by decide +kernel) rfl ⟨rfl, rfl⟩ ⟨Nat.le_of_ble_eq_true rfl, Nat.le_of_ble_eq_true rfl⟩ ⟨Nat.le_of_ble_eq_true rfl, Nat.le_of_ble_eq_true rfl⟩ hN (hT0.keep hS hAs) hK hP [2, 1] rfl [0] rfl 2 0 rfl rfl rfl hl.1 rfl (Nat.le_of_ble_eq_true rfl) d_ListReader_readKnown_20) (fun r20 hr20 => ?_)
      subst hr20
      refine lv_lstore_n (lv' := [(3, .long (sl_num u z17.2.1 z17.2.2)), (0, .ref h), (1, .int kd), (2, .int (nI en))]) hx hb d_ListReader_readKnown_23 rfl hl (by decide) rfl (fun ls hl => ?_)
      refine lv_aload_n hx hb d_ListReader_readKnown_24 rfl (lv_at hl 1 rfl) ?_
      refine lv_lload_n hx hb d_ListReader_readKnown_25 rfl (lv_at hl 0 rfl) ?_
      refine lv_lconst (v := 0) hx hb d_ListReader_readKnown_26 (by decide) ?_
      refine W.lcmp hx hb d_ListReader_readKnown_27 ?_
      refine w_join (J := fun v9 => v9 = zP (¬ ((lg_cmp (sl_num u z17.2.1 z17.2.2) 0) < (0 : Int32)) ∧ (¬ ((0 : Int32) < (lg_cmp (sl_num u z17.2.1 z17.2.2) 10)) ∧ (¬ ((lg_cmp (sl_num u z17.2.1 z17.2.2) 7) = (0 : Int32)))))) (pc := 52) (ls := ls) (rest := [.ref h]) (fun v9 hv9 => ?_) (fun k52 => ?_)
      · subst hv9
        have hFc := va_free (wc := [(h, .inr (5, [.ref res, .int ie, .ref t, .int (nI z17.1.1), .int (nI z17.1.2.1), .int (wI z17.1.2.2), .int pa, .int ma, .int ex, .ref ki]))]) hD hS hA [0] rfl
        refine va_callv (mu_runU (As := [.int (zP (¬ ((lg_cmp (sl_num u z17.2.1 z17.2.2) 0) < (0 : Int32)) ∧ (¬ ((0 : Int32) < (lg_cmp (sl_num u z17.2.1 z17.2.2) 10)) ∧ (¬ ((lg_cmp (sl_num u z17.2.1 z17.2.2) 7) = (0 : Int32))))))]) (rest := []) ⟨hx, hb, hml, hown, hts⟩ (cL_require l dC dI sb h res t ki z17.1.1 z17.1.2.1 n z17.1.2.2 pa ma ex ie cB u (zP (¬ ((lg_cmp (sl_num u z17.2.1 z17.2.2) 0) < (0 : Int32)) ∧ (¬ ((0 : Int32) < (lg_cmp (sl_num u z17.2.1 z17.2.2) 10)) ∧ (¬ ((lg_cmp (sl_num u z17.2.1 z17.2.2) 7) = (0 : Int32)))))) H17.size ((hi17.1).w hn)) (cu_of (n := 1) hts tbin q4_196 q4_197 q3_157 q4_198 q1_15 q3_158 rfl (by decide +kernel) ⟨rfl, rfl⟩ ⟨Nat.le_of_ble_eq_true rfl, Nat.le_of_ble_eq_true rfl⟩) rfl ⟨Nat.le_of_ble_eq_true rfl, Nat.le_of_ble_eq_true rfl⟩ hN (hT0.keep hS hAs) hAs (Nat.le_trans hB0 hS.1) hK hP hD [0] (by decide) rfl [] rfl 0 5 rfl rfl rfl hl.1 rfl (Nat.le_of_ble_eq_true rfl) d_ListReader_readKnown_52) hS (fun q _ h => hFc q h) hFc (fun u52 tS H52 locs ht hvm hw52 hB hz1 hk1 hS => ?_)
        obtain ⟨z52, rfl⟩ : ∃ z, z = u52 := ⟨_, rfl⟩
        obtain ⟨hP1, hK1, hD1⟩ := hB
        rw [ht] at hP1
        obtain ⟨hP, hD⟩ := va_join (wr := [(t, .inl (cB, n, .inl (tx u))), (q17, .inr (0, [.ref t, .int (nI z17.2.1), .int (nI z17.2.2)]))]) (w1 := [(h, .inr (5, [.ref res, .int ie, .ref t, .int (nI z52.1), .int (nI z52.2.1), .int (wI z52.2.2), .int pa, .int ma, .int ex, .ref ki]))]) hP hD [0] [1, 2] rfl rfl (by decide) (by decide) hk1 hFc hP1 hD1
        have hP : va_P (dC, dI) classes [(t, .inl (cB, n, .inl (tx u))), (q17, .inr (0, [.ref t, .int (nI z17.2.1), .int (nI z17.2.2)])), (h, .inr (5, [.ref res, .int ie, .ref t, .int (nI z52.1), .int (nI z52.2.1), .int (wI z52.2.2), .int pa, .int ma, .int ex, .ref ki]))] H52 := hP
        have hD : va_D A [(t, .inl (cB, n, .inl (tx u))), (q17, .inr (0, [.ref t, .int (nI z17.2.1), .int (nI z17.2.2)])), (h, .inr (5, [.ref res, .int ie, .ref t, .int (nI z52.1), .int (nI z52.2.1), .int (wI z52.2.2), .int pa, .int ma, .int ex, .ref ki]))] := hD
        have hz52 : z52 = rd_req z17.1 (zP (¬ ((lg_cmp (sl_num u z17.2.1 z17.2.2) 0) < (0 : Int32)) ∧ (¬ ((0 : Int32) < (lg_cmp (sl_num u z17.2.1 z17.2.2) 10)) ∧ (¬ ((lg_cmp (sl_num u z17.2.1 z17.2.2) 7) = (0 : Int32)))))) := hw52
        have hi52 : rdInv n z52 := by rw [hz52]; exact req_inv hi17.1
        have hb52 : z52.1 ≤ n := hi52.1
        refine lv_iconst (v := 1) hx hb d_ListReader_readKnown_55 (by decide) ?_
        have e9 : rd_knL u n ie kd x en = (z52, (1 : Int32)) := by
          subst hz52
          subst hz17
          exact ((if_neg p4).trans ((if_pos p10).trans rfl))
        refine W.widen (k := 1) (n := 3) (Nat.le_of_ble_eq_true rfl) (Nat.le_of_ble_eq_true rfl) ?_
        exact W.zret (v := 1) hx hb hr (bz_n (bz_t trivial)) (fun t ht hW => ⟨⟨_, z52, rfl, ⟨e9.symm, hi52⟩, by rw [ht]; exact hP.sub [2, 0] rfl, va_K.moved hW.alike hK, hD.sub [2, 0] (by decide) rfl⟩, hS.F ht⟩) hS.2.2 d_ListReader_readKnown_56
      · skip
        refine lv_if_lt (tgt := 51) hx hb d_ListReader_readKnown_28 (by decide) (fun c28 => ?_) (fun c28 => ?_)
        · have p28 : (lg_cmp (sl_num u z17.2.1 z17.2.2) 0) < (0 : Int32) := c28
          refine lv_iconst (v := 0) hx hb d_ListReader_readKnown_51 (by decide) ?_
          exact k52 _ (zP_f (fun z => z.1 p28))
        · have p28 : ¬ ((lg_cmp (sl_num u z17.2.1 z17.2.2) 0) < (0 : Int32)) := c28
          refine lv_lload_n hx hb d_ListReader_readKnown_31 rfl (lv_at hl 0 rfl) ?_
          refine lv_ldc2 (v := 10) hx hb hown (htb _ q4_194) d_ListReader_readKnown_32 ?_
          refine W.lcmp hx hb d_ListReader_readKnown_35 ?_
          refine lv_if_gt (tgt := 51) hx hb d_ListReader_readKnown_36 (by decide) (fun c36 => ?_) (fun c36 => ?_)
          · have p36 : (0 : Int32) < (lg_cmp (sl_num u z17.2.1 z17.2.2) 10) := c36
            refine lv_iconst (v := 0) hx hb d_ListReader_readKnown_51 (by decide) ?_
            exact k52 _ (zP_f (fun z => (fun z => z.1 p36) z.2))
          · have p36 : ¬ ((0 : Int32) < (lg_cmp (sl_num u z17.2.1 z17.2.2) 10)) := c36
            refine lv_lload_n hx hb d_ListReader_readKnown_39 rfl (lv_at hl 0 rfl) ?_
            refine lv_ldc2 (v := 7) hx hb hown (htb _ q4_195) d_ListReader_readKnown_40 ?_
            refine W.lcmp hx hb d_ListReader_readKnown_43 ?_
            refine lv_if_eq (tgt := 51) hx hb d_ListReader_readKnown_44 (by decide) (fun c44 => ?_) (fun c44 => ?_)
            · have p44 : (lg_cmp (sl_num u z17.2.1 z17.2.2) 7) = (0 : Int32) := c44
              refine lv_iconst (v := 0) hx hb d_ListReader_readKnown_51 (by decide) ?_
              exact k52 _ (zP_f (fun z => (fun z => (fun z => z p44) z.2) z.2))
            · have p44 : ¬ ((lg_cmp (sl_num u z17.2.1 z17.2.2) 7) = (0 : Int32)) := c44
              refine lv_iconst (v := 1) hx hb d_ListReader_readKnown_47 (by decide) ?_
              refine lv_goto (tgt := 52) hx hb d_ListReader_readKnown_48 (by decide) ?_
              exact k52 _ (zP_t ⟨p28, ⟨p36, p44⟩⟩)
