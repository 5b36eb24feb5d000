/-! TrustChain's private helpers return. -/
def y_Trust_takeHost : MethodName := ⟨"TrustChain", "takeHost", "(IJ)V"⟩
abbrev b_Trust_takeHost : ByteArray := prog_1_method_16_code
def w_Trust_takeHost : List Cond := Cond.code y_Trust_takeHost b_Trust_takeHost 5 (none) :: tb
theorem d_Trust_takeHost_0 : decode b_Trust_takeHost 0 = .ok (.iconst 0, 1) := by decide +kernel
theorem d_Trust_takeHost_1 : decode b_Trust_takeHost 1 = .ok (.istore 4, 2) := by decide +kernel
theorem d_Trust_takeHost_3 : decode b_Trust_takeHost 3 = .ok (.iload 4, 2) := by decide +kernel
theorem d_Trust_takeHost_5 : decode b_Trust_takeHost 5 = .ok (.bipush 8, 2) := by decide +kernel
theorem d_Trust_takeHost_7 : decode b_Trust_takeHost 7 = .ok (.if_icmp .ge 39, 3) := by decide +kernel
theorem d_Trust_takeHost_10 : decode b_Trust_takeHost 10 = .ok (.iload_n 1, 1) := by decide +kernel
theorem d_Trust_takeHost_11 : decode b_Trust_takeHost 11 = .ok (.iload 4, 2) := by decide +kernel
theorem d_Trust_takeHost_13 : decode b_Trust_takeHost 13 = .ok (.iadd, 1) := by decide +kernel
theorem d_Trust_takeHost_14 : decode b_Trust_takeHost 14 = .ok (.bipush 32, 2) := by decide +kernel
theorem d_Trust_takeHost_16 : decode b_Trust_takeHost 16 = .ok (.if_icmp .ge 30, 3) := by decide +kernel
theorem d_Trust_takeHost_19 : decode b_Trust_takeHost 19 = .ok (.aload_n 0, 1) := by decide +kernel
theorem d_Trust_takeHost_20 : decode b_Trust_takeHost 20 = .ok (.getfield 13, 3) := by decide +kernel
theorem d_Trust_takeHost_23 : decode b_Trust_takeHost 23 = .ok (.iload_n 1, 1) := by decide +kernel
theorem d_Trust_takeHost_24 : decode b_Trust_takeHost 24 = .ok (.iload 4, 2) := by decide +kernel
theorem d_Trust_takeHost_26 : decode b_Trust_takeHost 26 = .ok (.iadd, 1) := by decide +kernel
theorem d_Trust_takeHost_27 : decode b_Trust_takeHost 27 = .ok (.lload_n 2, 1) := by decide +kernel
theorem d_Trust_takeHost_28 : decode b_Trust_takeHost 28 = .ok (.bipush 56, 2) := by decide +kernel
theorem d_Trust_takeHost_30 : decode b_Trust_takeHost 30 = .ok (.bipush 8, 2) := by decide +kernel
theorem d_Trust_takeHost_32 : decode b_Trust_takeHost 32 = .ok (.iload 4, 2) := by decide +kernel
theorem d_Trust_takeHost_34 : decode b_Trust_takeHost 34 = .ok (.imul, 1) := by decide +kernel
theorem d_Trust_takeHost_35 : decode b_Trust_takeHost 35 = .ok (.isub, 1) := by decide +kernel
theorem d_Trust_takeHost_36 : decode b_Trust_takeHost 36 = .ok (.lushr, 1) := by decide +kernel
theorem d_Trust_takeHost_37 : decode b_Trust_takeHost 37 = .ok (.l2i, 1) := by decide +kernel
theorem d_Trust_takeHost_38 : decode b_Trust_takeHost 38 = .ok (.i2b, 1) := by decide +kernel
theorem d_Trust_takeHost_39 : decode b_Trust_takeHost 39 = .ok (.bastore, 1) := by decide +kernel
theorem d_Trust_takeHost_40 : decode b_Trust_takeHost 40 = .ok (.iinc 4 1, 3) := by decide +kernel
theorem d_Trust_takeHost_43 : decode b_Trust_takeHost 43 = .ok (.goto (-40), 3) := by decide +kernel
theorem d_Trust_takeHost_46 : decode b_Trust_takeHost 46 = .ok (.return_, 1) := by decide +kernel
set_option maxHeartbeats 4000000 in
set_option maxRecDepth 100000 in
theorem m_Trust_takeHost (l : Launch) (dC : Nat → ClassId) (dI : Nat → Nat → Nat) (sb : sB) (γ : cG) (κ : kE) (Ad : List Nat) (ν : Nat → cN) (ω : Nat → List Nat) (L : Nat) (G : va_W) (q0 : Nat) (fe ho ce li sh rs se ch fo : Nat) (foS chS faP feS wrP : Int32) (b9 : Nat) (x9 : Int64) (sz : Nat) (hTy : TY γ κ Ad ν ω L G) (kq0 : Xc Ad q0 (.inr (10, [.ref fe, .ref ho, .ref ce, .ref li, .ref sh, .ref rs, .ref se, .ref ch, .ref fo, .int foS, .int chS, .int faP, .int feS, .int wrP])) G) (kho : tK κ Ad ho (1, 32, 0)) (hb9 : b9 ≤ 24) : Met l y_Trust_takeHost w_Trust_takeHost ({ frames := 0, cells := 0, slots := 0, locals := 0 }) (mu_P [.ref q0, .int (nI b9), .long x9] (dC, dI) sb G [(γ.1, .byte), (γ.2.1, .int), (γ.2.2.1, .long), (γ.2.2.2, .object "java/lang/Object")] sz) (va_Qv (fun (G' : va_W) => TY γ κ Ad ν ω L G' ∧ FR Ad G G' ∧ (True)) (mu_B (dC, dI) [(γ.1, .byte), (γ.2.1, .int), (γ.2.2.1, .long), (γ.2.2.2, .object "java/lang/Object")] (va_A G sz) (fun G' : va_W => G')) (va_A G sz)) 0 0 (va_A G sz) := by
  refine Met.ofW (cc := b_Trust_takeHost) (maxL := 5) (ret := none) (by decide) rfl ?_
  intro p e s m args below meth c s₁ B hml hv
  obtain ⟨rfl, hsz, hB0, hP, hK, hD0, hN, hT0⟩ := hv
  have hx := B.exec
  have hb := B.bytes
  have hr := B.returns
  have hts := atoms_spec (ws := w_Trust_takeHost) B.pre
  have tbin : ∀ w ∈ tb, w ∈ w_Trust_takeHost := fun w h => List.mem_cons_of_mem _ h
  have htb : ∀ w ∈ tb, w.before _ s = true := fun w h => hts w (tbin w h)
  have hown : s.vm.findClass "TrustChain" = some m.cls := findClass_of_methodNamed B.named
  have hlocks := B.notSynchronized
  subst hsz
  have hD := hD0.self (sz := s.heap.size)
  generalize hAe : va_A G s.heap.size = A at hD ⊢
  have hA : ∀ q : Nat, s.heap.size ≤ q → A q := fun q h => by rw [← hAe]; exact Or.inr h
  have hAs : ∀ q : Nat, A q → sb.1 ≤ q := fun q h => by
    rw [← hAe] at h
    rcases h with ⟨k, e, h⟩ | h
    · exact hD0.2 k _ h
    · exact Nat.le_trans hB0 h
  have hS : va_S A s.heap s.heap [] := va_S.rf
  have hFR := FR.rf Ad G
  have hcs : 0 ≤ (headSpec w_Trust_takeHost ({ frames := 0, cells := 0, slots := 0, locals := 0 })).room.cells ∧ 0 ≤ (headSpec w_Trust_takeHost ({ frames := 0, cells := 0, slots := 0, locals := 0 })).room.slots := ⟨Nat.le_refl _, Nat.le_refl _⟩
  have hP : va_P (dC, dI) classes G s.heap := hP
  have hl := lv_entry ([.ref q0, .int (nI b9), .long x9]) (n := 5) (Nat.le_of_ble_eq_true rfl)
  rw [lg_entry_eq]
  generalize (lg_sl ([.ref q0, .int (nI b9), .long x9]) ++ List.replicate (5 - (lg_sl ([.ref q0, .int (nI b9), .long x9])).length) Slot.unset).toArray = ls at hl ⊢
  have hl : lv_has ls 5 [(0, .ref q0), (1, .int (nI b9)), (2, .long x9)] := hl
  have kq0_0 := kq0
  refine lv_iconst (v := 0) hx hb d_Trust_takeHost_0 (by decide) ?_
  refine lv_istore (lv' := [(4, .int 0), (0, .ref q0), (1, .int (nI b9)), (2, .long x9)]) hx hb d_Trust_takeHost_1 hl (by decide) rfl (fun ls hl => ?_)
  refine w_loopW (α := Nat × va_W) (fun a9 => a9.1 ≤ 8 ∧ TY γ κ Ad ν ω L a9.2 ∧ FR Ad G a9.2) (fun a9 => 8 - a9.1) (fun a9 => [(4, .int (nI a9.1)), (0, .ref q0), (1, .int (nI b9)), (2, .long x9)]) (fun _ => []) (fun a9 => a9.2) 5 3 (fun a9 HL3 locs ls hJ hP hD hS hl ih3 => ?_) (0, G) _ _ ls ⟨by omega, hTy, hFR⟩ hP hD hS (lv_sub hl [0, 1, 2, 3] rfl)
  obtain ⟨z3, G3⟩ := a9
  obtain ⟨hz3, hTy, hFR⟩ := hJ
  dsimp only at hz3 hTy hFR hP hD hl ih3
  have kq0 := kq0_0.fr hFR
  refine lv_iload hx hb d_Trust_takeHost_3 (lv_at hl 0 rfl) ?_
  refine lv_bipush (v := 8) hx hb d_Trust_takeHost_5 (by decide) ?_
  refine lv_icmp_ge (tgt := 46) hx hb d_Trust_takeHost_7 (by decide) (fun c7 => ?_) (fun c7 => ?_)
  · have p7 : 8 ≤ z3 := ((nI_leI (a := 8) (b := z3) (by omega) (by omega)).mp c7)
    exact W.vret hx hb hr (fun t ht hW => ⟨⟨G3, rfl, ⟨hTy, hFR, trivial⟩, by rw [ht]; exact hP, va_K.moved hW.alike hK, hD⟩, hS.F ht⟩) hS.2.2 d_Trust_takeHost_46
  · have p7 : ¬ (8 ≤ z3) := (fun q9 => c7 ((nI_leI (a := 8) (b := z3) (by omega) (by omega)).mpr q9))
    refine lv_iload_n hx hb d_Trust_takeHost_10 rfl (lv_at hl 2 rfl) ?_
    refine lv_iload hx hb d_Trust_takeHost_11 (lv_at hl 0 rfl) ?_
    refine lv_iadd hx hb d_Trust_takeHost_13 ?_
    rw [show ((nI b9) + (nI z3) : Int32) = nI (b9 + z3) from nI_add b9 z3]
    refine lv_bipush (v := 32) hx hb d_Trust_takeHost_14 (by decide) ?_
    refine lv_icmp_ge (tgt := 46) hx hb d_Trust_takeHost_16 (by decide) (fun c16 => ?_) (fun c16 => ?_)
    · have p16 : 32 ≤ (b9 + z3) := ((nI_leI (a := 32) (b := (b9 + z3)) (by omega) (by omega)).mp c16)
      exact W.vret hx hb hr (fun t ht hW => ⟨⟨G3, rfl, ⟨hTy, hFR, trivial⟩, by rw [ht]; exact hP, va_K.moved hW.alike hK, hD⟩, hS.F ht⟩) hS.2.2 d_Trust_takeHost_46
    · have p16 : ¬ (32 ≤ (b9 + z3)) := (fun q9 => c16 ((nI_leI (a := 32) (b := (b9 + z3)) (by omega) (by omega)).mpr q9))
      refine lv_aload_n hx hb d_Trust_takeHost_19 rfl (lv_at hl 1 rfl) ?_
      obtain ⟨i_1, hg_1⟩ := List.getElem?_of_mem kq0.2
      refine va_get (v := .ref ho) hx hb htb i_Trust hown hK hP i_1 hg_1 rfl 1 (by decide) (htb _ q1_157) (fun _ h9 => h9) rfl d_Trust_takeHost_20 ?_
      refine lv_iload_n hx hb d_Trust_takeHost_23 rfl (lv_at hl 2 rfl) ?_
      refine lv_iload hx hb d_Trust_takeHost_24 (lv_at hl 0 rfl) ?_
      refine lv_iadd hx hb d_Trust_takeHost_26 ?_
      rw [show ((nI b9) + (nI z3) : Int32) = nI (b9 + z3) from nI_add b9 z3]
      refine lv_lload_n hx hb d_Trust_takeHost_27 rfl (lv_at hl 3 rfl) ?_
      refine lv_bipush (v := 56) hx hb d_Trust_takeHost_28 (by decide) ?_
      refine lv_bipush (v := 8) hx hb d_Trust_takeHost_30 (by decide) ?_
      refine lv_iload hx hb d_Trust_takeHost_32 (lv_at hl 0 rfl) ?_
      refine lv_imul hx hb d_Trust_takeHost_34 ?_
      rw [show (8 * (nI z3) : Int32) = nI (8 * z3) from nI_mul 8 z3]
      refine lv_isub hx hb d_Trust_takeHost_35 ?_
      rw [show (56 - (nI (8 * z3)) : Int32) = nI (56 - (8 * z3)) from pk_sub (a := 56) (b := (8 * z3)) (by omega)]
      refine lv_lushr (v := (x9.toUInt64 >>> ((nI (56 - (8 * z3))).toInt64.toUInt64 &&& Int64.toUInt64 63)).toInt64) hx hb d_Trust_takeHost_36 rfl ?_
      refine lv_l2i (v := ((x9.toUInt64 >>> ((nI (56 - (8 * z3))).toInt64.toUInt64 &&& Int64.toUInt64 63)).toInt64).toInt32) hx hb d_Trust_takeHost_37 rfl ?_
      refine lv_i2b (v := (((x9.toUInt64 >>> ((nI (56 - (8 * z3))).toInt64.toUInt64 &&& Int64.toUInt64 63)).toInt64).toInt32).toInt8.toInt32) hx hb d_Trust_takeHost_38 rfl ?_
      obtain ⟨i_2, u_2, hu_2, hn_2, hg_2⟩ := ty_1 hTy kho
      have h39 : vp_in (nI (b9 + z3)) 32 := vp_in_nI (by omega) (by omega)
      obtain ⟨u39, hu39, eu39⟩ := tx_upd hu_2 (nI (b9 + z3)).toNatClampNeg ((((x9.toUInt64 >>> ((nI (56 - (8 * z3))).toInt64.toUInt64 &&& Int64.toUInt64 63)).toInt64).toInt32).toInt8.toInt32)
      refine va_bast hx hb hK hP hD hS i_2 0 hg_2 rfl h39 d_Trust_takeHost_39 (fun H39 locs hP hD2 hS => ?_)
      rw [nar_byte, eu39] at hP hD2
      have hP : va_P (dC, dI) classes (G3.set i_2 (ho, .inl (γ.1, 32, .inl (tx u39)))) H39 := hP
      have hD3 : va_D A (G3.set i_2 (ho, .inl (γ.1, 32, .inl (tx u39)))) := hD2
      have hFR := hFR.tr (FR.set (c' := .inl (γ.1, 32, .inl (tx u39))) hg_2 kho.1)
      have hTy := TY.set (c' := .inl (γ.1, 32, .inl (tx u39))) hTy hg_2 (ok_1 kho (by decide) hu39)
      have hD := hD3
      clear hD3 hD2
      generalize G3.set i_2 (ho, .inl (γ.1, 32, .inl (tx u39))) = G_3 at hP hD hTy hFR 
      have kq0 := kq0_0.fr hFR
      refine lv_iinc (v := nI (z3 + 1)) (lv' := [(4, .int (nI (z3 + 1))), (0, .ref q0), (1, .int (nI b9)), (2, .long x9)]) hx hb d_Trust_takeHost_40 hl (k := 0) rfl (nI_1 _) (by decide) rfl (fun ls hl => ?_)
      refine lv_goto (tgt := 3) hx hb d_Trust_takeHost_43 (by decide) ?_
      exact ih3 (z3 + 1, G_3) _ _ ls (by dsimp only; omega) ⟨by dsimp only; omega, hTy, hFR⟩ hP hD hS (lv_sub hl [0, 1, 2, 3] rfl)
