/-! TrustChain.takeWord: four octets come to what is fed. -/
def y_Trust_takeWord : MethodName := ⟨"TrustChain", "takeWord", "(I)V"⟩
abbrev b_Trust_takeWord : ByteArray := prog_1_method_15_code
def w_Trust_takeWord : List Cond := Cond.code y_Trust_takeWord b_Trust_takeWord 3 (none) :: tb
theorem d_Trust_takeWord_0 : decode b_Trust_takeWord 0 = .ok (.bipush 24, 2) := by decide +kernel
theorem d_Trust_takeWord_2 : decode b_Trust_takeWord 2 = .ok (.istore_n 2, 1) := by decide +kernel
theorem d_Trust_takeWord_3 : decode b_Trust_takeWord 3 = .ok (.iload_n 2, 1) := by decide +kernel
theorem d_Trust_takeWord_4 : decode b_Trust_takeWord 4 = .ok (.ifCond .lt 42, 3) := by decide +kernel
theorem d_Trust_takeWord_7 : decode b_Trust_takeWord 7 = .ok (.aload_n 0, 1) := by decide +kernel
theorem d_Trust_takeWord_8 : decode b_Trust_takeWord 8 = .ok (.getfield 68, 3) := by decide +kernel
theorem d_Trust_takeWord_11 : decode b_Trust_takeWord 11 = .ok (.sipush 2060, 3) := by decide +kernel
theorem d_Trust_takeWord_14 : decode b_Trust_takeWord 14 = .ok (.if_icmp .ge 26, 3) := by decide +kernel
theorem d_Trust_takeWord_17 : decode b_Trust_takeWord 17 = .ok (.aload_n 0, 1) := by decide +kernel
theorem d_Trust_takeWord_18 : decode b_Trust_takeWord 18 = .ok (.getfield 9, 3) := by decide +kernel
theorem d_Trust_takeWord_21 : decode b_Trust_takeWord 21 = .ok (.aload_n 0, 1) := by decide +kernel
theorem d_Trust_takeWord_22 : decode b_Trust_takeWord 22 = .ok (.getfield 68, 3) := by decide +kernel
theorem d_Trust_takeWord_25 : decode b_Trust_takeWord 25 = .ok (.iload_n 1, 1) := by decide +kernel
theorem d_Trust_takeWord_26 : decode b_Trust_takeWord 26 = .ok (.iload_n 2, 1) := by decide +kernel
theorem d_Trust_takeWord_27 : decode b_Trust_takeWord 27 = .ok (.iushr, 1) := by decide +kernel
theorem d_Trust_takeWord_28 : decode b_Trust_takeWord 28 = .ok (.i2b, 1) := by decide +kernel
theorem d_Trust_takeWord_29 : decode b_Trust_takeWord 29 = .ok (.bastore, 1) := by decide +kernel
theorem d_Trust_takeWord_30 : decode b_Trust_takeWord 30 = .ok (.aload_n 0, 1) := by decide +kernel
theorem d_Trust_takeWord_31 : decode b_Trust_takeWord 31 = .ok (.dup, 1) := by decide +kernel
theorem d_Trust_takeWord_32 : decode b_Trust_takeWord 32 = .ok (.getfield 68, 3) := by decide +kernel
theorem d_Trust_takeWord_35 : decode b_Trust_takeWord 35 = .ok (.iconst 1, 1) := by decide +kernel
theorem d_Trust_takeWord_36 : decode b_Trust_takeWord 36 = .ok (.iadd, 1) := by decide +kernel
theorem d_Trust_takeWord_37 : decode b_Trust_takeWord 37 = .ok (.putfield 68, 3) := by decide +kernel
theorem d_Trust_takeWord_40 : decode b_Trust_takeWord 40 = .ok (.iinc 2 (-8), 3) := by decide +kernel
theorem d_Trust_takeWord_43 : decode b_Trust_takeWord 43 = .ok (.goto (-40), 3) := by decide +kernel
theorem d_Trust_takeWord_46 : decode b_Trust_takeWord 46 = .ok (.return_, 1) := by decide +kernel
theorem sc_bb (z : Int32) : z.toInt8.toInt32.toInt8.toInt32 = z.toInt8.toInt32 := by rw [show z.toInt8.toInt32.toInt8 = z.toInt8 from by simp]
/-- an octet of a word, as a byte holds it -/
def wb (x s : Int32) : Int32 := (x.toUInt32 >>> (s.toUInt32 &&& Int32.toUInt32 31)).toInt32.toInt8.toInt32
def tw4 (f : Nat → Int32) (k : Nat) (x : Int32) : Nat → Int32 := upd (upd (upd (upd f k (wb x 24)) (k + 1) (wb x 16)) (k + 2) (wb x 8)) (k + 3) (wb x 0)
set_option maxHeartbeats 4000000 in
set_option maxRecDepth 100000 in
theorem c_Trust_takeWord (l : Launch) (dC : Nat → ClassId) (dI : Nat → Nat → Nat) (sb : sB) (q0 fe ho ce li sh rs se ch fo : Nat) (foS chS faP wrP : Int32) (cB : ClassId) (f : Nat → Int32) (k : Nat) (x : Int32) (sz : Nat) (hk : k + 4 ≤ 2060) : Met l y_Trust_takeWord w_Trust_takeWord ({ frames := 0, cells := 0, slots := 0, locals := 0 }) (mu_P [.ref q0, .int x] (dC, dI) sb [(q0, .inr (10, [.ref fe, .ref ho, .ref ce, .ref li, .ref sh, .ref rs, .ref se, .ref ch, .ref fo, .int foS, .int chS, .int faP, .int (nI k), .int wrP])), (fe, .inl (cB, 2060, .inl f))] [(cB, .byte)] sz) (va_Qv (fun (_u : Unit) => True) (mu_B (dC, dI) [(cB, .byte)] (va_A [(q0, .inr (10, [.ref fe, .ref ho, .ref ce, .ref li, .ref sh, .ref rs, .ref se, .ref ch, .ref fo, .int foS, .int chS, .int faP, .int (nI k), .int wrP])), (fe, .inl (cB, 2060, .inl f))] sz) (fun _ : Unit => [(q0, .inr (10, [.ref fe, .ref ho, .ref ce, .ref li, .ref sh, .ref rs, .ref se, .ref ch, .ref fo, .int foS, .int chS, .int faP, .int (nI (k + 4)), .int wrP])), (fe, .inl (cB, 2060, .inl (tw4 f k x)))])) (va_A [(q0, .inr (10, [.ref fe, .ref ho, .ref ce, .ref li, .ref sh, .ref rs, .ref se, .ref ch, .ref fo, .int foS, .int chS, .int faP, .int (nI k), .int wrP])), (fe, .inl (cB, 2060, .inl f))] sz)) 0 0 (va_A [(q0, .inr (10, [.ref fe, .ref ho, .ref ce, .ref li, .ref sh, .ref rs, .ref se, .ref ch, .ref fo, .int foS, .int chS, .int faP, .int (nI k), .int wrP])), (fe, .inl (cB, 2060, .inl f))] sz) := by
  refine Met.ofW (cc := b_Trust_takeWord) (maxL := 3) (ret := none) (by decide) rfl ?_
  intro p e s m args below meth c s₁ B hml hv
  obtain ⟨rfl, hsz, hB0, hP, hK, hD0, hN, hT0⟩ := hv
  have hx := B.exec
  have hb := B.bytes
  have hr := B.returns
  have hts := atoms_spec (ws := w_Trust_takeWord) B.pre
  have tbin : ∀ w ∈ tb, w ∈ w_Trust_takeWord := fun w h => List.mem_cons_of_mem _ h
  have htb : ∀ w ∈ tb, w.before _ s = true := fun w h => hts w (tbin w h)
  have hown : s.vm.findClass "TrustChain" = some m.cls := findClass_of_methodNamed B.named
  have hlocks := B.notSynchronized
  subst hsz
  have hD := hD0.self (sz := s.heap.size)
  generalize hAe : va_A [(q0, .inr (10, [.ref fe, .ref ho, .ref ce, .ref li, .ref sh, .ref rs, .ref se, .ref ch, .ref fo, .int foS, .int chS, .int faP, .int (nI k), .int wrP])), (fe, .inl (cB, 2060, .inl f))] s.heap.size = A at hD ⊢
  have hA : ∀ q : Nat, s.heap.size ≤ q → A q := fun q h => by rw [← hAe]; exact Or.inr h
  have hAs : ∀ q : Nat, A q → sb.1 ≤ q := fun q h => by
    rw [← hAe] at h
    rcases h with ⟨k, e, h⟩ | h
    · exact hD0.2 k _ h
    · exact Nat.le_trans hB0 h
  have hS : va_S A s.heap s.heap [] := va_S.rf
  have hcs : 0 ≤ (headSpec w_Trust_takeWord ({ frames := 0, cells := 0, slots := 0, locals := 0 })).room.cells ∧ 0 ≤ (headSpec w_Trust_takeWord ({ frames := 0, cells := 0, slots := 0, locals := 0 })).room.slots := ⟨Nat.le_refl _, Nat.le_refl _⟩
  have hP : va_P (dC, dI) classes [(q0, .inr (10, [.ref fe, .ref ho, .ref ce, .ref li, .ref sh, .ref rs, .ref se, .ref ch, .ref fo, .int foS, .int chS, .int faP, .int (nI k), .int wrP])), (fe, .inl (cB, 2060, .inl f))] s.heap := hP
  have hl := lv_entry ([.ref q0, .int x]) (n := 3) (Nat.le_of_ble_eq_true rfl)
  rw [lg_entry_eq]
  generalize (lg_sl ([.ref q0, .int x]) ++ List.replicate (3 - (lg_sl ([.ref q0, .int x])).length) Slot.unset).toArray = ls at hl ⊢
  have hl : lv_has ls 3 [(0, .ref q0), (1, .int x)] := hl
  refine lv_bipush (v := 24) hx hb d_Trust_takeWord_0 (by decide) ?_
  refine lv_istore_n (lv' := [(2, .int 24), (0, .ref q0), (1, .int x)]) hx hb d_Trust_takeWord_2 rfl hl (by decide) rfl (fun ls hl => ?_)
  refine lv_iload_n hx hb d_Trust_takeWord_3 rfl (lv_at hl 0 rfl) ?_
  refine lv_if_lt (tgt := 46) hx hb d_Trust_takeWord_4 (by decide) (fun c4 => ?_) (fun c4 => ?_)
  · exact absurd c4 (by decide)
  refine lv_aload_n hx hb d_Trust_takeWord_7 rfl (lv_at hl 1 rfl) ?_
  refine va_get (v := .int (nI k)) hx hb htb i_Trust hown hK hP 0 rfl rfl 12 (by decide) (htb _ q1_168) (fun _ h9 => h9) rfl d_Trust_takeWord_8 ?_
  refine lv_sipush (v := 2060) hx hb d_Trust_takeWord_11 (by decide) ?_
  refine lv_icmp_ge (tgt := 40) hx hb d_Trust_takeWord_14 (by decide) (fun c14 => ?_) (fun c14 => ?_)
  · exact absurd c14 (fun q => by rw [show (2060 : Int32) = nI 2060 from rfl, nI_leI (by omega) (by omega)] at q; omega)
  refine lv_aload_n hx hb d_Trust_takeWord_17 rfl (lv_at hl 1 rfl) ?_
  refine va_get (v := .ref fe) hx hb htb i_Trust hown hK hP 0 rfl rfl 0 (by decide) (htb _ q1_156) (fun _ h9 => h9) rfl d_Trust_takeWord_18 ?_
  refine lv_aload_n hx hb d_Trust_takeWord_21 rfl (lv_at hl 1 rfl) ?_
  refine va_get (v := .int (nI k)) hx hb htb i_Trust hown hK hP 0 rfl rfl 12 (by decide) (htb _ q1_168) (fun _ h9 => h9) rfl d_Trust_takeWord_22 ?_
  refine lv_iload_n hx hb d_Trust_takeWord_25 rfl (lv_at hl 2 rfl) ?_
  refine lv_iload_n hx hb d_Trust_takeWord_26 rfl (lv_at hl 0 rfl) ?_
  refine lv_iushr (v := (x.toUInt32 >>> ((24 : Int32).toUInt32 &&& Int32.toUInt32 31)).toInt32) hx hb d_Trust_takeWord_27 rfl ?_
  refine lv_i2b (v := ((x.toUInt32 >>> ((24 : Int32).toUInt32 &&& Int32.toUInt32 31)).toInt32).toInt8.toInt32) hx hb d_Trust_takeWord_28 rfl ?_
  have h29 : vp_in (nI k) 2060 := vp_in_nI (by omega) (by omega)
  refine va_bast hx hb hK hP hD hS 1 0 rfl rfl h29 d_Trust_takeWord_29 (fun H29 locs hP hD hS => ?_)
  rw [nI_clamp (by omega), vp_nar_byte, sc_bb] at hP hD
  have hP : va_P (dC, dI) classes [(q0, .inr (10, [.ref fe, .ref ho, .ref ce, .ref li, .ref sh, .ref rs, .ref se, .ref ch, .ref fo, .int foS, .int chS, .int faP, .int (nI k), .int wrP])), (fe, .inl (cB, 2060, .inl (upd f (k) (wb x 24))))] H29 := hP
  have hD : va_D A [(q0, .inr (10, [.ref fe, .ref ho, .ref ce, .ref li, .ref sh, .ref rs, .ref se, .ref ch, .ref fo, .int foS, .int chS, .int faP, .int (nI k), .int wrP])), (fe, .inl (cB, 2060, .inl (upd f (k) (wb x 24))))] := hD
  refine lv_aload_n hx hb d_Trust_takeWord_30 rfl (lv_at hl 1 rfl) ?_
  refine lv_dup hx hb d_Trust_takeWord_31 rfl ?_
  refine va_get (v := .int (nI k)) hx hb htb i_Trust hown hK hP 0 rfl rfl 12 (by decide) (htb _ q1_168) (fun _ h9 => h9) rfl d_Trust_takeWord_32 ?_
  refine lv_iconst (v := 1) hx hb d_Trust_takeWord_35 (by decide) ?_
  refine lv_iadd hx hb d_Trust_takeWord_36 ?_
  rw [show ((nI k) + 1 : Int32) = nI (k + 1) from nI_1 (k)]
  refine va_put (v := .int (nI (k + 1))) (ty := .int) hx hb htb i_Trust t_Trust t_Trust_ok n_Trust hown hK hP hD hS 0 rfl rfl 12 (by decide) (htb _ q1_168) (fun _ h9 => h9) rfl (by decide +kernel) rfl rfl (Nat.le_of_ble_eq_true rfl) d_Trust_takeWord_37 (fun H37 locs hP hD hS => ?_)
  have hP : va_P (dC, dI) classes [(q0, .inr (10, [.ref fe, .ref ho, .ref ce, .ref li, .ref sh, .ref rs, .ref se, .ref ch, .ref fo, .int foS, .int chS, .int faP, .int (nI (k + 1)), .int wrP])), (fe, .inl (cB, 2060, .inl (upd f (k) (wb x 24))))] H37 := hP
  have hD : va_D A [(q0, .inr (10, [.ref fe, .ref ho, .ref ce, .ref li, .ref sh, .ref rs, .ref se, .ref ch, .ref fo, .int foS, .int chS, .int faP, .int (nI (k + 1)), .int wrP])), (fe, .inl (cB, 2060, .inl (upd f (k) (wb x 24))))] := hD
  refine lv_iinc (v := 16) (lv' := [(2, .int 16), (0, .ref q0), (1, .int x)]) hx hb d_Trust_takeWord_40 hl (k := 0) rfl (by decide) (by decide) rfl (fun ls hl => ?_)
  refine lv_goto (tgt := 3) hx hb d_Trust_takeWord_43 (by decide) ?_
  refine lv_iload_n hx hb d_Trust_takeWord_3 rfl (lv_at hl 0 rfl) ?_
  refine lv_if_lt (tgt := 46) hx hb d_Trust_takeWord_4 (by decide) (fun c4 => ?_) (fun c4 => ?_)
  · exact absurd c4 (by decide)
  refine lv_aload_n hx hb d_Trust_takeWord_7 rfl (lv_at hl 1 rfl) ?_
  refine va_get (v := .int (nI (k + 1))) hx hb htb i_Trust hown hK hP 0 rfl rfl 12 (by decide) (htb _ q1_168) (fun _ h9 => h9) rfl d_Trust_takeWord_8 ?_
  refine lv_sipush (v := 2060) hx hb d_Trust_takeWord_11 (by decide) ?_
  refine lv_icmp_ge (tgt := 40) hx hb d_Trust_takeWord_14 (by decide) (fun c14 => ?_) (fun c14 => ?_)
  · exact absurd c14 (fun q => by rw [show (2060 : Int32) = nI 2060 from rfl, nI_leI (by omega) (by omega)] at q; omega)
  refine lv_aload_n hx hb d_Trust_takeWord_17 rfl (lv_at hl 1 rfl) ?_
  refine va_get (v := .ref fe) hx hb htb i_Trust hown hK hP 0 rfl rfl 0 (by decide) (htb _ q1_156) (fun _ h9 => h9) rfl d_Trust_takeWord_18 ?_
  refine lv_aload_n hx hb d_Trust_takeWord_21 rfl (lv_at hl 1 rfl) ?_
  refine va_get (v := .int (nI (k + 1))) hx hb htb i_Trust hown hK hP 0 rfl rfl 12 (by decide) (htb _ q1_168) (fun _ h9 => h9) rfl d_Trust_takeWord_22 ?_
  refine lv_iload_n hx hb d_Trust_takeWord_25 rfl (lv_at hl 2 rfl) ?_
  refine lv_iload_n hx hb d_Trust_takeWord_26 rfl (lv_at hl 0 rfl) ?_
  refine lv_iushr (v := (x.toUInt32 >>> ((16 : Int32).toUInt32 &&& Int32.toUInt32 31)).toInt32) hx hb d_Trust_takeWord_27 rfl ?_
  refine lv_i2b (v := ((x.toUInt32 >>> ((16 : Int32).toUInt32 &&& Int32.toUInt32 31)).toInt32).toInt8.toInt32) hx hb d_Trust_takeWord_28 rfl ?_
  have h29 : vp_in (nI (k + 1)) 2060 := vp_in_nI (by omega) (by omega)
  refine va_bast hx hb hK hP hD hS 1 0 rfl rfl h29 d_Trust_takeWord_29 (fun H29 locs hP hD hS => ?_)
  rw [nI_clamp (by omega), vp_nar_byte, sc_bb] at hP hD
  have hP : va_P (dC, dI) classes [(q0, .inr (10, [.ref fe, .ref ho, .ref ce, .ref li, .ref sh, .ref rs, .ref se, .ref ch, .ref fo, .int foS, .int chS, .int faP, .int (nI (k + 1)), .int wrP])), (fe, .inl (cB, 2060, .inl (upd (upd f (k) (wb x 24)) (k + 1) (wb x 16))))] H29 := hP
  have hD : va_D A [(q0, .inr (10, [.ref fe, .ref ho, .ref ce, .ref li, .ref sh, .ref rs, .ref se, .ref ch, .ref fo, .int foS, .int chS, .int faP, .int (nI (k + 1)), .int wrP])), (fe, .inl (cB, 2060, .inl (upd (upd f (k) (wb x 24)) (k + 1) (wb x 16))))] := hD
  refine lv_aload_n hx hb d_Trust_takeWord_30 rfl (lv_at hl 1 rfl) ?_
  refine lv_dup hx hb d_Trust_takeWord_31 rfl ?_
  refine va_get (v := .int (nI (k + 1))) hx hb htb i_Trust hown hK hP 0 rfl rfl 12 (by decide) (htb _ q1_168) (fun _ h9 => h9) rfl d_Trust_takeWord_32 ?_
  refine lv_iconst (v := 1) hx hb d_Trust_takeWord_35 (by decide) ?_
  refine lv_iadd hx hb d_Trust_takeWord_36 ?_
  rw [show ((nI (k + 1)) + 1 : Int32) = nI (k + 2) from nI_1 (k + 1)]
  refine va_put (v := .int (nI (k + 2))) (ty := .int) hx hb htb i_Trust t_Trust t_Trust_ok n_Trust hown hK hP hD hS 0 rfl rfl 12 (by decide) (htb _ q1_168) (fun _ h9 => h9) rfl (by decide +kernel) rfl rfl (Nat.le_of_ble_eq_true rfl) d_Trust_takeWord_37 (fun H37 locs hP hD hS => ?_)
  have hP : va_P (dC, dI) classes [(q0, .inr (10, [.ref fe, .ref ho, .ref ce, .ref li, .ref sh, .ref rs, .ref se, .ref ch, .ref fo, .int foS, .int chS, .int faP, .int (nI (k + 2)), .int wrP])), (fe, .inl (cB, 2060, .inl (upd (upd f (k) (wb x 24)) (k + 1) (wb x 16))))] H37 := hP
  have hD : va_D A [(q0, .inr (10, [.ref fe, .ref ho, .ref ce, .ref li, .ref sh, .ref rs, .ref se, .ref ch, .ref fo, .int foS, .int chS, .int faP, .int (nI (k + 2)), .int wrP])), (fe, .inl (cB, 2060, .inl (upd (upd f (k) (wb x 24)) (k + 1) (wb x 16))))] := hD
  refine lv_iinc (v := 8) (lv' := [(2, .int 8), (0, .ref q0), (1, .int x)]) hx hb d_Trust_takeWord_40 hl (k := 0) rfl (by decide) (by decide) rfl (fun ls hl => ?_)
  refine lv_goto (tgt := 3) hx hb d_Trust_takeWord_43 (by decide) ?_
  refine lv_iload_n hx hb d_Trust_takeWord_3 rfl (lv_at hl 0 rfl) ?_
  refine lv_if_lt (tgt := 46) hx hb d_Trust_takeWord_4 (by decide) (fun c4 => ?_) (fun c4 => ?_)
  · exact absurd c4 (by decide)
  refine lv_aload_n hx hb d_Trust_takeWord_7 rfl (lv_at hl 1 rfl) ?_
  refine va_get (v := .int (nI (k + 2))) hx hb htb i_Trust hown hK hP 0 rfl rfl 12 (by decide) (htb _ q1_168) (fun _ h9 => h9) rfl d_Trust_takeWord_8 ?_
  refine lv_sipush (v := 2060) hx hb d_Trust_takeWord_11 (by decide) ?_
  refine lv_icmp_ge (tgt := 40) hx hb d_Trust_takeWord_14 (by decide) (fun c14 => ?_) (fun c14 => ?_)
  · exact absurd c14 (fun q => by rw [show (2060 : Int32) = nI 2060 from rfl, nI_leI (by omega) (by omega)] at q; omega)
  refine lv_aload_n hx hb d_Trust_takeWord_17 rfl (lv_at hl 1 rfl) ?_
  refine va_get (v := .ref fe) hx hb htb i_Trust hown hK hP 0 rfl rfl 0 (by decide) (htb _ q1_156) (fun _ h9 => h9) rfl d_Trust_takeWord_18 ?_
  refine lv_aload_n hx hb d_Trust_takeWord_21 rfl (lv_at hl 1 rfl) ?_
  refine va_get (v := .int (nI (k + 2))) hx hb htb i_Trust hown hK hP 0 rfl rfl 12 (by decide) (htb _ q1_168) (fun _ h9 => h9) rfl d_Trust_takeWord_22 ?_
  refine lv_iload_n hx hb d_Trust_takeWord_25 rfl (lv_at hl 2 rfl) ?_
  refine lv_iload_n hx hb d_Trust_takeWord_26 rfl (lv_at hl 0 rfl) ?_
  refine lv_iushr (v := (x.toUInt32 >>> ((8 : Int32).toUInt32 &&& Int32.toUInt32 31)).toInt32) hx hb d_Trust_takeWord_27 rfl ?_
  refine lv_i2b (v := ((x.toUInt32 >>> ((8 : Int32).toUInt32 &&& Int32.toUInt32 31)).toInt32).toInt8.toInt32) hx hb d_Trust_takeWord_28 rfl ?_
  have h29 : vp_in (nI (k + 2)) 2060 := vp_in_nI (by omega) (by omega)
  refine va_bast hx hb hK hP hD hS 1 0 rfl rfl h29 d_Trust_takeWord_29 (fun H29 locs hP hD hS => ?_)
  rw [nI_clamp (by omega), vp_nar_byte, sc_bb] at hP hD
  have hP : va_P (dC, dI) classes [(q0, .inr (10, [.ref fe, .ref ho, .ref ce, .ref li, .ref sh, .ref rs, .ref se, .ref ch, .ref fo, .int foS, .int chS, .int faP, .int (nI (k + 2)), .int wrP])), (fe, .inl (cB, 2060, .inl (upd (upd (upd f (k) (wb x 24)) (k + 1) (wb x 16)) (k + 2) (wb x 8))))] H29 := hP
  have hD : va_D A [(q0, .inr (10, [.ref fe, .ref ho, .ref ce, .ref li, .ref sh, .ref rs, .ref se, .ref ch, .ref fo, .int foS, .int chS, .int faP, .int (nI (k + 2)), .int wrP])), (fe, .inl (cB, 2060, .inl (upd (upd (upd f (k) (wb x 24)) (k + 1) (wb x 16)) (k + 2) (wb x 8))))] := hD
  refine lv_aload_n hx hb d_Trust_takeWord_30 rfl (lv_at hl 1 rfl) ?_
  refine lv_dup hx hb d_Trust_takeWord_31 rfl ?_
  refine va_get (v := .int (nI (k + 2))) hx hb htb i_Trust hown hK hP 0 rfl rfl 12 (by decide) (htb _ q1_168) (fun _ h9 => h9) rfl d_Trust_takeWord_32 ?_
  refine lv_iconst (v := 1) hx hb d_Trust_takeWord_35 (by decide) ?_
  refine lv_iadd hx hb d_Trust_takeWord_36 ?_
  rw [show ((nI (k + 2)) + 1 : Int32) = nI (k + 3) from nI_1 (k + 2)]
  refine va_put (v := .int (nI (k + 3))) (ty := .int) hx hb htb i_Trust t_Trust t_Trust_ok n_Trust hown hK hP hD hS 0 rfl rfl 12 (by decide) (htb _ q1_168) (fun _ h9 => h9) rfl (by decide +kernel) rfl rfl (Nat.le_of_ble_eq_true rfl) d_Trust_takeWord_37 (fun H37 locs hP hD hS => ?_)
  have hP : va_P (dC, dI) classes [(q0, .inr (10, [.ref fe, .ref ho, .ref ce, .ref li, .ref sh, .ref rs, .ref se, .ref ch, .ref fo, .int foS, .int chS, .int faP, .int (nI (k + 3)), .int wrP])), (fe, .inl (cB, 2060, .inl (upd (upd (upd f (k) (wb x 24)) (k + 1) (wb x 16)) (k + 2) (wb x 8))))] H37 := hP
  have hD : va_D A [(q0, .inr (10, [.ref fe, .ref ho, .ref ce, .ref li, .ref sh, .ref rs, .ref se, .ref ch, .ref fo, .int foS, .int chS, .int faP, .int (nI (k + 3)), .int wrP])), (fe, .inl (cB, 2060, .inl (upd (upd (upd f (k) (wb x 24)) (k + 1) (wb x 16)) (k + 2) (wb x 8))))] := hD
  refine lv_iinc (v := 0) (lv' := [(2, .int 0), (0, .ref q0), (1, .int x)]) hx hb d_Trust_takeWord_40 hl (k := 0) rfl (by decide) (by decide) rfl (fun ls hl => ?_)
  refine lv_goto (tgt := 3) hx hb d_Trust_takeWord_43 (by decide) ?_
  refine lv_iload_n hx hb d_Trust_takeWord_3 rfl (lv_at hl 0 rfl) ?_
  refine lv_if_lt (tgt := 46) hx hb d_Trust_takeWord_4 (by decide) (fun c4 => ?_) (fun c4 => ?_)
  · exact absurd c4 (by decide)
  refine lv_aload_n hx hb d_Trust_takeWord_7 rfl (lv_at hl 1 rfl) ?_
  refine va_get (v := .int (nI (k + 3))) hx hb htb i_Trust hown hK hP 0 rfl rfl 12 (by decide) (htb _ q1_168) (fun _ h9 => h9) rfl d_Trust_takeWord_8 ?_
  refine lv_sipush (v := 2060) hx hb d_Trust_takeWord_11 (by decide) ?_
  refine lv_icmp_ge (tgt := 40) hx hb d_Trust_takeWord_14 (by decide) (fun c14 => ?_) (fun c14 => ?_)
  · exact absurd c14 (fun q => by rw [show (2060 : Int32) = nI 2060 from rfl, nI_leI (by omega) (by omega)] at q; omega)
  refine lv_aload_n hx hb d_Trust_takeWord_17 rfl (lv_at hl 1 rfl) ?_
  refine va_get (v := .ref fe) hx hb htb i_Trust hown hK hP 0 rfl rfl 0 (by decide) (htb _ q1_156) (fun _ h9 => h9) rfl d_Trust_takeWord_18 ?_
  refine lv_aload_n hx hb d_Trust_takeWord_21 rfl (lv_at hl 1 rfl) ?_
  refine va_get (v := .int (nI (k + 3))) hx hb htb i_Trust hown hK hP 0 rfl rfl 12 (by decide) (htb _ q1_168) (fun _ h9 => h9) rfl d_Trust_takeWord_22 ?_
  refine lv_iload_n hx hb d_Trust_takeWord_25 rfl (lv_at hl 2 rfl) ?_
  refine lv_iload_n hx hb d_Trust_takeWord_26 rfl (lv_at hl 0 rfl) ?_
  refine lv_iushr (v := (x.toUInt32 >>> ((0 : Int32).toUInt32 &&& Int32.toUInt32 31)).toInt32) hx hb d_Trust_takeWord_27 rfl ?_
  refine lv_i2b (v := ((x.toUInt32 >>> ((0 : Int32).toUInt32 &&& Int32.toUInt32 31)).toInt32).toInt8.toInt32) hx hb d_Trust_takeWord_28 rfl ?_
  have h29 : vp_in (nI (k + 3)) 2060 := vp_in_nI (by omega) (by omega)
  refine va_bast hx hb hK hP hD hS 1 0 rfl rfl h29 d_Trust_takeWord_29 (fun H29 locs hP hD hS => ?_)
  rw [nI_clamp (by omega), vp_nar_byte, sc_bb] at hP hD
  have hP : va_P (dC, dI) classes [(q0, .inr (10, [.ref fe, .ref ho, .ref ce, .ref li, .ref sh, .ref rs, .ref se, .ref ch, .ref fo, .int foS, .int chS, .int faP, .int (nI (k + 3)), .int wrP])), (fe, .inl (cB, 2060, .inl (upd (upd (upd (upd f (k) (wb x 24)) (k + 1) (wb x 16)) (k + 2) (wb x 8)) (k + 3) (wb x 0))))] H29 := hP
  have hD : va_D A [(q0, .inr (10, [.ref fe, .ref ho, .ref ce, .ref li, .ref sh, .ref rs, .ref se, .ref ch, .ref fo, .int foS, .int chS, .int faP, .int (nI (k + 3)), .int wrP])), (fe, .inl (cB, 2060, .inl (upd (upd (upd (upd f (k) (wb x 24)) (k + 1) (wb x 16)) (k + 2) (wb x 8)) (k + 3) (wb x 0))))] := hD
  refine lv_aload_n hx hb d_Trust_takeWord_30 rfl (lv_at hl 1 rfl) ?_
  refine lv_dup hx hb d_Trust_takeWord_31 rfl ?_
  refine va_get (v := .int (nI (k + 3))) hx hb htb i_Trust hown hK hP 0 rfl rfl 12 (by decide) (htb _ q1_168) (fun _ h9 => h9) rfl d_Trust_takeWord_32 ?_
  refine lv_iconst (v := 1) hx hb d_Trust_takeWord_35 (by decide) ?_
  refine lv_iadd hx hb d_Trust_takeWord_36 ?_
  rw [show ((nI (k + 3)) + 1 : Int32) = nI (k + 4) from nI_1 (k + 3)]
  refine va_put (v := .int (nI (k + 4))) (ty := .int) hx hb htb i_Trust t_Trust t_Trust_ok n_Trust hown hK hP hD hS 0 rfl rfl 12 (by decide) (htb _ q1_168) (fun _ h9 => h9) rfl (by decide +kernel) rfl rfl (Nat.le_of_ble_eq_true rfl) d_Trust_takeWord_37 (fun H37 locs hP hD hS => ?_)
  have hP : va_P (dC, dI) classes [(q0, .inr (10, [.ref fe, .ref ho, .ref ce, .ref li, .ref sh, .ref rs, .ref se, .ref ch, .ref fo, .int foS, .int chS, .int faP, .int (nI (k + 4)), .int wrP])), (fe, .inl (cB, 2060, .inl (upd (upd (upd (upd f (k) (wb x 24)) (k + 1) (wb x 16)) (k + 2) (wb x 8)) (k + 3) (wb x 0))))] H37 := hP
  have hD : va_D A [(q0, .inr (10, [.ref fe, .ref ho, .ref ce, .ref li, .ref sh, .ref rs, .ref se, .ref ch, .ref fo, .int foS, .int chS, .int faP, .int (nI (k + 4)), .int wrP])), (fe, .inl (cB, 2060, .inl (upd (upd (upd (upd f (k) (wb x 24)) (k + 1) (wb x 16)) (k + 2) (wb x 8)) (k + 3) (wb x 0))))] := hD
  refine lv_iinc (v := -8) (lv' := [(2, .int (-8)), (0, .ref q0), (1, .int x)]) hx hb d_Trust_takeWord_40 hl (k := 0) rfl (by decide) (by decide) rfl (fun ls hl => ?_)
  refine lv_goto (tgt := 3) hx hb d_Trust_takeWord_43 (by decide) ?_
  refine lv_iload_n hx hb d_Trust_takeWord_3 rfl (lv_at hl 0 rfl) ?_
  refine lv_if_lt (tgt := 46) hx hb d_Trust_takeWord_4 (by decide) (fun c4 => ?_) (fun c4 => ?_)
  rotate_left
  · exact absurd (by decide) c4
  exact W.vret hx hb hr (fun t ht hW => ⟨⟨(), rfl, trivial, by rw [ht]; exact hP, va_K.moved hW.alike hK, hD⟩, hS.F ht⟩) hS.2.2 d_Trust_takeWord_46
