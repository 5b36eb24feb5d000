/-! The reference's listPart, signed, digest, chain, count where nothing is stored. -/
def y_Model_listPart : MethodName := ⟨"TrustChainModel", "listPart", "(II)J"⟩
abbrev b_Model_listPart : ByteArray := prog_14_method_22_code
def w_Model_listPart : List Cond := Cond.code y_Model_listPart b_Model_listPart 4 ((some FieldType.long)) :: tb
theorem d_Model_listPart_0 : decode b_Model_listPart 0 = .ok (.aload_n 0, 1) := by decide +kernel
theorem d_Model_listPart_1 : decode b_Model_listPart 1 = .ok (.iconst 0, 1) := by decide +kernel
theorem d_Model_listPart_2 : decode b_Model_listPart 2 = .ok (.putfield 145, 3) := by decide +kernel
theorem d_Model_listPart_5 : decode b_Model_listPart 5 = .ok (.aload_n 0, 1) := by decide +kernel
theorem d_Model_listPart_6 : decode b_Model_listPart 6 = .ok (.iload_n 2, 1) := by decide +kernel
theorem d_Model_listPart_7 : decode b_Model_listPart 7 = .ok (.iconst 0, 1) := by decide +kernel
theorem d_Model_listPart_8 : decode b_Model_listPart 8 = .ok (.iconst 3, 1) := by decide +kernel
theorem d_Model_listPart_9 : decode b_Model_listPart 9 = .ok (.invokestatic 205, 3) := by decide +kernel
theorem d_Model_listPart_12 : decode b_Model_listPart 12 = .ok (.ifCond .ne 7, 3) := by decide +kernel
theorem d_Model_listPart_15 : decode b_Model_listPart 15 = .ok (.iconst 1, 1) := by decide +kernel
theorem d_Model_listPart_16 : decode b_Model_listPart 16 = .ok (.goto 4, 3) := by decide +kernel
theorem d_Model_listPart_19 : decode b_Model_listPart 19 = .ok (.iconst 0, 1) := by decide +kernel
theorem d_Model_listPart_20 : decode b_Model_listPart 20 = .ok (.iconst 1, 1) := by decide +kernel
theorem d_Model_listPart_21 : decode b_Model_listPart 21 = .ok (.invokevirtual 176, 3) := by decide +kernel
theorem d_Model_listPart_24 : decode b_Model_listPart 24 = .ok (.ifCond .ne 30, 3) := by decide +kernel
theorem d_Model_listPart_27 : decode b_Model_listPart 27 = .ok (.aload_n 0, 1) := by decide +kernel
theorem d_Model_listPart_28 : decode b_Model_listPart 28 = .ok (.iload_n 1, 1) := by decide +kernel
theorem d_Model_listPart_29 : decode b_Model_listPart 29 = .ok (.iconst 0, 1) := by decide +kernel
theorem d_Model_listPart_30 : decode b_Model_listPart 30 = .ok (.aload_n 0, 1) := by decide +kernel
theorem d_Model_listPart_31 : decode b_Model_listPart 31 = .ok (.getfield 180, 3) := by decide +kernel
theorem d_Model_listPart_34 : decode b_Model_listPart 34 = .ok (.iconst 1, 1) := by decide +kernel
theorem d_Model_listPart_35 : decode b_Model_listPart 35 = .ok (.isub, 1) := by decide +kernel
theorem d_Model_listPart_36 : decode b_Model_listPart 36 = .ok (.invokestatic 205, 3) := by decide +kernel
theorem d_Model_listPart_39 : decode b_Model_listPart 39 = .ok (.ifCond .ne 7, 3) := by decide +kernel
theorem d_Model_listPart_42 : decode b_Model_listPart 42 = .ok (.iconst 1, 1) := by decide +kernel
theorem d_Model_listPart_43 : decode b_Model_listPart 43 = .ok (.goto 4, 3) := by decide +kernel
theorem d_Model_listPart_46 : decode b_Model_listPart 46 = .ok (.iconst 0, 1) := by decide +kernel
theorem d_Model_listPart_47 : decode b_Model_listPart 47 = .ok (.iconst 2, 1) := by decide +kernel
theorem d_Model_listPart_48 : decode b_Model_listPart 48 = .ok (.invokevirtual 176, 3) := by decide +kernel
theorem d_Model_listPart_51 : decode b_Model_listPart 51 = .ok (.ifCond .eq 5, 3) := by decide +kernel
theorem d_Model_listPart_54 : decode b_Model_listPart 54 = .ok (.lconst 0, 1) := by decide +kernel
theorem d_Model_listPart_55 : decode b_Model_listPart 55 = .ok (.lreturn, 1) := by decide +kernel
theorem d_Model_listPart_56 : decode b_Model_listPart 56 = .ok (.aload_n 0, 1) := by decide +kernel
theorem d_Model_listPart_57 : decode b_Model_listPart 57 = .ok (.getfield 23, 3) := by decide +kernel
set_option maxHeartbeats 4000000 in
set_option maxRecDepth 100000 in
theorem c0_Model_listPart (l : Launch) (dC : Nat → ClassId) (dI : Nat → Nat → Nat) (sb : sB) (q0 oc so rv sp rz bl ww hs fi pm mx my mm mq mz wy fn : Nat) (fd wg nc qs si cs cn fa pu de ve mk : Int32) (nw : Int64) (er i j : Int32) (sz : Nat) : Met l y_Model_listPart w_Model_listPart ({ frames := 3, cells := 0, slots := 0, locals := 90 }) (mu_P [.ref q0, .int i, .int j] (dC, dI) sb [(q0, .inr (12, [.int er, .int fd, .int wg, .int nc, .int 0, .ref oc, .ref so, .ref rv, .ref sp, .int qs, .ref rz, .ref bl, .ref ww, .ref hs, .ref fi, .ref pm, .ref mx, .ref my, .ref mm, .ref mq, .ref mz, .ref wy, .ref fn, .int si, .int cs, .int cn, .int fa, .int pu, .int de, .int ve, .long nw, .int mk]))] [] sz) (va_Ql (fun r (u : Int32) => u = (if j < 0 ∨ 3 < j then 1 else 2) ∧ r = 0) (mu_B (dC, dI) [] (va_A [(q0, .inr (12, [.int er, .int fd, .int wg, .int nc, .int 0, .ref oc, .ref so, .ref rv, .ref sp, .int qs, .ref rz, .ref bl, .ref ww, .ref hs, .ref fi, .ref pm, .ref mx, .ref my, .ref mm, .ref mq, .ref mz, .ref wy, .ref fn, .int si, .int cs, .int cn, .int fa, .int pu, .int de, .int ve, .long nw, .int mk]))] sz) (fun u : Int32 => [(q0, .inr (12, [.int u, .int fd, .int wg, .int nc, .int 0, .ref oc, .ref so, .ref rv, .ref sp, .int qs, .ref rz, .ref bl, .ref ww, .ref hs, .ref fi, .ref pm, .ref mx, .ref my, .ref mm, .ref mq, .ref mz, .ref wy, .ref fn, .int si, .int cs, .int cn, .int fa, .int pu, .int de, .int ve, .long nw, .int mk]))])) (va_A [(q0, .inr (12, [.int er, .int fd, .int wg, .int nc, .int 0, .ref oc, .ref so, .ref rv, .ref sp, .int qs, .ref rz, .ref bl, .ref ww, .ref hs, .ref fi, .ref pm, .ref mx, .ref my, .ref mm, .ref mq, .ref mz, .ref wy, .ref fn, .int si, .int cs, .int cn, .int fa, .int pu, .int de, .int ve, .long nw, .int mk]))] sz)) 0 0 (va_A [(q0, .inr (12, [.int er, .int fd, .int wg, .int nc, .int 0, .ref oc, .ref so, .ref rv, .ref sp, .int qs, .ref rz, .ref bl, .ref ww, .ref hs, .ref fi, .ref pm, .ref mx, .ref my, .ref mm, .ref mq, .ref mz, .ref wy, .ref fn, .int si, .int cs, .int cn, .int fa, .int pu, .int de, .int ve, .long nw, .int mk]))] sz) := by
  refine Met.ofW (cc := b_Model_listPart) (maxL := 4) (ret := (some FieldType.long)) (by decide) rfl ?_
  intro p e s m args below meth c s₁ B hml hv
  obtain ⟨rfl, hsz, hB0, hP, hK, hD0, hN, hT0⟩ := hv
  have hx := B.exec
  have hb := B.bytes
  have hr := B.returns
  have hts := atoms_spec (ws := w_Model_listPart) B.pre
  have tbin : ∀ w ∈ tb, w ∈ w_Model_listPart := fun w h => List.mem_cons_of_mem _ h
  have htb : ∀ w ∈ tb, w.before _ s = true := fun w h => hts w (tbin w h)
  have hown : s.vm.findClass "TrustChainModel" = some m.cls := findClass_of_methodNamed B.named
  have hlocks := B.notSynchronized
  subst hsz
  have hD := hD0.self (sz := s.heap.size)
  generalize hAe : va_A [(q0, .inr (12, [.int er, .int fd, .int wg, .int nc, .int 0, .ref oc, .ref so, .ref rv, .ref sp, .int qs, .ref rz, .ref bl, .ref ww, .ref hs, .ref fi, .ref pm, .ref mx, .ref my, .ref mm, .ref mq, .ref mz, .ref wy, .ref fn, .int si, .int cs, .int cn, .int fa, .int pu, .int de, .int ve, .long nw, .int mk]))] s.heap.size = A at hD ⊢
  have hA : ∀ q : Nat, s.heap.size ≤ q → A q := fun q h => by rw [← hAe]; exact Or.inr h
  have hAs : ∀ q : Nat, A q → sb.1 ≤ q := fun q h => by
    rw [← hAe] at h
    rcases h with ⟨k, e, h⟩ | h
    · exact hD0.2 k _ h
    · exact Nat.le_trans hB0 h
  have hS : va_S A s.heap s.heap [] := va_S.rf
  have hcs : 0 ≤ (headSpec w_Model_listPart ({ frames := 3, cells := 0, slots := 0, locals := 90 })).room.cells ∧ 0 ≤ (headSpec w_Model_listPart ({ frames := 3, cells := 0, slots := 0, locals := 90 })).room.slots := ⟨Nat.le_refl _, Nat.le_refl _⟩
  have hP : va_P (dC, dI) classes [(q0, .inr (12, [.int er, .int fd, .int wg, .int nc, .int 0, .ref oc, .ref so, .ref rv, .ref sp, .int qs, .ref rz, .ref bl, .ref ww, .ref hs, .ref fi, .ref pm, .ref mx, .ref my, .ref mm, .ref mq, .ref mz, .ref wy, .ref fn, .int si, .int cs, .int cn, .int fa, .int pu, .int de, .int ve, .long nw, .int mk]))] s.heap := hP
  have hl := lv_entry ([.ref q0, .int i, .int j]) (n := 4) (Nat.le_of_ble_eq_true rfl)
  rw [lg_entry_eq]
  generalize (lg_sl ([.ref q0, .int i, .int j]) ++ List.replicate (4 - (lg_sl ([.ref q0, .int i, .int j])).length) Slot.unset).toArray = ls at hl ⊢
  have hl : lv_has ls 4 [(0, .ref q0), (1, .int i), (2, .int j)] := hl
  refine lv_aload_n hx hb d_Model_listPart_0 rfl (lv_at hl 0 rfl) ?_
  refine lv_iconst (v := 0) hx hb d_Model_listPart_1 (by decide) ?_
  refine va_put (v := .int 0) (ty := .int) hx hb htb i_Model t_Model t_Model_ok n_Model hown hK hP hD hS 0 rfl rfl 0 (by decide) (htb _ q7_214) (fun _ h9 => h9) rfl (by decide +kernel) rfl rfl (Nat.le_of_ble_eq_true rfl) d_Model_listPart_2 (fun H2 locs hP hD hS => ?_)
  have hP : va_P (dC, dI) classes [(q0, .inr (12, [.int 0, .int fd, .int wg, .int nc, .int 0, .ref oc, .ref so, .ref rv, .ref sp, .int qs, .ref rz, .ref bl, .ref ww, .ref hs, .ref fi, .ref pm, .ref mx, .ref my, .ref mm, .ref mq, .ref mz, .ref wy, .ref fn, .int si, .int cs, .int cn, .int fa, .int pu, .int de, .int ve, .long nw, .int mk]))] H2 := hP
  have hD : va_D A [(q0, .inr (12, [.int 0, .int fd, .int wg, .int nc, .int 0, .ref oc, .ref so, .ref rv, .ref sp, .int qs, .ref rz, .ref bl, .ref ww, .ref hs, .ref fi, .ref pm, .ref mx, .ref my, .ref mm, .ref mq, .ref mz, .ref wy, .ref fn, .int si, .int cs, .int cn, .int fa, .int pu, .int de, .int ve, .long nw, .int mk]))] := hD
  refine lv_aload_n hx hb d_Model_listPart_5 rfl (lv_at hl 0 rfl) ?_
  refine lv_iload_n hx hb d_Model_listPart_6 rfl (lv_at hl 2 rfl) ?_
  refine lv_iconst (v := 0) hx hb d_Model_listPart_7 (by decide) ?_
  refine lv_iconst (v := 3) hx hb d_Model_listPart_8 (by decide) ?_
  refine vp_callSi (pu_callS (As := [.int j, .int 0, .int 3]) (rest := [.ref q0]) ⟨hx, hb, hml, hown, hts⟩ tbin (c_Model_in l dC dI sb j 0 3) q9_68 q8_116 q1_9 q8_117 (n := 3) (by decide +kernel) rfl ⟨rfl, rfl⟩ ⟨Nat.le_of_ble_eq_true rfl, Nat.le_of_ble_eq_true rfl⟩ ⟨Nat.le_of_ble_eq_true rfl, Nat.le_of_ble_eq_true rfl⟩ hN (hT0.keep hS hAs) hK hP [] rfl [] rfl hl.1 rfl (Nat.le_of_ble_eq_true rfl) d_Model_listPart_9) (fun r9 hr9 => ?_)
  refine lv_if_ne (tgt := 19) hx hb d_Model_listPart_12 (by decide) (fun c12 => ?_) (fun c12 => ?_)
  · refine lv_iconst (v := 0) hx hb d_Model_listPart_19 (by decide) ?_
    refine lv_iconst (v := 1) hx hb d_Model_listPart_20 (by decide) ?_
    have hFc := va_free (wc := [(q0, .inr (12, [.int 0, .int fd, .int wg, .int nc, .int 0, .ref oc, .ref so, .ref rv, .ref sp, .int qs, .ref rz, .ref bl, .ref ww, .ref hs, .ref fi, .ref pm, .ref mx, .ref my, .ref mm, .ref mq, .ref mz, .ref wy, .ref fn, .int si, .int cs, .int cn, .int fa, .int pu, .int de, .int ve, .long nw, .int mk]))]) hD hS hA [0] rfl
    refine va_calli (mu_runV (As := [.int 0, .int 1]) (rest := []) ⟨hx, hb, hml, hown, hts⟩ tbin (c_Model_fails l dC dI sb q0 oc so rv sp rz bl ww hs fi pm mx my mm mq mz wy fn fd wg nc 0 qs si cs cn fa pu de ve mk nw 0 0 1 H2.size) q8_79 q8_81 qp_36 q1_9 q8_82 (n := 2) (by decide +kernel) rfl ⟨rfl, rfl⟩ ⟨Nat.le_of_ble_eq_true rfl, Nat.le_of_ble_eq_true rfl⟩ ⟨Nat.le_of_ble_eq_true rfl, Nat.le_of_ble_eq_true rfl⟩ hN (hT0.keep hS hAs) hAs (Nat.le_trans hB0 hS.1) hK hP hD [0] (by decide) rfl [] rfl 0 12 rfl rfl rfl hl.1 rfl (Nat.le_of_ble_eq_true rfl) d_Model_listPart_21) hS (fun q _ h => hFc q h) hFc (fun r21 u21 tS H21 locs ht hvm hw21 hB hz1 hk1 hS => ?_)
    obtain ⟨v21, rfl⟩ : ∃ z, z = u21 := ⟨_, rfl⟩
    obtain ⟨hP1, hK1, hD1⟩ := hB
    rw [ht] at hP1
    obtain ⟨hP, hD⟩ := va_join (wr := []) (w1 := [(q0, .inr (12, [.int v21, .int fd, .int wg, .int nc, .int 0, .ref oc, .ref so, .ref rv, .ref sp, .int qs, .ref rz, .ref bl, .ref ww, .ref hs, .ref fi, .ref pm, .ref mx, .ref my, .ref mm, .ref mq, .ref mz, .ref wy, .ref fn, .int si, .int cs, .int cn, .int fa, .int pu, .int de, .int ve, .long nw, .int mk]))]) hP hD [0] [] rfl rfl (by decide) (by decide) hk1 hFc hP1 hD1
    have hP : va_P (dC, dI) classes [(q0, .inr (12, [.int v21, .int fd, .int wg, .int nc, .int 0, .ref oc, .ref so, .ref rv, .ref sp, .int qs, .ref rz, .ref bl, .ref ww, .ref hs, .ref fi, .ref pm, .ref mx, .ref my, .ref mm, .ref mq, .ref mz, .ref wy, .ref fn, .int si, .int cs, .int cn, .int fa, .int pu, .int de, .int ve, .long nw, .int mk]))] H21 := hP
    have hD : va_D A [(q0, .inr (12, [.int v21, .int fd, .int wg, .int nc, .int 0, .ref oc, .ref so, .ref rv, .ref sp, .int qs, .ref rz, .ref bl, .ref ww, .ref hs, .ref fi, .ref pm, .ref mx, .ref my, .ref mm, .ref mq, .ref mz, .ref wy, .ref fn, .int si, .int cs, .int cn, .int fa, .int pu, .int de, .int ve, .long nw, .int mk]))] := hD
    obtain ⟨hv21, hz21⟩ := hw21
    rw [fl_0] at hv21
    subst hv21
    have hP : va_P (dC, dI) classes [(q0, .inr (12, [.int 0, .int fd, .int wg, .int nc, .int 0, .ref oc, .ref so, .ref rv, .ref sp, .int qs, .ref rz, .ref bl, .ref ww, .ref hs, .ref fi, .ref pm, .ref mx, .ref my, .ref mm, .ref mq, .ref mz, .ref wy, .ref fn, .int si, .int cs, .int cn, .int fa, .int pu, .int de, .int ve, .long nw, .int mk]))] H21 := hP
    have hD : va_D A [(q0, .inr (12, [.int 0, .int fd, .int wg, .int nc, .int 0, .ref oc, .ref so, .ref rv, .ref sp, .int qs, .ref rz, .ref bl, .ref ww, .ref hs, .ref fi, .ref pm, .ref mx, .ref my, .ref mm, .ref mq, .ref mz, .ref wy, .ref fn, .int si, .int cs, .int cn, .int fa, .int pu, .int de, .int ve, .long nw, .int mk]))] := hD
    refine lv_if_ne (tgt := 54) hx hb d_Model_listPart_24 (by decide) (fun c24 => ?_) (fun c24 => ?_)
    · exact absurd rfl (bz_1 hz21 c24)
    refine lv_aload_n hx hb d_Model_listPart_27 rfl (lv_at hl 0 rfl) ?_
    refine lv_iload_n hx hb d_Model_listPart_28 rfl (lv_at hl 1 rfl) ?_
    refine lv_iconst (v := 0) hx hb d_Model_listPart_29 (by decide) ?_
    refine lv_aload_n hx hb d_Model_listPart_30 rfl (lv_at hl 0 rfl) ?_
    refine va_get (v := .int 0) hx hb htb i_Model hown hK hP 0 rfl rfl 4 (by decide) (htb _ q7_218) (fun _ h9 => h9) rfl d_Model_listPart_31 ?_
    refine lv_iconst (v := 1) hx hb d_Model_listPart_34 (by decide) ?_
    refine lv_isub hx hb d_Model_listPart_35 ?_
    refine vp_callSi (pu_callS (As := [.int i, .int 0, .int (0 - 1)]) (rest := [.ref q0]) ⟨hx, hb, hml, hown, hts⟩ tbin (c_Model_in l dC dI sb i 0 (0 - 1)) q9_68 q8_116 q1_9 q8_117 (n := 3) (by decide +kernel) rfl ⟨rfl, rfl⟩ ⟨Nat.le_of_ble_eq_true rfl, Nat.le_of_ble_eq_true rfl⟩ ⟨Nat.le_of_ble_eq_true rfl, Nat.le_of_ble_eq_true rfl⟩ hN (hT0.keep hS hAs) hK hP [] rfl [] rfl hl.1 rfl (Nat.le_of_ble_eq_true rfl) d_Model_listPart_36) (fun r36 hr36 => ?_)
    refine lv_if_ne (tgt := 46) hx hb d_Model_listPart_39 (by decide) (fun c39 => ?_) (fun c39 => ?_)
    · exact absurd (bz_1 hr36 c39) x_p0
    refine lv_iconst (v := 1) hx hb d_Model_listPart_42 (by decide) ?_
    refine lv_goto (tgt := 47) hx hb d_Model_listPart_43 (by decide) ?_
    refine lv_iconst (v := 2) hx hb d_Model_listPart_47 (by decide) ?_
    have hFc := va_free (wc := [(q0, .inr (12, [.int 0, .int fd, .int wg, .int nc, .int 0, .ref oc, .ref so, .ref rv, .ref sp, .int qs, .ref rz, .ref bl, .ref ww, .ref hs, .ref fi, .ref pm, .ref mx, .ref my, .ref mm, .ref mq, .ref mz, .ref wy, .ref fn, .int si, .int cs, .int cn, .int fa, .int pu, .int de, .int ve, .long nw, .int mk]))]) hD hS hA [0] rfl
    refine va_calli (mu_runV (As := [.int 1, .int 2]) (rest := []) ⟨hx, hb, hml, hown, hts⟩ tbin (c_Model_fails l dC dI sb q0 oc so rv sp rz bl ww hs fi pm mx my mm mq mz wy fn fd wg nc 0 qs si cs cn fa pu de ve mk nw 0 1 2 H21.size) q8_79 q8_81 qp_36 q1_9 q8_82 (n := 2) (by decide +kernel) rfl ⟨rfl, rfl⟩ ⟨Nat.le_of_ble_eq_true rfl, Nat.le_of_ble_eq_true rfl⟩ ⟨Nat.le_of_ble_eq_true rfl, Nat.le_of_ble_eq_true rfl⟩ hN (hT0.keep hS hAs) hAs (Nat.le_trans hB0 hS.1) hK hP hD [0] (by decide) rfl [] rfl 0 12 rfl rfl rfl hl.1 rfl (Nat.le_of_ble_eq_true rfl) d_Model_listPart_48) hS (fun q _ h => hFc q h) hFc (fun r48 u48 tS H48 locs ht hvm hw48 hB hz1 hk1 hS => ?_)
    obtain ⟨v48, rfl⟩ : ∃ z, z = u48 := ⟨_, rfl⟩
    obtain ⟨hP1, hK1, hD1⟩ := hB
    rw [ht] at hP1
    obtain ⟨hP, hD⟩ := va_join (wr := []) (w1 := [(q0, .inr (12, [.int v48, .int fd, .int wg, .int nc, .int 0, .ref oc, .ref so, .ref rv, .ref sp, .int qs, .ref rz, .ref bl, .ref ww, .ref hs, .ref fi, .ref pm, .ref mx, .ref my, .ref mm, .ref mq, .ref mz, .ref wy, .ref fn, .int si, .int cs, .int cn, .int fa, .int pu, .int de, .int ve, .long nw, .int mk]))]) hP hD [0] [] rfl rfl (by decide) (by decide) hk1 hFc hP1 hD1
    have hP : va_P (dC, dI) classes [(q0, .inr (12, [.int v48, .int fd, .int wg, .int nc, .int 0, .ref oc, .ref so, .ref rv, .ref sp, .int qs, .ref rz, .ref bl, .ref ww, .ref hs, .ref fi, .ref pm, .ref mx, .ref my, .ref mm, .ref mq, .ref mz, .ref wy, .ref fn, .int si, .int cs, .int cn, .int fa, .int pu, .int de, .int ve, .long nw, .int mk]))] H48 := hP
    have hD : va_D A [(q0, .inr (12, [.int v48, .int fd, .int wg, .int nc, .int 0, .ref oc, .ref so, .ref rv, .ref sp, .int qs, .ref rz, .ref bl, .ref ww, .ref hs, .ref fi, .ref pm, .ref mx, .ref my, .ref mm, .ref mq, .ref mz, .ref wy, .ref fn, .int si, .int cs, .int cn, .int fa, .int pu, .int de, .int ve, .long nw, .int mk]))] := hD
    obtain ⟨hv48, hz48⟩ := hw48
    rw [fl_1] at hv48
    subst hv48
    have hP : va_P (dC, dI) classes [(q0, .inr (12, [.int 2, .int fd, .int wg, .int nc, .int 0, .ref oc, .ref so, .ref rv, .ref sp, .int qs, .ref rz, .ref bl, .ref ww, .ref hs, .ref fi, .ref pm, .ref mx, .ref my, .ref mm, .ref mq, .ref mz, .ref wy, .ref fn, .int si, .int cs, .int cn, .int fa, .int pu, .int de, .int ve, .long nw, .int mk]))] H48 := hP
    have hD : va_D A [(q0, .inr (12, [.int 2, .int fd, .int wg, .int nc, .int 0, .ref oc, .ref so, .ref rv, .ref sp, .int qs, .ref rz, .ref bl, .ref ww, .ref hs, .ref fi, .ref pm, .ref mx, .ref my, .ref mm, .ref mq, .ref mz, .ref wy, .ref fn, .int si, .int cs, .int cn, .int fa, .int pu, .int de, .int ve, .long nw, .int mk]))] := hD
    refine lv_if_eq (tgt := 56) hx hb d_Model_listPart_51 (by decide) (fun c51 => ?_) (fun c51 => ?_)
    · exact absurd (by decide) (bz_0 hz48 (by first | exact c51 | exact Classical.not_not.mp c51))
    refine lv_lconst (v := 0) hx hb d_Model_listPart_54 (by decide) ?_
    exact W.lret (v := 0) hx hb hr (fun t ht hW => ⟨⟨_, 2, rfl, ⟨(if_neg (fun q => q.elim (bz_1 hr9 c12).1 (bz_1 hr9 c12).2)).symm, rfl⟩, by rw [ht]; exact hP, va_K.moved hW.alike hK, hD⟩, hS.F ht⟩) hS.2.2 d_Model_listPart_55
  · refine lv_iconst (v := 1) hx hb d_Model_listPart_15 (by decide) ?_
    refine lv_goto (tgt := 20) hx hb d_Model_listPart_16 (by decide) ?_
    refine lv_iconst (v := 1) hx hb d_Model_listPart_20 (by decide) ?_
    have hFc := va_free (wc := [(q0, .inr (12, [.int 0, .int fd, .int wg, .int nc, .int 0, .ref oc, .ref so, .ref rv, .ref sp, .int qs, .ref rz, .ref bl, .ref ww, .ref hs, .ref fi, .ref pm, .ref mx, .ref my, .ref mm, .ref mq, .ref mz, .ref wy, .ref fn, .int si, .int cs, .int cn, .int fa, .int pu, .int de, .int ve, .long nw, .int mk]))]) hD hS hA [0] rfl
    refine va_calli (mu_runV (As := [.int 1, .int 1]) (rest := []) ⟨hx, hb, hml, hown, hts⟩ tbin (c_Model_fails l dC dI sb q0 oc so rv sp rz bl ww hs fi pm mx my mm mq mz wy fn fd wg nc 0 qs si cs cn fa pu de ve mk nw 0 1 1 H2.size) q8_79 q8_81 qp_36 q1_9 q8_82 (n := 2) (by decide +kernel) rfl ⟨rfl, rfl⟩ ⟨Nat.le_of_ble_eq_true rfl, Nat.le_of_ble_eq_true rfl⟩ ⟨Nat.le_of_ble_eq_true rfl, Nat.le_of_ble_eq_true rfl⟩ hN (hT0.keep hS hAs) hAs (Nat.le_trans hB0 hS.1) hK hP hD [0] (by decide) rfl [] rfl 0 12 rfl rfl rfl hl.1 rfl (Nat.le_of_ble_eq_true rfl) d_Model_listPart_21) hS (fun q _ h => hFc q h) hFc (fun r21 u21 tS H21 locs ht hvm hw21 hB hz1 hk1 hS => ?_)
    obtain ⟨v21, rfl⟩ : ∃ z, z = u21 := ⟨_, rfl⟩
    obtain ⟨hP1, hK1, hD1⟩ := hB
    rw [ht] at hP1
    obtain ⟨hP, hD⟩ := va_join (wr := []) (w1 := [(q0, .inr (12, [.int v21, .int fd, .int wg, .int nc, .int 0, .ref oc, .ref so, .ref rv, .ref sp, .int qs, .ref rz, .ref bl, .ref ww, .ref hs, .ref fi, .ref pm, .ref mx, .ref my, .ref mm, .ref mq, .ref mz, .ref wy, .ref fn, .int si, .int cs, .int cn, .int fa, .int pu, .int de, .int ve, .long nw, .int mk]))]) hP hD [0] [] rfl rfl (by decide) (by decide) hk1 hFc hP1 hD1
    have hP : va_P (dC, dI) classes [(q0, .inr (12, [.int v21, .int fd, .int wg, .int nc, .int 0, .ref oc, .ref so, .ref rv, .ref sp, .int qs, .ref rz, .ref bl, .ref ww, .ref hs, .ref fi, .ref pm, .ref mx, .ref my, .ref mm, .ref mq, .ref mz, .ref wy, .ref fn, .int si, .int cs, .int cn, .int fa, .int pu, .int de, .int ve, .long nw, .int mk]))] H21 := hP
    have hD : va_D A [(q0, .inr (12, [.int v21, .int fd, .int wg, .int nc, .int 0, .ref oc, .ref so, .ref rv, .ref sp, .int qs, .ref rz, .ref bl, .ref ww, .ref hs, .ref fi, .ref pm, .ref mx, .ref my, .ref mm, .ref mq, .ref mz, .ref wy, .ref fn, .int si, .int cs, .int cn, .int fa, .int pu, .int de, .int ve, .long nw, .int mk]))] := hD
    obtain ⟨hv21, hz21⟩ := hw21
    rw [fl_1] at hv21
    subst hv21
    have hP : va_P (dC, dI) classes [(q0, .inr (12, [.int 1, .int fd, .int wg, .int nc, .int 0, .ref oc, .ref so, .ref rv, .ref sp, .int qs, .ref rz, .ref bl, .ref ww, .ref hs, .ref fi, .ref pm, .ref mx, .ref my, .ref mm, .ref mq, .ref mz, .ref wy, .ref fn, .int si, .int cs, .int cn, .int fa, .int pu, .int de, .int ve, .long nw, .int mk]))] H21 := hP
    have hD : va_D A [(q0, .inr (12, [.int 1, .int fd, .int wg, .int nc, .int 0, .ref oc, .ref so, .ref rv, .ref sp, .int qs, .ref rz, .ref bl, .ref ww, .ref hs, .ref fi, .ref pm, .ref mx, .ref my, .ref mm, .ref mq, .ref mz, .ref wy, .ref fn, .int si, .int cs, .int cn, .int fa, .int pu, .int de, .int ve, .long nw, .int mk]))] := hD
    refine lv_if_ne (tgt := 54) hx hb d_Model_listPart_24 (by decide) (fun c24 => ?_) (fun c24 => ?_)
    rotate_left
    · exact absurd (by decide) (bz_0 hz21 (by first | exact c24 | exact Classical.not_not.mp c24))
    refine lv_lconst (v := 0) hx hb d_Model_listPart_54 (by decide) ?_
    exact W.lret (v := 0) hx hb hr (fun t ht hW => ⟨⟨_, 1, rfl, ⟨(if_pos (by by_cases h : j < 0; exact Or.inl h; exact Or.inr (Classical.byContradiction fun z => (bz_0 hr9 (by first | exact c12 | exact Classical.not_not.mp c12)) ⟨h, z⟩))).symm, rfl⟩, by rw [ht]; exact hP, va_K.moved hW.alike hK, hD⟩, hS.F ht⟩) hS.2.2 d_Model_listPart_55
def y_Model_signed : MethodName := ⟨"TrustChainModel", "signed", "(ZII)Z"⟩
abbrev b_Model_signed : ByteArray := prog_14_method_30_code
def w_Model_signed : List Cond := Cond.code y_Model_signed b_Model_signed 4 ((some FieldType.boolean)) :: tb
theorem d_Model_signed_0 : decode b_Model_signed 0 = .ok (.aload_n 0, 1) := by decide +kernel
theorem d_Model_signed_1 : decode b_Model_signed 1 = .ok (.iconst 0, 1) := by decide +kernel
theorem d_Model_signed_2 : decode b_Model_signed 2 = .ok (.putfield 145, 3) := by decide +kernel
theorem d_Model_signed_5 : decode b_Model_signed 5 = .ok (.aload_n 0, 1) := by decide +kernel
theorem d_Model_signed_6 : decode b_Model_signed 6 = .ok (.iload_n 2, 1) := by decide +kernel
theorem d_Model_signed_7 : decode b_Model_signed 7 = .ok (.iconst 0, 1) := by decide +kernel
theorem d_Model_signed_8 : decode b_Model_signed 8 = .ok (.iload_n 1, 1) := by decide +kernel
theorem d_Model_signed_9 : decode b_Model_signed 9 = .ok (.ifCond .eq 10, 3) := by decide +kernel
theorem d_Model_signed_12 : decode b_Model_signed 12 = .ok (.aload_n 0, 1) := by decide +kernel
theorem d_Model_signed_13 : decode b_Model_signed 13 = .ok (.getfield 180, 3) := by decide +kernel
theorem d_Model_signed_16 : decode b_Model_signed 16 = .ok (.goto 7, 3) := by decide +kernel
theorem d_Model_signed_19 : decode b_Model_signed 19 = .ok (.aload_n 0, 1) := by decide +kernel
theorem d_Model_signed_20 : decode b_Model_signed 20 = .ok (.getfield 183, 3) := by decide +kernel
theorem d_Model_signed_23 : decode b_Model_signed 23 = .ok (.iconst 1, 1) := by decide +kernel
theorem d_Model_signed_24 : decode b_Model_signed 24 = .ok (.isub, 1) := by decide +kernel
theorem d_Model_signed_25 : decode b_Model_signed 25 = .ok (.invokestatic 205, 3) := by decide +kernel
theorem d_Model_signed_28 : decode b_Model_signed 28 = .ok (.ifCond .eq 17, 3) := by decide +kernel
theorem d_Model_signed_31 : decode b_Model_signed 31 = .ok (.iload_n 3, 1) := by decide +kernel
theorem d_Model_signed_32 : decode b_Model_signed 32 = .ok (.iconst 0, 1) := by decide +kernel
theorem d_Model_signed_33 : decode b_Model_signed 33 = .ok (.aload_n 0, 1) := by decide +kernel
theorem d_Model_signed_34 : decode b_Model_signed 34 = .ok (.getfield 183, 3) := by decide +kernel
theorem d_Model_signed_37 : decode b_Model_signed 37 = .ok (.iconst 1, 1) := by decide +kernel
theorem d_Model_signed_38 : decode b_Model_signed 38 = .ok (.isub, 1) := by decide +kernel
theorem d_Model_signed_39 : decode b_Model_signed 39 = .ok (.invokestatic 205, 3) := by decide +kernel
theorem d_Model_signed_42 : decode b_Model_signed 42 = .ok (.ifCond .ne 7, 3) := by decide +kernel
theorem d_Model_signed_45 : decode b_Model_signed 45 = .ok (.iconst 1, 1) := by decide +kernel
theorem d_Model_signed_46 : decode b_Model_signed 46 = .ok (.goto 4, 3) := by decide +kernel
theorem d_Model_signed_49 : decode b_Model_signed 49 = .ok (.iconst 0, 1) := by decide +kernel
theorem d_Model_signed_50 : decode b_Model_signed 50 = .ok (.iconst 1, 1) := by decide +kernel
theorem d_Model_signed_51 : decode b_Model_signed 51 = .ok (.invokevirtual 176, 3) := by decide +kernel
theorem d_Model_signed_54 : decode b_Model_signed 54 = .ok (.ifCond .eq 5, 3) := by decide +kernel
theorem d_Model_signed_57 : decode b_Model_signed 57 = .ok (.iconst 0, 1) := by decide +kernel
theorem d_Model_signed_58 : decode b_Model_signed 58 = .ok (.ireturn, 1) := by decide +kernel
theorem d_Model_signed_59 : decode b_Model_signed 59 = .ok (.aload_n 0, 1) := by decide +kernel
theorem d_Model_signed_60 : decode b_Model_signed 60 = .ok (.iload_n 1, 1) := by decide +kernel
theorem d_Model_signed_61 : decode b_Model_signed 61 = .ok (.ifCond .eq 12, 3) := by decide +kernel
set_option maxHeartbeats 4000000 in
set_option maxRecDepth 100000 in
theorem c0_Model_signed (l : Launch) (dC : Nat → ClassId) (dI : Nat → Nat → Nat) (sb : sB) (q0 oc so rv sp rz bl ww hs fi pm mx my mm mq mz wy fn : Nat) (fd wg qs si cs cn fa pu de ve mk : Int32) (nw : Int64) (er h i j : Int32) (sz : Nat) : Met l y_Model_signed w_Model_signed ({ frames := 3, cells := 0, slots := 0, locals := 90 }) (mu_P [.ref q0, .int h, .int i, .int j] (dC, dI) sb [(q0, .inr (12, [.int er, .int fd, .int wg, .int 0, .int 0, .ref oc, .ref so, .ref rv, .ref sp, .int qs, .ref rz, .ref bl, .ref ww, .ref hs, .ref fi, .ref pm, .ref mx, .ref my, .ref mm, .ref mq, .ref mz, .ref wy, .ref fn, .int si, .int cs, .int cn, .int fa, .int pu, .int de, .int ve, .long nw, .int mk]))] [] sz) (va_Qi (fun r (u : Int32) => u = 1 ∧ r = 0) (mu_B (dC, dI) [] (va_A [(q0, .inr (12, [.int er, .int fd, .int wg, .int 0, .int 0, .ref oc, .ref so, .ref rv, .ref sp, .int qs, .ref rz, .ref bl, .ref ww, .ref hs, .ref fi, .ref pm, .ref mx, .ref my, .ref mm, .ref mq, .ref mz, .ref wy, .ref fn, .int si, .int cs, .int cn, .int fa, .int pu, .int de, .int ve, .long nw, .int mk]))] sz) (fun u : Int32 => [(q0, .inr (12, [.int u, .int fd, .int wg, .int 0, .int 0, .ref oc, .ref so, .ref rv, .ref sp, .int qs, .ref rz, .ref bl, .ref ww, .ref hs, .ref fi, .ref pm, .ref mx, .ref my, .ref mm, .ref mq, .ref mz, .ref wy, .ref fn, .int si, .int cs, .int cn, .int fa, .int pu, .int de, .int ve, .long nw, .int mk]))])) (va_A [(q0, .inr (12, [.int er, .int fd, .int wg, .int 0, .int 0, .ref oc, .ref so, .ref rv, .ref sp, .int qs, .ref rz, .ref bl, .ref ww, .ref hs, .ref fi, .ref pm, .ref mx, .ref my, .ref mm, .ref mq, .ref mz, .ref wy, .ref fn, .int si, .int cs, .int cn, .int fa, .int pu, .int de, .int ve, .long nw, .int mk]))] sz)) 0 0 (va_A [(q0, .inr (12, [.int er, .int fd, .int wg, .int 0, .int 0, .ref oc, .ref so, .ref rv, .ref sp, .int qs, .ref rz, .ref bl, .ref ww, .ref hs, .ref fi, .ref pm, .ref mx, .ref my, .ref mm, .ref mq, .ref mz, .ref wy, .ref fn, .int si, .int cs, .int cn, .int fa, .int pu, .int de, .int ve, .long nw, .int mk]))] sz) := by
  refine Met.ofW (cc := b_Model_signed) (maxL := 4) (ret := (some FieldType.boolean)) (by decide) rfl ?_
  intro p e s m args below meth c s₁ B hml hv
  obtain ⟨rfl, hsz, hB0, hP, hK, hD0, hN, hT0⟩ := hv
  have hx := B.exec
  have hb := B.bytes
  have hr := B.returns
  have hts := atoms_spec (ws := w_Model_signed) B.pre
  have tbin : ∀ w ∈ tb, w ∈ w_Model_signed := fun w h => List.mem_cons_of_mem _ h
  have htb : ∀ w ∈ tb, w.before _ s = true := fun w h => hts w (tbin w h)
  have hown : s.vm.findClass "TrustChainModel" = some m.cls := findClass_of_methodNamed B.named
  have hlocks := B.notSynchronized
  subst hsz
  have hD := hD0.self (sz := s.heap.size)
  generalize hAe : va_A [(q0, .inr (12, [.int er, .int fd, .int wg, .int 0, .int 0, .ref oc, .ref so, .ref rv, .ref sp, .int qs, .ref rz, .ref bl, .ref ww, .ref hs, .ref fi, .ref pm, .ref mx, .ref my, .ref mm, .ref mq, .ref mz, .ref wy, .ref fn, .int si, .int cs, .int cn, .int fa, .int pu, .int de, .int ve, .long nw, .int mk]))] s.heap.size = A at hD ⊢
  have hA : ∀ q : Nat, s.heap.size ≤ q → A q := fun q h => by rw [← hAe]; exact Or.inr h
  have hAs : ∀ q : Nat, A q → sb.1 ≤ q := fun q h => by
    rw [← hAe] at h
    rcases h with ⟨k, e, h⟩ | h
    · exact hD0.2 k _ h
    · exact Nat.le_trans hB0 h
  have hS : va_S A s.heap s.heap [] := va_S.rf
  have hcs : 0 ≤ (headSpec w_Model_signed ({ frames := 3, cells := 0, slots := 0, locals := 90 })).room.cells ∧ 0 ≤ (headSpec w_Model_signed ({ frames := 3, cells := 0, slots := 0, locals := 90 })).room.slots := ⟨Nat.le_refl _, Nat.le_refl _⟩
  have hP : va_P (dC, dI) classes [(q0, .inr (12, [.int er, .int fd, .int wg, .int 0, .int 0, .ref oc, .ref so, .ref rv, .ref sp, .int qs, .ref rz, .ref bl, .ref ww, .ref hs, .ref fi, .ref pm, .ref mx, .ref my, .ref mm, .ref mq, .ref mz, .ref wy, .ref fn, .int si, .int cs, .int cn, .int fa, .int pu, .int de, .int ve, .long nw, .int mk]))] s.heap := hP
  have hl := lv_entry ([.ref q0, .int h, .int i, .int j]) (n := 4) (Nat.le_of_ble_eq_true rfl)
  rw [lg_entry_eq]
  generalize (lg_sl ([.ref q0, .int h, .int i, .int j]) ++ List.replicate (4 - (lg_sl ([.ref q0, .int h, .int i, .int j])).length) Slot.unset).toArray = ls at hl ⊢
  have hl : lv_has ls 4 [(0, .ref q0), (1, .int h), (2, .int i), (3, .int j)] := hl
  refine lv_aload_n hx hb d_Model_signed_0 rfl (lv_at hl 0 rfl) ?_
  refine lv_iconst (v := 0) hx hb d_Model_signed_1 (by decide) ?_
  refine va_put (v := .int 0) (ty := .int) hx hb htb i_Model t_Model t_Model_ok n_Model hown hK hP hD hS 0 rfl rfl 0 (by decide) (htb _ q7_214) (fun _ h9 => h9) rfl (by decide +kernel) rfl rfl (Nat.le_of_ble_eq_true rfl) d_Model_signed_2 (fun H2 locs hP hD hS => ?_)
  have hP : va_P (dC, dI) classes [(q0, .inr (12, [.int 0, .int fd, .int wg, .int 0, .int 0, .ref oc, .ref so, .ref rv, .ref sp, .int qs, .ref rz, .ref bl, .ref ww, .ref hs, .ref fi, .ref pm, .ref mx, .ref my, .ref mm, .ref mq, .ref mz, .ref wy, .ref fn, .int si, .int cs, .int cn, .int fa, .int pu, .int de, .int ve, .long nw, .int mk]))] H2 := hP
  have hD : va_D A [(q0, .inr (12, [.int 0, .int fd, .int wg, .int 0, .int 0, .ref oc, .ref so, .ref rv, .ref sp, .int qs, .ref rz, .ref bl, .ref ww, .ref hs, .ref fi, .ref pm, .ref mx, .ref my, .ref mm, .ref mq, .ref mz, .ref wy, .ref fn, .int si, .int cs, .int cn, .int fa, .int pu, .int de, .int ve, .long nw, .int mk]))] := hD
  refine lv_aload_n hx hb d_Model_signed_5 rfl (lv_at hl 0 rfl) ?_
  refine lv_iload_n hx hb d_Model_signed_6 rfl (lv_at hl 2 rfl) ?_
  refine lv_iconst (v := 0) hx hb d_Model_signed_7 (by decide) ?_
  refine lv_iload_n hx hb d_Model_signed_8 rfl (lv_at hl 1 rfl) ?_
  refine lv_if_eq (tgt := 19) hx hb d_Model_signed_9 (by decide) (fun c9 => ?_) (fun c9 => ?_)
  · refine lv_aload_n hx hb d_Model_signed_19 rfl (lv_at hl 0 rfl) ?_
    refine va_get (v := .int 0) hx hb htb i_Model hown hK hP 0 rfl rfl 3 (by decide) (htb _ q7_217) (fun _ h9 => h9) rfl d_Model_signed_20 ?_
    refine lv_iconst (v := 1) hx hb d_Model_signed_23 (by decide) ?_
    refine lv_isub hx hb d_Model_signed_24 ?_
    refine vp_callSi (pu_callS (As := [.int i, .int 0, .int (0 - 1)]) (rest := [.ref q0]) ⟨hx, hb, hml, hown, hts⟩ tbin (c_Model_in l dC dI sb i 0 (0 - 1)) q9_68 q8_116 q1_9 q8_117 (n := 3) (by decide +kernel) rfl ⟨rfl, rfl⟩ ⟨Nat.le_of_ble_eq_true rfl, Nat.le_of_ble_eq_true rfl⟩ ⟨Nat.le_of_ble_eq_true rfl, Nat.le_of_ble_eq_true rfl⟩ hN (hT0.keep hS hAs) hK hP [] rfl [] rfl hl.1 rfl (Nat.le_of_ble_eq_true rfl) d_Model_signed_25) (fun r25 hr25 => ?_)
    refine lv_if_eq (tgt := 45) hx hb d_Model_signed_28 (by decide) (fun c28 => ?_) (fun c28 => ?_)
    rotate_left
    · exact absurd (bz_1 hr25 c28) x_p0
    refine lv_iconst (v := 1) hx hb d_Model_signed_45 (by decide) ?_
    refine lv_goto (tgt := 50) hx hb d_Model_signed_46 (by decide) ?_
    refine lv_iconst (v := 1) hx hb d_Model_signed_50 (by decide) ?_
    have hFc := va_free (wc := [(q0, .inr (12, [.int 0, .int fd, .int wg, .int 0, .int 0, .ref oc, .ref so, .ref rv, .ref sp, .int qs, .ref rz, .ref bl, .ref ww, .ref hs, .ref fi, .ref pm, .ref mx, .ref my, .ref mm, .ref mq, .ref mz, .ref wy, .ref fn, .int si, .int cs, .int cn, .int fa, .int pu, .int de, .int ve, .long nw, .int mk]))]) hD hS hA [0] rfl
    refine va_calli (mu_runV (As := [.int 1, .int 1]) (rest := []) ⟨hx, hb, hml, hown, hts⟩ tbin (c_Model_fails l dC dI sb q0 oc so rv sp rz bl ww hs fi pm mx my mm mq mz wy fn fd wg 0 0 qs si cs cn fa pu de ve mk nw 0 1 1 H2.size) q8_79 q8_81 qp_36 q1_9 q8_82 (n := 2) (by decide +kernel) rfl ⟨rfl, rfl⟩ ⟨Nat.le_of_ble_eq_true rfl, Nat.le_of_ble_eq_true rfl⟩ ⟨Nat.le_of_ble_eq_true rfl, Nat.le_of_ble_eq_true rfl⟩ hN (hT0.keep hS hAs) hAs (Nat.le_trans hB0 hS.1) hK hP hD [0] (by decide) rfl [] rfl 0 12 rfl rfl rfl hl.1 rfl (Nat.le_of_ble_eq_true rfl) d_Model_signed_51) hS (fun q _ h => hFc q h) hFc (fun r51 u51 tS H51 locs ht hvm hw51 hB hz1 hk1 hS => ?_)
    obtain ⟨v51, rfl⟩ : ∃ z, z = u51 := ⟨_, rfl⟩
    obtain ⟨hP1, hK1, hD1⟩ := hB
    rw [ht] at hP1
    obtain ⟨hP, hD⟩ := va_join (wr := []) (w1 := [(q0, .inr (12, [.int v51, .int fd, .int wg, .int 0, .int 0, .ref oc, .ref so, .ref rv, .ref sp, .int qs, .ref rz, .ref bl, .ref ww, .ref hs, .ref fi, .ref pm, .ref mx, .ref my, .ref mm, .ref mq, .ref mz, .ref wy, .ref fn, .int si, .int cs, .int cn, .int fa, .int pu, .int de, .int ve, .long nw, .int mk]))]) hP hD [0] [] rfl rfl (by decide) (by decide) hk1 hFc hP1 hD1
    have hP : va_P (dC, dI) classes [(q0, .inr (12, [.int v51, .int fd, .int wg, .int 0, .int 0, .ref oc, .ref so, .ref rv, .ref sp, .int qs, .ref rz, .ref bl, .ref ww, .ref hs, .ref fi, .ref pm, .ref mx, .ref my, .ref mm, .ref mq, .ref mz, .ref wy, .ref fn, .int si, .int cs, .int cn, .int fa, .int pu, .int de, .int ve, .long nw, .int mk]))] H51 := hP
    have hD : va_D A [(q0, .inr (12, [.int v51, .int fd, .int wg, .int 0, .int 0, .ref oc, .ref so, .ref rv, .ref sp, .int qs, .ref rz, .ref bl, .ref ww, .ref hs, .ref fi, .ref pm, .ref mx, .ref my, .ref mm, .ref mq, .ref mz, .ref wy, .ref fn, .int si, .int cs, .int cn, .int fa, .int pu, .int de, .int ve, .long nw, .int mk]))] := hD
    obtain ⟨hv51, hz51⟩ := hw51
    rw [fl_1] at hv51
    subst hv51
    have hP : va_P (dC, dI) classes [(q0, .inr (12, [.int 1, .int fd, .int wg, .int 0, .int 0, .ref oc, .ref so, .ref rv, .ref sp, .int qs, .ref rz, .ref bl, .ref ww, .ref hs, .ref fi, .ref pm, .ref mx, .ref my, .ref mm, .ref mq, .ref mz, .ref wy, .ref fn, .int si, .int cs, .int cn, .int fa, .int pu, .int de, .int ve, .long nw, .int mk]))] H51 := hP
    have hD : va_D A [(q0, .inr (12, [.int 1, .int fd, .int wg, .int 0, .int 0, .ref oc, .ref so, .ref rv, .ref sp, .int qs, .ref rz, .ref bl, .ref ww, .ref hs, .ref fi, .ref pm, .ref mx, .ref my, .ref mm, .ref mq, .ref mz, .ref wy, .ref fn, .int si, .int cs, .int cn, .int fa, .int pu, .int de, .int ve, .long nw, .int mk]))] := hD
    refine lv_if_eq (tgt := 59) hx hb d_Model_signed_54 (by decide) (fun c54 => ?_) (fun c54 => ?_)
    · exact absurd (by decide) (bz_0 hz51 (by first | exact c54 | exact Classical.not_not.mp c54))
    refine lv_iconst (v := 0) hx hb d_Model_signed_57 (by decide) ?_
    exact W.zret (v := 0) hx hb hr (bz_n (bz_f not_false)) (fun t ht hW => ⟨⟨_, 1, rfl, ⟨rfl, rfl⟩, by rw [ht]; exact hP, va_K.moved hW.alike hK, hD⟩, hS.F ht⟩) hS.2.2 d_Model_signed_58
  · refine lv_aload_n hx hb d_Model_signed_12 rfl (lv_at hl 0 rfl) ?_
    refine va_get (v := .int 0) hx hb htb i_Model hown hK hP 0 rfl rfl 4 (by decide) (htb _ q7_218) (fun _ h9 => h9) rfl d_Model_signed_13 ?_
    refine lv_goto (tgt := 23) hx hb d_Model_signed_16 (by decide) ?_
    refine lv_iconst (v := 1) hx hb d_Model_signed_23 (by decide) ?_
    refine lv_isub hx hb d_Model_signed_24 ?_
    refine vp_callSi (pu_callS (As := [.int i, .int 0, .int (0 - 1)]) (rest := [.ref q0]) ⟨hx, hb, hml, hown, hts⟩ tbin (c_Model_in l dC dI sb i 0 (0 - 1)) q9_68 q8_116 q1_9 q8_117 (n := 3) (by decide +kernel) rfl ⟨rfl, rfl⟩ ⟨Nat.le_of_ble_eq_true rfl, Nat.le_of_ble_eq_true rfl⟩ ⟨Nat.le_of_ble_eq_true rfl, Nat.le_of_ble_eq_true rfl⟩ hN (hT0.keep hS hAs) hK hP [] rfl [] rfl hl.1 rfl (Nat.le_of_ble_eq_true rfl) d_Model_signed_25) (fun r25 hr25 => ?_)
    refine lv_if_eq (tgt := 45) hx hb d_Model_signed_28 (by decide) (fun c28 => ?_) (fun c28 => ?_)
    rotate_left
    · exact absurd (bz_1 hr25 c28) x_p0
    refine lv_iconst (v := 1) hx hb d_Model_signed_45 (by decide) ?_
    refine lv_goto (tgt := 50) hx hb d_Model_signed_46 (by decide) ?_
    refine lv_iconst (v := 1) hx hb d_Model_signed_50 (by decide) ?_
    have hFc := va_free (wc := [(q0, .inr (12, [.int 0, .int fd, .int wg, .int 0, .int 0, .ref oc, .ref so, .ref rv, .ref sp, .int qs, .ref rz, .ref bl, .ref ww, .ref hs, .ref fi, .ref pm, .ref mx, .ref my, .ref mm, .ref mq, .ref mz, .ref wy, .ref fn, .int si, .int cs, .int cn, .int fa, .int pu, .int de, .int ve, .long nw, .int mk]))]) hD hS hA [0] rfl
    refine va_calli (mu_runV (As := [.int 1, .int 1]) (rest := []) ⟨hx, hb, hml, hown, hts⟩ tbin (c_Model_fails l dC dI sb q0 oc so rv sp rz bl ww hs fi pm mx my mm mq mz wy fn fd wg 0 0 qs si cs cn fa pu de ve mk nw 0 1 1 H2.size) q8_79 q8_81 qp_36 q1_9 q8_82 (n := 2) (by decide +kernel) rfl ⟨rfl, rfl⟩ ⟨Nat.le_of_ble_eq_true rfl, Nat.le_of_ble_eq_true rfl⟩ ⟨Nat.le_of_ble_eq_true rfl, Nat.le_of_ble_eq_true rfl⟩ hN (hT0.keep hS hAs) hAs (Nat.le_trans hB0 hS.1) hK hP hD [0] (by decide) rfl [] rfl 0 12 rfl rfl rfl hl.1 rfl (Nat.le_of_ble_eq_true rfl) d_Model_signed_51) hS (fun q _ h => hFc q h) hFc (fun r51 u51 tS H51 locs ht hvm hw51 hB hz1 hk1 hS => ?_)
    obtain ⟨v51, rfl⟩ : ∃ z, z = u51 := ⟨_, rfl⟩
    obtain ⟨hP1, hK1, hD1⟩ := hB
    rw [ht] at hP1
    obtain ⟨hP, hD⟩ := va_join (wr := []) (w1 := [(q0, .inr (12, [.int v51, .int fd, .int wg, .int 0, .int 0, .ref oc, .ref so, .ref rv, .ref sp, .int qs, .ref rz, .ref bl, .ref ww, .ref hs, .ref fi, .ref pm, .ref mx, .ref my, .ref mm, .ref mq, .ref mz, .ref wy, .ref fn, .int si, .int cs, .int cn, .int fa, .int pu, .int de, .int ve, .long nw, .int mk]))]) hP hD [0] [] rfl rfl (by decide) (by decide) hk1 hFc hP1 hD1
    have hP : va_P (dC, dI) classes [(q0, .inr (12, [.int v51, .int fd, .int wg, .int 0, .int 0, .ref oc, .ref so, .ref rv, .ref sp, .int qs, .ref rz, .ref bl, .ref ww, .ref hs, .ref fi, .ref pm, .ref mx, .ref my, .ref mm, .ref mq, .ref mz, .ref wy, .ref fn, .int si, .int cs, .int cn, .int fa, .int pu, .int de, .int ve, .long nw, .int mk]))] H51 := hP
    have hD : va_D A [(q0, .inr (12, [.int v51, .int fd, .int wg, .int 0, .int 0, .ref oc, .ref so, .ref rv, .ref sp, .int qs, .ref rz, .ref bl, .ref ww, .ref hs, .ref fi, .ref pm, .ref mx, .ref my, .ref mm, .ref mq, .ref mz, .ref wy, .ref fn, .int si, .int cs, .int cn, .int fa, .int pu, .int de, .int ve, .long nw, .int mk]))] := hD
    obtain ⟨hv51, hz51⟩ := hw51
    rw [fl_1] at hv51
    subst hv51
    have hP : va_P (dC, dI) classes [(q0, .inr (12, [.int 1, .int fd, .int wg, .int 0, .int 0, .ref oc, .ref so, .ref rv, .ref sp, .int qs, .ref rz, .ref bl, .ref ww, .ref hs, .ref fi, .ref pm, .ref mx, .ref my, .ref mm, .ref mq, .ref mz, .ref wy, .ref fn, .int si, .int cs, .int cn, .int fa, .int pu, .int de, .int ve, .long nw, .int mk]))] H51 := hP
    have hD : va_D A [(q0, .inr (12, [.int 1, .int fd, .int wg, .int 0, .int 0, .ref oc, .ref so, .ref rv, .ref sp, .int qs, .ref rz, .ref bl, .ref ww, .ref hs, .ref fi, .ref pm, .ref mx, .ref my, .ref mm, .ref mq, .ref mz, .ref wy, .ref fn, .int si, .int cs, .int cn, .int fa, .int pu, .int de, .int ve, .long nw, .int mk]))] := hD
    refine lv_if_eq (tgt := 59) hx hb d_Model_signed_54 (by decide) (fun c54 => ?_) (fun c54 => ?_)
    · exact absurd (by decide) (bz_0 hz51 (by first | exact c54 | exact Classical.not_not.mp c54))
    refine lv_iconst (v := 0) hx hb d_Model_signed_57 (by decide) ?_
    exact W.zret (v := 0) hx hb hr (bz_n (bz_f not_false)) (fun t ht hW => ⟨⟨_, 1, rfl, ⟨rfl, rfl⟩, by rw [ht]; exact hP, va_K.moved hW.alike hK, hD⟩, hS.F ht⟩) hS.2.2 d_Model_signed_58
def y_Model_digest0 : MethodName := ⟨"TrustChainModel", "digest", "(II)I"⟩
abbrev b_Model_digest0 : ByteArray := prog_14_method_26_code
def w_Model_digest0 : List Cond := Cond.code y_Model_digest0 b_Model_digest0 3 ((some FieldType.int)) :: tb
theorem d_Model_digest0_0 : decode b_Model_digest0 0 = .ok (.aload_n 0, 1) := by decide +kernel
theorem d_Model_digest0_1 : decode b_Model_digest0 1 = .ok (.iconst 0, 1) := by decide +kernel
theorem d_Model_digest0_2 : decode b_Model_digest0 2 = .ok (.putfield 145, 3) := by decide +kernel
theorem d_Model_digest0_5 : decode b_Model_digest0 5 = .ok (.aload_n 0, 1) := by decide +kernel
theorem d_Model_digest0_6 : decode b_Model_digest0 6 = .ok (.iload_n 1, 1) := by decide +kernel
theorem d_Model_digest0_7 : decode b_Model_digest0 7 = .ok (.iconst 0, 1) := by decide +kernel
theorem d_Model_digest0_8 : decode b_Model_digest0 8 = .ok (.aload_n 0, 1) := by decide +kernel
theorem d_Model_digest0_9 : decode b_Model_digest0 9 = .ok (.getfield 183, 3) := by decide +kernel
theorem d_Model_digest0_12 : decode b_Model_digest0 12 = .ok (.iconst 1, 1) := by decide +kernel
theorem d_Model_digest0_13 : decode b_Model_digest0 13 = .ok (.isub, 1) := by decide +kernel
theorem d_Model_digest0_14 : decode b_Model_digest0 14 = .ok (.invokestatic 205, 3) := by decide +kernel
theorem d_Model_digest0_17 : decode b_Model_digest0 17 = .ok (.ifCond .eq 13, 3) := by decide +kernel
theorem d_Model_digest0_20 : decode b_Model_digest0 20 = .ok (.iload_n 2, 1) := by decide +kernel
theorem d_Model_digest0_21 : decode b_Model_digest0 21 = .ok (.iconst 0, 1) := by decide +kernel
theorem d_Model_digest0_22 : decode b_Model_digest0 22 = .ok (.bipush 7, 2) := by decide +kernel
theorem d_Model_digest0_24 : decode b_Model_digest0 24 = .ok (.invokestatic 205, 3) := by decide +kernel
theorem d_Model_digest0_27 : decode b_Model_digest0 27 = .ok (.ifCond .ne 7, 3) := by decide +kernel
theorem d_Model_digest0_30 : decode b_Model_digest0 30 = .ok (.iconst 1, 1) := by decide +kernel
theorem d_Model_digest0_31 : decode b_Model_digest0 31 = .ok (.goto 4, 3) := by decide +kernel
theorem d_Model_digest0_34 : decode b_Model_digest0 34 = .ok (.iconst 0, 1) := by decide +kernel
theorem d_Model_digest0_35 : decode b_Model_digest0 35 = .ok (.iconst 1, 1) := by decide +kernel
theorem d_Model_digest0_36 : decode b_Model_digest0 36 = .ok (.invokevirtual 176, 3) := by decide +kernel
theorem d_Model_digest0_39 : decode b_Model_digest0 39 = .ok (.ifCond .eq 5, 3) := by decide +kernel
theorem d_Model_digest0_42 : decode b_Model_digest0 42 = .ok (.iconst 0, 1) := by decide +kernel
theorem d_Model_digest0_43 : decode b_Model_digest0 43 = .ok (.ireturn, 1) := by decide +kernel
theorem d_Model_digest0_44 : decode b_Model_digest0 44 = .ok (.aload_n 0, 1) := by decide +kernel
theorem d_Model_digest0_45 : decode b_Model_digest0 45 = .ok (.aload_n 0, 1) := by decide +kernel
theorem d_Model_digest0_46 : decode b_Model_digest0 46 = .ok (.getfield 19, 3) := by decide +kernel
set_option maxHeartbeats 4000000 in
set_option maxRecDepth 100000 in
theorem c0_Model_digest (l : Launch) (dC : Nat → ClassId) (dI : Nat → Nat → Nat) (sb : sB) (q0 oc so rv sp rz bl ww hs fi pm mx my mm mq mz wy fn : Nat) (fd wg nl qs si cs cn fa pu de ve mk : Int32) (nw : Int64) (er i j : Int32) (sz : Nat) : Met l y_Model_digest0 w_Model_digest0 ({ frames := 3, cells := 0, slots := 0, locals := 90 }) (mu_P [.ref q0, .int i, .int j] (dC, dI) sb [(q0, .inr (12, [.int er, .int fd, .int wg, .int 0, .int nl, .ref oc, .ref so, .ref rv, .ref sp, .int qs, .ref rz, .ref bl, .ref ww, .ref hs, .ref fi, .ref pm, .ref mx, .ref my, .ref mm, .ref mq, .ref mz, .ref wy, .ref fn, .int si, .int cs, .int cn, .int fa, .int pu, .int de, .int ve, .long nw, .int mk]))] [] sz) (va_Qi (fun r (u : Int32) => u = 1 ∧ r = 0) (mu_B (dC, dI) [] (va_A [(q0, .inr (12, [.int er, .int fd, .int wg, .int 0, .int nl, .ref oc, .ref so, .ref rv, .ref sp, .int qs, .ref rz, .ref bl, .ref ww, .ref hs, .ref fi, .ref pm, .ref mx, .ref my, .ref mm, .ref mq, .ref mz, .ref wy, .ref fn, .int si, .int cs, .int cn, .int fa, .int pu, .int de, .int ve, .long nw, .int mk]))] sz) (fun u : Int32 => [(q0, .inr (12, [.int u, .int fd, .int wg, .int 0, .int nl, .ref oc, .ref so, .ref rv, .ref sp, .int qs, .ref rz, .ref bl, .ref ww, .ref hs, .ref fi, .ref pm, .ref mx, .ref my, .ref mm, .ref mq, .ref mz, .ref wy, .ref fn, .int si, .int cs, .int cn, .int fa, .int pu, .int de, .int ve, .long nw, .int mk]))])) (va_A [(q0, .inr (12, [.int er, .int fd, .int wg, .int 0, .int nl, .ref oc, .ref so, .ref rv, .ref sp, .int qs, .ref rz, .ref bl, .ref ww, .ref hs, .ref fi, .ref pm, .ref mx, .ref my, .ref mm, .ref mq, .ref mz, .ref wy, .ref fn, .int si, .int cs, .int cn, .int fa, .int pu, .int de, .int ve, .long nw, .int mk]))] sz)) 0 0 (va_A [(q0, .inr (12, [.int er, .int fd, .int wg, .int 0, .int nl, .ref oc, .ref so, .ref rv, .ref sp, .int qs, .ref rz, .ref bl, .ref ww, .ref hs, .ref fi, .ref pm, .ref mx, .ref my, .ref mm, .ref mq, .ref mz, .ref wy, .ref fn, .int si, .int cs, .int cn, .int fa, .int pu, .int de, .int ve, .long nw, .int mk]))] sz) := by
  refine Met.ofW (cc := b_Model_digest0) (maxL := 3) (ret := (some FieldType.int)) (by decide) rfl ?_
  intro p e s m args below meth c s₁ B hml hv
  obtain ⟨rfl, hsz, hB0, hP, hK, hD0, hN, hT0⟩ := hv
  have hx := B.exec
  have hb := B.bytes
  have hr := B.returns
  have hts := atoms_spec (ws := w_Model_digest0) B.pre
  have tbin : ∀ w ∈ tb, w ∈ w_Model_digest0 := fun w h => List.mem_cons_of_mem _ h
  have htb : ∀ w ∈ tb, w.before _ s = true := fun w h => hts w (tbin w h)
  have hown : s.vm.findClass "TrustChainModel" = some m.cls := findClass_of_methodNamed B.named
  have hlocks := B.notSynchronized
  subst hsz
  have hD := hD0.self (sz := s.heap.size)
  generalize hAe : va_A [(q0, .inr (12, [.int er, .int fd, .int wg, .int 0, .int nl, .ref oc, .ref so, .ref rv, .ref sp, .int qs, .ref rz, .ref bl, .ref ww, .ref hs, .ref fi, .ref pm, .ref mx, .ref my, .ref mm, .ref mq, .ref mz, .ref wy, .ref fn, .int si, .int cs, .int cn, .int fa, .int pu, .int de, .int ve, .long nw, .int mk]))] s.heap.size = A at hD ⊢
  have hA : ∀ q : Nat, s.heap.size ≤ q → A q := fun q h => by rw [← hAe]; exact Or.inr h
  have hAs : ∀ q : Nat, A q → sb.1 ≤ q := fun q h => by
    rw [← hAe] at h
    rcases h with ⟨k, e, h⟩ | h
    · exact hD0.2 k _ h
    · exact Nat.le_trans hB0 h
  have hS : va_S A s.heap s.heap [] := va_S.rf
  have hcs : 0 ≤ (headSpec w_Model_digest0 ({ frames := 3, cells := 0, slots := 0, locals := 90 })).room.cells ∧ 0 ≤ (headSpec w_Model_digest0 ({ frames := 3, cells := 0, slots := 0, locals := 90 })).room.slots := ⟨Nat.le_refl _, Nat.le_refl _⟩
  have hP : va_P (dC, dI) classes [(q0, .inr (12, [.int er, .int fd, .int wg, .int 0, .int nl, .ref oc, .ref so, .ref rv, .ref sp, .int qs, .ref rz, .ref bl, .ref ww, .ref hs, .ref fi, .ref pm, .ref mx, .ref my, .ref mm, .ref mq, .ref mz, .ref wy, .ref fn, .int si, .int cs, .int cn, .int fa, .int pu, .int de, .int ve, .long nw, .int mk]))] s.heap := hP
  have hl := lv_entry ([.ref q0, .int i, .int j]) (n := 3) (Nat.le_of_ble_eq_true rfl)
  rw [lg_entry_eq]
  generalize (lg_sl ([.ref q0, .int i, .int j]) ++ List.replicate (3 - (lg_sl ([.ref q0, .int i, .int j])).length) Slot.unset).toArray = ls at hl ⊢
  have hl : lv_has ls 3 [(0, .ref q0), (1, .int i), (2, .int j)] := hl
  refine lv_aload_n hx hb d_Model_digest0_0 rfl (lv_at hl 0 rfl) ?_
  refine lv_iconst (v := 0) hx hb d_Model_digest0_1 (by decide) ?_
  refine va_put (v := .int 0) (ty := .int) hx hb htb i_Model t_Model t_Model_ok n_Model hown hK hP hD hS 0 rfl rfl 0 (by decide) (htb _ q7_214) (fun _ h9 => h9) rfl (by decide +kernel) rfl rfl (Nat.le_of_ble_eq_true rfl) d_Model_digest0_2 (fun H2 locs hP hD hS => ?_)
  have hP : va_P (dC, dI) classes [(q0, .inr (12, [.int 0, .int fd, .int wg, .int 0, .int nl, .ref oc, .ref so, .ref rv, .ref sp, .int qs, .ref rz, .ref bl, .ref ww, .ref hs, .ref fi, .ref pm, .ref mx, .ref my, .ref mm, .ref mq, .ref mz, .ref wy, .ref fn, .int si, .int cs, .int cn, .int fa, .int pu, .int de, .int ve, .long nw, .int mk]))] H2 := hP
  have hD : va_D A [(q0, .inr (12, [.int 0, .int fd, .int wg, .int 0, .int nl, .ref oc, .ref so, .ref rv, .ref sp, .int qs, .ref rz, .ref bl, .ref ww, .ref hs, .ref fi, .ref pm, .ref mx, .ref my, .ref mm, .ref mq, .ref mz, .ref wy, .ref fn, .int si, .int cs, .int cn, .int fa, .int pu, .int de, .int ve, .long nw, .int mk]))] := hD
  refine lv_aload_n hx hb d_Model_digest0_5 rfl (lv_at hl 0 rfl) ?_
  refine lv_iload_n hx hb d_Model_digest0_6 rfl (lv_at hl 1 rfl) ?_
  refine lv_iconst (v := 0) hx hb d_Model_digest0_7 (by decide) ?_
  refine lv_aload_n hx hb d_Model_digest0_8 rfl (lv_at hl 0 rfl) ?_
  refine va_get (v := .int 0) hx hb htb i_Model hown hK hP 0 rfl rfl 3 (by decide) (htb _ q7_217) (fun _ h9 => h9) rfl d_Model_digest0_9 ?_
  refine lv_iconst (v := 1) hx hb d_Model_digest0_12 (by decide) ?_
  refine lv_isub hx hb d_Model_digest0_13 ?_
  refine vp_callSi (pu_callS (As := [.int i, .int 0, .int (0 - 1)]) (rest := [.ref q0]) ⟨hx, hb, hml, hown, hts⟩ tbin (c_Model_in l dC dI sb i 0 (0 - 1)) q9_68 q8_116 q1_9 q8_117 (n := 3) (by decide +kernel) rfl ⟨rfl, rfl⟩ ⟨Nat.le_of_ble_eq_true rfl, Nat.le_of_ble_eq_true rfl⟩ ⟨Nat.le_of_ble_eq_true rfl, Nat.le_of_ble_eq_true rfl⟩ hN (hT0.keep hS hAs) hK hP [] rfl [] rfl hl.1 rfl (Nat.le_of_ble_eq_true rfl) d_Model_digest0_14) (fun r14 hr14 => ?_)
  refine lv_if_eq (tgt := 30) hx hb d_Model_digest0_17 (by decide) (fun c17 => ?_) (fun c17 => ?_)
  rotate_left
  · exact absurd (bz_1 hr14 c17) x_p0
  refine lv_iconst (v := 1) hx hb d_Model_digest0_30 (by decide) ?_
  refine lv_goto (tgt := 35) hx hb d_Model_digest0_31 (by decide) ?_
  refine lv_iconst (v := 1) hx hb d_Model_digest0_35 (by decide) ?_
  have hFc := va_free (wc := [(q0, .inr (12, [.int 0, .int fd, .int wg, .int 0, .int nl, .ref oc, .ref so, .ref rv, .ref sp, .int qs, .ref rz, .ref bl, .ref ww, .ref hs, .ref fi, .ref pm, .ref mx, .ref my, .ref mm, .ref mq, .ref mz, .ref wy, .ref fn, .int si, .int cs, .int cn, .int fa, .int pu, .int de, .int ve, .long nw, .int mk]))]) hD hS hA [0] rfl
  refine va_calli (mu_runV (As := [.int 1, .int 1]) (rest := []) ⟨hx, hb, hml, hown, hts⟩ tbin (c_Model_fails l dC dI sb q0 oc so rv sp rz bl ww hs fi pm mx my mm mq mz wy fn fd wg 0 nl qs si cs cn fa pu de ve mk nw 0 1 1 H2.size) q8_79 q8_81 qp_36 q1_9 q8_82 (n := 2) (by decide +kernel) rfl ⟨rfl, rfl⟩ ⟨Nat.le_of_ble_eq_true rfl, Nat.le_of_ble_eq_true rfl⟩ ⟨Nat.le_of_ble_eq_true rfl, Nat.le_of_ble_eq_true rfl⟩ hN (hT0.keep hS hAs) hAs (Nat.le_trans hB0 hS.1) hK hP hD [0] (by decide) rfl [] rfl 0 12 rfl rfl rfl hl.1 rfl (Nat.le_of_ble_eq_true rfl) d_Model_digest0_36) hS (fun q _ h => hFc q h) hFc (fun r36 u36 tS H36 locs ht hvm hw36 hB hz1 hk1 hS => ?_)
  obtain ⟨v36, rfl⟩ : ∃ z, z = u36 := ⟨_, rfl⟩
  obtain ⟨hP1, hK1, hD1⟩ := hB
  rw [ht] at hP1
  obtain ⟨hP, hD⟩ := va_join (wr := []) (w1 := [(q0, .inr (12, [.int v36, .int fd, .int wg, .int 0, .int nl, .ref oc, .ref so, .ref rv, .ref sp, .int qs, .ref rz, .ref bl, .ref ww, .ref hs, .ref fi, .ref pm, .ref mx, .ref my, .ref mm, .ref mq, .ref mz, .ref wy, .ref fn, .int si, .int cs, .int cn, .int fa, .int pu, .int de, .int ve, .long nw, .int mk]))]) hP hD [0] [] rfl rfl (by decide) (by decide) hk1 hFc hP1 hD1
  have hP : va_P (dC, dI) classes [(q0, .inr (12, [.int v36, .int fd, .int wg, .int 0, .int nl, .ref oc, .ref so, .ref rv, .ref sp, .int qs, .ref rz, .ref bl, .ref ww, .ref hs, .ref fi, .ref pm, .ref mx, .ref my, .ref mm, .ref mq, .ref mz, .ref wy, .ref fn, .int si, .int cs, .int cn, .int fa, .int pu, .int de, .int ve, .long nw, .int mk]))] H36 := hP
  have hD : va_D A [(q0, .inr (12, [.int v36, .int fd, .int wg, .int 0, .int nl, .ref oc, .ref so, .ref rv, .ref sp, .int qs, .ref rz, .ref bl, .ref ww, .ref hs, .ref fi, .ref pm, .ref mx, .ref my, .ref mm, .ref mq, .ref mz, .ref wy, .ref fn, .int si, .int cs, .int cn, .int fa, .int pu, .int de, .int ve, .long nw, .int mk]))] := hD
  obtain ⟨hv36, hz36⟩ := hw36
  rw [fl_1] at hv36
  subst hv36
  have hP : va_P (dC, dI) classes [(q0, .inr (12, [.int 1, .int fd, .int wg, .int 0, .int nl, .ref oc, .ref so, .ref rv, .ref sp, .int qs, .ref rz, .ref bl, .ref ww, .ref hs, .ref fi, .ref pm, .ref mx, .ref my, .ref mm, .ref mq, .ref mz, .ref wy, .ref fn, .int si, .int cs, .int cn, .int fa, .int pu, .int de, .int ve, .long nw, .int mk]))] H36 := hP
  have hD : va_D A [(q0, .inr (12, [.int 1, .int fd, .int wg, .int 0, .int nl, .ref oc, .ref so, .ref rv, .ref sp, .int qs, .ref rz, .ref bl, .ref ww, .ref hs, .ref fi, .ref pm, .ref mx, .ref my, .ref mm, .ref mq, .ref mz, .ref wy, .ref fn, .int si, .int cs, .int cn, .int fa, .int pu, .int de, .int ve, .long nw, .int mk]))] := hD
  refine lv_if_eq (tgt := 44) hx hb d_Model_digest0_39 (by decide) (fun c39 => ?_) (fun c39 => ?_)
  · exact absurd (by decide) (bz_0 hz36 (by first | exact c39 | exact Classical.not_not.mp c39))
  refine lv_iconst (v := 0) hx hb d_Model_digest0_42 (by decide) ?_
  exact W.iret (v := 0) hx hb hr (fun t ht hW => ⟨⟨_, 1, rfl, ⟨rfl, rfl⟩, by rw [ht]; exact hP, va_K.moved hW.alike hK, hD⟩, hS.F ht⟩) hS.2.2 d_Model_digest0_43
def y_Model_chain : MethodName := ⟨"TrustChainModel", "chain", "(I)I"⟩
abbrev b_Model_chain : ByteArray := prog_14_method_42_code
def w_Model_chain : List Cond := Cond.code y_Model_chain b_Model_chain 2 ((some FieldType.int)) :: tb
theorem d_Model_chain_0 : decode b_Model_chain 0 = .ok (.aload_n 0, 1) := by decide +kernel
theorem d_Model_chain_1 : decode b_Model_chain 1 = .ok (.iconst 0, 1) := by decide +kernel
theorem d_Model_chain_2 : decode b_Model_chain 2 = .ok (.putfield 145, 3) := by decide +kernel
theorem d_Model_chain_5 : decode b_Model_chain 5 = .ok (.aload_n 0, 1) := by decide +kernel
theorem d_Model_chain_6 : decode b_Model_chain 6 = .ok (.iload_n 1, 1) := by decide +kernel
theorem d_Model_chain_7 : decode b_Model_chain 7 = .ok (.iconst 0, 1) := by decide +kernel
theorem d_Model_chain_8 : decode b_Model_chain 8 = .ok (.aload_n 0, 1) := by decide +kernel
theorem d_Model_chain_9 : decode b_Model_chain 9 = .ok (.getfield 324, 3) := by decide +kernel
theorem d_Model_chain_12 : decode b_Model_chain 12 = .ok (.iconst 1, 1) := by decide +kernel
theorem d_Model_chain_13 : decode b_Model_chain 13 = .ok (.isub, 1) := by decide +kernel
theorem d_Model_chain_14 : decode b_Model_chain 14 = .ok (.invokestatic 205, 3) := by decide +kernel
theorem d_Model_chain_17 : decode b_Model_chain 17 = .ok (.ifCond .ne 7, 3) := by decide +kernel
theorem d_Model_chain_20 : decode b_Model_chain 20 = .ok (.iconst 1, 1) := by decide +kernel
theorem d_Model_chain_21 : decode b_Model_chain 21 = .ok (.goto 4, 3) := by decide +kernel
theorem d_Model_chain_24 : decode b_Model_chain 24 = .ok (.iconst 0, 1) := by decide +kernel
theorem d_Model_chain_25 : decode b_Model_chain 25 = .ok (.iconst 1, 1) := by decide +kernel
theorem d_Model_chain_26 : decode b_Model_chain 26 = .ok (.invokevirtual 176, 3) := by decide +kernel
theorem d_Model_chain_29 : decode b_Model_chain 29 = .ok (.ifCond .eq 7, 3) := by decide +kernel
theorem d_Model_chain_32 : decode b_Model_chain 32 = .ok (.iconst 0, 1) := by decide +kernel
theorem d_Model_chain_33 : decode b_Model_chain 33 = .ok (.goto 9, 3) := by decide +kernel
theorem d_Model_chain_36 : decode b_Model_chain 36 = .ok (.aload_n 0, 1) := by decide +kernel
theorem d_Model_chain_37 : decode b_Model_chain 37 = .ok (.getfield 139, 3) := by decide +kernel
theorem d_Model_chain_40 : decode b_Model_chain 40 = .ok (.iload_n 1, 1) := by decide +kernel
theorem d_Model_chain_41 : decode b_Model_chain 41 = .ok (.iaload, 1) := by decide +kernel
theorem d_Model_chain_42 : decode b_Model_chain 42 = .ok (.ireturn, 1) := by decide +kernel
set_option maxHeartbeats 4000000 in
set_option maxRecDepth 100000 in
theorem c0_Model_chain (l : Launch) (dC : Nat → ClassId) (dI : Nat → Nat → Nat) (sb : sB) (q0 oc so rv sp rz bl ww hs fi pm mx my mm mq mz wy fn : Nat) (fd wg nc nl qs si cn fa pu de ve mk : Int32) (nw : Int64) (er i : Int32) (sz : Nat) : Met l y_Model_chain w_Model_chain ({ frames := 3, cells := 0, slots := 0, locals := 90 }) (mu_P [.ref q0, .int i] (dC, dI) sb [(q0, .inr (12, [.int er, .int fd, .int wg, .int nc, .int nl, .ref oc, .ref so, .ref rv, .ref sp, .int qs, .ref rz, .ref bl, .ref ww, .ref hs, .ref fi, .ref pm, .ref mx, .ref my, .ref mm, .ref mq, .ref mz, .ref wy, .ref fn, .int si, .int 0, .int cn, .int fa, .int pu, .int de, .int ve, .long nw, .int mk]))] [] sz) (va_Qi (fun r (u : Int32) => u = 1 ∧ r = 0) (mu_B (dC, dI) [] (va_A [(q0, .inr (12, [.int er, .int fd, .int wg, .int nc, .int nl, .ref oc, .ref so, .ref rv, .ref sp, .int qs, .ref rz, .ref bl, .ref ww, .ref hs, .ref fi, .ref pm, .ref mx, .ref my, .ref mm, .ref mq, .ref mz, .ref wy, .ref fn, .int si, .int 0, .int cn, .int fa, .int pu, .int de, .int ve, .long nw, .int mk]))] sz) (fun u : Int32 => [(q0, .inr (12, [.int u, .int fd, .int wg, .int nc, .int nl, .ref oc, .ref so, .ref rv, .ref sp, .int qs, .ref rz, .ref bl, .ref ww, .ref hs, .ref fi, .ref pm, .ref mx, .ref my, .ref mm, .ref mq, .ref mz, .ref wy, .ref fn, .int si, .int 0, .int cn, .int fa, .int pu, .int de, .int ve, .long nw, .int mk]))])) (va_A [(q0, .inr (12, [.int er, .int fd, .int wg, .int nc, .int nl, .ref oc, .ref so, .ref rv, .ref sp, .int qs, .ref rz, .ref bl, .ref ww, .ref hs, .ref fi, .ref pm, .ref mx, .ref my, .ref mm, .ref mq, .ref mz, .ref wy, .ref fn, .int si, .int 0, .int cn, .int fa, .int pu, .int de, .int ve, .long nw, .int mk]))] sz)) 0 0 (va_A [(q0, .inr (12, [.int er, .int fd, .int wg, .int nc, .int nl, .ref oc, .ref so, .ref rv, .ref sp, .int qs, .ref rz, .ref bl, .ref ww, .ref hs, .ref fi, .ref pm, .ref mx, .ref my, .ref mm, .ref mq, .ref mz, .ref wy, .ref fn, .int si, .int 0, .int cn, .int fa, .int pu, .int de, .int ve, .long nw, .int mk]))] sz) := by
  refine Met.ofW (cc := b_Model_chain) (maxL := 2) (ret := (some FieldType.int)) (by decide) rfl ?_
  intro p e s m args below meth c s₁ B hml hv
  obtain ⟨rfl, hsz, hB0, hP, hK, hD0, hN, hT0⟩ := hv
  have hx := B.exec
  have hb := B.bytes
  have hr := B.returns
  have hts := atoms_spec (ws := w_Model_chain) B.pre
  have tbin : ∀ w ∈ tb, w ∈ w_Model_chain := fun w h => List.mem_cons_of_mem _ h
  have htb : ∀ w ∈ tb, w.before _ s = true := fun w h => hts w (tbin w h)
  have hown : s.vm.findClass "TrustChainModel" = some m.cls := findClass_of_methodNamed B.named
  have hlocks := B.notSynchronized
  subst hsz
  have hD := hD0.self (sz := s.heap.size)
  generalize hAe : va_A [(q0, .inr (12, [.int er, .int fd, .int wg, .int nc, .int nl, .ref oc, .ref so, .ref rv, .ref sp, .int qs, .ref rz, .ref bl, .ref ww, .ref hs, .ref fi, .ref pm, .ref mx, .ref my, .ref mm, .ref mq, .ref mz, .ref wy, .ref fn, .int si, .int 0, .int cn, .int fa, .int pu, .int de, .int ve, .long nw, .int mk]))] s.heap.size = A at hD ⊢
  have hA : ∀ q : Nat, s.heap.size ≤ q → A q := fun q h => by rw [← hAe]; exact Or.inr h
  have hAs : ∀ q : Nat, A q → sb.1 ≤ q := fun q h => by
    rw [← hAe] at h
    rcases h with ⟨k, e, h⟩ | h
    · exact hD0.2 k _ h
    · exact Nat.le_trans hB0 h
  have hS : va_S A s.heap s.heap [] := va_S.rf
  have hcs : 0 ≤ (headSpec w_Model_chain ({ frames := 3, cells := 0, slots := 0, locals := 90 })).room.cells ∧ 0 ≤ (headSpec w_Model_chain ({ frames := 3, cells := 0, slots := 0, locals := 90 })).room.slots := ⟨Nat.le_refl _, Nat.le_refl _⟩
  have hP : va_P (dC, dI) classes [(q0, .inr (12, [.int er, .int fd, .int wg, .int nc, .int nl, .ref oc, .ref so, .ref rv, .ref sp, .int qs, .ref rz, .ref bl, .ref ww, .ref hs, .ref fi, .ref pm, .ref mx, .ref my, .ref mm, .ref mq, .ref mz, .ref wy, .ref fn, .int si, .int 0, .int cn, .int fa, .int pu, .int de, .int ve, .long nw, .int mk]))] s.heap := hP
  have hl := lv_entry ([.ref q0, .int i]) (n := 2) (Nat.le_of_ble_eq_true rfl)
  rw [lg_entry_eq]
  generalize (lg_sl ([.ref q0, .int i]) ++ List.replicate (2 - (lg_sl ([.ref q0, .int i])).length) Slot.unset).toArray = ls at hl ⊢
  have hl : lv_has ls 2 [(0, .ref q0), (1, .int i)] := hl
  refine lv_aload_n hx hb d_Model_chain_0 rfl (lv_at hl 0 rfl) ?_
  refine lv_iconst (v := 0) hx hb d_Model_chain_1 (by decide) ?_
  refine va_put (v := .int 0) (ty := .int) hx hb htb i_Model t_Model t_Model_ok n_Model hown hK hP hD hS 0 rfl rfl 0 (by decide) (htb _ q7_214) (fun _ h9 => h9) rfl (by decide +kernel) rfl rfl (Nat.le_of_ble_eq_true rfl) d_Model_chain_2 (fun H2 locs hP hD hS => ?_)
  have hP : va_P (dC, dI) classes [(q0, .inr (12, [.int 0, .int fd, .int wg, .int nc, .int nl, .ref oc, .ref so, .ref rv, .ref sp, .int qs, .ref rz, .ref bl, .ref ww, .ref hs, .ref fi, .ref pm, .ref mx, .ref my, .ref mm, .ref mq, .ref mz, .ref wy, .ref fn, .int si, .int 0, .int cn, .int fa, .int pu, .int de, .int ve, .long nw, .int mk]))] H2 := hP
  have hD : va_D A [(q0, .inr (12, [.int 0, .int fd, .int wg, .int nc, .int nl, .ref oc, .ref so, .ref rv, .ref sp, .int qs, .ref rz, .ref bl, .ref ww, .ref hs, .ref fi, .ref pm, .ref mx, .ref my, .ref mm, .ref mq, .ref mz, .ref wy, .ref fn, .int si, .int 0, .int cn, .int fa, .int pu, .int de, .int ve, .long nw, .int mk]))] := hD
  refine lv_aload_n hx hb d_Model_chain_5 rfl (lv_at hl 0 rfl) ?_
  refine lv_iload_n hx hb d_Model_chain_6 rfl (lv_at hl 1 rfl) ?_
  refine lv_iconst (v := 0) hx hb d_Model_chain_7 (by decide) ?_
  refine lv_aload_n hx hb d_Model_chain_8 rfl (lv_at hl 0 rfl) ?_
  refine va_get (v := .int 0) hx hb htb i_Model hown hK hP 0 rfl rfl 24 (by decide) (htb _ q7_238) (fun _ h9 => h9) rfl d_Model_chain_9 ?_
  refine lv_iconst (v := 1) hx hb d_Model_chain_12 (by decide) ?_
  refine lv_isub hx hb d_Model_chain_13 ?_
  refine vp_callSi (pu_callS (As := [.int i, .int 0, .int (0 - 1)]) (rest := [.ref q0]) ⟨hx, hb, hml, hown, hts⟩ tbin (c_Model_in l dC dI sb i 0 (0 - 1)) q9_68 q8_116 q1_9 q8_117 (n := 3) (by decide +kernel) rfl ⟨rfl, rfl⟩ ⟨Nat.le_of_ble_eq_true rfl, Nat.le_of_ble_eq_true rfl⟩ ⟨Nat.le_of_ble_eq_true rfl, Nat.le_of_ble_eq_true rfl⟩ hN (hT0.keep hS hAs) hK hP [] rfl [] rfl hl.1 rfl (Nat.le_of_ble_eq_true rfl) d_Model_chain_14) (fun r14 hr14 => ?_)
  refine lv_if_ne (tgt := 24) hx hb d_Model_chain_17 (by decide) (fun c17 => ?_) (fun c17 => ?_)
  · exact absurd (bz_1 hr14 c17) x_p0
  refine lv_iconst (v := 1) hx hb d_Model_chain_20 (by decide) ?_
  refine lv_goto (tgt := 25) hx hb d_Model_chain_21 (by decide) ?_
  refine lv_iconst (v := 1) hx hb d_Model_chain_25 (by decide) ?_
  have hFc := va_free (wc := [(q0, .inr (12, [.int 0, .int fd, .int wg, .int nc, .int nl, .ref oc, .ref so, .ref rv, .ref sp, .int qs, .ref rz, .ref bl, .ref ww, .ref hs, .ref fi, .ref pm, .ref mx, .ref my, .ref mm, .ref mq, .ref mz, .ref wy, .ref fn, .int si, .int 0, .int cn, .int fa, .int pu, .int de, .int ve, .long nw, .int mk]))]) hD hS hA [0] rfl
  refine va_calli (mu_runV (As := [.int 1, .int 1]) (rest := []) ⟨hx, hb, hml, hown, hts⟩ tbin (c_Model_fails l dC dI sb q0 oc so rv sp rz bl ww hs fi pm mx my mm mq mz wy fn fd wg nc nl qs si 0 cn fa pu de ve mk nw 0 1 1 H2.size) q8_79 q8_81 qp_36 q1_9 q8_82 (n := 2) (by decide +kernel) rfl ⟨rfl, rfl⟩ ⟨Nat.le_of_ble_eq_true rfl, Nat.le_of_ble_eq_true rfl⟩ ⟨Nat.le_of_ble_eq_true rfl, Nat.le_of_ble_eq_true rfl⟩ hN (hT0.keep hS hAs) hAs (Nat.le_trans hB0 hS.1) hK hP hD [0] (by decide) rfl [] rfl 0 12 rfl rfl rfl hl.1 rfl (Nat.le_of_ble_eq_true rfl) d_Model_chain_26) hS (fun q _ h => hFc q h) hFc (fun r26 u26 tS H26 locs ht hvm hw26 hB hz1 hk1 hS => ?_)
  obtain ⟨v26, rfl⟩ : ∃ z, z = u26 := ⟨_, rfl⟩
  obtain ⟨hP1, hK1, hD1⟩ := hB
  rw [ht] at hP1
  obtain ⟨hP, hD⟩ := va_join (wr := []) (w1 := [(q0, .inr (12, [.int v26, .int fd, .int wg, .int nc, .int nl, .ref oc, .ref so, .ref rv, .ref sp, .int qs, .ref rz, .ref bl, .ref ww, .ref hs, .ref fi, .ref pm, .ref mx, .ref my, .ref mm, .ref mq, .ref mz, .ref wy, .ref fn, .int si, .int 0, .int cn, .int fa, .int pu, .int de, .int ve, .long nw, .int mk]))]) hP hD [0] [] rfl rfl (by decide) (by decide) hk1 hFc hP1 hD1
  have hP : va_P (dC, dI) classes [(q0, .inr (12, [.int v26, .int fd, .int wg, .int nc, .int nl, .ref oc, .ref so, .ref rv, .ref sp, .int qs, .ref rz, .ref bl, .ref ww, .ref hs, .ref fi, .ref pm, .ref mx, .ref my, .ref mm, .ref mq, .ref mz, .ref wy, .ref fn, .int si, .int 0, .int cn, .int fa, .int pu, .int de, .int ve, .long nw, .int mk]))] H26 := hP
  have hD : va_D A [(q0, .inr (12, [.int v26, .int fd, .int wg, .int nc, .int nl, .ref oc, .ref so, .ref rv, .ref sp, .int qs, .ref rz, .ref bl, .ref ww, .ref hs, .ref fi, .ref pm, .ref mx, .ref my, .ref mm, .ref mq, .ref mz, .ref wy, .ref fn, .int si, .int 0, .int cn, .int fa, .int pu, .int de, .int ve, .long nw, .int mk]))] := hD
  obtain ⟨hv26, hz26⟩ := hw26
  rw [fl_1] at hv26
  subst hv26
  have hP : va_P (dC, dI) classes [(q0, .inr (12, [.int 1, .int fd, .int wg, .int nc, .int nl, .ref oc, .ref so, .ref rv, .ref sp, .int qs, .ref rz, .ref bl, .ref ww, .ref hs, .ref fi, .ref pm, .ref mx, .ref my, .ref mm, .ref mq, .ref mz, .ref wy, .ref fn, .int si, .int 0, .int cn, .int fa, .int pu, .int de, .int ve, .long nw, .int mk]))] H26 := hP
  have hD : va_D A [(q0, .inr (12, [.int 1, .int fd, .int wg, .int nc, .int nl, .ref oc, .ref so, .ref rv, .ref sp, .int qs, .ref rz, .ref bl, .ref ww, .ref hs, .ref fi, .ref pm, .ref mx, .ref my, .ref mm, .ref mq, .ref mz, .ref wy, .ref fn, .int si, .int 0, .int cn, .int fa, .int pu, .int de, .int ve, .long nw, .int mk]))] := hD
  refine lv_if_eq (tgt := 36) hx hb d_Model_chain_29 (by decide) (fun c29 => ?_) (fun c29 => ?_)
  · exact absurd (by decide) (bz_0 hz26 (by first | exact c29 | exact Classical.not_not.mp c29))
  refine lv_iconst (v := 0) hx hb d_Model_chain_32 (by decide) ?_
  refine lv_goto (tgt := 42) hx hb d_Model_chain_33 (by decide) ?_
  exact W.iret (v := 0) hx hb hr (fun t ht hW => ⟨⟨_, 1, rfl, ⟨rfl, rfl⟩, by rw [ht]; exact hP, va_K.moved hW.alike hK, hD⟩, hS.F ht⟩) hS.2.2 d_Model_chain_42
def y_Model_count : MethodName := ⟨"TrustChainModel", "count", "(I)I"⟩
abbrev b_Model_count : ByteArray := prog_14_method_43_code
def w_Model_count : List Cond := Cond.code y_Model_count b_Model_count 2 ((some FieldType.int)) :: tb
theorem d_Model_count_0 : decode b_Model_count 0 = .ok (.aload_n 0, 1) := by decide +kernel
theorem d_Model_count_1 : decode b_Model_count 1 = .ok (.iconst 0, 1) := by decide +kernel
theorem d_Model_count_2 : decode b_Model_count 2 = .ok (.putfield 145, 3) := by decide +kernel
theorem d_Model_count_5 : decode b_Model_count 5 = .ok (.aload_n 0, 1) := by decide +kernel
theorem d_Model_count_6 : decode b_Model_count 6 = .ok (.iload_n 1, 1) := by decide +kernel
theorem d_Model_count_7 : decode b_Model_count 7 = .ok (.iconst 0, 1) := by decide +kernel
theorem d_Model_count_8 : decode b_Model_count 8 = .ok (.iconst 4, 1) := by decide +kernel
theorem d_Model_count_9 : decode b_Model_count 9 = .ok (.invokestatic 205, 3) := by decide +kernel
theorem d_Model_count_12 : decode b_Model_count 12 = .ok (.ifCond .ne 7, 3) := by decide +kernel
theorem d_Model_count_15 : decode b_Model_count 15 = .ok (.iconst 1, 1) := by decide +kernel
theorem d_Model_count_16 : decode b_Model_count 16 = .ok (.goto 4, 3) := by decide +kernel
theorem d_Model_count_19 : decode b_Model_count 19 = .ok (.iconst 0, 1) := by decide +kernel
theorem d_Model_count_20 : decode b_Model_count 20 = .ok (.iconst 1, 1) := by decide +kernel
theorem d_Model_count_21 : decode b_Model_count 21 = .ok (.invokevirtual 176, 3) := by decide +kernel
theorem d_Model_count_24 : decode b_Model_count 24 = .ok (.ifCond .eq 5, 3) := by decide +kernel
theorem d_Model_count_27 : decode b_Model_count 27 = .ok (.iconst 0, 1) := by decide +kernel
theorem d_Model_count_28 : decode b_Model_count 28 = .ok (.ireturn, 1) := by decide +kernel
theorem d_Model_count_29 : decode b_Model_count 29 = .ok (.iload_n 1, 1) := by decide +kernel
theorem d_Model_count_30 : decode b_Model_count 30 = .ok (.ifCond .ne 10, 3) := by decide +kernel
theorem d_Model_count_33 : decode b_Model_count 33 = .ok (.aload_n 0, 1) := by decide +kernel
theorem d_Model_count_34 : decode b_Model_count 34 = .ok (.getfield 183, 3) := by decide +kernel
theorem d_Model_count_37 : decode b_Model_count 37 = .ok (.goto 43, 3) := by decide +kernel
theorem d_Model_count_40 : decode b_Model_count 40 = .ok (.iload_n 1, 1) := by decide +kernel
theorem d_Model_count_41 : decode b_Model_count 41 = .ok (.iconst 1, 1) := by decide +kernel
theorem d_Model_count_42 : decode b_Model_count 42 = .ok (.if_icmp .ne 10, 3) := by decide +kernel
theorem d_Model_count_45 : decode b_Model_count 45 = .ok (.aload_n 0, 1) := by decide +kernel
theorem d_Model_count_46 : decode b_Model_count 46 = .ok (.getfield 180, 3) := by decide +kernel
theorem d_Model_count_49 : decode b_Model_count 49 = .ok (.goto 31, 3) := by decide +kernel
theorem d_Model_count_52 : decode b_Model_count 52 = .ok (.iload_n 1, 1) := by decide +kernel
theorem d_Model_count_53 : decode b_Model_count 53 = .ok (.iconst 2, 1) := by decide +kernel
theorem d_Model_count_54 : decode b_Model_count 54 = .ok (.if_icmp .ne 10, 3) := by decide +kernel
theorem d_Model_count_57 : decode b_Model_count 57 = .ok (.aload_n 0, 1) := by decide +kernel
theorem d_Model_count_58 : decode b_Model_count 58 = .ok (.getfield 321, 3) := by decide +kernel
theorem d_Model_count_61 : decode b_Model_count 61 = .ok (.goto 19, 3) := by decide +kernel
theorem d_Model_count_64 : decode b_Model_count 64 = .ok (.iload_n 1, 1) := by decide +kernel
theorem d_Model_count_65 : decode b_Model_count 65 = .ok (.iconst 3, 1) := by decide +kernel
theorem d_Model_count_66 : decode b_Model_count 66 = .ok (.if_icmp .ne 10, 3) := by decide +kernel
theorem d_Model_count_69 : decode b_Model_count 69 = .ok (.aload_n 0, 1) := by decide +kernel
theorem d_Model_count_70 : decode b_Model_count 70 = .ok (.getfield 142, 3) := by decide +kernel
theorem d_Model_count_73 : decode b_Model_count 73 = .ok (.goto 7, 3) := by decide +kernel
theorem d_Model_count_76 : decode b_Model_count 76 = .ok (.aload_n 0, 1) := by decide +kernel
theorem d_Model_count_77 : decode b_Model_count 77 = .ok (.getfield 173, 3) := by decide +kernel
theorem d_Model_count_80 : decode b_Model_count 80 = .ok (.ireturn, 1) := by decide +kernel
theorem cnt_n {c f d i : Int32} (h : ¬ (¬ i < 0 ∧ ¬ 4 < i)) : cntI 0 0 c f d i = none := by
  have h4 : ¬ (0 ≤ i.toInt ∧ i.toInt ≤ 4) := fun q => h ⟨fun z => by rw [Int32.lt_iff_toInt_lt, show (0 : Int32).toInt = 0 from by decide] at z; omega, fun z => by rw [Int32.lt_iff_toInt_lt, show (4 : Int32).toInt = 4 from by decide] at z; omega⟩
  unfold cntI
  rw [if_neg (by omega), if_neg (by omega), if_neg (by omega), if_neg (by omega), if_neg (by omega)]
theorem i32_ne {i : Int32} {k : Int32} (h : ¬ i = k) : ¬ i.toInt = k.toInt := fun q => h (Int32.toInt_inj.mp q)
theorem cnt_4 {c f d i : Int32} (h : ¬ i < 0 ∧ ¬ 4 < i) (h0 : ¬ i = 0) (h1 : ¬ i = 1) (h2 : ¬ i = 2) (h3 : ¬ i = 3) : cntI 0 0 c f d i = some d := by
  obtain ⟨a, b⟩ := h
  rw [Int32.lt_iff_toInt_lt, show (0 : Int32).toInt = 0 from by decide] at a
  rw [Int32.lt_iff_toInt_lt, show (4 : Int32).toInt = 4 from by decide] at b
  have g0 := i32_ne h0
  have g1 := i32_ne h1
  have g2 := i32_ne h2
  have g3 := i32_ne h3
  rw [show (0 : Int32).toInt = 0 from by decide] at g0
  rw [show (1 : Int32).toInt = 1 from by decide] at g1
  rw [show (2 : Int32).toInt = 2 from by decide] at g2
  rw [show (3 : Int32).toInt = 3 from by decide] at g3
  unfold cntI
  rw [if_neg g0, if_neg g1, if_neg g2, if_neg g3, if_pos (by omega)]
set_option maxHeartbeats 4000000 in
set_option maxRecDepth 100000 in
theorem c0_Model_count (l : Launch) (dC : Nat → ClassId) (dI : Nat → Nat → Nat) (sb : sB) (q0 oc so rv sp rz bl ww hs fi pm mx my mm mq mz wy fn : Nat) (fd wg qs si cs cn fa pu de ve mk : Int32) (nw : Int64) (er i : Int32) (sz : Nat) : Met l y_Model_count w_Model_count ({ frames := 3, cells := 0, slots := 0, locals := 90 }) (mu_P [.ref q0, .int i] (dC, dI) sb [(q0, .inr (12, [.int er, .int fd, .int wg, .int 0, .int 0, .ref oc, .ref so, .ref rv, .ref sp, .int qs, .ref rz, .ref bl, .ref ww, .ref hs, .ref fi, .ref pm, .ref mx, .ref my, .ref mm, .ref mq, .ref mz, .ref wy, .ref fn, .int si, .int cs, .int cn, .int fa, .int pu, .int de, .int ve, .long nw, .int mk]))] [] sz) (va_Qi (fun r (u : Int32) => (u = 0 ∧ cntI 0 0 cn fa fd i = some r) ∨ (u = 1 ∧ cntI 0 0 cn fa fd i = none ∧ r = 0)) (mu_B (dC, dI) [] (va_A [(q0, .inr (12, [.int er, .int fd, .int wg, .int 0, .int 0, .ref oc, .ref so, .ref rv, .ref sp, .int qs, .ref rz, .ref bl, .ref ww, .ref hs, .ref fi, .ref pm, .ref mx, .ref my, .ref mm, .ref mq, .ref mz, .ref wy, .ref fn, .int si, .int cs, .int cn, .int fa, .int pu, .int de, .int ve, .long nw, .int mk]))] sz) (fun u : Int32 => [(q0, .inr (12, [.int u, .int fd, .int wg, .int 0, .int 0, .ref oc, .ref so, .ref rv, .ref sp, .int qs, .ref rz, .ref bl, .ref ww, .ref hs, .ref fi, .ref pm, .ref mx, .ref my, .ref mm, .ref mq, .ref mz, .ref wy, .ref fn, .int si, .int cs, .int cn, .int fa, .int pu, .int de, .int ve, .long nw, .int mk]))])) (va_A [(q0, .inr (12, [.int er, .int fd, .int wg, .int 0, .int 0, .ref oc, .ref so, .ref rv, .ref sp, .int qs, .ref rz, .ref bl, .ref ww, .ref hs, .ref fi, .ref pm, .ref mx, .ref my, .ref mm, .ref mq, .ref mz, .ref wy, .ref fn, .int si, .int cs, .int cn, .int fa, .int pu, .int de, .int ve, .long nw, .int mk]))] sz)) 0 0 (va_A [(q0, .inr (12, [.int er, .int fd, .int wg, .int 0, .int 0, .ref oc, .ref so, .ref rv, .ref sp, .int qs, .ref rz, .ref bl, .ref ww, .ref hs, .ref fi, .ref pm, .ref mx, .ref my, .ref mm, .ref mq, .ref mz, .ref wy, .ref fn, .int si, .int cs, .int cn, .int fa, .int pu, .int de, .int ve, .long nw, .int mk]))] sz) := by
  refine Met.ofW (cc := b_Model_count) (maxL := 2) (ret := (some FieldType.int)) (by decide) rfl ?_
  intro p e s m args below meth c s₁ B hml hv
  obtain ⟨rfl, hsz, hB0, hP, hK, hD0, hN, hT0⟩ := hv
  have hx := B.exec
  have hb := B.bytes
  have hr := B.returns
  have hts := atoms_spec (ws := w_Model_count) B.pre
  have tbin : ∀ w ∈ tb, w ∈ w_Model_count := fun w h => List.mem_cons_of_mem _ h
  have htb : ∀ w ∈ tb, w.before _ s = true := fun w h => hts w (tbin w h)
  have hown : s.vm.findClass "TrustChainModel" = some m.cls := findClass_of_methodNamed B.named
  have hlocks := B.notSynchronized
  subst hsz
  have hD := hD0.self (sz := s.heap.size)
  generalize hAe : va_A [(q0, .inr (12, [.int er, .int fd, .int wg, .int 0, .int 0, .ref oc, .ref so, .ref rv, .ref sp, .int qs, .ref rz, .ref bl, .ref ww, .ref hs, .ref fi, .ref pm, .ref mx, .ref my, .ref mm, .ref mq, .ref mz, .ref wy, .ref fn, .int si, .int cs, .int cn, .int fa, .int pu, .int de, .int ve, .long nw, .int mk]))] s.heap.size = A at hD ⊢
  have hA : ∀ q : Nat, s.heap.size ≤ q → A q := fun q h => by rw [← hAe]; exact Or.inr h
  have hAs : ∀ q : Nat, A q → sb.1 ≤ q := fun q h => by
    rw [← hAe] at h
    rcases h with ⟨k, e, h⟩ | h
    · exact hD0.2 k _ h
    · exact Nat.le_trans hB0 h
  have hS : va_S A s.heap s.heap [] := va_S.rf
  have hcs : 0 ≤ (headSpec w_Model_count ({ frames := 3, cells := 0, slots := 0, locals := 90 })).room.cells ∧ 0 ≤ (headSpec w_Model_count ({ frames := 3, cells := 0, slots := 0, locals := 90 })).room.slots := ⟨Nat.le_refl _, Nat.le_refl _⟩
  have hP : va_P (dC, dI) classes [(q0, .inr (12, [.int er, .int fd, .int wg, .int 0, .int 0, .ref oc, .ref so, .ref rv, .ref sp, .int qs, .ref rz, .ref bl, .ref ww, .ref hs, .ref fi, .ref pm, .ref mx, .ref my, .ref mm, .ref mq, .ref mz, .ref wy, .ref fn, .int si, .int cs, .int cn, .int fa, .int pu, .int de, .int ve, .long nw, .int mk]))] s.heap := hP
  have hl := lv_entry ([.ref q0, .int i]) (n := 2) (Nat.le_of_ble_eq_true rfl)
  rw [lg_entry_eq]
  generalize (lg_sl ([.ref q0, .int i]) ++ List.replicate (2 - (lg_sl ([.ref q0, .int i])).length) Slot.unset).toArray = ls at hl ⊢
  have hl : lv_has ls 2 [(0, .ref q0), (1, .int i)] := hl
  refine lv_aload_n hx hb d_Model_count_0 rfl (lv_at hl 0 rfl) ?_
  refine lv_iconst (v := 0) hx hb d_Model_count_1 (by decide) ?_
  refine va_put (v := .int 0) (ty := .int) hx hb htb i_Model t_Model t_Model_ok n_Model hown hK hP hD hS 0 rfl rfl 0 (by decide) (htb _ q7_214) (fun _ h9 => h9) rfl (by decide +kernel) rfl rfl (Nat.le_of_ble_eq_true rfl) d_Model_count_2 (fun H2 locs hP hD hS => ?_)
  have hP : va_P (dC, dI) classes [(q0, .inr (12, [.int 0, .int fd, .int wg, .int 0, .int 0, .ref oc, .ref so, .ref rv, .ref sp, .int qs, .ref rz, .ref bl, .ref ww, .ref hs, .ref fi, .ref pm, .ref mx, .ref my, .ref mm, .ref mq, .ref mz, .ref wy, .ref fn, .int si, .int cs, .int cn, .int fa, .int pu, .int de, .int ve, .long nw, .int mk]))] H2 := hP
  have hD : va_D A [(q0, .inr (12, [.int 0, .int fd, .int wg, .int 0, .int 0, .ref oc, .ref so, .ref rv, .ref sp, .int qs, .ref rz, .ref bl, .ref ww, .ref hs, .ref fi, .ref pm, .ref mx, .ref my, .ref mm, .ref mq, .ref mz, .ref wy, .ref fn, .int si, .int cs, .int cn, .int fa, .int pu, .int de, .int ve, .long nw, .int mk]))] := hD
  refine lv_aload_n hx hb d_Model_count_5 rfl (lv_at hl 0 rfl) ?_
  refine lv_iload_n hx hb d_Model_count_6 rfl (lv_at hl 1 rfl) ?_
  refine lv_iconst (v := 0) hx hb d_Model_count_7 (by decide) ?_
  refine lv_iconst (v := 4) hx hb d_Model_count_8 (by decide) ?_
  refine vp_callSi (pu_callS (As := [.int i, .int 0, .int 4]) (rest := [.ref q0]) ⟨hx, hb, hml, hown, hts⟩ tbin (c_Model_in l dC dI sb i 0 4) q9_68 q8_116 q1_9 q8_117 (n := 3) (by decide +kernel) rfl ⟨rfl, rfl⟩ ⟨Nat.le_of_ble_eq_true rfl, Nat.le_of_ble_eq_true rfl⟩ ⟨Nat.le_of_ble_eq_true rfl, Nat.le_of_ble_eq_true rfl⟩ hN (hT0.keep hS hAs) hK hP [] rfl [] rfl hl.1 rfl (Nat.le_of_ble_eq_true rfl) d_Model_count_9) (fun r9 hr9 => ?_)
  refine lv_if_ne (tgt := 19) hx hb d_Model_count_12 (by decide) (fun c12 => ?_) (fun c12 => ?_)
  · refine lv_iconst (v := 0) hx hb d_Model_count_19 (by decide) ?_
    refine lv_iconst (v := 1) hx hb d_Model_count_20 (by decide) ?_
    have hFc := va_free (wc := [(q0, .inr (12, [.int 0, .int fd, .int wg, .int 0, .int 0, .ref oc, .ref so, .ref rv, .ref sp, .int qs, .ref rz, .ref bl, .ref ww, .ref hs, .ref fi, .ref pm, .ref mx, .ref my, .ref mm, .ref mq, .ref mz, .ref wy, .ref fn, .int si, .int cs, .int cn, .int fa, .int pu, .int de, .int ve, .long nw, .int mk]))]) hD hS hA [0] rfl
    refine va_calli (mu_runV (As := [.int 0, .int 1]) (rest := []) ⟨hx, hb, hml, hown, hts⟩ tbin (c_Model_fails l dC dI sb q0 oc so rv sp rz bl ww hs fi pm mx my mm mq mz wy fn fd wg 0 0 qs si cs cn fa pu de ve mk nw 0 0 1 H2.size) q8_79 q8_81 qp_36 q1_9 q8_82 (n := 2) (by decide +kernel) rfl ⟨rfl, rfl⟩ ⟨Nat.le_of_ble_eq_true rfl, Nat.le_of_ble_eq_true rfl⟩ ⟨Nat.le_of_ble_eq_true rfl, Nat.le_of_ble_eq_true rfl⟩ hN (hT0.keep hS hAs) hAs (Nat.le_trans hB0 hS.1) hK hP hD [0] (by decide) rfl [] rfl 0 12 rfl rfl rfl hl.1 rfl (Nat.le_of_ble_eq_true rfl) d_Model_count_21) hS (fun q _ h => hFc q h) hFc (fun r21 u21 tS H21 locs ht hvm hw21 hB hz1 hk1 hS => ?_)
    obtain ⟨v21, rfl⟩ : ∃ z, z = u21 := ⟨_, rfl⟩
    obtain ⟨hP1, hK1, hD1⟩ := hB
    rw [ht] at hP1
    obtain ⟨hP, hD⟩ := va_join (wr := []) (w1 := [(q0, .inr (12, [.int v21, .int fd, .int wg, .int 0, .int 0, .ref oc, .ref so, .ref rv, .ref sp, .int qs, .ref rz, .ref bl, .ref ww, .ref hs, .ref fi, .ref pm, .ref mx, .ref my, .ref mm, .ref mq, .ref mz, .ref wy, .ref fn, .int si, .int cs, .int cn, .int fa, .int pu, .int de, .int ve, .long nw, .int mk]))]) hP hD [0] [] rfl rfl (by decide) (by decide) hk1 hFc hP1 hD1
    have hP : va_P (dC, dI) classes [(q0, .inr (12, [.int v21, .int fd, .int wg, .int 0, .int 0, .ref oc, .ref so, .ref rv, .ref sp, .int qs, .ref rz, .ref bl, .ref ww, .ref hs, .ref fi, .ref pm, .ref mx, .ref my, .ref mm, .ref mq, .ref mz, .ref wy, .ref fn, .int si, .int cs, .int cn, .int fa, .int pu, .int de, .int ve, .long nw, .int mk]))] H21 := hP
    have hD : va_D A [(q0, .inr (12, [.int v21, .int fd, .int wg, .int 0, .int 0, .ref oc, .ref so, .ref rv, .ref sp, .int qs, .ref rz, .ref bl, .ref ww, .ref hs, .ref fi, .ref pm, .ref mx, .ref my, .ref mm, .ref mq, .ref mz, .ref wy, .ref fn, .int si, .int cs, .int cn, .int fa, .int pu, .int de, .int ve, .long nw, .int mk]))] := hD
    obtain ⟨hv21, hz21⟩ := hw21
    rw [fl_0] at hv21
    subst hv21
    have hP : va_P (dC, dI) classes [(q0, .inr (12, [.int 0, .int fd, .int wg, .int 0, .int 0, .ref oc, .ref so, .ref rv, .ref sp, .int qs, .ref rz, .ref bl, .ref ww, .ref hs, .ref fi, .ref pm, .ref mx, .ref my, .ref mm, .ref mq, .ref mz, .ref wy, .ref fn, .int si, .int cs, .int cn, .int fa, .int pu, .int de, .int ve, .long nw, .int mk]))] H21 := hP
    have hD : va_D A [(q0, .inr (12, [.int 0, .int fd, .int wg, .int 0, .int 0, .ref oc, .ref so, .ref rv, .ref sp, .int qs, .ref rz, .ref bl, .ref ww, .ref hs, .ref fi, .ref pm, .ref mx, .ref my, .ref mm, .ref mq, .ref mz, .ref wy, .ref fn, .int si, .int cs, .int cn, .int fa, .int pu, .int de, .int ve, .long nw, .int mk]))] := hD
    refine lv_if_eq (tgt := 29) hx hb d_Model_count_24 (by decide) (fun c24 => ?_) (fun c24 => ?_)
    rotate_left
    · exact absurd rfl (bz_1 hz21 c24)
    refine lv_iload_n hx hb d_Model_count_29 rfl (lv_at hl 1 rfl) ?_
    refine lv_if_ne (tgt := 40) hx hb d_Model_count_30 (by decide) (fun c30 => ?_) (fun c30 => ?_)
    · refine lv_iload_n hx hb d_Model_count_40 rfl (lv_at hl 1 rfl) ?_
      refine lv_iconst (v := 1) hx hb d_Model_count_41 (by decide) ?_
      refine lv_icmp_ne (tgt := 52) hx hb d_Model_count_42 (by decide) (fun c42 => ?_) (fun c42 => ?_)
      · refine lv_iload_n hx hb d_Model_count_52 rfl (lv_at hl 1 rfl) ?_
        refine lv_iconst (v := 2) hx hb d_Model_count_53 (by decide) ?_
        refine lv_icmp_ne (tgt := 64) hx hb d_Model_count_54 (by decide) (fun c54 => ?_) (fun c54 => ?_)
        · refine lv_iload_n hx hb d_Model_count_64 rfl (lv_at hl 1 rfl) ?_
          refine lv_iconst (v := 3) hx hb d_Model_count_65 (by decide) ?_
          refine lv_icmp_ne (tgt := 76) hx hb d_Model_count_66 (by decide) (fun c66 => ?_) (fun c66 => ?_)
          · refine lv_aload_n hx hb d_Model_count_76 rfl (lv_at hl 0 rfl) ?_
            refine va_get (v := .int fd) hx hb htb i_Model hown hK hP 0 rfl rfl 1 (by decide) (htb _ q7_215) (fun _ h9 => h9) rfl d_Model_count_77 ?_
            exact W.iret (v := fd) hx hb hr (fun t ht hW => ⟨⟨_, 0, rfl, Or.inl ⟨rfl, cnt_4 (bz_1 hr9 c12) (fun q => c30 q) (fun q => c42 q) (fun q => c54 q) (fun q => c66 q)⟩, by rw [ht]; exact hP, va_K.moved hW.alike hK, hD⟩, hS.F ht⟩) hS.2.2 d_Model_count_80
          · refine lv_aload_n hx hb d_Model_count_69 rfl (lv_at hl 0 rfl) ?_
            refine va_get (v := .int fa) hx hb htb i_Model hown hK hP 0 rfl rfl 26 (by decide) (htb _ q8_0) (fun _ h9 => h9) rfl d_Model_count_70 ?_
            refine lv_goto (tgt := 80) hx hb d_Model_count_73 (by decide) ?_
            exact W.iret (v := fa) hx hb hr (fun t ht hW => ⟨⟨_, 0, rfl, Or.inl ⟨rfl, by obtain rfl := (show i = 3 from (by first | exact c66 | exact Classical.not_not.mp c66)); exact (if_neg (by decide)).trans ((if_neg (by decide)).trans ((if_neg (by decide)).trans (if_pos (by decide))))⟩, by rw [ht]; exact hP, va_K.moved hW.alike hK, hD⟩, hS.F ht⟩) hS.2.2 d_Model_count_80
        · refine lv_aload_n hx hb d_Model_count_57 rfl (lv_at hl 0 rfl) ?_
          refine va_get (v := .int cn) hx hb htb i_Model hown hK hP 0 rfl rfl 25 (by decide) (htb _ q7_239) (fun _ h9 => h9) rfl d_Model_count_58 ?_
          refine lv_goto (tgt := 80) hx hb d_Model_count_61 (by decide) ?_
          exact W.iret (v := cn) hx hb hr (fun t ht hW => ⟨⟨_, 0, rfl, Or.inl ⟨rfl, by obtain rfl := (show i = 2 from (by first | exact c54 | exact Classical.not_not.mp c54)); exact (if_neg (by decide)).trans ((if_neg (by decide)).trans (if_pos (by decide)))⟩, by rw [ht]; exact hP, va_K.moved hW.alike hK, hD⟩, hS.F ht⟩) hS.2.2 d_Model_count_80
      · refine lv_aload_n hx hb d_Model_count_45 rfl (lv_at hl 0 rfl) ?_
        refine va_get (v := .int 0) hx hb htb i_Model hown hK hP 0 rfl rfl 4 (by decide) (htb _ q7_218) (fun _ h9 => h9) rfl d_Model_count_46 ?_
        refine lv_goto (tgt := 80) hx hb d_Model_count_49 (by decide) ?_
        exact W.iret (v := 0) hx hb hr (fun t ht hW => ⟨⟨_, 0, rfl, Or.inl ⟨rfl, by obtain rfl := (show i = 1 from (by first | exact c42 | exact Classical.not_not.mp c42)); exact (if_neg (by decide)).trans (if_pos (by decide))⟩, by rw [ht]; exact hP, va_K.moved hW.alike hK, hD⟩, hS.F ht⟩) hS.2.2 d_Model_count_80
    · refine lv_aload_n hx hb d_Model_count_33 rfl (lv_at hl 0 rfl) ?_
      refine va_get (v := .int 0) hx hb htb i_Model hown hK hP 0 rfl rfl 3 (by decide) (htb _ q7_217) (fun _ h9 => h9) rfl d_Model_count_34 ?_
      refine lv_goto (tgt := 80) hx hb d_Model_count_37 (by decide) ?_
      exact W.iret (v := 0) hx hb hr (fun t ht hW => ⟨⟨_, 0, rfl, Or.inl ⟨rfl, by obtain rfl := (show i = 0 from (by first | exact c30 | exact Classical.not_not.mp c30)); exact if_pos (by decide)⟩, by rw [ht]; exact hP, va_K.moved hW.alike hK, hD⟩, hS.F ht⟩) hS.2.2 d_Model_count_80
  · refine lv_iconst (v := 1) hx hb d_Model_count_15 (by decide) ?_
    refine lv_goto (tgt := 20) hx hb d_Model_count_16 (by decide) ?_
    refine lv_iconst (v := 1) hx hb d_Model_count_20 (by decide) ?_
    have hFc := va_free (wc := [(q0, .inr (12, [.int 0, .int fd, .int wg, .int 0, .int 0, .ref oc, .ref so, .ref rv, .ref sp, .int qs, .ref rz, .ref bl, .ref ww, .ref hs, .ref fi, .ref pm, .ref mx, .ref my, .ref mm, .ref mq, .ref mz, .ref wy, .ref fn, .int si, .int cs, .int cn, .int fa, .int pu, .int de, .int ve, .long nw, .int mk]))]) hD hS hA [0] rfl
    refine va_calli (mu_runV (As := [.int 1, .int 1]) (rest := []) ⟨hx, hb, hml, hown, hts⟩ tbin (c_Model_fails l dC dI sb q0 oc so rv sp rz bl ww hs fi pm mx my mm mq mz wy fn fd wg 0 0 qs si cs cn fa pu de ve mk nw 0 1 1 H2.size) q8_79 q8_81 qp_36 q1_9 q8_82 (n := 2) (by decide +kernel) rfl ⟨rfl, rfl⟩ ⟨Nat.le_of_ble_eq_true rfl, Nat.le_of_ble_eq_true rfl⟩ ⟨Nat.le_of_ble_eq_true rfl, Nat.le_of_ble_eq_true rfl⟩ hN (hT0.keep hS hAs) hAs (Nat.le_trans hB0 hS.1) hK hP hD [0] (by decide) rfl [] rfl 0 12 rfl rfl rfl hl.1 rfl (Nat.le_of_ble_eq_true rfl) d_Model_count_21) hS (fun q _ h => hFc q h) hFc (fun r21 u21 tS H21 locs ht hvm hw21 hB hz1 hk1 hS => ?_)
    obtain ⟨v21, rfl⟩ : ∃ z, z = u21 := ⟨_, rfl⟩
    obtain ⟨hP1, hK1, hD1⟩ := hB
    rw [ht] at hP1
    obtain ⟨hP, hD⟩ := va_join (wr := []) (w1 := [(q0, .inr (12, [.int v21, .int fd, .int wg, .int 0, .int 0, .ref oc, .ref so, .ref rv, .ref sp, .int qs, .ref rz, .ref bl, .ref ww, .ref hs, .ref fi, .ref pm, .ref mx, .ref my, .ref mm, .ref mq, .ref mz, .ref wy, .ref fn, .int si, .int cs, .int cn, .int fa, .int pu, .int de, .int ve, .long nw, .int mk]))]) hP hD [0] [] rfl rfl (by decide) (by decide) hk1 hFc hP1 hD1
    have hP : va_P (dC, dI) classes [(q0, .inr (12, [.int v21, .int fd, .int wg, .int 0, .int 0, .ref oc, .ref so, .ref rv, .ref sp, .int qs, .ref rz, .ref bl, .ref ww, .ref hs, .ref fi, .ref pm, .ref mx, .ref my, .ref mm, .ref mq, .ref mz, .ref wy, .ref fn, .int si, .int cs, .int cn, .int fa, .int pu, .int de, .int ve, .long nw, .int mk]))] H21 := hP
    have hD : va_D A [(q0, .inr (12, [.int v21, .int fd, .int wg, .int 0, .int 0, .ref oc, .ref so, .ref rv, .ref sp, .int qs, .ref rz, .ref bl, .ref ww, .ref hs, .ref fi, .ref pm, .ref mx, .ref my, .ref mm, .ref mq, .ref mz, .ref wy, .ref fn, .int si, .int cs, .int cn, .int fa, .int pu, .int de, .int ve, .long nw, .int mk]))] := hD
    obtain ⟨hv21, hz21⟩ := hw21
    rw [fl_1] at hv21
    subst hv21
    have hP : va_P (dC, dI) classes [(q0, .inr (12, [.int 1, .int fd, .int wg, .int 0, .int 0, .ref oc, .ref so, .ref rv, .ref sp, .int qs, .ref rz, .ref bl, .ref ww, .ref hs, .ref fi, .ref pm, .ref mx, .ref my, .ref mm, .ref mq, .ref mz, .ref wy, .ref fn, .int si, .int cs, .int cn, .int fa, .int pu, .int de, .int ve, .long nw, .int mk]))] H21 := hP
    have hD : va_D A [(q0, .inr (12, [.int 1, .int fd, .int wg, .int 0, .int 0, .ref oc, .ref so, .ref rv, .ref sp, .int qs, .ref rz, .ref bl, .ref ww, .ref hs, .ref fi, .ref pm, .ref mx, .ref my, .ref mm, .ref mq, .ref mz, .ref wy, .ref fn, .int si, .int cs, .int cn, .int fa, .int pu, .int de, .int ve, .long nw, .int mk]))] := hD
    refine lv_if_eq (tgt := 29) hx hb d_Model_count_24 (by decide) (fun c24 => ?_) (fun c24 => ?_)
    · exact absurd (by decide) (bz_0 hz21 (by first | exact c24 | exact Classical.not_not.mp c24))
    refine lv_iconst (v := 0) hx hb d_Model_count_27 (by decide) ?_
    exact W.iret (v := 0) hx hb hr (fun t ht hW => ⟨⟨_, 1, rfl, Or.inr ⟨rfl, cnt_n (bz_0 hr9 (by first | exact c12 | exact Classical.not_not.mp c12)), rfl⟩, by rw [ht]; exact hP, va_K.moved hW.alike hK, hD⟩, hS.F ht⟩) hS.2.2 d_Model_count_28
