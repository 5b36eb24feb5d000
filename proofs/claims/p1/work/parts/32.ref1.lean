/-! The reference's part and validate where nothing is stored. -/
def y_Model_part : MethodName := ⟨"TrustChainModel", "part", "(II)J"⟩
abbrev b_Model_part : ByteArray := prog_14_method_21_code
def w_Model_part : List Cond := Cond.code y_Model_part b_Model_part 6 ((some FieldType.long)) :: tb
theorem d_Model_part_0 : decode b_Model_part 0 = .ok (.aload_n 0, 1) := by decide +kernel
theorem d_Model_part_1 : decode b_Model_part 1 = .ok (.iconst 0, 1) := by decide +kernel
theorem d_Model_part_2 : decode b_Model_part 2 = .ok (.putfield 145, 3) := by decide +kernel
theorem d_Model_part_5 : decode b_Model_part 5 = .ok (.aload_n 0, 1) := by decide +kernel
theorem d_Model_part_6 : decode b_Model_part 6 = .ok (.iload_n 2, 1) := by decide +kernel
theorem d_Model_part_7 : decode b_Model_part 7 = .ok (.iconst 0, 1) := by decide +kernel
theorem d_Model_part_8 : decode b_Model_part 8 = .ok (.bipush 11, 2) := by decide +kernel
theorem d_Model_part_10 : decode b_Model_part 10 = .ok (.invokestatic 205, 3) := by decide +kernel
theorem d_Model_part_13 : decode b_Model_part 13 = .ok (.ifCond .ne 7, 3) := by decide +kernel
theorem d_Model_part_16 : decode b_Model_part 16 = .ok (.iconst 1, 1) := by decide +kernel
theorem d_Model_part_17 : decode b_Model_part 17 = .ok (.goto 4, 3) := by decide +kernel
theorem d_Model_part_20 : decode b_Model_part 20 = .ok (.iconst 0, 1) := by decide +kernel
theorem d_Model_part_21 : decode b_Model_part 21 = .ok (.iconst 1, 1) := by decide +kernel
theorem d_Model_part_22 : decode b_Model_part 22 = .ok (.invokevirtual 176, 3) := by decide +kernel
theorem d_Model_part_25 : decode b_Model_part 25 = .ok (.ifCond .ne 12, 3) := by decide +kernel
theorem d_Model_part_28 : decode b_Model_part 28 = .ok (.aload_n 0, 1) := by decide +kernel
theorem d_Model_part_29 : decode b_Model_part 29 = .ok (.iload_n 1, 1) := by decide +kernel
theorem d_Model_part_30 : decode b_Model_part 30 = .ok (.iconst 2, 1) := by decide +kernel
theorem d_Model_part_31 : decode b_Model_part 31 = .ok (.invokevirtual 209, 3) := by decide +kernel
theorem d_Model_part_34 : decode b_Model_part 34 = .ok (.ifCond .eq 5, 3) := by decide +kernel
theorem d_Model_part_37 : decode b_Model_part 37 = .ok (.lconst 0, 1) := by decide +kernel
theorem d_Model_part_38 : decode b_Model_part 38 = .ok (.lreturn, 1) := by decide +kernel
theorem d_Model_part_39 : decode b_Model_part 39 = .ok (.aload_n 0, 1) := by decide +kernel
set_option maxHeartbeats 4000000 in
set_option maxRecDepth 100000 in
theorem c0_Model_part (l : Launch) (dC : Nat → ClassId) (dI : Nat → Nat → Nat) (sb : sB) (q0 oc so rv sp rz bl ww hs fi pm mx my mm mq mz wy fn : Nat) (fd wg nl qs si cs cn fa pu de ve mk : Int32) (nw : Int64) (er i j : Int32) (sz : Nat) : Met l y_Model_part w_Model_part ({ frames := 3, cells := 0, slots := 0, locals := 90 }) (mu_P [.ref q0, .int i, .int j] (dC, dI) sb [(q0, .inr (12, [.int er, .int fd, .int wg, .int 0, .int nl, .ref oc, .ref so, .ref rv, .ref sp, .int qs, .ref rz, .ref bl, .ref ww, .ref hs, .ref fi, .ref pm, .ref mx, .ref my, .ref mm, .ref mq, .ref mz, .ref wy, .ref fn, .int si, .int cs, .int cn, .int fa, .int pu, .int de, .int ve, .long nw, .int mk]))] [] sz) (va_Ql (fun r (u : Int32) => u = (if j < 0 ∨ 11 < j then 1 else 2) ∧ r = 0) (mu_B (dC, dI) [] (va_A [(q0, .inr (12, [.int er, .int fd, .int wg, .int 0, .int nl, .ref oc, .ref so, .ref rv, .ref sp, .int qs, .ref rz, .ref bl, .ref ww, .ref hs, .ref fi, .ref pm, .ref mx, .ref my, .ref mm, .ref mq, .ref mz, .ref wy, .ref fn, .int si, .int cs, .int cn, .int fa, .int pu, .int de, .int ve, .long nw, .int mk]))] sz) (fun u : Int32 => [(q0, .inr (12, [.int u, .int fd, .int wg, .int 0, .int nl, .ref oc, .ref so, .ref rv, .ref sp, .int qs, .ref rz, .ref bl, .ref ww, .ref hs, .ref fi, .ref pm, .ref mx, .ref my, .ref mm, .ref mq, .ref mz, .ref wy, .ref fn, .int si, .int cs, .int cn, .int fa, .int pu, .int de, .int ve, .long nw, .int mk]))])) (va_A [(q0, .inr (12, [.int er, .int fd, .int wg, .int 0, .int nl, .ref oc, .ref so, .ref rv, .ref sp, .int qs, .ref rz, .ref bl, .ref ww, .ref hs, .ref fi, .ref pm, .ref mx, .ref my, .ref mm, .ref mq, .ref mz, .ref wy, .ref fn, .int si, .int cs, .int cn, .int fa, .int pu, .int de, .int ve, .long nw, .int mk]))] sz)) 0 0 (va_A [(q0, .inr (12, [.int er, .int fd, .int wg, .int 0, .int nl, .ref oc, .ref so, .ref rv, .ref sp, .int qs, .ref rz, .ref bl, .ref ww, .ref hs, .ref fi, .ref pm, .ref mx, .ref my, .ref mm, .ref mq, .ref mz, .ref wy, .ref fn, .int si, .int cs, .int cn, .int fa, .int pu, .int de, .int ve, .long nw, .int mk]))] sz) := by
  refine Met.ofW (cc := b_Model_part) (maxL := 6) (ret := (some FieldType.long)) (by decide) rfl ?_
  intro p e s m args below meth c s₁ B hml hv
  obtain ⟨rfl, hsz, hB0, hP, hK, hD0, hN, hT0⟩ := hv
  have hx := B.exec
  have hb := B.bytes
  have hr := B.returns
  have hts := atoms_spec (ws := w_Model_part) B.pre
  have tbin : ∀ w ∈ tb, w ∈ w_Model_part := fun w h => List.mem_cons_of_mem _ h
  have htb : ∀ w ∈ tb, w.before _ s = true := fun w h => hts w (tbin w h)
  have hown : s.vm.findClass "TrustChainModel" = some m.cls := findClass_of_methodNamed B.named
  have hlocks := B.notSynchronized
  subst hsz
  have hD := hD0.self (sz := s.heap.size)
  generalize hAe : va_A [(q0, .inr (12, [.int er, .int fd, .int wg, .int 0, .int nl, .ref oc, .ref so, .ref rv, .ref sp, .int qs, .ref rz, .ref bl, .ref ww, .ref hs, .ref fi, .ref pm, .ref mx, .ref my, .ref mm, .ref mq, .ref mz, .ref wy, .ref fn, .int si, .int cs, .int cn, .int fa, .int pu, .int de, .int ve, .long nw, .int mk]))] s.heap.size = A at hD ⊢
  have hA : ∀ q : Nat, s.heap.size ≤ q → A q := fun q h => by rw [← hAe]; exact Or.inr h
  have hAs : ∀ q : Nat, A q → sb.1 ≤ q := fun q h => by
    rw [← hAe] at h
    rcases h with ⟨k, e, h⟩ | h
    · exact hD0.2 k _ h
    · exact Nat.le_trans hB0 h
  have hS : va_S A s.heap s.heap [] := va_S.rf
  have hcs : 0 ≤ (headSpec w_Model_part ({ frames := 3, cells := 0, slots := 0, locals := 90 })).room.cells ∧ 0 ≤ (headSpec w_Model_part ({ frames := 3, cells := 0, slots := 0, locals := 90 })).room.slots := ⟨Nat.le_refl _, Nat.le_refl _⟩
  have hP : va_P (dC, dI) classes [(q0, .inr (12, [.int er, .int fd, .int wg, .int 0, .int nl, .ref oc, .ref so, .ref rv, .ref sp, .int qs, .ref rz, .ref bl, .ref ww, .ref hs, .ref fi, .ref pm, .ref mx, .ref my, .ref mm, .ref mq, .ref mz, .ref wy, .ref fn, .int si, .int cs, .int cn, .int fa, .int pu, .int de, .int ve, .long nw, .int mk]))] s.heap := hP
  have hl := lv_entry ([.ref q0, .int i, .int j]) (n := 6) (Nat.le_of_ble_eq_true rfl)
  rw [lg_entry_eq]
  generalize (lg_sl ([.ref q0, .int i, .int j]) ++ List.replicate (6 - (lg_sl ([.ref q0, .int i, .int j])).length) Slot.unset).toArray = ls at hl ⊢
  have hl : lv_has ls 6 [(0, .ref q0), (1, .int i), (2, .int j)] := hl
  refine lv_aload_n hx hb d_Model_part_0 rfl (lv_at hl 0 rfl) ?_
  refine lv_iconst (v := 0) hx hb d_Model_part_1 (by decide) ?_
  refine va_put (v := .int 0) (ty := .int) hx hb htb i_Model t_Model t_Model_ok n_Model hown hK hP hD hS 0 rfl rfl 0 (by decide) (htb _ q7_214) (fun _ h9 => h9) rfl (by decide +kernel) rfl rfl (Nat.le_of_ble_eq_true rfl) d_Model_part_2 (fun H2 locs hP hD hS => ?_)
  have hP : va_P (dC, dI) classes [(q0, .inr (12, [.int 0, .int fd, .int wg, .int 0, .int nl, .ref oc, .ref so, .ref rv, .ref sp, .int qs, .ref rz, .ref bl, .ref ww, .ref hs, .ref fi, .ref pm, .ref mx, .ref my, .ref mm, .ref mq, .ref mz, .ref wy, .ref fn, .int si, .int cs, .int cn, .int fa, .int pu, .int de, .int ve, .long nw, .int mk]))] H2 := hP
  have hD : va_D A [(q0, .inr (12, [.int 0, .int fd, .int wg, .int 0, .int nl, .ref oc, .ref so, .ref rv, .ref sp, .int qs, .ref rz, .ref bl, .ref ww, .ref hs, .ref fi, .ref pm, .ref mx, .ref my, .ref mm, .ref mq, .ref mz, .ref wy, .ref fn, .int si, .int cs, .int cn, .int fa, .int pu, .int de, .int ve, .long nw, .int mk]))] := hD
  refine lv_aload_n hx hb d_Model_part_5 rfl (lv_at hl 0 rfl) ?_
  refine lv_iload_n hx hb d_Model_part_6 rfl (lv_at hl 2 rfl) ?_
  refine lv_iconst (v := 0) hx hb d_Model_part_7 (by decide) ?_
  refine lv_bipush (v := 11) hx hb d_Model_part_8 (by decide) ?_
  refine vp_callSi (pu_callS (As := [.int j, .int 0, .int 11]) (rest := [.ref q0]) ⟨hx, hb, hml, hown, hts⟩ tbin (c_Model_in l dC dI sb j 0 11) q9_68 q8_116 q1_9 q8_117 (n := 3) (by decide +kernel) rfl ⟨rfl, rfl⟩ ⟨Nat.le_of_ble_eq_true rfl, Nat.le_of_ble_eq_true rfl⟩ ⟨Nat.le_of_ble_eq_true rfl, Nat.le_of_ble_eq_true rfl⟩ hN (hT0.keep hS hAs) hK hP [] rfl [] rfl hl.1 rfl (Nat.le_of_ble_eq_true rfl) d_Model_part_10) (fun r10 hr10 => ?_)
  refine lv_if_ne (tgt := 20) hx hb d_Model_part_13 (by decide) (fun c13 => ?_) (fun c13 => ?_)
  · refine lv_iconst (v := 0) hx hb d_Model_part_20 (by decide) ?_
    refine lv_iconst (v := 1) hx hb d_Model_part_21 (by decide) ?_
    have hFc := va_free (wc := [(q0, .inr (12, [.int 0, .int fd, .int wg, .int 0, .int nl, .ref oc, .ref so, .ref rv, .ref sp, .int qs, .ref rz, .ref bl, .ref ww, .ref hs, .ref fi, .ref pm, .ref mx, .ref my, .ref mm, .ref mq, .ref mz, .ref wy, .ref fn, .int si, .int cs, .int cn, .int fa, .int pu, .int de, .int ve, .long nw, .int mk]))]) hD hS hA [0] rfl
    refine va_calli (mu_runV (As := [.int 0, .int 1]) (rest := []) ⟨hx, hb, hml, hown, hts⟩ tbin (c_Model_fails l dC dI sb q0 oc so rv sp rz bl ww hs fi pm mx my mm mq mz wy fn fd wg 0 nl qs si cs cn fa pu de ve mk nw 0 0 1 H2.size) q8_79 q8_81 qp_36 q1_9 q8_82 (n := 2) (by decide +kernel) rfl ⟨rfl, rfl⟩ ⟨Nat.le_of_ble_eq_true rfl, Nat.le_of_ble_eq_true rfl⟩ ⟨Nat.le_of_ble_eq_true rfl, Nat.le_of_ble_eq_true rfl⟩ hN (hT0.keep hS hAs) hAs (Nat.le_trans hB0 hS.1) hK hP hD [0] (by decide) rfl [] rfl 0 12 rfl rfl rfl hl.1 rfl (Nat.le_of_ble_eq_true rfl) d_Model_part_22) hS (fun q _ h => hFc q h) hFc (fun r22 u22 tS H22 locs ht hvm hw22 hB hz1 hk1 hS => ?_)
    obtain ⟨v22, rfl⟩ : ∃ z, z = u22 := ⟨_, rfl⟩
    obtain ⟨hP1, hK1, hD1⟩ := hB
    rw [ht] at hP1
    obtain ⟨hP, hD⟩ := va_join (wr := []) (w1 := [(q0, .inr (12, [.int v22, .int fd, .int wg, .int 0, .int nl, .ref oc, .ref so, .ref rv, .ref sp, .int qs, .ref rz, .ref bl, .ref ww, .ref hs, .ref fi, .ref pm, .ref mx, .ref my, .ref mm, .ref mq, .ref mz, .ref wy, .ref fn, .int si, .int cs, .int cn, .int fa, .int pu, .int de, .int ve, .long nw, .int mk]))]) hP hD [0] [] rfl rfl (by decide) (by decide) hk1 hFc hP1 hD1
    have hP : va_P (dC, dI) classes [(q0, .inr (12, [.int v22, .int fd, .int wg, .int 0, .int nl, .ref oc, .ref so, .ref rv, .ref sp, .int qs, .ref rz, .ref bl, .ref ww, .ref hs, .ref fi, .ref pm, .ref mx, .ref my, .ref mm, .ref mq, .ref mz, .ref wy, .ref fn, .int si, .int cs, .int cn, .int fa, .int pu, .int de, .int ve, .long nw, .int mk]))] H22 := hP
    have hD : va_D A [(q0, .inr (12, [.int v22, .int fd, .int wg, .int 0, .int nl, .ref oc, .ref so, .ref rv, .ref sp, .int qs, .ref rz, .ref bl, .ref ww, .ref hs, .ref fi, .ref pm, .ref mx, .ref my, .ref mm, .ref mq, .ref mz, .ref wy, .ref fn, .int si, .int cs, .int cn, .int fa, .int pu, .int de, .int ve, .long nw, .int mk]))] := hD
    obtain ⟨hv22, hz22⟩ := hw22
    rw [fl_0] at hv22
    subst hv22
    have hP : va_P (dC, dI) classes [(q0, .inr (12, [.int 0, .int fd, .int wg, .int 0, .int nl, .ref oc, .ref so, .ref rv, .ref sp, .int qs, .ref rz, .ref bl, .ref ww, .ref hs, .ref fi, .ref pm, .ref mx, .ref my, .ref mm, .ref mq, .ref mz, .ref wy, .ref fn, .int si, .int cs, .int cn, .int fa, .int pu, .int de, .int ve, .long nw, .int mk]))] H22 := hP
    have hD : va_D A [(q0, .inr (12, [.int 0, .int fd, .int wg, .int 0, .int nl, .ref oc, .ref so, .ref rv, .ref sp, .int qs, .ref rz, .ref bl, .ref ww, .ref hs, .ref fi, .ref pm, .ref mx, .ref my, .ref mm, .ref mq, .ref mz, .ref wy, .ref fn, .int si, .int cs, .int cn, .int fa, .int pu, .int de, .int ve, .long nw, .int mk]))] := hD
    refine lv_if_ne (tgt := 37) hx hb d_Model_part_25 (by decide) (fun c25 => ?_) (fun c25 => ?_)
    · exact absurd rfl (bz_1 hz22 c25)
    refine lv_aload_n hx hb d_Model_part_28 rfl (lv_at hl 0 rfl) ?_
    refine lv_iload_n hx hb d_Model_part_29 rfl (lv_at hl 1 rfl) ?_
    refine lv_iconst (v := 2) hx hb d_Model_part_30 (by decide) ?_
    have hFc := va_free (wc := [(q0, .inr (12, [.int 0, .int fd, .int wg, .int 0, .int nl, .ref oc, .ref so, .ref rv, .ref sp, .int qs, .ref rz, .ref bl, .ref ww, .ref hs, .ref fi, .ref pm, .ref mx, .ref my, .ref mm, .ref mq, .ref mz, .ref wy, .ref fn, .int si, .int cs, .int cn, .int fa, .int pu, .int de, .int ve, .long nw, .int mk]))]) hD hS hA [0] rfl
    refine va_calli (mu_runV (As := [.int i, .int 2]) (rest := []) ⟨hx, hb, hml, hown, hts⟩ tbin (c_Model_noCertificate l dC dI sb q0 oc so rv sp rz bl ww hs fi pm mx my mm mq mz wy fn fd wg 0 nl qs si cs cn fa pu de ve mk nw i 2 H22.size (by decide)) q9_64 q9_66 qp_39 q1_9 q9_67 (n := 2) (by decide +kernel) rfl ⟨rfl, rfl⟩ ⟨Nat.le_of_ble_eq_true rfl, Nat.le_of_ble_eq_true rfl⟩ ⟨Nat.le_of_ble_eq_true rfl, Nat.le_of_ble_eq_true rfl⟩ hN (hT0.keep hS hAs) hAs (Nat.le_trans hB0 hS.1) hK hP hD [0] (by decide) rfl [] rfl 0 12 rfl rfl rfl hl.1 rfl (Nat.le_of_ble_eq_true rfl) d_Model_part_31) hS (fun q _ h => hFc q h) hFc (fun r31 u31 tS H31 locs ht hvm hw31 hB hz1 hk1 hS => ?_)
    obtain ⟨v31, rfl⟩ : ∃ z, z = u31 := ⟨_, rfl⟩
    obtain ⟨hP1, hK1, hD1⟩ := hB
    rw [ht] at hP1
    obtain ⟨hP, hD⟩ := va_join (wr := []) (w1 := [(q0, .inr (12, [.int v31, .int fd, .int wg, .int 0, .int nl, .ref oc, .ref so, .ref rv, .ref sp, .int qs, .ref rz, .ref bl, .ref ww, .ref hs, .ref fi, .ref pm, .ref mx, .ref my, .ref mm, .ref mq, .ref mz, .ref wy, .ref fn, .int si, .int cs, .int cn, .int fa, .int pu, .int de, .int ve, .long nw, .int mk]))]) hP hD [0] [] rfl rfl (by decide) (by decide) hk1 hFc hP1 hD1
    have hP : va_P (dC, dI) classes [(q0, .inr (12, [.int v31, .int fd, .int wg, .int 0, .int nl, .ref oc, .ref so, .ref rv, .ref sp, .int qs, .ref rz, .ref bl, .ref ww, .ref hs, .ref fi, .ref pm, .ref mx, .ref my, .ref mm, .ref mq, .ref mz, .ref wy, .ref fn, .int si, .int cs, .int cn, .int fa, .int pu, .int de, .int ve, .long nw, .int mk]))] H31 := hP
    have hD : va_D A [(q0, .inr (12, [.int v31, .int fd, .int wg, .int 0, .int nl, .ref oc, .ref so, .ref rv, .ref sp, .int qs, .ref rz, .ref bl, .ref ww, .ref hs, .ref fi, .ref pm, .ref mx, .ref my, .ref mm, .ref mq, .ref mz, .ref wy, .ref fn, .int si, .int cs, .int cn, .int fa, .int pu, .int de, .int ve, .long nw, .int mk]))] := hD
    refine lv_if_eq (tgt := 39) hx hb d_Model_part_34 (by decide) (fun c34 => ?_) (fun c34 => ?_)
    · exact absurd x_p0 (bz_0 hw31.2 c34)
    refine lv_lconst (v := 0) hx hb d_Model_part_37 (by decide) ?_
    exact W.lret (v := 0) hx hb hr (fun t ht hW => ⟨⟨_, v31, rfl, ⟨(hw31.1.trans (if_neg x_p0)).trans (if_neg (fun q => q.elim (bz_1 hr10 c13).1 (bz_1 hr10 c13).2)).symm, rfl⟩, by rw [ht]; exact hP, va_K.moved hW.alike hK, hD⟩, hS.F ht⟩) hS.2.2 d_Model_part_38
  · refine lv_iconst (v := 1) hx hb d_Model_part_16 (by decide) ?_
    refine lv_goto (tgt := 21) hx hb d_Model_part_17 (by decide) ?_
    refine lv_iconst (v := 1) hx hb d_Model_part_21 (by decide) ?_
    have hFc := va_free (wc := [(q0, .inr (12, [.int 0, .int fd, .int wg, .int 0, .int nl, .ref oc, .ref so, .ref rv, .ref sp, .int qs, .ref rz, .ref bl, .ref ww, .ref hs, .ref fi, .ref pm, .ref mx, .ref my, .ref mm, .ref mq, .ref mz, .ref wy, .ref fn, .int si, .int cs, .int cn, .int fa, .int pu, .int de, .int ve, .long nw, .int mk]))]) hD hS hA [0] rfl
    refine va_calli (mu_runV (As := [.int 1, .int 1]) (rest := []) ⟨hx, hb, hml, hown, hts⟩ tbin (c_Model_fails l dC dI sb q0 oc so rv sp rz bl ww hs fi pm mx my mm mq mz wy fn fd wg 0 nl qs si cs cn fa pu de ve mk nw 0 1 1 H2.size) q8_79 q8_81 qp_36 q1_9 q8_82 (n := 2) (by decide +kernel) rfl ⟨rfl, rfl⟩ ⟨Nat.le_of_ble_eq_true rfl, Nat.le_of_ble_eq_true rfl⟩ ⟨Nat.le_of_ble_eq_true rfl, Nat.le_of_ble_eq_true rfl⟩ hN (hT0.keep hS hAs) hAs (Nat.le_trans hB0 hS.1) hK hP hD [0] (by decide) rfl [] rfl 0 12 rfl rfl rfl hl.1 rfl (Nat.le_of_ble_eq_true rfl) d_Model_part_22) hS (fun q _ h => hFc q h) hFc (fun r22 u22 tS H22 locs ht hvm hw22 hB hz1 hk1 hS => ?_)
    obtain ⟨v22, rfl⟩ : ∃ z, z = u22 := ⟨_, rfl⟩
    obtain ⟨hP1, hK1, hD1⟩ := hB
    rw [ht] at hP1
    obtain ⟨hP, hD⟩ := va_join (wr := []) (w1 := [(q0, .inr (12, [.int v22, .int fd, .int wg, .int 0, .int nl, .ref oc, .ref so, .ref rv, .ref sp, .int qs, .ref rz, .ref bl, .ref ww, .ref hs, .ref fi, .ref pm, .ref mx, .ref my, .ref mm, .ref mq, .ref mz, .ref wy, .ref fn, .int si, .int cs, .int cn, .int fa, .int pu, .int de, .int ve, .long nw, .int mk]))]) hP hD [0] [] rfl rfl (by decide) (by decide) hk1 hFc hP1 hD1
    have hP : va_P (dC, dI) classes [(q0, .inr (12, [.int v22, .int fd, .int wg, .int 0, .int nl, .ref oc, .ref so, .ref rv, .ref sp, .int qs, .ref rz, .ref bl, .ref ww, .ref hs, .ref fi, .ref pm, .ref mx, .ref my, .ref mm, .ref mq, .ref mz, .ref wy, .ref fn, .int si, .int cs, .int cn, .int fa, .int pu, .int de, .int ve, .long nw, .int mk]))] H22 := hP
    have hD : va_D A [(q0, .inr (12, [.int v22, .int fd, .int wg, .int 0, .int nl, .ref oc, .ref so, .ref rv, .ref sp, .int qs, .ref rz, .ref bl, .ref ww, .ref hs, .ref fi, .ref pm, .ref mx, .ref my, .ref mm, .ref mq, .ref mz, .ref wy, .ref fn, .int si, .int cs, .int cn, .int fa, .int pu, .int de, .int ve, .long nw, .int mk]))] := hD
    obtain ⟨hv22, hz22⟩ := hw22
    rw [fl_1] at hv22
    subst hv22
    have hP : va_P (dC, dI) classes [(q0, .inr (12, [.int 1, .int fd, .int wg, .int 0, .int nl, .ref oc, .ref so, .ref rv, .ref sp, .int qs, .ref rz, .ref bl, .ref ww, .ref hs, .ref fi, .ref pm, .ref mx, .ref my, .ref mm, .ref mq, .ref mz, .ref wy, .ref fn, .int si, .int cs, .int cn, .int fa, .int pu, .int de, .int ve, .long nw, .int mk]))] H22 := hP
    have hD : va_D A [(q0, .inr (12, [.int 1, .int fd, .int wg, .int 0, .int nl, .ref oc, .ref so, .ref rv, .ref sp, .int qs, .ref rz, .ref bl, .ref ww, .ref hs, .ref fi, .ref pm, .ref mx, .ref my, .ref mm, .ref mq, .ref mz, .ref wy, .ref fn, .int si, .int cs, .int cn, .int fa, .int pu, .int de, .int ve, .long nw, .int mk]))] := hD
    refine lv_if_ne (tgt := 37) hx hb d_Model_part_25 (by decide) (fun c25 => ?_) (fun c25 => ?_)
    rotate_left
    · exact absurd (by decide) (bz_0 hz22 (by first | exact c25 | exact Classical.not_not.mp c25))
    refine lv_lconst (v := 0) hx hb d_Model_part_37 (by decide) ?_
    exact W.lret (v := 0) hx hb hr (fun t ht hW => ⟨⟨_, 1, rfl, ⟨(if_pos (by by_cases h : j < 0; exact Or.inl h; exact Or.inr (Classical.byContradiction fun z => (bz_0 hr10 (by first | exact c13 | exact Classical.not_not.mp c13)) ⟨h, z⟩))).symm, rfl⟩, by rw [ht]; exact hP, va_K.moved hW.alike hK, hD⟩, hS.F ht⟩) hS.2.2 d_Model_part_38
def y_Model_validate : MethodName := ⟨"TrustChainModel", "validate", "(IJIZ)I"⟩
abbrev b_Model_validate : ByteArray := prog_14_method_31_code
def w_Model_validate : List Cond := Cond.code y_Model_validate b_Model_validate 6 ((some FieldType.int)) :: tb
theorem d_Model_validate_0 : decode b_Model_validate 0 = .ok (.aload_n 0, 1) := by decide +kernel
theorem d_Model_validate_1 : decode b_Model_validate 1 = .ok (.iconst 0, 1) := by decide +kernel
theorem d_Model_validate_2 : decode b_Model_validate 2 = .ok (.putfield 145, 3) := by decide +kernel
theorem d_Model_validate_5 : decode b_Model_validate 5 = .ok (.aload_n 0, 1) := by decide +kernel
theorem d_Model_validate_6 : decode b_Model_validate 6 = .ok (.iload 4, 2) := by decide +kernel
theorem d_Model_validate_8 : decode b_Model_validate 8 = .ok (.iconst 1, 1) := by decide +kernel
theorem d_Model_validate_9 : decode b_Model_validate 9 = .ok (.bipush 16, 2) := by decide +kernel
theorem d_Model_validate_11 : decode b_Model_validate 11 = .ok (.invokestatic 205, 3) := by decide +kernel
theorem d_Model_validate_14 : decode b_Model_validate 14 = .ok (.ifCond .ne 7, 3) := by decide +kernel
theorem d_Model_validate_17 : decode b_Model_validate 17 = .ok (.iconst 1, 1) := by decide +kernel
theorem d_Model_validate_18 : decode b_Model_validate 18 = .ok (.goto 4, 3) := by decide +kernel
theorem d_Model_validate_21 : decode b_Model_validate 21 = .ok (.iconst 0, 1) := by decide +kernel
theorem d_Model_validate_22 : decode b_Model_validate 22 = .ok (.iconst 1, 1) := by decide +kernel
theorem d_Model_validate_23 : decode b_Model_validate 23 = .ok (.invokevirtual 176, 3) := by decide +kernel
theorem d_Model_validate_26 : decode b_Model_validate 26 = .ok (.ifCond .ne 12, 3) := by decide +kernel
theorem d_Model_validate_29 : decode b_Model_validate 29 = .ok (.aload_n 0, 1) := by decide +kernel
theorem d_Model_validate_30 : decode b_Model_validate 30 = .ok (.iload_n 1, 1) := by decide +kernel
theorem d_Model_validate_31 : decode b_Model_validate 31 = .ok (.iconst 2, 1) := by decide +kernel
theorem d_Model_validate_32 : decode b_Model_validate 32 = .ok (.invokevirtual 209, 3) := by decide +kernel
theorem d_Model_validate_35 : decode b_Model_validate 35 = .ok (.ifCond .eq 5, 3) := by decide +kernel
theorem d_Model_validate_38 : decode b_Model_validate 38 = .ok (.iconst 0, 1) := by decide +kernel
theorem d_Model_validate_39 : decode b_Model_validate 39 = .ok (.ireturn, 1) := by decide +kernel
theorem d_Model_validate_40 : decode b_Model_validate 40 = .ok (.aload_n 0, 1) := by decide +kernel
set_option maxHeartbeats 4000000 in
set_option maxRecDepth 100000 in
theorem c0_Model_validate (l : Launch) (dC : Nat → ClassId) (dI : Nat → Nat → Nat) (sb : sB) (q0 oc so rv sp rz bl ww hs fi pm mx my mm mq mz wy fn : Nat) (fd wg nl qs si cs cn fa pu de ve mk : Int32) (nw : Int64) (er i j kn : Int32) (tm : Int64) (sz : Nat) : Met l y_Model_validate w_Model_validate ({ frames := 3, cells := 0, slots := 0, locals := 90 }) (mu_P [.ref q0, .int i, .long tm, .int j, .int kn] (dC, dI) sb [(q0, .inr (12, [.int er, .int fd, .int wg, .int 0, .int nl, .ref oc, .ref so, .ref rv, .ref sp, .int qs, .ref rz, .ref bl, .ref ww, .ref hs, .ref fi, .ref pm, .ref mx, .ref my, .ref mm, .ref mq, .ref mz, .ref wy, .ref fn, .int si, .int cs, .int cn, .int fa, .int pu, .int de, .int ve, .long nw, .int mk]))] [] sz) (va_Qi (fun r (u : Int32) => u = (if j < 1 ∨ 16 < j then 1 else 2) ∧ r = 0) (mu_B (dC, dI) [] (va_A [(q0, .inr (12, [.int er, .int fd, .int wg, .int 0, .int nl, .ref oc, .ref so, .ref rv, .ref sp, .int qs, .ref rz, .ref bl, .ref ww, .ref hs, .ref fi, .ref pm, .ref mx, .ref my, .ref mm, .ref mq, .ref mz, .ref wy, .ref fn, .int si, .int cs, .int cn, .int fa, .int pu, .int de, .int ve, .long nw, .int mk]))] sz) (fun u : Int32 => [(q0, .inr (12, [.int u, .int fd, .int wg, .int 0, .int nl, .ref oc, .ref so, .ref rv, .ref sp, .int qs, .ref rz, .ref bl, .ref ww, .ref hs, .ref fi, .ref pm, .ref mx, .ref my, .ref mm, .ref mq, .ref mz, .ref wy, .ref fn, .int si, .int cs, .int cn, .int fa, .int pu, .int de, .int ve, .long nw, .int mk]))])) (va_A [(q0, .inr (12, [.int er, .int fd, .int wg, .int 0, .int nl, .ref oc, .ref so, .ref rv, .ref sp, .int qs, .ref rz, .ref bl, .ref ww, .ref hs, .ref fi, .ref pm, .ref mx, .ref my, .ref mm, .ref mq, .ref mz, .ref wy, .ref fn, .int si, .int cs, .int cn, .int fa, .int pu, .int de, .int ve, .long nw, .int mk]))] sz)) 0 0 (va_A [(q0, .inr (12, [.int er, .int fd, .int wg, .int 0, .int nl, .ref oc, .ref so, .ref rv, .ref sp, .int qs, .ref rz, .ref bl, .ref ww, .ref hs, .ref fi, .ref pm, .ref mx, .ref my, .ref mm, .ref mq, .ref mz, .ref wy, .ref fn, .int si, .int cs, .int cn, .int fa, .int pu, .int de, .int ve, .long nw, .int mk]))] sz) := by
  refine Met.ofW (cc := b_Model_validate) (maxL := 6) (ret := (some FieldType.int)) (by decide) rfl ?_
  intro p e s m args below meth c s₁ B hml hv
  obtain ⟨rfl, hsz, hB0, hP, hK, hD0, hN, hT0⟩ := hv
  have hx := B.exec
  have hb := B.bytes
  have hr := B.returns
  have hts := atoms_spec (ws := w_Model_validate) B.pre
  have tbin : ∀ w ∈ tb, w ∈ w_Model_validate := fun w h => List.mem_cons_of_mem _ h
  have htb : ∀ w ∈ tb, w.before _ s = true := fun w h => hts w (tbin w h)
  have hown : s.vm.findClass "TrustChainModel" = some m.cls := findClass_of_methodNamed B.named
  have hlocks := B.notSynchronized
  subst hsz
  have hD := hD0.self (sz := s.heap.size)
  generalize hAe : va_A [(q0, .inr (12, [.int er, .int fd, .int wg, .int 0, .int nl, .ref oc, .ref so, .ref rv, .ref sp, .int qs, .ref rz, .ref bl, .ref ww, .ref hs, .ref fi, .ref pm, .ref mx, .ref my, .ref mm, .ref mq, .ref mz, .ref wy, .ref fn, .int si, .int cs, .int cn, .int fa, .int pu, .int de, .int ve, .long nw, .int mk]))] s.heap.size = A at hD ⊢
  have hA : ∀ q : Nat, s.heap.size ≤ q → A q := fun q h => by rw [← hAe]; exact Or.inr h
  have hAs : ∀ q : Nat, A q → sb.1 ≤ q := fun q h => by
    rw [← hAe] at h
    rcases h with ⟨k, e, h⟩ | h
    · exact hD0.2 k _ h
    · exact Nat.le_trans hB0 h
  have hS : va_S A s.heap s.heap [] := va_S.rf
  have hcs : 0 ≤ (headSpec w_Model_validate ({ frames := 3, cells := 0, slots := 0, locals := 90 })).room.cells ∧ 0 ≤ (headSpec w_Model_validate ({ frames := 3, cells := 0, slots := 0, locals := 90 })).room.slots := ⟨Nat.le_refl _, Nat.le_refl _⟩
  have hP : va_P (dC, dI) classes [(q0, .inr (12, [.int er, .int fd, .int wg, .int 0, .int nl, .ref oc, .ref so, .ref rv, .ref sp, .int qs, .ref rz, .ref bl, .ref ww, .ref hs, .ref fi, .ref pm, .ref mx, .ref my, .ref mm, .ref mq, .ref mz, .ref wy, .ref fn, .int si, .int cs, .int cn, .int fa, .int pu, .int de, .int ve, .long nw, .int mk]))] s.heap := hP
  have hl := lv_entry ([.ref q0, .int i, .long tm, .int j, .int kn]) (n := 6) (Nat.le_of_ble_eq_true rfl)
  rw [lg_entry_eq]
  generalize (lg_sl ([.ref q0, .int i, .long tm, .int j, .int kn]) ++ List.replicate (6 - (lg_sl ([.ref q0, .int i, .long tm, .int j, .int kn])).length) Slot.unset).toArray = ls at hl ⊢
  have hl : lv_has ls 6 [(0, .ref q0), (1, .int i), (2, .long tm), (4, .int j), (5, .int kn)] := hl
  refine lv_aload_n hx hb d_Model_validate_0 rfl (lv_at hl 0 rfl) ?_
  refine lv_iconst (v := 0) hx hb d_Model_validate_1 (by decide) ?_
  refine va_put (v := .int 0) (ty := .int) hx hb htb i_Model t_Model t_Model_ok n_Model hown hK hP hD hS 0 rfl rfl 0 (by decide) (htb _ q7_214) (fun _ h9 => h9) rfl (by decide +kernel) rfl rfl (Nat.le_of_ble_eq_true rfl) d_Model_validate_2 (fun H2 locs hP hD hS => ?_)
  have hP : va_P (dC, dI) classes [(q0, .inr (12, [.int 0, .int fd, .int wg, .int 0, .int nl, .ref oc, .ref so, .ref rv, .ref sp, .int qs, .ref rz, .ref bl, .ref ww, .ref hs, .ref fi, .ref pm, .ref mx, .ref my, .ref mm, .ref mq, .ref mz, .ref wy, .ref fn, .int si, .int cs, .int cn, .int fa, .int pu, .int de, .int ve, .long nw, .int mk]))] H2 := hP
  have hD : va_D A [(q0, .inr (12, [.int 0, .int fd, .int wg, .int 0, .int nl, .ref oc, .ref so, .ref rv, .ref sp, .int qs, .ref rz, .ref bl, .ref ww, .ref hs, .ref fi, .ref pm, .ref mx, .ref my, .ref mm, .ref mq, .ref mz, .ref wy, .ref fn, .int si, .int cs, .int cn, .int fa, .int pu, .int de, .int ve, .long nw, .int mk]))] := hD
  refine lv_aload_n hx hb d_Model_validate_5 rfl (lv_at hl 0 rfl) ?_
  refine lv_iload hx hb d_Model_validate_6 (lv_at hl 3 rfl) ?_
  refine lv_iconst (v := 1) hx hb d_Model_validate_8 (by decide) ?_
  refine lv_bipush (v := 16) hx hb d_Model_validate_9 (by decide) ?_
  refine vp_callSi (pu_callS (As := [.int j, .int 1, .int 16]) (rest := [.ref q0]) ⟨hx, hb, hml, hown, hts⟩ tbin (c_Model_in l dC dI sb j 1 16) q9_68 q8_116 q1_9 q8_117 (n := 3) (by decide +kernel) rfl ⟨rfl, rfl⟩ ⟨Nat.le_of_ble_eq_true rfl, Nat.le_of_ble_eq_true rfl⟩ ⟨Nat.le_of_ble_eq_true rfl, Nat.le_of_ble_eq_true rfl⟩ hN (hT0.keep hS hAs) hK hP [] rfl [] rfl hl.1 rfl (Nat.le_of_ble_eq_true rfl) d_Model_validate_11) (fun r11 hr11 => ?_)
  refine lv_if_ne (tgt := 21) hx hb d_Model_validate_14 (by decide) (fun c14 => ?_) (fun c14 => ?_)
  · refine lv_iconst (v := 0) hx hb d_Model_validate_21 (by decide) ?_
    refine lv_iconst (v := 1) hx hb d_Model_validate_22 (by decide) ?_
    have hFc := va_free (wc := [(q0, .inr (12, [.int 0, .int fd, .int wg, .int 0, .int nl, .ref oc, .ref so, .ref rv, .ref sp, .int qs, .ref rz, .ref bl, .ref ww, .ref hs, .ref fi, .ref pm, .ref mx, .ref my, .ref mm, .ref mq, .ref mz, .ref wy, .ref fn, .int si, .int cs, .int cn, .int fa, .int pu, .int de, .int ve, .long nw, .int mk]))]) hD hS hA [0] rfl
    refine va_calli (mu_runV (As := [.int 0, .int 1]) (rest := []) ⟨hx, hb, hml, hown, hts⟩ tbin (c_Model_fails l dC dI sb q0 oc so rv sp rz bl ww hs fi pm mx my mm mq mz wy fn fd wg 0 nl qs si cs cn fa pu de ve mk nw 0 0 1 H2.size) q8_79 q8_81 qp_36 q1_9 q8_82 (n := 2) (by decide +kernel) rfl ⟨rfl, rfl⟩ ⟨Nat.le_of_ble_eq_true rfl, Nat.le_of_ble_eq_true rfl⟩ ⟨Nat.le_of_ble_eq_true rfl, Nat.le_of_ble_eq_true rfl⟩ hN (hT0.keep hS hAs) hAs (Nat.le_trans hB0 hS.1) hK hP hD [0] (by decide) rfl [] rfl 0 12 rfl rfl rfl hl.1 rfl (Nat.le_of_ble_eq_true rfl) d_Model_validate_23) hS (fun q _ h => hFc q h) hFc (fun r23 u23 tS H23 locs ht hvm hw23 hB hz1 hk1 hS => ?_)
    obtain ⟨v23, rfl⟩ : ∃ z, z = u23 := ⟨_, rfl⟩
    obtain ⟨hP1, hK1, hD1⟩ := hB
    rw [ht] at hP1
    obtain ⟨hP, hD⟩ := va_join (wr := []) (w1 := [(q0, .inr (12, [.int v23, .int fd, .int wg, .int 0, .int nl, .ref oc, .ref so, .ref rv, .ref sp, .int qs, .ref rz, .ref bl, .ref ww, .ref hs, .ref fi, .ref pm, .ref mx, .ref my, .ref mm, .ref mq, .ref mz, .ref wy, .ref fn, .int si, .int cs, .int cn, .int fa, .int pu, .int de, .int ve, .long nw, .int mk]))]) hP hD [0] [] rfl rfl (by decide) (by decide) hk1 hFc hP1 hD1
    have hP : va_P (dC, dI) classes [(q0, .inr (12, [.int v23, .int fd, .int wg, .int 0, .int nl, .ref oc, .ref so, .ref rv, .ref sp, .int qs, .ref rz, .ref bl, .ref ww, .ref hs, .ref fi, .ref pm, .ref mx, .ref my, .ref mm, .ref mq, .ref mz, .ref wy, .ref fn, .int si, .int cs, .int cn, .int fa, .int pu, .int de, .int ve, .long nw, .int mk]))] H23 := hP
    have hD : va_D A [(q0, .inr (12, [.int v23, .int fd, .int wg, .int 0, .int nl, .ref oc, .ref so, .ref rv, .ref sp, .int qs, .ref rz, .ref bl, .ref ww, .ref hs, .ref fi, .ref pm, .ref mx, .ref my, .ref mm, .ref mq, .ref mz, .ref wy, .ref fn, .int si, .int cs, .int cn, .int fa, .int pu, .int de, .int ve, .long nw, .int mk]))] := hD
    obtain ⟨hv23, hz23⟩ := hw23
    rw [fl_0] at hv23
    subst hv23
    have hP : va_P (dC, dI) classes [(q0, .inr (12, [.int 0, .int fd, .int wg, .int 0, .int nl, .ref oc, .ref so, .ref rv, .ref sp, .int qs, .ref rz, .ref bl, .ref ww, .ref hs, .ref fi, .ref pm, .ref mx, .ref my, .ref mm, .ref mq, .ref mz, .ref wy, .ref fn, .int si, .int cs, .int cn, .int fa, .int pu, .int de, .int ve, .long nw, .int mk]))] H23 := hP
    have hD : va_D A [(q0, .inr (12, [.int 0, .int fd, .int wg, .int 0, .int nl, .ref oc, .ref so, .ref rv, .ref sp, .int qs, .ref rz, .ref bl, .ref ww, .ref hs, .ref fi, .ref pm, .ref mx, .ref my, .ref mm, .ref mq, .ref mz, .ref wy, .ref fn, .int si, .int cs, .int cn, .int fa, .int pu, .int de, .int ve, .long nw, .int mk]))] := hD
    refine lv_if_ne (tgt := 38) hx hb d_Model_validate_26 (by decide) (fun c26 => ?_) (fun c26 => ?_)
    · exact absurd rfl (bz_1 hz23 c26)
    refine lv_aload_n hx hb d_Model_validate_29 rfl (lv_at hl 0 rfl) ?_
    refine lv_iload_n hx hb d_Model_validate_30 rfl (lv_at hl 1 rfl) ?_
    refine lv_iconst (v := 2) hx hb d_Model_validate_31 (by decide) ?_
    have hFc := va_free (wc := [(q0, .inr (12, [.int 0, .int fd, .int wg, .int 0, .int nl, .ref oc, .ref so, .ref rv, .ref sp, .int qs, .ref rz, .ref bl, .ref ww, .ref hs, .ref fi, .ref pm, .ref mx, .ref my, .ref mm, .ref mq, .ref mz, .ref wy, .ref fn, .int si, .int cs, .int cn, .int fa, .int pu, .int de, .int ve, .long nw, .int mk]))]) hD hS hA [0] rfl
    refine va_calli (mu_runV (As := [.int i, .int 2]) (rest := []) ⟨hx, hb, hml, hown, hts⟩ tbin (c_Model_noCertificate l dC dI sb q0 oc so rv sp rz bl ww hs fi pm mx my mm mq mz wy fn fd wg 0 nl qs si cs cn fa pu de ve mk nw i 2 H23.size (by decide)) q9_64 q9_66 qp_39 q1_9 q9_67 (n := 2) (by decide +kernel) rfl ⟨rfl, rfl⟩ ⟨Nat.le_of_ble_eq_true rfl, Nat.le_of_ble_eq_true rfl⟩ ⟨Nat.le_of_ble_eq_true rfl, Nat.le_of_ble_eq_true rfl⟩ hN (hT0.keep hS hAs) hAs (Nat.le_trans hB0 hS.1) hK hP hD [0] (by decide) rfl [] rfl 0 12 rfl rfl rfl hl.1 rfl (Nat.le_of_ble_eq_true rfl) d_Model_validate_32) hS (fun q _ h => hFc q h) hFc (fun r32 u32 tS H32 locs ht hvm hw32 hB hz1 hk1 hS => ?_)
    obtain ⟨v32, rfl⟩ : ∃ z, z = u32 := ⟨_, rfl⟩
    obtain ⟨hP1, hK1, hD1⟩ := hB
    rw [ht] at hP1
    obtain ⟨hP, hD⟩ := va_join (wr := []) (w1 := [(q0, .inr (12, [.int v32, .int fd, .int wg, .int 0, .int nl, .ref oc, .ref so, .ref rv, .ref sp, .int qs, .ref rz, .ref bl, .ref ww, .ref hs, .ref fi, .ref pm, .ref mx, .ref my, .ref mm, .ref mq, .ref mz, .ref wy, .ref fn, .int si, .int cs, .int cn, .int fa, .int pu, .int de, .int ve, .long nw, .int mk]))]) hP hD [0] [] rfl rfl (by decide) (by decide) hk1 hFc hP1 hD1
    have hP : va_P (dC, dI) classes [(q0, .inr (12, [.int v32, .int fd, .int wg, .int 0, .int nl, .ref oc, .ref so, .ref rv, .ref sp, .int qs, .ref rz, .ref bl, .ref ww, .ref hs, .ref fi, .ref pm, .ref mx, .ref my, .ref mm, .ref mq, .ref mz, .ref wy, .ref fn, .int si, .int cs, .int cn, .int fa, .int pu, .int de, .int ve, .long nw, .int mk]))] H32 := hP
    have hD : va_D A [(q0, .inr (12, [.int v32, .int fd, .int wg, .int 0, .int nl, .ref oc, .ref so, .ref rv, .ref sp, .int qs, .ref rz, .ref bl, .ref ww, .ref hs, .ref fi, .ref pm, .ref mx, .ref my, .ref mm, .ref mq, .ref mz, .ref wy, .ref fn, .int si, .int cs, .int cn, .int fa, .int pu, .int de, .int ve, .long nw, .int mk]))] := hD
    refine lv_if_eq (tgt := 40) hx hb d_Model_validate_35 (by decide) (fun c35 => ?_) (fun c35 => ?_)
    · exact absurd x_p0 (bz_0 hw32.2 c35)
    refine lv_iconst (v := 0) hx hb d_Model_validate_38 (by decide) ?_
    exact W.iret (v := 0) hx hb hr (fun t ht hW => ⟨⟨_, v32, rfl, ⟨(hw32.1.trans (if_neg x_p0)).trans (if_neg (fun q => q.elim (bz_1 hr11 c14).1 (bz_1 hr11 c14).2)).symm, rfl⟩, by rw [ht]; exact hP, va_K.moved hW.alike hK, hD⟩, hS.F ht⟩) hS.2.2 d_Model_validate_39
  · refine lv_iconst (v := 1) hx hb d_Model_validate_17 (by decide) ?_
    refine lv_goto (tgt := 22) hx hb d_Model_validate_18 (by decide) ?_
    refine lv_iconst (v := 1) hx hb d_Model_validate_22 (by decide) ?_
    have hFc := va_free (wc := [(q0, .inr (12, [.int 0, .int fd, .int wg, .int 0, .int nl, .ref oc, .ref so, .ref rv, .ref sp, .int qs, .ref rz, .ref bl, .ref ww, .ref hs, .ref fi, .ref pm, .ref mx, .ref my, .ref mm, .ref mq, .ref mz, .ref wy, .ref fn, .int si, .int cs, .int cn, .int fa, .int pu, .int de, .int ve, .long nw, .int mk]))]) hD hS hA [0] rfl
    refine va_calli (mu_runV (As := [.int 1, .int 1]) (rest := []) ⟨hx, hb, hml, hown, hts⟩ tbin (c_Model_fails l dC dI sb q0 oc so rv sp rz bl ww hs fi pm mx my mm mq mz wy fn fd wg 0 nl qs si cs cn fa pu de ve mk nw 0 1 1 H2.size) q8_79 q8_81 qp_36 q1_9 q8_82 (n := 2) (by decide +kernel) rfl ⟨rfl, rfl⟩ ⟨Nat.le_of_ble_eq_true rfl, Nat.le_of_ble_eq_true rfl⟩ ⟨Nat.le_of_ble_eq_true rfl, Nat.le_of_ble_eq_true rfl⟩ hN (hT0.keep hS hAs) hAs (Nat.le_trans hB0 hS.1) hK hP hD [0] (by decide) rfl [] rfl 0 12 rfl rfl rfl hl.1 rfl (Nat.le_of_ble_eq_true rfl) d_Model_validate_23) hS (fun q _ h => hFc q h) hFc (fun r23 u23 tS H23 locs ht hvm hw23 hB hz1 hk1 hS => ?_)
    obtain ⟨v23, rfl⟩ : ∃ z, z = u23 := ⟨_, rfl⟩
    obtain ⟨hP1, hK1, hD1⟩ := hB
    rw [ht] at hP1
    obtain ⟨hP, hD⟩ := va_join (wr := []) (w1 := [(q0, .inr (12, [.int v23, .int fd, .int wg, .int 0, .int nl, .ref oc, .ref so, .ref rv, .ref sp, .int qs, .ref rz, .ref bl, .ref ww, .ref hs, .ref fi, .ref pm, .ref mx, .ref my, .ref mm, .ref mq, .ref mz, .ref wy, .ref fn, .int si, .int cs, .int cn, .int fa, .int pu, .int de, .int ve, .long nw, .int mk]))]) hP hD [0] [] rfl rfl (by decide) (by decide) hk1 hFc hP1 hD1
    have hP : va_P (dC, dI) classes [(q0, .inr (12, [.int v23, .int fd, .int wg, .int 0, .int nl, .ref oc, .ref so, .ref rv, .ref sp, .int qs, .ref rz, .ref bl, .ref ww, .ref hs, .ref fi, .ref pm, .ref mx, .ref my, .ref mm, .ref mq, .ref mz, .ref wy, .ref fn, .int si, .int cs, .int cn, .int fa, .int pu, .int de, .int ve, .long nw, .int mk]))] H23 := hP
    have hD : va_D A [(q0, .inr (12, [.int v23, .int fd, .int wg, .int 0, .int nl, .ref oc, .ref so, .ref rv, .ref sp, .int qs, .ref rz, .ref bl, .ref ww, .ref hs, .ref fi, .ref pm, .ref mx, .ref my, .ref mm, .ref mq, .ref mz, .ref wy, .ref fn, .int si, .int cs, .int cn, .int fa, .int pu, .int de, .int ve, .long nw, .int mk]))] := hD
    obtain ⟨hv23, hz23⟩ := hw23
    rw [fl_1] at hv23
    subst hv23
    have hP : va_P (dC, dI) classes [(q0, .inr (12, [.int 1, .int fd, .int wg, .int 0, .int nl, .ref oc, .ref so, .ref rv, .ref sp, .int qs, .ref rz, .ref bl, .ref ww, .ref hs, .ref fi, .ref pm, .ref mx, .ref my, .ref mm, .ref mq, .ref mz, .ref wy, .ref fn, .int si, .int cs, .int cn, .int fa, .int pu, .int de, .int ve, .long nw, .int mk]))] H23 := hP
    have hD : va_D A [(q0, .inr (12, [.int 1, .int fd, .int wg, .int 0, .int nl, .ref oc, .ref so, .ref rv, .ref sp, .int qs, .ref rz, .ref bl, .ref ww, .ref hs, .ref fi, .ref pm, .ref mx, .ref my, .ref mm, .ref mq, .ref mz, .ref wy, .ref fn, .int si, .int cs, .int cn, .int fa, .int pu, .int de, .int ve, .long nw, .int mk]))] := hD
    refine lv_if_ne (tgt := 38) hx hb d_Model_validate_26 (by decide) (fun c26 => ?_) (fun c26 => ?_)
    rotate_left
    · exact absurd (by decide) (bz_0 hz23 (by first | exact c26 | exact Classical.not_not.mp c26))
    refine lv_iconst (v := 0) hx hb d_Model_validate_38 (by decide) ?_
    exact W.iret (v := 0) hx hb hr (fun t ht hW => ⟨⟨_, 1, rfl, ⟨(if_pos (by by_cases h : j < 1; exact Or.inl h; exact Or.inr (Classical.byContradiction fun z => (bz_0 hr11 (by first | exact c14 | exact Classical.not_not.mp c14)) ⟨h, z⟩))).symm, rfl⟩, by rw [ht]; exact hP, va_K.moved hW.alike hK, hD⟩, hS.F ht⟩) hS.2.2 d_Model_validate_39
