/-! The reference's methods where nothing is stored. -/
theorem fl_0 (cd : Int32) : flI 0 0 cd = 0 := if_pos rfl
theorem fl_1 (cd : Int32) : flI 0 1 cd = cd := by rw [flI, if_neg (by decide), if_pos rfl]
theorem x_p0 {c : Int32} : ¬ (¬ c < 0 ∧ ¬ (0 - 1 : Int32) < c) := fun q => by
  obtain ⟨h1, h2⟩ := q
  rw [Int32.lt_iff_toInt_lt] at h1 h2
  rw [show (0 : Int32).toInt = 0 from by decide] at h1
  rw [show (0 - 1 : Int32).toInt = -1 from by decide] at h2
  omega
def y_Model_noCertificate : MethodName := ⟨"TrustChainModel", "noCertificate", "(II)Z"⟩
abbrev b_Model_noCertificate : ByteArray := prog_14_method_19_code
def w_Model_noCertificate : List Cond := Cond.code y_Model_noCertificate b_Model_noCertificate 3 ((some FieldType.boolean)) :: tb
theorem d_Model_noCertificate_0 : decode b_Model_noCertificate 0 = .ok (.aload_n 0, 1) := by decide +kernel
theorem d_Model_noCertificate_1 : decode b_Model_noCertificate 1 = .ok (.iload_n 1, 1) := by decide +kernel
theorem d_Model_noCertificate_2 : decode b_Model_noCertificate 2 = .ok (.iconst 0, 1) := by decide +kernel
theorem d_Model_noCertificate_3 : decode b_Model_noCertificate 3 = .ok (.aload_n 0, 1) := by decide +kernel
theorem d_Model_noCertificate_4 : decode b_Model_noCertificate 4 = .ok (.getfield 183, 3) := by decide +kernel
theorem d_Model_noCertificate_7 : decode b_Model_noCertificate 7 = .ok (.iconst 1, 1) := by decide +kernel
theorem d_Model_noCertificate_8 : decode b_Model_noCertificate 8 = .ok (.isub, 1) := by decide +kernel
theorem d_Model_noCertificate_9 : decode b_Model_noCertificate 9 = .ok (.invokestatic 205, 3) := by decide +kernel
theorem d_Model_noCertificate_12 : decode b_Model_noCertificate 12 = .ok (.ifCond .ne 7, 3) := by decide +kernel
theorem d_Model_noCertificate_15 : decode b_Model_noCertificate 15 = .ok (.iconst 1, 1) := by decide +kernel
theorem d_Model_noCertificate_16 : decode b_Model_noCertificate 16 = .ok (.goto 4, 3) := by decide +kernel
theorem d_Model_noCertificate_19 : decode b_Model_noCertificate 19 = .ok (.iconst 0, 1) := by decide +kernel
theorem d_Model_noCertificate_20 : decode b_Model_noCertificate 20 = .ok (.iload_n 2, 1) := by decide +kernel
theorem d_Model_noCertificate_21 : decode b_Model_noCertificate 21 = .ok (.invokevirtual 176, 3) := by decide +kernel
theorem d_Model_noCertificate_24 : decode b_Model_noCertificate 24 = .ok (.ireturn, 1) := by decide +kernel
set_option maxHeartbeats 4000000 in
set_option maxRecDepth 100000 in
theorem c_Model_noCertificate (l : Launch) (dC : Nat → ClassId) (dI : Nat → Nat → Nat) (sb : sB) (q0 oc so rv sp rz bl ww hs fi pm mx my mm mq mz wy fn : Nat) (fd wg nc nl qs si cs cn fa pu de ve mk : Int32) (nw : Int64) (ci cd : Int32) (sz : Nat) (hcd : cd ≠ 0) : Met l y_Model_noCertificate w_Model_noCertificate ({ frames := 1, cells := 0, slots := 0, locals := 22 }) (mu_P [.ref q0, .int ci, .int cd] (dC, dI) sb [(q0, .inr (12, [.int 0, .int fd, .int wg, .int nc, .int nl, .ref oc, .ref so, .ref rv, .ref sp, .int qs, .ref rz, .ref bl, .ref ww, .ref hs, .ref fi, .ref pm, .ref mx, .ref my, .ref mm, .ref mq, .ref mz, .ref wy, .ref fn, .int si, .int cs, .int cn, .int fa, .int pu, .int de, .int ve, .long nw, .int mk]))] [] sz) (va_Qi (fun r (u : Int32) => u = (if ¬ ci < 0 ∧ ¬ (nc - 1) < ci then 0 else cd) ∧ bz r (¬ (¬ ci < 0 ∧ ¬ (nc - 1) < ci))) (mu_B (dC, dI) [] (va_A [(q0, .inr (12, [.int 0, .int fd, .int wg, .int nc, .int nl, .ref oc, .ref so, .ref rv, .ref sp, .int qs, .ref rz, .ref bl, .ref ww, .ref hs, .ref fi, .ref pm, .ref mx, .ref my, .ref mm, .ref mq, .ref mz, .ref wy, .ref fn, .int si, .int cs, .int cn, .int fa, .int pu, .int de, .int ve, .long nw, .int mk]))] sz) (fun u : Int32 => [(q0, .inr (12, [.int u, .int fd, .int wg, .int nc, .int nl, .ref oc, .ref so, .ref rv, .ref sp, .int qs, .ref rz, .ref bl, .ref ww, .ref hs, .ref fi, .ref pm, .ref mx, .ref my, .ref mm, .ref mq, .ref mz, .ref wy, .ref fn, .int si, .int cs, .int cn, .int fa, .int pu, .int de, .int ve, .long nw, .int mk]))])) (va_A [(q0, .inr (12, [.int 0, .int fd, .int wg, .int nc, .int nl, .ref oc, .ref so, .ref rv, .ref sp, .int qs, .ref rz, .ref bl, .ref ww, .ref hs, .ref fi, .ref pm, .ref mx, .ref my, .ref mm, .ref mq, .ref mz, .ref wy, .ref fn, .int si, .int cs, .int cn, .int fa, .int pu, .int de, .int ve, .long nw, .int mk]))] sz)) 0 0 (va_A [(q0, .inr (12, [.int 0, .int fd, .int wg, .int nc, .int nl, .ref oc, .ref so, .ref rv, .ref sp, .int qs, .ref rz, .ref bl, .ref ww, .ref hs, .ref fi, .ref pm, .ref mx, .ref my, .ref mm, .ref mq, .ref mz, .ref wy, .ref fn, .int si, .int cs, .int cn, .int fa, .int pu, .int de, .int ve, .long nw, .int mk]))] sz) := by
  refine Met.ofW (cc := b_Model_noCertificate) (maxL := 3) (ret := (some FieldType.boolean)) (by decide) rfl ?_
  intro p e s m args below meth c s₁ B hml hv
  obtain ⟨rfl, hsz, hB0, hP, hK, hD0, hN, hT0⟩ := hv
  have hx := B.exec
  have hb := B.bytes
  have hr := B.returns
  have hts := atoms_spec (ws := w_Model_noCertificate) B.pre
  have tbin : ∀ w ∈ tb, w ∈ w_Model_noCertificate := fun w h => List.mem_cons_of_mem _ h
  have htb : ∀ w ∈ tb, w.before _ s = true := fun w h => hts w (tbin w h)
  have hown : s.vm.findClass "TrustChainModel" = some m.cls := findClass_of_methodNamed B.named
  have hlocks := B.notSynchronized
  subst hsz
  have hD := hD0.self (sz := s.heap.size)
  generalize hAe : va_A [(q0, .inr (12, [.int 0, .int fd, .int wg, .int nc, .int nl, .ref oc, .ref so, .ref rv, .ref sp, .int qs, .ref rz, .ref bl, .ref ww, .ref hs, .ref fi, .ref pm, .ref mx, .ref my, .ref mm, .ref mq, .ref mz, .ref wy, .ref fn, .int si, .int cs, .int cn, .int fa, .int pu, .int de, .int ve, .long nw, .int mk]))] s.heap.size = A at hD ⊢
  have hA : ∀ q : Nat, s.heap.size ≤ q → A q := fun q h => by rw [← hAe]; exact Or.inr h
  have hAs : ∀ q : Nat, A q → sb.1 ≤ q := fun q h => by
    rw [← hAe] at h
    rcases h with ⟨k, e, h⟩ | h
    · exact hD0.2 k _ h
    · exact Nat.le_trans hB0 h
  have hS : va_S A s.heap s.heap [] := va_S.rf
  have hcs : 0 ≤ (headSpec w_Model_noCertificate ({ frames := 1, cells := 0, slots := 0, locals := 22 })).room.cells ∧ 0 ≤ (headSpec w_Model_noCertificate ({ frames := 1, cells := 0, slots := 0, locals := 22 })).room.slots := ⟨Nat.le_refl _, Nat.le_refl _⟩
  have hP : va_P (dC, dI) classes [(q0, .inr (12, [.int 0, .int fd, .int wg, .int nc, .int nl, .ref oc, .ref so, .ref rv, .ref sp, .int qs, .ref rz, .ref bl, .ref ww, .ref hs, .ref fi, .ref pm, .ref mx, .ref my, .ref mm, .ref mq, .ref mz, .ref wy, .ref fn, .int si, .int cs, .int cn, .int fa, .int pu, .int de, .int ve, .long nw, .int mk]))] s.heap := hP
  have hl := lv_entry ([.ref q0, .int ci, .int cd]) (n := 3) (Nat.le_of_ble_eq_true rfl)
  rw [lg_entry_eq]
  generalize (lg_sl ([.ref q0, .int ci, .int cd]) ++ List.replicate (3 - (lg_sl ([.ref q0, .int ci, .int cd])).length) Slot.unset).toArray = ls at hl ⊢
  have hl : lv_has ls 3 [(0, .ref q0), (1, .int ci), (2, .int cd)] := hl
  refine lv_aload_n hx hb d_Model_noCertificate_0 rfl (lv_at hl 0 rfl) ?_
  refine lv_iload_n hx hb d_Model_noCertificate_1 rfl (lv_at hl 1 rfl) ?_
  refine lv_iconst (v := 0) hx hb d_Model_noCertificate_2 (by decide) ?_
  refine lv_aload_n hx hb d_Model_noCertificate_3 rfl (lv_at hl 0 rfl) ?_
  refine va_get (v := .int nc) hx hb htb i_Model hown hK hP 0 rfl rfl 3 (by decide) (htb _ q7_217) (fun _ h9 => h9) rfl d_Model_noCertificate_4 ?_
  refine lv_iconst (v := 1) hx hb d_Model_noCertificate_7 (by decide) ?_
  refine lv_isub hx hb d_Model_noCertificate_8 ?_
  refine vp_callSi (pu_callS (As := [.int ci, .int 0, .int (nc - 1)]) (rest := [.ref q0]) ⟨hx, hb, hml, hown, hts⟩ tbin (c_Model_in l dC dI sb ci 0 (nc - 1)) q9_68 q8_116 q1_9 q8_117 (n := 3) (by decide +kernel) rfl ⟨rfl, rfl⟩ ⟨Nat.le_of_ble_eq_true rfl, Nat.le_of_ble_eq_true rfl⟩ ⟨Nat.le_of_ble_eq_true rfl, Nat.le_of_ble_eq_true rfl⟩ hN (hT0.keep hS hAs) hK hP [] rfl [] rfl hl.1 rfl (Nat.le_of_ble_eq_true rfl) d_Model_noCertificate_9) (fun r9 hr9 => ?_)
  refine lv_if_ne (tgt := 19) hx hb d_Model_noCertificate_12 (by decide) (fun c12 => ?_) (fun c12 => ?_)
  · have hP9 := bz_1 hr9 c12
    refine lv_iconst (v := 0) hx hb d_Model_noCertificate_19 (by decide) ?_
    refine lv_iload_n hx hb d_Model_noCertificate_20 rfl (lv_at hl 2 rfl) ?_
    have hFc := va_free (wc := [(q0, .inr (12, [.int 0, .int fd, .int wg, .int nc, .int nl, .ref oc, .ref so, .ref rv, .ref sp, .int qs, .ref rz, .ref bl, .ref ww, .ref hs, .ref fi, .ref pm, .ref mx, .ref my, .ref mm, .ref mq, .ref mz, .ref wy, .ref fn, .int si, .int cs, .int cn, .int fa, .int pu, .int de, .int ve, .long nw, .int mk]))]) hD hS hA [0] rfl
    refine va_calli (mu_runV (As := [.int 0, .int cd]) (rest := []) ⟨hx, hb, hml, hown, hts⟩ tbin (c_Model_fails l dC dI sb q0 oc so rv sp rz bl ww hs fi pm mx my mm mq mz wy fn fd wg nc nl qs si cs cn fa pu de ve mk nw 0 0 cd s.heap.size) q8_79 q8_81 qp_36 q1_9 q8_82 (n := 2) (by decide +kernel) rfl ⟨rfl, rfl⟩ ⟨Nat.le_of_ble_eq_true rfl, Nat.le_of_ble_eq_true rfl⟩ ⟨Nat.le_of_ble_eq_true rfl, Nat.le_of_ble_eq_true rfl⟩ hN (hT0.keep hS hAs) hAs (Nat.le_trans hB0 hS.1) hK hP hD [0] (by decide) rfl [] rfl 0 12 rfl rfl rfl hl.1 rfl (Nat.le_of_ble_eq_true rfl) d_Model_noCertificate_21) hS (fun q _ h => hFc q h) hFc (fun r21 u21 tS H21 locs ht hvm hw21 hB hz1 hk1 hS => ?_)
    obtain ⟨v21, rfl⟩ : ∃ z, z = u21 := ⟨_, rfl⟩
    obtain ⟨hP1, hK1, hD1⟩ := hB
    rw [ht] at hP1
    obtain ⟨hP, hD⟩ := va_join (wr := []) (w1 := [(q0, .inr (12, [.int v21, .int fd, .int wg, .int nc, .int nl, .ref oc, .ref so, .ref rv, .ref sp, .int qs, .ref rz, .ref bl, .ref ww, .ref hs, .ref fi, .ref pm, .ref mx, .ref my, .ref mm, .ref mq, .ref mz, .ref wy, .ref fn, .int si, .int cs, .int cn, .int fa, .int pu, .int de, .int ve, .long nw, .int mk]))]) hP hD [0] [] rfl rfl (by decide) (by decide) hk1 hFc hP1 hD1
    have hP : va_P (dC, dI) classes [(q0, .inr (12, [.int v21, .int fd, .int wg, .int nc, .int nl, .ref oc, .ref so, .ref rv, .ref sp, .int qs, .ref rz, .ref bl, .ref ww, .ref hs, .ref fi, .ref pm, .ref mx, .ref my, .ref mm, .ref mq, .ref mz, .ref wy, .ref fn, .int si, .int cs, .int cn, .int fa, .int pu, .int de, .int ve, .long nw, .int mk]))] H21 := hP
    have hD : va_D A [(q0, .inr (12, [.int v21, .int fd, .int wg, .int nc, .int nl, .ref oc, .ref so, .ref rv, .ref sp, .int qs, .ref rz, .ref bl, .ref ww, .ref hs, .ref fi, .ref pm, .ref mx, .ref my, .ref mm, .ref mq, .ref mz, .ref wy, .ref fn, .int si, .int cs, .int cn, .int fa, .int pu, .int de, .int ve, .long nw, .int mk]))] := hD
    exact W.zret (v := r21) hx hb hr (bz_n hw21.2) (fun t ht hW => ⟨⟨_, v21, rfl, ⟨by rw [if_pos hP9, hw21.1, fl_0], bz_c hw21.2 ⟨fun q => absurd (by rw [hw21.1, fl_0]) q, fun q => absurd hP9 q⟩⟩, by rw [ht]; exact hP, va_K.moved hW.alike hK, hD⟩, hS.F ht⟩) hS.2.2 d_Model_noCertificate_24
  · have hN9 := bz_0 hr9 (by first | exact c12 | exact Classical.not_not.mp c12)
    refine lv_iconst (v := 1) hx hb d_Model_noCertificate_15 (by decide) ?_
    refine lv_goto (tgt := 20) hx hb d_Model_noCertificate_16 (by decide) ?_
    refine lv_iload_n hx hb d_Model_noCertificate_20 rfl (lv_at hl 2 rfl) ?_
    have hFc := va_free (wc := [(q0, .inr (12, [.int 0, .int fd, .int wg, .int nc, .int nl, .ref oc, .ref so, .ref rv, .ref sp, .int qs, .ref rz, .ref bl, .ref ww, .ref hs, .ref fi, .ref pm, .ref mx, .ref my, .ref mm, .ref mq, .ref mz, .ref wy, .ref fn, .int si, .int cs, .int cn, .int fa, .int pu, .int de, .int ve, .long nw, .int mk]))]) hD hS hA [0] rfl
    refine va_calli (mu_runV (As := [.int 1, .int cd]) (rest := []) ⟨hx, hb, hml, hown, hts⟩ tbin (c_Model_fails l dC dI sb q0 oc so rv sp rz bl ww hs fi pm mx my mm mq mz wy fn fd wg nc nl qs si cs cn fa pu de ve mk nw 0 1 cd s.heap.size) q8_79 q8_81 qp_36 q1_9 q8_82 (n := 2) (by decide +kernel) rfl ⟨rfl, rfl⟩ ⟨Nat.le_of_ble_eq_true rfl, Nat.le_of_ble_eq_true rfl⟩ ⟨Nat.le_of_ble_eq_true rfl, Nat.le_of_ble_eq_true rfl⟩ hN (hT0.keep hS hAs) hAs (Nat.le_trans hB0 hS.1) hK hP hD [0] (by decide) rfl [] rfl 0 12 rfl rfl rfl hl.1 rfl (Nat.le_of_ble_eq_true rfl) d_Model_noCertificate_21) hS (fun q _ h => hFc q h) hFc (fun r21 u21 tS H21 locs ht hvm hw21 hB hz1 hk1 hS => ?_)
    obtain ⟨v21, rfl⟩ : ∃ z, z = u21 := ⟨_, rfl⟩
    obtain ⟨hP1, hK1, hD1⟩ := hB
    rw [ht] at hP1
    obtain ⟨hP, hD⟩ := va_join (wr := []) (w1 := [(q0, .inr (12, [.int v21, .int fd, .int wg, .int nc, .int nl, .ref oc, .ref so, .ref rv, .ref sp, .int qs, .ref rz, .ref bl, .ref ww, .ref hs, .ref fi, .ref pm, .ref mx, .ref my, .ref mm, .ref mq, .ref mz, .ref wy, .ref fn, .int si, .int cs, .int cn, .int fa, .int pu, .int de, .int ve, .long nw, .int mk]))]) hP hD [0] [] rfl rfl (by decide) (by decide) hk1 hFc hP1 hD1
    have hP : va_P (dC, dI) classes [(q0, .inr (12, [.int v21, .int fd, .int wg, .int nc, .int nl, .ref oc, .ref so, .ref rv, .ref sp, .int qs, .ref rz, .ref bl, .ref ww, .ref hs, .ref fi, .ref pm, .ref mx, .ref my, .ref mm, .ref mq, .ref mz, .ref wy, .ref fn, .int si, .int cs, .int cn, .int fa, .int pu, .int de, .int ve, .long nw, .int mk]))] H21 := hP
    have hD : va_D A [(q0, .inr (12, [.int v21, .int fd, .int wg, .int nc, .int nl, .ref oc, .ref so, .ref rv, .ref sp, .int qs, .ref rz, .ref bl, .ref ww, .ref hs, .ref fi, .ref pm, .ref mx, .ref my, .ref mm, .ref mq, .ref mz, .ref wy, .ref fn, .int si, .int cs, .int cn, .int fa, .int pu, .int de, .int ve, .long nw, .int mk]))] := hD
    exact W.zret (v := r21) hx hb hr (bz_n hw21.2) (fun t ht hW => ⟨⟨_, v21, rfl, ⟨by rw [if_neg hN9, hw21.1, fl_1], bz_c hw21.2 ⟨fun _ => hN9, fun _ => by rw [hw21.1, fl_1]; exact hcd⟩⟩, by rw [ht]; exact hP, va_K.moved hW.alike hK, hD⟩, hS.F ht⟩) hS.2.2 d_Model_noCertificate_24
def y_Model_trust : MethodName := ⟨"TrustChainModel", "trust", "(IZ)Z"⟩
abbrev b_Model_trust : ByteArray := prog_14_method_20_code
def w_Model_trust : List Cond := Cond.code y_Model_trust b_Model_trust 4 ((some FieldType.boolean)) :: tb
theorem d_Model_trust_0 : decode b_Model_trust 0 = .ok (.aload_n 0, 1) := by decide +kernel
theorem d_Model_trust_1 : decode b_Model_trust 1 = .ok (.iconst 0, 1) := by decide +kernel
theorem d_Model_trust_2 : decode b_Model_trust 2 = .ok (.putfield 145, 3) := by decide +kernel
theorem d_Model_trust_5 : decode b_Model_trust 5 = .ok (.aload_n 0, 1) := by decide +kernel
theorem d_Model_trust_6 : decode b_Model_trust 6 = .ok (.iload_n 1, 1) := by decide +kernel
theorem d_Model_trust_7 : decode b_Model_trust 7 = .ok (.iconst 1, 1) := by decide +kernel
theorem d_Model_trust_8 : decode b_Model_trust 8 = .ok (.invokevirtual 209, 3) := by decide +kernel
theorem d_Model_trust_11 : decode b_Model_trust 11 = .ok (.ifCond .eq 5, 3) := by decide +kernel
theorem d_Model_trust_14 : decode b_Model_trust 14 = .ok (.iconst 0, 1) := by decide +kernel
theorem d_Model_trust_15 : decode b_Model_trust 15 = .ok (.ireturn, 1) := by decide +kernel
theorem d_Model_trust_16 : decode b_Model_trust 16 = .ok (.aload_n 0, 1) := by decide +kernel
set_option maxHeartbeats 4000000 in
set_option maxRecDepth 100000 in
theorem c0_Model_trust (l : Launch) (dC : Nat → ClassId) (dI : Nat → Nat → Nat) (sb : sB) (q0 oc so rv sp rz bl ww hs fi pm mx my mm mq mz wy fn : Nat) (fd wg nl qs si cs cn fa pu de ve mk : Int32) (nw : Int64) (er i j : Int32) (sz : Nat) : Met l y_Model_trust w_Model_trust ({ frames := 3, cells := 0, slots := 0, locals := 90 }) (mu_P [.ref q0, .int i, .int j] (dC, dI) sb [(q0, .inr (12, [.int er, .int fd, .int wg, .int 0, .int nl, .ref oc, .ref so, .ref rv, .ref sp, .int qs, .ref rz, .ref bl, .ref ww, .ref hs, .ref fi, .ref pm, .ref mx, .ref my, .ref mm, .ref mq, .ref mz, .ref wy, .ref fn, .int si, .int cs, .int cn, .int fa, .int pu, .int de, .int ve, .long nw, .int mk]))] [] sz) (va_Qi (fun r (u : Int32) => u = 1 ∧ r = 0) (mu_B (dC, dI) [] (va_A [(q0, .inr (12, [.int er, .int fd, .int wg, .int 0, .int nl, .ref oc, .ref so, .ref rv, .ref sp, .int qs, .ref rz, .ref bl, .ref ww, .ref hs, .ref fi, .ref pm, .ref mx, .ref my, .ref mm, .ref mq, .ref mz, .ref wy, .ref fn, .int si, .int cs, .int cn, .int fa, .int pu, .int de, .int ve, .long nw, .int mk]))] sz) (fun u : Int32 => [(q0, .inr (12, [.int u, .int fd, .int wg, .int 0, .int nl, .ref oc, .ref so, .ref rv, .ref sp, .int qs, .ref rz, .ref bl, .ref ww, .ref hs, .ref fi, .ref pm, .ref mx, .ref my, .ref mm, .ref mq, .ref mz, .ref wy, .ref fn, .int si, .int cs, .int cn, .int fa, .int pu, .int de, .int ve, .long nw, .int mk]))])) (va_A [(q0, .inr (12, [.int er, .int fd, .int wg, .int 0, .int nl, .ref oc, .ref so, .ref rv, .ref sp, .int qs, .ref rz, .ref bl, .ref ww, .ref hs, .ref fi, .ref pm, .ref mx, .ref my, .ref mm, .ref mq, .ref mz, .ref wy, .ref fn, .int si, .int cs, .int cn, .int fa, .int pu, .int de, .int ve, .long nw, .int mk]))] sz)) 0 0 (va_A [(q0, .inr (12, [.int er, .int fd, .int wg, .int 0, .int nl, .ref oc, .ref so, .ref rv, .ref sp, .int qs, .ref rz, .ref bl, .ref ww, .ref hs, .ref fi, .ref pm, .ref mx, .ref my, .ref mm, .ref mq, .ref mz, .ref wy, .ref fn, .int si, .int cs, .int cn, .int fa, .int pu, .int de, .int ve, .long nw, .int mk]))] sz) := by
  refine Met.ofW (cc := b_Model_trust) (maxL := 4) (ret := (some FieldType.boolean)) (by decide) rfl ?_
  intro p e s m args below meth c s₁ B hml hv
  obtain ⟨rfl, hsz, hB0, hP, hK, hD0, hN, hT0⟩ := hv
  have hx := B.exec
  have hb := B.bytes
  have hr := B.returns
  have hts := atoms_spec (ws := w_Model_trust) B.pre
  have tbin : ∀ w ∈ tb, w ∈ w_Model_trust := fun w h => List.mem_cons_of_mem _ h
  have htb : ∀ w ∈ tb, w.before _ s = true := fun w h => hts w (tbin w h)
  have hown : s.vm.findClass "TrustChainModel" = some m.cls := findClass_of_methodNamed B.named
  have hlocks := B.notSynchronized
  subst hsz
  have hD := hD0.self (sz := s.heap.size)
  generalize hAe : va_A [(q0, .inr (12, [.int er, .int fd, .int wg, .int 0, .int nl, .ref oc, .ref so, .ref rv, .ref sp, .int qs, .ref rz, .ref bl, .ref ww, .ref hs, .ref fi, .ref pm, .ref mx, .ref my, .ref mm, .ref mq, .ref mz, .ref wy, .ref fn, .int si, .int cs, .int cn, .int fa, .int pu, .int de, .int ve, .long nw, .int mk]))] s.heap.size = A at hD ⊢
  have hA : ∀ q : Nat, s.heap.size ≤ q → A q := fun q h => by rw [← hAe]; exact Or.inr h
  have hAs : ∀ q : Nat, A q → sb.1 ≤ q := fun q h => by
    rw [← hAe] at h
    rcases h with ⟨k, e, h⟩ | h
    · exact hD0.2 k _ h
    · exact Nat.le_trans hB0 h
  have hS : va_S A s.heap s.heap [] := va_S.rf
  have hcs : 0 ≤ (headSpec w_Model_trust ({ frames := 3, cells := 0, slots := 0, locals := 90 })).room.cells ∧ 0 ≤ (headSpec w_Model_trust ({ frames := 3, cells := 0, slots := 0, locals := 90 })).room.slots := ⟨Nat.le_refl _, Nat.le_refl _⟩
  have hP : va_P (dC, dI) classes [(q0, .inr (12, [.int er, .int fd, .int wg, .int 0, .int nl, .ref oc, .ref so, .ref rv, .ref sp, .int qs, .ref rz, .ref bl, .ref ww, .ref hs, .ref fi, .ref pm, .ref mx, .ref my, .ref mm, .ref mq, .ref mz, .ref wy, .ref fn, .int si, .int cs, .int cn, .int fa, .int pu, .int de, .int ve, .long nw, .int mk]))] s.heap := hP
  have hl := lv_entry ([.ref q0, .int i, .int j]) (n := 4) (Nat.le_of_ble_eq_true rfl)
  rw [lg_entry_eq]
  generalize (lg_sl ([.ref q0, .int i, .int j]) ++ List.replicate (4 - (lg_sl ([.ref q0, .int i, .int j])).length) Slot.unset).toArray = ls at hl ⊢
  have hl : lv_has ls 4 [(0, .ref q0), (1, .int i), (2, .int j)] := hl
  refine lv_aload_n hx hb d_Model_trust_0 rfl (lv_at hl 0 rfl) ?_
  refine lv_iconst (v := 0) hx hb d_Model_trust_1 (by decide) ?_
  refine va_put (v := .int 0) (ty := .int) hx hb htb i_Model t_Model t_Model_ok n_Model hown hK hP hD hS 0 rfl rfl 0 (by decide) (htb _ q7_214) (fun _ h9 => h9) rfl (by decide +kernel) rfl rfl (Nat.le_of_ble_eq_true rfl) d_Model_trust_2 (fun H2 locs hP hD hS => ?_)
  have hP : va_P (dC, dI) classes [(q0, .inr (12, [.int 0, .int fd, .int wg, .int 0, .int nl, .ref oc, .ref so, .ref rv, .ref sp, .int qs, .ref rz, .ref bl, .ref ww, .ref hs, .ref fi, .ref pm, .ref mx, .ref my, .ref mm, .ref mq, .ref mz, .ref wy, .ref fn, .int si, .int cs, .int cn, .int fa, .int pu, .int de, .int ve, .long nw, .int mk]))] H2 := hP
  have hD : va_D A [(q0, .inr (12, [.int 0, .int fd, .int wg, .int 0, .int nl, .ref oc, .ref so, .ref rv, .ref sp, .int qs, .ref rz, .ref bl, .ref ww, .ref hs, .ref fi, .ref pm, .ref mx, .ref my, .ref mm, .ref mq, .ref mz, .ref wy, .ref fn, .int si, .int cs, .int cn, .int fa, .int pu, .int de, .int ve, .long nw, .int mk]))] := hD
  refine lv_aload_n hx hb d_Model_trust_5 rfl (lv_at hl 0 rfl) ?_
  refine lv_iload_n hx hb d_Model_trust_6 rfl (lv_at hl 1 rfl) ?_
  refine lv_iconst (v := 1) hx hb d_Model_trust_7 (by decide) ?_
  have hFc := va_free (wc := [(q0, .inr (12, [.int 0, .int fd, .int wg, .int 0, .int nl, .ref oc, .ref so, .ref rv, .ref sp, .int qs, .ref rz, .ref bl, .ref ww, .ref hs, .ref fi, .ref pm, .ref mx, .ref my, .ref mm, .ref mq, .ref mz, .ref wy, .ref fn, .int si, .int cs, .int cn, .int fa, .int pu, .int de, .int ve, .long nw, .int mk]))]) hD hS hA [0] rfl
  refine va_calli (mu_runV (As := [.int i, .int 1]) (rest := []) ⟨hx, hb, hml, hown, hts⟩ tbin (c_Model_noCertificate l dC dI sb q0 oc so rv sp rz bl ww hs fi pm mx my mm mq mz wy fn fd wg 0 nl qs si cs cn fa pu de ve mk nw i 1 H2.size (by decide)) q9_64 q9_66 qp_39 q1_9 q9_67 (n := 2) (by decide +kernel) rfl ⟨rfl, rfl⟩ ⟨Nat.le_of_ble_eq_true rfl, Nat.le_of_ble_eq_true rfl⟩ ⟨Nat.le_of_ble_eq_true rfl, Nat.le_of_ble_eq_true rfl⟩ hN (hT0.keep hS hAs) hAs (Nat.le_trans hB0 hS.1) hK hP hD [0] (by decide) rfl [] rfl 0 12 rfl rfl rfl hl.1 rfl (Nat.le_of_ble_eq_true rfl) d_Model_trust_8) hS (fun q _ h => hFc q h) hFc (fun r8 u8 tS H8 locs ht hvm hw8 hB hz1 hk1 hS => ?_)
  obtain ⟨v8, rfl⟩ : ∃ z, z = u8 := ⟨_, rfl⟩
  obtain ⟨hP1, hK1, hD1⟩ := hB
  rw [ht] at hP1
  obtain ⟨hP, hD⟩ := va_join (wr := []) (w1 := [(q0, .inr (12, [.int v8, .int fd, .int wg, .int 0, .int nl, .ref oc, .ref so, .ref rv, .ref sp, .int qs, .ref rz, .ref bl, .ref ww, .ref hs, .ref fi, .ref pm, .ref mx, .ref my, .ref mm, .ref mq, .ref mz, .ref wy, .ref fn, .int si, .int cs, .int cn, .int fa, .int pu, .int de, .int ve, .long nw, .int mk]))]) hP hD [0] [] rfl rfl (by decide) (by decide) hk1 hFc hP1 hD1
  have hP : va_P (dC, dI) classes [(q0, .inr (12, [.int v8, .int fd, .int wg, .int 0, .int nl, .ref oc, .ref so, .ref rv, .ref sp, .int qs, .ref rz, .ref bl, .ref ww, .ref hs, .ref fi, .ref pm, .ref mx, .ref my, .ref mm, .ref mq, .ref mz, .ref wy, .ref fn, .int si, .int cs, .int cn, .int fa, .int pu, .int de, .int ve, .long nw, .int mk]))] H8 := hP
  have hD : va_D A [(q0, .inr (12, [.int v8, .int fd, .int wg, .int 0, .int nl, .ref oc, .ref so, .ref rv, .ref sp, .int qs, .ref rz, .ref bl, .ref ww, .ref hs, .ref fi, .ref pm, .ref mx, .ref my, .ref mm, .ref mq, .ref mz, .ref wy, .ref fn, .int si, .int cs, .int cn, .int fa, .int pu, .int de, .int ve, .long nw, .int mk]))] := hD
  refine lv_if_eq (tgt := 16) hx hb d_Model_trust_11 (by decide) (fun c11 => ?_) (fun c11 => ?_)
  · exact absurd x_p0 (bz_0 hw8.2 c11)
  refine lv_iconst (v := 0) hx hb d_Model_trust_14 (by decide) ?_
  exact W.zret (v := 0) hx hb hr (bz_n (bz_f not_false)) (fun t ht hW => ⟨⟨_, v8, rfl, ⟨hw8.1.trans (if_neg x_p0), rfl⟩, by rw [ht]; exact hP, va_K.moved hW.alike hK, hD⟩, hS.F ht⟩) hS.2.2 d_Model_trust_15
def y_Model_covers : MethodName := ⟨"TrustChainModel", "covers", "(IJJJJ)Z"⟩
abbrev b_Model_covers : ByteArray := prog_14_method_44_code
def w_Model_covers : List Cond := Cond.code y_Model_covers b_Model_covers 16 ((some FieldType.boolean)) :: tb
theorem d_Model_covers_0 : decode b_Model_covers 0 = .ok (.aload_n 0, 1) := by decide +kernel
theorem d_Model_covers_1 : decode b_Model_covers 1 = .ok (.iconst 0, 1) := by decide +kernel
theorem d_Model_covers_2 : decode b_Model_covers 2 = .ok (.putfield 145, 3) := by decide +kernel
theorem d_Model_covers_5 : decode b_Model_covers 5 = .ok (.aload_n 0, 1) := by decide +kernel
theorem d_Model_covers_6 : decode b_Model_covers 6 = .ok (.iload_n 1, 1) := by decide +kernel
theorem d_Model_covers_7 : decode b_Model_covers 7 = .ok (.iconst 1, 1) := by decide +kernel
theorem d_Model_covers_8 : decode b_Model_covers 8 = .ok (.invokevirtual 209, 3) := by decide +kernel
theorem d_Model_covers_11 : decode b_Model_covers 11 = .ok (.ifCond .eq 5, 3) := by decide +kernel
theorem d_Model_covers_14 : decode b_Model_covers 14 = .ok (.iconst 0, 1) := by decide +kernel
theorem d_Model_covers_15 : decode b_Model_covers 15 = .ok (.ireturn, 1) := by decide +kernel
theorem d_Model_covers_16 : decode b_Model_covers 16 = .ok (.iconst 0, 1) := by decide +kernel
set_option maxHeartbeats 4000000 in
set_option maxRecDepth 100000 in
theorem c0_Model_covers (l : Launch) (dC : Nat → ClassId) (dI : Nat → Nat → Nat) (sb : sB) (q0 oc so rv sp rz bl ww hs fi pm mx my mm mq mz wy fn : Nat) (fd wg nl qs si cs cn fa pu de ve mk : Int32) (nw : Int64) (er i : Int32) (x0 x1 x2 x3 : Int64) (sz : Nat) : Met l y_Model_covers w_Model_covers ({ frames := 3, cells := 0, slots := 0, locals := 90 }) (mu_P [.ref q0, .int i, .long x0, .long x1, .long x2, .long x3] (dC, dI) sb [(q0, .inr (12, [.int er, .int fd, .int wg, .int 0, .int nl, .ref oc, .ref so, .ref rv, .ref sp, .int qs, .ref rz, .ref bl, .ref ww, .ref hs, .ref fi, .ref pm, .ref mx, .ref my, .ref mm, .ref mq, .ref mz, .ref wy, .ref fn, .int si, .int cs, .int cn, .int fa, .int pu, .int de, .int ve, .long nw, .int mk]))] [] sz) (va_Qi (fun r (u : Int32) => u = 1 ∧ r = 0) (mu_B (dC, dI) [] (va_A [(q0, .inr (12, [.int er, .int fd, .int wg, .int 0, .int nl, .ref oc, .ref so, .ref rv, .ref sp, .int qs, .ref rz, .ref bl, .ref ww, .ref hs, .ref fi, .ref pm, .ref mx, .ref my, .ref mm, .ref mq, .ref mz, .ref wy, .ref fn, .int si, .int cs, .int cn, .int fa, .int pu, .int de, .int ve, .long nw, .int mk]))] sz) (fun u : Int32 => [(q0, .inr (12, [.int u, .int fd, .int wg, .int 0, .int nl, .ref oc, .ref so, .ref rv, .ref sp, .int qs, .ref rz, .ref bl, .ref ww, .ref hs, .ref fi, .ref pm, .ref mx, .ref my, .ref mm, .ref mq, .ref mz, .ref wy, .ref fn, .int si, .int cs, .int cn, .int fa, .int pu, .int de, .int ve, .long nw, .int mk]))])) (va_A [(q0, .inr (12, [.int er, .int fd, .int wg, .int 0, .int nl, .ref oc, .ref so, .ref rv, .ref sp, .int qs, .ref rz, .ref bl, .ref ww, .ref hs, .ref fi, .ref pm, .ref mx, .ref my, .ref mm, .ref mq, .ref mz, .ref wy, .ref fn, .int si, .int cs, .int cn, .int fa, .int pu, .int de, .int ve, .long nw, .int mk]))] sz)) 0 0 (va_A [(q0, .inr (12, [.int er, .int fd, .int wg, .int 0, .int nl, .ref oc, .ref so, .ref rv, .ref sp, .int qs, .ref rz, .ref bl, .ref ww, .ref hs, .ref fi, .ref pm, .ref mx, .ref my, .ref mm, .ref mq, .ref mz, .ref wy, .ref fn, .int si, .int cs, .int cn, .int fa, .int pu, .int de, .int ve, .long nw, .int mk]))] sz) := by
  refine Met.ofW (cc := b_Model_covers) (maxL := 16) (ret := (some FieldType.boolean)) (by decide) rfl ?_
  intro p e s m args below meth c s₁ B hml hv
  obtain ⟨rfl, hsz, hB0, hP, hK, hD0, hN, hT0⟩ := hv
  have hx := B.exec
  have hb := B.bytes
  have hr := B.returns
  have hts := atoms_spec (ws := w_Model_covers) B.pre
  have tbin : ∀ w ∈ tb, w ∈ w_Model_covers := fun w h => List.mem_cons_of_mem _ h
  have htb : ∀ w ∈ tb, w.before _ s = true := fun w h => hts w (tbin w h)
  have hown : s.vm.findClass "TrustChainModel" = some m.cls := findClass_of_methodNamed B.named
  have hlocks := B.notSynchronized
  subst hsz
  have hD := hD0.self (sz := s.heap.size)
  generalize hAe : va_A [(q0, .inr (12, [.int er, .int fd, .int wg, .int 0, .int nl, .ref oc, .ref so, .ref rv, .ref sp, .int qs, .ref rz, .ref bl, .ref ww, .ref hs, .ref fi, .ref pm, .ref mx, .ref my, .ref mm, .ref mq, .ref mz, .ref wy, .ref fn, .int si, .int cs, .int cn, .int fa, .int pu, .int de, .int ve, .long nw, .int mk]))] s.heap.size = A at hD ⊢
  have hA : ∀ q : Nat, s.heap.size ≤ q → A q := fun q h => by rw [← hAe]; exact Or.inr h
  have hAs : ∀ q : Nat, A q → sb.1 ≤ q := fun q h => by
    rw [← hAe] at h
    rcases h with ⟨k, e, h⟩ | h
    · exact hD0.2 k _ h
    · exact Nat.le_trans hB0 h
  have hS : va_S A s.heap s.heap [] := va_S.rf
  have hcs : 0 ≤ (headSpec w_Model_covers ({ frames := 3, cells := 0, slots := 0, locals := 90 })).room.cells ∧ 0 ≤ (headSpec w_Model_covers ({ frames := 3, cells := 0, slots := 0, locals := 90 })).room.slots := ⟨Nat.le_refl _, Nat.le_refl _⟩
  have hP : va_P (dC, dI) classes [(q0, .inr (12, [.int er, .int fd, .int wg, .int 0, .int nl, .ref oc, .ref so, .ref rv, .ref sp, .int qs, .ref rz, .ref bl, .ref ww, .ref hs, .ref fi, .ref pm, .ref mx, .ref my, .ref mm, .ref mq, .ref mz, .ref wy, .ref fn, .int si, .int cs, .int cn, .int fa, .int pu, .int de, .int ve, .long nw, .int mk]))] s.heap := hP
  have hl := lv_entry ([.ref q0, .int i, .long x0, .long x1, .long x2, .long x3]) (n := 16) (Nat.le_of_ble_eq_true rfl)
  rw [lg_entry_eq]
  generalize (lg_sl ([.ref q0, .int i, .long x0, .long x1, .long x2, .long x3]) ++ List.replicate (16 - (lg_sl ([.ref q0, .int i, .long x0, .long x1, .long x2, .long x3])).length) Slot.unset).toArray = ls at hl ⊢
  have hl : lv_has ls 16 [(0, .ref q0), (1, .int i), (2, .long x0), (4, .long x1), (6, .long x2), (8, .long x3)] := hl
  refine lv_aload_n hx hb d_Model_covers_0 rfl (lv_at hl 0 rfl) ?_
  refine lv_iconst (v := 0) hx hb d_Model_covers_1 (by decide) ?_
  refine va_put (v := .int 0) (ty := .int) hx hb htb i_Model t_Model t_Model_ok n_Model hown hK hP hD hS 0 rfl rfl 0 (by decide) (htb _ q7_214) (fun _ h9 => h9) rfl (by decide +kernel) rfl rfl (Nat.le_of_ble_eq_true rfl) d_Model_covers_2 (fun H2 locs hP hD hS => ?_)
  have hP : va_P (dC, dI) classes [(q0, .inr (12, [.int 0, .int fd, .int wg, .int 0, .int nl, .ref oc, .ref so, .ref rv, .ref sp, .int qs, .ref rz, .ref bl, .ref ww, .ref hs, .ref fi, .ref pm, .ref mx, .ref my, .ref mm, .ref mq, .ref mz, .ref wy, .ref fn, .int si, .int cs, .int cn, .int fa, .int pu, .int de, .int ve, .long nw, .int mk]))] H2 := hP
  have hD : va_D A [(q0, .inr (12, [.int 0, .int fd, .int wg, .int 0, .int nl, .ref oc, .ref so, .ref rv, .ref sp, .int qs, .ref rz, .ref bl, .ref ww, .ref hs, .ref fi, .ref pm, .ref mx, .ref my, .ref mm, .ref mq, .ref mz, .ref wy, .ref fn, .int si, .int cs, .int cn, .int fa, .int pu, .int de, .int ve, .long nw, .int mk]))] := hD
  refine lv_aload_n hx hb d_Model_covers_5 rfl (lv_at hl 0 rfl) ?_
  refine lv_iload_n hx hb d_Model_covers_6 rfl (lv_at hl 1 rfl) ?_
  refine lv_iconst (v := 1) hx hb d_Model_covers_7 (by decide) ?_
  have hFc := va_free (wc := [(q0, .inr (12, [.int 0, .int fd, .int wg, .int 0, .int nl, .ref oc, .ref so, .ref rv, .ref sp, .int qs, .ref rz, .ref bl, .ref ww, .ref hs, .ref fi, .ref pm, .ref mx, .ref my, .ref mm, .ref mq, .ref mz, .ref wy, .ref fn, .int si, .int cs, .int cn, .int fa, .int pu, .int de, .int ve, .long nw, .int mk]))]) hD hS hA [0] rfl
  refine va_calli (mu_runV (As := [.int i, .int 1]) (rest := []) ⟨hx, hb, hml, hown, hts⟩ tbin (c_Model_noCertificate l dC dI sb q0 oc so rv sp rz bl ww hs fi pm mx my mm mq mz wy fn fd wg 0 nl qs si cs cn fa pu de ve mk nw i 1 H2.size (by decide)) q9_64 q9_66 qp_39 q1_9 q9_67 (n := 2) (by decide +kernel) rfl ⟨rfl, rfl⟩ ⟨Nat.le_of_ble_eq_true rfl, Nat.le_of_ble_eq_true rfl⟩ ⟨Nat.le_of_ble_eq_true rfl, Nat.le_of_ble_eq_true rfl⟩ hN (hT0.keep hS hAs) hAs (Nat.le_trans hB0 hS.1) hK hP hD [0] (by decide) rfl [] rfl 0 12 rfl rfl rfl hl.1 rfl (Nat.le_of_ble_eq_true rfl) d_Model_covers_8) hS (fun q _ h => hFc q h) hFc (fun r8 u8 tS H8 locs ht hvm hw8 hB hz1 hk1 hS => ?_)
  obtain ⟨v8, rfl⟩ : ∃ z, z = u8 := ⟨_, rfl⟩
  obtain ⟨hP1, hK1, hD1⟩ := hB
  rw [ht] at hP1
  obtain ⟨hP, hD⟩ := va_join (wr := []) (w1 := [(q0, .inr (12, [.int v8, .int fd, .int wg, .int 0, .int nl, .ref oc, .ref so, .ref rv, .ref sp, .int qs, .ref rz, .ref bl, .ref ww, .ref hs, .ref fi, .ref pm, .ref mx, .ref my, .ref mm, .ref mq, .ref mz, .ref wy, .ref fn, .int si, .int cs, .int cn, .int fa, .int pu, .int de, .int ve, .long nw, .int mk]))]) hP hD [0] [] rfl rfl (by decide) (by decide) hk1 hFc hP1 hD1
  have hP : va_P (dC, dI) classes [(q0, .inr (12, [.int v8, .int fd, .int wg, .int 0, .int nl, .ref oc, .ref so, .ref rv, .ref sp, .int qs, .ref rz, .ref bl, .ref ww, .ref hs, .ref fi, .ref pm, .ref mx, .ref my, .ref mm, .ref mq, .ref mz, .ref wy, .ref fn, .int si, .int cs, .int cn, .int fa, .int pu, .int de, .int ve, .long nw, .int mk]))] H8 := hP
  have hD : va_D A [(q0, .inr (12, [.int v8, .int fd, .int wg, .int 0, .int nl, .ref oc, .ref so, .ref rv, .ref sp, .int qs, .ref rz, .ref bl, .ref ww, .ref hs, .ref fi, .ref pm, .ref mx, .ref my, .ref mm, .ref mq, .ref mz, .ref wy, .ref fn, .int si, .int cs, .int cn, .int fa, .int pu, .int de, .int ve, .long nw, .int mk]))] := hD
  refine lv_if_eq (tgt := 16) hx hb d_Model_covers_11 (by decide) (fun c11 => ?_) (fun c11 => ?_)
  · exact absurd x_p0 (bz_0 hw8.2 c11)
  refine lv_iconst (v := 0) hx hb d_Model_covers_14 (by decide) ?_
  exact W.zret (v := 0) hx hb hr (bz_n (bz_f not_false)) (fun t ht hW => ⟨⟨_, v8, rfl, ⟨hw8.1.trans (if_neg x_p0), rfl⟩, by rw [ht]; exact hP, va_K.moved hW.alike hK, hD⟩, hS.F ht⟩) hS.2.2 d_Model_covers_15
