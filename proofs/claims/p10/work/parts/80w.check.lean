/-! PathCheck: these methods return. -/
def y_PathCheck_begin : MethodName := ⟨"TrustChain$PathCheck", "begin", "(JZ)V"⟩
abbrev b_PathCheck_begin : ByteArray := prog_7_method_2_code
def w_PathCheck_begin : List Cond := Cond.code y_PathCheck_begin b_PathCheck_begin 4 (none) :: tb
theorem d_PathCheck_begin_0 : decode b_PathCheck_begin 0 = .ok (.aload_n 0, 1) := by decide +kernel
theorem d_PathCheck_begin_1 : decode b_PathCheck_begin 1 = .ok (.lload_n 1, 1) := by decide +kernel
theorem d_PathCheck_begin_2 : decode b_PathCheck_begin 2 = .ok (.putfield 15, 3) := by decide +kernel
theorem d_PathCheck_begin_5 : decode b_PathCheck_begin 5 = .ok (.aload_n 0, 1) := by decide +kernel
theorem d_PathCheck_begin_6 : decode b_PathCheck_begin 6 = .ok (.iload_n 3, 1) := by decide +kernel
theorem d_PathCheck_begin_7 : decode b_PathCheck_begin 7 = .ok (.putfield 19, 3) := by decide +kernel
theorem d_PathCheck_begin_10 : decode b_PathCheck_begin 10 = .ok (.return_, 1) := by decide +kernel
set_option maxHeartbeats 4000000 in
set_option maxRecDepth 100000 in
theorem m_PathCheck_begin (l : Launch) (dC : Nat → ClassId) (dI : Nat → Nat → Nat) (sb : sB) (γ : cG) (κ : kE) (Ad : List Nat) (ν : Nat → cN) (ω : Nat → List Nat) (L : Nat) (G : va_W) (h : Nat) (t9 : Int64) (x9 : Int32) (sz : Nat) (hTy : TY γ κ Ad ν ω L G) (kh : tK κ Ad h (12, 0, 0)) (hx9 : bz x9 (x9 = 1)) : Met l y_PathCheck_begin w_PathCheck_begin ({ frames := 0, cells := 0, slots := 0, locals := 0 }) (mu_P [.ref h, .long t9, .int x9] (dC, dI) sb G [(γ.1, .byte), (γ.2.1, .int), (γ.2.2.1, .long), (γ.2.2.2, .object "java/lang/Object")] sz) (va_Qv (fun (G' : va_W) => TY γ κ Ad ν ω L G' ∧ FR Ad G G' ∧ (True)) (mu_B (dC, dI) [(γ.1, .byte), (γ.2.1, .int), (γ.2.2.1, .long), (γ.2.2.2, .object "java/lang/Object")] (va_A G sz) (fun G' : va_W => G')) (va_A G sz)) 0 0 (va_A G sz) := by
  refine Met.ofW (cc := b_PathCheck_begin) (maxL := 4) (ret := none) (by decide) rfl ?_
  intro p e s m args below meth c s₁ B hml hv
  obtain ⟨rfl, hsz, hB0, hP, hK, hD0, hN, hT0⟩ := hv
  have hx := B.exec
  have hb := B.bytes
  have hr := B.returns
  have hts := atoms_spec (ws := w_PathCheck_begin) B.pre
  have tbin : ∀ w ∈ tb, w ∈ w_PathCheck_begin := fun w h => List.mem_cons_of_mem _ h
  have htb : ∀ w ∈ tb, w.before _ s = true := fun w h => hts w (tbin w h)
  have hown : s.vm.findClass "TrustChain$PathCheck" = some m.cls := findClass_of_methodNamed B.named
  have hlocks := B.notSynchronized
  subst hsz
  have hD := hD0.self (sz := s.heap.size)
  generalize hAe : va_A G s.heap.size = A at hD ⊢
  have hA : ∀ q : Nat, s.heap.size ≤ q → A q := fun q h => by rw [← hAe]; exact Or.inr h
  have hAs : ∀ q : Nat, A q → sb.1 ≤ q := fun q h => by
    rw [← hAe] at h
    rcases h with ⟨k, e, h⟩ | h
    · exact hD0.2 k _ h
    · exact Nat.le_trans hB0 h
  have hS : va_S A s.heap s.heap [] := va_S.rf
  have hFR := FR.rf Ad G
  have hcs : 0 ≤ (headSpec w_PathCheck_begin ({ frames := 0, cells := 0, slots := 0, locals := 0 })).room.cells ∧ 0 ≤ (headSpec w_PathCheck_begin ({ frames := 0, cells := 0, slots := 0, locals := 0 })).room.slots := ⟨Nat.le_refl _, Nat.le_refl _⟩
  have hP : va_P (dC, dI) classes G s.heap := hP
  have hl := lv_entry ([.ref h, .long t9, .int x9]) (n := 4) (Nat.le_of_ble_eq_true rfl)
  rw [lg_entry_eq]
  generalize (lg_sl ([.ref h, .long t9, .int x9]) ++ List.replicate (4 - (lg_sl ([.ref h, .long t9, .int x9])).length) Slot.unset).toArray = ls at hl ⊢
  have hl : lv_has ls 4 [(0, .ref h), (1, .long t9), (3, .int x9)] := hl
  refine lv_aload_n hx hb d_PathCheck_begin_0 rfl (lv_at hl 0 rfl) ?_
  refine lv_lload_n hx hb d_PathCheck_begin_1 rfl (lv_at hl 1 rfl) ?_
  obtain ⟨i_1, fp_1, kw_1, ik_1, ti_1, hg_1⟩ := ty_12 hTy kh
  refine va_put (v := .long t9) (ty := .long) hx hb htb i_PathCheck t_PathCheck t_PathCheck_ok n_PathCheck hown hK hP hD hS i_1 hg_1 rfl 1 (by decide) (htb _ q1_144) (fun _ h9 => h9) rfl (by decide +kernel) rfl rfl (Nat.le_of_ble_eq_true rfl) d_PathCheck_begin_2 (fun H2 locs hP hD2 hS => ?_)
  have hP : va_P (dC, dI) classes (G.set i_1 (h, .inr (9, [.int fp_1, .long t9, .int kw_1, .int ik_1]))) H2 := hP
  have hD3 : va_D A (G.set i_1 (h, .inr (9, [.int fp_1, .long t9, .int kw_1, .int ik_1]))) := hD2
  have hFR := hFR.tr (FR.set (c' := .inr (9, [.int fp_1, .long t9, .int kw_1, .int ik_1])) hg_1 kh.1)
  have hTy := TY.set (c' := .inr (9, [.int fp_1, .long t9, .int kw_1, .int ik_1])) hTy hg_1 (ok_12 kh _ _ _ _)
  have hD := hD3
  have hg_1 := set_here (c' := .inr (9, [.int fp_1, .long t9, .int kw_1, .int ik_1])) hg_1
  clear hD3 hD2
  generalize G.set i_1 (h, .inr (9, [.int fp_1, .long t9, .int kw_1, .int ik_1])) = G_2 at hP hD hTy hFR hg_1
  refine lv_aload_n hx hb d_PathCheck_begin_5 rfl (lv_at hl 0 rfl) ?_
  refine lv_iload_n hx hb d_PathCheck_begin_6 rfl (lv_at hl 2 rfl) ?_
  refine va_put (v := .int x9) (ty := .boolean) hx hb htb i_PathCheck t_PathCheck t_PathCheck_ok n_PathCheck hown hK hP hD hS i_1 hg_1 rfl 2 (by decide) (htb _ q1_145) (fun _ h9 => h9) rfl (by decide +kernel) (bz_n hx9) (bz_fit hx9) (Nat.le_of_ble_eq_true rfl) d_PathCheck_begin_7 (fun H7 locs hP hD2 hS => ?_)
  have hP : va_P (dC, dI) classes (G_2.set i_1 (h, .inr (9, [.int fp_1, .long t9, .int x9, .int ik_1]))) H7 := hP
  have hD3 : va_D A (G_2.set i_1 (h, .inr (9, [.int fp_1, .long t9, .int x9, .int ik_1]))) := hD2
  have hFR := hFR.tr (FR.set (c' := .inr (9, [.int fp_1, .long t9, .int x9, .int ik_1])) hg_1 kh.1)
  have hTy := TY.set (c' := .inr (9, [.int fp_1, .long t9, .int x9, .int ik_1])) hTy hg_1 (ok_12 kh _ _ _ _)
  have hD := hD3
  have hg_1 := set_here (c' := .inr (9, [.int fp_1, .long t9, .int x9, .int ik_1])) hg_1
  clear hD3 hD2
  generalize G_2.set i_1 (h, .inr (9, [.int fp_1, .long t9, .int x9, .int ik_1])) = G_3 at hP hD hTy hFR hg_1
  exact W.vret hx hb hr (fun t ht hW => ⟨⟨G_3, rfl, ⟨hTy, hFR, trivial⟩, by rw [ht]; exact hP, va_K.moved hW.alike hK, hD⟩, hS.F ht⟩) hS.2.2 d_PathCheck_begin_10
def y_PathCheck_isTooFarDown : MethodName := ⟨"TrustChain$PathCheck", "isTooFarDown", "(Ljava/util/ArrayList;I)Z"⟩
abbrev b_PathCheck_isTooFarDown : ByteArray := prog_7_method_8_code
def w_PathCheck_isTooFarDown : List Cond := Cond.code y_PathCheck_isTooFarDown b_PathCheck_isTooFarDown 5 ((some FieldType.boolean)) :: tb
theorem d_PathCheck_isTooFarDown_0 : decode b_PathCheck_isTooFarDown 0 = .ok (.iconst 0, 1) := by decide +kernel
theorem d_PathCheck_isTooFarDown_1 : decode b_PathCheck_isTooFarDown 1 = .ok (.istore_n 2, 1) := by decide +kernel
theorem d_PathCheck_isTooFarDown_2 : decode b_PathCheck_isTooFarDown 2 = .ok (.iload_n 1, 1) := by decide +kernel
theorem d_PathCheck_isTooFarDown_3 : decode b_PathCheck_isTooFarDown 3 = .ok (.istore_n 3, 1) := by decide +kernel
theorem d_PathCheck_isTooFarDown_4 : decode b_PathCheck_isTooFarDown 4 = .ok (.iload_n 3, 1) := by decide +kernel
theorem d_PathCheck_isTooFarDown_5 : decode b_PathCheck_isTooFarDown 5 = .ok (.aload_n 0, 1) := by decide +kernel
theorem d_PathCheck_isTooFarDown_6 : decode b_PathCheck_isTooFarDown 6 = .ok (.invokevirtual 26, 3) := by decide +kernel
theorem d_PathCheck_isTooFarDown_9 : decode b_PathCheck_isTooFarDown 9 = .ok (.iconst 1, 1) := by decide +kernel
theorem d_PathCheck_isTooFarDown_10 : decode b_PathCheck_isTooFarDown 10 = .ok (.isub, 1) := by decide +kernel
theorem d_PathCheck_isTooFarDown_11 : decode b_PathCheck_isTooFarDown 11 = .ok (.if_icmp .ge 59, 3) := by decide +kernel
theorem d_PathCheck_isTooFarDown_14 : decode b_PathCheck_isTooFarDown 14 = .ok (.aload_n 0, 1) := by decide +kernel
theorem d_PathCheck_isTooFarDown_15 : decode b_PathCheck_isTooFarDown 15 = .ok (.iload_n 3, 1) := by decide +kernel
theorem d_PathCheck_isTooFarDown_16 : decode b_PathCheck_isTooFarDown 16 = .ok (.invokevirtual 36, 3) := by decide +kernel
theorem d_PathCheck_isTooFarDown_19 : decode b_PathCheck_isTooFarDown 19 = .ok (.checkcast 40, 3) := by decide +kernel
theorem d_PathCheck_isTooFarDown_22 : decode b_PathCheck_isTooFarDown 22 = .ok (.astore 4, 2) := by decide +kernel
theorem d_PathCheck_isTooFarDown_24 : decode b_PathCheck_isTooFarDown 24 = .ok (.iload_n 3, 1) := by decide +kernel
theorem d_PathCheck_isTooFarDown_25 : decode b_PathCheck_isTooFarDown 25 = .ok (.iload_n 1, 1) := by decide +kernel
theorem d_PathCheck_isTooFarDown_26 : decode b_PathCheck_isTooFarDown 26 = .ok (.if_icmp .le 22, 3) := by decide +kernel
theorem d_PathCheck_isTooFarDown_29 : decode b_PathCheck_isTooFarDown 29 = .ok (.aload 4, 2) := by decide +kernel
theorem d_PathCheck_isTooFarDown_31 : decode b_PathCheck_isTooFarDown 31 = .ok (.getfield 126, 3) := by decide +kernel
theorem d_PathCheck_isTooFarDown_34 : decode b_PathCheck_isTooFarDown 34 = .ok (.ifCond .lt 14, 3) := by decide +kernel
theorem d_PathCheck_isTooFarDown_37 : decode b_PathCheck_isTooFarDown 37 = .ok (.aload 4, 2) := by decide +kernel
theorem d_PathCheck_isTooFarDown_39 : decode b_PathCheck_isTooFarDown 39 = .ok (.getfield 126, 3) := by decide +kernel
theorem d_PathCheck_isTooFarDown_42 : decode b_PathCheck_isTooFarDown 42 = .ok (.iload_n 2, 1) := by decide +kernel
theorem d_PathCheck_isTooFarDown_43 : decode b_PathCheck_isTooFarDown 43 = .ok (.if_icmp .ge 5, 3) := by decide +kernel
theorem d_PathCheck_isTooFarDown_46 : decode b_PathCheck_isTooFarDown 46 = .ok (.iconst 1, 1) := by decide +kernel
theorem d_PathCheck_isTooFarDown_47 : decode b_PathCheck_isTooFarDown 47 = .ok (.ireturn, 1) := by decide +kernel
theorem d_PathCheck_isTooFarDown_48 : decode b_PathCheck_isTooFarDown 48 = .ok (.iload_n 2, 1) := by decide +kernel
theorem d_PathCheck_isTooFarDown_49 : decode b_PathCheck_isTooFarDown 49 = .ok (.aload 4, 2) := by decide +kernel
theorem d_PathCheck_isTooFarDown_51 : decode b_PathCheck_isTooFarDown 51 = .ok (.getfield 56, 3) := by decide +kernel
theorem d_PathCheck_isTooFarDown_54 : decode b_PathCheck_isTooFarDown 54 = .ok (.ifCond .eq 7, 3) := by decide +kernel
theorem d_PathCheck_isTooFarDown_57 : decode b_PathCheck_isTooFarDown 57 = .ok (.iconst 0, 1) := by decide +kernel
theorem d_PathCheck_isTooFarDown_58 : decode b_PathCheck_isTooFarDown 58 = .ok (.goto 4, 3) := by decide +kernel
theorem d_PathCheck_isTooFarDown_61 : decode b_PathCheck_isTooFarDown 61 = .ok (.iconst 1, 1) := by decide +kernel
theorem d_PathCheck_isTooFarDown_62 : decode b_PathCheck_isTooFarDown 62 = .ok (.iadd, 1) := by decide +kernel
theorem d_PathCheck_isTooFarDown_63 : decode b_PathCheck_isTooFarDown 63 = .ok (.istore_n 2, 1) := by decide +kernel
theorem d_PathCheck_isTooFarDown_64 : decode b_PathCheck_isTooFarDown 64 = .ok (.iinc 3 1, 3) := by decide +kernel
theorem d_PathCheck_isTooFarDown_67 : decode b_PathCheck_isTooFarDown 67 = .ok (.goto (-63), 3) := by decide +kernel
theorem d_PathCheck_isTooFarDown_70 : decode b_PathCheck_isTooFarDown 70 = .ok (.iconst 0, 1) := by decide +kernel
theorem d_PathCheck_isTooFarDown_71 : decode b_PathCheck_isTooFarDown 71 = .ok (.ireturn, 1) := by decide +kernel
set_option maxHeartbeats 4000000 in
set_option maxRecDepth 100000 in
theorem p_PathCheck_isTooFarDown (l : Launch) (dC : Nat → ClassId) (dI : Nat → Nat → Nat) (sb : sB) (γ : cG) (κ : kE) (Ad : List Nat) (ν : Nat → cN) (ω : Nat → List Nat) (L : Nat) (G : va_W) (p9 : Nat) (o1 : alD) (as : List Nat) (k : Nat) (hTy : TY γ κ Ad ν ω L G) (kp9 : PLx γ sb κ Ad 8 p9 o1 as G) (hk : k < as.length) : Met l y_PathCheck_isTooFarDown w_PathCheck_isTooFarDown ({ frames := 3, cells := 0, slots := 0, locals := 64 }) (pu_P [.ref p9, .int (nI k)] (dC, dI) sb G [(γ.1, .byte), (γ.2.1, .int), (γ.2.2.1, .long), (γ.2.2.2, .object "java/lang/Object")]) (vp_Si (fun r => bz r (r = 1))) 0 0 (fun _ => False) := by
  refine Met.ofW (cc := b_PathCheck_isTooFarDown) (maxL := 5) (ret := (some FieldType.boolean)) (by decide) rfl ?_
  intro p e s m args below meth c s₁ B hml hv
  obtain ⟨rfl, hP, hK, hN, hT0⟩ := hv
  have hx := B.exec
  have hb := B.bytes
  have hr := B.returns
  have hts := atoms_spec (ws := w_PathCheck_isTooFarDown) B.pre
  have tbin : ∀ w ∈ tb, w ∈ w_PathCheck_isTooFarDown := fun w h => List.mem_cons_of_mem _ h
  have htb : ∀ w ∈ tb, w.before _ s = true := fun w h => hts w (tbin w h)
  have hown : s.vm.findClass "TrustChain$PathCheck" = some m.cls := findClass_of_methodNamed B.named
  have hlocks := B.notSynchronized
  have hl := lv_entry ([.ref p9, .int (nI k)]) (n := 5) (Nat.le_of_ble_eq_true rfl)
  rw [lg_entry_eq]
  generalize (lg_sl ([.ref p9, .int (nI k)]) ++ List.replicate (5 - (lg_sl ([.ref p9, .int (nI k)])).length) Slot.unset).toArray = ls at hl ⊢
  have hl : lv_has ls 5 [(0, .ref p9), (1, .int (nI k))] := hl
  refine lv_iconst (v := 0) hx hb d_PathCheck_isTooFarDown_0 (by decide) ?_
  refine lv_istore_n (lv' := [(2, .int 0), (0, .ref p9), (1, .int (nI k))]) hx hb d_PathCheck_isTooFarDown_1 rfl hl (by decide) rfl (fun ls hl => ?_)
  refine lv_iload_n hx hb d_PathCheck_isTooFarDown_2 rfl (lv_at hl 2 rfl) ?_
  refine lv_istore_n (lv' := [(3, .int (nI k)), (2, .int 0), (0, .ref p9), (1, .int (nI k))]) hx hb d_PathCheck_isTooFarDown_3 rfl hl (by decide) rfl (fun ls hl => ?_)
  refine w_loop (α := Nat × Int32) (fun a9 => a9.1 ≤ as.length + k) (fun a9 => as.length + k - a9.1) (fun a9 => [(3, .int (nI a9.1)), (2, .int a9.2), (0, .ref p9), (1, .int (nI k))]) (fun _ => []) 5 4 (fun a9 ls hJ hl ih => ?_) (k, 0) ls (by dsimp only; omega) (lv_sub hl [0, 1, 2, 3] rfl)
  obtain ⟨z9, x9⟩ := a9
  dsimp only at hJ hl ih
  refine lv_iload_n hx hb d_PathCheck_isTooFarDown_4 rfl (lv_at hl 0 rfl) ?_
  refine lv_aload_n hx hb d_PathCheck_isTooFarDown_5 rfl (lv_at hl 2 rfl) ?_
  obtain ⟨i_1, m_1, hK_1, hg_1⟩ := pl_size kp9
  refine vp_callSi (pu_callV (As := []) (rest := [.int (nI z9)]) ⟨hx, hb, hml, hown, hts⟩ tbin (c_AL_size l dC dI sb p9 (alO sb o1) as.length m_1) q6_46 q2_54 q2_55 q1_4 q2_56 (n := 0) (by decide +kernel) rfl ⟨rfl, rfl⟩ ⟨Nat.le_of_ble_eq_true rfl, Nat.le_of_ble_eq_true rfl⟩ ⟨Nat.le_of_ble_eq_true rfl, Nat.le_of_ble_eq_true rfl⟩ hN hT0 hK hP [i_1] (by simp only [List.filterMap_cons, List.filterMap_nil, hg_1]) [] rfl i_1 11 hg_1 rfl rfl hl.1 rfl (Nat.le_of_ble_eq_true rfl) d_PathCheck_isTooFarDown_6) (fun r6 hr6 => ?_)
  subst hr6
  refine lv_iconst (v := 1) hx hb d_PathCheck_isTooFarDown_9 (by decide) ?_
  refine lv_isub hx hb d_PathCheck_isTooFarDown_10 ?_
  rw [show ((nI as.length) - 1 : Int32) = nI (as.length - 1) from pk_sub (a := as.length) (b := 1) (by omega)]
  refine lv_icmp_ge (tgt := 70) hx hb d_PathCheck_isTooFarDown_11 (by decide) (fun c11 => ?_) (fun c11 => ?_)
  · have p11 : (as.length - 1) ≤ z9 := ((nI_leI (a := (as.length - 1)) (b := z9) (by omega) (by omega)).mp c11)
    refine lv_iconst (v := 0) hx hb d_PathCheck_isTooFarDown_70 (by decide) ?_
    exact W.zret (v := 0) hx hb hr rfl (fun t ht hW => ⟨_, rfl, bz_f (by decide), ht⟩) (fun q h => by cases h) d_PathCheck_isTooFarDown_71
  · have p11 : ¬ ((as.length - 1) ≤ z9) := (fun q9 => c11 ((nI_leI (a := (as.length - 1)) (b := z9) (by omega) (by omega)).mpr q9))
    refine lv_aload_n hx hb d_PathCheck_isTooFarDown_14 rfl (lv_at hl 2 rfl) ?_
    refine lv_iload_n hx hb d_PathCheck_isTooFarDown_15 rfl (lv_at hl 0 rfl) ?_
    obtain ⟨j_2, cap_2, f_2, p_2, q_2, hK_2, hc_2, hf_2, ks_2, h9_2, hq_2⟩ := pl_get kp9 (j := z9) (by omega)
    obtain ⟨s_2, es_2⟩ : ∃ z, z = as.getD z9 0 := ⟨_, rfl⟩
    rw [← es_2] at hf_2 ks_2
    refine va_csr (pu_callV (As := [.int (nI z9)]) (rest := []) ⟨hx, hb, hml, hown, hts⟩ tbin (c_AL_get l dC dI sb p9 (alO sb o1) as.length cap_2 z9 s_2 m_1 γ.2.2.2 f_2 (by omega) hK_2 (by omega) hf_2) q6_51 q4_210 q4_211 q1_4 q4_212 (n := 1) (by decide +kernel) rfl ⟨rfl, rfl⟩ ⟨Nat.le_of_ble_eq_true rfl, Nat.le_of_ble_eq_true rfl⟩ ⟨Nat.le_of_ble_eq_true rfl, Nat.le_of_ble_eq_true rfl⟩ hN hT0 hK hP [i_1, j_2] (by simp only [List.filterMap_cons, List.filterMap_nil, hg_1, hq_2]) [3] rfl i_1 11 hg_1 rfl rfl hl.1 rfl (Nat.le_of_ble_eq_true rfl) d_PathCheck_isTooFarDown_16) (fun r16 hr16 => ?_)
    obtain rfl := Eq.symm hr16
    obtain ⟨i_3, nm_3, pe_3, ec_3, se_3, su_3, mo_3, ok_3, ik_3, ha_3, si_3, en_3, bo_3, sg_3, is_3, iu_3, K_3, B_3, hg_3⟩ := ty_8 hTy ks_2
    obtain ⟨⟨A_3, knm_3⟩, ⟨B1_3, B2_3, kpe_3⟩, ⟨C1_3, C2_3, kec_3⟩, kse_3, ⟨z1_3, ksu_3⟩, ⟨z2_3, kmo_3⟩, ⟨z3_3, kok_3⟩, ⟨z4_3, kik_3⟩, kha_3, ksi_3, ken_3, ⟨z5_3, kbo_3⟩, ⟨z6_3, ksg_3⟩, ⟨z7_3, kis_3⟩⟩ := K_3
    refine va_castY (C := "TrustChain$Certificate") hx hb hown (htb _ q6_52) (hN.1 _ qn9_223) (va_recv (ci := 3) hK hP rfl hg_3) d_PathCheck_isTooFarDown_19 ?_
    refine lv_astore (lv' := [(4, .ref s_2), (3, .int (nI z9)), (2, .int x9), (0, .ref p9), (1, .int (nI k))]) hx hb d_PathCheck_isTooFarDown_22 hl (by decide) rfl (fun ls hl => ?_)
    refine lv_iload_n hx hb d_PathCheck_isTooFarDown_24 rfl (lv_at hl 1 rfl) ?_
    refine lv_iload_n hx hb d_PathCheck_isTooFarDown_25 rfl (lv_at hl 4 rfl) ?_
    refine lv_icmp_le (tgt := 48) hx hb d_PathCheck_isTooFarDown_26 (by decide) (fun c26 => ?_) (fun c26 => ?_)
    · have p26 : z9 ≤ k := ((nI_leI (a := z9) (b := k) (by omega) (by omega)).mp c26)
      refine lv_iload_n hx hb d_PathCheck_isTooFarDown_48 rfl (lv_at hl 2 rfl) ?_
      refine lv_aload hx hb d_PathCheck_isTooFarDown_49 (lv_at hl 0 rfl) ?_
      refine va_get (v := .int ((ν s_2).2.2.2.2.2.2.2.1)) hx hb htb i_Certificate hown hK hP i_3 hg_3 rfl 15 (by decide) (htb _ q2_181) (fun _ h9 => h9) rfl d_PathCheck_isTooFarDown_51 ?_
      refine lv_if_eq (tgt := 61) hx hb d_PathCheck_isTooFarDown_54 (by decide) (fun c54 => ?_) (fun c54 => ?_)
      · have p54 : ((ν s_2).2.2.2.2.2.2.2.1) = (0 : Int32) := c54
        refine lv_iconst (v := 1) hx hb d_PathCheck_isTooFarDown_61 (by decide) ?_
        refine lv_iadd hx hb d_PathCheck_isTooFarDown_62 ?_
        refine lv_topi (fun v63 ev63 => ?_)
        refine lv_istore_n (lv' := [(2, .int v63), (4, .ref s_2), (3, .int (nI z9)), (0, .ref p9), (1, .int (nI k))]) hx hb d_PathCheck_isTooFarDown_63 rfl hl (by decide) rfl (fun ls hl => ?_)
        refine lv_iinc (v := nI (z9 + 1)) (lv' := [(3, .int (nI (z9 + 1))), (2, .int v63), (4, .ref s_2), (0, .ref p9), (1, .int (nI k))]) hx hb d_PathCheck_isTooFarDown_64 hl (k := 2) rfl (nI_1 _) (by decide) rfl (fun ls hl => ?_)
        refine lv_goto (tgt := 4) hx hb d_PathCheck_isTooFarDown_67 (by decide) ?_
        exact ih ((z9 + 1), v63) ls (by dsimp only; omega) (by dsimp only; omega) (lv_sub hl [0, 1, 3, 4] rfl)
      · have p54 : ¬ (((ν s_2).2.2.2.2.2.2.2.1) = (0 : Int32)) := c54
        refine lv_iconst (v := 0) hx hb d_PathCheck_isTooFarDown_57 (by decide) ?_
        refine lv_goto (tgt := 62) hx hb d_PathCheck_isTooFarDown_58 (by decide) ?_
        refine lv_iadd hx hb d_PathCheck_isTooFarDown_62 ?_
        refine lv_topi (fun v63 ev63 => ?_)
        refine lv_istore_n (lv' := [(2, .int v63), (4, .ref s_2), (3, .int (nI z9)), (0, .ref p9), (1, .int (nI k))]) hx hb d_PathCheck_isTooFarDown_63 rfl hl (by decide) rfl (fun ls hl => ?_)
        refine lv_iinc (v := nI (z9 + 1)) (lv' := [(3, .int (nI (z9 + 1))), (2, .int v63), (4, .ref s_2), (0, .ref p9), (1, .int (nI k))]) hx hb d_PathCheck_isTooFarDown_64 hl (k := 2) rfl (nI_1 _) (by decide) rfl (fun ls hl => ?_)
        refine lv_goto (tgt := 4) hx hb d_PathCheck_isTooFarDown_67 (by decide) ?_
        exact ih ((z9 + 1), v63) ls (by dsimp only; omega) (by dsimp only; omega) (lv_sub hl [0, 1, 3, 4] rfl)
    · have p26 : ¬ (z9 ≤ k) := (fun q9 => c26 ((nI_leI (a := z9) (b := k) (by omega) (by omega)).mpr q9))
      refine lv_aload hx hb d_PathCheck_isTooFarDown_29 (lv_at hl 0 rfl) ?_
      refine va_get (v := .int ((ν s_2).2.2.2.2.1)) hx hb htb i_Certificate hown hK hP i_3 hg_3 rfl 12 (by decide) (htb _ q2_174) (fun _ h9 => h9) rfl d_PathCheck_isTooFarDown_31 ?_
      refine lv_if_lt (tgt := 48) hx hb d_PathCheck_isTooFarDown_34 (by decide) (fun c34 => ?_) (fun c34 => ?_)
      · have p34 : ((ν s_2).2.2.2.2.1) < (0 : Int32) := c34
        refine lv_iload_n hx hb d_PathCheck_isTooFarDown_48 rfl (lv_at hl 2 rfl) ?_
        refine lv_aload hx hb d_PathCheck_isTooFarDown_49 (lv_at hl 0 rfl) ?_
        refine va_get (v := .int ((ν s_2).2.2.2.2.2.2.2.1)) hx hb htb i_Certificate hown hK hP i_3 hg_3 rfl 15 (by decide) (htb _ q2_181) (fun _ h9 => h9) rfl d_PathCheck_isTooFarDown_51 ?_
        refine lv_if_eq (tgt := 61) hx hb d_PathCheck_isTooFarDown_54 (by decide) (fun c54 => ?_) (fun c54 => ?_)
        · have p54 : ((ν s_2).2.2.2.2.2.2.2.1) = (0 : Int32) := c54
          refine lv_iconst (v := 1) hx hb d_PathCheck_isTooFarDown_61 (by decide) ?_
          refine lv_iadd hx hb d_PathCheck_isTooFarDown_62 ?_
          refine lv_topi (fun v63 ev63 => ?_)
          refine lv_istore_n (lv' := [(2, .int v63), (4, .ref s_2), (3, .int (nI z9)), (0, .ref p9), (1, .int (nI k))]) hx hb d_PathCheck_isTooFarDown_63 rfl hl (by decide) rfl (fun ls hl => ?_)
          refine lv_iinc (v := nI (z9 + 1)) (lv' := [(3, .int (nI (z9 + 1))), (2, .int v63), (4, .ref s_2), (0, .ref p9), (1, .int (nI k))]) hx hb d_PathCheck_isTooFarDown_64 hl (k := 2) rfl (nI_1 _) (by decide) rfl (fun ls hl => ?_)
          refine lv_goto (tgt := 4) hx hb d_PathCheck_isTooFarDown_67 (by decide) ?_
          exact ih ((z9 + 1), v63) ls (by dsimp only; omega) (by dsimp only; omega) (lv_sub hl [0, 1, 3, 4] rfl)
        · have p54 : ¬ (((ν s_2).2.2.2.2.2.2.2.1) = (0 : Int32)) := c54
          refine lv_iconst (v := 0) hx hb d_PathCheck_isTooFarDown_57 (by decide) ?_
          refine lv_goto (tgt := 62) hx hb d_PathCheck_isTooFarDown_58 (by decide) ?_
          refine lv_iadd hx hb d_PathCheck_isTooFarDown_62 ?_
          refine lv_topi (fun v63 ev63 => ?_)
          refine lv_istore_n (lv' := [(2, .int v63), (4, .ref s_2), (3, .int (nI z9)), (0, .ref p9), (1, .int (nI k))]) hx hb d_PathCheck_isTooFarDown_63 rfl hl (by decide) rfl (fun ls hl => ?_)
          refine lv_iinc (v := nI (z9 + 1)) (lv' := [(3, .int (nI (z9 + 1))), (2, .int v63), (4, .ref s_2), (0, .ref p9), (1, .int (nI k))]) hx hb d_PathCheck_isTooFarDown_64 hl (k := 2) rfl (nI_1 _) (by decide) rfl (fun ls hl => ?_)
          refine lv_goto (tgt := 4) hx hb d_PathCheck_isTooFarDown_67 (by decide) ?_
          exact ih ((z9 + 1), v63) ls (by dsimp only; omega) (by dsimp only; omega) (lv_sub hl [0, 1, 3, 4] rfl)
      · have p34 : ¬ (((ν s_2).2.2.2.2.1) < (0 : Int32)) := c34
        refine lv_aload hx hb d_PathCheck_isTooFarDown_37 (lv_at hl 0 rfl) ?_
        refine va_get (v := .int ((ν s_2).2.2.2.2.1)) hx hb htb i_Certificate hown hK hP i_3 hg_3 rfl 12 (by decide) (htb _ q2_174) (fun _ h9 => h9) rfl d_PathCheck_isTooFarDown_39 ?_
        refine lv_iload_n hx hb d_PathCheck_isTooFarDown_42 rfl (lv_at hl 2 rfl) ?_
        refine lv_icmp_ge (tgt := 48) hx hb d_PathCheck_isTooFarDown_43 (by decide) (fun c43 => ?_) (fun c43 => ?_)
        · have p43 : x9 ≤ ((ν s_2).2.2.2.2.1) := c43
          refine lv_iload_n hx hb d_PathCheck_isTooFarDown_48 rfl (lv_at hl 2 rfl) ?_
          refine lv_aload hx hb d_PathCheck_isTooFarDown_49 (lv_at hl 0 rfl) ?_
          refine va_get (v := .int ((ν s_2).2.2.2.2.2.2.2.1)) hx hb htb i_Certificate hown hK hP i_3 hg_3 rfl 15 (by decide) (htb _ q2_181) (fun _ h9 => h9) rfl d_PathCheck_isTooFarDown_51 ?_
          refine lv_if_eq (tgt := 61) hx hb d_PathCheck_isTooFarDown_54 (by decide) (fun c54 => ?_) (fun c54 => ?_)
          · have p54 : ((ν s_2).2.2.2.2.2.2.2.1) = (0 : Int32) := c54
            refine lv_iconst (v := 1) hx hb d_PathCheck_isTooFarDown_61 (by decide) ?_
            refine lv_iadd hx hb d_PathCheck_isTooFarDown_62 ?_
            refine lv_topi (fun v63 ev63 => ?_)
            refine lv_istore_n (lv' := [(2, .int v63), (4, .ref s_2), (3, .int (nI z9)), (0, .ref p9), (1, .int (nI k))]) hx hb d_PathCheck_isTooFarDown_63 rfl hl (by decide) rfl (fun ls hl => ?_)
            refine lv_iinc (v := nI (z9 + 1)) (lv' := [(3, .int (nI (z9 + 1))), (2, .int v63), (4, .ref s_2), (0, .ref p9), (1, .int (nI k))]) hx hb d_PathCheck_isTooFarDown_64 hl (k := 2) rfl (nI_1 _) (by decide) rfl (fun ls hl => ?_)
            refine lv_goto (tgt := 4) hx hb d_PathCheck_isTooFarDown_67 (by decide) ?_
            exact ih ((z9 + 1), v63) ls (by dsimp only; omega) (by dsimp only; omega) (lv_sub hl [0, 1, 3, 4] rfl)
          · have p54 : ¬ (((ν s_2).2.2.2.2.2.2.2.1) = (0 : Int32)) := c54
            refine lv_iconst (v := 0) hx hb d_PathCheck_isTooFarDown_57 (by decide) ?_
            refine lv_goto (tgt := 62) hx hb d_PathCheck_isTooFarDown_58 (by decide) ?_
            refine lv_iadd hx hb d_PathCheck_isTooFarDown_62 ?_
            refine lv_topi (fun v63 ev63 => ?_)
            refine lv_istore_n (lv' := [(2, .int v63), (4, .ref s_2), (3, .int (nI z9)), (0, .ref p9), (1, .int (nI k))]) hx hb d_PathCheck_isTooFarDown_63 rfl hl (by decide) rfl (fun ls hl => ?_)
            refine lv_iinc (v := nI (z9 + 1)) (lv' := [(3, .int (nI (z9 + 1))), (2, .int v63), (4, .ref s_2), (0, .ref p9), (1, .int (nI k))]) hx hb d_PathCheck_isTooFarDown_64 hl (k := 2) rfl (nI_1 _) (by decide) rfl (fun ls hl => ?_)
            refine lv_goto (tgt := 4) hx hb d_PathCheck_isTooFarDown_67 (by decide) ?_
            exact ih ((z9 + 1), v63) ls (by dsimp only; omega) (by dsimp only; omega) (lv_sub hl [0, 1, 3, 4] rfl)
        · have p43 : ¬ (x9 ≤ ((ν s_2).2.2.2.2.1)) := c43
          refine lv_iconst (v := 1) hx hb d_PathCheck_isTooFarDown_46 (by decide) ?_
          exact W.zret (v := 1) hx hb hr rfl (fun t ht hW => ⟨_, rfl, bz_t rfl, ht⟩) (fun q h => by cases h) d_PathCheck_isTooFarDown_47
def y_PathCheck_faultAsIssuer : MethodName := ⟨"TrustChain$PathCheck", "faultAsIssuer", "(Ljava/util/ArrayList;I)I"⟩
abbrev b_PathCheck_faultAsIssuer : ByteArray := prog_7_method_5_code
def w_PathCheck_faultAsIssuer : List Cond := Cond.code y_PathCheck_faultAsIssuer b_PathCheck_faultAsIssuer 4 ((some FieldType.int)) :: tb
theorem d_PathCheck_faultAsIssuer_0 : decode b_PathCheck_faultAsIssuer 0 = .ok (.aload_n 1, 1) := by decide +kernel
theorem d_PathCheck_faultAsIssuer_1 : decode b_PathCheck_faultAsIssuer 1 = .ok (.iload_n 2, 1) := by decide +kernel
theorem d_PathCheck_faultAsIssuer_2 : decode b_PathCheck_faultAsIssuer 2 = .ok (.invokevirtual 36, 3) := by decide +kernel
theorem d_PathCheck_faultAsIssuer_5 : decode b_PathCheck_faultAsIssuer 5 = .ok (.checkcast 40, 3) := by decide +kernel
theorem d_PathCheck_faultAsIssuer_8 : decode b_PathCheck_faultAsIssuer 8 = .ok (.astore_n 3, 1) := by decide +kernel
theorem d_PathCheck_faultAsIssuer_9 : decode b_PathCheck_faultAsIssuer 9 = .ok (.aload_n 3, 1) := by decide +kernel
theorem d_PathCheck_faultAsIssuer_10 : decode b_PathCheck_faultAsIssuer 10 = .ok (.getfield 70, 3) := by decide +kernel
theorem d_PathCheck_faultAsIssuer_13 : decode b_PathCheck_faultAsIssuer 13 = .ok (.ifCond .ne 6, 3) := by decide +kernel
theorem d_PathCheck_faultAsIssuer_16 : decode b_PathCheck_faultAsIssuer 16 = .ok (.bipush 7, 2) := by decide +kernel
theorem d_PathCheck_faultAsIssuer_18 : decode b_PathCheck_faultAsIssuer 18 = .ok (.ireturn, 1) := by decide +kernel
theorem d_PathCheck_faultAsIssuer_19 : decode b_PathCheck_faultAsIssuer 19 = .ok (.aload_n 1, 1) := by decide +kernel
theorem d_PathCheck_faultAsIssuer_20 : decode b_PathCheck_faultAsIssuer 20 = .ok (.iload_n 2, 1) := by decide +kernel
theorem d_PathCheck_faultAsIssuer_21 : decode b_PathCheck_faultAsIssuer 21 = .ok (.invokestatic 73, 3) := by decide +kernel
theorem d_PathCheck_faultAsIssuer_24 : decode b_PathCheck_faultAsIssuer 24 = .ok (.ifCond .eq 6, 3) := by decide +kernel
theorem d_PathCheck_faultAsIssuer_27 : decode b_PathCheck_faultAsIssuer 27 = .ok (.bipush 8, 2) := by decide +kernel
theorem d_PathCheck_faultAsIssuer_29 : decode b_PathCheck_faultAsIssuer 29 = .ok (.ireturn, 1) := by decide +kernel
theorem d_PathCheck_faultAsIssuer_30 : decode b_PathCheck_faultAsIssuer 30 = .ok (.aload_n 3, 1) := by decide +kernel
theorem d_PathCheck_faultAsIssuer_31 : decode b_PathCheck_faultAsIssuer 31 = .ok (.iconst 5, 1) := by decide +kernel
theorem d_PathCheck_faultAsIssuer_32 : decode b_PathCheck_faultAsIssuer 32 = .ok (.invokevirtual 76, 3) := by decide +kernel
theorem d_PathCheck_faultAsIssuer_35 : decode b_PathCheck_faultAsIssuer 35 = .ok (.ifCond .eq 7, 3) := by decide +kernel
theorem d_PathCheck_faultAsIssuer_38 : decode b_PathCheck_faultAsIssuer 38 = .ok (.iconst 0, 1) := by decide +kernel
theorem d_PathCheck_faultAsIssuer_39 : decode b_PathCheck_faultAsIssuer 39 = .ok (.goto 5, 3) := by decide +kernel
theorem d_PathCheck_faultAsIssuer_42 : decode b_PathCheck_faultAsIssuer 42 = .ok (.bipush 9, 2) := by decide +kernel
theorem d_PathCheck_faultAsIssuer_44 : decode b_PathCheck_faultAsIssuer 44 = .ok (.ireturn, 1) := by decide +kernel
set_option maxHeartbeats 4000000 in
set_option maxRecDepth 100000 in
theorem p_PathCheck_faultAsIssuer (l : Launch) (dC : Nat → ClassId) (dI : Nat → Nat → Nat) (sb : sB) (γ : cG) (κ : kE) (Ad : List Nat) (ν : Nat → cN) (ω : Nat → List Nat) (L : Nat) (G : va_W) (h p9 : Nat) (o1 : alD) (as : List Nat) (k : Nat) (hTy : TY γ κ Ad ν ω L G) (kh : tK κ Ad h (12, 0, 0)) (kp9 : PLx γ sb κ Ad 8 p9 o1 as G) (hk : k < as.length) : Met l y_PathCheck_faultAsIssuer w_PathCheck_faultAsIssuer ({ frames := 4, cells := 0, slots := 0, locals := 88 }) (pu_P [.ref h, .ref p9, .int (nI k)] (dC, dI) sb G [(γ.1, .byte), (γ.2.1, .int), (γ.2.2.1, .long), (γ.2.2.2, .object "java/lang/Object")]) (vp_Si (fun r => True)) 0 0 (fun _ => False) := by
  refine Met.ofW (cc := b_PathCheck_faultAsIssuer) (maxL := 4) (ret := (some FieldType.int)) (by decide) rfl ?_
  intro p e s m args below meth c s₁ B hml hv
  obtain ⟨rfl, hP, hK, hN, hT0⟩ := hv
  have hx := B.exec
  have hb := B.bytes
  have hr := B.returns
  have hts := atoms_spec (ws := w_PathCheck_faultAsIssuer) B.pre
  have tbin : ∀ w ∈ tb, w ∈ w_PathCheck_faultAsIssuer := fun w h => List.mem_cons_of_mem _ h
  have htb : ∀ w ∈ tb, w.before _ s = true := fun w h => hts w (tbin w h)
  have hown : s.vm.findClass "TrustChain$PathCheck" = some m.cls := findClass_of_methodNamed B.named
  have hlocks := B.notSynchronized
  have hl := lv_entry ([.ref h, .ref p9, .int (nI k)]) (n := 4) (Nat.le_of_ble_eq_true rfl)
  rw [lg_entry_eq]
  generalize (lg_sl ([.ref h, .ref p9, .int (nI k)]) ++ List.replicate (4 - (lg_sl ([.ref h, .ref p9, .int (nI k)])).length) Slot.unset).toArray = ls at hl ⊢
  have hl : lv_has ls 4 [(0, .ref h), (1, .ref p9), (2, .int (nI k))] := hl
  refine lv_aload_n hx hb d_PathCheck_faultAsIssuer_0 rfl (lv_at hl 1 rfl) ?_
  refine lv_iload_n hx hb d_PathCheck_faultAsIssuer_1 rfl (lv_at hl 2 rfl) ?_
  obtain ⟨i_1, m_1, hK_1, hg_1⟩ := pl_size kp9
  obtain ⟨j_2, cap_2, f_2, p_2, q_2, hK_2, hc_2, hf_2, ks_2, h9_2, hq_2⟩ := pl_get kp9 (j := k) (by omega)
  obtain ⟨s_2, es_2⟩ : ∃ z, z = as.getD k 0 := ⟨_, rfl⟩
  rw [← es_2] at hf_2 ks_2
  refine va_csr (pu_callV (As := [.int (nI k)]) (rest := []) ⟨hx, hb, hml, hown, hts⟩ tbin (c_AL_get l dC dI sb p9 (alO sb o1) as.length cap_2 k s_2 m_1 γ.2.2.2 f_2 (by omega) hK_2 (by omega) hf_2) q6_51 q4_210 q4_211 q1_4 q4_212 (n := 1) (by decide +kernel) rfl ⟨rfl, rfl⟩ ⟨Nat.le_of_ble_eq_true rfl, Nat.le_of_ble_eq_true rfl⟩ ⟨Nat.le_of_ble_eq_true rfl, Nat.le_of_ble_eq_true rfl⟩ hN hT0 hK hP [i_1, j_2] (by simp only [List.filterMap_cons, List.filterMap_nil, hg_1, hq_2]) [3] rfl i_1 11 hg_1 rfl rfl hl.1 rfl (Nat.le_of_ble_eq_true rfl) d_PathCheck_faultAsIssuer_2) (fun r2 hr2 => ?_)
  obtain rfl := Eq.symm hr2
  obtain ⟨i_3, nm_3, pe_3, ec_3, se_3, su_3, mo_3, ok_3, ik_3, ha_3, si_3, en_3, bo_3, sg_3, is_3, iu_3, K_3, B_3, hg_3⟩ := ty_8 hTy ks_2
  obtain ⟨⟨A_3, knm_3⟩, ⟨B1_3, B2_3, kpe_3⟩, ⟨C1_3, C2_3, kec_3⟩, kse_3, ⟨z1_3, ksu_3⟩, ⟨z2_3, kmo_3⟩, ⟨z3_3, kok_3⟩, ⟨z4_3, kik_3⟩, kha_3, ksi_3, ken_3, ⟨z5_3, kbo_3⟩, ⟨z6_3, ksg_3⟩, ⟨z7_3, kis_3⟩⟩ := K_3
  refine va_castY (C := "TrustChain$Certificate") hx hb hown (htb _ q6_52) (hN.1 _ qn9_223) (va_recv (ci := 3) hK hP rfl hg_3) d_PathCheck_faultAsIssuer_5 ?_
  refine lv_astore_n (lv' := [(3, .ref s_2), (0, .ref h), (1, .ref p9), (2, .int (nI k))]) hx hb d_PathCheck_faultAsIssuer_8 rfl hl (by decide) rfl (fun ls hl => ?_)
  refine lv_aload_n hx hb d_PathCheck_faultAsIssuer_9 rfl (lv_at hl 0 rfl) ?_
  refine va_get (v := .int ((ν s_2).2.2.2.1)) hx hb htb i_Certificate hown hK hP i_3 hg_3 rfl 11 (by decide) (htb _ q2_170) (fun _ h9 => h9) rfl d_PathCheck_faultAsIssuer_10 ?_
  refine lv_if_ne (tgt := 19) hx hb d_PathCheck_faultAsIssuer_13 (by decide) (fun c13 => ?_) (fun c13 => ?_)
  · have p13 : ¬ (((ν s_2).2.2.2.1) = (0 : Int32)) := c13
    refine lv_aload_n hx hb d_PathCheck_faultAsIssuer_19 rfl (lv_at hl 2 rfl) ?_
    refine lv_iload_n hx hb d_PathCheck_faultAsIssuer_20 rfl (lv_at hl 3 rfl) ?_
    refine vp_callSi (pu_callS (As := [.ref p9, .int (nI k)]) (rest := []) ⟨hx, hb, hml, hown, hts⟩ tbin (p_PathCheck_isTooFarDown l dC dI sb γ κ Ad ν ω L G p9 _ _ _ hTy kp9 (by omega)) q6_119 q6_120 q1_8 q6_121 (n := 2) (by decide +kernel) rfl ⟨rfl, rfl⟩ ⟨Nat.le_of_ble_eq_true rfl, Nat.le_of_ble_eq_true rfl⟩ ⟨Nat.le_of_ble_eq_true rfl, Nat.le_of_ble_eq_true rfl⟩ hN hT0 hK hP (List.range G.length) (rg_all G) [0, 1, 2, 3] rfl hl.1 rfl (Nat.le_of_ble_eq_true rfl) d_PathCheck_faultAsIssuer_21) (fun r21 hr21 => ?_)
    refine lv_if_eq (tgt := 30) hx hb d_PathCheck_faultAsIssuer_24 (by decide) (fun c24 => ?_) (fun c24 => ?_)
    · have p24 : r21 = (0 : Int32) := c24
      refine lv_aload_n hx hb d_PathCheck_faultAsIssuer_30 rfl (lv_at hl 0 rfl) ?_
      refine lv_iconst (v := 5) hx hb d_PathCheck_faultAsIssuer_31 (by decide) ?_
      refine vp_callSi (pu_callV (As := [.int 5]) (rest := []) ⟨hx, hb, hml, hown, hts⟩ tbin (p_Certificate_mayUse l dC dI sb γ κ Ad ν ω L G s_2 _ _ _ hTy ks_2 ) q6_66 q6_67 q6_68 q1_21 q6_69 (n := 1) (by decide +kernel) rfl ⟨rfl, rfl⟩ ⟨Nat.le_of_ble_eq_true rfl, Nat.le_of_ble_eq_true rfl⟩ ⟨Nat.le_of_ble_eq_true rfl, Nat.le_of_ble_eq_true rfl⟩ hN hT0 hK hP (List.range G.length) (rg_all G) [0, 1, 2, 3] rfl i_3 3 hg_3 rfl rfl hl.1 rfl (Nat.le_of_ble_eq_true rfl) d_PathCheck_faultAsIssuer_32) (fun r32 hr32 => ?_)
      refine lv_if_eq (tgt := 42) hx hb d_PathCheck_faultAsIssuer_35 (by decide) (fun c35 => ?_) (fun c35 => ?_)
      · have p35 : r32 = (0 : Int32) := c35
        refine lv_bipush (v := 9) hx hb d_PathCheck_faultAsIssuer_42 (by decide) ?_
        exact W.iret (v := 9) hx hb hr (fun t ht hW => ⟨_, rfl, trivial, ht⟩) (fun q h => by cases h) d_PathCheck_faultAsIssuer_44
      · have p35 : ¬ (r32 = (0 : Int32)) := c35
        refine lv_iconst (v := 0) hx hb d_PathCheck_faultAsIssuer_38 (by decide) ?_
        refine lv_goto (tgt := 44) hx hb d_PathCheck_faultAsIssuer_39 (by decide) ?_
        exact W.iret (v := 0) hx hb hr (fun t ht hW => ⟨_, rfl, trivial, ht⟩) (fun q h => by cases h) d_PathCheck_faultAsIssuer_44
    · have p24 : ¬ (r21 = (0 : Int32)) := c24
      refine lv_bipush (v := 8) hx hb d_PathCheck_faultAsIssuer_27 (by decide) ?_
      exact W.iret (v := 8) hx hb hr (fun t ht hW => ⟨_, rfl, trivial, ht⟩) (fun q h => by cases h) d_PathCheck_faultAsIssuer_29
  · have p13 : ((ν s_2).2.2.2.1) = (0 : Int32) := c13
    refine lv_bipush (v := 7) hx hb d_PathCheck_faultAsIssuer_16 (by decide) ?_
    exact W.iret (v := 7) hx hb hr (fun t ht hW => ⟨_, rfl, trivial, ht⟩) (fun q h => by cases h) d_PathCheck_faultAsIssuer_18
def y_PathCheck_isNameAllowed : MethodName := ⟨"TrustChain$PathCheck", "isNameAllowed", "(Ljava/util/ArrayList;I)Z"⟩
abbrev b_PathCheck_isNameAllowed : ByteArray := prog_7_method_7_code
def w_PathCheck_isNameAllowed : List Cond := Cond.code y_PathCheck_isNameAllowed b_PathCheck_isNameAllowed 6 ((some FieldType.boolean)) :: tb
theorem d_PathCheck_isNameAllowed_0 : decode b_PathCheck_isNameAllowed 0 = .ok (.aload_n 0, 1) := by decide +kernel
theorem d_PathCheck_isNameAllowed_1 : decode b_PathCheck_isNameAllowed 1 = .ok (.iload_n 1, 1) := by decide +kernel
theorem d_PathCheck_isNameAllowed_2 : decode b_PathCheck_isNameAllowed 2 = .ok (.invokevirtual 36, 3) := by decide +kernel
theorem d_PathCheck_isNameAllowed_5 : decode b_PathCheck_isNameAllowed 5 = .ok (.checkcast 40, 3) := by decide +kernel
theorem d_PathCheck_isNameAllowed_8 : decode b_PathCheck_isNameAllowed 8 = .ok (.astore_n 2, 1) := by decide +kernel
theorem d_PathCheck_isNameAllowed_9 : decode b_PathCheck_isNameAllowed 9 = .ok (.aload_n 0, 1) := by decide +kernel
theorem d_PathCheck_isNameAllowed_10 : decode b_PathCheck_isNameAllowed 10 = .ok (.invokevirtual 26, 3) := by decide +kernel
theorem d_PathCheck_isNameAllowed_13 : decode b_PathCheck_isNameAllowed 13 = .ok (.iconst 2, 1) := by decide +kernel
theorem d_PathCheck_isNameAllowed_14 : decode b_PathCheck_isNameAllowed 14 = .ok (.isub, 1) := by decide +kernel
theorem d_PathCheck_isNameAllowed_15 : decode b_PathCheck_isNameAllowed 15 = .ok (.istore_n 3, 1) := by decide +kernel
theorem d_PathCheck_isNameAllowed_16 : decode b_PathCheck_isNameAllowed 16 = .ok (.iload_n 3, 1) := by decide +kernel
theorem d_PathCheck_isNameAllowed_17 : decode b_PathCheck_isNameAllowed 17 = .ok (.iload_n 1, 1) := by decide +kernel
theorem d_PathCheck_isNameAllowed_18 : decode b_PathCheck_isNameAllowed 18 = .ok (.if_icmp .le 138, 3) := by decide +kernel
theorem d_PathCheck_isNameAllowed_21 : decode b_PathCheck_isNameAllowed 21 = .ok (.aload_n 0, 1) := by decide +kernel
theorem d_PathCheck_isNameAllowed_22 : decode b_PathCheck_isNameAllowed 22 = .ok (.iload_n 3, 1) := by decide +kernel
theorem d_PathCheck_isNameAllowed_23 : decode b_PathCheck_isNameAllowed 23 = .ok (.invokevirtual 36, 3) := by decide +kernel
theorem d_PathCheck_isNameAllowed_26 : decode b_PathCheck_isNameAllowed 26 = .ok (.checkcast 40, 3) := by decide +kernel
theorem d_PathCheck_isNameAllowed_29 : decode b_PathCheck_isNameAllowed 29 = .ok (.astore 4, 2) := by decide +kernel
theorem d_PathCheck_isNameAllowed_31 : decode b_PathCheck_isNameAllowed 31 = .ok (.aload_n 2, 1) := by decide +kernel
theorem d_PathCheck_isNameAllowed_32 : decode b_PathCheck_isNameAllowed 32 = .ok (.getfield 101, 3) := by decide +kernel
theorem d_PathCheck_isNameAllowed_35 : decode b_PathCheck_isNameAllowed 35 = .ok (.ifCond .le 17, 3) := by decide +kernel
theorem d_PathCheck_isNameAllowed_38 : decode b_PathCheck_isNameAllowed 38 = .ok (.aload 4, 2) := by decide +kernel
theorem d_PathCheck_isNameAllowed_40 : decode b_PathCheck_isNameAllowed 40 = .ok (.aload_n 2, 1) := by decide +kernel
theorem d_PathCheck_isNameAllowed_41 : decode b_PathCheck_isNameAllowed 41 = .ok (.getfield 104, 3) := by decide +kernel
theorem d_PathCheck_isNameAllowed_44 : decode b_PathCheck_isNameAllowed 44 = .ok (.invokevirtual 107, 3) := by decide +kernel
theorem d_PathCheck_isNameAllowed_47 : decode b_PathCheck_isNameAllowed 47 = .ok (.ifCond .ne 5, 3) := by decide +kernel
theorem d_PathCheck_isNameAllowed_50 : decode b_PathCheck_isNameAllowed 50 = .ok (.iconst 0, 1) := by decide +kernel
theorem d_PathCheck_isNameAllowed_51 : decode b_PathCheck_isNameAllowed 51 = .ok (.ireturn, 1) := by decide +kernel
theorem d_PathCheck_isNameAllowed_52 : decode b_PathCheck_isNameAllowed 52 = .ok (.iconst 0, 1) := by decide +kernel
theorem d_PathCheck_isNameAllowed_53 : decode b_PathCheck_isNameAllowed 53 = .ok (.istore 5, 2) := by decide +kernel
theorem d_PathCheck_isNameAllowed_55 : decode b_PathCheck_isNameAllowed 55 = .ok (.iload 5, 2) := by decide +kernel
theorem d_PathCheck_isNameAllowed_57 : decode b_PathCheck_isNameAllowed 57 = .ok (.aload_n 2, 1) := by decide +kernel
theorem d_PathCheck_isNameAllowed_58 : decode b_PathCheck_isNameAllowed 58 = .ok (.getfield 110, 3) := by decide +kernel
theorem d_PathCheck_isNameAllowed_61 : decode b_PathCheck_isNameAllowed 61 = .ok (.getfield 114, 3) := by decide +kernel
theorem d_PathCheck_isNameAllowed_64 : decode b_PathCheck_isNameAllowed 64 = .ok (.invokevirtual 26, 3) := by decide +kernel
theorem d_PathCheck_isNameAllowed_67 : decode b_PathCheck_isNameAllowed 67 = .ok (.if_icmp .ge 34, 3) := by decide +kernel
theorem d_PathCheck_isNameAllowed_70 : decode b_PathCheck_isNameAllowed 70 = .ok (.aload 4, 2) := by decide +kernel
theorem d_PathCheck_isNameAllowed_72 : decode b_PathCheck_isNameAllowed 72 = .ok (.aload_n 2, 1) := by decide +kernel
theorem d_PathCheck_isNameAllowed_73 : decode b_PathCheck_isNameAllowed 73 = .ok (.getfield 110, 3) := by decide +kernel
theorem d_PathCheck_isNameAllowed_76 : decode b_PathCheck_isNameAllowed 76 = .ok (.getfield 114, 3) := by decide +kernel
theorem d_PathCheck_isNameAllowed_79 : decode b_PathCheck_isNameAllowed 79 = .ok (.iload 5, 2) := by decide +kernel
theorem d_PathCheck_isNameAllowed_81 : decode b_PathCheck_isNameAllowed 81 = .ok (.invokevirtual 36, 3) := by decide +kernel
theorem d_PathCheck_isNameAllowed_84 : decode b_PathCheck_isNameAllowed 84 = .ok (.checkcast 90, 3) := by decide +kernel
theorem d_PathCheck_isNameAllowed_87 : decode b_PathCheck_isNameAllowed 87 = .ok (.invokevirtual 107, 3) := by decide +kernel
theorem d_PathCheck_isNameAllowed_90 : decode b_PathCheck_isNameAllowed 90 = .ok (.ifCond .ne 5, 3) := by decide +kernel
theorem d_PathCheck_isNameAllowed_93 : decode b_PathCheck_isNameAllowed 93 = .ok (.iconst 0, 1) := by decide +kernel
theorem d_PathCheck_isNameAllowed_94 : decode b_PathCheck_isNameAllowed 94 = .ok (.ireturn, 1) := by decide +kernel
theorem d_PathCheck_isNameAllowed_95 : decode b_PathCheck_isNameAllowed 95 = .ok (.iinc 5 1, 3) := by decide +kernel
theorem d_PathCheck_isNameAllowed_98 : decode b_PathCheck_isNameAllowed 98 = .ok (.goto (-43), 3) := by decide +kernel
theorem d_PathCheck_isNameAllowed_101 : decode b_PathCheck_isNameAllowed 101 = .ok (.iconst 0, 1) := by decide +kernel
theorem d_PathCheck_isNameAllowed_102 : decode b_PathCheck_isNameAllowed 102 = .ok (.istore 5, 2) := by decide +kernel
theorem d_PathCheck_isNameAllowed_104 : decode b_PathCheck_isNameAllowed 104 = .ok (.iload 5, 2) := by decide +kernel
theorem d_PathCheck_isNameAllowed_106 : decode b_PathCheck_isNameAllowed 106 = .ok (.aload_n 2, 1) := by decide +kernel
theorem d_PathCheck_isNameAllowed_107 : decode b_PathCheck_isNameAllowed 107 = .ok (.getfield 110, 3) := by decide +kernel
theorem d_PathCheck_isNameAllowed_110 : decode b_PathCheck_isNameAllowed 110 = .ok (.getfield 120, 3) := by decide +kernel
theorem d_PathCheck_isNameAllowed_113 : decode b_PathCheck_isNameAllowed 113 = .ok (.invokevirtual 26, 3) := by decide +kernel
theorem d_PathCheck_isNameAllowed_116 : decode b_PathCheck_isNameAllowed 116 = .ok (.if_icmp .ge 34, 3) := by decide +kernel
theorem d_PathCheck_isNameAllowed_119 : decode b_PathCheck_isNameAllowed 119 = .ok (.aload 4, 2) := by decide +kernel
theorem d_PathCheck_isNameAllowed_121 : decode b_PathCheck_isNameAllowed 121 = .ok (.aload_n 2, 1) := by decide +kernel
theorem d_PathCheck_isNameAllowed_122 : decode b_PathCheck_isNameAllowed 122 = .ok (.getfield 110, 3) := by decide +kernel
theorem d_PathCheck_isNameAllowed_125 : decode b_PathCheck_isNameAllowed 125 = .ok (.getfield 120, 3) := by decide +kernel
theorem d_PathCheck_isNameAllowed_128 : decode b_PathCheck_isNameAllowed 128 = .ok (.iload 5, 2) := by decide +kernel
theorem d_PathCheck_isNameAllowed_130 : decode b_PathCheck_isNameAllowed 130 = .ok (.invokevirtual 36, 3) := by decide +kernel
theorem d_PathCheck_isNameAllowed_133 : decode b_PathCheck_isNameAllowed 133 = .ok (.checkcast 90, 3) := by decide +kernel
theorem d_PathCheck_isNameAllowed_136 : decode b_PathCheck_isNameAllowed 136 = .ok (.invokevirtual 123, 3) := by decide +kernel
theorem d_PathCheck_isNameAllowed_139 : decode b_PathCheck_isNameAllowed 139 = .ok (.ifCond .ne 5, 3) := by decide +kernel
theorem d_PathCheck_isNameAllowed_142 : decode b_PathCheck_isNameAllowed 142 = .ok (.iconst 0, 1) := by decide +kernel
theorem d_PathCheck_isNameAllowed_143 : decode b_PathCheck_isNameAllowed 143 = .ok (.ireturn, 1) := by decide +kernel
theorem d_PathCheck_isNameAllowed_144 : decode b_PathCheck_isNameAllowed 144 = .ok (.iinc 5 1, 3) := by decide +kernel
theorem d_PathCheck_isNameAllowed_147 : decode b_PathCheck_isNameAllowed 147 = .ok (.goto (-43), 3) := by decide +kernel
theorem d_PathCheck_isNameAllowed_150 : decode b_PathCheck_isNameAllowed 150 = .ok (.iinc 3 (-1), 3) := by decide +kernel
theorem d_PathCheck_isNameAllowed_153 : decode b_PathCheck_isNameAllowed 153 = .ok (.goto (-137), 3) := by decide +kernel
theorem d_PathCheck_isNameAllowed_156 : decode b_PathCheck_isNameAllowed 156 = .ok (.iconst 1, 1) := by decide +kernel
theorem d_PathCheck_isNameAllowed_157 : decode b_PathCheck_isNameAllowed 157 = .ok (.ireturn, 1) := by decide +kernel
set_option maxHeartbeats 4000000 in
set_option maxRecDepth 100000 in
theorem p_PathCheck_isNameAllowed (l : Launch) (dC : Nat → ClassId) (dI : Nat → Nat → Nat) (sb : sB) (γ : cG) (κ : kE) (Ad : List Nat) (ν : Nat → cN) (ω : Nat → List Nat) (L : Nat) (G : va_W) (p9 : Nat) (o1 : alD) (as : List Nat) (k : Nat) (hTy : TY γ κ Ad ν ω L G) (kp9 : PLx γ sb κ Ad 8 p9 o1 as G) (hk : k + 1 < as.length) : Met l y_PathCheck_isNameAllowed w_PathCheck_isNameAllowed ({ frames := 5, cells := 0, slots := 0, locals := 111 }) (pu_P [.ref p9, .int (nI k)] (dC, dI) sb G [(γ.1, .byte), (γ.2.1, .int), (γ.2.2.1, .long), (γ.2.2.2, .object "java/lang/Object")]) (vp_Si (fun r => bz r (r = 1))) 0 0 (fun _ => False) := by
  refine Met.ofW (cc := b_PathCheck_isNameAllowed) (maxL := 6) (ret := (some FieldType.boolean)) (by decide) rfl ?_
  intro p e s m args below meth c s₁ B hml hv
  obtain ⟨rfl, hP, hK, hN, hT0⟩ := hv
  have hx := B.exec
  have hb := B.bytes
  have hr := B.returns
  have hts := atoms_spec (ws := w_PathCheck_isNameAllowed) B.pre
  have tbin : ∀ w ∈ tb, w ∈ w_PathCheck_isNameAllowed := fun w h => List.mem_cons_of_mem _ h
  have htb : ∀ w ∈ tb, w.before _ s = true := fun w h => hts w (tbin w h)
  have hown : s.vm.findClass "TrustChain$PathCheck" = some m.cls := findClass_of_methodNamed B.named
  have hlocks := B.notSynchronized
  have hl := lv_entry ([.ref p9, .int (nI k)]) (n := 6) (Nat.le_of_ble_eq_true rfl)
  rw [lg_entry_eq]
  generalize (lg_sl ([.ref p9, .int (nI k)]) ++ List.replicate (6 - (lg_sl ([.ref p9, .int (nI k)])).length) Slot.unset).toArray = ls at hl ⊢
  have hl : lv_has ls 6 [(0, .ref p9), (1, .int (nI k))] := hl
  refine lv_aload_n hx hb d_PathCheck_isNameAllowed_0 rfl (lv_at hl 0 rfl) ?_
  refine lv_iload_n hx hb d_PathCheck_isNameAllowed_1 rfl (lv_at hl 1 rfl) ?_
  obtain ⟨i_1, m_1, hK_1, hg_1⟩ := pl_size kp9
  obtain ⟨j_2, cap_2, f_2, p_2, q_2, hK_2, hc_2, hf_2, ks_2, h9_2, hq_2⟩ := pl_get kp9 (j := k) (by omega)
  obtain ⟨s_2, es_2⟩ : ∃ z, z = as.getD k 0 := ⟨_, rfl⟩
  rw [← es_2] at hf_2 ks_2
  refine va_csr (pu_callV (As := [.int (nI k)]) (rest := []) ⟨hx, hb, hml, hown, hts⟩ tbin (c_AL_get l dC dI sb p9 (alO sb o1) as.length cap_2 k s_2 m_1 γ.2.2.2 f_2 (by omega) hK_2 (by omega) hf_2) q6_51 q4_210 q4_211 q1_4 q4_212 (n := 1) (by decide +kernel) rfl ⟨rfl, rfl⟩ ⟨Nat.le_of_ble_eq_true rfl, Nat.le_of_ble_eq_true rfl⟩ ⟨Nat.le_of_ble_eq_true rfl, Nat.le_of_ble_eq_true rfl⟩ hN hT0 hK hP [i_1, j_2] (by simp only [List.filterMap_cons, List.filterMap_nil, hg_1, hq_2]) [3] rfl i_1 11 hg_1 rfl rfl hl.1 rfl (Nat.le_of_ble_eq_true rfl) d_PathCheck_isNameAllowed_2) (fun r2 hr2 => ?_)
  obtain rfl := Eq.symm hr2
  obtain ⟨i_3, nm_3, pe_3, ec_3, se_3, su_3, mo_3, ok_3, ik_3, ha_3, si_3, en_3, bo_3, sg_3, is_3, iu_3, K_3, B_3, hg_3⟩ := ty_8 hTy ks_2
  obtain ⟨⟨A_3, knm_3⟩, ⟨B1_3, B2_3, kpe_3⟩, ⟨C1_3, C2_3, kec_3⟩, kse_3, ⟨z1_3, ksu_3⟩, ⟨z2_3, kmo_3⟩, ⟨z3_3, kok_3⟩, ⟨z4_3, kik_3⟩, kha_3, ksi_3, ken_3, ⟨z5_3, kbo_3⟩, ⟨z6_3, ksg_3⟩, ⟨z7_3, kis_3⟩⟩ := K_3
  refine va_castY (C := "TrustChain$Certificate") hx hb hown (htb _ q6_52) (hN.1 _ qn9_223) (va_recv (ci := 3) hK hP rfl hg_3) d_PathCheck_isNameAllowed_5 ?_
  refine lv_astore_n (lv' := [(2, .ref s_2), (0, .ref p9), (1, .int (nI k))]) hx hb d_PathCheck_isNameAllowed_8 rfl hl (by decide) rfl (fun ls hl => ?_)
  refine lv_aload_n hx hb d_PathCheck_isNameAllowed_9 rfl (lv_at hl 1 rfl) ?_
  refine vp_callSi (pu_callV (As := []) (rest := []) ⟨hx, hb, hml, hown, hts⟩ tbin (c_AL_size l dC dI sb p9 (alO sb o1) as.length m_1) q6_46 q2_54 q2_55 q1_4 q2_56 (n := 0) (by decide +kernel) rfl ⟨rfl, rfl⟩ ⟨Nat.le_of_ble_eq_true rfl, Nat.le_of_ble_eq_true rfl⟩ ⟨Nat.le_of_ble_eq_true rfl, Nat.le_of_ble_eq_true rfl⟩ hN hT0 hK hP [i_1] (by simp only [List.filterMap_cons, List.filterMap_nil, hg_1]) [] rfl i_1 11 hg_1 rfl rfl hl.1 rfl (Nat.le_of_ble_eq_true rfl) d_PathCheck_isNameAllowed_10) (fun r10 hr10 => ?_)
  subst hr10
  refine lv_iconst (v := 2) hx hb d_PathCheck_isNameAllowed_13 (by decide) ?_
  refine lv_isub hx hb d_PathCheck_isNameAllowed_14 ?_
  rw [show ((nI as.length) - 2 : Int32) = nI (as.length - 2) from pk_sub (a := as.length) (b := 2) (by omega)]
  refine lv_istore_n (lv' := [(3, .int (nI (as.length - 2))), (2, .ref s_2), (0, .ref p9), (1, .int (nI k))]) hx hb d_PathCheck_isNameAllowed_15 rfl hl (by decide) rfl (fun ls hl => ?_)
  refine w_loop (α := Nat) (fun a9 => a9 < as.length) (fun a9 => a9) (fun a9 => [(3, .int (nI a9)), (2, .ref s_2), (0, .ref p9), (1, .int (nI k))]) (fun _ => []) 6 16 (fun z16 ls hJ hl ih16 => ?_) (as.length - 2) ls (by omega) (lv_sub hl [0, 1, 2, 3] rfl)
  refine lv_iload_n hx hb d_PathCheck_isNameAllowed_16 rfl (lv_at hl 0 rfl) ?_
  refine lv_iload_n hx hb d_PathCheck_isNameAllowed_17 rfl (lv_at hl 3 rfl) ?_
  refine lv_icmp_le (tgt := 156) hx hb d_PathCheck_isNameAllowed_18 (by decide) (fun c18 => ?_) (fun c18 => ?_)
  · have p18 : z16 ≤ k := ((nI_leI (a := z16) (b := k) (by omega) (by omega)).mp c18)
    refine lv_iconst (v := 1) hx hb d_PathCheck_isNameAllowed_156 (by decide) ?_
    exact W.zret (v := 1) hx hb hr rfl (fun t ht hW => ⟨_, rfl, bz_t rfl, ht⟩) (fun q h => by cases h) d_PathCheck_isNameAllowed_157
  · have p18 : ¬ (z16 ≤ k) := (fun q9 => c18 ((nI_leI (a := z16) (b := k) (by omega) (by omega)).mpr q9))
    refine lv_aload_n hx hb d_PathCheck_isNameAllowed_21 rfl (lv_at hl 2 rfl) ?_
    refine lv_iload_n hx hb d_PathCheck_isNameAllowed_22 rfl (lv_at hl 0 rfl) ?_
    obtain ⟨j_4, cap_4, f_4, p_4, q_4, hK_4, hc_4, hf_4, ks_4, h9_4, hq_4⟩ := pl_get kp9 (j := z16) (by omega)
    obtain ⟨s_4, es_4⟩ : ∃ z, z = as.getD z16 0 := ⟨_, rfl⟩
    rw [← es_4] at hf_4 ks_4
    refine va_csr (pu_callV (As := [.int (nI z16)]) (rest := []) ⟨hx, hb, hml, hown, hts⟩ tbin (c_AL_get l dC dI sb p9 (alO sb o1) as.length cap_4 z16 s_4 m_1 γ.2.2.2 f_4 (by omega) hK_4 (by omega) hf_4) q6_51 q4_210 q4_211 q1_4 q4_212 (n := 1) (by decide +kernel) rfl ⟨rfl, rfl⟩ ⟨Nat.le_of_ble_eq_true rfl, Nat.le_of_ble_eq_true rfl⟩ ⟨Nat.le_of_ble_eq_true rfl, Nat.le_of_ble_eq_true rfl⟩ hN hT0 hK hP [i_1, j_4] (by simp only [List.filterMap_cons, List.filterMap_nil, hg_1, hq_4]) [3] rfl i_1 11 hg_1 rfl rfl hl.1 rfl (Nat.le_of_ble_eq_true rfl) d_PathCheck_isNameAllowed_23) (fun r23 hr23 => ?_)
    obtain rfl := Eq.symm hr23
    obtain ⟨i_5, nm_5, pe_5, ec_5, se_5, su_5, mo_5, ok_5, ik_5, ha_5, si_5, en_5, bo_5, sg_5, is_5, iu_5, K_5, B_5, hg_5⟩ := ty_8 hTy ks_4
    obtain ⟨⟨A_5, knm_5⟩, ⟨B1_5, B2_5, kpe_5⟩, ⟨C1_5, C2_5, kec_5⟩, kse_5, ⟨z1_5, ksu_5⟩, ⟨z2_5, kmo_5⟩, ⟨z3_5, kok_5⟩, ⟨z4_5, kik_5⟩, kha_5, ksi_5, ken_5, ⟨z5_5, kbo_5⟩, ⟨z6_5, ksg_5⟩, ⟨z7_5, kis_5⟩⟩ := K_5
    refine va_castY (C := "TrustChain$Certificate") hx hb hown (htb _ q6_52) (hN.1 _ qn9_223) (va_recv (ci := 3) hK hP rfl hg_5) d_PathCheck_isNameAllowed_26 ?_
    refine lv_astore (lv' := [(4, .ref s_4), (3, .int (nI z16)), (2, .ref s_2), (0, .ref p9), (1, .int (nI k))]) hx hb d_PathCheck_isNameAllowed_29 hl (by decide) rfl (fun ls hl => ?_)
    refine lv_aload_n hx hb d_PathCheck_isNameAllowed_31 rfl (lv_at hl 2 rfl) ?_
    refine va_get (v := .int ((ν s_2).1)) hx hb htb i_Certificate hown hK hP i_3 hg_3 rfl 8 (by decide) (htb _ q2_162) (fun _ h9 => h9) rfl d_PathCheck_isNameAllowed_32 ?_
    refine lv_if_le (tgt := 52) hx hb d_PathCheck_isNameAllowed_35 (by decide) (fun c35 => ?_) (fun c35 => ?_)
    · have p35 : ((ν s_2).1) ≤ (0 : Int32) := c35
      refine lv_iconst (v := 0) hx hb d_PathCheck_isNameAllowed_52 (by decide) ?_
      refine lv_istore (lv' := [(5, .int 0), (4, .ref s_4), (3, .int (nI z16)), (2, .ref s_2), (0, .ref p9), (1, .int (nI k))]) hx hb d_PathCheck_isNameAllowed_53 hl (by decide) rfl (fun ls hl => ?_)
      refine w_loop (α := Nat) (fun z9 => z9 ≤ A_3) (fun z9 => A_3 - z9) (fun z9 => [(5, .int (nI z9)), (4, .ref s_4), (3, .int (nI z16)), (2, .ref s_2), (0, .ref p9), (1, .int (nI k))]) (fun _ => []) 6 55 (fun z9 ls hJ hl ih => ?_) 0 ls (by omega) (lv_sub hl [0, 1, 2, 3, 4, 5] rfl)
      refine lv_iload hx hb d_PathCheck_isNameAllowed_55 (lv_at hl 0 rfl) ?_
      refine lv_aload_n hx hb d_PathCheck_isNameAllowed_57 rfl (lv_at hl 3 rfl) ?_
      refine va_get (v := .ref nm_3) hx hb htb i_Certificate hown hK hP i_3 hg_3 rfl 0 (by decide) (htb _ q2_140) (fun _ h9 => h9) rfl d_PathCheck_isNameAllowed_58 ?_
      obtain ⟨i_6, l_6, d_6, kl_6, kd_6, hg_6⟩ := ty_5 hTy knm_3
      refine va_getN (v := .ref d_6) hx hb htb i_NameSet hown hK hP i_6 hg_6 rfl 1 (by decide) (va_Nw.use rfl (hN.1 _ qn2_132)) (fun _ h9 => h9) rfl d_PathCheck_isNameAllowed_61 ?_
      obtain ⟨i_7, q_7, m_7, hK_7, he_7, hg_7⟩ := ty_4 hTy kd_6
      refine vp_callSi (pu_callV (As := []) (rest := [.int (nI z9)]) ⟨hx, hb, hml, hown, hts⟩ tbin (c_AL_size l dC dI sb d_6 q_7 A_3 m_7) q6_46 q2_54 q2_55 q1_4 q2_56 (n := 0) (by decide +kernel) rfl ⟨rfl, rfl⟩ ⟨Nat.le_of_ble_eq_true rfl, Nat.le_of_ble_eq_true rfl⟩ ⟨Nat.le_of_ble_eq_true rfl, Nat.le_of_ble_eq_true rfl⟩ hN hT0 hK hP [i_7] (by simp only [List.filterMap_cons, List.filterMap_nil, hg_7]) [] rfl i_7 11 hg_7 rfl rfl hl.1 rfl (Nat.le_of_ble_eq_true rfl) d_PathCheck_isNameAllowed_64) (fun r64 hr64 => ?_)
      subst hr64
      refine lv_icmp_ge (tgt := 101) hx hb d_PathCheck_isNameAllowed_67 (by decide) (fun c67 => ?_) (fun c67 => ?_)
      · have p67 : A_3 ≤ z9 := ((nI_leI (a := A_3) (b := z9) (by omega) (by omega)).mp c67)
        refine lv_iconst (v := 0) hx hb d_PathCheck_isNameAllowed_101 (by decide) ?_
        refine lv_istore (lv' := [(5, .int 0), (4, .ref s_4), (3, .int (nI z16)), (2, .ref s_2), (0, .ref p9), (1, .int (nI k))]) hx hb d_PathCheck_isNameAllowed_102 hl (by decide) rfl (fun ls hl => ?_)
        refine w_loop (α := Nat) (fun z9 => z9 ≤ p_2) (fun z9 => p_2 - z9) (fun z9 => [(5, .int (nI z9)), (4, .ref s_4), (3, .int (nI z16)), (2, .ref s_2), (0, .ref p9), (1, .int (nI k))]) (fun _ => []) 6 104 (fun z9 ls hJ hl ih => ?_) 0 ls (by omega) (lv_sub hl [0, 1, 2, 3, 4, 5] rfl)
        refine lv_iload hx hb d_PathCheck_isNameAllowed_104 (lv_at hl 0 rfl) ?_
        refine lv_aload_n hx hb d_PathCheck_isNameAllowed_106 rfl (lv_at hl 3 rfl) ?_
        refine va_get (v := .ref nm_3) hx hb htb i_Certificate hown hK hP i_3 hg_3 rfl 0 (by decide) (htb _ q2_140) (fun _ h9 => h9) rfl d_PathCheck_isNameAllowed_107 ?_
        refine va_getN (v := .ref l_6) hx hb htb i_NameSet hown hK hP i_6 hg_6 rfl 0 (by decide) (va_Nw.use rfl (hN.1 _ qn2_128)) (fun _ h9 => h9) rfl d_PathCheck_isNameAllowed_110 ?_
        obtain ⟨i_8, q_8, m_8, hK_8, he_8, hg_8⟩ := ty_4 hTy kl_6
        refine vp_callSi (pu_callV (As := []) (rest := [.int (nI z9)]) ⟨hx, hb, hml, hown, hts⟩ tbin (c_AL_size l dC dI sb l_6 q_8 p_2 m_8) q6_46 q2_54 q2_55 q1_4 q2_56 (n := 0) (by decide +kernel) rfl ⟨rfl, rfl⟩ ⟨Nat.le_of_ble_eq_true rfl, Nat.le_of_ble_eq_true rfl⟩ ⟨Nat.le_of_ble_eq_true rfl, Nat.le_of_ble_eq_true rfl⟩ hN hT0 hK hP [i_8] (by simp only [List.filterMap_cons, List.filterMap_nil, hg_8]) [] rfl i_8 11 hg_8 rfl rfl hl.1 rfl (Nat.le_of_ble_eq_true rfl) d_PathCheck_isNameAllowed_113) (fun r113 hr113 => ?_)
        subst hr113
        refine lv_icmp_ge (tgt := 150) hx hb d_PathCheck_isNameAllowed_116 (by decide) (fun c116 => ?_) (fun c116 => ?_)
        · have p116 : p_2 ≤ z9 := ((nI_leI (a := p_2) (b := z9) (by omega) (by omega)).mp c116)
          refine lv_iinc (v := nI (z16 - 1)) (lv' := [(3, .int (nI (z16 - 1))), (5, .int (nI z9)), (4, .ref s_4), (2, .ref s_2), (0, .ref p9), (1, .int (nI k))]) hx hb d_PathCheck_isNameAllowed_150 hl (k := 2) rfl (nI_m1 (by omega)) (by decide) rfl (fun ls hl => ?_)
          refine lv_goto (tgt := 16) hx hb d_PathCheck_isNameAllowed_153 (by decide) ?_
          exact ih16 (z16 - 1) ls (by omega) (by omega) (lv_sub hl [0, 3, 4, 5] rfl)
        · have p116 : ¬ (p_2 ≤ z9) := (fun q9 => c116 ((nI_leI (a := p_2) (b := z9) (by omega) (by omega)).mpr q9))
          refine lv_aload hx hb d_PathCheck_isNameAllowed_119 (lv_at hl 1 rfl) ?_
          refine lv_aload_n hx hb d_PathCheck_isNameAllowed_121 rfl (lv_at hl 3 rfl) ?_
          refine va_get (v := .ref nm_3) hx hb htb i_Certificate hown hK hP i_3 hg_3 rfl 0 (by decide) (htb _ q2_140) (fun _ h9 => h9) rfl d_PathCheck_isNameAllowed_122 ?_
          refine va_getN (v := .ref l_6) hx hb htb i_NameSet hown hK hP i_6 hg_6 rfl 0 (by decide) (va_Nw.use rfl (hN.1 _ qn2_128)) (fun _ h9 => h9) rfl d_PathCheck_isNameAllowed_125 ?_
          refine lv_iload hx hb d_PathCheck_isNameAllowed_128 (lv_at hl 0 rfl) ?_
          obtain ⟨cap_9, kq_9⟩ := he_8 (by omega)
          obtain ⟨i_10, f_10, hK_10, hc_10, he_10, hg_10⟩ := ty_3 hTy kq_9
          obtain ⟨s_9, len_9, hf_9, ks_9⟩ := he_10 z9 (by omega)
          refine va_csr (pu_callV (As := [.int (nI z9)]) (rest := [.ref s_4]) ⟨hx, hb, hml, hown, hts⟩ tbin (c_AL_get l dC dI sb l_6 q_8 p_2 cap_9 z9 s_9 m_8 γ.2.2.2 f_10 (by omega) hK_10 (by omega) hf_9) q6_51 q4_210 q4_211 q1_4 q4_212 (n := 1) (by decide +kernel) rfl ⟨rfl, rfl⟩ ⟨Nat.le_of_ble_eq_true rfl, Nat.le_of_ble_eq_true rfl⟩ ⟨Nat.le_of_ble_eq_true rfl, Nat.le_of_ble_eq_true rfl⟩ hN hT0 hK hP [i_8, i_10] (by simp only [List.filterMap_cons, List.filterMap_nil, hg_8, hg_10]) [3] rfl i_8 11 hg_8 rfl rfl hl.1 rfl (Nat.le_of_ble_eq_true rfl) d_PathCheck_isNameAllowed_130) (fun r130 hr130 => ?_)
          obtain rfl := Eq.symm hr130
          obtain ⟨i_11, t_11, n_11, f_11, gt_11, kt_11, hb_11, hm_11, hg_11⟩ := ty_2 hTy ks_9
          refine va_castY (C := "TrustChain$Slice") hx hb hown (htb _ q6_97) (hN.1 _ qn9_222) (va_recv (ci := 0) hK hP rfl hg_11) d_PathCheck_isNameAllowed_133 ?_
          refine vp_callSi (pu_callV (As := [.ref s_9]) (rest := []) ⟨hx, hb, hml, hown, hts⟩ tbin (p_Certificate_allowsDns l dC dI sb γ κ Ad ν ω L G s_4 s_9 _ _ _ hTy ks_4 ks_9 ) q6_98 q6_99 q6_100 q1_21 q6_101 (n := 1) (by decide +kernel) rfl ⟨rfl, rfl⟩ ⟨Nat.le_of_ble_eq_true rfl, Nat.le_of_ble_eq_true rfl⟩ ⟨Nat.le_of_ble_eq_true rfl, Nat.le_of_ble_eq_true rfl⟩ hN hT0 hK hP (List.range G.length) (rg_all G) [0, 1, 2, 3] rfl i_5 3 hg_5 rfl rfl hl.1 rfl (Nat.le_of_ble_eq_true rfl) d_PathCheck_isNameAllowed_136) (fun r136 hr136 => ?_)
          refine lv_if_ne (tgt := 144) hx hb d_PathCheck_isNameAllowed_139 (by decide) (fun c139 => ?_) (fun c139 => ?_)
          · have p139 : ¬ (r136 = (0 : Int32)) := c139
            refine lv_iinc (v := nI (z9 + 1)) (lv' := [(5, .int (nI (z9 + 1))), (4, .ref s_4), (3, .int (nI z16)), (2, .ref s_2), (0, .ref p9), (1, .int (nI k))]) hx hb d_PathCheck_isNameAllowed_144 hl (k := 0) rfl (nI_1 _) (by decide) rfl (fun ls hl => ?_)
            refine lv_goto (tgt := 104) hx hb d_PathCheck_isNameAllowed_147 (by decide) ?_
            exact ih (z9 + 1) ls (by omega) (by omega) (lv_sub hl [0, 1, 2, 3, 4, 5] rfl)
          · have p139 : r136 = (0 : Int32) := c139
            refine lv_iconst (v := 0) hx hb d_PathCheck_isNameAllowed_142 (by decide) ?_
            exact W.zret (v := 0) hx hb hr rfl (fun t ht hW => ⟨_, rfl, bz_f (by decide), ht⟩) (fun q h => by cases h) d_PathCheck_isNameAllowed_143
      · have p67 : ¬ (A_3 ≤ z9) := (fun q9 => c67 ((nI_leI (a := A_3) (b := z9) (by omega) (by omega)).mpr q9))
        refine lv_aload hx hb d_PathCheck_isNameAllowed_70 (lv_at hl 1 rfl) ?_
        refine lv_aload_n hx hb d_PathCheck_isNameAllowed_72 rfl (lv_at hl 3 rfl) ?_
        refine va_get (v := .ref nm_3) hx hb htb i_Certificate hown hK hP i_3 hg_3 rfl 0 (by decide) (htb _ q2_140) (fun _ h9 => h9) rfl d_PathCheck_isNameAllowed_73 ?_
        refine va_getN (v := .ref d_6) hx hb htb i_NameSet hown hK hP i_6 hg_6 rfl 1 (by decide) (va_Nw.use rfl (hN.1 _ qn2_132)) (fun _ h9 => h9) rfl d_PathCheck_isNameAllowed_76 ?_
        refine lv_iload hx hb d_PathCheck_isNameAllowed_79 (lv_at hl 0 rfl) ?_
        obtain ⟨cap_12, kq_12⟩ := he_7 (by omega)
        obtain ⟨i_13, f_13, hK_13, hc_13, he_13, hg_13⟩ := ty_3 hTy kq_12
        obtain ⟨s_12, len_12, hf_12, ks_12⟩ := he_13 z9 (by omega)
        refine va_csr (pu_callV (As := [.int (nI z9)]) (rest := [.ref s_4]) ⟨hx, hb, hml, hown, hts⟩ tbin (c_AL_get l dC dI sb d_6 q_7 A_3 cap_12 z9 s_12 m_7 γ.2.2.2 f_13 (by omega) hK_13 (by omega) hf_12) q6_51 q4_210 q4_211 q1_4 q4_212 (n := 1) (by decide +kernel) rfl ⟨rfl, rfl⟩ ⟨Nat.le_of_ble_eq_true rfl, Nat.le_of_ble_eq_true rfl⟩ ⟨Nat.le_of_ble_eq_true rfl, Nat.le_of_ble_eq_true rfl⟩ hN hT0 hK hP [i_7, i_13] (by simp only [List.filterMap_cons, List.filterMap_nil, hg_7, hg_13]) [3] rfl i_7 11 hg_7 rfl rfl hl.1 rfl (Nat.le_of_ble_eq_true rfl) d_PathCheck_isNameAllowed_81) (fun r81 hr81 => ?_)
        obtain rfl := Eq.symm hr81
        obtain ⟨i_14, t_14, n_14, f_14, gt_14, kt_14, hb_14, hm_14, hg_14⟩ := ty_2 hTy ks_12
        refine va_castY (C := "TrustChain$Slice") hx hb hown (htb _ q6_97) (hN.1 _ qn9_222) (va_recv (ci := 0) hK hP rfl hg_14) d_PathCheck_isNameAllowed_84 ?_
        refine vp_callSi (pu_callV (As := [.ref s_12]) (rest := []) ⟨hx, hb, hml, hown, hts⟩ tbin (p_Certificate_allowsDirectory l dC dI sb γ κ Ad ν ω L G s_4 s_12 _ _ _ hTy ks_4 ks_12 ) q6_84 q6_85 q6_86 q1_21 q6_87 (n := 1) (by decide +kernel) rfl ⟨rfl, rfl⟩ ⟨Nat.le_of_ble_eq_true rfl, Nat.le_of_ble_eq_true rfl⟩ ⟨Nat.le_of_ble_eq_true rfl, Nat.le_of_ble_eq_true rfl⟩ hN hT0 hK hP (List.range G.length) (rg_all G) [0, 1, 2, 3] rfl i_5 3 hg_5 rfl rfl hl.1 rfl (Nat.le_of_ble_eq_true rfl) d_PathCheck_isNameAllowed_87) (fun r87 hr87 => ?_)
        refine lv_if_ne (tgt := 95) hx hb d_PathCheck_isNameAllowed_90 (by decide) (fun c90 => ?_) (fun c90 => ?_)
        · have p90 : ¬ (r87 = (0 : Int32)) := c90
          refine lv_iinc (v := nI (z9 + 1)) (lv' := [(5, .int (nI (z9 + 1))), (4, .ref s_4), (3, .int (nI z16)), (2, .ref s_2), (0, .ref p9), (1, .int (nI k))]) hx hb d_PathCheck_isNameAllowed_95 hl (k := 0) rfl (nI_1 _) (by decide) rfl (fun ls hl => ?_)
          refine lv_goto (tgt := 55) hx hb d_PathCheck_isNameAllowed_98 (by decide) ?_
          exact ih (z9 + 1) ls (by omega) (by omega) (lv_sub hl [0, 1, 2, 3, 4, 5] rfl)
        · have p90 : r87 = (0 : Int32) := c90
          refine lv_iconst (v := 0) hx hb d_PathCheck_isNameAllowed_93 (by decide) ?_
          exact W.zret (v := 0) hx hb hr rfl (fun t ht hW => ⟨_, rfl, bz_f (by decide), ht⟩) (fun q h => by cases h) d_PathCheck_isNameAllowed_94
    · have p35 : ¬ (((ν s_2).1) ≤ (0 : Int32)) := c35
      refine lv_aload hx hb d_PathCheck_isNameAllowed_38 (lv_at hl 0 rfl) ?_
      refine lv_aload_n hx hb d_PathCheck_isNameAllowed_40 rfl (lv_at hl 2 rfl) ?_
      refine va_get (v := .ref su_3) hx hb htb i_Certificate hown hK hP i_3 hg_3 rfl 4 (by decide) (htb _ q2_152) (fun _ h9 => h9) rfl d_PathCheck_isNameAllowed_41 ?_
      refine vp_callSi (pu_callV (As := [.ref su_3]) (rest := []) ⟨hx, hb, hml, hown, hts⟩ tbin (p_Certificate_allowsDirectory l dC dI sb γ κ Ad ν ω L G s_4 su_3 _ _ _ hTy ks_4 ksu_3 ) q6_84 q6_85 q6_86 q1_21 q6_87 (n := 1) (by decide +kernel) rfl ⟨rfl, rfl⟩ ⟨Nat.le_of_ble_eq_true rfl, Nat.le_of_ble_eq_true rfl⟩ ⟨Nat.le_of_ble_eq_true rfl, Nat.le_of_ble_eq_true rfl⟩ hN hT0 hK hP (List.range G.length) (rg_all G) [0, 1, 2, 3] rfl i_5 3 hg_5 rfl rfl hl.1 rfl (Nat.le_of_ble_eq_true rfl) d_PathCheck_isNameAllowed_44) (fun r44 hr44 => ?_)
      refine lv_if_ne (tgt := 52) hx hb d_PathCheck_isNameAllowed_47 (by decide) (fun c47 => ?_) (fun c47 => ?_)
      · have p47 : ¬ (r44 = (0 : Int32)) := c47
        refine lv_iconst (v := 0) hx hb d_PathCheck_isNameAllowed_52 (by decide) ?_
        refine lv_istore (lv' := [(5, .int 0), (4, .ref s_4), (3, .int (nI z16)), (2, .ref s_2), (0, .ref p9), (1, .int (nI k))]) hx hb d_PathCheck_isNameAllowed_53 hl (by decide) rfl (fun ls hl => ?_)
        refine w_loop (α := Nat) (fun z9 => z9 ≤ A_3) (fun z9 => A_3 - z9) (fun z9 => [(5, .int (nI z9)), (4, .ref s_4), (3, .int (nI z16)), (2, .ref s_2), (0, .ref p9), (1, .int (nI k))]) (fun _ => []) 6 55 (fun z9 ls hJ hl ih => ?_) 0 ls (by omega) (lv_sub hl [0, 1, 2, 3, 4, 5] rfl)
        refine lv_iload hx hb d_PathCheck_isNameAllowed_55 (lv_at hl 0 rfl) ?_
        refine lv_aload_n hx hb d_PathCheck_isNameAllowed_57 rfl (lv_at hl 3 rfl) ?_
        refine va_get (v := .ref nm_3) hx hb htb i_Certificate hown hK hP i_3 hg_3 rfl 0 (by decide) (htb _ q2_140) (fun _ h9 => h9) rfl d_PathCheck_isNameAllowed_58 ?_
        obtain ⟨i_15, l_15, d_15, kl_15, kd_15, hg_15⟩ := ty_5 hTy knm_3
        refine va_getN (v := .ref d_15) hx hb htb i_NameSet hown hK hP i_15 hg_15 rfl 1 (by decide) (va_Nw.use rfl (hN.1 _ qn2_132)) (fun _ h9 => h9) rfl d_PathCheck_isNameAllowed_61 ?_
        obtain ⟨i_16, q_16, m_16, hK_16, he_16, hg_16⟩ := ty_4 hTy kd_15
        refine vp_callSi (pu_callV (As := []) (rest := [.int (nI z9)]) ⟨hx, hb, hml, hown, hts⟩ tbin (c_AL_size l dC dI sb d_15 q_16 A_3 m_16) q6_46 q2_54 q2_55 q1_4 q2_56 (n := 0) (by decide +kernel) rfl ⟨rfl, rfl⟩ ⟨Nat.le_of_ble_eq_true rfl, Nat.le_of_ble_eq_true rfl⟩ ⟨Nat.le_of_ble_eq_true rfl, Nat.le_of_ble_eq_true rfl⟩ hN hT0 hK hP [i_16] (by simp only [List.filterMap_cons, List.filterMap_nil, hg_16]) [] rfl i_16 11 hg_16 rfl rfl hl.1 rfl (Nat.le_of_ble_eq_true rfl) d_PathCheck_isNameAllowed_64) (fun r64 hr64 => ?_)
        subst hr64
        refine lv_icmp_ge (tgt := 101) hx hb d_PathCheck_isNameAllowed_67 (by decide) (fun c67 => ?_) (fun c67 => ?_)
        · have p67 : A_3 ≤ z9 := ((nI_leI (a := A_3) (b := z9) (by omega) (by omega)).mp c67)
          refine lv_iconst (v := 0) hx hb d_PathCheck_isNameAllowed_101 (by decide) ?_
          refine lv_istore (lv' := [(5, .int 0), (4, .ref s_4), (3, .int (nI z16)), (2, .ref s_2), (0, .ref p9), (1, .int (nI k))]) hx hb d_PathCheck_isNameAllowed_102 hl (by decide) rfl (fun ls hl => ?_)
          refine w_loop (α := Nat) (fun z9 => z9 ≤ p_2) (fun z9 => p_2 - z9) (fun z9 => [(5, .int (nI z9)), (4, .ref s_4), (3, .int (nI z16)), (2, .ref s_2), (0, .ref p9), (1, .int (nI k))]) (fun _ => []) 6 104 (fun z9 ls hJ hl ih => ?_) 0 ls (by omega) (lv_sub hl [0, 1, 2, 3, 4, 5] rfl)
          refine lv_iload hx hb d_PathCheck_isNameAllowed_104 (lv_at hl 0 rfl) ?_
          refine lv_aload_n hx hb d_PathCheck_isNameAllowed_106 rfl (lv_at hl 3 rfl) ?_
          refine va_get (v := .ref nm_3) hx hb htb i_Certificate hown hK hP i_3 hg_3 rfl 0 (by decide) (htb _ q2_140) (fun _ h9 => h9) rfl d_PathCheck_isNameAllowed_107 ?_
          refine va_getN (v := .ref l_15) hx hb htb i_NameSet hown hK hP i_15 hg_15 rfl 0 (by decide) (va_Nw.use rfl (hN.1 _ qn2_128)) (fun _ h9 => h9) rfl d_PathCheck_isNameAllowed_110 ?_
          obtain ⟨i_17, q_17, m_17, hK_17, he_17, hg_17⟩ := ty_4 hTy kl_15
          refine vp_callSi (pu_callV (As := []) (rest := [.int (nI z9)]) ⟨hx, hb, hml, hown, hts⟩ tbin (c_AL_size l dC dI sb l_15 q_17 p_2 m_17) q6_46 q2_54 q2_55 q1_4 q2_56 (n := 0) (by decide +kernel) rfl ⟨rfl, rfl⟩ ⟨Nat.le_of_ble_eq_true rfl, Nat.le_of_ble_eq_true rfl⟩ ⟨Nat.le_of_ble_eq_true rfl, Nat.le_of_ble_eq_true rfl⟩ hN hT0 hK hP [i_17] (by simp only [List.filterMap_cons, List.filterMap_nil, hg_17]) [] rfl i_17 11 hg_17 rfl rfl hl.1 rfl (Nat.le_of_ble_eq_true rfl) d_PathCheck_isNameAllowed_113) (fun r113 hr113 => ?_)
          subst hr113
          refine lv_icmp_ge (tgt := 150) hx hb d_PathCheck_isNameAllowed_116 (by decide) (fun c116 => ?_) (fun c116 => ?_)
          · have p116 : p_2 ≤ z9 := ((nI_leI (a := p_2) (b := z9) (by omega) (by omega)).mp c116)
            refine lv_iinc (v := nI (z16 - 1)) (lv' := [(3, .int (nI (z16 - 1))), (5, .int (nI z9)), (4, .ref s_4), (2, .ref s_2), (0, .ref p9), (1, .int (nI k))]) hx hb d_PathCheck_isNameAllowed_150 hl (k := 2) rfl (nI_m1 (by omega)) (by decide) rfl (fun ls hl => ?_)
            refine lv_goto (tgt := 16) hx hb d_PathCheck_isNameAllowed_153 (by decide) ?_
            exact ih16 (z16 - 1) ls (by omega) (by omega) (lv_sub hl [0, 3, 4, 5] rfl)
          · have p116 : ¬ (p_2 ≤ z9) := (fun q9 => c116 ((nI_leI (a := p_2) (b := z9) (by omega) (by omega)).mpr q9))
            refine lv_aload hx hb d_PathCheck_isNameAllowed_119 (lv_at hl 1 rfl) ?_
            refine lv_aload_n hx hb d_PathCheck_isNameAllowed_121 rfl (lv_at hl 3 rfl) ?_
            refine va_get (v := .ref nm_3) hx hb htb i_Certificate hown hK hP i_3 hg_3 rfl 0 (by decide) (htb _ q2_140) (fun _ h9 => h9) rfl d_PathCheck_isNameAllowed_122 ?_
            refine va_getN (v := .ref l_15) hx hb htb i_NameSet hown hK hP i_15 hg_15 rfl 0 (by decide) (va_Nw.use rfl (hN.1 _ qn2_128)) (fun _ h9 => h9) rfl d_PathCheck_isNameAllowed_125 ?_
            refine lv_iload hx hb d_PathCheck_isNameAllowed_128 (lv_at hl 0 rfl) ?_
            obtain ⟨cap_18, kq_18⟩ := he_17 (by omega)
            obtain ⟨i_19, f_19, hK_19, hc_19, he_19, hg_19⟩ := ty_3 hTy kq_18
            obtain ⟨s_18, len_18, hf_18, ks_18⟩ := he_19 z9 (by omega)
            refine va_csr (pu_callV (As := [.int (nI z9)]) (rest := [.ref s_4]) ⟨hx, hb, hml, hown, hts⟩ tbin (c_AL_get l dC dI sb l_15 q_17 p_2 cap_18 z9 s_18 m_17 γ.2.2.2 f_19 (by omega) hK_19 (by omega) hf_18) q6_51 q4_210 q4_211 q1_4 q4_212 (n := 1) (by decide +kernel) rfl ⟨rfl, rfl⟩ ⟨Nat.le_of_ble_eq_true rfl, Nat.le_of_ble_eq_true rfl⟩ ⟨Nat.le_of_ble_eq_true rfl, Nat.le_of_ble_eq_true rfl⟩ hN hT0 hK hP [i_17, i_19] (by simp only [List.filterMap_cons, List.filterMap_nil, hg_17, hg_19]) [3] rfl i_17 11 hg_17 rfl rfl hl.1 rfl (Nat.le_of_ble_eq_true rfl) d_PathCheck_isNameAllowed_130) (fun r130 hr130 => ?_)
            obtain rfl := Eq.symm hr130
            obtain ⟨i_20, t_20, n_20, f_20, gt_20, kt_20, hb_20, hm_20, hg_20⟩ := ty_2 hTy ks_18
            refine va_castY (C := "TrustChain$Slice") hx hb hown (htb _ q6_97) (hN.1 _ qn9_222) (va_recv (ci := 0) hK hP rfl hg_20) d_PathCheck_isNameAllowed_133 ?_
            refine vp_callSi (pu_callV (As := [.ref s_18]) (rest := []) ⟨hx, hb, hml, hown, hts⟩ tbin (p_Certificate_allowsDns l dC dI sb γ κ Ad ν ω L G s_4 s_18 _ _ _ hTy ks_4 ks_18 ) q6_98 q6_99 q6_100 q1_21 q6_101 (n := 1) (by decide +kernel) rfl ⟨rfl, rfl⟩ ⟨Nat.le_of_ble_eq_true rfl, Nat.le_of_ble_eq_true rfl⟩ ⟨Nat.le_of_ble_eq_true rfl, Nat.le_of_ble_eq_true rfl⟩ hN hT0 hK hP (List.range G.length) (rg_all G) [0, 1, 2, 3] rfl i_5 3 hg_5 rfl rfl hl.1 rfl (Nat.le_of_ble_eq_true rfl) d_PathCheck_isNameAllowed_136) (fun r136 hr136 => ?_)
            refine lv_if_ne (tgt := 144) hx hb d_PathCheck_isNameAllowed_139 (by decide) (fun c139 => ?_) (fun c139 => ?_)
            · have p139 : ¬ (r136 = (0 : Int32)) := c139
              refine lv_iinc (v := nI (z9 + 1)) (lv' := [(5, .int (nI (z9 + 1))), (4, .ref s_4), (3, .int (nI z16)), (2, .ref s_2), (0, .ref p9), (1, .int (nI k))]) hx hb d_PathCheck_isNameAllowed_144 hl (k := 0) rfl (nI_1 _) (by decide) rfl (fun ls hl => ?_)
              refine lv_goto (tgt := 104) hx hb d_PathCheck_isNameAllowed_147 (by decide) ?_
              exact ih (z9 + 1) ls (by omega) (by omega) (lv_sub hl [0, 1, 2, 3, 4, 5] rfl)
            · have p139 : r136 = (0 : Int32) := c139
              refine lv_iconst (v := 0) hx hb d_PathCheck_isNameAllowed_142 (by decide) ?_
              exact W.zret (v := 0) hx hb hr rfl (fun t ht hW => ⟨_, rfl, bz_f (by decide), ht⟩) (fun q h => by cases h) d_PathCheck_isNameAllowed_143
        · have p67 : ¬ (A_3 ≤ z9) := (fun q9 => c67 ((nI_leI (a := A_3) (b := z9) (by omega) (by omega)).mpr q9))
          refine lv_aload hx hb d_PathCheck_isNameAllowed_70 (lv_at hl 1 rfl) ?_
          refine lv_aload_n hx hb d_PathCheck_isNameAllowed_72 rfl (lv_at hl 3 rfl) ?_
          refine va_get (v := .ref nm_3) hx hb htb i_Certificate hown hK hP i_3 hg_3 rfl 0 (by decide) (htb _ q2_140) (fun _ h9 => h9) rfl d_PathCheck_isNameAllowed_73 ?_
          refine va_getN (v := .ref d_15) hx hb htb i_NameSet hown hK hP i_15 hg_15 rfl 1 (by decide) (va_Nw.use rfl (hN.1 _ qn2_132)) (fun _ h9 => h9) rfl d_PathCheck_isNameAllowed_76 ?_
          refine lv_iload hx hb d_PathCheck_isNameAllowed_79 (lv_at hl 0 rfl) ?_
          obtain ⟨cap_21, kq_21⟩ := he_16 (by omega)
          obtain ⟨i_22, f_22, hK_22, hc_22, he_22, hg_22⟩ := ty_3 hTy kq_21
          obtain ⟨s_21, len_21, hf_21, ks_21⟩ := he_22 z9 (by omega)
          refine va_csr (pu_callV (As := [.int (nI z9)]) (rest := [.ref s_4]) ⟨hx, hb, hml, hown, hts⟩ tbin (c_AL_get l dC dI sb d_15 q_16 A_3 cap_21 z9 s_21 m_16 γ.2.2.2 f_22 (by omega) hK_22 (by omega) hf_21) q6_51 q4_210 q4_211 q1_4 q4_212 (n := 1) (by decide +kernel) rfl ⟨rfl, rfl⟩ ⟨Nat.le_of_ble_eq_true rfl, Nat.le_of_ble_eq_true rfl⟩ ⟨Nat.le_of_ble_eq_true rfl, Nat.le_of_ble_eq_true rfl⟩ hN hT0 hK hP [i_16, i_22] (by simp only [List.filterMap_cons, List.filterMap_nil, hg_16, hg_22]) [3] rfl i_16 11 hg_16 rfl rfl hl.1 rfl (Nat.le_of_ble_eq_true rfl) d_PathCheck_isNameAllowed_81) (fun r81 hr81 => ?_)
          obtain rfl := Eq.symm hr81
          obtain ⟨i_23, t_23, n_23, f_23, gt_23, kt_23, hb_23, hm_23, hg_23⟩ := ty_2 hTy ks_21
          refine va_castY (C := "TrustChain$Slice") hx hb hown (htb _ q6_97) (hN.1 _ qn9_222) (va_recv (ci := 0) hK hP rfl hg_23) d_PathCheck_isNameAllowed_84 ?_
          refine vp_callSi (pu_callV (As := [.ref s_21]) (rest := []) ⟨hx, hb, hml, hown, hts⟩ tbin (p_Certificate_allowsDirectory l dC dI sb γ κ Ad ν ω L G s_4 s_21 _ _ _ hTy ks_4 ks_21 ) q6_84 q6_85 q6_86 q1_21 q6_87 (n := 1) (by decide +kernel) rfl ⟨rfl, rfl⟩ ⟨Nat.le_of_ble_eq_true rfl, Nat.le_of_ble_eq_true rfl⟩ ⟨Nat.le_of_ble_eq_true rfl, Nat.le_of_ble_eq_true rfl⟩ hN hT0 hK hP (List.range G.length) (rg_all G) [0, 1, 2, 3] rfl i_5 3 hg_5 rfl rfl hl.1 rfl (Nat.le_of_ble_eq_true rfl) d_PathCheck_isNameAllowed_87) (fun r87 hr87 => ?_)
          refine lv_if_ne (tgt := 95) hx hb d_PathCheck_isNameAllowed_90 (by decide) (fun c90 => ?_) (fun c90 => ?_)
          · have p90 : ¬ (r87 = (0 : Int32)) := c90
            refine lv_iinc (v := nI (z9 + 1)) (lv' := [(5, .int (nI (z9 + 1))), (4, .ref s_4), (3, .int (nI z16)), (2, .ref s_2), (0, .ref p9), (1, .int (nI k))]) hx hb d_PathCheck_isNameAllowed_95 hl (k := 0) rfl (nI_1 _) (by decide) rfl (fun ls hl => ?_)
            refine lv_goto (tgt := 55) hx hb d_PathCheck_isNameAllowed_98 (by decide) ?_
            exact ih (z9 + 1) ls (by omega) (by omega) (lv_sub hl [0, 1, 2, 3, 4, 5] rfl)
          · have p90 : r87 = (0 : Int32) := c90
            refine lv_iconst (v := 0) hx hb d_PathCheck_isNameAllowed_93 (by decide) ?_
            exact W.zret (v := 0) hx hb hr rfl (fun t ht hW => ⟨_, rfl, bz_f (by decide), ht⟩) (fun q h => by cases h) d_PathCheck_isNameAllowed_94
      · have p47 : r44 = (0 : Int32) := c47
        refine lv_iconst (v := 0) hx hb d_PathCheck_isNameAllowed_50 (by decide) ?_
        exact W.zret (v := 0) hx hb hr rfl (fun t ht hW => ⟨_, rfl, bz_f (by decide), ht⟩) (fun q h => by cases h) d_PathCheck_isNameAllowed_51
def y_PathCheck_isRevoked : MethodName := ⟨"TrustChain$PathCheck", "isRevoked", "(LTrustChain$Certificate;LTrustChain$Certificate;Ljava/util/ArrayList;LTrustChain$Rsa;)Z"⟩
abbrev b_PathCheck_isRevoked : ByteArray := prog_7_method_6_code
def w_PathCheck_isRevoked : List Cond := Cond.code y_PathCheck_isRevoked b_PathCheck_isRevoked 9 ((some FieldType.boolean)) :: tb
theorem d_PathCheck_isRevoked_0 : decode b_PathCheck_isRevoked 0 = .ok (.aload_n 0, 1) := by decide +kernel
theorem d_PathCheck_isRevoked_1 : decode b_PathCheck_isRevoked 1 = .ok (.iconst 0, 1) := by decide +kernel
theorem d_PathCheck_isRevoked_2 : decode b_PathCheck_isRevoked 2 = .ok (.putfield 23, 3) := by decide +kernel
theorem d_PathCheck_isRevoked_5 : decode b_PathCheck_isRevoked 5 = .ok (.iconst 0, 1) := by decide +kernel
theorem d_PathCheck_isRevoked_6 : decode b_PathCheck_isRevoked 6 = .ok (.istore 5, 2) := by decide +kernel
theorem d_PathCheck_isRevoked_8 : decode b_PathCheck_isRevoked 8 = .ok (.iconst 0, 1) := by decide +kernel
theorem d_PathCheck_isRevoked_9 : decode b_PathCheck_isRevoked 9 = .ok (.istore 6, 2) := by decide +kernel
theorem d_PathCheck_isRevoked_11 : decode b_PathCheck_isRevoked 11 = .ok (.iload 6, 2) := by decide +kernel
theorem d_PathCheck_isRevoked_13 : decode b_PathCheck_isRevoked 13 = .ok (.aload_n 3, 1) := by decide +kernel
theorem d_PathCheck_isRevoked_14 : decode b_PathCheck_isRevoked 14 = .ok (.invokevirtual 26, 3) := by decide +kernel
theorem d_PathCheck_isRevoked_17 : decode b_PathCheck_isRevoked 17 = .ok (.if_icmp .ge 116, 3) := by decide +kernel
theorem d_PathCheck_isRevoked_20 : decode b_PathCheck_isRevoked 20 = .ok (.aload_n 3, 1) := by decide +kernel
theorem d_PathCheck_isRevoked_21 : decode b_PathCheck_isRevoked 21 = .ok (.iload 6, 2) := by decide +kernel
theorem d_PathCheck_isRevoked_23 : decode b_PathCheck_isRevoked 23 = .ok (.invokevirtual 36, 3) := by decide +kernel
theorem d_PathCheck_isRevoked_26 : decode b_PathCheck_isRevoked 26 = .ok (.checkcast 80, 3) := by decide +kernel
theorem d_PathCheck_isRevoked_29 : decode b_PathCheck_isRevoked 29 = .ok (.astore 7, 2) := by decide +kernel
theorem d_PathCheck_isRevoked_31 : decode b_PathCheck_isRevoked 31 = .ok (.aload 7, 2) := by decide +kernel
theorem d_PathCheck_isRevoked_33 : decode b_PathCheck_isRevoked 33 = .ok (.aload_n 0, 1) := by decide +kernel
theorem d_PathCheck_isRevoked_34 : decode b_PathCheck_isRevoked 34 = .ok (.getfield 15, 3) := by decide +kernel
theorem d_PathCheck_isRevoked_37 : decode b_PathCheck_isRevoked 37 = .ok (.invokevirtual 82, 3) := by decide +kernel
theorem d_PathCheck_isRevoked_40 : decode b_PathCheck_isRevoked 40 = .ok (.ifCond .eq 24, 3) := by decide +kernel
theorem d_PathCheck_isRevoked_43 : decode b_PathCheck_isRevoked 43 = .ok (.aload 7, 2) := by decide +kernel
theorem d_PathCheck_isRevoked_45 : decode b_PathCheck_isRevoked 45 = .ok (.getfield 83, 3) := by decide +kernel
theorem d_PathCheck_isRevoked_48 : decode b_PathCheck_isRevoked 48 = .ok (.ifCond .ne 16, 3) := by decide +kernel
theorem d_PathCheck_isRevoked_51 : decode b_PathCheck_isRevoked 51 = .ok (.aload_n 2, 1) := by decide +kernel
theorem d_PathCheck_isRevoked_52 : decode b_PathCheck_isRevoked 52 = .ok (.bipush 6, 2) := by decide +kernel
theorem d_PathCheck_isRevoked_54 : decode b_PathCheck_isRevoked 54 = .ok (.invokevirtual 76, 3) := by decide +kernel
theorem d_PathCheck_isRevoked_57 : decode b_PathCheck_isRevoked 57 = .ok (.ifCond .eq 7, 3) := by decide +kernel
theorem d_PathCheck_isRevoked_60 : decode b_PathCheck_isRevoked 60 = .ok (.iconst 1, 1) := by decide +kernel
theorem d_PathCheck_isRevoked_61 : decode b_PathCheck_isRevoked 61 = .ok (.goto 4, 3) := by decide +kernel
theorem d_PathCheck_isRevoked_64 : decode b_PathCheck_isRevoked 64 = .ok (.iconst 0, 1) := by decide +kernel
theorem d_PathCheck_isRevoked_65 : decode b_PathCheck_isRevoked 65 = .ok (.istore 8, 2) := by decide +kernel
theorem d_PathCheck_isRevoked_67 : decode b_PathCheck_isRevoked 67 = .ok (.iload 8, 2) := by decide +kernel
theorem d_PathCheck_isRevoked_69 : decode b_PathCheck_isRevoked 69 = .ok (.ifCond .eq 58, 3) := by decide +kernel
theorem d_PathCheck_isRevoked_72 : decode b_PathCheck_isRevoked 72 = .ok (.aload 7, 2) := by decide +kernel
theorem d_PathCheck_isRevoked_74 : decode b_PathCheck_isRevoked 74 = .ok (.getfield 84, 3) := by decide +kernel
theorem d_PathCheck_isRevoked_77 : decode b_PathCheck_isRevoked 77 = .ok (.aload_n 1, 1) := by decide +kernel
theorem d_PathCheck_isRevoked_78 : decode b_PathCheck_isRevoked 78 = .ok (.getfield 88, 3) := by decide +kernel
theorem d_PathCheck_isRevoked_81 : decode b_PathCheck_isRevoked 81 = .ok (.invokevirtual 89, 3) := by decide +kernel
theorem d_PathCheck_isRevoked_84 : decode b_PathCheck_isRevoked 84 = .ok (.ifCond .eq 43, 3) := by decide +kernel
theorem d_PathCheck_isRevoked_87 : decode b_PathCheck_isRevoked 87 = .ok (.aload 4, 2) := by decide +kernel
theorem d_PathCheck_isRevoked_89 : decode b_PathCheck_isRevoked 89 = .ok (.aload 7, 2) := by decide +kernel
theorem d_PathCheck_isRevoked_91 : decode b_PathCheck_isRevoked 91 = .ok (.aload_n 2, 1) := by decide +kernel
theorem d_PathCheck_isRevoked_92 : decode b_PathCheck_isRevoked 92 = .ok (.invokevirtual 42, 3) := by decide +kernel
theorem d_PathCheck_isRevoked_95 : decode b_PathCheck_isRevoked 95 = .ok (.ifCond .eq 32, 3) := by decide +kernel
theorem d_PathCheck_isRevoked_98 : decode b_PathCheck_isRevoked 98 = .ok (.aload_n 0, 1) := by decide +kernel
theorem d_PathCheck_isRevoked_99 : decode b_PathCheck_isRevoked 99 = .ok (.iconst 1, 1) := by decide +kernel
theorem d_PathCheck_isRevoked_100 : decode b_PathCheck_isRevoked 100 = .ok (.putfield 23, 3) := by decide +kernel
theorem d_PathCheck_isRevoked_103 : decode b_PathCheck_isRevoked 103 = .ok (.iload 5, 2) := by decide +kernel
theorem d_PathCheck_isRevoked_105 : decode b_PathCheck_isRevoked 105 = .ok (.ifCond .ne 15, 3) := by decide +kernel
theorem d_PathCheck_isRevoked_108 : decode b_PathCheck_isRevoked 108 = .ok (.aload 7, 2) := by decide +kernel
theorem d_PathCheck_isRevoked_110 : decode b_PathCheck_isRevoked 110 = .ok (.aload_n 1, 1) := by decide +kernel
theorem d_PathCheck_isRevoked_111 : decode b_PathCheck_isRevoked 111 = .ok (.getfield 95, 3) := by decide +kernel
theorem d_PathCheck_isRevoked_114 : decode b_PathCheck_isRevoked 114 = .ok (.invokevirtual 98, 3) := by decide +kernel
theorem d_PathCheck_isRevoked_117 : decode b_PathCheck_isRevoked 117 = .ok (.ifCond .eq 7, 3) := by decide +kernel
theorem d_PathCheck_isRevoked_120 : decode b_PathCheck_isRevoked 120 = .ok (.iconst 1, 1) := by decide +kernel
theorem d_PathCheck_isRevoked_121 : decode b_PathCheck_isRevoked 121 = .ok (.goto 4, 3) := by decide +kernel
theorem d_PathCheck_isRevoked_124 : decode b_PathCheck_isRevoked 124 = .ok (.iconst 0, 1) := by decide +kernel
theorem d_PathCheck_isRevoked_125 : decode b_PathCheck_isRevoked 125 = .ok (.istore 5, 2) := by decide +kernel
theorem d_PathCheck_isRevoked_127 : decode b_PathCheck_isRevoked 127 = .ok (.iinc 6 1, 3) := by decide +kernel
theorem d_PathCheck_isRevoked_130 : decode b_PathCheck_isRevoked 130 = .ok (.goto (-119), 3) := by decide +kernel
theorem d_PathCheck_isRevoked_133 : decode b_PathCheck_isRevoked 133 = .ok (.iload 5, 2) := by decide +kernel
theorem d_PathCheck_isRevoked_135 : decode b_PathCheck_isRevoked 135 = .ok (.ireturn, 1) := by decide +kernel
theorem jD_2 {n : Nat} (h : 1 ≤ n) : nI n - 2 = jD (n - 1) := by
  cases n with
  | zero => omega
  | succ n =>
    cases n with
    | zero => decide
    | succ n => exact pk_sub (a := n + 2) (b := 2) (by omega)
set_option maxHeartbeats 4000000 in
set_option maxRecDepth 100000 in
theorem m_PathCheck_isRevoked (l : Launch) (dC : Nat → ClassId) (dI : Nat → Nat → Nat) (sb : sB) (γ : cG) (κ : kE) (Ad : List Nat) (ν : Nat → cN) (ω : Nat → List Nat) (L : Nat) (G : va_W) (h c8 c9 qs r9 : Nat) (K1 l1 K2 l2 : Nat) (sz : Nat) (hTy : TY γ κ Ad ν ω L G) (kh : tK κ Ad h (12, 0, 0)) (kc8 : tK κ Ad c8 (8, K1, l1)) (kc9 : tK κ Ad c9 (8, K2, l2)) (kqs : tK κ Ad qs (17, (sb.2 5), 0)) (kr9 : tK κ Ad r9 (10, 0, 0)) (hL : L ≤ 64) (h1 : ∀ a, a ∈ Ad → (κ a).1 = 10 → a = r9) (hX : XC κ Ad ν ω) : Met l y_PathCheck_isRevoked w_PathCheck_isRevoked ({ frames := 4, cells := 0, slots := 0, locals := 109 }) (mu_P [.ref h, .ref c8, .ref c9, .ref qs, .ref r9] (dC, dI) sb G [(γ.1, .byte), (γ.2.1, .int), (γ.2.2.1, .long), (γ.2.2.2, .object "java/lang/Object")] sz) (va_Qi (fun r (G' : va_W) => (∃ L' : Nat, L' ≤ 64 ∧ TY γ κ Ad ν ω L' G') ∧ FR Ad G G' ∧ (bz r (r = 1))) (mu_B (dC, dI) [(γ.1, .byte), (γ.2.1, .int), (γ.2.2.1, .long), (γ.2.2.2, .object "java/lang/Object")] (va_A G sz) (fun G' : va_W => G')) (va_A G sz)) 0 0 (va_A G sz) := by
  refine Met.ofW (cc := b_PathCheck_isRevoked) (maxL := 9) (ret := (some FieldType.boolean)) (by decide) rfl ?_
  intro p e s m args below meth c s₁ B hml hv
  obtain ⟨rfl, hsz, hB0, hP, hK, hD0, hN, hT0⟩ := hv
  have hx := B.exec
  have hb := B.bytes
  have hr := B.returns
  have hts := atoms_spec (ws := w_PathCheck_isRevoked) B.pre
  have tbin : ∀ w ∈ tb, w ∈ w_PathCheck_isRevoked := fun w h => List.mem_cons_of_mem _ h
  have htb : ∀ w ∈ tb, w.before _ s = true := fun w h => hts w (tbin w h)
  have hown : s.vm.findClass "TrustChain$PathCheck" = some m.cls := findClass_of_methodNamed B.named
  have hlocks := B.notSynchronized
  subst hsz
  have hD := hD0.self (sz := s.heap.size)
  generalize hAe : va_A G s.heap.size = A at hD ⊢
  have hA : ∀ q : Nat, s.heap.size ≤ q → A q := fun q h => by rw [← hAe]; exact Or.inr h
  have hAs : ∀ q : Nat, A q → sb.1 ≤ q := fun q h => by
    rw [← hAe] at h
    rcases h with ⟨k, e, h⟩ | h
    · exact hD0.2 k _ h
    · exact Nat.le_trans hB0 h
  have hS : va_S A s.heap s.heap [] := va_S.rf
  have hFR := FR.rf Ad G
  have hcs : 0 ≤ (headSpec w_PathCheck_isRevoked ({ frames := 4, cells := 0, slots := 0, locals := 109 })).room.cells ∧ 0 ≤ (headSpec w_PathCheck_isRevoked ({ frames := 4, cells := 0, slots := 0, locals := 109 })).room.slots := ⟨Nat.le_refl _, Nat.le_refl _⟩
  have hP : va_P (dC, dI) classes G s.heap := hP
  have hl := lv_entry ([.ref h, .ref c8, .ref c9, .ref qs, .ref r9]) (n := 9) (Nat.le_of_ble_eq_true rfl)
  rw [lg_entry_eq]
  generalize (lg_sl ([.ref h, .ref c8, .ref c9, .ref qs, .ref r9]) ++ List.replicate (9 - (lg_sl ([.ref h, .ref c8, .ref c9, .ref qs, .ref r9])).length) Slot.unset).toArray = ls at hl ⊢
  have hl : lv_has ls 9 [(0, .ref h), (1, .ref c8), (2, .ref c9), (3, .ref qs), (4, .ref r9)] := hl
  refine lv_aload_n hx hb d_PathCheck_isRevoked_0 rfl (lv_at hl 0 rfl) ?_
  refine lv_iconst (v := 0) hx hb d_PathCheck_isRevoked_1 (by decide) ?_
  obtain ⟨i_1, fp_1, kw_1, ik_1, ti_1, hg_1⟩ := ty_12 hTy kh
  refine va_put (v := .int 0) (ty := .boolean) hx hb htb i_PathCheck t_PathCheck t_PathCheck_ok n_PathCheck hown hK hP hD hS i_1 hg_1 rfl 3 (by decide) (htb _ q1_146) (fun _ h9 => h9) rfl (by decide +kernel) rfl rfl (Nat.le_of_ble_eq_true rfl) d_PathCheck_isRevoked_2 (fun H2 locs hP hD2 hS => ?_)
  have hP : va_P (dC, dI) classes (G.set i_1 (h, .inr (9, [.int fp_1, .long ti_1, .int kw_1, .int 0]))) H2 := hP
  have hD3 : va_D A (G.set i_1 (h, .inr (9, [.int fp_1, .long ti_1, .int kw_1, .int 0]))) := hD2
  have hFR := hFR.tr (FR.set (c' := .inr (9, [.int fp_1, .long ti_1, .int kw_1, .int 0])) hg_1 kh.1)
  have hTy := TY.set (c' := .inr (9, [.int fp_1, .long ti_1, .int kw_1, .int 0])) hTy hg_1 (ok_12 kh _ _ _ _)
  have hD := hD3
  have hg_1 := set_here (c' := .inr (9, [.int fp_1, .long ti_1, .int kw_1, .int 0])) hg_1
  clear hD3 hD2
  generalize G.set i_1 (h, .inr (9, [.int fp_1, .long ti_1, .int kw_1, .int 0])) = G_2 at hP hD hTy hFR hg_1
  refine lv_iconst (v := 0) hx hb d_PathCheck_isRevoked_5 (by decide) ?_
  refine lv_istore (lv' := [(5, .int 0), (0, .ref h), (1, .ref c8), (2, .ref c9), (3, .ref qs), (4, .ref r9)]) hx hb d_PathCheck_isRevoked_6 hl (by decide) rfl (fun ls hl => ?_)
  refine lv_iconst (v := 0) hx hb d_PathCheck_isRevoked_8 (by decide) ?_
  refine lv_istore (lv' := [(6, .int 0), (5, .int 0), (0, .ref h), (1, .ref c8), (2, .ref c9), (3, .ref qs), (4, .ref r9)]) hx hb d_PathCheck_isRevoked_9 hl (by decide) rfl (fun ls hl => ?_)
  refine w_loopW (α := Nat × Int32 × va_W) (fun a9 => a9.1 ≤ ((ω qs).length) ∧ (∃ L' : Nat, L' ≤ 64 ∧ TY γ κ Ad ν ω L' a9.2.2) ∧ FR Ad G a9.2.2 ∧ (bz a9.2.1 (a9.2.1 = 1))) (fun a9 => ((ω qs).length) - a9.1) (fun a9 => [(6, .int (nI a9.1)), (5, .int a9.2.1), (0, .ref h), (1, .ref c8), (2, .ref c9), (3, .ref qs), (4, .ref r9)]) (fun _ => []) (fun a9 => a9.2.2) 9 11 (fun a9 HL11 locs ls hJ hP hD hS hl ih11 => ?_) (0, (0 : Int32), G_2) _ _ ls ⟨by omega, ⟨_, hL, hTy⟩, hFR, bz_f (show ¬ (0 : Int32) = 1 by decide)⟩ hP hD hS (lv_sub hl [0, 1, 2, 3, 4, 5, 6] rfl)
  obtain ⟨z11, x11_5, G11⟩ := a9
  obtain ⟨hz11, ⟨L11, hL11, hTy⟩, hFR, hJ11⟩ := hJ
  dsimp only at hz11 hTy hFR hP hD hl ih11 hJ11
  refine lv_iload hx hb d_PathCheck_isRevoked_11 (lv_at hl 0 rfl) ?_
  refine lv_aload_n hx hb d_PathCheck_isRevoked_13 rfl (lv_at hl 5 rfl) ?_
  obtain ⟨i_3, q_3, m_3, hK_3, he_3, hg_3⟩ := ty_17 hTy kqs
  refine vp_callSi (pu_callV (As := []) (rest := [.int (nI z11)]) ⟨hx, hb, hml, hown, hts⟩ tbin (c_AL_size l dC dI sb qs q_3 ((ω qs).length) m_3) q6_46 q2_54 q2_55 q1_4 q2_56 (n := 0) (by decide +kernel) rfl ⟨rfl, rfl⟩ ⟨Nat.le_of_ble_eq_true rfl, Nat.le_of_ble_eq_true rfl⟩ ⟨Nat.le_of_ble_eq_true rfl, Nat.le_of_ble_eq_true rfl⟩ hN (hT0.keep hS hAs) hK hP [i_3] (by simp only [List.filterMap_cons, List.filterMap_nil, hg_3]) [] rfl i_3 11 hg_3 rfl rfl hl.1 rfl (Nat.le_of_ble_eq_true rfl) d_PathCheck_isRevoked_14) (fun r14 hr14 => ?_)
  subst hr14
  refine lv_icmp_ge (tgt := 133) hx hb d_PathCheck_isRevoked_17 (by decide) (fun c17 => ?_) (fun c17 => ?_)
  · have p17 : ((ω qs).length) ≤ z11 := ((nI_leI (a := ((ω qs).length)) (b := z11) (by omega) (by omega)).mp c17)
    refine lv_iload hx hb d_PathCheck_isRevoked_133 (lv_at hl 1 rfl) ?_
    exact W.zret (v := x11_5) hx hb hr (bz_n hJ11) (fun t ht hW => ⟨⟨_, G11, rfl, ⟨⟨_, hL11, hTy⟩, hFR, hJ11⟩, by rw [ht]; exact hP, va_K.moved hW.alike hK, hD⟩, hS.F ht⟩) hS.2.2 d_PathCheck_isRevoked_135
  · have p17 : ¬ (((ω qs).length) ≤ z11) := (fun q9 => c17 ((nI_leI (a := ((ω qs).length)) (b := z11) (by omega) (by omega)).mpr q9))
    refine lv_aload_n hx hb d_PathCheck_isRevoked_20 rfl (lv_at hl 5 rfl) ?_
    refine lv_iload hx hb d_PathCheck_isRevoked_21 (lv_at hl 0 rfl) ?_
    obtain ⟨cap_4, kq_4⟩ := he_3 (by omega)
    obtain ⟨i_5, f_5, hK_5, hc_5, he_5, hg_5⟩ := ty_16 hTy kq_4
    obtain ⟨hf_4, p_4, ks_4⟩ := he_5 z11 (by omega)
    obtain ⟨s_4, es_4⟩ : ∃ z, z = (ω qs).getD z11 0 := ⟨_, rfl⟩
    rw [← es_4] at hf_4 ks_4
    refine va_csr (pu_callV (As := [.int (nI z11)]) (rest := []) ⟨hx, hb, hml, hown, hts⟩ tbin (c_AL_get l dC dI sb qs q_3 ((ω qs).length) cap_4 z11 s_4 m_3 γ.2.2.2 f_5 (by omega) hK_5 (by omega) hf_4) q6_51 q4_210 q4_211 q1_4 q4_212 (n := 1) (by decide +kernel) rfl ⟨rfl, rfl⟩ ⟨Nat.le_of_ble_eq_true rfl, Nat.le_of_ble_eq_true rfl⟩ ⟨Nat.le_of_ble_eq_true rfl, Nat.le_of_ble_eq_true rfl⟩ hN (hT0.keep hS hAs) hK hP [i_3, i_5] (by simp only [List.filterMap_cons, List.filterMap_nil, hg_3, hg_5]) [3] rfl i_3 11 hg_3 rfl rfl hl.1 rfl (Nat.le_of_ble_eq_true rfl) d_PathCheck_isRevoked_23) (fun r23 hr23 => ?_)
    obtain rfl := Eq.symm hr23
    obtain ⟨i_6, ha_6, si_6, en_6, bo_6, sg_6, is_6, kha_6, ksi_6, ken_6, ⟨z5_6, kbo_6⟩, ⟨z6_6, ksg_6⟩, ⟨z7_6, kis_6⟩, hw_6, hg_6⟩ := ty_9 hTy ks_4
    refine va_castY (C := "TrustChain$Paper") hx hb hown (htb _ q6_64) (hN.1 _ qn9_225) (va_recv (ci := 2) hK hP rfl hg_6) d_PathCheck_isRevoked_26 ?_
    refine lv_astore (lv' := [(7, .ref s_4), (6, .int (nI z11)), (5, .int x11_5), (0, .ref h), (1, .ref c8), (2, .ref c9), (3, .ref qs), (4, .ref r9)]) hx hb d_PathCheck_isRevoked_29 hl (by decide) rfl (fun ls hl => ?_)
    refine lv_aload hx hb d_PathCheck_isRevoked_31 (lv_at hl 0 rfl) ?_
    refine lv_aload_n hx hb d_PathCheck_isRevoked_33 rfl (lv_at hl 3 rfl) ?_
    obtain ⟨i_7, fp_7, kw_7, ik_7, ti_7, hg_7⟩ := ty_12 hTy kh
    refine va_get (v := .long ti_7) hx hb htb i_PathCheck hown hK hP i_7 hg_7 rfl 1 (by decide) (htb _ q1_144) (fun _ h9 => h9) rfl d_PathCheck_isRevoked_34 ?_
    refine vp_callSi (pu_callV (As := [.long ti_7]) (rest := []) ⟨hx, hb, hml, hown, hts⟩ tbin (p_isAtP l dC dI sb γ κ Ad ν ω L11 G11 s_4 _ _ hTy ks_4 ) q6_65 q6_58 q9_221 q1_20 q6_59 (n := 1) (by decide +kernel) rfl ⟨rfl, rfl⟩ ⟨Nat.le_of_ble_eq_true rfl, Nat.le_of_ble_eq_true rfl⟩ ⟨Nat.le_of_ble_eq_true rfl, Nat.le_of_ble_eq_true rfl⟩ hN (hT0.keep hS hAs) hK hP (List.range G11.length) (rg_all G11) [0, 1, 2, 3] rfl i_6 2 hg_6 rfl rfl hl.1 rfl (Nat.le_of_ble_eq_true rfl) d_PathCheck_isRevoked_37) (fun r37 hr37 => ?_)
    refine w_join (J := fun jv40 => bz jv40 (jv40 = 1)) (pc := 65) (ls := ls) (rest := []) (fun jv40 hjv40 => ?_) (fun k65 => ?_)
    · skip
      refine lv_istore (lv' := [(8, .int jv40), (7, .ref s_4), (6, .int (nI z11)), (5, .int x11_5), (0, .ref h), (1, .ref c8), (2, .ref c9), (3, .ref qs), (4, .ref r9)]) hx hb d_PathCheck_isRevoked_65 hl (by decide) rfl (fun ls hl => ?_)
      refine lv_iload hx hb d_PathCheck_isRevoked_67 (lv_at hl 0 rfl) ?_
      refine lv_if_eq (tgt := 127) hx hb d_PathCheck_isRevoked_69 (by decide) (fun c69 => ?_) (fun c69 => ?_)
      · have p69 : jv40 = (0 : Int32) := c69
        refine lv_iinc (v := nI (z11 + 1)) (lv' := [(6, .int (nI (z11 + 1))), (8, .int jv40), (7, .ref s_4), (5, .int x11_5), (0, .ref h), (1, .ref c8), (2, .ref c9), (3, .ref qs), (4, .ref r9)]) hx hb d_PathCheck_isRevoked_127 hl (k := 2) rfl (nI_1 _) (by decide) rfl (fun ls hl => ?_)
        refine lv_goto (tgt := 11) hx hb d_PathCheck_isRevoked_130 (by decide) ?_
        exact ih11 (z11 + 1, x11_5, G11) _ _ ls (by dsimp only; omega) ⟨by dsimp only; omega, ⟨_, hL11, hTy⟩, hFR, hJ11⟩ hP hD hS (lv_sub hl [0, 3, 4, 5, 6, 7, 8] rfl)
      · have p69 : ¬ (jv40 = (0 : Int32)) := c69
        refine lv_aload hx hb d_PathCheck_isRevoked_72 (lv_at hl 1 rfl) ?_
        refine va_get (v := .ref is_6) hx hb htb i_Paper hown hK hP i_6 hg_6 rfl 5 (by decide) (htb _ q2_216) (fun _ h9 => h9) rfl d_PathCheck_isRevoked_74 ?_
        refine lv_aload_n hx hb d_PathCheck_isRevoked_77 rfl (lv_at hl 5 rfl) ?_
        obtain ⟨i_8, nm_8, pe_8, ec_8, se_8, su_8, mo_8, ok_8, ik_8, ha_8, si_8, en_8, bo_8, sg_8, is_8, iu_8, K_8, B_8, hg_8⟩ := ty_8 hTy kc8
        obtain ⟨⟨A_8, knm_8⟩, ⟨B1_8, B2_8, kpe_8⟩, ⟨C1_8, C2_8, kec_8⟩, kse_8, ⟨z1_8, ksu_8⟩, ⟨z2_8, kmo_8⟩, ⟨z3_8, kok_8⟩, ⟨z4_8, kik_8⟩, kha_8, ksi_8, ken_8, ⟨z5_8, kbo_8⟩, ⟨z6_8, ksg_8⟩, ⟨z7_8, kis_8⟩⟩ := K_8
        refine va_get (v := .ref is_8) hx hb htb i_Certificate hown hK hP i_8 hg_8 rfl 24 (by decide) (htb _ q2_217) (fun x9 h9 => u_same (htb _ q2_213) x9 h9) rfl d_PathCheck_isRevoked_78 ?_
        obtain ⟨i_9, t_9, n_9, f_9, gt_9, kt_9, hb_9, hm_9, hg_9⟩ := ty_2 hTy kis_6
        obtain ⟨i_10, u_10, hu_10, hn_10, hg_10⟩ := ty_1 hTy kt_9
        obtain ⟨i_11, t_11, n_11, f_11, gt_11, kt_11, hb_11, hm_11, hg_11⟩ := ty_2 hTy kis_8
        obtain ⟨i_12, u_12, hu_12, hn_12, hg_12⟩ := ty_1 hTy kt_11
        refine vp_callSi (pu_callV (As := [.ref is_8]) (rest := []) ⟨hx, hb, hml, hown, hts⟩ tbin (c_Slice_same l dC dI sb is_6 is_8 t_9 t_11 f_9 (f_9 + z7_6) n_9 f_11 (f_11 + z7_8) n_11 γ.1 γ.1 u_10 u_12 hu_10 (by omega) (by omega) (by omega) hu_12 (by omega) (by omega) (by omega)) q6_70 q4_27 q4_28 q1_22 q4_29 (n := 1) (by decide +kernel) rfl ⟨rfl, rfl⟩ ⟨Nat.le_of_ble_eq_true rfl, Nat.le_of_ble_eq_true rfl⟩ ⟨Nat.le_of_ble_eq_true rfl, Nat.le_of_ble_eq_true rfl⟩ hN (hT0.keep hS hAs) hK hP [i_9, i_10, i_11, i_12] (by simp only [List.filterMap_cons, List.filterMap_nil, hg_9, hg_10, hg_11, hg_12]) [0, 0] rfl i_9 0 hg_9 rfl rfl hl.1 rfl (Nat.le_of_ble_eq_true rfl) d_PathCheck_isRevoked_81) (fun r81 hr81 => ?_)
        refine lv_if_eq (tgt := 127) hx hb d_PathCheck_isRevoked_84 (by decide) (fun c84 => ?_) (fun c84 => ?_)
        · have p84 : r81 = (0 : Int32) := c84
          refine lv_iinc (v := nI (z11 + 1)) (lv' := [(6, .int (nI (z11 + 1))), (8, .int jv40), (7, .ref s_4), (5, .int x11_5), (0, .ref h), (1, .ref c8), (2, .ref c9), (3, .ref qs), (4, .ref r9)]) hx hb d_PathCheck_isRevoked_127 hl (k := 2) rfl (nI_1 _) (by decide) rfl (fun ls hl => ?_)
          refine lv_goto (tgt := 11) hx hb d_PathCheck_isRevoked_130 (by decide) ?_
          exact ih11 (z11 + 1, x11_5, G11) _ _ ls (by dsimp only; omega) ⟨by dsimp only; omega, ⟨_, hL11, hTy⟩, hFR, hJ11⟩ hP hD hS (lv_sub hl [0, 3, 4, 5, 6, 7, 8] rfl)
        · have p84 : ¬ (r81 = (0 : Int32)) := c84
          refine lv_aload hx hb d_PathCheck_isRevoked_87 (lv_at hl 8 rfl) ?_
          refine lv_aload hx hb d_PathCheck_isRevoked_89 (lv_at hl 1 rfl) ?_
          refine lv_aload_n hx hb d_PathCheck_isRevoked_91 rfl (lv_at hl 6 rfl) ?_
          have hFc := va_free (wc := G11) hD hS hA (List.range G11.length) (rg_is _)
          obtain ⟨i_14, mo_14, sq_14, ba_14, po_14, un_14, su_14, iv_14, kmo_14, ksq_14, kba_14, kpo_14, kun_14, ksu_14, hg_14⟩ := ty_10 hTy kr9
          refine va_calli (mu_runV (As := [.ref s_4, .ref c9]) (rest := []) ⟨hx, hb, hml, hown, hts⟩ tbin (m_isSignedP l dC dI sb γ κ Ad ν ω L11 G11 r9 s_4 c9 _ _ _ HL11.size hTy kr9 ks_4 kc9 hL11 h1 hX) q6_53 q5_177 q5_178 q1_6 q5_179 (n := 2) (by decide +kernel) rfl ⟨rfl, rfl⟩ ⟨Nat.le_of_ble_eq_true rfl, Nat.le_of_ble_eq_true rfl⟩ ⟨Nat.le_of_ble_eq_true rfl, Nat.le_of_ble_eq_true rfl⟩ hN (hT0.keep hS hAs) hAs (Nat.le_trans hB0 hS.1) hK hP hD (List.range G11.length) (rg_nd _) (rg_is _) [0, 1, 2, 3] rfl i_14 7 hg_14 rfl rfl hl.1 rfl (Nat.le_of_ble_eq_true rfl) d_PathCheck_isRevoked_92) hS (fun q _ h => hFc q h) hFc (fun r92 G_13 tS H92 locs ht hvm hw92 hB hz1 hk1 hS => ?_)
          obtain ⟨⟨L92, hL92, hTy⟩, hF9, hr92⟩ := hw92
          have hFR := hFR.tr hF9
          obtain ⟨hP1, hK1, hD1⟩ := hB
          rw [ht] at hP1
          have hP : va_P (dC, dI) classes G_13 H92 := hP1
          have hD : va_D A G_13 := hD1.weaken (fun _ _ _ h => hFc _ h)
          refine lv_if_eq (tgt := 127) hx hb d_PathCheck_isRevoked_95 (by decide) (fun c95 => ?_) (fun c95 => ?_)
          · have p95 : r92 = (0 : Int32) := c95
            refine lv_iinc (v := nI (z11 + 1)) (lv' := [(6, .int (nI (z11 + 1))), (8, .int jv40), (7, .ref s_4), (5, .int x11_5), (0, .ref h), (1, .ref c8), (2, .ref c9), (3, .ref qs), (4, .ref r9)]) hx hb d_PathCheck_isRevoked_127 hl (k := 2) rfl (nI_1 _) (by decide) rfl (fun ls hl => ?_)
            refine lv_goto (tgt := 11) hx hb d_PathCheck_isRevoked_130 (by decide) ?_
            exact ih11 (z11 + 1, x11_5, G_13) _ _ ls (by dsimp only; omega) ⟨by dsimp only; omega, ⟨_, hL92, hTy⟩, hFR, hJ11⟩ hP hD hS (lv_sub hl [0, 3, 4, 5, 6, 7, 8] rfl)
          · have p95 : ¬ (r92 = (0 : Int32)) := c95
            refine lv_aload_n hx hb d_PathCheck_isRevoked_98 rfl (lv_at hl 4 rfl) ?_
            refine lv_iconst (v := 1) hx hb d_PathCheck_isRevoked_99 (by decide) ?_
            obtain ⟨i_15, fp_15, kw_15, ik_15, ti_15, hg_15⟩ := ty_12 hTy kh
            refine va_put (v := .int 1) (ty := .boolean) hx hb htb i_PathCheck t_PathCheck t_PathCheck_ok n_PathCheck hown hK hP hD hS i_15 hg_15 rfl 3 (by decide) (htb _ q1_146) (fun _ h9 => h9) rfl (by decide +kernel) rfl rfl (Nat.le_of_ble_eq_true rfl) d_PathCheck_isRevoked_100 (fun H100 locs hP hD2 hS => ?_)
            have hP : va_P (dC, dI) classes (G_13.set i_15 (h, .inr (9, [.int fp_15, .long ti_15, .int kw_15, .int 1]))) H100 := hP
            have hD3 : va_D A (G_13.set i_15 (h, .inr (9, [.int fp_15, .long ti_15, .int kw_15, .int 1]))) := hD2
            have hFR := hFR.tr (FR.set (c' := .inr (9, [.int fp_15, .long ti_15, .int kw_15, .int 1])) hg_15 kh.1)
            have hTy := TY.set (c' := .inr (9, [.int fp_15, .long ti_15, .int kw_15, .int 1])) hTy hg_15 (ok_12 kh _ _ _ _)
            have hD := hD3
            have hg_15 := set_here (c' := .inr (9, [.int fp_15, .long ti_15, .int kw_15, .int 1])) hg_15
            clear hD3 hD2
            generalize G_13.set i_15 (h, .inr (9, [.int fp_15, .long ti_15, .int kw_15, .int 1])) = G_16 at hP hD hTy hFR hg_15
            refine lv_iload hx hb d_PathCheck_isRevoked_103 (lv_at hl 3 rfl) ?_
            refine w_join (J := fun jv105 => bz jv105 (jv105 = 1)) (pc := 125) (ls := ls) (rest := []) (fun jv105 hjv105 => ?_) (fun k125 => ?_)
            · skip
              refine lv_istore (lv' := [(5, .int jv105), (8, .int jv40), (7, .ref s_4), (6, .int (nI z11)), (0, .ref h), (1, .ref c8), (2, .ref c9), (3, .ref qs), (4, .ref r9)]) hx hb d_PathCheck_isRevoked_125 hl (by decide) rfl (fun ls hl => ?_)
              refine lv_iinc (v := nI (z11 + 1)) (lv' := [(6, .int (nI (z11 + 1))), (5, .int jv105), (8, .int jv40), (7, .ref s_4), (0, .ref h), (1, .ref c8), (2, .ref c9), (3, .ref qs), (4, .ref r9)]) hx hb d_PathCheck_isRevoked_127 hl (k := 3) rfl (nI_1 _) (by decide) rfl (fun ls hl => ?_)
              refine lv_goto (tgt := 11) hx hb d_PathCheck_isRevoked_130 (by decide) ?_
              exact ih11 (z11 + 1, jv105, G_16) _ _ ls (by dsimp only; omega) ⟨by dsimp only; omega, ⟨_, hL92, hTy⟩, hFR, hjv105⟩ hP hD hS (lv_sub hl [0, 1, 4, 5, 6, 7, 8] rfl)
            · skip
              refine lv_if_ne (tgt := 120) hx hb d_PathCheck_isRevoked_105 (by decide) (fun c105 => ?_) (fun c105 => ?_)
              · have p105 : ¬ (x11_5 = (0 : Int32)) := c105
                refine lv_iconst (v := 1) hx hb d_PathCheck_isRevoked_120 (by decide) ?_
                refine lv_goto (tgt := 125) hx hb d_PathCheck_isRevoked_121 (by decide) ?_
                exact k125 _ (bz_t rfl)
              · have p105 : x11_5 = (0 : Int32) := c105
                refine lv_aload hx hb d_PathCheck_isRevoked_108 (lv_at hl 1 rfl) ?_
                refine lv_aload_n hx hb d_PathCheck_isRevoked_110 rfl (lv_at hl 5 rfl) ?_
                obtain ⟨i_17, nm_17, pe_17, ec_17, se_17, su_17, mo_17, ok_17, ik_17, ha_17, si_17, en_17, bo_17, sg_17, is_17, iu_17, K_17, B_17, hg_17⟩ := ty_8 hTy kc8
                obtain ⟨⟨A_17, knm_17⟩, ⟨B1_17, B2_17, kpe_17⟩, ⟨C1_17, C2_17, kec_17⟩, kse_17, ⟨z1_17, ksu_17⟩, ⟨z2_17, kmo_17⟩, ⟨z3_17, kok_17⟩, ⟨z4_17, kik_17⟩, kha_17, ksi_17, ken_17, ⟨z5_17, kbo_17⟩, ⟨z6_17, ksg_17⟩, ⟨z7_17, kis_17⟩⟩ := K_17
                refine va_get (v := .ref se_17) hx hb htb i_Certificate hown hK hP i_17 hg_17 rfl 3 (by decide) (htb _ q2_149) (fun _ h9 => h9) rfl d_PathCheck_isRevoked_111 ?_
                obtain ⟨i_18, ha_18, si_18, en_18, bo_18, sg_18, is_18, kha_18, ksi_18, ken_18, ⟨z5_18, kbo_18⟩, ⟨z6_18, ksg_18⟩, ⟨z7_18, kis_18⟩, hw_18, hg_18⟩ := ty_9 hTy ks_4
                refine vp_callSi (pu_callV (As := [.ref se_17]) (rest := []) ⟨hx, hb, hml, hown, hts⟩ tbin (p_Paper_hasEntry l dC dI sb γ κ Ad ν ω L92 G_16 s_4 se_17 _ _ hTy ks_4 kse_17 ) q6_71 q6_72 q6_73 q1_20 q6_76 (n := 1) (by decide +kernel) rfl ⟨rfl, rfl⟩ ⟨Nat.le_of_ble_eq_true rfl, Nat.le_of_ble_eq_true rfl⟩ ⟨Nat.le_of_ble_eq_true rfl, Nat.le_of_ble_eq_true rfl⟩ hN (hT0.keep hS hAs) hK hP (List.range G_16.length) (rg_all G_16) [0, 1, 2, 3] rfl i_18 2 hg_18 rfl rfl hl.1 rfl (Nat.le_of_ble_eq_true rfl) d_PathCheck_isRevoked_114) (fun r114 hr114 => ?_)
                refine lv_if_eq (tgt := 124) hx hb d_PathCheck_isRevoked_117 (by decide) (fun c117 => ?_) (fun c117 => ?_)
                · have p117 : r114 = (0 : Int32) := c117
                  refine lv_iconst (v := 0) hx hb d_PathCheck_isRevoked_124 (by decide) ?_
                  exact k125 _ (bz_f (by decide))
                · have p117 : ¬ (r114 = (0 : Int32)) := c117
                  refine lv_iconst (v := 1) hx hb d_PathCheck_isRevoked_120 (by decide) ?_
                  refine lv_goto (tgt := 125) hx hb d_PathCheck_isRevoked_121 (by decide) ?_
                  exact k125 _ (bz_t rfl)
    · skip
      refine lv_if_eq (tgt := 64) hx hb d_PathCheck_isRevoked_40 (by decide) (fun c40 => ?_) (fun c40 => ?_)
      · have p40 : r37 = (0 : Int32) := c40
        refine lv_iconst (v := 0) hx hb d_PathCheck_isRevoked_64 (by decide) ?_
        exact k65 _ (bz_f (by decide))
      · have p40 : ¬ (r37 = (0 : Int32)) := c40
        refine lv_aload hx hb d_PathCheck_isRevoked_43 (lv_at hl 0 rfl) ?_
        refine va_get (v := .int ((ν s_4).2.2.2.2.2.2.2.2.2.2.2.1)) hx hb htb i_Paper hown hK hP i_6 hg_6 rfl 8 (by decide) (htb _ q2_235) (fun _ h9 => h9) rfl d_PathCheck_isRevoked_45 ?_
        refine lv_if_ne (tgt := 64) hx hb d_PathCheck_isRevoked_48 (by decide) (fun c48 => ?_) (fun c48 => ?_)
        · have p48 : ¬ (((ν s_4).2.2.2.2.2.2.2.2.2.2.2.1) = (0 : Int32)) := c48
          refine lv_iconst (v := 0) hx hb d_PathCheck_isRevoked_64 (by decide) ?_
          exact k65 _ (bz_f (by decide))
        · have p48 : ((ν s_4).2.2.2.2.2.2.2.2.2.2.2.1) = (0 : Int32) := c48
          refine lv_aload_n hx hb d_PathCheck_isRevoked_51 rfl (lv_at hl 5 rfl) ?_
          refine lv_bipush (v := 6) hx hb d_PathCheck_isRevoked_52 (by decide) ?_
          obtain ⟨i_19, nm_19, pe_19, ec_19, se_19, su_19, mo_19, ok_19, ik_19, ha_19, si_19, en_19, bo_19, sg_19, is_19, iu_19, K_19, B_19, hg_19⟩ := ty_8 hTy kc9
          obtain ⟨⟨A_19, knm_19⟩, ⟨B1_19, B2_19, kpe_19⟩, ⟨C1_19, C2_19, kec_19⟩, kse_19, ⟨z1_19, ksu_19⟩, ⟨z2_19, kmo_19⟩, ⟨z3_19, kok_19⟩, ⟨z4_19, kik_19⟩, kha_19, ksi_19, ken_19, ⟨z5_19, kbo_19⟩, ⟨z6_19, ksg_19⟩, ⟨z7_19, kis_19⟩⟩ := K_19
          refine vp_callSi (pu_callV (As := [.int 6]) (rest := []) ⟨hx, hb, hml, hown, hts⟩ tbin (p_Certificate_mayUse l dC dI sb γ κ Ad ν ω L11 G11 c9 _ _ _ hTy kc9 ) q6_66 q6_67 q6_68 q1_21 q6_69 (n := 1) (by decide +kernel) rfl ⟨rfl, rfl⟩ ⟨Nat.le_of_ble_eq_true rfl, Nat.le_of_ble_eq_true rfl⟩ ⟨Nat.le_of_ble_eq_true rfl, Nat.le_of_ble_eq_true rfl⟩ hN (hT0.keep hS hAs) hK hP (List.range G11.length) (rg_all G11) [0, 1, 2, 3] rfl i_19 3 hg_19 rfl rfl hl.1 rfl (Nat.le_of_ble_eq_true rfl) d_PathCheck_isRevoked_54) (fun r54 hr54 => ?_)
          refine lv_if_eq (tgt := 64) hx hb d_PathCheck_isRevoked_57 (by decide) (fun c57 => ?_) (fun c57 => ?_)
          · have p57 : r54 = (0 : Int32) := c57
            refine lv_iconst (v := 0) hx hb d_PathCheck_isRevoked_64 (by decide) ?_
            exact k65 _ (bz_f (by decide))
          · have p57 : ¬ (r54 = (0 : Int32)) := c57
            refine lv_iconst (v := 1) hx hb d_PathCheck_isRevoked_60 (by decide) ?_
            refine lv_goto (tgt := 65) hx hb d_PathCheck_isRevoked_61 (by decide) ?_
            exact k65 _ (bz_t rfl)
def y_PathCheck_faultAt : MethodName := ⟨"TrustChain$PathCheck", "faultAt", "(Ljava/util/ArrayList;ILjava/util/ArrayList;LTrustChain$Rsa;)I"⟩
abbrev b_PathCheck_faultAt : ByteArray := prog_7_method_4_code
def w_PathCheck_faultAt : List Cond := Cond.code y_PathCheck_faultAt b_PathCheck_faultAt 7 ((some FieldType.int)) :: tb
theorem d_PathCheck_faultAt_0 : decode b_PathCheck_faultAt 0 = .ok (.iload_n 2, 1) := by decide +kernel
theorem d_PathCheck_faultAt_1 : decode b_PathCheck_faultAt 1 = .ok (.ifCond .lt 13, 3) := by decide +kernel
theorem d_PathCheck_faultAt_4 : decode b_PathCheck_faultAt 4 = .ok (.iload_n 2, 1) := by decide +kernel
theorem d_PathCheck_faultAt_5 : decode b_PathCheck_faultAt 5 = .ok (.iconst 1, 1) := by decide +kernel
theorem d_PathCheck_faultAt_6 : decode b_PathCheck_faultAt 6 = .ok (.iadd, 1) := by decide +kernel
theorem d_PathCheck_faultAt_7 : decode b_PathCheck_faultAt 7 = .ok (.aload_n 1, 1) := by decide +kernel
theorem d_PathCheck_faultAt_8 : decode b_PathCheck_faultAt 8 = .ok (.invokevirtual 26, 3) := by decide +kernel
theorem d_PathCheck_faultAt_11 : decode b_PathCheck_faultAt 11 = .ok (.if_icmp .lt 5, 3) := by decide +kernel
theorem d_PathCheck_faultAt_14 : decode b_PathCheck_faultAt 14 = .ok (.iconst 0, 1) := by decide +kernel
theorem d_PathCheck_faultAt_15 : decode b_PathCheck_faultAt 15 = .ok (.ireturn, 1) := by decide +kernel
theorem d_PathCheck_faultAt_16 : decode b_PathCheck_faultAt 16 = .ok (.aload_n 1, 1) := by decide +kernel
theorem d_PathCheck_faultAt_17 : decode b_PathCheck_faultAt 17 = .ok (.iload_n 2, 1) := by decide +kernel
theorem d_PathCheck_faultAt_18 : decode b_PathCheck_faultAt 18 = .ok (.invokevirtual 36, 3) := by decide +kernel
theorem d_PathCheck_faultAt_21 : decode b_PathCheck_faultAt 21 = .ok (.checkcast 40, 3) := by decide +kernel
theorem d_PathCheck_faultAt_24 : decode b_PathCheck_faultAt 24 = .ok (.astore 5, 2) := by decide +kernel
theorem d_PathCheck_faultAt_26 : decode b_PathCheck_faultAt 26 = .ok (.aload_n 1, 1) := by decide +kernel
theorem d_PathCheck_faultAt_27 : decode b_PathCheck_faultAt 27 = .ok (.iload_n 2, 1) := by decide +kernel
theorem d_PathCheck_faultAt_28 : decode b_PathCheck_faultAt 28 = .ok (.iconst 1, 1) := by decide +kernel
theorem d_PathCheck_faultAt_29 : decode b_PathCheck_faultAt 29 = .ok (.iadd, 1) := by decide +kernel
theorem d_PathCheck_faultAt_30 : decode b_PathCheck_faultAt 30 = .ok (.invokevirtual 36, 3) := by decide +kernel
theorem d_PathCheck_faultAt_33 : decode b_PathCheck_faultAt 33 = .ok (.checkcast 40, 3) := by decide +kernel
theorem d_PathCheck_faultAt_36 : decode b_PathCheck_faultAt 36 = .ok (.astore 6, 2) := by decide +kernel
theorem d_PathCheck_faultAt_38 : decode b_PathCheck_faultAt 38 = .ok (.aload 4, 2) := by decide +kernel
theorem d_PathCheck_faultAt_40 : decode b_PathCheck_faultAt 40 = .ok (.aload 5, 2) := by decide +kernel
theorem d_PathCheck_faultAt_42 : decode b_PathCheck_faultAt 42 = .ok (.aload 6, 2) := by decide +kernel
theorem d_PathCheck_faultAt_44 : decode b_PathCheck_faultAt 44 = .ok (.invokevirtual 42, 3) := by decide +kernel
theorem d_PathCheck_faultAt_47 : decode b_PathCheck_faultAt 47 = .ok (.ifCond .ne 5, 3) := by decide +kernel
theorem d_PathCheck_faultAt_50 : decode b_PathCheck_faultAt 50 = .ok (.iconst 1, 1) := by decide +kernel
theorem d_PathCheck_faultAt_51 : decode b_PathCheck_faultAt 51 = .ok (.ireturn, 1) := by decide +kernel
theorem d_PathCheck_faultAt_52 : decode b_PathCheck_faultAt 52 = .ok (.aload 5, 2) := by decide +kernel
theorem d_PathCheck_faultAt_54 : decode b_PathCheck_faultAt 54 = .ok (.aload_n 0, 1) := by decide +kernel
theorem d_PathCheck_faultAt_55 : decode b_PathCheck_faultAt 55 = .ok (.getfield 15, 3) := by decide +kernel
theorem d_PathCheck_faultAt_58 : decode b_PathCheck_faultAt 58 = .ok (.invokevirtual 48, 3) := by decide +kernel
theorem d_PathCheck_faultAt_61 : decode b_PathCheck_faultAt 61 = .ok (.ifCond .ne 5, 3) := by decide +kernel
theorem d_PathCheck_faultAt_64 : decode b_PathCheck_faultAt 64 = .ok (.iconst 2, 1) := by decide +kernel
theorem d_PathCheck_faultAt_65 : decode b_PathCheck_faultAt 65 = .ok (.ireturn, 1) := by decide +kernel
theorem d_PathCheck_faultAt_66 : decode b_PathCheck_faultAt 66 = .ok (.aload_n 0, 1) := by decide +kernel
theorem d_PathCheck_faultAt_67 : decode b_PathCheck_faultAt 67 = .ok (.aload 5, 2) := by decide +kernel
theorem d_PathCheck_faultAt_69 : decode b_PathCheck_faultAt 69 = .ok (.aload 6, 2) := by decide +kernel
theorem d_PathCheck_faultAt_71 : decode b_PathCheck_faultAt 71 = .ok (.aload_n 3, 1) := by decide +kernel
theorem d_PathCheck_faultAt_72 : decode b_PathCheck_faultAt 72 = .ok (.aload 4, 2) := by decide +kernel
theorem d_PathCheck_faultAt_74 : decode b_PathCheck_faultAt 74 = .ok (.invokevirtual 52, 3) := by decide +kernel
theorem d_PathCheck_faultAt_77 : decode b_PathCheck_faultAt 77 = .ok (.ifCond .eq 5, 3) := by decide +kernel
theorem d_PathCheck_faultAt_80 : decode b_PathCheck_faultAt 80 = .ok (.iconst 3, 1) := by decide +kernel
theorem d_PathCheck_faultAt_81 : decode b_PathCheck_faultAt 81 = .ok (.ireturn, 1) := by decide +kernel
theorem d_PathCheck_faultAt_82 : decode b_PathCheck_faultAt 82 = .ok (.aload_n 0, 1) := by decide +kernel
theorem d_PathCheck_faultAt_83 : decode b_PathCheck_faultAt 83 = .ok (.getfield 19, 3) := by decide +kernel
theorem d_PathCheck_faultAt_86 : decode b_PathCheck_faultAt 86 = .ok (.ifCond .eq 12, 3) := by decide +kernel
theorem d_PathCheck_faultAt_89 : decode b_PathCheck_faultAt 89 = .ok (.aload_n 0, 1) := by decide +kernel
theorem d_PathCheck_faultAt_90 : decode b_PathCheck_faultAt 90 = .ok (.getfield 23, 3) := by decide +kernel
theorem d_PathCheck_faultAt_93 : decode b_PathCheck_faultAt 93 = .ok (.ifCond .ne 5, 3) := by decide +kernel
theorem d_PathCheck_faultAt_96 : decode b_PathCheck_faultAt 96 = .ok (.iconst 4, 1) := by decide +kernel
theorem d_PathCheck_faultAt_97 : decode b_PathCheck_faultAt 97 = .ok (.ireturn, 1) := by decide +kernel
theorem d_PathCheck_faultAt_98 : decode b_PathCheck_faultAt 98 = .ok (.iload_n 2, 1) := by decide +kernel
theorem d_PathCheck_faultAt_99 : decode b_PathCheck_faultAt 99 = .ok (.ifCond .eq 11, 3) := by decide +kernel
theorem d_PathCheck_faultAt_102 : decode b_PathCheck_faultAt 102 = .ok (.aload 5, 2) := by decide +kernel
theorem d_PathCheck_faultAt_104 : decode b_PathCheck_faultAt 104 = .ok (.getfield 56, 3) := by decide +kernel
theorem d_PathCheck_faultAt_107 : decode b_PathCheck_faultAt 107 = .ok (.ifCond .ne 13, 3) := by decide +kernel
theorem d_PathCheck_faultAt_110 : decode b_PathCheck_faultAt 110 = .ok (.aload_n 1, 1) := by decide +kernel
theorem d_PathCheck_faultAt_111 : decode b_PathCheck_faultAt 111 = .ok (.iload_n 2, 1) := by decide +kernel
theorem d_PathCheck_faultAt_112 : decode b_PathCheck_faultAt 112 = .ok (.invokestatic 59, 3) := by decide +kernel
theorem d_PathCheck_faultAt_115 : decode b_PathCheck_faultAt 115 = .ok (.ifCond .ne 5, 3) := by decide +kernel
theorem d_PathCheck_faultAt_118 : decode b_PathCheck_faultAt 118 = .ok (.iconst 5, 1) := by decide +kernel
theorem d_PathCheck_faultAt_119 : decode b_PathCheck_faultAt 119 = .ok (.ireturn, 1) := by decide +kernel
theorem d_PathCheck_faultAt_120 : decode b_PathCheck_faultAt 120 = .ok (.aload 5, 2) := by decide +kernel
theorem d_PathCheck_faultAt_122 : decode b_PathCheck_faultAt 122 = .ok (.getfield 63, 3) := by decide +kernel
theorem d_PathCheck_faultAt_125 : decode b_PathCheck_faultAt 125 = .ok (.ifCond .le 6, 3) := by decide +kernel
theorem d_PathCheck_faultAt_128 : decode b_PathCheck_faultAt 128 = .ok (.bipush 6, 2) := by decide +kernel
theorem d_PathCheck_faultAt_130 : decode b_PathCheck_faultAt 130 = .ok (.ireturn, 1) := by decide +kernel
theorem d_PathCheck_faultAt_131 : decode b_PathCheck_faultAt 131 = .ok (.iload_n 2, 1) := by decide +kernel
theorem d_PathCheck_faultAt_132 : decode b_PathCheck_faultAt 132 = .ok (.ifCond .ne 7, 3) := by decide +kernel
theorem d_PathCheck_faultAt_135 : decode b_PathCheck_faultAt 135 = .ok (.iconst 0, 1) := by decide +kernel
theorem d_PathCheck_faultAt_136 : decode b_PathCheck_faultAt 136 = .ok (.goto 9, 3) := by decide +kernel
theorem d_PathCheck_faultAt_139 : decode b_PathCheck_faultAt 139 = .ok (.aload_n 0, 1) := by decide +kernel
theorem d_PathCheck_faultAt_140 : decode b_PathCheck_faultAt 140 = .ok (.aload_n 1, 1) := by decide +kernel
theorem d_PathCheck_faultAt_141 : decode b_PathCheck_faultAt 141 = .ok (.iload_n 2, 1) := by decide +kernel
theorem d_PathCheck_faultAt_142 : decode b_PathCheck_faultAt 142 = .ok (.invokevirtual 66, 3) := by decide +kernel
theorem d_PathCheck_faultAt_145 : decode b_PathCheck_faultAt 145 = .ok (.ireturn, 1) := by decide +kernel
set_option maxHeartbeats 4000000 in
set_option maxRecDepth 100000 in
theorem m_PathCheck_faultAt (l : Launch) (dC : Nat → ClassId) (dI : Nat → Nat → Nat) (sb : sB) (γ : cG) (κ : kE) (Ad : List Nat) (ν : Nat → cN) (ω : Nat → List Nat) (L : Nat) (G : va_W) (h p9 qs r9 : Nat) (o1 : alD) (as : List Nat) (k : Nat) (sz : Nat) (hTy : TY γ κ Ad ν ω L G) (kh : tK κ Ad h (12, 0, 0)) (kp9 : PLx γ sb κ Ad 8 p9 o1 as G) (kqs : tK κ Ad qs (17, (sb.2 5), 0)) (kr9 : tK κ Ad r9 (10, 0, 0)) (hL : L ≤ 64) (h1 : ∀ a, a ∈ Ad → (κ a).1 = 10 → a = r9) (hX : XC κ Ad ν ω) (hk : k < 2 ^ 20) : Met l y_PathCheck_faultAt w_PathCheck_faultAt ({ frames := 6, cells := 0, slots := 0, locals := 137 }) (mu_P [.ref h, .ref p9, .int (nI k), .ref qs, .ref r9] (dC, dI) sb G [(γ.1, .byte), (γ.2.1, .int), (γ.2.2.1, .long), (γ.2.2.2, .object "java/lang/Object")] sz) (va_Qi (fun r (G' : va_W) => (∃ L' : Nat, L' ≤ 64 ∧ TY γ κ Ad ν ω L' G') ∧ FR Ad G G' ∧ (True)) (mu_B (dC, dI) [(γ.1, .byte), (γ.2.1, .int), (γ.2.2.1, .long), (γ.2.2.2, .object "java/lang/Object")] (va_A G sz) (fun G' : va_W => G')) (va_A G sz)) 0 0 (va_A G sz) := by
  refine Met.ofW (cc := b_PathCheck_faultAt) (maxL := 7) (ret := (some FieldType.int)) (by decide) rfl ?_
  intro p e s m args below meth c s₁ B hml hv
  obtain ⟨rfl, hsz, hB0, hP, hK, hD0, hN, hT0⟩ := hv
  have hx := B.exec
  have hb := B.bytes
  have hr := B.returns
  have hts := atoms_spec (ws := w_PathCheck_faultAt) B.pre
  have tbin : ∀ w ∈ tb, w ∈ w_PathCheck_faultAt := fun w h => List.mem_cons_of_mem _ h
  have htb : ∀ w ∈ tb, w.before _ s = true := fun w h => hts w (tbin w h)
  have hown : s.vm.findClass "TrustChain$PathCheck" = some m.cls := findClass_of_methodNamed B.named
  have hlocks := B.notSynchronized
  subst hsz
  have hD := hD0.self (sz := s.heap.size)
  generalize hAe : va_A G s.heap.size = A at hD ⊢
  have hA : ∀ q : Nat, s.heap.size ≤ q → A q := fun q h => by rw [← hAe]; exact Or.inr h
  have hAs : ∀ q : Nat, A q → sb.1 ≤ q := fun q h => by
    rw [← hAe] at h
    rcases h with ⟨k, e, h⟩ | h
    · exact hD0.2 k _ h
    · exact Nat.le_trans hB0 h
  have hS : va_S A s.heap s.heap [] := va_S.rf
  have hFR := FR.rf Ad G
  have hcs : 0 ≤ (headSpec w_PathCheck_faultAt ({ frames := 6, cells := 0, slots := 0, locals := 137 })).room.cells ∧ 0 ≤ (headSpec w_PathCheck_faultAt ({ frames := 6, cells := 0, slots := 0, locals := 137 })).room.slots := ⟨Nat.le_refl _, Nat.le_refl _⟩
  have hP : va_P (dC, dI) classes G s.heap := hP
  have hl := lv_entry ([.ref h, .ref p9, .int (nI k), .ref qs, .ref r9]) (n := 7) (Nat.le_of_ble_eq_true rfl)
  rw [lg_entry_eq]
  generalize (lg_sl ([.ref h, .ref p9, .int (nI k), .ref qs, .ref r9]) ++ List.replicate (7 - (lg_sl ([.ref h, .ref p9, .int (nI k), .ref qs, .ref r9])).length) Slot.unset).toArray = ls at hl ⊢
  have hl : lv_has ls 7 [(0, .ref h), (1, .ref p9), (2, .int (nI k)), (3, .ref qs), (4, .ref r9)] := hl
  have kp9_0 := kp9
  refine lv_iload_n hx hb d_PathCheck_faultAt_0 rfl (lv_at hl 2 rfl) ?_
  refine lv_if_lt (tgt := 14) hx hb d_PathCheck_faultAt_1 (by decide) (fun c1 => ?_) (fun c1 => ?_)
  · have p1 : k < 0 := ((nI_ltI (a := k) (b := 0) (by omega) (by omega)).mp c1)
    refine lv_iconst (v := 0) hx hb d_PathCheck_faultAt_14 (by decide) ?_
    exact W.iret (v := 0) hx hb hr (fun t ht hW => ⟨⟨_, G, rfl, ⟨⟨_, hL, hTy⟩, hFR, trivial⟩, by rw [ht]; exact hP, va_K.moved hW.alike hK, hD⟩, hS.F ht⟩) hS.2.2 d_PathCheck_faultAt_15
  · have p1 : ¬ (k < 0) := (fun q9 => c1 ((nI_ltI (a := k) (b := 0) (by omega) (by omega)).mpr q9))
    refine lv_iload_n hx hb d_PathCheck_faultAt_4 rfl (lv_at hl 2 rfl) ?_
    refine lv_iconst (v := 1) hx hb d_PathCheck_faultAt_5 (by decide) ?_
    refine lv_iadd hx hb d_PathCheck_faultAt_6 ?_
    rw [show ((nI k) + 1 : Int32) = nI (k + 1) from nI_add k 1]
    refine lv_aload_n hx hb d_PathCheck_faultAt_7 rfl (lv_at hl 1 rfl) ?_
    obtain ⟨i_1, m_1, hK_1, hg_1⟩ := pl_size kp9
    refine vp_callSi (pu_callV (As := []) (rest := [.int (nI (k + 1))]) ⟨hx, hb, hml, hown, hts⟩ tbin (c_AL_size l dC dI sb p9 (alO sb o1) as.length m_1) q6_46 q2_54 q2_55 q1_4 q2_56 (n := 0) (by decide +kernel) rfl ⟨rfl, rfl⟩ ⟨Nat.le_of_ble_eq_true rfl, Nat.le_of_ble_eq_true rfl⟩ ⟨Nat.le_of_ble_eq_true rfl, Nat.le_of_ble_eq_true rfl⟩ hN (hT0.keep hS hAs) hK hP [i_1] (by simp only [List.filterMap_cons, List.filterMap_nil, hg_1]) [] rfl i_1 11 hg_1 rfl rfl hl.1 rfl (Nat.le_of_ble_eq_true rfl) d_PathCheck_faultAt_8) (fun r8 hr8 => ?_)
    subst hr8
    refine lv_icmp_lt (tgt := 16) hx hb d_PathCheck_faultAt_11 (by decide) (fun c11 => ?_) (fun c11 => ?_)
    · have p11 : (k + 1) < as.length := ((nI_ltI (a := (k + 1)) (b := as.length) (by omega) (by omega)).mp c11)
      refine lv_aload_n hx hb d_PathCheck_faultAt_16 rfl (lv_at hl 1 rfl) ?_
      refine lv_iload_n hx hb d_PathCheck_faultAt_17 rfl (lv_at hl 2 rfl) ?_
      obtain ⟨j_2, cap_2, f_2, p_2, q_2, hK_2, hc_2, hf_2, ks_2, h9_2, hq_2⟩ := pl_get kp9 (j := k) (by omega)
      obtain ⟨s_2, es_2⟩ : ∃ z, z = as.getD k 0 := ⟨_, rfl⟩
      rw [← es_2] at hf_2 ks_2
      refine va_csr (pu_callV (As := [.int (nI k)]) (rest := []) ⟨hx, hb, hml, hown, hts⟩ tbin (c_AL_get l dC dI sb p9 (alO sb o1) as.length cap_2 k s_2 m_1 γ.2.2.2 f_2 (by omega) hK_2 (by omega) hf_2) q6_51 q4_210 q4_211 q1_4 q4_212 (n := 1) (by decide +kernel) rfl ⟨rfl, rfl⟩ ⟨Nat.le_of_ble_eq_true rfl, Nat.le_of_ble_eq_true rfl⟩ ⟨Nat.le_of_ble_eq_true rfl, Nat.le_of_ble_eq_true rfl⟩ hN (hT0.keep hS hAs) hK hP [i_1, j_2] (by simp only [List.filterMap_cons, List.filterMap_nil, hg_1, hq_2]) [3] rfl i_1 11 hg_1 rfl rfl hl.1 rfl (Nat.le_of_ble_eq_true rfl) d_PathCheck_faultAt_18) (fun r18 hr18 => ?_)
      obtain rfl := Eq.symm hr18
      obtain ⟨i_3, nm_3, pe_3, ec_3, se_3, su_3, mo_3, ok_3, ik_3, ha_3, si_3, en_3, bo_3, sg_3, is_3, iu_3, K_3, B_3, hg_3⟩ := ty_8 hTy ks_2
      obtain ⟨⟨A_3, knm_3⟩, ⟨B1_3, B2_3, kpe_3⟩, ⟨C1_3, C2_3, kec_3⟩, kse_3, ⟨z1_3, ksu_3⟩, ⟨z2_3, kmo_3⟩, ⟨z3_3, kok_3⟩, ⟨z4_3, kik_3⟩, kha_3, ksi_3, ken_3, ⟨z5_3, kbo_3⟩, ⟨z6_3, ksg_3⟩, ⟨z7_3, kis_3⟩⟩ := K_3
      refine va_castY (C := "TrustChain$Certificate") hx hb hown (htb _ q6_52) (hN.1 _ qn9_223) (va_recv (ci := 3) hK hP rfl hg_3) d_PathCheck_faultAt_21 ?_
      refine lv_astore (lv' := [(5, .ref s_2), (0, .ref h), (1, .ref p9), (2, .int (nI k)), (3, .ref qs), (4, .ref r9)]) hx hb d_PathCheck_faultAt_24 hl (by decide) rfl (fun ls hl => ?_)
      refine lv_aload_n hx hb d_PathCheck_faultAt_26 rfl (lv_at hl 2 rfl) ?_
      refine lv_iload_n hx hb d_PathCheck_faultAt_27 rfl (lv_at hl 3 rfl) ?_
      refine lv_iconst (v := 1) hx hb d_PathCheck_faultAt_28 (by decide) ?_
      refine lv_iadd hx hb d_PathCheck_faultAt_29 ?_
      rw [show ((nI k) + 1 : Int32) = nI (k + 1) from nI_add k 1]
      obtain ⟨j_4, cap_4, f_4, p_4, q_4, hK_4, hc_4, hf_4, ks_4, h9_4, hq_4⟩ := pl_get kp9 (j := (k + 1)) (by omega)
      obtain ⟨s_4, es_4⟩ : ∃ z, z = as.getD (k + 1) 0 := ⟨_, rfl⟩
      rw [← es_4] at hf_4 ks_4
      refine va_csr (pu_callV (As := [.int (nI (k + 1))]) (rest := []) ⟨hx, hb, hml, hown, hts⟩ tbin (c_AL_get l dC dI sb p9 (alO sb o1) as.length cap_4 (k + 1) s_4 m_1 γ.2.2.2 f_4 (by omega) hK_4 (by omega) hf_4) q6_51 q4_210 q4_211 q1_4 q4_212 (n := 1) (by decide +kernel) rfl ⟨rfl, rfl⟩ ⟨Nat.le_of_ble_eq_true rfl, Nat.le_of_ble_eq_true rfl⟩ ⟨Nat.le_of_ble_eq_true rfl, Nat.le_of_ble_eq_true rfl⟩ hN (hT0.keep hS hAs) hK hP [i_1, j_4] (by simp only [List.filterMap_cons, List.filterMap_nil, hg_1, hq_4]) [3] rfl i_1 11 hg_1 rfl rfl hl.1 rfl (Nat.le_of_ble_eq_true rfl) d_PathCheck_faultAt_30) (fun r30 hr30 => ?_)
      obtain rfl := Eq.symm hr30
      obtain ⟨i_5, nm_5, pe_5, ec_5, se_5, su_5, mo_5, ok_5, ik_5, ha_5, si_5, en_5, bo_5, sg_5, is_5, iu_5, K_5, B_5, hg_5⟩ := ty_8 hTy ks_4
      obtain ⟨⟨A_5, knm_5⟩, ⟨B1_5, B2_5, kpe_5⟩, ⟨C1_5, C2_5, kec_5⟩, kse_5, ⟨z1_5, ksu_5⟩, ⟨z2_5, kmo_5⟩, ⟨z3_5, kok_5⟩, ⟨z4_5, kik_5⟩, kha_5, ksi_5, ken_5, ⟨z5_5, kbo_5⟩, ⟨z6_5, ksg_5⟩, ⟨z7_5, kis_5⟩⟩ := K_5
      refine va_castY (C := "TrustChain$Certificate") hx hb hown (htb _ q6_52) (hN.1 _ qn9_223) (va_recv (ci := 3) hK hP rfl hg_5) d_PathCheck_faultAt_33 ?_
      refine lv_astore (lv' := [(6, .ref s_4), (5, .ref s_2), (0, .ref h), (1, .ref p9), (2, .int (nI k)), (3, .ref qs), (4, .ref r9)]) hx hb d_PathCheck_faultAt_36 hl (by decide) rfl (fun ls hl => ?_)
      refine lv_aload hx hb d_PathCheck_faultAt_38 (lv_at hl 6 rfl) ?_
      refine lv_aload hx hb d_PathCheck_faultAt_40 (lv_at hl 1 rfl) ?_
      refine lv_aload hx hb d_PathCheck_faultAt_42 (lv_at hl 0 rfl) ?_
      have hFc := va_free (wc := G) hD hS hA (List.range G.length) (rg_is _)
      obtain ⟨i_7, mo_7, sq_7, ba_7, po_7, un_7, su_7, iv_7, kmo_7, ksq_7, kba_7, kpo_7, kun_7, ksu_7, hg_7⟩ := ty_10 hTy kr9
      refine va_calli (mu_runV (As := [.ref s_2, .ref s_4]) (rest := []) ⟨hx, hb, hml, hown, hts⟩ tbin (m_isSignedC l dC dI sb γ κ Ad ν ω L G r9 s_2 s_4 _ _ _ _ s.heap.size hTy kr9 ks_2 ks_4 hL h1 hX) q6_53 q5_177 q5_178 q1_6 q5_179 (n := 2) (by decide +kernel) rfl ⟨rfl, rfl⟩ ⟨Nat.le_of_ble_eq_true rfl, Nat.le_of_ble_eq_true rfl⟩ ⟨Nat.le_of_ble_eq_true rfl, Nat.le_of_ble_eq_true rfl⟩ hN (hT0.keep hS hAs) hAs (Nat.le_trans hB0 hS.1) hK hP hD (List.range G.length) (rg_nd _) (rg_is _) [0, 1, 2, 3] rfl i_7 7 hg_7 rfl rfl hl.1 rfl (Nat.le_of_ble_eq_true rfl) d_PathCheck_faultAt_44) hS (fun q _ h => hFc q h) hFc (fun r44 G_6 tS H44 locs ht hvm hw44 hB hz1 hk1 hS => ?_)
      obtain ⟨⟨L44, hL44, hTy⟩, hF9, hr44⟩ := hw44
      have hFR := hFR.tr hF9
      obtain ⟨hP1, hK1, hD1⟩ := hB
      rw [ht] at hP1
      have hP : va_P (dC, dI) classes G_6 H44 := hP1
      have hD : va_D A G_6 := hD1.weaken (fun _ _ _ h => hFc _ h)
      have kp9 := kp9_0.fr hFR
      refine lv_if_ne (tgt := 52) hx hb d_PathCheck_faultAt_47 (by decide) (fun c47 => ?_) (fun c47 => ?_)
      · have p47 : ¬ (r44 = (0 : Int32)) := c47
        refine lv_aload hx hb d_PathCheck_faultAt_52 (lv_at hl 1 rfl) ?_
        refine lv_aload_n hx hb d_PathCheck_faultAt_54 rfl (lv_at hl 2 rfl) ?_
        obtain ⟨i_8, fp_8, kw_8, ik_8, ti_8, hg_8⟩ := ty_12 hTy kh
        refine va_get (v := .long ti_8) hx hb htb i_PathCheck hown hK hP i_8 hg_8 rfl 1 (by decide) (htb _ q1_144) (fun _ h9 => h9) rfl d_PathCheck_faultAt_55 ?_
        obtain ⟨i_9, nm_9, pe_9, ec_9, se_9, su_9, mo_9, ok_9, ik_9, ha_9, si_9, en_9, bo_9, sg_9, is_9, iu_9, K_9, B_9, hg_9⟩ := ty_8 hTy ks_2
        obtain ⟨⟨A_9, knm_9⟩, ⟨B1_9, B2_9, kpe_9⟩, ⟨C1_9, C2_9, kec_9⟩, kse_9, ⟨z1_9, ksu_9⟩, ⟨z2_9, kmo_9⟩, ⟨z3_9, kok_9⟩, ⟨z4_9, kik_9⟩, kha_9, ksi_9, ken_9, ⟨z5_9, kbo_9⟩, ⟨z6_9, ksg_9⟩, ⟨z7_9, kis_9⟩⟩ := K_9
        refine vp_callSi (pu_callU (As := [.long ti_8]) (rest := []) ⟨hx, hb, hml, hown, hts⟩ (p_isAtC l dC dI sb γ κ Ad ν ω L44 G_6 s_2 _ _ _ hTy ks_2 ) (cu_of (n := 1) hts tbin q6_54 q6_55 q6_58 q6_57 q1_20 q6_59 rfl (by decide +kernel) ⟨rfl, rfl⟩ ⟨Nat.le_of_ble_eq_true rfl, Nat.le_of_ble_eq_true rfl⟩) rfl ⟨Nat.le_of_ble_eq_true rfl, Nat.le_of_ble_eq_true rfl⟩ hN (hT0.keep hS hAs) hK hP (List.range G_6.length) (rg_all G_6) [0, 1, 2, 3] rfl i_9 3 hg_9 rfl rfl hl.1 rfl (Nat.le_of_ble_eq_true rfl) d_PathCheck_faultAt_58) (fun r58 hr58 => ?_)
        refine lv_if_ne (tgt := 66) hx hb d_PathCheck_faultAt_61 (by decide) (fun c61 => ?_) (fun c61 => ?_)
        · have p61 : ¬ (r58 = (0 : Int32)) := c61
          refine lv_aload_n hx hb d_PathCheck_faultAt_66 rfl (lv_at hl 2 rfl) ?_
          refine lv_aload hx hb d_PathCheck_faultAt_67 (lv_at hl 1 rfl) ?_
          refine lv_aload hx hb d_PathCheck_faultAt_69 (lv_at hl 0 rfl) ?_
          refine lv_aload_n hx hb d_PathCheck_faultAt_71 rfl (lv_at hl 5 rfl) ?_
          refine lv_aload hx hb d_PathCheck_faultAt_72 (lv_at hl 6 rfl) ?_
          have hFc := va_free (wc := G_6) hD hS hA (List.range G_6.length) (rg_is _)
          refine va_calli (mu_runV (As := [.ref s_2, .ref s_4, .ref qs, .ref r9]) (rest := []) ⟨hx, hb, hml, hown, hts⟩ tbin (m_PathCheck_isRevoked l dC dI sb γ κ Ad ν ω L44 G_6 h s_2 s_4 qs r9 _ _ _ _ H44.size hTy kh ks_2 ks_4 kqs kr9 hL44 h1 hX) q6_60 q6_62 qp_32 q1_8 q6_63 (n := 4) (by decide +kernel) rfl ⟨rfl, rfl⟩ ⟨Nat.le_of_ble_eq_true rfl, Nat.le_of_ble_eq_true rfl⟩ ⟨Nat.le_of_ble_eq_true rfl, Nat.le_of_ble_eq_true rfl⟩ hN (hT0.keep hS hAs) hAs (Nat.le_trans hB0 hS.1) hK hP hD (List.range G_6.length) (rg_nd _) (rg_is _) [0, 1, 2, 3] rfl i_8 9 hg_8 rfl rfl hl.1 rfl (Nat.le_of_ble_eq_true rfl) d_PathCheck_faultAt_74) hS (fun q _ h => hFc q h) hFc (fun r74 G_10 tS H74 locs ht hvm hw74 hB hz1 hk1 hS => ?_)
          obtain ⟨⟨L74, hL74, hTy⟩, hF9, hr74⟩ := hw74
          have hFR := hFR.tr hF9
          obtain ⟨hP1, hK1, hD1⟩ := hB
          rw [ht] at hP1
          have hP : va_P (dC, dI) classes G_10 H74 := hP1
          have hD : va_D A G_10 := hD1.weaken (fun _ _ _ h => hFc _ h)
          have kp9 := kp9_0.fr hFR
          refine lv_if_eq (tgt := 82) hx hb d_PathCheck_faultAt_77 (by decide) (fun c77 => ?_) (fun c77 => ?_)
          · have p77 : r74 = (0 : Int32) := c77
            refine lv_aload_n hx hb d_PathCheck_faultAt_82 rfl (lv_at hl 2 rfl) ?_
            obtain ⟨i_11, fp_11, kw_11, ik_11, ti_11, hg_11⟩ := ty_12 hTy kh
            refine va_get (v := .int kw_11) hx hb htb i_PathCheck hown hK hP i_11 hg_11 rfl 2 (by decide) (htb _ q1_145) (fun _ h9 => h9) rfl d_PathCheck_faultAt_83 ?_
            refine lv_if_eq (tgt := 98) hx hb d_PathCheck_faultAt_86 (by decide) (fun c86 => ?_) (fun c86 => ?_)
            · have p86 : kw_11 = (0 : Int32) := c86
              refine lv_iload_n hx hb d_PathCheck_faultAt_98 rfl (lv_at hl 4 rfl) ?_
              refine lv_if_eq (tgt := 110) hx hb d_PathCheck_faultAt_99 (by decide) (fun c99 => ?_) (fun c99 => ?_)
              · have p99 : k = 0 := ((nI_eq (a := k) (b := 0) (by omega) (by omega)).mp c99)
                refine lv_aload_n hx hb d_PathCheck_faultAt_110 rfl (lv_at hl 3 rfl) ?_
                refine lv_iload_n hx hb d_PathCheck_faultAt_111 rfl (lv_at hl 4 rfl) ?_
                refine vp_callSi (pu_callS (As := [.ref p9, .int (nI k)]) (rest := []) ⟨hx, hb, hml, hown, hts⟩ tbin (p_PathCheck_isNameAllowed l dC dI sb γ κ Ad ν ω L74 G_10 p9 _ _ _ hTy kp9 (by omega)) q6_81 q6_82 q1_8 q6_83 (n := 2) (by decide +kernel) rfl ⟨rfl, rfl⟩ ⟨Nat.le_of_ble_eq_true rfl, Nat.le_of_ble_eq_true rfl⟩ ⟨Nat.le_of_ble_eq_true rfl, Nat.le_of_ble_eq_true rfl⟩ hN (hT0.keep hS hAs) hK hP (List.range G_10.length) (rg_all G_10) [0, 1, 2, 3] rfl hl.1 rfl (Nat.le_of_ble_eq_true rfl) d_PathCheck_faultAt_112) (fun r112 hr112 => ?_)
                refine lv_if_ne (tgt := 120) hx hb d_PathCheck_faultAt_115 (by decide) (fun c115 => ?_) (fun c115 => ?_)
                · have p115 : ¬ (r112 = (0 : Int32)) := c115
                  refine lv_aload hx hb d_PathCheck_faultAt_120 (lv_at hl 1 rfl) ?_
                  obtain ⟨i_12, nm_12, pe_12, ec_12, se_12, su_12, mo_12, ok_12, ik_12, ha_12, si_12, en_12, bo_12, sg_12, is_12, iu_12, K_12, B_12, hg_12⟩ := ty_8 hTy ks_2
                  obtain ⟨⟨A_12, knm_12⟩, ⟨B1_12, B2_12, kpe_12⟩, ⟨C1_12, C2_12, kec_12⟩, kse_12, ⟨z1_12, ksu_12⟩, ⟨z2_12, kmo_12⟩, ⟨z3_12, kok_12⟩, ⟨z4_12, kik_12⟩, kha_12, ksi_12, ken_12, ⟨z5_12, kbo_12⟩, ⟨z6_12, ksg_12⟩, ⟨z7_12, kis_12⟩⟩ := K_12
                  refine va_get (v := .int ((ν s_2).2.2.2.2.2.2.2.2.2.2.2.1)) hx hb htb i_Certificate hown hK hP i_12 hg_12 rfl 27 (by decide) (htb _ q2_234) (fun x9 h9 => u_same (htb _ q2_232) x9 h9) rfl d_PathCheck_faultAt_122 ?_
                  refine lv_if_le (tgt := 131) hx hb d_PathCheck_faultAt_125 (by decide) (fun c125 => ?_) (fun c125 => ?_)
                  · have p125 : ((ν s_2).2.2.2.2.2.2.2.2.2.2.2.1) ≤ (0 : Int32) := c125
                    refine lv_iload_n hx hb d_PathCheck_faultAt_131 rfl (lv_at hl 4 rfl) ?_
                    refine lv_if_ne (tgt := 139) hx hb d_PathCheck_faultAt_132 (by decide) (fun c132 => ?_) (fun c132 => ?_)
                    · have p132 : ¬ (k = 0) := (fun q9 => c132 ((nI_eq (a := k) (b := 0) (by omega) (by omega)).mpr q9))
                      refine lv_aload_n hx hb d_PathCheck_faultAt_139 rfl (lv_at hl 2 rfl) ?_
                      refine lv_aload_n hx hb d_PathCheck_faultAt_140 rfl (lv_at hl 3 rfl) ?_
                      refine lv_iload_n hx hb d_PathCheck_faultAt_141 rfl (lv_at hl 4 rfl) ?_
                      refine vp_callSi (pu_callV (As := [.ref p9, .int (nI k)]) (rest := []) ⟨hx, hb, hml, hown, hts⟩ tbin (p_PathCheck_faultAsIssuer l dC dI sb γ κ Ad ν ω L74 G_10 h p9 _ _ _ hTy kh kp9 (by omega)) q6_115 q6_117 qp_33 q1_8 q6_118 (n := 2) (by decide +kernel) rfl ⟨rfl, rfl⟩ ⟨Nat.le_of_ble_eq_true rfl, Nat.le_of_ble_eq_true rfl⟩ ⟨Nat.le_of_ble_eq_true rfl, Nat.le_of_ble_eq_true rfl⟩ hN (hT0.keep hS hAs) hK hP (List.range G_10.length) (rg_all G_10) [0, 1, 2, 3] rfl i_11 9 hg_11 rfl rfl hl.1 rfl (Nat.le_of_ble_eq_true rfl) d_PathCheck_faultAt_142) (fun r142 hr142 => ?_)
                      exact W.iret (v := r142) hx hb hr (fun t ht hW => ⟨⟨_, G_10, rfl, ⟨⟨_, hL74, hTy⟩, hFR, trivial⟩, by rw [ht]; exact hP, va_K.moved hW.alike hK, hD⟩, hS.F ht⟩) hS.2.2 d_PathCheck_faultAt_145
                    · have p132 : k = 0 := ((nI_eq (a := k) (b := 0) (by omega) (by omega)).mp c132)
                      refine lv_iconst (v := 0) hx hb d_PathCheck_faultAt_135 (by decide) ?_
                      refine lv_goto (tgt := 145) hx hb d_PathCheck_faultAt_136 (by decide) ?_
                      exact W.iret (v := 0) hx hb hr (fun t ht hW => ⟨⟨_, G_10, rfl, ⟨⟨_, hL74, hTy⟩, hFR, trivial⟩, by rw [ht]; exact hP, va_K.moved hW.alike hK, hD⟩, hS.F ht⟩) hS.2.2 d_PathCheck_faultAt_145
                  · have p125 : ¬ (((ν s_2).2.2.2.2.2.2.2.2.2.2.2.1) ≤ (0 : Int32)) := c125
                    refine lv_bipush (v := 6) hx hb d_PathCheck_faultAt_128 (by decide) ?_
                    exact W.iret (v := 6) hx hb hr (fun t ht hW => ⟨⟨_, G_10, rfl, ⟨⟨_, hL74, hTy⟩, hFR, trivial⟩, by rw [ht]; exact hP, va_K.moved hW.alike hK, hD⟩, hS.F ht⟩) hS.2.2 d_PathCheck_faultAt_130
                · have p115 : r112 = (0 : Int32) := c115
                  refine lv_iconst (v := 5) hx hb d_PathCheck_faultAt_118 (by decide) ?_
                  exact W.iret (v := 5) hx hb hr (fun t ht hW => ⟨⟨_, G_10, rfl, ⟨⟨_, hL74, hTy⟩, hFR, trivial⟩, by rw [ht]; exact hP, va_K.moved hW.alike hK, hD⟩, hS.F ht⟩) hS.2.2 d_PathCheck_faultAt_119
              · have p99 : ¬ (k = 0) := (fun q9 => c99 ((nI_eq (a := k) (b := 0) (by omega) (by omega)).mpr q9))
                refine lv_aload hx hb d_PathCheck_faultAt_102 (lv_at hl 1 rfl) ?_
                obtain ⟨i_13, nm_13, pe_13, ec_13, se_13, su_13, mo_13, ok_13, ik_13, ha_13, si_13, en_13, bo_13, sg_13, is_13, iu_13, K_13, B_13, hg_13⟩ := ty_8 hTy ks_2
                obtain ⟨⟨A_13, knm_13⟩, ⟨B1_13, B2_13, kpe_13⟩, ⟨C1_13, C2_13, kec_13⟩, kse_13, ⟨z1_13, ksu_13⟩, ⟨z2_13, kmo_13⟩, ⟨z3_13, kok_13⟩, ⟨z4_13, kik_13⟩, kha_13, ksi_13, ken_13, ⟨z5_13, kbo_13⟩, ⟨z6_13, ksg_13⟩, ⟨z7_13, kis_13⟩⟩ := K_13
                refine va_get (v := .int ((ν s_2).2.2.2.2.2.2.2.1)) hx hb htb i_Certificate hown hK hP i_13 hg_13 rfl 15 (by decide) (htb _ q2_181) (fun _ h9 => h9) rfl d_PathCheck_faultAt_104 ?_
                refine lv_if_ne (tgt := 120) hx hb d_PathCheck_faultAt_107 (by decide) (fun c107 => ?_) (fun c107 => ?_)
                · have p107 : ¬ (((ν s_2).2.2.2.2.2.2.2.1) = (0 : Int32)) := c107
                  refine lv_aload hx hb d_PathCheck_faultAt_120 (lv_at hl 1 rfl) ?_
                  refine va_get (v := .int ((ν s_2).2.2.2.2.2.2.2.2.2.2.2.1)) hx hb htb i_Certificate hown hK hP i_13 hg_13 rfl 27 (by decide) (htb _ q2_234) (fun x9 h9 => u_same (htb _ q2_232) x9 h9) rfl d_PathCheck_faultAt_122 ?_
                  refine lv_if_le (tgt := 131) hx hb d_PathCheck_faultAt_125 (by decide) (fun c125 => ?_) (fun c125 => ?_)
                  · have p125 : ((ν s_2).2.2.2.2.2.2.2.2.2.2.2.1) ≤ (0 : Int32) := c125
                    refine lv_iload_n hx hb d_PathCheck_faultAt_131 rfl (lv_at hl 4 rfl) ?_
                    refine lv_if_ne (tgt := 139) hx hb d_PathCheck_faultAt_132 (by decide) (fun c132 => ?_) (fun c132 => ?_)
                    · have p132 : ¬ (k = 0) := (fun q9 => c132 ((nI_eq (a := k) (b := 0) (by omega) (by omega)).mpr q9))
                      refine lv_aload_n hx hb d_PathCheck_faultAt_139 rfl (lv_at hl 2 rfl) ?_
                      refine lv_aload_n hx hb d_PathCheck_faultAt_140 rfl (lv_at hl 3 rfl) ?_
                      refine lv_iload_n hx hb d_PathCheck_faultAt_141 rfl (lv_at hl 4 rfl) ?_
                      refine vp_callSi (pu_callV (As := [.ref p9, .int (nI k)]) (rest := []) ⟨hx, hb, hml, hown, hts⟩ tbin (p_PathCheck_faultAsIssuer l dC dI sb γ κ Ad ν ω L74 G_10 h p9 _ _ _ hTy kh kp9 (by omega)) q6_115 q6_117 qp_33 q1_8 q6_118 (n := 2) (by decide +kernel) rfl ⟨rfl, rfl⟩ ⟨Nat.le_of_ble_eq_true rfl, Nat.le_of_ble_eq_true rfl⟩ ⟨Nat.le_of_ble_eq_true rfl, Nat.le_of_ble_eq_true rfl⟩ hN (hT0.keep hS hAs) hK hP (List.range G_10.length) (rg_all G_10) [0, 1, 2, 3] rfl i_11 9 hg_11 rfl rfl hl.1 rfl (Nat.le_of_ble_eq_true rfl) d_PathCheck_faultAt_142) (fun r142 hr142 => ?_)
                      exact W.iret (v := r142) hx hb hr (fun t ht hW => ⟨⟨_, G_10, rfl, ⟨⟨_, hL74, hTy⟩, hFR, trivial⟩, by rw [ht]; exact hP, va_K.moved hW.alike hK, hD⟩, hS.F ht⟩) hS.2.2 d_PathCheck_faultAt_145
                    · have p132 : k = 0 := ((nI_eq (a := k) (b := 0) (by omega) (by omega)).mp c132)
                      refine lv_iconst (v := 0) hx hb d_PathCheck_faultAt_135 (by decide) ?_
                      refine lv_goto (tgt := 145) hx hb d_PathCheck_faultAt_136 (by decide) ?_
                      exact W.iret (v := 0) hx hb hr (fun t ht hW => ⟨⟨_, G_10, rfl, ⟨⟨_, hL74, hTy⟩, hFR, trivial⟩, by rw [ht]; exact hP, va_K.moved hW.alike hK, hD⟩, hS.F ht⟩) hS.2.2 d_PathCheck_faultAt_145
                  · have p125 : ¬ (((ν s_2).2.2.2.2.2.2.2.2.2.2.2.1) ≤ (0 : Int32)) := c125
                    refine lv_bipush (v := 6) hx hb d_PathCheck_faultAt_128 (by decide) ?_
                    exact W.iret (v := 6) hx hb hr (fun t ht hW => ⟨⟨_, G_10, rfl, ⟨⟨_, hL74, hTy⟩, hFR, trivial⟩, by rw [ht]; exact hP, va_K.moved hW.alike hK, hD⟩, hS.F ht⟩) hS.2.2 d_PathCheck_faultAt_130
                · have p107 : ((ν s_2).2.2.2.2.2.2.2.1) = (0 : Int32) := c107
                  refine lv_aload_n hx hb d_PathCheck_faultAt_110 rfl (lv_at hl 3 rfl) ?_
                  refine lv_iload_n hx hb d_PathCheck_faultAt_111 rfl (lv_at hl 4 rfl) ?_
                  refine vp_callSi (pu_callS (As := [.ref p9, .int (nI k)]) (rest := []) ⟨hx, hb, hml, hown, hts⟩ tbin (p_PathCheck_isNameAllowed l dC dI sb γ κ Ad ν ω L74 G_10 p9 _ _ _ hTy kp9 (by omega)) q6_81 q6_82 q1_8 q6_83 (n := 2) (by decide +kernel) rfl ⟨rfl, rfl⟩ ⟨Nat.le_of_ble_eq_true rfl, Nat.le_of_ble_eq_true rfl⟩ ⟨Nat.le_of_ble_eq_true rfl, Nat.le_of_ble_eq_true rfl⟩ hN (hT0.keep hS hAs) hK hP (List.range G_10.length) (rg_all G_10) [0, 1, 2, 3] rfl hl.1 rfl (Nat.le_of_ble_eq_true rfl) d_PathCheck_faultAt_112) (fun r112 hr112 => ?_)
                  refine lv_if_ne (tgt := 120) hx hb d_PathCheck_faultAt_115 (by decide) (fun c115 => ?_) (fun c115 => ?_)
                  · have p115 : ¬ (r112 = (0 : Int32)) := c115
                    refine lv_aload hx hb d_PathCheck_faultAt_120 (lv_at hl 1 rfl) ?_
                    refine va_get (v := .int ((ν s_2).2.2.2.2.2.2.2.2.2.2.2.1)) hx hb htb i_Certificate hown hK hP i_13 hg_13 rfl 27 (by decide) (htb _ q2_234) (fun x9 h9 => u_same (htb _ q2_232) x9 h9) rfl d_PathCheck_faultAt_122 ?_
                    refine lv_if_le (tgt := 131) hx hb d_PathCheck_faultAt_125 (by decide) (fun c125 => ?_) (fun c125 => ?_)
                    · have p125 : ((ν s_2).2.2.2.2.2.2.2.2.2.2.2.1) ≤ (0 : Int32) := c125
                      refine lv_iload_n hx hb d_PathCheck_faultAt_131 rfl (lv_at hl 4 rfl) ?_
                      refine lv_if_ne (tgt := 139) hx hb d_PathCheck_faultAt_132 (by decide) (fun c132 => ?_) (fun c132 => ?_)
                      · have p132 : ¬ (k = 0) := (fun q9 => c132 ((nI_eq (a := k) (b := 0) (by omega) (by omega)).mpr q9))
                        refine lv_aload_n hx hb d_PathCheck_faultAt_139 rfl (lv_at hl 2 rfl) ?_
                        refine lv_aload_n hx hb d_PathCheck_faultAt_140 rfl (lv_at hl 3 rfl) ?_
                        refine lv_iload_n hx hb d_PathCheck_faultAt_141 rfl (lv_at hl 4 rfl) ?_
                        refine vp_callSi (pu_callV (As := [.ref p9, .int (nI k)]) (rest := []) ⟨hx, hb, hml, hown, hts⟩ tbin (p_PathCheck_faultAsIssuer l dC dI sb γ κ Ad ν ω L74 G_10 h p9 _ _ _ hTy kh kp9 (by omega)) q6_115 q6_117 qp_33 q1_8 q6_118 (n := 2) (by decide +kernel) rfl ⟨rfl, rfl⟩ ⟨Nat.le_of_ble_eq_true rfl, Nat.le_of_ble_eq_true rfl⟩ ⟨Nat.le_of_ble_eq_true rfl, Nat.le_of_ble_eq_true rfl⟩ hN (hT0.keep hS hAs) hK hP (List.range G_10.length) (rg_all G_10) [0, 1, 2, 3] rfl i_11 9 hg_11 rfl rfl hl.1 rfl (Nat.le_of_ble_eq_true rfl) d_PathCheck_faultAt_142) (fun r142 hr142 => ?_)
                        exact W.iret (v := r142) hx hb hr (fun t ht hW => ⟨⟨_, G_10, rfl, ⟨⟨_, hL74, hTy⟩, hFR, trivial⟩, by rw [ht]; exact hP, va_K.moved hW.alike hK, hD⟩, hS.F ht⟩) hS.2.2 d_PathCheck_faultAt_145
                      · have p132 : k = 0 := ((nI_eq (a := k) (b := 0) (by omega) (by omega)).mp c132)
                        refine lv_iconst (v := 0) hx hb d_PathCheck_faultAt_135 (by decide) ?_
                        refine lv_goto (tgt := 145) hx hb d_PathCheck_faultAt_136 (by decide) ?_
                        exact W.iret (v := 0) hx hb hr (fun t ht hW => ⟨⟨_, G_10, rfl, ⟨⟨_, hL74, hTy⟩, hFR, trivial⟩, by rw [ht]; exact hP, va_K.moved hW.alike hK, hD⟩, hS.F ht⟩) hS.2.2 d_PathCheck_faultAt_145
                    · have p125 : ¬ (((ν s_2).2.2.2.2.2.2.2.2.2.2.2.1) ≤ (0 : Int32)) := c125
                      refine lv_bipush (v := 6) hx hb d_PathCheck_faultAt_128 (by decide) ?_
                      exact W.iret (v := 6) hx hb hr (fun t ht hW => ⟨⟨_, G_10, rfl, ⟨⟨_, hL74, hTy⟩, hFR, trivial⟩, by rw [ht]; exact hP, va_K.moved hW.alike hK, hD⟩, hS.F ht⟩) hS.2.2 d_PathCheck_faultAt_130
                  · have p115 : r112 = (0 : Int32) := c115
                    refine lv_iconst (v := 5) hx hb d_PathCheck_faultAt_118 (by decide) ?_
                    exact W.iret (v := 5) hx hb hr (fun t ht hW => ⟨⟨_, G_10, rfl, ⟨⟨_, hL74, hTy⟩, hFR, trivial⟩, by rw [ht]; exact hP, va_K.moved hW.alike hK, hD⟩, hS.F ht⟩) hS.2.2 d_PathCheck_faultAt_119
            · have p86 : ¬ (kw_11 = (0 : Int32)) := c86
              refine lv_aload_n hx hb d_PathCheck_faultAt_89 rfl (lv_at hl 2 rfl) ?_
              refine va_get (v := .int ik_11) hx hb htb i_PathCheck hown hK hP i_11 hg_11 rfl 3 (by decide) (htb _ q1_146) (fun _ h9 => h9) rfl d_PathCheck_faultAt_90 ?_
              refine lv_if_ne (tgt := 98) hx hb d_PathCheck_faultAt_93 (by decide) (fun c93 => ?_) (fun c93 => ?_)
              · have p93 : ¬ (ik_11 = (0 : Int32)) := c93
                refine lv_iload_n hx hb d_PathCheck_faultAt_98 rfl (lv_at hl 4 rfl) ?_
                refine lv_if_eq (tgt := 110) hx hb d_PathCheck_faultAt_99 (by decide) (fun c99 => ?_) (fun c99 => ?_)
                · have p99 : k = 0 := ((nI_eq (a := k) (b := 0) (by omega) (by omega)).mp c99)
                  refine lv_aload_n hx hb d_PathCheck_faultAt_110 rfl (lv_at hl 3 rfl) ?_
                  refine lv_iload_n hx hb d_PathCheck_faultAt_111 rfl (lv_at hl 4 rfl) ?_
                  refine vp_callSi (pu_callS (As := [.ref p9, .int (nI k)]) (rest := []) ⟨hx, hb, hml, hown, hts⟩ tbin (p_PathCheck_isNameAllowed l dC dI sb γ κ Ad ν ω L74 G_10 p9 _ _ _ hTy kp9 (by omega)) q6_81 q6_82 q1_8 q6_83 (n := 2) (by decide +kernel) rfl ⟨rfl, rfl⟩ ⟨Nat.le_of_ble_eq_true rfl, Nat.le_of_ble_eq_true rfl⟩ ⟨Nat.le_of_ble_eq_true rfl, Nat.le_of_ble_eq_true rfl⟩ hN (hT0.keep hS hAs) hK hP (List.range G_10.length) (rg_all G_10) [0, 1, 2, 3] rfl hl.1 rfl (Nat.le_of_ble_eq_true rfl) d_PathCheck_faultAt_112) (fun r112 hr112 => ?_)
                  refine lv_if_ne (tgt := 120) hx hb d_PathCheck_faultAt_115 (by decide) (fun c115 => ?_) (fun c115 => ?_)
                  · have p115 : ¬ (r112 = (0 : Int32)) := c115
                    refine lv_aload hx hb d_PathCheck_faultAt_120 (lv_at hl 1 rfl) ?_
                    obtain ⟨i_14, nm_14, pe_14, ec_14, se_14, su_14, mo_14, ok_14, ik_14, ha_14, si_14, en_14, bo_14, sg_14, is_14, iu_14, K_14, B_14, hg_14⟩ := ty_8 hTy ks_2
                    obtain ⟨⟨A_14, knm_14⟩, ⟨B1_14, B2_14, kpe_14⟩, ⟨C1_14, C2_14, kec_14⟩, kse_14, ⟨z1_14, ksu_14⟩, ⟨z2_14, kmo_14⟩, ⟨z3_14, kok_14⟩, ⟨z4_14, kik_14⟩, kha_14, ksi_14, ken_14, ⟨z5_14, kbo_14⟩, ⟨z6_14, ksg_14⟩, ⟨z7_14, kis_14⟩⟩ := K_14
                    refine va_get (v := .int ((ν s_2).2.2.2.2.2.2.2.2.2.2.2.1)) hx hb htb i_Certificate hown hK hP i_14 hg_14 rfl 27 (by decide) (htb _ q2_234) (fun x9 h9 => u_same (htb _ q2_232) x9 h9) rfl d_PathCheck_faultAt_122 ?_
                    refine lv_if_le (tgt := 131) hx hb d_PathCheck_faultAt_125 (by decide) (fun c125 => ?_) (fun c125 => ?_)
                    · have p125 : ((ν s_2).2.2.2.2.2.2.2.2.2.2.2.1) ≤ (0 : Int32) := c125
                      refine lv_iload_n hx hb d_PathCheck_faultAt_131 rfl (lv_at hl 4 rfl) ?_
                      refine lv_if_ne (tgt := 139) hx hb d_PathCheck_faultAt_132 (by decide) (fun c132 => ?_) (fun c132 => ?_)
                      · have p132 : ¬ (k = 0) := (fun q9 => c132 ((nI_eq (a := k) (b := 0) (by omega) (by omega)).mpr q9))
                        refine lv_aload_n hx hb d_PathCheck_faultAt_139 rfl (lv_at hl 2 rfl) ?_
                        refine lv_aload_n hx hb d_PathCheck_faultAt_140 rfl (lv_at hl 3 rfl) ?_
                        refine lv_iload_n hx hb d_PathCheck_faultAt_141 rfl (lv_at hl 4 rfl) ?_
                        refine vp_callSi (pu_callV (As := [.ref p9, .int (nI k)]) (rest := []) ⟨hx, hb, hml, hown, hts⟩ tbin (p_PathCheck_faultAsIssuer l dC dI sb γ κ Ad ν ω L74 G_10 h p9 _ _ _ hTy kh kp9 (by omega)) q6_115 q6_117 qp_33 q1_8 q6_118 (n := 2) (by decide +kernel) rfl ⟨rfl, rfl⟩ ⟨Nat.le_of_ble_eq_true rfl, Nat.le_of_ble_eq_true rfl⟩ ⟨Nat.le_of_ble_eq_true rfl, Nat.le_of_ble_eq_true rfl⟩ hN (hT0.keep hS hAs) hK hP (List.range G_10.length) (rg_all G_10) [0, 1, 2, 3] rfl i_11 9 hg_11 rfl rfl hl.1 rfl (Nat.le_of_ble_eq_true rfl) d_PathCheck_faultAt_142) (fun r142 hr142 => ?_)
                        exact W.iret (v := r142) hx hb hr (fun t ht hW => ⟨⟨_, G_10, rfl, ⟨⟨_, hL74, hTy⟩, hFR, trivial⟩, by rw [ht]; exact hP, va_K.moved hW.alike hK, hD⟩, hS.F ht⟩) hS.2.2 d_PathCheck_faultAt_145
                      · have p132 : k = 0 := ((nI_eq (a := k) (b := 0) (by omega) (by omega)).mp c132)
                        refine lv_iconst (v := 0) hx hb d_PathCheck_faultAt_135 (by decide) ?_
                        refine lv_goto (tgt := 145) hx hb d_PathCheck_faultAt_136 (by decide) ?_
                        exact W.iret (v := 0) hx hb hr (fun t ht hW => ⟨⟨_, G_10, rfl, ⟨⟨_, hL74, hTy⟩, hFR, trivial⟩, by rw [ht]; exact hP, va_K.moved hW.alike hK, hD⟩, hS.F ht⟩) hS.2.2 d_PathCheck_faultAt_145
                    · have p125 : ¬ (((ν s_2).2.2.2.2.2.2.2.2.2.2.2.1) ≤ (0 : Int32)) := c125
                      refine lv_bipush (v := 6) hx hb d_PathCheck_faultAt_128 (by decide) ?_
                      exact W.iret (v := 6) hx hb hr (fun t ht hW => ⟨⟨_, G_10, rfl, ⟨⟨_, hL74, hTy⟩, hFR, trivial⟩, by rw [ht]; exact hP, va_K.moved hW.alike hK, hD⟩, hS.F ht⟩) hS.2.2 d_PathCheck_faultAt_130
                  · have p115 : r112 = (0 : Int32) := c115
                    refine lv_iconst (v := 5) hx hb d_PathCheck_faultAt_118 (by decide) ?_
                    exact W.iret (v := 5) hx hb hr (fun t ht hW => ⟨⟨_, G_10, rfl, ⟨⟨_, hL74, hTy⟩, hFR, trivial⟩, by rw [ht]; exact hP, va_K.moved hW.alike hK, hD⟩, hS.F ht⟩) hS.2.2 d_PathCheck_faultAt_119
                · have p99 : ¬ (k = 0) := (fun q9 => c99 ((nI_eq (a := k) (b := 0) (by omega) (by omega)).mpr q9))
                  refine lv_aload hx hb d_PathCheck_faultAt_102 (lv_at hl 1 rfl) ?_
                  obtain ⟨i_15, nm_15, pe_15, ec_15, se_15, su_15, mo_15, ok_15, ik_15, ha_15, si_15, en_15, bo_15, sg_15, is_15, iu_15, K_15, B_15, hg_15⟩ := ty_8 hTy ks_2
                  obtain ⟨⟨A_15, knm_15⟩, ⟨B1_15, B2_15, kpe_15⟩, ⟨C1_15, C2_15, kec_15⟩, kse_15, ⟨z1_15, ksu_15⟩, ⟨z2_15, kmo_15⟩, ⟨z3_15, kok_15⟩, ⟨z4_15, kik_15⟩, kha_15, ksi_15, ken_15, ⟨z5_15, kbo_15⟩, ⟨z6_15, ksg_15⟩, ⟨z7_15, kis_15⟩⟩ := K_15
                  refine va_get (v := .int ((ν s_2).2.2.2.2.2.2.2.1)) hx hb htb i_Certificate hown hK hP i_15 hg_15 rfl 15 (by decide) (htb _ q2_181) (fun _ h9 => h9) rfl d_PathCheck_faultAt_104 ?_
                  refine lv_if_ne (tgt := 120) hx hb d_PathCheck_faultAt_107 (by decide) (fun c107 => ?_) (fun c107 => ?_)
                  · have p107 : ¬ (((ν s_2).2.2.2.2.2.2.2.1) = (0 : Int32)) := c107
                    refine lv_aload hx hb d_PathCheck_faultAt_120 (lv_at hl 1 rfl) ?_
                    refine va_get (v := .int ((ν s_2).2.2.2.2.2.2.2.2.2.2.2.1)) hx hb htb i_Certificate hown hK hP i_15 hg_15 rfl 27 (by decide) (htb _ q2_234) (fun x9 h9 => u_same (htb _ q2_232) x9 h9) rfl d_PathCheck_faultAt_122 ?_
                    refine lv_if_le (tgt := 131) hx hb d_PathCheck_faultAt_125 (by decide) (fun c125 => ?_) (fun c125 => ?_)
                    · have p125 : ((ν s_2).2.2.2.2.2.2.2.2.2.2.2.1) ≤ (0 : Int32) := c125
                      refine lv_iload_n hx hb d_PathCheck_faultAt_131 rfl (lv_at hl 4 rfl) ?_
                      refine lv_if_ne (tgt := 139) hx hb d_PathCheck_faultAt_132 (by decide) (fun c132 => ?_) (fun c132 => ?_)
                      · have p132 : ¬ (k = 0) := (fun q9 => c132 ((nI_eq (a := k) (b := 0) (by omega) (by omega)).mpr q9))
                        refine lv_aload_n hx hb d_PathCheck_faultAt_139 rfl (lv_at hl 2 rfl) ?_
                        refine lv_aload_n hx hb d_PathCheck_faultAt_140 rfl (lv_at hl 3 rfl) ?_
                        refine lv_iload_n hx hb d_PathCheck_faultAt_141 rfl (lv_at hl 4 rfl) ?_
                        refine vp_callSi (pu_callV (As := [.ref p9, .int (nI k)]) (rest := []) ⟨hx, hb, hml, hown, hts⟩ tbin (p_PathCheck_faultAsIssuer l dC dI sb γ κ Ad ν ω L74 G_10 h p9 _ _ _ hTy kh kp9 (by omega)) q6_115 q6_117 qp_33 q1_8 q6_118 (n := 2) (by decide +kernel) rfl ⟨rfl, rfl⟩ ⟨Nat.le_of_ble_eq_true rfl, Nat.le_of_ble_eq_true rfl⟩ ⟨Nat.le_of_ble_eq_true rfl, Nat.le_of_ble_eq_true rfl⟩ hN (hT0.keep hS hAs) hK hP (List.range G_10.length) (rg_all G_10) [0, 1, 2, 3] rfl i_11 9 hg_11 rfl rfl hl.1 rfl (Nat.le_of_ble_eq_true rfl) d_PathCheck_faultAt_142) (fun r142 hr142 => ?_)
                        exact W.iret (v := r142) hx hb hr (fun t ht hW => ⟨⟨_, G_10, rfl, ⟨⟨_, hL74, hTy⟩, hFR, trivial⟩, by rw [ht]; exact hP, va_K.moved hW.alike hK, hD⟩, hS.F ht⟩) hS.2.2 d_PathCheck_faultAt_145
                      · have p132 : k = 0 := ((nI_eq (a := k) (b := 0) (by omega) (by omega)).mp c132)
                        refine lv_iconst (v := 0) hx hb d_PathCheck_faultAt_135 (by decide) ?_
                        refine lv_goto (tgt := 145) hx hb d_PathCheck_faultAt_136 (by decide) ?_
                        exact W.iret (v := 0) hx hb hr (fun t ht hW => ⟨⟨_, G_10, rfl, ⟨⟨_, hL74, hTy⟩, hFR, trivial⟩, by rw [ht]; exact hP, va_K.moved hW.alike hK, hD⟩, hS.F ht⟩) hS.2.2 d_PathCheck_faultAt_145
                    · have p125 : ¬ (((ν s_2).2.2.2.2.2.2.2.2.2.2.2.1) ≤ (0 : Int32)) := c125
                      refine lv_bipush (v := 6) hx hb d_PathCheck_faultAt_128 (by decide) ?_
                      exact W.iret (v := 6) hx hb hr (fun t ht hW => ⟨⟨_, G_10, rfl, ⟨⟨_, hL74, hTy⟩, hFR, trivial⟩, by rw [ht]; exact hP, va_K.moved hW.alike hK, hD⟩, hS.F ht⟩) hS.2.2 d_PathCheck_faultAt_130
                  · have p107 : ((ν s_2).2.2.2.2.2.2.2.1) = (0 : Int32) := c107
                    refine lv_aload_n hx hb d_PathCheck_faultAt_110 rfl (lv_at hl 3 rfl) ?_
                    refine lv_iload_n hx hb d_PathCheck_faultAt_111 rfl (lv_at hl 4 rfl) ?_
                    refine vp_callSi (pu_callS (As := [.ref p9, .int (nI k)]) (rest := []) ⟨hx, hb, hml, hown, hts⟩ tbin (p_PathCheck_isNameAllowed l dC dI sb γ κ Ad ν ω L74 G_10 p9 _ _ _ hTy kp9 (by omega)) q6_81 q6_82 q1_8 q6_83 (n := 2) (by decide +kernel) rfl ⟨rfl, rfl⟩ ⟨Nat.le_of_ble_eq_true rfl, Nat.le_of_ble_eq_true rfl⟩ ⟨Nat.le_of_ble_eq_true rfl, Nat.le_of_ble_eq_true rfl⟩ hN (hT0.keep hS hAs) hK hP (List.range G_10.length) (rg_all G_10) [0, 1, 2, 3] rfl hl.1 rfl (Nat.le_of_ble_eq_true rfl) d_PathCheck_faultAt_112) (fun r112 hr112 => ?_)
                    refine lv_if_ne (tgt := 120) hx hb d_PathCheck_faultAt_115 (by decide) (fun c115 => ?_) (fun c115 => ?_)
                    · have p115 : ¬ (r112 = (0 : Int32)) := c115
                      refine lv_aload hx hb d_PathCheck_faultAt_120 (lv_at hl 1 rfl) ?_
                      refine va_get (v := .int ((ν s_2).2.2.2.2.2.2.2.2.2.2.2.1)) hx hb htb i_Certificate hown hK hP i_15 hg_15 rfl 27 (by decide) (htb _ q2_234) (fun x9 h9 => u_same (htb _ q2_232) x9 h9) rfl d_PathCheck_faultAt_122 ?_
                      refine lv_if_le (tgt := 131) hx hb d_PathCheck_faultAt_125 (by decide) (fun c125 => ?_) (fun c125 => ?_)
                      · have p125 : ((ν s_2).2.2.2.2.2.2.2.2.2.2.2.1) ≤ (0 : Int32) := c125
                        refine lv_iload_n hx hb d_PathCheck_faultAt_131 rfl (lv_at hl 4 rfl) ?_
                        refine lv_if_ne (tgt := 139) hx hb d_PathCheck_faultAt_132 (by decide) (fun c132 => ?_) (fun c132 => ?_)
                        · have p132 : ¬ (k = 0) := (fun q9 => c132 ((nI_eq (a := k) (b := 0) (by omega) (by omega)).mpr q9))
                          refine lv_aload_n hx hb d_PathCheck_faultAt_139 rfl (lv_at hl 2 rfl) ?_
                          refine lv_aload_n hx hb d_PathCheck_faultAt_140 rfl (lv_at hl 3 rfl) ?_
                          refine lv_iload_n hx hb d_PathCheck_faultAt_141 rfl (lv_at hl 4 rfl) ?_
                          refine vp_callSi (pu_callV (As := [.ref p9, .int (nI k)]) (rest := []) ⟨hx, hb, hml, hown, hts⟩ tbin (p_PathCheck_faultAsIssuer l dC dI sb γ κ Ad ν ω L74 G_10 h p9 _ _ _ hTy kh kp9 (by omega)) q6_115 q6_117 qp_33 q1_8 q6_118 (n := 2) (by decide +kernel) rfl ⟨rfl, rfl⟩ ⟨Nat.le_of_ble_eq_true rfl, Nat.le_of_ble_eq_true rfl⟩ ⟨Nat.le_of_ble_eq_true rfl, Nat.le_of_ble_eq_true rfl⟩ hN (hT0.keep hS hAs) hK hP (List.range G_10.length) (rg_all G_10) [0, 1, 2, 3] rfl i_11 9 hg_11 rfl rfl hl.1 rfl (Nat.le_of_ble_eq_true rfl) d_PathCheck_faultAt_142) (fun r142 hr142 => ?_)
                          exact W.iret (v := r142) hx hb hr (fun t ht hW => ⟨⟨_, G_10, rfl, ⟨⟨_, hL74, hTy⟩, hFR, trivial⟩, by rw [ht]; exact hP, va_K.moved hW.alike hK, hD⟩, hS.F ht⟩) hS.2.2 d_PathCheck_faultAt_145
                        · have p132 : k = 0 := ((nI_eq (a := k) (b := 0) (by omega) (by omega)).mp c132)
                          refine lv_iconst (v := 0) hx hb d_PathCheck_faultAt_135 (by decide) ?_
                          refine lv_goto (tgt := 145) hx hb d_PathCheck_faultAt_136 (by decide) ?_
                          exact W.iret (v := 0) hx hb hr (fun t ht hW => ⟨⟨_, G_10, rfl, ⟨⟨_, hL74, hTy⟩, hFR, trivial⟩, by rw [ht]; exact hP, va_K.moved hW.alike hK, hD⟩, hS.F ht⟩) hS.2.2 d_PathCheck_faultAt_145
                      · have p125 : ¬ (((ν s_2).2.2.2.2.2.2.2.2.2.2.2.1) ≤ (0 : Int32)) := c125
                        refine lv_bipush (v := 6) hx hb d_PathCheck_faultAt_128 (by decide) ?_
                        exact W.iret (v := 6) hx hb hr (fun t ht hW => ⟨⟨_, G_10, rfl, ⟨⟨_, hL74, hTy⟩, hFR, trivial⟩, by rw [ht]; exact hP, va_K.moved hW.alike hK, hD⟩, hS.F ht⟩) hS.2.2 d_PathCheck_faultAt_130
                    · have p115 : r112 = (0 : Int32) := c115
                      refine lv_iconst (v := 5) hx hb d_PathCheck_faultAt_118 (by decide) ?_
                      exact W.iret (v := 5) hx hb hr (fun t ht hW => ⟨⟨_, G_10, rfl, ⟨⟨_, hL74, hTy⟩, hFR, trivial⟩, by rw [ht]; exact hP, va_K.moved hW.alike hK, hD⟩, hS.F ht⟩) hS.2.2 d_PathCheck_faultAt_119
              · have p93 : ik_11 = (0 : Int32) := c93
                refine lv_iconst (v := 4) hx hb d_PathCheck_faultAt_96 (by decide) ?_
                exact W.iret (v := 4) hx hb hr (fun t ht hW => ⟨⟨_, G_10, rfl, ⟨⟨_, hL74, hTy⟩, hFR, trivial⟩, by rw [ht]; exact hP, va_K.moved hW.alike hK, hD⟩, hS.F ht⟩) hS.2.2 d_PathCheck_faultAt_97
          · have p77 : ¬ (r74 = (0 : Int32)) := c77
            refine lv_iconst (v := 3) hx hb d_PathCheck_faultAt_80 (by decide) ?_
            exact W.iret (v := 3) hx hb hr (fun t ht hW => ⟨⟨_, G_10, rfl, ⟨⟨_, hL74, hTy⟩, hFR, trivial⟩, by rw [ht]; exact hP, va_K.moved hW.alike hK, hD⟩, hS.F ht⟩) hS.2.2 d_PathCheck_faultAt_81
        · have p61 : r58 = (0 : Int32) := c61
          refine lv_iconst (v := 2) hx hb d_PathCheck_faultAt_64 (by decide) ?_
          exact W.iret (v := 2) hx hb hr (fun t ht hW => ⟨⟨_, G_6, rfl, ⟨⟨_, hL44, hTy⟩, hFR, trivial⟩, by rw [ht]; exact hP, va_K.moved hW.alike hK, hD⟩, hS.F ht⟩) hS.2.2 d_PathCheck_faultAt_65
      · have p47 : r44 = (0 : Int32) := c47
        refine lv_iconst (v := 1) hx hb d_PathCheck_faultAt_50 (by decide) ?_
        exact W.iret (v := 1) hx hb hr (fun t ht hW => ⟨⟨_, G_6, rfl, ⟨⟨_, hL44, hTy⟩, hFR, trivial⟩, by rw [ht]; exact hP, va_K.moved hW.alike hK, hD⟩, hS.F ht⟩) hS.2.2 d_PathCheck_faultAt_51
    · have p11 : ¬ ((k + 1) < as.length) := (fun q9 => c11 ((nI_ltI (a := (k + 1)) (b := as.length) (by omega) (by omega)).mpr q9))
      refine lv_iconst (v := 0) hx hb d_PathCheck_faultAt_14 (by decide) ?_
      exact W.iret (v := 0) hx hb hr (fun t ht hW => ⟨⟨_, G, rfl, ⟨⟨_, hL, hTy⟩, hFR, trivial⟩, by rw [ht]; exact hP, va_K.moved hW.alike hK, hD⟩, hS.F ht⟩) hS.2.2 d_PathCheck_faultAt_15
def y_PathCheck_faultOf : MethodName := ⟨"TrustChain$PathCheck", "faultOf", "(Ljava/util/ArrayList;Ljava/util/ArrayList;LTrustChain$Rsa;)I"⟩
abbrev b_PathCheck_faultOf : ByteArray := prog_7_method_3_code
def w_PathCheck_faultOf : List Cond := Cond.code y_PathCheck_faultOf b_PathCheck_faultOf 6 ((some FieldType.int)) :: tb
theorem d_PathCheck_faultOf_0 : decode b_PathCheck_faultOf 0 = .ok (.aload_n 1, 1) := by decide +kernel
theorem d_PathCheck_faultOf_1 : decode b_PathCheck_faultOf 1 = .ok (.invokevirtual 26, 3) := by decide +kernel
theorem d_PathCheck_faultOf_4 : decode b_PathCheck_faultOf 4 = .ok (.iconst 2, 1) := by decide +kernel
theorem d_PathCheck_faultOf_5 : decode b_PathCheck_faultOf 5 = .ok (.isub, 1) := by decide +kernel
theorem d_PathCheck_faultOf_6 : decode b_PathCheck_faultOf 6 = .ok (.istore 4, 2) := by decide +kernel
theorem d_PathCheck_faultOf_8 : decode b_PathCheck_faultOf 8 = .ok (.iload 4, 2) := by decide +kernel
theorem d_PathCheck_faultOf_10 : decode b_PathCheck_faultOf 10 = .ok (.ifCond .lt 34, 3) := by decide +kernel
theorem d_PathCheck_faultOf_13 : decode b_PathCheck_faultOf 13 = .ok (.aload_n 0, 1) := by decide +kernel
theorem d_PathCheck_faultOf_14 : decode b_PathCheck_faultOf 14 = .ok (.aload_n 1, 1) := by decide +kernel
theorem d_PathCheck_faultOf_15 : decode b_PathCheck_faultOf 15 = .ok (.iload 4, 2) := by decide +kernel
theorem d_PathCheck_faultOf_17 : decode b_PathCheck_faultOf 17 = .ok (.aload_n 2, 1) := by decide +kernel
theorem d_PathCheck_faultOf_18 : decode b_PathCheck_faultOf 18 = .ok (.aload_n 3, 1) := by decide +kernel
theorem d_PathCheck_faultOf_19 : decode b_PathCheck_faultOf 19 = .ok (.invokevirtual 32, 3) := by decide +kernel
theorem d_PathCheck_faultOf_22 : decode b_PathCheck_faultOf 22 = .ok (.istore 5, 2) := by decide +kernel
theorem d_PathCheck_faultOf_24 : decode b_PathCheck_faultOf 24 = .ok (.iload 5, 2) := by decide +kernel
theorem d_PathCheck_faultOf_26 : decode b_PathCheck_faultOf 26 = .ok (.ifCond .eq 12, 3) := by decide +kernel
theorem d_PathCheck_faultOf_29 : decode b_PathCheck_faultOf 29 = .ok (.aload_n 0, 1) := by decide +kernel
theorem d_PathCheck_faultOf_30 : decode b_PathCheck_faultOf 30 = .ok (.iload 4, 2) := by decide +kernel
theorem d_PathCheck_faultOf_32 : decode b_PathCheck_faultOf 32 = .ok (.putfield 9, 3) := by decide +kernel
theorem d_PathCheck_faultOf_35 : decode b_PathCheck_faultOf 35 = .ok (.iload 5, 2) := by decide +kernel
theorem d_PathCheck_faultOf_37 : decode b_PathCheck_faultOf 37 = .ok (.ireturn, 1) := by decide +kernel
theorem d_PathCheck_faultOf_38 : decode b_PathCheck_faultOf 38 = .ok (.iinc 4 (-1), 3) := by decide +kernel
theorem d_PathCheck_faultOf_41 : decode b_PathCheck_faultOf 41 = .ok (.goto (-33), 3) := by decide +kernel
theorem d_PathCheck_faultOf_44 : decode b_PathCheck_faultOf 44 = .ok (.aload_n 0, 1) := by decide +kernel
theorem d_PathCheck_faultOf_45 : decode b_PathCheck_faultOf 45 = .ok (.iconst (-1), 1) := by decide +kernel
theorem d_PathCheck_faultOf_46 : decode b_PathCheck_faultOf 46 = .ok (.putfield 9, 3) := by decide +kernel
theorem d_PathCheck_faultOf_49 : decode b_PathCheck_faultOf 49 = .ok (.iconst 0, 1) := by decide +kernel
theorem d_PathCheck_faultOf_50 : decode b_PathCheck_faultOf 50 = .ok (.ireturn, 1) := by decide +kernel
set_option maxHeartbeats 4000000 in
set_option maxRecDepth 100000 in
theorem m_PathCheck_faultOf (l : Launch) (dC : Nat → ClassId) (dI : Nat → Nat → Nat) (sb : sB) (γ : cG) (κ : kE) (Ad : List Nat) (ν : Nat → cN) (ω : Nat → List Nat) (L : Nat) (G : va_W) (h p9 qs r9 : Nat) (o1 : alD) (as : List Nat) (sz : Nat) (hTy : TY γ κ Ad ν ω L G) (kh : tK κ Ad h (12, 0, 0)) (kp9 : PLx γ sb κ Ad 8 p9 o1 as G) (kqs : tK κ Ad qs (17, (sb.2 5), 0)) (kr9 : tK κ Ad r9 (10, 0, 0)) (hL : L ≤ 64) (h1 : ∀ a, a ∈ Ad → (κ a).1 = 10 → a = r9) (hX : XC κ Ad ν ω) (ha : 1 ≤ as.length) : Met l y_PathCheck_faultOf w_PathCheck_faultOf ({ frames := 7, cells := 0, slots := 0, locals := 163 }) (mu_P [.ref h, .ref p9, .ref qs, .ref r9] (dC, dI) sb G [(γ.1, .byte), (γ.2.1, .int), (γ.2.2.1, .long), (γ.2.2.2, .object "java/lang/Object")] sz) (va_Qi (fun r (G' : va_W) => (∃ L' : Nat, L' ≤ 64 ∧ TY γ κ Ad ν ω L' G') ∧ FR Ad G G' ∧ (True)) (mu_B (dC, dI) [(γ.1, .byte), (γ.2.1, .int), (γ.2.2.1, .long), (γ.2.2.2, .object "java/lang/Object")] (va_A G sz) (fun G' : va_W => G')) (va_A G sz)) 0 0 (va_A G sz) := by
  refine Met.ofW (cc := b_PathCheck_faultOf) (maxL := 6) (ret := (some FieldType.int)) (by decide) rfl ?_
  intro p e s m args below meth c s₁ B hml hv
  obtain ⟨rfl, hsz, hB0, hP, hK, hD0, hN, hT0⟩ := hv
  have hx := B.exec
  have hb := B.bytes
  have hr := B.returns
  have hts := atoms_spec (ws := w_PathCheck_faultOf) B.pre
  have tbin : ∀ w ∈ tb, w ∈ w_PathCheck_faultOf := fun w h => List.mem_cons_of_mem _ h
  have htb : ∀ w ∈ tb, w.before _ s = true := fun w h => hts w (tbin w h)
  have hown : s.vm.findClass "TrustChain$PathCheck" = some m.cls := findClass_of_methodNamed B.named
  have hlocks := B.notSynchronized
  subst hsz
  have hD := hD0.self (sz := s.heap.size)
  generalize hAe : va_A G s.heap.size = A at hD ⊢
  have hA : ∀ q : Nat, s.heap.size ≤ q → A q := fun q h => by rw [← hAe]; exact Or.inr h
  have hAs : ∀ q : Nat, A q → sb.1 ≤ q := fun q h => by
    rw [← hAe] at h
    rcases h with ⟨k, e, h⟩ | h
    · exact hD0.2 k _ h
    · exact Nat.le_trans hB0 h
  have hS : va_S A s.heap s.heap [] := va_S.rf
  have hFR := FR.rf Ad G
  have hcs : 0 ≤ (headSpec w_PathCheck_faultOf ({ frames := 7, cells := 0, slots := 0, locals := 163 })).room.cells ∧ 0 ≤ (headSpec w_PathCheck_faultOf ({ frames := 7, cells := 0, slots := 0, locals := 163 })).room.slots := ⟨Nat.le_refl _, Nat.le_refl _⟩
  have hP : va_P (dC, dI) classes G s.heap := hP
  have hl := lv_entry ([.ref h, .ref p9, .ref qs, .ref r9]) (n := 6) (Nat.le_of_ble_eq_true rfl)
  rw [lg_entry_eq]
  generalize (lg_sl ([.ref h, .ref p9, .ref qs, .ref r9]) ++ List.replicate (6 - (lg_sl ([.ref h, .ref p9, .ref qs, .ref r9])).length) Slot.unset).toArray = ls at hl ⊢
  have hl : lv_has ls 6 [(0, .ref h), (1, .ref p9), (2, .ref qs), (3, .ref r9)] := hl
  have kp9_0 := kp9
  refine lv_aload_n hx hb d_PathCheck_faultOf_0 rfl (lv_at hl 1 rfl) ?_
  obtain ⟨i_1, m_1, hK_1, hg_1⟩ := pl_size kp9
  refine vp_callSi (pu_callV (As := []) (rest := []) ⟨hx, hb, hml, hown, hts⟩ tbin (c_AL_size l dC dI sb p9 (alO sb o1) as.length m_1) q6_46 q2_54 q2_55 q1_4 q2_56 (n := 0) (by decide +kernel) rfl ⟨rfl, rfl⟩ ⟨Nat.le_of_ble_eq_true rfl, Nat.le_of_ble_eq_true rfl⟩ ⟨Nat.le_of_ble_eq_true rfl, Nat.le_of_ble_eq_true rfl⟩ hN (hT0.keep hS hAs) hK hP [i_1] (by simp only [List.filterMap_cons, List.filterMap_nil, hg_1]) [] rfl i_1 11 hg_1 rfl rfl hl.1 rfl (Nat.le_of_ble_eq_true rfl) d_PathCheck_faultOf_1) (fun r1 hr1 => ?_)
  subst hr1
  refine lv_iconst (v := 2) hx hb d_PathCheck_faultOf_4 (by decide) ?_
  refine lv_isub hx hb d_PathCheck_faultOf_5 ?_
  rw [show ((nI as.length) - 2 : Int32) = jD (as.length - 1) from jD_2 (by omega)]
  refine lv_istore (lv' := [(4, .int (jD (as.length - 1))), (0, .ref h), (1, .ref p9), (2, .ref qs), (3, .ref r9)]) hx hb d_PathCheck_faultOf_6 hl (by decide) rfl (fun ls hl => ?_)
  refine w_loopW (α := Nat × va_W) (fun a9 => a9.1 ≤ (as.length - 1) ∧ (∃ L' : Nat, L' ≤ 64 ∧ TY γ κ Ad ν ω L' a9.2) ∧ FR Ad G a9.2) (fun a9 => a9.1) (fun a9 => [(4, .int (jD a9.1)), (0, .ref h), (1, .ref p9), (2, .ref qs), (3, .ref r9)]) (fun _ => []) (fun a9 => a9.2) 6 8 (fun a9 HL8 locs ls hJ hP hD hS hl ih8 => ?_) ((as.length - 1), G) _ _ ls ⟨by omega, ⟨_, hL, hTy⟩, hFR⟩ hP hD hS (lv_sub hl [0, 1, 2, 3, 4] rfl)
  obtain ⟨z8, G8⟩ := a9
  obtain ⟨hz8, ⟨L8, hL8, hTy⟩, hFR⟩ := hJ
  dsimp only at hz8 hTy hFR hP hD hl ih8
  have kp9 := kp9_0.fr hFR
  obtain _ | z8 := z8
  · have hl : lv_has ls 6 [(4, .int (-1)), (0, .ref h), (1, .ref p9), (2, .ref qs), (3, .ref r9)] := hl
    refine lv_iload hx hb d_PathCheck_faultOf_8 (lv_at hl 0 rfl) ?_
    refine lv_if_lt (tgt := 44) hx hb d_PathCheck_faultOf_10 (by decide) (fun c10 => ?_) (fun c10 => ?_)
    rotate_left
    · exact absurd c10 (by decide)
    refine lv_aload_n hx hb d_PathCheck_faultOf_44 rfl (lv_at hl 1 rfl) ?_
    refine lv_iconst (v := -1) hx hb d_PathCheck_faultOf_45 (by decide) ?_
    obtain ⟨i_2, fp_2, kw_2, ik_2, ti_2, hg_2⟩ := ty_12 hTy kh
    refine va_put (v := .int (-1)) (ty := .int) hx hb htb i_PathCheck t_PathCheck t_PathCheck_ok n_PathCheck hown hK hP hD hS i_2 hg_2 rfl 0 (by decide) (htb _ q1_142) (fun _ h9 => h9) rfl (by decide +kernel) rfl rfl (Nat.le_of_ble_eq_true rfl) d_PathCheck_faultOf_46 (fun H46 locs hP hD2 hS => ?_)
    have hP : va_P (dC, dI) classes (G8.set i_2 (h, .inr (9, [.int (-1), .long ti_2, .int kw_2, .int ik_2]))) H46 := hP
    have hD3 : va_D A (G8.set i_2 (h, .inr (9, [.int (-1), .long ti_2, .int kw_2, .int ik_2]))) := hD2
    have hFR := hFR.tr (FR.set (c' := .inr (9, [.int (-1), .long ti_2, .int kw_2, .int ik_2])) hg_2 kh.1)
    have hTy := TY.set (c' := .inr (9, [.int (-1), .long ti_2, .int kw_2, .int ik_2])) hTy hg_2 (ok_12 kh _ _ _ _)
    have hD := hD3
    have hg_2 := set_here (c' := .inr (9, [.int (-1), .long ti_2, .int kw_2, .int ik_2])) hg_2
    clear hD3 hD2
    generalize G8.set i_2 (h, .inr (9, [.int (-1), .long ti_2, .int kw_2, .int ik_2])) = G_3 at hP hD hTy hFR hg_2
    have kp9 := kp9_0.fr hFR
    refine lv_iconst (v := 0) hx hb d_PathCheck_faultOf_49 (by decide) ?_
    exact W.iret (v := 0) hx hb hr (fun t ht hW => ⟨⟨_, G_3, rfl, ⟨⟨_, hL8, hTy⟩, hFR, trivial⟩, by rw [ht]; exact hP, va_K.moved hW.alike hK, hD⟩, hS.F ht⟩) hS.2.2 d_PathCheck_faultOf_50
  · have hl : lv_has ls 6 [(4, .int (nI z8)), (0, .ref h), (1, .ref p9), (2, .ref qs), (3, .ref r9)] := hl
    refine lv_iload hx hb d_PathCheck_faultOf_8 (lv_at hl 0 rfl) ?_
    refine lv_if_lt (tgt := 44) hx hb d_PathCheck_faultOf_10 (by decide) (fun c10 => ?_) (fun c10 => ?_)
    · have p10 : z8 < 0 := ((nI_ltI (a := z8) (b := 0) (by omega) (by omega)).mp c10)
      refine lv_aload_n hx hb d_PathCheck_faultOf_44 rfl (lv_at hl 1 rfl) ?_
      refine lv_iconst (v := -1) hx hb d_PathCheck_faultOf_45 (by decide) ?_
      obtain ⟨i_4, fp_4, kw_4, ik_4, ti_4, hg_4⟩ := ty_12 hTy kh
      refine va_put (v := .int (-1)) (ty := .int) hx hb htb i_PathCheck t_PathCheck t_PathCheck_ok n_PathCheck hown hK hP hD hS i_4 hg_4 rfl 0 (by decide) (htb _ q1_142) (fun _ h9 => h9) rfl (by decide +kernel) rfl rfl (Nat.le_of_ble_eq_true rfl) d_PathCheck_faultOf_46 (fun H46 locs hP hD2 hS => ?_)
      have hP : va_P (dC, dI) classes (G8.set i_4 (h, .inr (9, [.int (-1), .long ti_4, .int kw_4, .int ik_4]))) H46 := hP
      have hD3 : va_D A (G8.set i_4 (h, .inr (9, [.int (-1), .long ti_4, .int kw_4, .int ik_4]))) := hD2
      have hFR := hFR.tr (FR.set (c' := .inr (9, [.int (-1), .long ti_4, .int kw_4, .int ik_4])) hg_4 kh.1)
      have hTy := TY.set (c' := .inr (9, [.int (-1), .long ti_4, .int kw_4, .int ik_4])) hTy hg_4 (ok_12 kh _ _ _ _)
      have hD := hD3
      have hg_4 := set_here (c' := .inr (9, [.int (-1), .long ti_4, .int kw_4, .int ik_4])) hg_4
      clear hD3 hD2
      generalize G8.set i_4 (h, .inr (9, [.int (-1), .long ti_4, .int kw_4, .int ik_4])) = G_5 at hP hD hTy hFR hg_4
      have kp9 := kp9_0.fr hFR
      refine lv_iconst (v := 0) hx hb d_PathCheck_faultOf_49 (by decide) ?_
      exact W.iret (v := 0) hx hb hr (fun t ht hW => ⟨⟨_, G_5, rfl, ⟨⟨_, hL8, hTy⟩, hFR, trivial⟩, by rw [ht]; exact hP, va_K.moved hW.alike hK, hD⟩, hS.F ht⟩) hS.2.2 d_PathCheck_faultOf_50
    · have p10 : ¬ (z8 < 0) := (fun q9 => c10 ((nI_ltI (a := z8) (b := 0) (by omega) (by omega)).mpr q9))
      refine lv_aload_n hx hb d_PathCheck_faultOf_13 rfl (lv_at hl 1 rfl) ?_
      refine lv_aload_n hx hb d_PathCheck_faultOf_14 rfl (lv_at hl 2 rfl) ?_
      refine lv_iload hx hb d_PathCheck_faultOf_15 (lv_at hl 0 rfl) ?_
      refine lv_aload_n hx hb d_PathCheck_faultOf_17 rfl (lv_at hl 3 rfl) ?_
      refine lv_aload_n hx hb d_PathCheck_faultOf_18 rfl (lv_at hl 4 rfl) ?_
      have hFc := va_free (wc := G8) hD hS hA (List.range G8.length) (rg_is _)
      obtain ⟨i_7, fp_7, kw_7, ik_7, ti_7, hg_7⟩ := ty_12 hTy kh
      refine va_calli (mu_runV (As := [.ref p9, .int (nI z8), .ref qs, .ref r9]) (rest := []) ⟨hx, hb, hml, hown, hts⟩ tbin (m_PathCheck_faultAt l dC dI sb γ κ Ad ν ω L8 G8 h p9 qs r9 _ _ _ HL8.size hTy kh kp9 kqs kr9 hL8 h1 hX (by omega)) q6_47 q6_49 qp_31 q1_8 q6_50 (n := 4) (by decide +kernel) rfl ⟨rfl, rfl⟩ ⟨Nat.le_of_ble_eq_true rfl, Nat.le_of_ble_eq_true rfl⟩ ⟨Nat.le_of_ble_eq_true rfl, Nat.le_of_ble_eq_true rfl⟩ hN (hT0.keep hS hAs) hAs (Nat.le_trans hB0 hS.1) hK hP hD (List.range G8.length) (rg_nd _) (rg_is _) [0, 1, 2, 3] rfl i_7 9 hg_7 rfl rfl hl.1 rfl (Nat.le_of_ble_eq_true rfl) d_PathCheck_faultOf_19) hS (fun q _ h => hFc q h) hFc (fun r19 G_6 tS H19 locs ht hvm hw19 hB hz1 hk1 hS => ?_)
      obtain ⟨⟨L19, hL19, hTy⟩, hF9, hr19⟩ := hw19
      have hFR := hFR.tr hF9
      obtain ⟨hP1, hK1, hD1⟩ := hB
      rw [ht] at hP1
      have hP : va_P (dC, dI) classes G_6 H19 := hP1
      have hD : va_D A G_6 := hD1.weaken (fun _ _ _ h => hFc _ h)
      have kp9 := kp9_0.fr hFR
      refine lv_istore (lv' := [(5, .int r19), (4, .int (nI z8)), (0, .ref h), (1, .ref p9), (2, .ref qs), (3, .ref r9)]) hx hb d_PathCheck_faultOf_22 hl (by decide) rfl (fun ls hl => ?_)
      refine lv_iload hx hb d_PathCheck_faultOf_24 (lv_at hl 0 rfl) ?_
      refine lv_if_eq (tgt := 38) hx hb d_PathCheck_faultOf_26 (by decide) (fun c26 => ?_) (fun c26 => ?_)
      · have p26 : r19 = (0 : Int32) := c26
        refine lv_iinc (v := jD z8) (lv' := [(4, .int (jD z8)), (5, .int r19), (0, .ref h), (1, .ref p9), (2, .ref qs), (3, .ref r9)]) hx hb d_PathCheck_faultOf_38 hl (k := 1) rfl (jD_dec _) (by decide) rfl (fun ls hl => ?_)
        refine lv_goto (tgt := 8) hx hb d_PathCheck_faultOf_41 (by decide) ?_
        exact ih8 (z8, G_6) _ _ ls (by dsimp only; omega) ⟨by dsimp only; omega, ⟨_, hL19, hTy⟩, hFR⟩ hP hD hS (lv_sub hl [0, 2, 3, 4, 5] rfl)
      · have p26 : ¬ (r19 = (0 : Int32)) := c26
        refine lv_aload_n hx hb d_PathCheck_faultOf_29 rfl (lv_at hl 2 rfl) ?_
        refine lv_iload hx hb d_PathCheck_faultOf_30 (lv_at hl 1 rfl) ?_
        obtain ⟨i_8, fp_8, kw_8, ik_8, ti_8, hg_8⟩ := ty_12 hTy kh
        refine va_put (v := .int (nI z8)) (ty := .int) hx hb htb i_PathCheck t_PathCheck t_PathCheck_ok n_PathCheck hown hK hP hD hS i_8 hg_8 rfl 0 (by decide) (htb _ q1_142) (fun _ h9 => h9) rfl (by decide +kernel) rfl rfl (Nat.le_of_ble_eq_true rfl) d_PathCheck_faultOf_32 (fun H32 locs hP hD2 hS => ?_)
        have hP : va_P (dC, dI) classes (G_6.set i_8 (h, .inr (9, [.int (nI z8), .long ti_8, .int kw_8, .int ik_8]))) H32 := hP
        have hD3 : va_D A (G_6.set i_8 (h, .inr (9, [.int (nI z8), .long ti_8, .int kw_8, .int ik_8]))) := hD2
        have hFR := hFR.tr (FR.set (c' := .inr (9, [.int (nI z8), .long ti_8, .int kw_8, .int ik_8])) hg_8 kh.1)
        have hTy := TY.set (c' := .inr (9, [.int (nI z8), .long ti_8, .int kw_8, .int ik_8])) hTy hg_8 (ok_12 kh _ _ _ _)
        have hD := hD3
        have hg_8 := set_here (c' := .inr (9, [.int (nI z8), .long ti_8, .int kw_8, .int ik_8])) hg_8
        clear hD3 hD2
        generalize G_6.set i_8 (h, .inr (9, [.int (nI z8), .long ti_8, .int kw_8, .int ik_8])) = G_9 at hP hD hTy hFR hg_8
        have kp9 := kp9_0.fr hFR
        refine lv_iload hx hb d_PathCheck_faultOf_35 (lv_at hl 0 rfl) ?_
        exact W.iret (v := r19) hx hb hr (fun t ht hW => ⟨⟨_, G_9, rfl, ⟨⟨_, hL19, hTy⟩, hFR, trivial⟩, by rw [ht]; exact hP, va_K.moved hW.alike hK, hD⟩, hS.F ht⟩) hS.2.2 d_PathCheck_faultOf_37
