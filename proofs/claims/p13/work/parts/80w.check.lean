/-! PathCheck: what it answers. -/
theorem jD_2 {n : Nat} (h : 1 ≤ n) : nI n - 2 = jD (n - 1) := by
  cases n with
  | zero => omega
  | succ n =>
    cases n with
    | zero => decide
    | succ n => exact pk_sub (a := n + 2) (b := 2) (by omega)
def y_PathCheck_isTooFarDown : MethodName := ⟨"TrustChain$PathCheck", "isTooFarDown", "(Ljava/util/ArrayList;I)Z"⟩
abbrev b_PathCheck_isTooFarDown : ByteArray := prog_7_method_8_code
def w_PathCheck_isTooFarDown : List Cond := Cond.code y_PathCheck_isTooFarDown b_PathCheck_isTooFarDown 5 ((some FieldType.boolean)) :: tb
theorem d_PathCheck_isTooFarDown_0 : decode b_PathCheck_isTooFarDown 0 = .ok (.iconst 0, 1) := by decide +kernel
theorem d_PathCheck_isTooFarDown_1 : decode b_PathCheck_isTooFarDown 1 = .ok (.istore_n 2, 1) := by decide +kernel
theorem d_PathCheck_isTooFarDown_2 : decode b_PathCheck_isTooFarDown 2 = .ok (.iload_n 1, 1) := by decide +kernel
theorem d_PathCheck_isTooFarDown_3 : decode b_PathCheck_isTooFarDown 3 = .ok (.istore_n 3, 1) := by decide +kernel
theorem d_PathCheck_isTooFarDown_4 : decode b_PathCheck_isTooFarDown 4 = .ok (.iload_n 3, 1) := by decide +kernel
theorem d_PathCheck_isTooFarDown_5 : decode b_PathCheck_isTooFarDown 5 = .ok (.aload_n 0, 1) := by decide +kernel
theorem d_PathCheck_isTooFarDown_6 : decode b_PathCheck_isTooFarDown 6 = .ok (.invokevirtual 26, 3) := by decide +kernel
theorem d_PathCheck_isTooFarDown_9 : decode b_PathCheck_isTooFarDown 9 = .ok (.iconst 1, 1) := by decide +kernel
theorem d_PathCheck_isTooFarDown_10 : decode b_PathCheck_isTooFarDown 10 = .ok (.isub, 1) := by decide +kernel
theorem d_PathCheck_isTooFarDown_11 : decode b_PathCheck_isTooFarDown 11 = .ok (.if_icmp .ge 59, 3) := by decide +kernel
theorem d_PathCheck_isTooFarDown_14 : decode b_PathCheck_isTooFarDown 14 = .ok (.aload_n 0, 1) := by decide +kernel
theorem d_PathCheck_isTooFarDown_15 : decode b_PathCheck_isTooFarDown 15 = .ok (.iload_n 3, 1) := by decide +kernel
theorem d_PathCheck_isTooFarDown_16 : decode b_PathCheck_isTooFarDown 16 = .ok (.invokevirtual 36, 3) := by decide +kernel
theorem d_PathCheck_isTooFarDown_19 : decode b_PathCheck_isTooFarDown 19 = .ok (.checkcast 40, 3) := by decide +kernel
theorem d_PathCheck_isTooFarDown_22 : decode b_PathCheck_isTooFarDown 22 = .ok (.astore 4, 2) := by decide +kernel
theorem d_PathCheck_isTooFarDown_24 : decode b_PathCheck_isTooFarDown 24 = .ok (.iload_n 3, 1) := by decide +kernel
theorem d_PathCheck_isTooFarDown_25 : decode b_PathCheck_isTooFarDown 25 = .ok (.iload_n 1, 1) := by decide +kernel
theorem d_PathCheck_isTooFarDown_26 : decode b_PathCheck_isTooFarDown 26 = .ok (.if_icmp .le 22, 3) := by decide +kernel
theorem d_PathCheck_isTooFarDown_29 : decode b_PathCheck_isTooFarDown 29 = .ok (.aload 4, 2) := by decide +kernel
theorem d_PathCheck_isTooFarDown_31 : decode b_PathCheck_isTooFarDown 31 = .ok (.getfield 126, 3) := by decide +kernel
theorem d_PathCheck_isTooFarDown_34 : decode b_PathCheck_isTooFarDown 34 = .ok (.ifCond .lt 14, 3) := by decide +kernel
theorem d_PathCheck_isTooFarDown_37 : decode b_PathCheck_isTooFarDown 37 = .ok (.aload 4, 2) := by decide +kernel
theorem d_PathCheck_isTooFarDown_39 : decode b_PathCheck_isTooFarDown 39 = .ok (.getfield 126, 3) := by decide +kernel
theorem d_PathCheck_isTooFarDown_42 : decode b_PathCheck_isTooFarDown 42 = .ok (.iload_n 2, 1) := by decide +kernel
theorem d_PathCheck_isTooFarDown_43 : decode b_PathCheck_isTooFarDown 43 = .ok (.if_icmp .ge 5, 3) := by decide +kernel
theorem d_PathCheck_isTooFarDown_46 : decode b_PathCheck_isTooFarDown 46 = .ok (.iconst 1, 1) := by decide +kernel
theorem d_PathCheck_isTooFarDown_47 : decode b_PathCheck_isTooFarDown 47 = .ok (.ireturn, 1) := by decide +kernel
theorem d_PathCheck_isTooFarDown_48 : decode b_PathCheck_isTooFarDown 48 = .ok (.iload_n 2, 1) := by decide +kernel
theorem d_PathCheck_isTooFarDown_49 : decode b_PathCheck_isTooFarDown 49 = .ok (.aload 4, 2) := by decide +kernel
theorem d_PathCheck_isTooFarDown_51 : decode b_PathCheck_isTooFarDown 51 = .ok (.getfield 56, 3) := by decide +kernel
theorem d_PathCheck_isTooFarDown_54 : decode b_PathCheck_isTooFarDown 54 = .ok (.ifCond .eq 7, 3) := by decide +kernel
theorem d_PathCheck_isTooFarDown_57 : decode b_PathCheck_isTooFarDown 57 = .ok (.iconst 0, 1) := by decide +kernel
theorem d_PathCheck_isTooFarDown_58 : decode b_PathCheck_isTooFarDown 58 = .ok (.goto 4, 3) := by decide +kernel
theorem d_PathCheck_isTooFarDown_61 : decode b_PathCheck_isTooFarDown 61 = .ok (.iconst 1, 1) := by decide +kernel
theorem d_PathCheck_isTooFarDown_62 : decode b_PathCheck_isTooFarDown 62 = .ok (.iadd, 1) := by decide +kernel
theorem d_PathCheck_isTooFarDown_63 : decode b_PathCheck_isTooFarDown 63 = .ok (.istore_n 2, 1) := by decide +kernel
theorem d_PathCheck_isTooFarDown_64 : decode b_PathCheck_isTooFarDown 64 = .ok (.iinc 3 1, 3) := by decide +kernel
theorem d_PathCheck_isTooFarDown_67 : decode b_PathCheck_isTooFarDown 67 = .ok (.goto (-63), 3) := by decide +kernel
theorem d_PathCheck_isTooFarDown_70 : decode b_PathCheck_isTooFarDown 70 = .ok (.iconst 0, 1) := by decide +kernel
theorem d_PathCheck_isTooFarDown_71 : decode b_PathCheck_isTooFarDown 71 = .ok (.ireturn, 1) := by decide +kernel
set_option maxHeartbeats 4000000 in
set_option maxRecDepth 100000 in
theorem p_PathCheck_isTooFarDown (l : Launch) (dC : Nat → ClassId) (dI : Nat → Nat → Nat) (sb : sB) (γ : cG) (κ : kE) (Ad : List Nat) (ν : Nat → cN) (ω : Nat → List Nat) (L : Nat) (G : va_W) (p9 : Nat) (o1 : alD) (as : List Nat) (k : Nat) (hTy : TY γ κ Ad ν ω L G) (kp9 : PLx γ sb κ Ad 8 p9 o1 as G) (hk : k < as.length) (hY : YC κ Ad ν ω) : Met l y_PathCheck_isTooFarDown w_PathCheck_isTooFarDown ({ frames := 3, cells := 0, slots := 0, locals := 64 }) (pu_P [.ref p9, .int (nI k)] (dC, dI) sb G [(γ.1, .byte), (γ.2.1, .int), (γ.2.2.1, .long), (γ.2.2.2, .object "java/lang/Object")]) (vp_Si (fun r => r = zP (farQ (cO κ ν ω) as k))) 0 0 (fun _ => False) := by
  refine Met.ofW (cc := b_PathCheck_isTooFarDown) (maxL := 5) (ret := (some FieldType.boolean)) (by decide) rfl ?_
  intro p e s m args below meth c s₁ B hml hv
  obtain ⟨rfl, hP, hK, hN, hT0⟩ := hv
  have hx := B.exec
  have hb := B.bytes
  have hr := B.returns
  have hts := atoms_spec (ws := w_PathCheck_isTooFarDown) B.pre
  have tbin : ∀ w ∈ tb, w ∈ w_PathCheck_isTooFarDown := fun w h => List.mem_cons_of_mem _ h
  have htb : ∀ w ∈ tb, w.before _ s = true := fun w h => hts w (tbin w h)
  have hown : s.vm.findClass "TrustChain$PathCheck" = some m.cls := findClass_of_methodNamed B.named
  have hlocks := B.notSynchronized
  have hl := lv_entry ([.ref p9, .int (nI k)]) (n := 5) (Nat.le_of_ble_eq_true rfl)
  rw [lg_entry_eq]
  generalize (lg_sl ([.ref p9, .int (nI k)]) ++ List.replicate (5 - (lg_sl ([.ref p9, .int (nI k)])).length) Slot.unset).toArray = ls at hl ⊢
  have hl : lv_has ls 5 [(0, .ref p9), (1, .int (nI k))] := hl
  refine lv_iconst (v := 0) hx hb d_PathCheck_isTooFarDown_0 (by decide) ?_
  refine lv_istore_n (lv' := [(2, .int 0), (0, .ref p9), (1, .int (nI k))]) hx hb d_PathCheck_isTooFarDown_1 rfl hl (by decide) rfl (fun ls hl => ?_)
  refine lv_iload_n hx hb d_PathCheck_isTooFarDown_2 rfl (lv_at hl 2 rfl) ?_
  refine lv_istore_n (lv' := [(3, .int (nI k)), (2, .int 0), (0, .ref p9), (1, .int (nI k))]) hx hb d_PathCheck_isTooFarDown_3 rfl hl (by decide) rfl (fun ls hl => ?_)
  have hl : lv_has ls 5 [(3, .int (nI k)), (2, .int (nI (btwQ (cO κ ν ω) as k (k - k)))), (0, .ref p9), (1, .int (nI k))] := by rw [Nat.sub_self]; exact hl
  refine w_loop (α := Nat) (fun a9 => (k ≤ a9 ∧ a9 ≤ as.length) ∧ ∀ j9, j9 < a9 → j9 + 1 < as.length → ¬ (k < j9 ∧ ¬ ((cO κ ν ω) (as.getD j9 0)).ln < 0 ∧ ((cO κ ν ω) (as.getD j9 0)).ln < nI (btwQ (cO κ ν ω) as k (j9 - k)))) (fun a9 => as.length - a9) (fun a9 => [(3, .int (nI a9)), (2, .int (nI (btwQ (cO κ ν ω) as k (a9 - k)))), (0, .ref p9), (1, .int (nI k))]) (fun _ => []) 5 4 (fun z9 ls hJ hl ih => ?_) k ls ⟨⟨Nat.le_refl _, by omega⟩, fun j9 h8 _ h9 => absurd h9.1 (by omega)⟩ (lv_sub hl [0, 1, 2, 3] rfl)
  have hz9 := hJ.1
  refine lv_iload_n hx hb d_PathCheck_isTooFarDown_4 rfl (lv_at hl 0 rfl) ?_
  refine lv_aload_n hx hb d_PathCheck_isTooFarDown_5 rfl (lv_at hl 2 rfl) ?_
  obtain ⟨i_1, m_1, hK_1, hg_1⟩ := pl_size kp9
  refine vp_callSi (pu_callV (As := []) (rest := [.int (nI z9)]) ⟨hx, hb, hml, hown, hts⟩ tbin (c_AL_size l dC dI sb p9 (alO sb o1) as.length m_1) q6_46 q2_54 q2_55 q1_4 q2_56 (n := 0) (by decide +kernel) rfl ⟨rfl, rfl⟩ ⟨Nat.le_of_ble_eq_true rfl, Nat.le_of_ble_eq_true rfl⟩ ⟨Nat.le_of_ble_eq_true rfl, Nat.le_of_ble_eq_true rfl⟩ hN hT0 hK hP [i_1] (by simp only [List.filterMap_cons, List.filterMap_nil, hg_1]) [] rfl i_1 11 hg_1 rfl rfl hl.1 rfl (Nat.le_of_ble_eq_true rfl) d_PathCheck_isTooFarDown_6) (fun r6 hr6 => ?_)
  subst hr6
  refine lv_iconst (v := 1) hx hb d_PathCheck_isTooFarDown_9 (by decide) ?_
  refine lv_isub hx hb d_PathCheck_isTooFarDown_10 ?_
  rw [show ((nI as.length) - 1 : Int32) = nI (as.length - 1) from pk_sub (a := as.length) (b := 1) (by omega)]
  refine lv_icmp_ge (tgt := 70) hx hb d_PathCheck_isTooFarDown_11 (by decide) (fun c11 => ?_) (fun c11 => ?_)
  · have p11 : (as.length - 1) ≤ z9 := ((nI_leI (a := (as.length - 1)) (b := z9) (by omega) (by omega)).mp c11)
    refine lv_iconst (v := 0) hx hb d_PathCheck_isTooFarDown_70 (by decide) ?_
    exact W.zret (v := 0) hx hb hr rfl (fun t ht hW => ⟨_, rfl, zP_f (fun ⟨j9, h6, h7, h8, h9⟩ => hJ.2 j9 (by omega) h7 ⟨h6, h8, h9⟩), ht⟩) (fun q h => by cases h) d_PathCheck_isTooFarDown_71
  · have p11 : ¬ ((as.length - 1) ≤ z9) := (fun q9 => c11 ((nI_leI (a := (as.length - 1)) (b := z9) (by omega) (by omega)).mpr q9))
    refine lv_aload_n hx hb d_PathCheck_isTooFarDown_14 rfl (lv_at hl 2 rfl) ?_
    refine lv_iload_n hx hb d_PathCheck_isTooFarDown_15 rfl (lv_at hl 0 rfl) ?_
    obtain ⟨j_2, cap_2, f_2, p_2, q_2, hK_2, hc_2, hf_2, ks_2, h9_2, hq_2⟩ := pl_get kp9 (j := z9) (by omega)
    refine va_csr (pu_callV (As := [.int (nI z9)]) (rest := []) ⟨hx, hb, hml, hown, hts⟩ tbin (c_AL_get l dC dI sb p9 (alO sb o1) as.length cap_2 z9 (as.getD z9 0) m_1 γ.2.2.2 f_2 (by omega) hK_2 (by omega) hf_2) q6_51 q4_210 q4_211 q1_4 q4_212 (n := 1) (by decide +kernel) rfl ⟨rfl, rfl⟩ ⟨Nat.le_of_ble_eq_true rfl, Nat.le_of_ble_eq_true rfl⟩ ⟨Nat.le_of_ble_eq_true rfl, Nat.le_of_ble_eq_true rfl⟩ hN hT0 hK hP [i_1, j_2] (by simp only [List.filterMap_cons, List.filterMap_nil, hg_1, hq_2]) [3] rfl i_1 11 hg_1 rfl rfl hl.1 rfl (Nat.le_of_ble_eq_true rfl) d_PathCheck_isTooFarDown_16) (fun r16 hr16 => ?_)
    obtain rfl := Eq.symm hr16
    obtain ⟨i_3, bo_3, K_3, B_3, kbo_3, wl_3, hg_3⟩ := ty_8x hTy ks_2
    obtain ⟨⟨A_3, knm_3⟩, kpe_3, kec_3, kse_3, ksu_3, kmo_3, kok_3, kik_3, kha_3, ksi_3, ken_3, ksg_3, kis_3⟩ := K_3
    have knm_3 := tK.fiv ⟨_, _, knm_3⟩
    have kpe_3 := tK.fiv kpe_3
    have kec_3 := tK.fiv kec_3
    have ksu_3 := tK.two ksu_3
    have kmo_3 := tK.two kmo_3
    have kok_3 := tK.two kok_3
    have kik_3 := tK.two kik_3
    have ksg_3 := tK.two ksg_3
    have kis_3 := tK.two kis_3
    refine va_castY (C := "TrustChain$Certificate") hx hb hown (htb _ q6_52) (hN.1 _ qn9_223) (va_recv (ci := 3) hK hP rfl hg_3) d_PathCheck_isTooFarDown_19 ?_
    refine lv_astore (lv' := [(4, .ref (as.getD z9 0)), (3, .int (nI z9)), (2, .int (nI (btwQ (cO κ ν ω) as k (z9 - k)))), (0, .ref p9), (1, .int (nI k))]) hx hb d_PathCheck_isTooFarDown_22 hl (by decide) rfl (fun ls hl => ?_)
    refine lv_iload_n hx hb d_PathCheck_isTooFarDown_24 rfl (lv_at hl 1 rfl) ?_
    refine lv_iload_n hx hb d_PathCheck_isTooFarDown_25 rfl (lv_at hl 4 rfl) ?_
    refine lv_icmp_le (tgt := 48) hx hb d_PathCheck_isTooFarDown_26 (by decide) (fun c26 => ?_) (fun c26 => ?_)
    · have p26 : z9 ≤ k := ((nI_leI (a := z9) (b := k) (by omega) (by omega)).mp c26)
      refine lv_iload_n hx hb d_PathCheck_isTooFarDown_48 rfl (lv_at hl 2 rfl) ?_
      refine lv_aload hx hb d_PathCheck_isTooFarDown_49 (lv_at hl 0 rfl) ?_
      refine va_get (v := .int ((ν (as.getD z9 0)).2.2.2.2.2.2.2.1)) hx hb htb i_Certificate hown hK hP i_3 hg_3 rfl 15 (by decide) (htb _ q2_181) (fun _ h9 => h9) rfl d_PathCheck_isTooFarDown_51 ?_
      refine lv_if_eq (tgt := 61) hx hb d_PathCheck_isTooFarDown_54 (by decide) (fun c54 => ?_) (fun c54 => ?_)
      · have p54 : ((ν (as.getD z9 0)).2.2.2.2.2.2.2.1) = (0 : Int32) := c54
        refine lv_iconst (v := 1) hx hb d_PathCheck_isTooFarDown_61 (by decide) ?_
        refine lv_iadd hx hb d_PathCheck_isTooFarDown_62 ?_
        rw [show ((nI (btwQ (cO κ ν ω) as k (z9 - k))) + 1 : Int32) = nI ((btwQ (cO κ ν ω) as k (z9 - k)) + 1) from nI_add (btwQ (cO κ ν ω) as k (z9 - k)) 1]
        refine lv_istore_n (lv' := [(2, .int (nI ((btwQ (cO κ ν ω) as k (z9 - k)) + 1))), (4, .ref (as.getD z9 0)), (3, .int (nI z9)), (0, .ref p9), (1, .int (nI k))]) hx hb d_PathCheck_isTooFarDown_63 rfl hl (by decide) rfl (fun ls hl => ?_)
        refine lv_iinc (v := nI (z9 + 1)) (lv' := [(3, .int (nI (z9 + 1))), (2, .int (nI ((btwQ (cO κ ν ω) as k (z9 - k)) + 1))), (4, .ref (as.getD z9 0)), (0, .ref p9), (1, .int (nI k))]) hx hb d_PathCheck_isTooFarDown_64 hl (k := 2) rfl (nI_1 _) (by decide) rfl (fun ls hl => ?_)
        refine lv_goto (tgt := 4) hx hb d_PathCheck_isTooFarDown_67 (by decide) ?_
        have e9 : nI ((btwQ (cO κ ν ω) as k (z9 - k)) + 1) = nI (btwQ (cO κ ν ω) as k (z9 + 1 - k)) := btw_a (by omega) (hY _ _ _ ks_2) p54
        have hl : lv_has ls 5 [(3, .int (nI (z9 + 1))), (2, .int (nI (btwQ (cO κ ν ω) as k (z9 + 1 - k)))), (4, .ref (as.getD z9 0)), (0, .ref p9), (1, .int (nI k))] := by rw [← e9]; exact hl
        exact ih (z9 + 1) ls (by omega) ⟨⟨by omega, by omega⟩, fun j9 h7 h8 h9 => (Nat.lt_succ_iff_lt_or_eq.mp h7).elim (fun q9 => hJ.2 j9 q9 h8 h9) (fun e8 => by subst e8; exact absurd h9.1 (by omega))⟩ (lv_sub hl [0, 1, 3, 4] rfl)
      · have p54 : ¬ (((ν (as.getD z9 0)).2.2.2.2.2.2.2.1) = (0 : Int32)) := c54
        refine lv_iconst (v := 0) hx hb d_PathCheck_isTooFarDown_57 (by decide) ?_
        refine lv_goto (tgt := 62) hx hb d_PathCheck_isTooFarDown_58 (by decide) ?_
        refine lv_iadd hx hb d_PathCheck_isTooFarDown_62 ?_
        rw [show ((nI (btwQ (cO κ ν ω) as k (z9 - k))) + 0 : Int32) = nI ((btwQ (cO κ ν ω) as k (z9 - k)) + 0) from nI_add (btwQ (cO κ ν ω) as k (z9 - k)) 0]
        refine lv_istore_n (lv' := [(2, .int (nI ((btwQ (cO κ ν ω) as k (z9 - k)) + 0))), (4, .ref (as.getD z9 0)), (3, .int (nI z9)), (0, .ref p9), (1, .int (nI k))]) hx hb d_PathCheck_isTooFarDown_63 rfl hl (by decide) rfl (fun ls hl => ?_)
        refine lv_iinc (v := nI (z9 + 1)) (lv' := [(3, .int (nI (z9 + 1))), (2, .int (nI ((btwQ (cO κ ν ω) as k (z9 - k)) + 0))), (4, .ref (as.getD z9 0)), (0, .ref p9), (1, .int (nI k))]) hx hb d_PathCheck_isTooFarDown_64 hl (k := 2) rfl (nI_1 _) (by decide) rfl (fun ls hl => ?_)
        refine lv_goto (tgt := 4) hx hb d_PathCheck_isTooFarDown_67 (by decide) ?_
        have e9 : nI ((btwQ (cO κ ν ω) as k (z9 - k)) + 0) = nI (btwQ (cO κ ν ω) as k (z9 + 1 - k)) := btw_b (by omega) (hY _ _ _ ks_2) p54
        have hl : lv_has ls 5 [(3, .int (nI (z9 + 1))), (2, .int (nI (btwQ (cO κ ν ω) as k (z9 + 1 - k)))), (4, .ref (as.getD z9 0)), (0, .ref p9), (1, .int (nI k))] := by rw [← e9]; exact hl
        exact ih (z9 + 1) ls (by omega) ⟨⟨by omega, by omega⟩, fun j9 h7 h8 h9 => (Nat.lt_succ_iff_lt_or_eq.mp h7).elim (fun q9 => hJ.2 j9 q9 h8 h9) (fun e8 => by subst e8; exact absurd h9.1 (by omega))⟩ (lv_sub hl [0, 1, 3, 4] rfl)
    · have p26 : ¬ (z9 ≤ k) := (fun q9 => c26 ((nI_leI (a := z9) (b := k) (by omega) (by omega)).mpr q9))
      refine lv_aload hx hb d_PathCheck_isTooFarDown_29 (lv_at hl 0 rfl) ?_
      refine va_get (v := .int ((ν (as.getD z9 0)).2.2.2.2.1)) hx hb htb i_Certificate hown hK hP i_3 hg_3 rfl 12 (by decide) (htb _ q2_174) (fun _ h9 => h9) rfl d_PathCheck_isTooFarDown_31 ?_
      refine lv_if_lt (tgt := 48) hx hb d_PathCheck_isTooFarDown_34 (by decide) (fun c34 => ?_) (fun c34 => ?_)
      · have p34 : ((ν (as.getD z9 0)).2.2.2.2.1) < (0 : Int32) := c34
        refine lv_iload_n hx hb d_PathCheck_isTooFarDown_48 rfl (lv_at hl 2 rfl) ?_
        refine lv_aload hx hb d_PathCheck_isTooFarDown_49 (lv_at hl 0 rfl) ?_
        refine va_get (v := .int ((ν (as.getD z9 0)).2.2.2.2.2.2.2.1)) hx hb htb i_Certificate hown hK hP i_3 hg_3 rfl 15 (by decide) (htb _ q2_181) (fun _ h9 => h9) rfl d_PathCheck_isTooFarDown_51 ?_
        refine lv_if_eq (tgt := 61) hx hb d_PathCheck_isTooFarDown_54 (by decide) (fun c54 => ?_) (fun c54 => ?_)
        · have p54 : ((ν (as.getD z9 0)).2.2.2.2.2.2.2.1) = (0 : Int32) := c54
          refine lv_iconst (v := 1) hx hb d_PathCheck_isTooFarDown_61 (by decide) ?_
          refine lv_iadd hx hb d_PathCheck_isTooFarDown_62 ?_
          rw [show ((nI (btwQ (cO κ ν ω) as k (z9 - k))) + 1 : Int32) = nI ((btwQ (cO κ ν ω) as k (z9 - k)) + 1) from nI_add (btwQ (cO κ ν ω) as k (z9 - k)) 1]
          refine lv_istore_n (lv' := [(2, .int (nI ((btwQ (cO κ ν ω) as k (z9 - k)) + 1))), (4, .ref (as.getD z9 0)), (3, .int (nI z9)), (0, .ref p9), (1, .int (nI k))]) hx hb d_PathCheck_isTooFarDown_63 rfl hl (by decide) rfl (fun ls hl => ?_)
          refine lv_iinc (v := nI (z9 + 1)) (lv' := [(3, .int (nI (z9 + 1))), (2, .int (nI ((btwQ (cO κ ν ω) as k (z9 - k)) + 1))), (4, .ref (as.getD z9 0)), (0, .ref p9), (1, .int (nI k))]) hx hb d_PathCheck_isTooFarDown_64 hl (k := 2) rfl (nI_1 _) (by decide) rfl (fun ls hl => ?_)
          refine lv_goto (tgt := 4) hx hb d_PathCheck_isTooFarDown_67 (by decide) ?_
          have e9 : nI ((btwQ (cO κ ν ω) as k (z9 - k)) + 1) = nI (btwQ (cO κ ν ω) as k (z9 + 1 - k)) := btw_a (by omega) (hY _ _ _ ks_2) p54
          have hl : lv_has ls 5 [(3, .int (nI (z9 + 1))), (2, .int (nI (btwQ (cO κ ν ω) as k (z9 + 1 - k)))), (4, .ref (as.getD z9 0)), (0, .ref p9), (1, .int (nI k))] := by rw [← e9]; exact hl
          exact ih (z9 + 1) ls (by omega) ⟨⟨by omega, by omega⟩, fun j9 h7 h8 h9 => (Nat.lt_succ_iff_lt_or_eq.mp h7).elim (fun q9 => hJ.2 j9 q9 h8 h9) (fun e8 => by subst e8; exact absurd p34 h9.2.1)⟩ (lv_sub hl [0, 1, 3, 4] rfl)
        · have p54 : ¬ (((ν (as.getD z9 0)).2.2.2.2.2.2.2.1) = (0 : Int32)) := c54
          refine lv_iconst (v := 0) hx hb d_PathCheck_isTooFarDown_57 (by decide) ?_
          refine lv_goto (tgt := 62) hx hb d_PathCheck_isTooFarDown_58 (by decide) ?_
          refine lv_iadd hx hb d_PathCheck_isTooFarDown_62 ?_
          rw [show ((nI (btwQ (cO κ ν ω) as k (z9 - k))) + 0 : Int32) = nI ((btwQ (cO κ ν ω) as k (z9 - k)) + 0) from nI_add (btwQ (cO κ ν ω) as k (z9 - k)) 0]
          refine lv_istore_n (lv' := [(2, .int (nI ((btwQ (cO κ ν ω) as k (z9 - k)) + 0))), (4, .ref (as.getD z9 0)), (3, .int (nI z9)), (0, .ref p9), (1, .int (nI k))]) hx hb d_PathCheck_isTooFarDown_63 rfl hl (by decide) rfl (fun ls hl => ?_)
          refine lv_iinc (v := nI (z9 + 1)) (lv' := [(3, .int (nI (z9 + 1))), (2, .int (nI ((btwQ (cO κ ν ω) as k (z9 - k)) + 0))), (4, .ref (as.getD z9 0)), (0, .ref p9), (1, .int (nI k))]) hx hb d_PathCheck_isTooFarDown_64 hl (k := 2) rfl (nI_1 _) (by decide) rfl (fun ls hl => ?_)
          refine lv_goto (tgt := 4) hx hb d_PathCheck_isTooFarDown_67 (by decide) ?_
          have e9 : nI ((btwQ (cO κ ν ω) as k (z9 - k)) + 0) = nI (btwQ (cO κ ν ω) as k (z9 + 1 - k)) := btw_b (by omega) (hY _ _ _ ks_2) p54
          have hl : lv_has ls 5 [(3, .int (nI (z9 + 1))), (2, .int (nI (btwQ (cO κ ν ω) as k (z9 + 1 - k)))), (4, .ref (as.getD z9 0)), (0, .ref p9), (1, .int (nI k))] := by rw [← e9]; exact hl
          exact ih (z9 + 1) ls (by omega) ⟨⟨by omega, by omega⟩, fun j9 h7 h8 h9 => (Nat.lt_succ_iff_lt_or_eq.mp h7).elim (fun q9 => hJ.2 j9 q9 h8 h9) (fun e8 => by subst e8; exact absurd p34 h9.2.1)⟩ (lv_sub hl [0, 1, 3, 4] rfl)
      · have p34 : ¬ (((ν (as.getD z9 0)).2.2.2.2.1) < (0 : Int32)) := c34
        refine lv_aload hx hb d_PathCheck_isTooFarDown_37 (lv_at hl 0 rfl) ?_
        refine va_get (v := .int ((ν (as.getD z9 0)).2.2.2.2.1)) hx hb htb i_Certificate hown hK hP i_3 hg_3 rfl 12 (by decide) (htb _ q2_174) (fun _ h9 => h9) rfl d_PathCheck_isTooFarDown_39 ?_
        refine lv_iload_n hx hb d_PathCheck_isTooFarDown_42 rfl (lv_at hl 2 rfl) ?_
        refine lv_icmp_ge (tgt := 48) hx hb d_PathCheck_isTooFarDown_43 (by decide) (fun c43 => ?_) (fun c43 => ?_)
        · have p43 : (nI (btwQ (cO κ ν ω) as k (z9 - k))) ≤ ((ν (as.getD z9 0)).2.2.2.2.1) := c43
          refine lv_iload_n hx hb d_PathCheck_isTooFarDown_48 rfl (lv_at hl 2 rfl) ?_
          refine lv_aload hx hb d_PathCheck_isTooFarDown_49 (lv_at hl 0 rfl) ?_
          refine va_get (v := .int ((ν (as.getD z9 0)).2.2.2.2.2.2.2.1)) hx hb htb i_Certificate hown hK hP i_3 hg_3 rfl 15 (by decide) (htb _ q2_181) (fun _ h9 => h9) rfl d_PathCheck_isTooFarDown_51 ?_
          refine lv_if_eq (tgt := 61) hx hb d_PathCheck_isTooFarDown_54 (by decide) (fun c54 => ?_) (fun c54 => ?_)
          · have p54 : ((ν (as.getD z9 0)).2.2.2.2.2.2.2.1) = (0 : Int32) := c54
            refine lv_iconst (v := 1) hx hb d_PathCheck_isTooFarDown_61 (by decide) ?_
            refine lv_iadd hx hb d_PathCheck_isTooFarDown_62 ?_
            rw [show ((nI (btwQ (cO κ ν ω) as k (z9 - k))) + 1 : Int32) = nI ((btwQ (cO κ ν ω) as k (z9 - k)) + 1) from nI_add (btwQ (cO κ ν ω) as k (z9 - k)) 1]
            refine lv_istore_n (lv' := [(2, .int (nI ((btwQ (cO κ ν ω) as k (z9 - k)) + 1))), (4, .ref (as.getD z9 0)), (3, .int (nI z9)), (0, .ref p9), (1, .int (nI k))]) hx hb d_PathCheck_isTooFarDown_63 rfl hl (by decide) rfl (fun ls hl => ?_)
            refine lv_iinc (v := nI (z9 + 1)) (lv' := [(3, .int (nI (z9 + 1))), (2, .int (nI ((btwQ (cO κ ν ω) as k (z9 - k)) + 1))), (4, .ref (as.getD z9 0)), (0, .ref p9), (1, .int (nI k))]) hx hb d_PathCheck_isTooFarDown_64 hl (k := 2) rfl (nI_1 _) (by decide) rfl (fun ls hl => ?_)
            refine lv_goto (tgt := 4) hx hb d_PathCheck_isTooFarDown_67 (by decide) ?_
            have e9 : nI ((btwQ (cO κ ν ω) as k (z9 - k)) + 1) = nI (btwQ (cO κ ν ω) as k (z9 + 1 - k)) := btw_a (by omega) (hY _ _ _ ks_2) p54
            have hl : lv_has ls 5 [(3, .int (nI (z9 + 1))), (2, .int (nI (btwQ (cO κ ν ω) as k (z9 + 1 - k)))), (4, .ref (as.getD z9 0)), (0, .ref p9), (1, .int (nI k))] := by rw [← e9]; exact hl
            exact ih (z9 + 1) ls (by omega) ⟨⟨by omega, by omega⟩, fun j9 h7 h8 h9 => (Nat.lt_succ_iff_lt_or_eq.mp h7).elim (fun q9 => hJ.2 j9 q9 h8 h9) (fun e8 => by subst e8; exact absurd h9.2.2 (q_ng p43))⟩ (lv_sub hl [0, 1, 3, 4] rfl)
          · have p54 : ¬ (((ν (as.getD z9 0)).2.2.2.2.2.2.2.1) = (0 : Int32)) := c54
            refine lv_iconst (v := 0) hx hb d_PathCheck_isTooFarDown_57 (by decide) ?_
            refine lv_goto (tgt := 62) hx hb d_PathCheck_isTooFarDown_58 (by decide) ?_
            refine lv_iadd hx hb d_PathCheck_isTooFarDown_62 ?_
            rw [show ((nI (btwQ (cO κ ν ω) as k (z9 - k))) + 0 : Int32) = nI ((btwQ (cO κ ν ω) as k (z9 - k)) + 0) from nI_add (btwQ (cO κ ν ω) as k (z9 - k)) 0]
            refine lv_istore_n (lv' := [(2, .int (nI ((btwQ (cO κ ν ω) as k (z9 - k)) + 0))), (4, .ref (as.getD z9 0)), (3, .int (nI z9)), (0, .ref p9), (1, .int (nI k))]) hx hb d_PathCheck_isTooFarDown_63 rfl hl (by decide) rfl (fun ls hl => ?_)
            refine lv_iinc (v := nI (z9 + 1)) (lv' := [(3, .int (nI (z9 + 1))), (2, .int (nI ((btwQ (cO κ ν ω) as k (z9 - k)) + 0))), (4, .ref (as.getD z9 0)), (0, .ref p9), (1, .int (nI k))]) hx hb d_PathCheck_isTooFarDown_64 hl (k := 2) rfl (nI_1 _) (by decide) rfl (fun ls hl => ?_)
            refine lv_goto (tgt := 4) hx hb d_PathCheck_isTooFarDown_67 (by decide) ?_
            have e9 : nI ((btwQ (cO κ ν ω) as k (z9 - k)) + 0) = nI (btwQ (cO κ ν ω) as k (z9 + 1 - k)) := btw_b (by omega) (hY _ _ _ ks_2) p54
            have hl : lv_has ls 5 [(3, .int (nI (z9 + 1))), (2, .int (nI (btwQ (cO κ ν ω) as k (z9 + 1 - k)))), (4, .ref (as.getD z9 0)), (0, .ref p9), (1, .int (nI k))] := by rw [← e9]; exact hl
            exact ih (z9 + 1) ls (by omega) ⟨⟨by omega, by omega⟩, fun j9 h7 h8 h9 => (Nat.lt_succ_iff_lt_or_eq.mp h7).elim (fun q9 => hJ.2 j9 q9 h8 h9) (fun e8 => by subst e8; exact absurd h9.2.2 (q_ng p43))⟩ (lv_sub hl [0, 1, 3, 4] rfl)
        · have p43 : ¬ ((nI (btwQ (cO κ ν ω) as k (z9 - k))) ≤ ((ν (as.getD z9 0)).2.2.2.2.1)) := c43
          refine lv_iconst (v := 1) hx hb d_PathCheck_isTooFarDown_46 (by decide) ?_
          exact W.zret (v := 1) hx hb hr rfl (fun t ht hW => ⟨_, rfl, zP_t ⟨z9, by omega, by omega, p34, q_gt p43⟩, ht⟩) (fun q h => by cases h) d_PathCheck_isTooFarDown_47
def y_PathCheck_faultAsIssuer : MethodName := ⟨"TrustChain$PathCheck", "faultAsIssuer", "(Ljava/util/ArrayList;I)I"⟩
abbrev b_PathCheck_faultAsIssuer : ByteArray := prog_7_method_5_code
def w_PathCheck_faultAsIssuer : List Cond := Cond.code y_PathCheck_faultAsIssuer b_PathCheck_faultAsIssuer 4 ((some FieldType.int)) :: tb
theorem d_PathCheck_faultAsIssuer_0 : decode b_PathCheck_faultAsIssuer 0 = .ok (.aload_n 1, 1) := by decide +kernel
theorem d_PathCheck_faultAsIssuer_1 : decode b_PathCheck_faultAsIssuer 1 = .ok (.iload_n 2, 1) := by decide +kernel
theorem d_PathCheck_faultAsIssuer_2 : decode b_PathCheck_faultAsIssuer 2 = .ok (.invokevirtual 36, 3) := by decide +kernel
theorem d_PathCheck_faultAsIssuer_5 : decode b_PathCheck_faultAsIssuer 5 = .ok (.checkcast 40, 3) := by decide +kernel
theorem d_PathCheck_faultAsIssuer_8 : decode b_PathCheck_faultAsIssuer 8 = .ok (.astore_n 3, 1) := by decide +kernel
theorem d_PathCheck_faultAsIssuer_9 : decode b_PathCheck_faultAsIssuer 9 = .ok (.aload_n 3, 1) := by decide +kernel
theorem d_PathCheck_faultAsIssuer_10 : decode b_PathCheck_faultAsIssuer 10 = .ok (.getfield 70, 3) := by decide +kernel
theorem d_PathCheck_faultAsIssuer_13 : decode b_PathCheck_faultAsIssuer 13 = .ok (.ifCond .ne 6, 3) := by decide +kernel
theorem d_PathCheck_faultAsIssuer_16 : decode b_PathCheck_faultAsIssuer 16 = .ok (.bipush 7, 2) := by decide +kernel
theorem d_PathCheck_faultAsIssuer_18 : decode b_PathCheck_faultAsIssuer 18 = .ok (.ireturn, 1) := by decide +kernel
theorem d_PathCheck_faultAsIssuer_19 : decode b_PathCheck_faultAsIssuer 19 = .ok (.aload_n 1, 1) := by decide +kernel
theorem d_PathCheck_faultAsIssuer_20 : decode b_PathCheck_faultAsIssuer 20 = .ok (.iload_n 2, 1) := by decide +kernel
theorem d_PathCheck_faultAsIssuer_21 : decode b_PathCheck_faultAsIssuer 21 = .ok (.invokestatic 73, 3) := by decide +kernel
theorem d_PathCheck_faultAsIssuer_24 : decode b_PathCheck_faultAsIssuer 24 = .ok (.ifCond .eq 6, 3) := by decide +kernel
theorem d_PathCheck_faultAsIssuer_27 : decode b_PathCheck_faultAsIssuer 27 = .ok (.bipush 8, 2) := by decide +kernel
theorem d_PathCheck_faultAsIssuer_29 : decode b_PathCheck_faultAsIssuer 29 = .ok (.ireturn, 1) := by decide +kernel
theorem d_PathCheck_faultAsIssuer_30 : decode b_PathCheck_faultAsIssuer 30 = .ok (.aload_n 3, 1) := by decide +kernel
theorem d_PathCheck_faultAsIssuer_31 : decode b_PathCheck_faultAsIssuer 31 = .ok (.iconst 5, 1) := by decide +kernel
theorem d_PathCheck_faultAsIssuer_32 : decode b_PathCheck_faultAsIssuer 32 = .ok (.invokevirtual 76, 3) := by decide +kernel
theorem d_PathCheck_faultAsIssuer_35 : decode b_PathCheck_faultAsIssuer 35 = .ok (.ifCond .eq 7, 3) := by decide +kernel
theorem d_PathCheck_faultAsIssuer_38 : decode b_PathCheck_faultAsIssuer 38 = .ok (.iconst 0, 1) := by decide +kernel
theorem d_PathCheck_faultAsIssuer_39 : decode b_PathCheck_faultAsIssuer 39 = .ok (.goto 5, 3) := by decide +kernel
theorem d_PathCheck_faultAsIssuer_42 : decode b_PathCheck_faultAsIssuer 42 = .ok (.bipush 9, 2) := by decide +kernel
theorem d_PathCheck_faultAsIssuer_44 : decode b_PathCheck_faultAsIssuer 44 = .ok (.ireturn, 1) := by decide +kernel
set_option maxHeartbeats 4000000 in
set_option maxRecDepth 100000 in
theorem p_PathCheck_faultAsIssuer (l : Launch) (dC : Nat → ClassId) (dI : Nat → Nat → Nat) (sb : sB) (γ : cG) (κ : kE) (Ad : List Nat) (ν : Nat → cN) (ω : Nat → List Nat) (L : Nat) (G : va_W) (h p9 : Nat) (o1 : alD) (as : List Nat) (k : Nat) (hTy : TY γ κ Ad ν ω L G) (kh : tK κ Ad h (12, 0, 0)) (kp9 : PLx γ sb κ Ad 8 p9 o1 as G) (hk : k < as.length) (hY : YC κ Ad ν ω) : Met l y_PathCheck_faultAsIssuer w_PathCheck_faultAsIssuer ({ frames := 4, cells := 0, slots := 0, locals := 88 }) (pu_P [.ref h, .ref p9, .int (nI k)] (dC, dI) sb G [(γ.1, .byte), (γ.2.1, .int), (γ.2.2.1, .long), (γ.2.2.2, .object "java/lang/Object")]) (vp_Si (fun r => r = issQ (cO κ ν ω) as k)) 0 0 (fun _ => False) := by
  refine Met.ofW (cc := b_PathCheck_faultAsIssuer) (maxL := 4) (ret := (some FieldType.int)) (by decide) rfl ?_
  intro p e s m args below meth c s₁ B hml hv
  obtain ⟨rfl, hP, hK, hN, hT0⟩ := hv
  have hx := B.exec
  have hb := B.bytes
  have hr := B.returns
  have hts := atoms_spec (ws := w_PathCheck_faultAsIssuer) B.pre
  have tbin : ∀ w ∈ tb, w ∈ w_PathCheck_faultAsIssuer := fun w h => List.mem_cons_of_mem _ h
  have htb : ∀ w ∈ tb, w.before _ s = true := fun w h => hts w (tbin w h)
  have hown : s.vm.findClass "TrustChain$PathCheck" = some m.cls := findClass_of_methodNamed B.named
  have hlocks := B.notSynchronized
  have hl := lv_entry ([.ref h, .ref p9, .int (nI k)]) (n := 4) (Nat.le_of_ble_eq_true rfl)
  rw [lg_entry_eq]
  generalize (lg_sl ([.ref h, .ref p9, .int (nI k)]) ++ List.replicate (4 - (lg_sl ([.ref h, .ref p9, .int (nI k)])).length) Slot.unset).toArray = ls at hl ⊢
  have hl : lv_has ls 4 [(0, .ref h), (1, .ref p9), (2, .int (nI k))] := hl
  refine lv_aload_n hx hb d_PathCheck_faultAsIssuer_0 rfl (lv_at hl 1 rfl) ?_
  refine lv_iload_n hx hb d_PathCheck_faultAsIssuer_1 rfl (lv_at hl 2 rfl) ?_
  obtain ⟨i_1, m_1, hK_1, hg_1⟩ := pl_size kp9
  obtain ⟨j_2, cap_2, f_2, p_2, q_2, hK_2, hc_2, hf_2, ks_2, h9_2, hq_2⟩ := pl_get kp9 (j := k) (by omega)
  refine va_csr (pu_callV (As := [.int (nI k)]) (rest := []) ⟨hx, hb, hml, hown, hts⟩ tbin (c_AL_get l dC dI sb p9 (alO sb o1) as.length cap_2 k (as.getD k 0) m_1 γ.2.2.2 f_2 (by omega) hK_2 (by omega) hf_2) q6_51 q4_210 q4_211 q1_4 q4_212 (n := 1) (by decide +kernel) rfl ⟨rfl, rfl⟩ ⟨Nat.le_of_ble_eq_true rfl, Nat.le_of_ble_eq_true rfl⟩ ⟨Nat.le_of_ble_eq_true rfl, Nat.le_of_ble_eq_true rfl⟩ hN hT0 hK hP [i_1, j_2] (by simp only [List.filterMap_cons, List.filterMap_nil, hg_1, hq_2]) [3] rfl i_1 11 hg_1 rfl rfl hl.1 rfl (Nat.le_of_ble_eq_true rfl) d_PathCheck_faultAsIssuer_2) (fun r2 hr2 => ?_)
  obtain rfl := Eq.symm hr2
  obtain ⟨i_3, bo_3, K_3, B_3, kbo_3, wl_3, hg_3⟩ := ty_8x hTy ks_2
  obtain ⟨⟨A_3, knm_3⟩, kpe_3, kec_3, kse_3, ksu_3, kmo_3, kok_3, kik_3, kha_3, ksi_3, ken_3, ksg_3, kis_3⟩ := K_3
  have knm_3 := tK.fiv ⟨_, _, knm_3⟩
  have kpe_3 := tK.fiv kpe_3
  have kec_3 := tK.fiv kec_3
  have ksu_3 := tK.two ksu_3
  have kmo_3 := tK.two kmo_3
  have kok_3 := tK.two kok_3
  have kik_3 := tK.two kik_3
  have ksg_3 := tK.two ksg_3
  have kis_3 := tK.two kis_3
  refine va_castY (C := "TrustChain$Certificate") hx hb hown (htb _ q6_52) (hN.1 _ qn9_223) (va_recv (ci := 3) hK hP rfl hg_3) d_PathCheck_faultAsIssuer_5 ?_
  refine lv_astore_n (lv' := [(3, .ref (as.getD k 0)), (0, .ref h), (1, .ref p9), (2, .int (nI k))]) hx hb d_PathCheck_faultAsIssuer_8 rfl hl (by decide) rfl (fun ls hl => ?_)
  have hb01 := B_3
  refine lv_aload_n hx hb d_PathCheck_faultAsIssuer_9 rfl (lv_at hl 0 rfl) ?_
  refine va_get (v := .int ((ν (as.getD k 0)).2.2.2.1)) hx hb htb i_Certificate hown hK hP i_3 hg_3 rfl 11 (by decide) (htb _ q2_170) (fun _ h9 => h9) rfl d_PathCheck_faultAsIssuer_10 ?_
  refine lv_if_ne (tgt := 19) hx hb d_PathCheck_faultAsIssuer_13 (by decide) (fun c13 => ?_) (fun c13 => ?_)
  · have p13 : ¬ (((ν (as.getD k 0)).2.2.2.1) = (0 : Int32)) := c13
    refine lv_aload_n hx hb d_PathCheck_faultAsIssuer_19 rfl (lv_at hl 2 rfl) ?_
    refine lv_iload_n hx hb d_PathCheck_faultAsIssuer_20 rfl (lv_at hl 3 rfl) ?_
    refine vp_callSi (pu_callS (As := [.ref p9, .int (nI k)]) (rest := []) ⟨hx, hb, hml, hown, hts⟩ tbin (p_PathCheck_isTooFarDown l dC dI sb γ κ Ad ν ω L G p9 _ _ _ hTy kp9 (by omega) hY) q6_119 q6_120 q1_8 q6_121 (n := 2) (by decide +kernel) rfl ⟨rfl, rfl⟩ ⟨Nat.le_of_ble_eq_true rfl, Nat.le_of_ble_eq_true rfl⟩ ⟨Nat.le_of_ble_eq_true rfl, Nat.le_of_ble_eq_true rfl⟩ hN hT0 hK hP (List.range G.length) (rg_all G) [0, 1, 2, 3] rfl hl.1 rfl (Nat.le_of_ble_eq_true rfl) d_PathCheck_faultAsIssuer_21) (fun r21 hr21 => ?_)
    obtain rfl : r21 = zP (farQ (cO κ ν ω) as k) := hr21
    refine lv_if_eq (tgt := 30) hx hb d_PathCheck_faultAsIssuer_24 (by decide) (fun c24 => ?_) (fun c24 => ?_)
    · have p24 : ¬ (farQ (cO κ ν ω) as k) := (zP_0.mp c24)
      refine lv_aload_n hx hb d_PathCheck_faultAsIssuer_30 rfl (lv_at hl 0 rfl) ?_
      refine lv_iconst (v := 5) hx hb d_PathCheck_faultAsIssuer_31 (by decide) ?_
      refine vp_callSi (pu_callV (As := [.int 5]) (rest := []) ⟨hx, hb, hml, hown, hts⟩ tbin (p_Certificate_mayUse l dC dI sb γ κ Ad ν ω L G (as.getD k 0) _ _ _ hTy ks_2 (by decide)) q6_66 q6_67 q6_68 q1_21 q6_69 (n := 1) (by decide +kernel) rfl ⟨rfl, rfl⟩ ⟨Nat.le_of_ble_eq_true rfl, Nat.le_of_ble_eq_true rfl⟩ ⟨Nat.le_of_ble_eq_true rfl, Nat.le_of_ble_eq_true rfl⟩ hN hT0 hK hP (List.range G.length) (rg_all G) [0, 1, 2, 3] rfl i_3 3 hg_3 rfl rfl hl.1 rfl (Nat.le_of_ble_eq_true rfl) d_PathCheck_faultAsIssuer_32) (fun r32 hr32 => ?_)
      obtain rfl : r32 = zP (useQ (ν (as.getD k 0)).2.2.2.2.2.1 5) := hr32
      refine lv_if_eq (tgt := 42) hx hb d_PathCheck_faultAsIssuer_35 (by decide) (fun c35 => ?_) (fun c35 => ?_)
      · have p35 : ¬ (useQ (ν (as.getD k 0)).2.2.2.2.2.1 5) := (zP_0.mp c35)
        refine lv_bipush (v := 9) hx hb d_PathCheck_faultAsIssuer_42 (by decide) ?_
        exact W.iret (v := 9) hx hb hr (fun t ht hW => ⟨_, rfl, Eq.symm (if_nt (fun e9 => e9 (b01_1 hb01.1 p13)) (if_nt p24 (if_neg p35))), ht⟩) (fun q h => by cases h) d_PathCheck_faultAsIssuer_44
      · have p35 : useQ (ν (as.getD k 0)).2.2.2.2.2.1 5 := (zP_1 c35)
        refine lv_iconst (v := 0) hx hb d_PathCheck_faultAsIssuer_38 (by decide) ?_
        refine lv_goto (tgt := 44) hx hb d_PathCheck_faultAsIssuer_39 (by decide) ?_
        exact W.iret (v := 0) hx hb hr (fun t ht hW => ⟨_, rfl, Eq.symm (if_nt (fun e9 => e9 (b01_1 hb01.1 p13)) (if_nt p24 (if_pos p35))), ht⟩) (fun q h => by cases h) d_PathCheck_faultAsIssuer_44
    · have p24 : farQ (cO κ ν ω) as k := (zP_1 c24)
      refine lv_bipush (v := 8) hx hb d_PathCheck_faultAsIssuer_27 (by decide) ?_
      exact W.iret (v := 8) hx hb hr (fun t ht hW => ⟨_, rfl, Eq.symm (if_nt (fun e9 => e9 (b01_1 hb01.1 p13)) (if_pos p24)), ht⟩) (fun q h => by cases h) d_PathCheck_faultAsIssuer_29
  · have p13 : ((ν (as.getD k 0)).2.2.2.1) = (0 : Int32) := c13
    refine lv_bipush (v := 7) hx hb d_PathCheck_faultAsIssuer_16 (by decide) ?_
    exact W.iret (v := 7) hx hb hr (fun t ht hW => ⟨_, rfl, Eq.symm (if_pos (fun e9 : (ν (as.getD k 0)).2.2.2.1 = 1 => absurd (e9.symm.trans p13) (by decide))), ht⟩) (fun q h => by cases h) d_PathCheck_faultAsIssuer_18
def y_PathCheck_isNameAllowed : MethodName := ⟨"TrustChain$PathCheck", "isNameAllowed", "(Ljava/util/ArrayList;I)Z"⟩
abbrev b_PathCheck_isNameAllowed : ByteArray := prog_7_method_7_code
def w_PathCheck_isNameAllowed : List Cond := Cond.code y_PathCheck_isNameAllowed b_PathCheck_isNameAllowed 6 ((some FieldType.boolean)) :: tb
theorem d_PathCheck_isNameAllowed_0 : decode b_PathCheck_isNameAllowed 0 = .ok (.aload_n 0, 1) := by decide +kernel
theorem d_PathCheck_isNameAllowed_1 : decode b_PathCheck_isNameAllowed 1 = .ok (.iload_n 1, 1) := by decide +kernel
theorem d_PathCheck_isNameAllowed_2 : decode b_PathCheck_isNameAllowed 2 = .ok (.invokevirtual 36, 3) := by decide +kernel
theorem d_PathCheck_isNameAllowed_5 : decode b_PathCheck_isNameAllowed 5 = .ok (.checkcast 40, 3) := by decide +kernel
theorem d_PathCheck_isNameAllowed_8 : decode b_PathCheck_isNameAllowed 8 = .ok (.astore_n 2, 1) := by decide +kernel
theorem d_PathCheck_isNameAllowed_9 : decode b_PathCheck_isNameAllowed 9 = .ok (.aload_n 0, 1) := by decide +kernel
theorem d_PathCheck_isNameAllowed_10 : decode b_PathCheck_isNameAllowed 10 = .ok (.invokevirtual 26, 3) := by decide +kernel
theorem d_PathCheck_isNameAllowed_13 : decode b_PathCheck_isNameAllowed 13 = .ok (.iconst 2, 1) := by decide +kernel
theorem d_PathCheck_isNameAllowed_14 : decode b_PathCheck_isNameAllowed 14 = .ok (.isub, 1) := by decide +kernel
theorem d_PathCheck_isNameAllowed_15 : decode b_PathCheck_isNameAllowed 15 = .ok (.istore_n 3, 1) := by decide +kernel
theorem d_PathCheck_isNameAllowed_16 : decode b_PathCheck_isNameAllowed 16 = .ok (.iload_n 3, 1) := by decide +kernel
theorem d_PathCheck_isNameAllowed_17 : decode b_PathCheck_isNameAllowed 17 = .ok (.iload_n 1, 1) := by decide +kernel
theorem d_PathCheck_isNameAllowed_18 : decode b_PathCheck_isNameAllowed 18 = .ok (.if_icmp .le 138, 3) := by decide +kernel
theorem d_PathCheck_isNameAllowed_21 : decode b_PathCheck_isNameAllowed 21 = .ok (.aload_n 0, 1) := by decide +kernel
theorem d_PathCheck_isNameAllowed_22 : decode b_PathCheck_isNameAllowed 22 = .ok (.iload_n 3, 1) := by decide +kernel
theorem d_PathCheck_isNameAllowed_23 : decode b_PathCheck_isNameAllowed 23 = .ok (.invokevirtual 36, 3) := by decide +kernel
theorem d_PathCheck_isNameAllowed_26 : decode b_PathCheck_isNameAllowed 26 = .ok (.checkcast 40, 3) := by decide +kernel
theorem d_PathCheck_isNameAllowed_29 : decode b_PathCheck_isNameAllowed 29 = .ok (.astore 4, 2) := by decide +kernel
theorem d_PathCheck_isNameAllowed_31 : decode b_PathCheck_isNameAllowed 31 = .ok (.aload_n 2, 1) := by decide +kernel
theorem d_PathCheck_isNameAllowed_32 : decode b_PathCheck_isNameAllowed 32 = .ok (.getfield 101, 3) := by decide +kernel
theorem d_PathCheck_isNameAllowed_35 : decode b_PathCheck_isNameAllowed 35 = .ok (.ifCond .le 17, 3) := by decide +kernel
theorem d_PathCheck_isNameAllowed_38 : decode b_PathCheck_isNameAllowed 38 = .ok (.aload 4, 2) := by decide +kernel
theorem d_PathCheck_isNameAllowed_40 : decode b_PathCheck_isNameAllowed 40 = .ok (.aload_n 2, 1) := by decide +kernel
theorem d_PathCheck_isNameAllowed_41 : decode b_PathCheck_isNameAllowed 41 = .ok (.getfield 104, 3) := by decide +kernel
theorem d_PathCheck_isNameAllowed_44 : decode b_PathCheck_isNameAllowed 44 = .ok (.invokevirtual 107, 3) := by decide +kernel
theorem d_PathCheck_isNameAllowed_47 : decode b_PathCheck_isNameAllowed 47 = .ok (.ifCond .ne 5, 3) := by decide +kernel
theorem d_PathCheck_isNameAllowed_50 : decode b_PathCheck_isNameAllowed 50 = .ok (.iconst 0, 1) := by decide +kernel
theorem d_PathCheck_isNameAllowed_51 : decode b_PathCheck_isNameAllowed 51 = .ok (.ireturn, 1) := by decide +kernel
theorem d_PathCheck_isNameAllowed_52 : decode b_PathCheck_isNameAllowed 52 = .ok (.iconst 0, 1) := by decide +kernel
theorem d_PathCheck_isNameAllowed_53 : decode b_PathCheck_isNameAllowed 53 = .ok (.istore 5, 2) := by decide +kernel
theorem d_PathCheck_isNameAllowed_55 : decode b_PathCheck_isNameAllowed 55 = .ok (.iload 5, 2) := by decide +kernel
theorem d_PathCheck_isNameAllowed_57 : decode b_PathCheck_isNameAllowed 57 = .ok (.aload_n 2, 1) := by decide +kernel
theorem d_PathCheck_isNameAllowed_58 : decode b_PathCheck_isNameAllowed 58 = .ok (.getfield 110, 3) := by decide +kernel
theorem d_PathCheck_isNameAllowed_61 : decode b_PathCheck_isNameAllowed 61 = .ok (.getfield 114, 3) := by decide +kernel
theorem d_PathCheck_isNameAllowed_64 : decode b_PathCheck_isNameAllowed 64 = .ok (.invokevirtual 26, 3) := by decide +kernel
theorem d_PathCheck_isNameAllowed_67 : decode b_PathCheck_isNameAllowed 67 = .ok (.if_icmp .ge 34, 3) := by decide +kernel
theorem d_PathCheck_isNameAllowed_70 : decode b_PathCheck_isNameAllowed 70 = .ok (.aload 4, 2) := by decide +kernel
theorem d_PathCheck_isNameAllowed_72 : decode b_PathCheck_isNameAllowed 72 = .ok (.aload_n 2, 1) := by decide +kernel
theorem d_PathCheck_isNameAllowed_73 : decode b_PathCheck_isNameAllowed 73 = .ok (.getfield 110, 3) := by decide +kernel
theorem d_PathCheck_isNameAllowed_76 : decode b_PathCheck_isNameAllowed 76 = .ok (.getfield 114, 3) := by decide +kernel
theorem d_PathCheck_isNameAllowed_79 : decode b_PathCheck_isNameAllowed 79 = .ok (.iload 5, 2) := by decide +kernel
theorem d_PathCheck_isNameAllowed_81 : decode b_PathCheck_isNameAllowed 81 = .ok (.invokevirtual 36, 3) := by decide +kernel
theorem d_PathCheck_isNameAllowed_84 : decode b_PathCheck_isNameAllowed 84 = .ok (.checkcast 90, 3) := by decide +kernel
theorem d_PathCheck_isNameAllowed_87 : decode b_PathCheck_isNameAllowed 87 = .ok (.invokevirtual 107, 3) := by decide +kernel
theorem d_PathCheck_isNameAllowed_90 : decode b_PathCheck_isNameAllowed 90 = .ok (.ifCond .ne 5, 3) := by decide +kernel
theorem d_PathCheck_isNameAllowed_93 : decode b_PathCheck_isNameAllowed 93 = .ok (.iconst 0, 1) := by decide +kernel
theorem d_PathCheck_isNameAllowed_94 : decode b_PathCheck_isNameAllowed 94 = .ok (.ireturn, 1) := by decide +kernel
theorem d_PathCheck_isNameAllowed_95 : decode b_PathCheck_isNameAllowed 95 = .ok (.iinc 5 1, 3) := by decide +kernel
theorem d_PathCheck_isNameAllowed_98 : decode b_PathCheck_isNameAllowed 98 = .ok (.goto (-43), 3) := by decide +kernel
theorem d_PathCheck_isNameAllowed_101 : decode b_PathCheck_isNameAllowed 101 = .ok (.iconst 0, 1) := by decide +kernel
theorem d_PathCheck_isNameAllowed_102 : decode b_PathCheck_isNameAllowed 102 = .ok (.istore 5, 2) := by decide +kernel
theorem d_PathCheck_isNameAllowed_104 : decode b_PathCheck_isNameAllowed 104 = .ok (.iload 5, 2) := by decide +kernel
theorem d_PathCheck_isNameAllowed_106 : decode b_PathCheck_isNameAllowed 106 = .ok (.aload_n 2, 1) := by decide +kernel
theorem d_PathCheck_isNameAllowed_107 : decode b_PathCheck_isNameAllowed 107 = .ok (.getfield 110, 3) := by decide +kernel
theorem d_PathCheck_isNameAllowed_110 : decode b_PathCheck_isNameAllowed 110 = .ok (.getfield 120, 3) := by decide +kernel
theorem d_PathCheck_isNameAllowed_113 : decode b_PathCheck_isNameAllowed 113 = .ok (.invokevirtual 26, 3) := by decide +kernel
theorem d_PathCheck_isNameAllowed_116 : decode b_PathCheck_isNameAllowed 116 = .ok (.if_icmp .ge 34, 3) := by decide +kernel
theorem d_PathCheck_isNameAllowed_119 : decode b_PathCheck_isNameAllowed 119 = .ok (.aload 4, 2) := by decide +kernel
theorem d_PathCheck_isNameAllowed_121 : decode b_PathCheck_isNameAllowed 121 = .ok (.aload_n 2, 1) := by decide +kernel
theorem d_PathCheck_isNameAllowed_122 : decode b_PathCheck_isNameAllowed 122 = .ok (.getfield 110, 3) := by decide +kernel
theorem d_PathCheck_isNameAllowed_125 : decode b_PathCheck_isNameAllowed 125 = .ok (.getfield 120, 3) := by decide +kernel
theorem d_PathCheck_isNameAllowed_128 : decode b_PathCheck_isNameAllowed 128 = .ok (.iload 5, 2) := by decide +kernel
theorem d_PathCheck_isNameAllowed_130 : decode b_PathCheck_isNameAllowed 130 = .ok (.invokevirtual 36, 3) := by decide +kernel
theorem d_PathCheck_isNameAllowed_133 : decode b_PathCheck_isNameAllowed 133 = .ok (.checkcast 90, 3) := by decide +kernel
theorem d_PathCheck_isNameAllowed_136 : decode b_PathCheck_isNameAllowed 136 = .ok (.invokevirtual 123, 3) := by decide +kernel
theorem d_PathCheck_isNameAllowed_139 : decode b_PathCheck_isNameAllowed 139 = .ok (.ifCond .ne 5, 3) := by decide +kernel
theorem d_PathCheck_isNameAllowed_142 : decode b_PathCheck_isNameAllowed 142 = .ok (.iconst 0, 1) := by decide +kernel
theorem d_PathCheck_isNameAllowed_143 : decode b_PathCheck_isNameAllowed 143 = .ok (.ireturn, 1) := by decide +kernel
theorem d_PathCheck_isNameAllowed_144 : decode b_PathCheck_isNameAllowed 144 = .ok (.iinc 5 1, 3) := by decide +kernel
theorem d_PathCheck_isNameAllowed_147 : decode b_PathCheck_isNameAllowed 147 = .ok (.goto (-43), 3) := by decide +kernel
theorem d_PathCheck_isNameAllowed_150 : decode b_PathCheck_isNameAllowed 150 = .ok (.iinc 3 (-1), 3) := by decide +kernel
theorem d_PathCheck_isNameAllowed_153 : decode b_PathCheck_isNameAllowed 153 = .ok (.goto (-137), 3) := by decide +kernel
theorem d_PathCheck_isNameAllowed_156 : decode b_PathCheck_isNameAllowed 156 = .ok (.iconst 1, 1) := by decide +kernel
theorem d_PathCheck_isNameAllowed_157 : decode b_PathCheck_isNameAllowed 157 = .ok (.ireturn, 1) := by decide +kernel
set_option maxHeartbeats 4000000 in
set_option maxRecDepth 100000 in
theorem p_PathCheck_isNameAllowed (l : Launch) (dC : Nat → ClassId) (dI : Nat → Nat → Nat) (sb : sB) (γ : cG) (κ : kE) (Ad : List Nat) (ν : Nat → cN) (ω : Nat → List Nat) (L : Nat) (G : va_W) (p9 : Nat) (o1 : alD) (as : List Nat) (k : Nat) (hTy : TY γ κ Ad ν ω L G) (kp9 : PLx γ sb κ Ad 8 p9 o1 as G) (hk : k + 1 < as.length) : Met l y_PathCheck_isNameAllowed w_PathCheck_isNameAllowed ({ frames := 5, cells := 0, slots := 0, locals := 111 }) (pu_P [.ref p9, .int (nI k)] (dC, dI) sb G [(γ.1, .byte), (γ.2.1, .int), (γ.2.2.1, .long), (γ.2.2.2, .object "java/lang/Object")]) (vp_Si (fun r => r = zP (namQ (cO κ ν ω) as k))) 0 0 (fun _ => False) := by
  refine Met.ofW (cc := b_PathCheck_isNameAllowed) (maxL := 6) (ret := (some FieldType.boolean)) (by decide) rfl ?_
  intro p e s m args below meth c s₁ B hml hv
  obtain ⟨rfl, hP, hK, hN, hT0⟩ := hv
  have hx := B.exec
  have hb := B.bytes
  have hr := B.returns
  have hts := atoms_spec (ws := w_PathCheck_isNameAllowed) B.pre
  have tbin : ∀ w ∈ tb, w ∈ w_PathCheck_isNameAllowed := fun w h => List.mem_cons_of_mem _ h
  have htb : ∀ w ∈ tb, w.before _ s = true := fun w h => hts w (tbin w h)
  have hown : s.vm.findClass "TrustChain$PathCheck" = some m.cls := findClass_of_methodNamed B.named
  have hlocks := B.notSynchronized
  have hl := lv_entry ([.ref p9, .int (nI k)]) (n := 6) (Nat.le_of_ble_eq_true rfl)
  rw [lg_entry_eq]
  generalize (lg_sl ([.ref p9, .int (nI k)]) ++ List.replicate (6 - (lg_sl ([.ref p9, .int (nI k)])).length) Slot.unset).toArray = ls at hl ⊢
  have hl : lv_has ls 6 [(0, .ref p9), (1, .int (nI k))] := hl
  refine lv_aload_n hx hb d_PathCheck_isNameAllowed_0 rfl (lv_at hl 0 rfl) ?_
  refine lv_iload_n hx hb d_PathCheck_isNameAllowed_1 rfl (lv_at hl 1 rfl) ?_
  obtain ⟨i_1, m_1, hK_1, hg_1⟩ := pl_size kp9
  obtain ⟨j_2, cap_2, f_2, p_2, q_2, hK_2, hc_2, hf_2, ks_2, h9_2, hq_2⟩ := pl_get kp9 (j := k) (by omega)
  refine va_csr (pu_callV (As := [.int (nI k)]) (rest := []) ⟨hx, hb, hml, hown, hts⟩ tbin (c_AL_get l dC dI sb p9 (alO sb o1) as.length cap_2 k (as.getD k 0) m_1 γ.2.2.2 f_2 (by omega) hK_2 (by omega) hf_2) q6_51 q4_210 q4_211 q1_4 q4_212 (n := 1) (by decide +kernel) rfl ⟨rfl, rfl⟩ ⟨Nat.le_of_ble_eq_true rfl, Nat.le_of_ble_eq_true rfl⟩ ⟨Nat.le_of_ble_eq_true rfl, Nat.le_of_ble_eq_true rfl⟩ hN hT0 hK hP [i_1, j_2] (by simp only [List.filterMap_cons, List.filterMap_nil, hg_1, hq_2]) [3] rfl i_1 11 hg_1 rfl rfl hl.1 rfl (Nat.le_of_ble_eq_true rfl) d_PathCheck_isNameAllowed_2) (fun r2 hr2 => ?_)
  obtain rfl := Eq.symm hr2
  obtain ⟨i_3, bo_3, K_3, B_3, kbo_3, wl_3, hg_3⟩ := ty_8x hTy ks_2
  obtain ⟨⟨A_3, knm_3⟩, kpe_3, kec_3, kse_3, ksu_3, kmo_3, kok_3, kik_3, kha_3, ksi_3, ken_3, ksg_3, kis_3⟩ := K_3
  have knm_3 := tK.fiv ⟨_, _, knm_3⟩
  have kpe_3 := tK.fiv kpe_3
  have kec_3 := tK.fiv kec_3
  have ksu_3 := tK.two ksu_3
  have kmo_3 := tK.two kmo_3
  have kok_3 := tK.two kok_3
  have kik_3 := tK.two kik_3
  have ksg_3 := tK.two ksg_3
  have kis_3 := tK.two kis_3
  refine va_castY (C := "TrustChain$Certificate") hx hb hown (htb _ q6_52) (hN.1 _ qn9_223) (va_recv (ci := 3) hK hP rfl hg_3) d_PathCheck_isNameAllowed_5 ?_
  refine lv_astore_n (lv' := [(2, .ref (as.getD k 0)), (0, .ref p9), (1, .int (nI k))]) hx hb d_PathCheck_isNameAllowed_8 rfl hl (by decide) rfl (fun ls hl => ?_)
  refine lv_aload_n hx hb d_PathCheck_isNameAllowed_9 rfl (lv_at hl 1 rfl) ?_
  refine vp_callSi (pu_callV (As := []) (rest := []) ⟨hx, hb, hml, hown, hts⟩ tbin (c_AL_size l dC dI sb p9 (alO sb o1) as.length m_1) q6_46 q2_54 q2_55 q1_4 q2_56 (n := 0) (by decide +kernel) rfl ⟨rfl, rfl⟩ ⟨Nat.le_of_ble_eq_true rfl, Nat.le_of_ble_eq_true rfl⟩ ⟨Nat.le_of_ble_eq_true rfl, Nat.le_of_ble_eq_true rfl⟩ hN hT0 hK hP [i_1] (by simp only [List.filterMap_cons, List.filterMap_nil, hg_1]) [] rfl i_1 11 hg_1 rfl rfl hl.1 rfl (Nat.le_of_ble_eq_true rfl) d_PathCheck_isNameAllowed_10) (fun r10 hr10 => ?_)
  subst hr10
  refine lv_iconst (v := 2) hx hb d_PathCheck_isNameAllowed_13 (by decide) ?_
  refine lv_isub hx hb d_PathCheck_isNameAllowed_14 ?_
  rw [show ((nI as.length) - 2 : Int32) = nI (as.length - 2) from pk_sub (a := as.length) (b := 2) (by omega)]
  refine lv_istore_n (lv' := [(3, .int (nI (as.length - 2))), (2, .ref (as.getD k 0)), (0, .ref p9), (1, .int (nI k))]) hx hb d_PathCheck_isNameAllowed_15 rfl hl (by decide) rfl (fun ls hl => ?_)
  refine w_loop (α := Nat) (fun a9 => a9 + 1 < as.length ∧ ∀ j9, a9 < j9 → j9 + 1 < as.length → abvQ (cO κ ν ω (as.getD k 0)) (cO κ ν ω (as.getD j9 0))) (fun a9 => a9) (fun a9 => [(3, .int (nI a9)), (2, .ref (as.getD k 0)), (0, .ref p9), (1, .int (nI k))]) (fun _ => []) 6 16 (fun z16 ls hJ16 hl ih16 => ?_) (as.length - 2) ls ⟨by omega, fun j9 h8 h9 => absurd h9 (by omega)⟩ (lv_sub hl [0, 1, 2, 3] rfl)
  have hz16 := hJ16.1
  refine lv_iload_n hx hb d_PathCheck_isNameAllowed_16 rfl (lv_at hl 0 rfl) ?_
  refine lv_iload_n hx hb d_PathCheck_isNameAllowed_17 rfl (lv_at hl 3 rfl) ?_
  refine lv_icmp_le (tgt := 156) hx hb d_PathCheck_isNameAllowed_18 (by decide) (fun c18 => ?_) (fun c18 => ?_)
  · have p18 : z16 ≤ k := ((nI_leI (a := z16) (b := k) (by omega) (by omega)).mp c18)
    refine lv_iconst (v := 1) hx hb d_PathCheck_isNameAllowed_156 (by decide) ?_
    exact W.zret (v := 1) hx hb hr rfl (fun t ht hW => ⟨_, rfl, zP_t (fun j9 h8 h9 => hJ16.2 j9 (by omega) h9), ht⟩) (fun q h => by cases h) d_PathCheck_isNameAllowed_157
  · have p18 : ¬ (z16 ≤ k) := (fun q9 => c18 ((nI_leI (a := z16) (b := k) (by omega) (by omega)).mpr q9))
    refine lv_aload_n hx hb d_PathCheck_isNameAllowed_21 rfl (lv_at hl 2 rfl) ?_
    refine lv_iload_n hx hb d_PathCheck_isNameAllowed_22 rfl (lv_at hl 0 rfl) ?_
    obtain ⟨j_4, cap_4, f_4, p_4, q_4, hK_4, hc_4, hf_4, ks_4, h9_4, hq_4⟩ := pl_get kp9 (j := z16) (by omega)
    refine va_csr (pu_callV (As := [.int (nI z16)]) (rest := []) ⟨hx, hb, hml, hown, hts⟩ tbin (c_AL_get l dC dI sb p9 (alO sb o1) as.length cap_4 z16 (as.getD z16 0) m_1 γ.2.2.2 f_4 (by omega) hK_4 (by omega) hf_4) q6_51 q4_210 q4_211 q1_4 q4_212 (n := 1) (by decide +kernel) rfl ⟨rfl, rfl⟩ ⟨Nat.le_of_ble_eq_true rfl, Nat.le_of_ble_eq_true rfl⟩ ⟨Nat.le_of_ble_eq_true rfl, Nat.le_of_ble_eq_true rfl⟩ hN hT0 hK hP [i_1, j_4] (by simp only [List.filterMap_cons, List.filterMap_nil, hg_1, hq_4]) [3] rfl i_1 11 hg_1 rfl rfl hl.1 rfl (Nat.le_of_ble_eq_true rfl) d_PathCheck_isNameAllowed_23) (fun r23 hr23 => ?_)
    obtain rfl := Eq.symm hr23
    obtain ⟨i_5, bo_5, K_5, B_5, kbo_5, wl_5, hg_5⟩ := ty_8x hTy ks_4
    obtain ⟨⟨A_5, knm_5⟩, kpe_5, kec_5, kse_5, ksu_5, kmo_5, kok_5, kik_5, kha_5, ksi_5, ken_5, ksg_5, kis_5⟩ := K_5
    have knm_5 := tK.fiv ⟨_, _, knm_5⟩
    have kpe_5 := tK.fiv kpe_5
    have kec_5 := tK.fiv kec_5
    have ksu_5 := tK.two ksu_5
    have kmo_5 := tK.two kmo_5
    have kok_5 := tK.two kok_5
    have kik_5 := tK.two kik_5
    have ksg_5 := tK.two ksg_5
    have kis_5 := tK.two kis_5
    refine va_castY (C := "TrustChain$Certificate") hx hb hown (htb _ q6_52) (hN.1 _ qn9_223) (va_recv (ci := 3) hK hP rfl hg_5) d_PathCheck_isNameAllowed_26 ?_
    refine lv_astore (lv' := [(4, .ref (as.getD z16 0)), (3, .int (nI z16)), (2, .ref (as.getD k 0)), (0, .ref p9), (1, .int (nI k))]) hx hb d_PathCheck_isNameAllowed_29 hl (by decide) rfl (fun ls hl => ?_)
    refine lv_aload_n hx hb d_PathCheck_isNameAllowed_31 rfl (lv_at hl 2 rfl) ?_
    refine va_get (v := .int ((ν (as.getD k 0)).1)) hx hb htb i_Certificate hown hK hP i_3 hg_3 rfl 8 (by decide) (htb _ q2_162) (fun _ h9 => h9) rfl d_PathCheck_isNameAllowed_32 ?_
    refine lv_if_le (tgt := 52) hx hb d_PathCheck_isNameAllowed_35 (by decide) (fun c35 => ?_) (fun c35 => ?_)
    · have p35 : ((ν (as.getD k 0)).1) ≤ (0 : Int32) := c35
      refine lv_iconst (v := 0) hx hb d_PathCheck_isNameAllowed_52 (by decide) ?_
      refine lv_istore (lv' := [(5, .int 0), (4, .ref (as.getD z16 0)), (3, .int (nI z16)), (2, .ref (as.getD k 0)), (0, .ref p9), (1, .int (nI k))]) hx hb d_PathCheck_isNameAllowed_53 hl (by decide) rfl (fun ls hl => ?_)
      obtain ⟨i_6, kl_6, kd_6, hg_6⟩ := ty_5x hTy knm_3
      have hps9 : 0 < (cO κ ν ω (as.getD k 0)).ps → dirQ (cO κ ν ω (as.getD z16 0)) (cO κ ν ω (as.getD k 0)).sc := fun h9 => absurd h9 (q_ng p35)
      refine w_loop (α := Nat) (fun z55 => z55 ≤ ((κ ((ω (as.getD k 0)).getD 4 0)).2.2) ∧ ∀ i9, i9 < z55 → (dirQ (cO κ ν ω (as.getD z16 0)) (sO κ ω ((ω ((ω ((ω ((ω (as.getD k 0)).getD 4 0)).getD 1 0)).getD 0 0)).getD i9 0)))) (fun z55 => ((κ ((ω (as.getD k 0)).getD 4 0)).2.2) - z55) (fun z55 => [(5, .int (nI z55)), (4, .ref (as.getD z16 0)), (3, .int (nI z16)), (2, .ref (as.getD k 0)), (0, .ref p9), (1, .int (nI k))]) (fun _ => []) 6 55 (fun z55 ls hJ55 hl ih55 => ?_) 0 ls (⟨Nat.zero_le _, fun i9 h9 => absurd h9 (Nat.not_lt_zero i9)⟩) (lv_sub hl [0, 1, 2, 3, 4, 5] rfl)
      have hz55 := hJ55.1
      refine lv_iload hx hb d_PathCheck_isNameAllowed_55 (lv_at hl 0 rfl) ?_
      refine lv_aload_n hx hb d_PathCheck_isNameAllowed_57 rfl (lv_at hl 3 rfl) ?_
      refine va_get (v := .ref ((ω (as.getD k 0)).getD 4 0)) hx hb htb i_Certificate hown hK hP i_3 hg_3 rfl 0 (by decide) (htb _ q2_140) (fun _ h9 => h9) rfl d_PathCheck_isNameAllowed_58 ?_
      refine va_getN (v := .ref ((ω ((ω (as.getD k 0)).getD 4 0)).getD 1 0)) hx hb htb i_NameSet hown hK hP i_6 hg_6 rfl 1 (by decide) (va_Nw.use rfl (hN.1 _ qn2_132)) (fun _ h9 => h9) rfl d_PathCheck_isNameAllowed_61 ?_
      obtain ⟨i_7, m_7, hK_7, he_7, hg_7⟩ := ty_4x hTy kd_6
      refine vp_callSi (pu_callV (As := []) (rest := [.int (nI z55)]) ⟨hx, hb, hml, hown, hts⟩ tbin (c_AL_size l dC dI sb ((ω ((ω (as.getD k 0)).getD 4 0)).getD 1 0) ((ω ((ω ((ω (as.getD k 0)).getD 4 0)).getD 1 0)).getD 0 0) ((κ ((ω (as.getD k 0)).getD 4 0)).2.2) m_7) q6_46 q2_54 q2_55 q1_4 q2_56 (n := 0) (by decide +kernel) rfl ⟨rfl, rfl⟩ ⟨Nat.le_of_ble_eq_true rfl, Nat.le_of_ble_eq_true rfl⟩ ⟨Nat.le_of_ble_eq_true rfl, Nat.le_of_ble_eq_true rfl⟩ hN hT0 hK hP [i_7] (by simp only [List.filterMap_cons, List.filterMap_nil, hg_7]) [] rfl i_7 11 hg_7 rfl rfl hl.1 rfl (Nat.le_of_ble_eq_true rfl) d_PathCheck_isNameAllowed_64) (fun r64 hr64 => ?_)
      subst hr64
      refine lv_icmp_ge (tgt := 101) hx hb d_PathCheck_isNameAllowed_67 (by decide) (fun c67 => ?_) (fun c67 => ?_)
      · have p67 : ((κ ((ω (as.getD k 0)).getD 4 0)).2.2) ≤ z55 := ((nI_leI (a := ((κ ((ω (as.getD k 0)).getD 4 0)).2.2)) (b := z55) (by omega) (by omega)).mp c67)
        refine lv_iconst (v := 0) hx hb d_PathCheck_isNameAllowed_101 (by decide) ?_
        refine lv_istore (lv' := [(5, .int 0), (4, .ref (as.getD z16 0)), (3, .int (nI z16)), (2, .ref (as.getD k 0)), (0, .ref p9), (1, .int (nI k))]) hx hb d_PathCheck_isNameAllowed_102 hl (by decide) rfl (fun ls hl => ?_)
        have hdi9 : ∀ n9, n9 ∈ (cO κ ν ω (as.getD k 0)).di → dirQ (cO κ ν ω (as.getD z16 0)) n9 := lO_all kd_6 (fun i9 h9 => hJ55.2 i9 (by omega))
        refine w_loop (α := Nat) (fun z104 => z104 ≤ ((κ ((ω (as.getD k 0)).getD 4 0)).2.1) ∧ ∀ i9, i9 < z104 → (dnsQ (cO κ ν ω (as.getD z16 0)) (sO κ ω ((ω ((ω ((ω ((ω (as.getD k 0)).getD 4 0)).getD 0 0)).getD 0 0)).getD i9 0)))) (fun z104 => ((κ ((ω (as.getD k 0)).getD 4 0)).2.1) - z104) (fun z104 => [(5, .int (nI z104)), (4, .ref (as.getD z16 0)), (3, .int (nI z16)), (2, .ref (as.getD k 0)), (0, .ref p9), (1, .int (nI k))]) (fun _ => []) 6 104 (fun z104 ls hJ104 hl ih104 => ?_) 0 ls (⟨Nat.zero_le _, fun i9 h9 => absurd h9 (Nat.not_lt_zero i9)⟩) (lv_sub hl [0, 1, 2, 3, 4, 5] rfl)
        have hz104 := hJ104.1
        refine lv_iload hx hb d_PathCheck_isNameAllowed_104 (lv_at hl 0 rfl) ?_
        refine lv_aload_n hx hb d_PathCheck_isNameAllowed_106 rfl (lv_at hl 3 rfl) ?_
        refine va_get (v := .ref ((ω (as.getD k 0)).getD 4 0)) hx hb htb i_Certificate hown hK hP i_3 hg_3 rfl 0 (by decide) (htb _ q2_140) (fun _ h9 => h9) rfl d_PathCheck_isNameAllowed_107 ?_
        refine va_getN (v := .ref ((ω ((ω (as.getD k 0)).getD 4 0)).getD 0 0)) hx hb htb i_NameSet hown hK hP i_6 hg_6 rfl 0 (by decide) (va_Nw.use rfl (hN.1 _ qn2_128)) (fun _ h9 => h9) rfl d_PathCheck_isNameAllowed_110 ?_
        obtain ⟨i_8, m_8, hK_8, he_8, hg_8⟩ := ty_4x hTy kl_6
        refine vp_callSi (pu_callV (As := []) (rest := [.int (nI z104)]) ⟨hx, hb, hml, hown, hts⟩ tbin (c_AL_size l dC dI sb ((ω ((ω (as.getD k 0)).getD 4 0)).getD 0 0) ((ω ((ω ((ω (as.getD k 0)).getD 4 0)).getD 0 0)).getD 0 0) ((κ ((ω (as.getD k 0)).getD 4 0)).2.1) m_8) q6_46 q2_54 q2_55 q1_4 q2_56 (n := 0) (by decide +kernel) rfl ⟨rfl, rfl⟩ ⟨Nat.le_of_ble_eq_true rfl, Nat.le_of_ble_eq_true rfl⟩ ⟨Nat.le_of_ble_eq_true rfl, Nat.le_of_ble_eq_true rfl⟩ hN hT0 hK hP [i_8] (by simp only [List.filterMap_cons, List.filterMap_nil, hg_8]) [] rfl i_8 11 hg_8 rfl rfl hl.1 rfl (Nat.le_of_ble_eq_true rfl) d_PathCheck_isNameAllowed_113) (fun r113 hr113 => ?_)
        subst hr113
        refine lv_icmp_ge (tgt := 150) hx hb d_PathCheck_isNameAllowed_116 (by decide) (fun c116 => ?_) (fun c116 => ?_)
        · have p116 : ((κ ((ω (as.getD k 0)).getD 4 0)).2.1) ≤ z104 := ((nI_leI (a := ((κ ((ω (as.getD k 0)).getD 4 0)).2.1)) (b := z104) (by omega) (by omega)).mp c116)
          refine lv_iinc (v := nI (z16 - 1)) (lv' := [(3, .int (nI (z16 - 1))), (5, .int (nI z104)), (4, .ref (as.getD z16 0)), (2, .ref (as.getD k 0)), (0, .ref p9), (1, .int (nI k))]) hx hb d_PathCheck_isNameAllowed_150 hl (k := 2) rfl (nI_m1 (by omega)) (by decide) rfl (fun ls hl => ?_)
          refine lv_goto (tgt := 16) hx hb d_PathCheck_isNameAllowed_153 (by decide) ?_
          have hab9 : abvQ (cO κ ν ω (as.getD k 0)) (cO κ ν ω (as.getD z16 0)) := ⟨hps9, hdi9, lO_all kl_6 (fun i9 h9 => hJ104.2 i9 (by omega))⟩
          exact ih16 (z16 - 1) ls (by omega) ⟨by omega, fun j9 h8 h9 => (show j9 = z16 ∨ z16 < j9 by omega).elim (fun e9 => by subst e9; exact hab9) (fun q9 => hJ16.2 j9 q9 h9)⟩ (lv_sub hl [0, 3, 4, 5] rfl)
        · have p116 : ¬ (((κ ((ω (as.getD k 0)).getD 4 0)).2.1) ≤ z104) := (fun q9 => c116 ((nI_leI (a := ((κ ((ω (as.getD k 0)).getD 4 0)).2.1)) (b := z104) (by omega) (by omega)).mpr q9))
          refine lv_aload hx hb d_PathCheck_isNameAllowed_119 (lv_at hl 1 rfl) ?_
          refine lv_aload_n hx hb d_PathCheck_isNameAllowed_121 rfl (lv_at hl 3 rfl) ?_
          refine va_get (v := .ref ((ω (as.getD k 0)).getD 4 0)) hx hb htb i_Certificate hown hK hP i_3 hg_3 rfl 0 (by decide) (htb _ q2_140) (fun _ h9 => h9) rfl d_PathCheck_isNameAllowed_122 ?_
          refine va_getN (v := .ref ((ω ((ω (as.getD k 0)).getD 4 0)).getD 0 0)) hx hb htb i_NameSet hown hK hP i_6 hg_6 rfl 0 (by decide) (va_Nw.use rfl (hN.1 _ qn2_128)) (fun _ h9 => h9) rfl d_PathCheck_isNameAllowed_125 ?_
          refine lv_iload hx hb d_PathCheck_isNameAllowed_128 (lv_at hl 0 rfl) ?_
          obtain ⟨cap_9, kq_9⟩ := he_8 (by omega)
          obtain ⟨i_10, f_10, hK_10, hc_10, he_10, hg_10⟩ := ty_3x hTy kq_9
          obtain ⟨hf_9, ks_9⟩ := he_10 z104 (by omega)
          have ks_9 := tK.two ks_9
          refine va_csr (pu_callV (As := [.int (nI z104)]) (rest := [.ref (as.getD z16 0)]) ⟨hx, hb, hml, hown, hts⟩ tbin (c_AL_get l dC dI sb ((ω ((ω (as.getD k 0)).getD 4 0)).getD 0 0) ((ω ((ω ((ω (as.getD k 0)).getD 4 0)).getD 0 0)).getD 0 0) ((κ ((ω (as.getD k 0)).getD 4 0)).2.1) cap_9 z104 ((ω ((ω ((ω ((ω (as.getD k 0)).getD 4 0)).getD 0 0)).getD 0 0)).getD z104 0) m_8 γ.2.2.2 f_10 (by omega) hK_10 (by omega) hf_9) q6_51 q4_210 q4_211 q1_4 q4_212 (n := 1) (by decide +kernel) rfl ⟨rfl, rfl⟩ ⟨Nat.le_of_ble_eq_true rfl, Nat.le_of_ble_eq_true rfl⟩ ⟨Nat.le_of_ble_eq_true rfl, Nat.le_of_ble_eq_true rfl⟩ hN hT0 hK hP [i_8, i_10] (by simp only [List.filterMap_cons, List.filterMap_nil, hg_8, hg_10]) [3] rfl i_8 11 hg_8 rfl rfl hl.1 rfl (Nat.le_of_ble_eq_true rfl) d_PathCheck_isNameAllowed_130) (fun r130 hr130 => ?_)
          obtain rfl := Eq.symm hr130
          obtain ⟨i_11, t_11, n_11, f_11, kt_11, hb_11, hm_11, hw_11, hg_11⟩ := ty_2x hTy ks_9
          refine va_castY (C := "TrustChain$Slice") hx hb hown (htb _ q6_97) (hN.1 _ qn9_222) (va_recv (ci := 0) hK hP rfl hg_11) d_PathCheck_isNameAllowed_133 ?_
          refine vp_callSi (pu_callV (As := [.ref ((ω ((ω ((ω ((ω (as.getD k 0)).getD 4 0)).getD 0 0)).getD 0 0)).getD z104 0)]) (rest := []) ⟨hx, hb, hml, hown, hts⟩ tbin (p_Certificate_allowsDns l dC dI sb γ κ Ad ν ω L G (as.getD z16 0) ((ω ((ω ((ω ((ω (as.getD k 0)).getD 4 0)).getD 0 0)).getD 0 0)).getD z104 0) _ _ _ hTy ks_4 ks_9 ) q6_98 q6_99 q6_100 q1_21 q6_101 (n := 1) (by decide +kernel) rfl ⟨rfl, rfl⟩ ⟨Nat.le_of_ble_eq_true rfl, Nat.le_of_ble_eq_true rfl⟩ ⟨Nat.le_of_ble_eq_true rfl, Nat.le_of_ble_eq_true rfl⟩ hN hT0 hK hP (List.range G.length) (rg_all G) [0, 1, 2, 3] rfl i_5 3 hg_5 rfl rfl hl.1 rfl (Nat.le_of_ble_eq_true rfl) d_PathCheck_isNameAllowed_136) (fun r136 hr136 => ?_)
          obtain rfl : r136 = zP (dnsQ (cO κ ν ω (as.getD z16 0)) (sO κ ω ((ω ((ω ((ω ((ω (as.getD k 0)).getD 4 0)).getD 0 0)).getD 0 0)).getD z104 0))) := hr136
          refine lv_if_ne (tgt := 144) hx hb d_PathCheck_isNameAllowed_139 (by decide) (fun c139 => ?_) (fun c139 => ?_)
          · have p139 : dnsQ (cO κ ν ω (as.getD z16 0)) (sO κ ω ((ω ((ω ((ω ((ω (as.getD k 0)).getD 4 0)).getD 0 0)).getD 0 0)).getD z104 0)) := (zP_1 c139)
            refine lv_iinc (v := nI (z104 + 1)) (lv' := [(5, .int (nI (z104 + 1))), (4, .ref (as.getD z16 0)), (3, .int (nI z16)), (2, .ref (as.getD k 0)), (0, .ref p9), (1, .int (nI k))]) hx hb d_PathCheck_isNameAllowed_144 hl (k := 0) rfl (nI_1 _) (by decide) rfl (fun ls hl => ?_)
            refine lv_goto (tgt := 104) hx hb d_PathCheck_isNameAllowed_147 (by decide) ?_
            exact ih104 (z104 + 1) ls (by omega) (⟨by omega, fun i9 h9 => (Nat.lt_succ_iff_lt_or_eq.mp h9).elim (hJ104.2 i9) (fun e9 => by subst e9; exact p139)⟩) (lv_sub hl [0, 1, 2, 3, 4, 5] rfl)
          · have p139 : ¬ (dnsQ (cO κ ν ω (as.getD z16 0)) (sO κ ω ((ω ((ω ((ω ((ω (as.getD k 0)).getD 4 0)).getD 0 0)).getD 0 0)).getD z104 0))) := (zP_0.mp c139)
            refine lv_iconst (v := 0) hx hb d_PathCheck_isNameAllowed_142 (by decide) ?_
            exact W.zret (v := 0) hx hb hr rfl (fun t ht hW => ⟨_, rfl, zP_f (fun h9 => p139 ((h9 z16 (by omega) (by omega)).2.2 _ (lO_mem kl_6 (show z104 < _ by omega)))), ht⟩) (fun q h => by cases h) d_PathCheck_isNameAllowed_143
      · have p67 : ¬ (((κ ((ω (as.getD k 0)).getD 4 0)).2.2) ≤ z55) := (fun q9 => c67 ((nI_leI (a := ((κ ((ω (as.getD k 0)).getD 4 0)).2.2)) (b := z55) (by omega) (by omega)).mpr q9))
        refine lv_aload hx hb d_PathCheck_isNameAllowed_70 (lv_at hl 1 rfl) ?_
        refine lv_aload_n hx hb d_PathCheck_isNameAllowed_72 rfl (lv_at hl 3 rfl) ?_
        refine va_get (v := .ref ((ω (as.getD k 0)).getD 4 0)) hx hb htb i_Certificate hown hK hP i_3 hg_3 rfl 0 (by decide) (htb _ q2_140) (fun _ h9 => h9) rfl d_PathCheck_isNameAllowed_73 ?_
        refine va_getN (v := .ref ((ω ((ω (as.getD k 0)).getD 4 0)).getD 1 0)) hx hb htb i_NameSet hown hK hP i_6 hg_6 rfl 1 (by decide) (va_Nw.use rfl (hN.1 _ qn2_132)) (fun _ h9 => h9) rfl d_PathCheck_isNameAllowed_76 ?_
        refine lv_iload hx hb d_PathCheck_isNameAllowed_79 (lv_at hl 0 rfl) ?_
        obtain ⟨cap_12, kq_12⟩ := he_7 (by omega)
        obtain ⟨i_13, f_13, hK_13, hc_13, he_13, hg_13⟩ := ty_3x hTy kq_12
        obtain ⟨hf_12, ks_12⟩ := he_13 z55 (by omega)
        have ks_12 := tK.two ks_12
        refine va_csr (pu_callV (As := [.int (nI z55)]) (rest := [.ref (as.getD z16 0)]) ⟨hx, hb, hml, hown, hts⟩ tbin (c_AL_get l dC dI sb ((ω ((ω (as.getD k 0)).getD 4 0)).getD 1 0) ((ω ((ω ((ω (as.getD k 0)).getD 4 0)).getD 1 0)).getD 0 0) ((κ ((ω (as.getD k 0)).getD 4 0)).2.2) cap_12 z55 ((ω ((ω ((ω ((ω (as.getD k 0)).getD 4 0)).getD 1 0)).getD 0 0)).getD z55 0) m_7 γ.2.2.2 f_13 (by omega) hK_13 (by omega) hf_12) q6_51 q4_210 q4_211 q1_4 q4_212 (n := 1) (by decide +kernel) rfl ⟨rfl, rfl⟩ ⟨Nat.le_of_ble_eq_true rfl, Nat.le_of_ble_eq_true rfl⟩ ⟨Nat.le_of_ble_eq_true rfl, Nat.le_of_ble_eq_true rfl⟩ hN hT0 hK hP [i_7, i_13] (by simp only [List.filterMap_cons, List.filterMap_nil, hg_7, hg_13]) [3] rfl i_7 11 hg_7 rfl rfl hl.1 rfl (Nat.le_of_ble_eq_true rfl) d_PathCheck_isNameAllowed_81) (fun r81 hr81 => ?_)
        obtain rfl := Eq.symm hr81
        obtain ⟨i_14, t_14, n_14, f_14, kt_14, hb_14, hm_14, hw_14, hg_14⟩ := ty_2x hTy ks_12
        refine va_castY (C := "TrustChain$Slice") hx hb hown (htb _ q6_97) (hN.1 _ qn9_222) (va_recv (ci := 0) hK hP rfl hg_14) d_PathCheck_isNameAllowed_84 ?_
        refine vp_callSi (pu_callV (As := [.ref ((ω ((ω ((ω ((ω (as.getD k 0)).getD 4 0)).getD 1 0)).getD 0 0)).getD z55 0)]) (rest := []) ⟨hx, hb, hml, hown, hts⟩ tbin (p_Certificate_allowsDirectory l dC dI sb γ κ Ad ν ω L G (as.getD z16 0) ((ω ((ω ((ω ((ω (as.getD k 0)).getD 4 0)).getD 1 0)).getD 0 0)).getD z55 0) _ _ _ hTy ks_4 ks_12 ) q6_84 q6_85 q6_86 q1_21 q6_87 (n := 1) (by decide +kernel) rfl ⟨rfl, rfl⟩ ⟨Nat.le_of_ble_eq_true rfl, Nat.le_of_ble_eq_true rfl⟩ ⟨Nat.le_of_ble_eq_true rfl, Nat.le_of_ble_eq_true rfl⟩ hN hT0 hK hP (List.range G.length) (rg_all G) [0, 1, 2, 3] rfl i_5 3 hg_5 rfl rfl hl.1 rfl (Nat.le_of_ble_eq_true rfl) d_PathCheck_isNameAllowed_87) (fun r87 hr87 => ?_)
        obtain rfl : r87 = zP (dirQ (cO κ ν ω (as.getD z16 0)) (sO κ ω ((ω ((ω ((ω ((ω (as.getD k 0)).getD 4 0)).getD 1 0)).getD 0 0)).getD z55 0))) := hr87
        refine lv_if_ne (tgt := 95) hx hb d_PathCheck_isNameAllowed_90 (by decide) (fun c90 => ?_) (fun c90 => ?_)
        · have p90 : dirQ (cO κ ν ω (as.getD z16 0)) (sO κ ω ((ω ((ω ((ω ((ω (as.getD k 0)).getD 4 0)).getD 1 0)).getD 0 0)).getD z55 0)) := (zP_1 c90)
          refine lv_iinc (v := nI (z55 + 1)) (lv' := [(5, .int (nI (z55 + 1))), (4, .ref (as.getD z16 0)), (3, .int (nI z16)), (2, .ref (as.getD k 0)), (0, .ref p9), (1, .int (nI k))]) hx hb d_PathCheck_isNameAllowed_95 hl (k := 0) rfl (nI_1 _) (by decide) rfl (fun ls hl => ?_)
          refine lv_goto (tgt := 55) hx hb d_PathCheck_isNameAllowed_98 (by decide) ?_
          exact ih55 (z55 + 1) ls (by omega) (⟨by omega, fun i9 h9 => (Nat.lt_succ_iff_lt_or_eq.mp h9).elim (hJ55.2 i9) (fun e9 => by subst e9; exact p90)⟩) (lv_sub hl [0, 1, 2, 3, 4, 5] rfl)
        · have p90 : ¬ (dirQ (cO κ ν ω (as.getD z16 0)) (sO κ ω ((ω ((ω ((ω ((ω (as.getD k 0)).getD 4 0)).getD 1 0)).getD 0 0)).getD z55 0))) := (zP_0.mp c90)
          refine lv_iconst (v := 0) hx hb d_PathCheck_isNameAllowed_93 (by decide) ?_
          exact W.zret (v := 0) hx hb hr rfl (fun t ht hW => ⟨_, rfl, zP_f (fun h9 => p90 ((h9 z16 (by omega) (by omega)).2.1 _ (lO_mem kd_6 (show z55 < _ by omega)))), ht⟩) (fun q h => by cases h) d_PathCheck_isNameAllowed_94
    · have p35 : ¬ (((ν (as.getD k 0)).1) ≤ (0 : Int32)) := c35
      refine lv_aload hx hb d_PathCheck_isNameAllowed_38 (lv_at hl 0 rfl) ?_
      refine lv_aload_n hx hb d_PathCheck_isNameAllowed_40 rfl (lv_at hl 2 rfl) ?_
      refine va_get (v := .ref ((ω (as.getD k 0)).getD 8 0)) hx hb htb i_Certificate hown hK hP i_3 hg_3 rfl 4 (by decide) (htb _ q2_152) (fun _ h9 => h9) rfl d_PathCheck_isNameAllowed_41 ?_
      refine vp_callSi (pu_callV (As := [.ref ((ω (as.getD k 0)).getD 8 0)]) (rest := []) ⟨hx, hb, hml, hown, hts⟩ tbin (p_Certificate_allowsDirectory l dC dI sb γ κ Ad ν ω L G (as.getD z16 0) ((ω (as.getD k 0)).getD 8 0) _ _ _ hTy ks_4 ksu_3 ) q6_84 q6_85 q6_86 q1_21 q6_87 (n := 1) (by decide +kernel) rfl ⟨rfl, rfl⟩ ⟨Nat.le_of_ble_eq_true rfl, Nat.le_of_ble_eq_true rfl⟩ ⟨Nat.le_of_ble_eq_true rfl, Nat.le_of_ble_eq_true rfl⟩ hN hT0 hK hP (List.range G.length) (rg_all G) [0, 1, 2, 3] rfl i_5 3 hg_5 rfl rfl hl.1 rfl (Nat.le_of_ble_eq_true rfl) d_PathCheck_isNameAllowed_44) (fun r44 hr44 => ?_)
      obtain rfl : r44 = zP (dirQ (cO κ ν ω (as.getD z16 0)) (sO κ ω ((ω (as.getD k 0)).getD 8 0))) := hr44
      refine lv_if_ne (tgt := 52) hx hb d_PathCheck_isNameAllowed_47 (by decide) (fun c47 => ?_) (fun c47 => ?_)
      · have p47 : dirQ (cO κ ν ω (as.getD z16 0)) (sO κ ω ((ω (as.getD k 0)).getD 8 0)) := (zP_1 c47)
        refine lv_iconst (v := 0) hx hb d_PathCheck_isNameAllowed_52 (by decide) ?_
        refine lv_istore (lv' := [(5, .int 0), (4, .ref (as.getD z16 0)), (3, .int (nI z16)), (2, .ref (as.getD k 0)), (0, .ref p9), (1, .int (nI k))]) hx hb d_PathCheck_isNameAllowed_53 hl (by decide) rfl (fun ls hl => ?_)
        obtain ⟨i_15, kl_15, kd_15, hg_15⟩ := ty_5x hTy knm_3
        have hps9 : 0 < (cO κ ν ω (as.getD k 0)).ps → dirQ (cO κ ν ω (as.getD z16 0)) (cO κ ν ω (as.getD k 0)).sc := fun _ => p47
        refine w_loop (α := Nat) (fun z55 => z55 ≤ ((κ ((ω (as.getD k 0)).getD 4 0)).2.2) ∧ ∀ i9, i9 < z55 → (dirQ (cO κ ν ω (as.getD z16 0)) (sO κ ω ((ω ((ω ((ω ((ω (as.getD k 0)).getD 4 0)).getD 1 0)).getD 0 0)).getD i9 0)))) (fun z55 => ((κ ((ω (as.getD k 0)).getD 4 0)).2.2) - z55) (fun z55 => [(5, .int (nI z55)), (4, .ref (as.getD z16 0)), (3, .int (nI z16)), (2, .ref (as.getD k 0)), (0, .ref p9), (1, .int (nI k))]) (fun _ => []) 6 55 (fun z55 ls hJ55 hl ih55 => ?_) 0 ls (⟨Nat.zero_le _, fun i9 h9 => absurd h9 (Nat.not_lt_zero i9)⟩) (lv_sub hl [0, 1, 2, 3, 4, 5] rfl)
        have hz55 := hJ55.1
        refine lv_iload hx hb d_PathCheck_isNameAllowed_55 (lv_at hl 0 rfl) ?_
        refine lv_aload_n hx hb d_PathCheck_isNameAllowed_57 rfl (lv_at hl 3 rfl) ?_
        refine va_get (v := .ref ((ω (as.getD k 0)).getD 4 0)) hx hb htb i_Certificate hown hK hP i_3 hg_3 rfl 0 (by decide) (htb _ q2_140) (fun _ h9 => h9) rfl d_PathCheck_isNameAllowed_58 ?_
        refine va_getN (v := .ref ((ω ((ω (as.getD k 0)).getD 4 0)).getD 1 0)) hx hb htb i_NameSet hown hK hP i_15 hg_15 rfl 1 (by decide) (va_Nw.use rfl (hN.1 _ qn2_132)) (fun _ h9 => h9) rfl d_PathCheck_isNameAllowed_61 ?_
        obtain ⟨i_16, m_16, hK_16, he_16, hg_16⟩ := ty_4x hTy kd_15
        refine vp_callSi (pu_callV (As := []) (rest := [.int (nI z55)]) ⟨hx, hb, hml, hown, hts⟩ tbin (c_AL_size l dC dI sb ((ω ((ω (as.getD k 0)).getD 4 0)).getD 1 0) ((ω ((ω ((ω (as.getD k 0)).getD 4 0)).getD 1 0)).getD 0 0) ((κ ((ω (as.getD k 0)).getD 4 0)).2.2) m_16) q6_46 q2_54 q2_55 q1_4 q2_56 (n := 0) (by decide +kernel) rfl ⟨rfl, rfl⟩ ⟨Nat.le_of_ble_eq_true rfl, Nat.le_of_ble_eq_true rfl⟩ ⟨Nat.le_of_ble_eq_true rfl, Nat.le_of_ble_eq_true rfl⟩ hN hT0 hK hP [i_16] (by simp only [List.filterMap_cons, List.filterMap_nil, hg_16]) [] rfl i_16 11 hg_16 rfl rfl hl.1 rfl (Nat.le_of_ble_eq_true rfl) d_PathCheck_isNameAllowed_64) (fun r64 hr64 => ?_)
        subst hr64
        refine lv_icmp_ge (tgt := 101) hx hb d_PathCheck_isNameAllowed_67 (by decide) (fun c67 => ?_) (fun c67 => ?_)
        · have p67 : ((κ ((ω (as.getD k 0)).getD 4 0)).2.2) ≤ z55 := ((nI_leI (a := ((κ ((ω (as.getD k 0)).getD 4 0)).2.2)) (b := z55) (by omega) (by omega)).mp c67)
          refine lv_iconst (v := 0) hx hb d_PathCheck_isNameAllowed_101 (by decide) ?_
          refine lv_istore (lv' := [(5, .int 0), (4, .ref (as.getD z16 0)), (3, .int (nI z16)), (2, .ref (as.getD k 0)), (0, .ref p9), (1, .int (nI k))]) hx hb d_PathCheck_isNameAllowed_102 hl (by decide) rfl (fun ls hl => ?_)
          have hdi9 : ∀ n9, n9 ∈ (cO κ ν ω (as.getD k 0)).di → dirQ (cO κ ν ω (as.getD z16 0)) n9 := lO_all kd_15 (fun i9 h9 => hJ55.2 i9 (by omega))
          refine w_loop (α := Nat) (fun z104 => z104 ≤ ((κ ((ω (as.getD k 0)).getD 4 0)).2.1) ∧ ∀ i9, i9 < z104 → (dnsQ (cO κ ν ω (as.getD z16 0)) (sO κ ω ((ω ((ω ((ω ((ω (as.getD k 0)).getD 4 0)).getD 0 0)).getD 0 0)).getD i9 0)))) (fun z104 => ((κ ((ω (as.getD k 0)).getD 4 0)).2.1) - z104) (fun z104 => [(5, .int (nI z104)), (4, .ref (as.getD z16 0)), (3, .int (nI z16)), (2, .ref (as.getD k 0)), (0, .ref p9), (1, .int (nI k))]) (fun _ => []) 6 104 (fun z104 ls hJ104 hl ih104 => ?_) 0 ls (⟨Nat.zero_le _, fun i9 h9 => absurd h9 (Nat.not_lt_zero i9)⟩) (lv_sub hl [0, 1, 2, 3, 4, 5] rfl)
          have hz104 := hJ104.1
          refine lv_iload hx hb d_PathCheck_isNameAllowed_104 (lv_at hl 0 rfl) ?_
          refine lv_aload_n hx hb d_PathCheck_isNameAllowed_106 rfl (lv_at hl 3 rfl) ?_
          refine va_get (v := .ref ((ω (as.getD k 0)).getD 4 0)) hx hb htb i_Certificate hown hK hP i_3 hg_3 rfl 0 (by decide) (htb _ q2_140) (fun _ h9 => h9) rfl d_PathCheck_isNameAllowed_107 ?_
          refine va_getN (v := .ref ((ω ((ω (as.getD k 0)).getD 4 0)).getD 0 0)) hx hb htb i_NameSet hown hK hP i_15 hg_15 rfl 0 (by decide) (va_Nw.use rfl (hN.1 _ qn2_128)) (fun _ h9 => h9) rfl d_PathCheck_isNameAllowed_110 ?_
          obtain ⟨i_17, m_17, hK_17, he_17, hg_17⟩ := ty_4x hTy kl_15
          refine vp_callSi (pu_callV (As := []) (rest := [.int (nI z104)]) ⟨hx, hb, hml, hown, hts⟩ tbin (c_AL_size l dC dI sb ((ω ((ω (as.getD k 0)).getD 4 0)).getD 0 0) ((ω ((ω ((ω (as.getD k 0)).getD 4 0)).getD 0 0)).getD 0 0) ((κ ((ω (as.getD k 0)).getD 4 0)).2.1) m_17) q6_46 q2_54 q2_55 q1_4 q2_56 (n := 0) (by decide +kernel) rfl ⟨rfl, rfl⟩ ⟨Nat.le_of_ble_eq_true rfl, Nat.le_of_ble_eq_true rfl⟩ ⟨Nat.le_of_ble_eq_true rfl, Nat.le_of_ble_eq_true rfl⟩ hN hT0 hK hP [i_17] (by simp only [List.filterMap_cons, List.filterMap_nil, hg_17]) [] rfl i_17 11 hg_17 rfl rfl hl.1 rfl (Nat.le_of_ble_eq_true rfl) d_PathCheck_isNameAllowed_113) (fun r113 hr113 => ?_)
          subst hr113
          refine lv_icmp_ge (tgt := 150) hx hb d_PathCheck_isNameAllowed_116 (by decide) (fun c116 => ?_) (fun c116 => ?_)
          · have p116 : ((κ ((ω (as.getD k 0)).getD 4 0)).2.1) ≤ z104 := ((nI_leI (a := ((κ ((ω (as.getD k 0)).getD 4 0)).2.1)) (b := z104) (by omega) (by omega)).mp c116)
            refine lv_iinc (v := nI (z16 - 1)) (lv' := [(3, .int (nI (z16 - 1))), (5, .int (nI z104)), (4, .ref (as.getD z16 0)), (2, .ref (as.getD k 0)), (0, .ref p9), (1, .int (nI k))]) hx hb d_PathCheck_isNameAllowed_150 hl (k := 2) rfl (nI_m1 (by omega)) (by decide) rfl (fun ls hl => ?_)
            refine lv_goto (tgt := 16) hx hb d_PathCheck_isNameAllowed_153 (by decide) ?_
            have hab9 : abvQ (cO κ ν ω (as.getD k 0)) (cO κ ν ω (as.getD z16 0)) := ⟨hps9, hdi9, lO_all kl_15 (fun i9 h9 => hJ104.2 i9 (by omega))⟩
            exact ih16 (z16 - 1) ls (by omega) ⟨by omega, fun j9 h8 h9 => (show j9 = z16 ∨ z16 < j9 by omega).elim (fun e9 => by subst e9; exact hab9) (fun q9 => hJ16.2 j9 q9 h9)⟩ (lv_sub hl [0, 3, 4, 5] rfl)
          · have p116 : ¬ (((κ ((ω (as.getD k 0)).getD 4 0)).2.1) ≤ z104) := (fun q9 => c116 ((nI_leI (a := ((κ ((ω (as.getD k 0)).getD 4 0)).2.1)) (b := z104) (by omega) (by omega)).mpr q9))
            refine lv_aload hx hb d_PathCheck_isNameAllowed_119 (lv_at hl 1 rfl) ?_
            refine lv_aload_n hx hb d_PathCheck_isNameAllowed_121 rfl (lv_at hl 3 rfl) ?_
            refine va_get (v := .ref ((ω (as.getD k 0)).getD 4 0)) hx hb htb i_Certificate hown hK hP i_3 hg_3 rfl 0 (by decide) (htb _ q2_140) (fun _ h9 => h9) rfl d_PathCheck_isNameAllowed_122 ?_
            refine va_getN (v := .ref ((ω ((ω (as.getD k 0)).getD 4 0)).getD 0 0)) hx hb htb i_NameSet hown hK hP i_15 hg_15 rfl 0 (by decide) (va_Nw.use rfl (hN.1 _ qn2_128)) (fun _ h9 => h9) rfl d_PathCheck_isNameAllowed_125 ?_
            refine lv_iload hx hb d_PathCheck_isNameAllowed_128 (lv_at hl 0 rfl) ?_
            obtain ⟨cap_18, kq_18⟩ := he_17 (by omega)
            obtain ⟨i_19, f_19, hK_19, hc_19, he_19, hg_19⟩ := ty_3x hTy kq_18
            obtain ⟨hf_18, ks_18⟩ := he_19 z104 (by omega)
            have ks_18 := tK.two ks_18
            refine va_csr (pu_callV (As := [.int (nI z104)]) (rest := [.ref (as.getD z16 0)]) ⟨hx, hb, hml, hown, hts⟩ tbin (c_AL_get l dC dI sb ((ω ((ω (as.getD k 0)).getD 4 0)).getD 0 0) ((ω ((ω ((ω (as.getD k 0)).getD 4 0)).getD 0 0)).getD 0 0) ((κ ((ω (as.getD k 0)).getD 4 0)).2.1) cap_18 z104 ((ω ((ω ((ω ((ω (as.getD k 0)).getD 4 0)).getD 0 0)).getD 0 0)).getD z104 0) m_17 γ.2.2.2 f_19 (by omega) hK_19 (by omega) hf_18) q6_51 q4_210 q4_211 q1_4 q4_212 (n := 1) (by decide +kernel) rfl ⟨rfl, rfl⟩ ⟨Nat.le_of_ble_eq_true rfl, Nat.le_of_ble_eq_true rfl⟩ ⟨Nat.le_of_ble_eq_true rfl, Nat.le_of_ble_eq_true rfl⟩ hN hT0 hK hP [i_17, i_19] (by simp only [List.filterMap_cons, List.filterMap_nil, hg_17, hg_19]) [3] rfl i_17 11 hg_17 rfl rfl hl.1 rfl (Nat.le_of_ble_eq_true rfl) d_PathCheck_isNameAllowed_130) (fun r130 hr130 => ?_)
            obtain rfl := Eq.symm hr130
            obtain ⟨i_20, t_20, n_20, f_20, kt_20, hb_20, hm_20, hw_20, hg_20⟩ := ty_2x hTy ks_18
            refine va_castY (C := "TrustChain$Slice") hx hb hown (htb _ q6_97) (hN.1 _ qn9_222) (va_recv (ci := 0) hK hP rfl hg_20) d_PathCheck_isNameAllowed_133 ?_
            refine vp_callSi (pu_callV (As := [.ref ((ω ((ω ((ω ((ω (as.getD k 0)).getD 4 0)).getD 0 0)).getD 0 0)).getD z104 0)]) (rest := []) ⟨hx, hb, hml, hown, hts⟩ tbin (p_Certificate_allowsDns l dC dI sb γ κ Ad ν ω L G (as.getD z16 0) ((ω ((ω ((ω ((ω (as.getD k 0)).getD 4 0)).getD 0 0)).getD 0 0)).getD z104 0) _ _ _ hTy ks_4 ks_18 ) q6_98 q6_99 q6_100 q1_21 q6_101 (n := 1) (by decide +kernel) rfl ⟨rfl, rfl⟩ ⟨Nat.le_of_ble_eq_true rfl, Nat.le_of_ble_eq_true rfl⟩ ⟨Nat.le_of_ble_eq_true rfl, Nat.le_of_ble_eq_true rfl⟩ hN hT0 hK hP (List.range G.length) (rg_all G) [0, 1, 2, 3] rfl i_5 3 hg_5 rfl rfl hl.1 rfl (Nat.le_of_ble_eq_true rfl) d_PathCheck_isNameAllowed_136) (fun r136 hr136 => ?_)
            obtain rfl : r136 = zP (dnsQ (cO κ ν ω (as.getD z16 0)) (sO κ ω ((ω ((ω ((ω ((ω (as.getD k 0)).getD 4 0)).getD 0 0)).getD 0 0)).getD z104 0))) := hr136
            refine lv_if_ne (tgt := 144) hx hb d_PathCheck_isNameAllowed_139 (by decide) (fun c139 => ?_) (fun c139 => ?_)
            · have p139 : dnsQ (cO κ ν ω (as.getD z16 0)) (sO κ ω ((ω ((ω ((ω ((ω (as.getD k 0)).getD 4 0)).getD 0 0)).getD 0 0)).getD z104 0)) := (zP_1 c139)
              refine lv_iinc (v := nI (z104 + 1)) (lv' := [(5, .int (nI (z104 + 1))), (4, .ref (as.getD z16 0)), (3, .int (nI z16)), (2, .ref (as.getD k 0)), (0, .ref p9), (1, .int (nI k))]) hx hb d_PathCheck_isNameAllowed_144 hl (k := 0) rfl (nI_1 _) (by decide) rfl (fun ls hl => ?_)
              refine lv_goto (tgt := 104) hx hb d_PathCheck_isNameAllowed_147 (by decide) ?_
              exact ih104 (z104 + 1) ls (by omega) (⟨by omega, fun i9 h9 => (Nat.lt_succ_iff_lt_or_eq.mp h9).elim (hJ104.2 i9) (fun e9 => by subst e9; exact p139)⟩) (lv_sub hl [0, 1, 2, 3, 4, 5] rfl)
            · have p139 : ¬ (dnsQ (cO κ ν ω (as.getD z16 0)) (sO κ ω ((ω ((ω ((ω ((ω (as.getD k 0)).getD 4 0)).getD 0 0)).getD 0 0)).getD z104 0))) := (zP_0.mp c139)
              refine lv_iconst (v := 0) hx hb d_PathCheck_isNameAllowed_142 (by decide) ?_
              exact W.zret (v := 0) hx hb hr rfl (fun t ht hW => ⟨_, rfl, zP_f (fun h9 => p139 ((h9 z16 (by omega) (by omega)).2.2 _ (lO_mem kl_15 (show z104 < _ by omega)))), ht⟩) (fun q h => by cases h) d_PathCheck_isNameAllowed_143
        · have p67 : ¬ (((κ ((ω (as.getD k 0)).getD 4 0)).2.2) ≤ z55) := (fun q9 => c67 ((nI_leI (a := ((κ ((ω (as.getD k 0)).getD 4 0)).2.2)) (b := z55) (by omega) (by omega)).mpr q9))
          refine lv_aload hx hb d_PathCheck_isNameAllowed_70 (lv_at hl 1 rfl) ?_
          refine lv_aload_n hx hb d_PathCheck_isNameAllowed_72 rfl (lv_at hl 3 rfl) ?_
          refine va_get (v := .ref ((ω (as.getD k 0)).getD 4 0)) hx hb htb i_Certificate hown hK hP i_3 hg_3 rfl 0 (by decide) (htb _ q2_140) (fun _ h9 => h9) rfl d_PathCheck_isNameAllowed_73 ?_
          refine va_getN (v := .ref ((ω ((ω (as.getD k 0)).getD 4 0)).getD 1 0)) hx hb htb i_NameSet hown hK hP i_15 hg_15 rfl 1 (by decide) (va_Nw.use rfl (hN.1 _ qn2_132)) (fun _ h9 => h9) rfl d_PathCheck_isNameAllowed_76 ?_
          refine lv_iload hx hb d_PathCheck_isNameAllowed_79 (lv_at hl 0 rfl) ?_
          obtain ⟨cap_21, kq_21⟩ := he_16 (by omega)
          obtain ⟨i_22, f_22, hK_22, hc_22, he_22, hg_22⟩ := ty_3x hTy kq_21
          obtain ⟨hf_21, ks_21⟩ := he_22 z55 (by omega)
          have ks_21 := tK.two ks_21
          refine va_csr (pu_callV (As := [.int (nI z55)]) (rest := [.ref (as.getD z16 0)]) ⟨hx, hb, hml, hown, hts⟩ tbin (c_AL_get l dC dI sb ((ω ((ω (as.getD k 0)).getD 4 0)).getD 1 0) ((ω ((ω ((ω (as.getD k 0)).getD 4 0)).getD 1 0)).getD 0 0) ((κ ((ω (as.getD k 0)).getD 4 0)).2.2) cap_21 z55 ((ω ((ω ((ω ((ω (as.getD k 0)).getD 4 0)).getD 1 0)).getD 0 0)).getD z55 0) m_16 γ.2.2.2 f_22 (by omega) hK_22 (by omega) hf_21) q6_51 q4_210 q4_211 q1_4 q4_212 (n := 1) (by decide +kernel) rfl ⟨rfl, rfl⟩ ⟨Nat.le_of_ble_eq_true rfl, Nat.le_of_ble_eq_true rfl⟩ ⟨Nat.le_of_ble_eq_true rfl, Nat.le_of_ble_eq_true rfl⟩ hN hT0 hK hP [i_16, i_22] (by simp only [List.filterMap_cons, List.filterMap_nil, hg_16, hg_22]) [3] rfl i_16 11 hg_16 rfl rfl hl.1 rfl (Nat.le_of_ble_eq_true rfl) d_PathCheck_isNameAllowed_81) (fun r81 hr81 => ?_)
          obtain rfl := Eq.symm hr81
          obtain ⟨i_23, t_23, n_23, f_23, kt_23, hb_23, hm_23, hw_23, hg_23⟩ := ty_2x hTy ks_21
          refine va_castY (C := "TrustChain$Slice") hx hb hown (htb _ q6_97) (hN.1 _ qn9_222) (va_recv (ci := 0) hK hP rfl hg_23) d_PathCheck_isNameAllowed_84 ?_
          refine vp_callSi (pu_callV (As := [.ref ((ω ((ω ((ω ((ω (as.getD k 0)).getD 4 0)).getD 1 0)).getD 0 0)).getD z55 0)]) (rest := []) ⟨hx, hb, hml, hown, hts⟩ tbin (p_Certificate_allowsDirectory l dC dI sb γ κ Ad ν ω L G (as.getD z16 0) ((ω ((ω ((ω ((ω (as.getD k 0)).getD 4 0)).getD 1 0)).getD 0 0)).getD z55 0) _ _ _ hTy ks_4 ks_21 ) q6_84 q6_85 q6_86 q1_21 q6_87 (n := 1) (by decide +kernel) rfl ⟨rfl, rfl⟩ ⟨Nat.le_of_ble_eq_true rfl, Nat.le_of_ble_eq_true rfl⟩ ⟨Nat.le_of_ble_eq_true rfl, Nat.le_of_ble_eq_true rfl⟩ hN hT0 hK hP (List.range G.length) (rg_all G) [0, 1, 2, 3] rfl i_5 3 hg_5 rfl rfl hl.1 rfl (Nat.le_of_ble_eq_true rfl) d_PathCheck_isNameAllowed_87) (fun r87 hr87 => ?_)
          obtain rfl : r87 = zP (dirQ (cO κ ν ω (as.getD z16 0)) (sO κ ω ((ω ((ω ((ω ((ω (as.getD k 0)).getD 4 0)).getD 1 0)).getD 0 0)).getD z55 0))) := hr87
          refine lv_if_ne (tgt := 95) hx hb d_PathCheck_isNameAllowed_90 (by decide) (fun c90 => ?_) (fun c90 => ?_)
          · have p90 : dirQ (cO κ ν ω (as.getD z16 0)) (sO κ ω ((ω ((ω ((ω ((ω (as.getD k 0)).getD 4 0)).getD 1 0)).getD 0 0)).getD z55 0)) := (zP_1 c90)
            refine lv_iinc (v := nI (z55 + 1)) (lv' := [(5, .int (nI (z55 + 1))), (4, .ref (as.getD z16 0)), (3, .int (nI z16)), (2, .ref (as.getD k 0)), (0, .ref p9), (1, .int (nI k))]) hx hb d_PathCheck_isNameAllowed_95 hl (k := 0) rfl (nI_1 _) (by decide) rfl (fun ls hl => ?_)
            refine lv_goto (tgt := 55) hx hb d_PathCheck_isNameAllowed_98 (by decide) ?_
            exact ih55 (z55 + 1) ls (by omega) (⟨by omega, fun i9 h9 => (Nat.lt_succ_iff_lt_or_eq.mp h9).elim (hJ55.2 i9) (fun e9 => by subst e9; exact p90)⟩) (lv_sub hl [0, 1, 2, 3, 4, 5] rfl)
          · have p90 : ¬ (dirQ (cO κ ν ω (as.getD z16 0)) (sO κ ω ((ω ((ω ((ω ((ω (as.getD k 0)).getD 4 0)).getD 1 0)).getD 0 0)).getD z55 0))) := (zP_0.mp c90)
            refine lv_iconst (v := 0) hx hb d_PathCheck_isNameAllowed_93 (by decide) ?_
            exact W.zret (v := 0) hx hb hr rfl (fun t ht hW => ⟨_, rfl, zP_f (fun h9 => p90 ((h9 z16 (by omega) (by omega)).2.1 _ (lO_mem kd_15 (show z55 < _ by omega)))), ht⟩) (fun q h => by cases h) d_PathCheck_isNameAllowed_94
      · have p47 : ¬ (dirQ (cO κ ν ω (as.getD z16 0)) (sO κ ω ((ω (as.getD k 0)).getD 8 0))) := (zP_0.mp c47)
        refine lv_iconst (v := 0) hx hb d_PathCheck_isNameAllowed_50 (by decide) ?_
        exact W.zret (v := 0) hx hb hr rfl (fun t ht hW => ⟨_, rfl, zP_f (fun h9 => p47 ((h9 z16 (by omega) (by omega)).1 (q_gt p35))), ht⟩) (fun q h => by cases h) d_PathCheck_isNameAllowed_51
def y_PathCheck_begin : MethodName := ⟨"TrustChain$PathCheck", "begin", "(JZ)V"⟩
abbrev b_PathCheck_begin : ByteArray := prog_7_method_2_code
def w_PathCheck_begin : List Cond := Cond.code y_PathCheck_begin b_PathCheck_begin 4 (none) :: tb
theorem d_PathCheck_begin_0 : decode b_PathCheck_begin 0 = .ok (.aload_n 0, 1) := by decide +kernel
theorem d_PathCheck_begin_1 : decode b_PathCheck_begin 1 = .ok (.lload_n 1, 1) := by decide +kernel
theorem d_PathCheck_begin_2 : decode b_PathCheck_begin 2 = .ok (.putfield 15, 3) := by decide +kernel
theorem d_PathCheck_begin_5 : decode b_PathCheck_begin 5 = .ok (.aload_n 0, 1) := by decide +kernel
theorem d_PathCheck_begin_6 : decode b_PathCheck_begin 6 = .ok (.iload_n 3, 1) := by decide +kernel
theorem d_PathCheck_begin_7 : decode b_PathCheck_begin 7 = .ok (.putfield 19, 3) := by decide +kernel
theorem d_PathCheck_begin_10 : decode b_PathCheck_begin 10 = .ok (.return_, 1) := by decide +kernel
set_option maxHeartbeats 4000000 in
set_option maxRecDepth 100000 in
theorem m_PathCheck_begin (l : Launch) (dC : Nat → ClassId) (dI : Nat → Nat → Nat) (sb : sB) (γ : cG) (κ : kE) (Ad : List Nat) (ν : Nat → cN) (ω : Nat → List Nat) (L : Nat) (G : va_W) (h : Nat) (t9 : Int64) (x9 : Int32) (sz : Nat) (hTy : TY γ κ Ad ν ω L G) (kh : tK κ Ad h (12, 0, 0)) (hL : L ≤ 64) (hx9 : bz x9 (x9 = 1)) : Met l y_PathCheck_begin w_PathCheck_begin ({ frames := 0, cells := 0, slots := 0, locals := 0 }) (mu_P [.ref h, .long t9, .int x9] (dC, dI) sb G [(γ.1, .byte), (γ.2.1, .int), (γ.2.2.1, .long), (γ.2.2.2, .object "java/lang/Object")] sz) (va_Qv (fun (G' : va_W) => ∃ ν' : Nat → cN, (∀ b, b ≠ h → ν' b = ν b) ∧ (ν' h = mkP (ν h) (ν h).1 x9 (ν h).2.2.1 t9) ∧ (∃ L' : Nat, L' ≤ 64 ∧ TY γ κ Ad ν' ω L' G') ∧ FR Ad G G' ∧ (True)) (mu_B (dC, dI) [(γ.1, .byte), (γ.2.1, .int), (γ.2.2.1, .long), (γ.2.2.2, .object "java/lang/Object")] (va_A G sz) (fun G' : va_W => G')) (va_A G sz)) 0 0 (va_A G sz) := by
  refine Met.ofW (cc := b_PathCheck_begin) (maxL := 4) (ret := none) (by decide) rfl ?_
  intro p e s m args below meth c s₁ B hml hv
  obtain ⟨rfl, hsz, hB0, hP, hK, hD0, hN, hT0⟩ := hv
  have hx := B.exec
  have hb := B.bytes
  have hr := B.returns
  have hts := atoms_spec (ws := w_PathCheck_begin) B.pre
  have tbin : ∀ w ∈ tb, w ∈ w_PathCheck_begin := fun w h => List.mem_cons_of_mem _ h
  have htb : ∀ w ∈ tb, w.before _ s = true := fun w h => hts w (tbin w h)
  have hown : s.vm.findClass "TrustChain$PathCheck" = some m.cls := findClass_of_methodNamed B.named
  have hlocks := B.notSynchronized
  subst hsz
  have hD := hD0.self (sz := s.heap.size)
  generalize hAe : va_A G s.heap.size = A at hD ⊢
  have hA : ∀ q : Nat, s.heap.size ≤ q → A q := fun q h => by rw [← hAe]; exact Or.inr h
  have hAs : ∀ q : Nat, A q → sb.1 ≤ q := fun q h => by
    rw [← hAe] at h
    rcases h with ⟨k, e, h⟩ | h
    · exact hD0.2 k _ h
    · exact Nat.le_trans hB0 h
  have hS : va_S A s.heap s.heap [] := va_S.rf
  have hFR := FR.rf Ad G
  have hcs : 0 ≤ (headSpec w_PathCheck_begin ({ frames := 0, cells := 0, slots := 0, locals := 0 })).room.cells ∧ 0 ≤ (headSpec w_PathCheck_begin ({ frames := 0, cells := 0, slots := 0, locals := 0 })).room.slots := ⟨Nat.le_refl _, Nat.le_refl _⟩
  have hP : va_P (dC, dI) classes G s.heap := hP
  have hl := lv_entry ([.ref h, .long t9, .int x9]) (n := 4) (Nat.le_of_ble_eq_true rfl)
  rw [lg_entry_eq]
  generalize (lg_sl ([.ref h, .long t9, .int x9]) ++ List.replicate (4 - (lg_sl ([.ref h, .long t9, .int x9])).length) Slot.unset).toArray = ls at hl ⊢
  have hl : lv_has ls 4 [(0, .ref h), (1, .long t9), (3, .int x9)] := hl
  have hTy0 := hTy
  have hTk : (κ h).1 = 12 ∨ (κ h).1 = 13 := Or.inl (by rw [kh.2])
  refine lv_aload_n hx hb d_PathCheck_begin_0 rfl (lv_at hl 0 rfl) ?_
  refine lv_lload_n hx hb d_PathCheck_begin_1 rfl (lv_at hl 1 rfl) ?_
  obtain ⟨i_1, hg_1⟩ := ty_12 hTy kh
  have hg_1 : G[i_1]? = some (h, .inr (9, [.int ((ν h).1), .long ((ν h).2.2.2.2.2.2.2.2.2.1), .int ((ν h).2.1), .int ((ν h).2.2.1)])) := hg_1
  refine va_put (v := .long t9) (ty := .long) hx hb htb i_PathCheck t_PathCheck t_PathCheck_ok n_PathCheck hown hK hP hD hS i_1 hg_1 rfl 1 (by decide) (htb _ q1_144) (fun _ h9 => h9) rfl (by decide +kernel) rfl rfl (Nat.le_of_ble_eq_true rfl) d_PathCheck_begin_2 (fun H2 locs hP hD2 hS => ?_)
  have hP : va_P (dC, dI) classes (G.set i_1 (h, .inr (9, [.int ((ν h).1), .long t9, .int ((ν h).2.1), .int ((ν h).2.2.1)]))) H2 := hP
  have hD3 : va_D A (G.set i_1 (h, .inr (9, [.int ((ν h).1), .long t9, .int ((ν h).2.1), .int ((ν h).2.2.1)]))) := hD2
  obtain ⟨ν2_2, hν2_2, eν2_2⟩ : ∃ z : Nat → cN, (∀ b, b ≠ h → z b = ν b) ∧ z h = mkP (ν h) ((ν h).1) ((ν h).2.1) ((ν h).2.2.1) t9 := ⟨nuR0 ν h (mkP (ν h) ((ν h).1) ((ν h).2.1) ((ν h).2.2.1) t9), fun b hb => if_neg hb, if_pos rfl⟩
  have hFR := hFR.tr (FR.set (c' := .inr (9, [.int ((ν h).1), .long t9, .int ((ν h).2.1), .int ((ν h).2.2.1)])) hg_1 kh.1)
  have hTy := q_setnu (ν' := ν2_2) (c' := .inr (9, [.int ((ν h).1), .long t9, .int ((ν h).2.1), .int ((ν h).2.2.1)])) hTy hD hg_1 hν2_2 (ok_12 kh (by rw [eν2_2]; rfl) (by rw [eν2_2]; rfl) (by rw [eν2_2]; rfl) (by rw [eν2_2]; rfl))
  have hD := hD3
  have hNν2_2 : ∀ b, b ≠ h → ν2_2 b = ν b := fun b hb => hν2_2 b hb
  clear hD3 hD2
  generalize G.set i_1 (h, .inr (9, [.int ((ν h).1), .long t9, .int ((ν h).2.1), .int ((ν h).2.2.1)])) = G_2 at hP hD hTy hFR 
  refine lv_aload_n hx hb d_PathCheck_begin_5 rfl (lv_at hl 0 rfl) ?_
  refine lv_iload_n hx hb d_PathCheck_begin_6 rfl (lv_at hl 2 rfl) ?_
  obtain ⟨i_3, hg_3⟩ := ty_12 hTy kh
  rw [eν2_2] at hg_3
  have hg_3 : G_2[i_3]? = some (h, .inr (9, [.int ((ν h).1), .long t9, .int ((ν h).2.1), .int ((ν h).2.2.1)])) := hg_3
  refine va_put (v := .int x9) (ty := .boolean) hx hb htb i_PathCheck t_PathCheck t_PathCheck_ok n_PathCheck hown hK hP hD hS i_3 hg_3 rfl 2 (by decide) (htb _ q1_145) (fun _ h9 => h9) rfl (by decide +kernel) (bz_n hx9) (bz_fit hx9) (Nat.le_of_ble_eq_true rfl) d_PathCheck_begin_7 (fun H7 locs hP hD2 hS => ?_)
  have hP : va_P (dC, dI) classes (G_2.set i_3 (h, .inr (9, [.int ((ν h).1), .long t9, .int x9, .int ((ν h).2.2.1)]))) H7 := hP
  have hD3 : va_D A (G_2.set i_3 (h, .inr (9, [.int ((ν h).1), .long t9, .int x9, .int ((ν h).2.2.1)]))) := hD2
  obtain ⟨ν7_4, hν7_4, eν7_4⟩ : ∃ z : Nat → cN, (∀ b, b ≠ h → z b = ν2_2 b) ∧ z h = mkP (ν h) ((ν h).1) x9 ((ν h).2.2.1) t9 := ⟨nuR0 ν2_2 h (mkP (ν h) ((ν h).1) x9 ((ν h).2.2.1) t9), fun b hb => if_neg hb, if_pos rfl⟩
  have hFR := hFR.tr (FR.set (c' := .inr (9, [.int ((ν h).1), .long t9, .int x9, .int ((ν h).2.2.1)])) hg_3 kh.1)
  have hTy := q_setnu (ν' := ν7_4) (c' := .inr (9, [.int ((ν h).1), .long t9, .int x9, .int ((ν h).2.2.1)])) hTy hD hg_3 hν7_4 (ok_12 kh (by rw [eν7_4]; rfl) (by rw [eν7_4]; rfl) (by rw [eν7_4]; rfl) (by rw [eν7_4]; rfl))
  have hD := hD3
  have hNν7_4 : ∀ b, b ≠ h → ν7_4 b = ν b := fun b hb => (hν7_4 b hb).trans (hNν2_2 b hb)
  clear hD3 hD2
  generalize G_2.set i_3 (h, .inr (9, [.int ((ν h).1), .long t9, .int x9, .int ((ν h).2.2.1)])) = G_4 at hP hD hTy hFR 
  exact W.vret hx hb hr (fun t ht hW => ⟨⟨G_4, rfl, ⟨ν7_4, hNν7_4, eν7_4, ⟨_, hL, hTy⟩, hFR, trivial⟩, by rw [ht]; exact hP, va_K.moved hW.alike hK, hD⟩, hS.F ht⟩) hS.2.2 d_PathCheck_begin_10
def y_PathCheck_isRevoked : MethodName := ⟨"TrustChain$PathCheck", "isRevoked", "(LTrustChain$Certificate;LTrustChain$Certificate;Ljava/util/ArrayList;LTrustChain$Rsa;)Z"⟩
abbrev b_PathCheck_isRevoked : ByteArray := prog_7_method_6_code
def w_PathCheck_isRevoked : List Cond := Cond.code y_PathCheck_isRevoked b_PathCheck_isRevoked 9 ((some FieldType.boolean)) :: tb
theorem d_PathCheck_isRevoked_0 : decode b_PathCheck_isRevoked 0 = .ok (.aload_n 0, 1) := by decide +kernel
theorem d_PathCheck_isRevoked_1 : decode b_PathCheck_isRevoked 1 = .ok (.iconst 0, 1) := by decide +kernel
theorem d_PathCheck_isRevoked_2 : decode b_PathCheck_isRevoked 2 = .ok (.putfield 23, 3) := by decide +kernel
theorem d_PathCheck_isRevoked_5 : decode b_PathCheck_isRevoked 5 = .ok (.iconst 0, 1) := by decide +kernel
theorem d_PathCheck_isRevoked_6 : decode b_PathCheck_isRevoked 6 = .ok (.istore 5, 2) := by decide +kernel
theorem d_PathCheck_isRevoked_8 : decode b_PathCheck_isRevoked 8 = .ok (.iconst 0, 1) := by decide +kernel
theorem d_PathCheck_isRevoked_9 : decode b_PathCheck_isRevoked 9 = .ok (.istore 6, 2) := by decide +kernel
theorem d_PathCheck_isRevoked_11 : decode b_PathCheck_isRevoked 11 = .ok (.iload 6, 2) := by decide +kernel
theorem d_PathCheck_isRevoked_13 : decode b_PathCheck_isRevoked 13 = .ok (.aload_n 3, 1) := by decide +kernel
theorem d_PathCheck_isRevoked_14 : decode b_PathCheck_isRevoked 14 = .ok (.invokevirtual 26, 3) := by decide +kernel
theorem d_PathCheck_isRevoked_17 : decode b_PathCheck_isRevoked 17 = .ok (.if_icmp .ge 116, 3) := by decide +kernel
theorem d_PathCheck_isRevoked_20 : decode b_PathCheck_isRevoked 20 = .ok (.aload_n 3, 1) := by decide +kernel
theorem d_PathCheck_isRevoked_21 : decode b_PathCheck_isRevoked 21 = .ok (.iload 6, 2) := by decide +kernel
theorem d_PathCheck_isRevoked_23 : decode b_PathCheck_isRevoked 23 = .ok (.invokevirtual 36, 3) := by decide +kernel
theorem d_PathCheck_isRevoked_26 : decode b_PathCheck_isRevoked 26 = .ok (.checkcast 80, 3) := by decide +kernel
theorem d_PathCheck_isRevoked_29 : decode b_PathCheck_isRevoked 29 = .ok (.astore 7, 2) := by decide +kernel
theorem d_PathCheck_isRevoked_31 : decode b_PathCheck_isRevoked 31 = .ok (.aload 7, 2) := by decide +kernel
theorem d_PathCheck_isRevoked_33 : decode b_PathCheck_isRevoked 33 = .ok (.aload_n 0, 1) := by decide +kernel
theorem d_PathCheck_isRevoked_34 : decode b_PathCheck_isRevoked 34 = .ok (.getfield 15, 3) := by decide +kernel
theorem d_PathCheck_isRevoked_37 : decode b_PathCheck_isRevoked 37 = .ok (.invokevirtual 82, 3) := by decide +kernel
theorem d_PathCheck_isRevoked_40 : decode b_PathCheck_isRevoked 40 = .ok (.ifCond .eq 24, 3) := by decide +kernel
theorem d_PathCheck_isRevoked_43 : decode b_PathCheck_isRevoked 43 = .ok (.aload 7, 2) := by decide +kernel
theorem d_PathCheck_isRevoked_45 : decode b_PathCheck_isRevoked 45 = .ok (.getfield 83, 3) := by decide +kernel
theorem d_PathCheck_isRevoked_48 : decode b_PathCheck_isRevoked 48 = .ok (.ifCond .ne 16, 3) := by decide +kernel
theorem d_PathCheck_isRevoked_51 : decode b_PathCheck_isRevoked 51 = .ok (.aload_n 2, 1) := by decide +kernel
theorem d_PathCheck_isRevoked_52 : decode b_PathCheck_isRevoked 52 = .ok (.bipush 6, 2) := by decide +kernel
theorem d_PathCheck_isRevoked_54 : decode b_PathCheck_isRevoked 54 = .ok (.invokevirtual 76, 3) := by decide +kernel
theorem d_PathCheck_isRevoked_57 : decode b_PathCheck_isRevoked 57 = .ok (.ifCond .eq 7, 3) := by decide +kernel
theorem d_PathCheck_isRevoked_60 : decode b_PathCheck_isRevoked 60 = .ok (.iconst 1, 1) := by decide +kernel
theorem d_PathCheck_isRevoked_61 : decode b_PathCheck_isRevoked 61 = .ok (.goto 4, 3) := by decide +kernel
theorem d_PathCheck_isRevoked_64 : decode b_PathCheck_isRevoked 64 = .ok (.iconst 0, 1) := by decide +kernel
theorem d_PathCheck_isRevoked_65 : decode b_PathCheck_isRevoked 65 = .ok (.istore 8, 2) := by decide +kernel
theorem d_PathCheck_isRevoked_67 : decode b_PathCheck_isRevoked 67 = .ok (.iload 8, 2) := by decide +kernel
theorem d_PathCheck_isRevoked_69 : decode b_PathCheck_isRevoked 69 = .ok (.ifCond .eq 58, 3) := by decide +kernel
theorem d_PathCheck_isRevoked_72 : decode b_PathCheck_isRevoked 72 = .ok (.aload 7, 2) := by decide +kernel
theorem d_PathCheck_isRevoked_74 : decode b_PathCheck_isRevoked 74 = .ok (.getfield 84, 3) := by decide +kernel
theorem d_PathCheck_isRevoked_77 : decode b_PathCheck_isRevoked 77 = .ok (.aload_n 1, 1) := by decide +kernel
theorem d_PathCheck_isRevoked_78 : decode b_PathCheck_isRevoked 78 = .ok (.getfield 88, 3) := by decide +kernel
theorem d_PathCheck_isRevoked_81 : decode b_PathCheck_isRevoked 81 = .ok (.invokevirtual 89, 3) := by decide +kernel
theorem d_PathCheck_isRevoked_84 : decode b_PathCheck_isRevoked 84 = .ok (.ifCond .eq 43, 3) := by decide +kernel
theorem d_PathCheck_isRevoked_87 : decode b_PathCheck_isRevoked 87 = .ok (.aload 4, 2) := by decide +kernel
theorem d_PathCheck_isRevoked_89 : decode b_PathCheck_isRevoked 89 = .ok (.aload 7, 2) := by decide +kernel
theorem d_PathCheck_isRevoked_91 : decode b_PathCheck_isRevoked 91 = .ok (.aload_n 2, 1) := by decide +kernel
theorem d_PathCheck_isRevoked_92 : decode b_PathCheck_isRevoked 92 = .ok (.invokevirtual 42, 3) := by decide +kernel
theorem d_PathCheck_isRevoked_95 : decode b_PathCheck_isRevoked 95 = .ok (.ifCond .eq 32, 3) := by decide +kernel
theorem d_PathCheck_isRevoked_98 : decode b_PathCheck_isRevoked 98 = .ok (.aload_n 0, 1) := by decide +kernel
theorem d_PathCheck_isRevoked_99 : decode b_PathCheck_isRevoked 99 = .ok (.iconst 1, 1) := by decide +kernel
theorem d_PathCheck_isRevoked_100 : decode b_PathCheck_isRevoked 100 = .ok (.putfield 23, 3) := by decide +kernel
theorem d_PathCheck_isRevoked_103 : decode b_PathCheck_isRevoked 103 = .ok (.iload 5, 2) := by decide +kernel
theorem d_PathCheck_isRevoked_105 : decode b_PathCheck_isRevoked 105 = .ok (.ifCond .ne 15, 3) := by decide +kernel
theorem d_PathCheck_isRevoked_108 : decode b_PathCheck_isRevoked 108 = .ok (.aload 7, 2) := by decide +kernel
theorem d_PathCheck_isRevoked_110 : decode b_PathCheck_isRevoked 110 = .ok (.aload_n 1, 1) := by decide +kernel
theorem d_PathCheck_isRevoked_111 : decode b_PathCheck_isRevoked 111 = .ok (.getfield 95, 3) := by decide +kernel
theorem d_PathCheck_isRevoked_114 : decode b_PathCheck_isRevoked 114 = .ok (.invokevirtual 98, 3) := by decide +kernel
theorem d_PathCheck_isRevoked_117 : decode b_PathCheck_isRevoked 117 = .ok (.ifCond .eq 7, 3) := by decide +kernel
theorem d_PathCheck_isRevoked_120 : decode b_PathCheck_isRevoked 120 = .ok (.iconst 1, 1) := by decide +kernel
theorem d_PathCheck_isRevoked_121 : decode b_PathCheck_isRevoked 121 = .ok (.goto 4, 3) := by decide +kernel
theorem d_PathCheck_isRevoked_124 : decode b_PathCheck_isRevoked 124 = .ok (.iconst 0, 1) := by decide +kernel
theorem d_PathCheck_isRevoked_125 : decode b_PathCheck_isRevoked 125 = .ok (.istore 5, 2) := by decide +kernel
theorem d_PathCheck_isRevoked_127 : decode b_PathCheck_isRevoked 127 = .ok (.iinc 6 1, 3) := by decide +kernel
theorem d_PathCheck_isRevoked_130 : decode b_PathCheck_isRevoked 130 = .ok (.goto (-119), 3) := by decide +kernel
theorem d_PathCheck_isRevoked_133 : decode b_PathCheck_isRevoked 133 = .ok (.iload 5, 2) := by decide +kernel
theorem d_PathCheck_isRevoked_135 : decode b_PathCheck_isRevoked 135 = .ok (.ireturn, 1) := by decide +kernel
set_option maxHeartbeats 4000000 in
set_option maxRecDepth 100000 in
theorem m_PathCheck_isRevoked (l : Launch) (dC : Nat → ClassId) (dI : Nat → Nat → Nat) (sb : sB) (γ : cG) (κ : kE) (Ad : List Nat) (ν : Nat → cN) (ω : Nat → List Nat) (L : Nat) (G : va_W) (h c8 c9 qs r9 : Nat) (K1 l1 K2 l2 : Nat) (sz : Nat) (hTy : TY γ κ Ad ν ω L G) (kh : tK κ Ad h (12, 0, 0)) (kc8 : tK κ Ad c8 (8, K1, l1)) (kc9 : tK κ Ad c9 (8, K2, l2)) (kqs : tK κ Ad qs (17, (sb.2 5), 0)) (kr9 : tK κ Ad r9 (10, 0, 0)) (hL : L ≤ 64) (h1 : ∀ a, a ∈ Ad → (κ a).1 = 10 → a = r9) (hX : XC κ Ad ν ω) (hY : YC κ Ad ν ω) : Met l y_PathCheck_isRevoked w_PathCheck_isRevoked ({ frames := 4, cells := 0, slots := 0, locals := 109 }) (mu_P [.ref h, .ref c8, .ref c9, .ref qs, .ref r9] (dC, dI) sb G [(γ.1, .byte), (γ.2.1, .int), (γ.2.2.1, .long), (γ.2.2.2, .object "java/lang/Object")] sz) (va_Qi (fun r (G' : va_W) => ∃ ν' : Nat → cN, (∀ b, b ≠ h → ν' b = ν b) ∧ (ν' h = mkP (ν h) (ν h).1 (ν h).2.1 (zP (knoQ (cO κ ν ω) (fun l9 => qO κ ν ω ((ω qs).getD l9 0)) (ω qs).length (fun l9 s9 => SGX κ ν ω ((ω qs).getD l9 0) s9) (ν h).2.2.2.2.2.2.2.2.2.1 c8 c9)) (ν h).2.2.2.2.2.2.2.2.2.1) ∧ (∃ L' : Nat, L' ≤ 64 ∧ TY γ κ Ad ν' ω L' G') ∧ FR Ad G G' ∧ (r = zP (revQ (cO κ ν ω) (fun l9 => qO κ ν ω ((ω qs).getD l9 0)) (ω qs).length (fun l9 s9 => SGX κ ν ω ((ω qs).getD l9 0) s9) (ν h).2.2.2.2.2.2.2.2.2.1 c8 c9))) (mu_B (dC, dI) [(γ.1, .byte), (γ.2.1, .int), (γ.2.2.1, .long), (γ.2.2.2, .object "java/lang/Object")] (va_A G sz) (fun G' : va_W => G')) (va_A G sz)) 0 0 (va_A G sz) := by
  refine Met.ofW (cc := b_PathCheck_isRevoked) (maxL := 9) (ret := (some FieldType.boolean)) (by decide) rfl ?_
  intro p e s m args below meth c s₁ B hml hv
  obtain ⟨rfl, hsz, hB0, hP, hK, hD0, hN, hT0⟩ := hv
  have hx := B.exec
  have hb := B.bytes
  have hr := B.returns
  have hts := atoms_spec (ws := w_PathCheck_isRevoked) B.pre
  have tbin : ∀ w ∈ tb, w ∈ w_PathCheck_isRevoked := fun w h => List.mem_cons_of_mem _ h
  have htb : ∀ w ∈ tb, w.before _ s = true := fun w h => hts w (tbin w h)
  have hown : s.vm.findClass "TrustChain$PathCheck" = some m.cls := findClass_of_methodNamed B.named
  have hlocks := B.notSynchronized
  subst hsz
  have hD := hD0.self (sz := s.heap.size)
  generalize hAe : va_A G s.heap.size = A at hD ⊢
  have hA : ∀ q : Nat, s.heap.size ≤ q → A q := fun q h => by rw [← hAe]; exact Or.inr h
  have hAs : ∀ q : Nat, A q → sb.1 ≤ q := fun q h => by
    rw [← hAe] at h
    rcases h with ⟨k, e, h⟩ | h
    · exact hD0.2 k _ h
    · exact Nat.le_trans hB0 h
  have hS : va_S A s.heap s.heap [] := va_S.rf
  have hFR := FR.rf Ad G
  have hcs : 0 ≤ (headSpec w_PathCheck_isRevoked ({ frames := 4, cells := 0, slots := 0, locals := 109 })).room.cells ∧ 0 ≤ (headSpec w_PathCheck_isRevoked ({ frames := 4, cells := 0, slots := 0, locals := 109 })).room.slots := ⟨Nat.le_refl _, Nat.le_refl _⟩
  have hP : va_P (dC, dI) classes G s.heap := hP
  have hl := lv_entry ([.ref h, .ref c8, .ref c9, .ref qs, .ref r9]) (n := 9) (Nat.le_of_ble_eq_true rfl)
  rw [lg_entry_eq]
  generalize (lg_sl ([.ref h, .ref c8, .ref c9, .ref qs, .ref r9]) ++ List.replicate (9 - (lg_sl ([.ref h, .ref c8, .ref c9, .ref qs, .ref r9])).length) Slot.unset).toArray = ls at hl ⊢
  have hl : lv_has ls 9 [(0, .ref h), (1, .ref c8), (2, .ref c9), (3, .ref qs), (4, .ref r9)] := hl
  have hTy0 := hTy
  have hTk : (κ h).1 = 12 ∨ (κ h).1 = 13 := Or.inl (by rw [kh.2])
  refine lv_aload_n hx hb d_PathCheck_isRevoked_0 rfl (lv_at hl 0 rfl) ?_
  refine lv_iconst (v := 0) hx hb d_PathCheck_isRevoked_1 (by decide) ?_
  obtain ⟨i_1, hg_1⟩ := ty_12 hTy kh
  have hg_1 : G[i_1]? = some (h, .inr (9, [.int ((ν h).1), .long ((ν h).2.2.2.2.2.2.2.2.2.1), .int ((ν h).2.1), .int ((ν h).2.2.1)])) := hg_1
  refine va_put (v := .int 0) (ty := .boolean) hx hb htb i_PathCheck t_PathCheck t_PathCheck_ok n_PathCheck hown hK hP hD hS i_1 hg_1 rfl 3 (by decide) (htb _ q1_146) (fun _ h9 => h9) rfl (by decide +kernel) rfl rfl (Nat.le_of_ble_eq_true rfl) d_PathCheck_isRevoked_2 (fun H2 locs hP hD2 hS => ?_)
  have hP : va_P (dC, dI) classes (G.set i_1 (h, .inr (9, [.int ((ν h).1), .long ((ν h).2.2.2.2.2.2.2.2.2.1), .int ((ν h).2.1), .int 0]))) H2 := hP
  have hD3 : va_D A (G.set i_1 (h, .inr (9, [.int ((ν h).1), .long ((ν h).2.2.2.2.2.2.2.2.2.1), .int ((ν h).2.1), .int 0]))) := hD2
  obtain ⟨ν2_2, hν2_2, eν2_2⟩ : ∃ z : Nat → cN, (∀ b, b ≠ h → z b = ν b) ∧ z h = mkP (ν h) ((ν h).1) ((ν h).2.1) (0 : Int32) ((ν h).2.2.2.2.2.2.2.2.2.1) := ⟨nuR0 ν h (mkP (ν h) ((ν h).1) ((ν h).2.1) (0 : Int32) ((ν h).2.2.2.2.2.2.2.2.2.1)), fun b hb => if_neg hb, if_pos rfl⟩
  have hFR := hFR.tr (FR.set (c' := .inr (9, [.int ((ν h).1), .long ((ν h).2.2.2.2.2.2.2.2.2.1), .int ((ν h).2.1), .int 0])) hg_1 kh.1)
  have hTy := q_setnu (ν' := ν2_2) (c' := .inr (9, [.int ((ν h).1), .long ((ν h).2.2.2.2.2.2.2.2.2.1), .int ((ν h).2.1), .int 0])) hTy hD hg_1 hν2_2 (ok_12 kh (by rw [eν2_2]; rfl) (by rw [eν2_2]; rfl) (by rw [eν2_2]; rfl) (by rw [eν2_2]; rfl))
  have hD := hD3
  have hNν2_2 : ∀ b, b ≠ h → ν2_2 b = ν b := fun b hb => hν2_2 b hb
  clear hD3 hD2
  generalize G.set i_1 (h, .inr (9, [.int ((ν h).1), .long ((ν h).2.2.2.2.2.2.2.2.2.1), .int ((ν h).2.1), .int 0])) = G_2 at hP hD hTy hFR 
  refine lv_iconst (v := 0) hx hb d_PathCheck_isRevoked_5 (by decide) ?_
  refine lv_istore (lv' := [(5, .int 0), (0, .ref h), (1, .ref c8), (2, .ref c9), (3, .ref qs), (4, .ref r9)]) hx hb d_PathCheck_isRevoked_6 hl (by decide) rfl (fun ls hl => ?_)
  refine lv_iconst (v := 0) hx hb d_PathCheck_isRevoked_8 (by decide) ?_
  refine lv_istore (lv' := [(6, .int 0), (5, .int 0), (0, .ref h), (1, .ref c8), (2, .ref c9), (3, .ref qs), (4, .ref r9)]) hx hb d_PathCheck_isRevoked_9 hl (by decide) rfl (fun ls hl => ?_)
  have e5 : (0 : Int32) = zP (∃ l8, l8 < 0 ∧ couQ (cO κ ν ω) (fun l9 => qO κ ν ω ((ω qs).getD l9 0)) (fun l9 s9 => SGX κ ν ω ((ω qs).getD l9 0) s9) (ν h).2.2.2.2.2.2.2.2.2.1 c8 c9 l8 ∧ ((cO κ ν ω) c8).se ∈ ((fun l9 => qO κ ν ω ((ω qs).getD l9 0)) l8).en) := zP_f (fun ⟨_, h9, _⟩ => absurd h9 (Nat.not_lt_zero _))
  have e6 : (0 : Int32) = zP (∃ l8, l8 < 0 ∧ couQ (cO κ ν ω) (fun l9 => qO κ ν ω ((ω qs).getD l9 0)) (fun l9 s9 => SGX κ ν ω ((ω qs).getD l9 0) s9) (ν h).2.2.2.2.2.2.2.2.2.1 c8 c9 l8) := zP_f (fun ⟨_, h9, _⟩ => absurd h9 (Nat.not_lt_zero _))
  have hl : lv_has ls 9 [(6, .int (nI 0)), (5, .int (zP (∃ l8, l8 < 0 ∧ couQ (cO κ ν ω) (fun l9 => qO κ ν ω ((ω qs).getD l9 0)) (fun l9 s9 => SGX κ ν ω ((ω qs).getD l9 0) s9) (ν h).2.2.2.2.2.2.2.2.2.1 c8 c9 l8 ∧ ((cO κ ν ω) c8).se ∈ ((fun l9 => qO κ ν ω ((ω qs).getD l9 0)) l8).en))), (0, .ref h), (1, .ref c8), (2, .ref c9), (3, .ref qs), (4, .ref r9)] := by rw [← e5]; exact hl
  refine w_loopW (α := Nat × va_W) (fun a9 => a9.1 ≤ (ω qs).length ∧ (∃ ν' : Nat → cN, (∀ b, b ≠ h → ν' b = ν b) ∧ ν' h = mkP (ν h) (ν h).1 (ν h).2.1 (zP (∃ l8, l8 < a9.1 ∧ couQ (cO κ ν ω) (fun l9 => qO κ ν ω ((ω qs).getD l9 0)) (fun l9 s9 => SGX κ ν ω ((ω qs).getD l9 0) s9) (ν h).2.2.2.2.2.2.2.2.2.1 c8 c9 l8)) (ν h).2.2.2.2.2.2.2.2.2.1 ∧ ∃ L' : Nat, L' ≤ 64 ∧ TY γ κ Ad ν' ω L' a9.2) ∧ FR Ad G a9.2) (fun a9 => (ω qs).length - a9.1) (fun a9 => [(6, .int (nI a9.1)), (5, .int (zP (∃ l8, l8 < a9.1 ∧ couQ (cO κ ν ω) (fun l9 => qO κ ν ω ((ω qs).getD l9 0)) (fun l9 s9 => SGX κ ν ω ((ω qs).getD l9 0) s9) (ν h).2.2.2.2.2.2.2.2.2.1 c8 c9 l8 ∧ ((cO κ ν ω) c8).se ∈ ((fun l9 => qO κ ν ω ((ω qs).getD l9 0)) l8).en))), (0, .ref h), (1, .ref c8), (2, .ref c9), (3, .ref qs), (4, .ref r9)]) (fun _ => []) (fun a9 => a9.2) 9 11 (fun a9 HL11 locs ls hJ hP hD hS hl ih11 => ?_) (0, G_2) _ _ ls ⟨Nat.zero_le _, ⟨ν2_2, hNν2_2, by rw [eν2_2, e6], _, hL, hTy⟩, hFR⟩ hP hD hS (lv_sub hl [0, 1, 2, 3, 4, 5, 6] rfl)
  obtain ⟨z11, G11⟩ := a9
  obtain ⟨hz11, ⟨ν11, hν11, eν11, L11, hL11, hTy⟩, hFR⟩ := hJ
  dsimp only at hz11 eν11 hTy hFR hP hD hl ih11
  refine lv_iload hx hb d_PathCheck_isRevoked_11 (lv_at hl 0 rfl) ?_
  refine lv_aload_n hx hb d_PathCheck_isRevoked_13 rfl (lv_at hl 5 rfl) ?_
  obtain ⟨i_3, q_3, m_3, hK_3, he_3, hg_3⟩ := ty_17 hTy kqs
  refine vp_callSi (pu_callV (As := []) (rest := [.int (nI z11)]) ⟨hx, hb, hml, hown, hts⟩ tbin (c_AL_size l dC dI sb qs q_3 ((ω qs).length) m_3) q6_46 q2_54 q2_55 q1_4 q2_56 (n := 0) (by decide +kernel) rfl ⟨rfl, rfl⟩ ⟨Nat.le_of_ble_eq_true rfl, Nat.le_of_ble_eq_true rfl⟩ ⟨Nat.le_of_ble_eq_true rfl, Nat.le_of_ble_eq_true rfl⟩ hN (hT0.keep hS hAs) hK hP [i_3] (by simp only [List.filterMap_cons, List.filterMap_nil, hg_3]) [] rfl i_3 11 hg_3 rfl rfl hl.1 rfl (Nat.le_of_ble_eq_true rfl) d_PathCheck_isRevoked_14) (fun r14 hr14 => ?_)
  subst hr14
  refine lv_icmp_ge (tgt := 133) hx hb d_PathCheck_isRevoked_17 (by decide) (fun c17 => ?_) (fun c17 => ?_)
  · have p17 : ((ω qs).length) ≤ z11 := ((nI_leI (a := ((ω qs).length)) (b := z11) (by omega) (by omega)).mp c17)
    refine lv_iload hx hb d_PathCheck_isRevoked_133 (lv_at hl 1 rfl) ?_
    have ez11 : z11 = (ω qs).length := by omega
    rw [ez11] at eν11
    exact W.zret (v := zP (∃ l8, l8 < z11 ∧ couQ (cO κ ν ω) (fun l9 => qO κ ν ω ((ω qs).getD l9 0)) (fun l9 s9 => SGX κ ν ω ((ω qs).getD l9 0) s9) (ν h).2.2.2.2.2.2.2.2.2.1 c8 c9 l8 ∧ ((cO κ ν ω) c8).se ∈ ((fun l9 => qO κ ν ω ((ω qs).getD l9 0)) l8).en)) hx hb hr (zP_n _) (fun t ht hW => ⟨⟨_, G11, rfl, ⟨ν11, hν11, eν11, ⟨_, hL11, hTy⟩, hFR, by rw [ez11]; rfl⟩, by rw [ht]; exact hP, va_K.moved hW.alike hK, hD⟩, hS.F ht⟩) hS.2.2 d_PathCheck_isRevoked_135
  · have p17 : ¬ (((ω qs).length) ≤ z11) := (fun q9 => c17 ((nI_leI (a := ((ω qs).length)) (b := z11) (by omega) (by omega)).mpr q9))
    refine lv_aload_n hx hb d_PathCheck_isRevoked_20 rfl (lv_at hl 5 rfl) ?_
    refine lv_iload hx hb d_PathCheck_isRevoked_21 (lv_at hl 0 rfl) ?_
    obtain ⟨cap_4, kq_4⟩ := he_3 (by omega)
    obtain ⟨i_5, f_5, hK_5, hc_5, he_5, hg_5⟩ := ty_16 hTy kq_4
    obtain ⟨hf_4, p_4, ks_4⟩ := he_5 z11 (by omega)
    refine va_csr (pu_callV (As := [.int (nI z11)]) (rest := []) ⟨hx, hb, hml, hown, hts⟩ tbin (c_AL_get l dC dI sb qs q_3 ((ω qs).length) cap_4 z11 ((ω qs).getD z11 0) m_3 γ.2.2.2 f_5 (by omega) hK_5 (by omega) hf_4) q6_51 q4_210 q4_211 q1_4 q4_212 (n := 1) (by decide +kernel) rfl ⟨rfl, rfl⟩ ⟨Nat.le_of_ble_eq_true rfl, Nat.le_of_ble_eq_true rfl⟩ ⟨Nat.le_of_ble_eq_true rfl, Nat.le_of_ble_eq_true rfl⟩ hN (hT0.keep hS hAs) hK hP [i_3, i_5] (by simp only [List.filterMap_cons, List.filterMap_nil, hg_3, hg_5]) [3] rfl i_3 11 hg_3 rfl rfl hl.1 rfl (Nat.le_of_ble_eq_true rfl) d_PathCheck_isRevoked_23) (fun r23 hr23 => ?_)
    obtain rfl := Eq.symm hr23
    obtain ⟨i_6, bo_6, ⟨kha_6, ksi_6, ken_6, ksg_6, kis_6⟩, kbo_6, hg_6⟩ := ty_9x hTy ks_4
    have ksg_6 := tK.two ksg_6
    have kis_6 := tK.two kis_6
    rw [show ν11 ((ω qs).getD z11 0) = ν ((ω qs).getD z11 0) from hν11 _ (q_nek ks_4 kh (by simp))] at hg_6
    refine va_castY (C := "TrustChain$Paper") hx hb hown (htb _ q6_64) (hN.1 _ qn9_225) (va_recv (ci := 2) hK hP rfl hg_6) d_PathCheck_isRevoked_26 ?_
    refine lv_astore (lv' := [(7, .ref ((ω qs).getD z11 0)), (6, .int (nI z11)), (5, .int (zP (∃ l8, l8 < z11 ∧ couQ (cO κ ν ω) (fun l9 => qO κ ν ω ((ω qs).getD l9 0)) (fun l9 s9 => SGX κ ν ω ((ω qs).getD l9 0) s9) (ν h).2.2.2.2.2.2.2.2.2.1 c8 c9 l8 ∧ ((cO κ ν ω) c8).se ∈ ((fun l9 => qO κ ν ω ((ω qs).getD l9 0)) l8).en))), (0, .ref h), (1, .ref c8), (2, .ref c9), (3, .ref qs), (4, .ref r9)]) hx hb d_PathCheck_isRevoked_29 hl (by decide) rfl (fun ls hl => ?_)
    refine lv_aload hx hb d_PathCheck_isRevoked_31 (lv_at hl 0 rfl) ?_
    refine lv_aload_n hx hb d_PathCheck_isRevoked_33 rfl (lv_at hl 3 rfl) ?_
    obtain ⟨i_7, hg_7⟩ := ty_12 hTy kh
    rw [eν11] at hg_7
    have hg_7 : G11[i_7]? = some (h, .inr (9, [.int ((ν h).1), .long ((ν h).2.2.2.2.2.2.2.2.2.1), .int ((ν h).2.1), .int (zP (∃ l8, l8 < z11 ∧ couQ (cO κ ν ω) (fun l9 => qO κ ν ω ((ω qs).getD l9 0)) (fun l9 s9 => SGX κ ν ω ((ω qs).getD l9 0) s9) (ν h).2.2.2.2.2.2.2.2.2.1 c8 c9 l8))])) := hg_7
    refine va_get (v := .long ((ν h).2.2.2.2.2.2.2.2.2.1)) hx hb htb i_PathCheck hown hK hP i_7 hg_7 rfl 1 (by decide) (htb _ q1_144) (fun _ h9 => h9) rfl d_PathCheck_isRevoked_34 ?_
    refine vp_callSi (pu_callV (As := [.long ((ν h).2.2.2.2.2.2.2.2.2.1)]) (rest := []) ⟨hx, hb, hml, hown, hts⟩ tbin (p_isAtP l dC dI sb γ κ Ad ν11 ω L11 G11 ((ω qs).getD z11 0) _ _ hTy ks_4 ) q6_65 q6_58 q9_221 q1_20 q6_59 (n := 1) (by decide +kernel) rfl ⟨rfl, rfl⟩ ⟨Nat.le_of_ble_eq_true rfl, Nat.le_of_ble_eq_true rfl⟩ ⟨Nat.le_of_ble_eq_true rfl, Nat.le_of_ble_eq_true rfl⟩ hN (hT0.keep hS hAs) hK hP (List.range G11.length) (rg_all G11) [0, 1, 2, 3] rfl i_6 2 hg_6 rfl rfl hl.1 rfl (Nat.le_of_ble_eq_true rfl) d_PathCheck_isRevoked_37) (fun r37 hr37 => ?_)
    obtain rfl : r37 = zP (¬ ((ν h).2.2.2.2.2.2.2.2.2.1) < (ν ((ω qs).getD z11 0)).2.2.2.2.2.2.2.2.2.1 ∧ ¬ (ν ((ω qs).getD z11 0)).2.2.2.2.2.2.2.2.2.2.1 < ((ν h).2.2.2.2.2.2.2.2.2.1)) := by rw [hr37, show ν11 ((ω qs).getD z11 0) = ν ((ω qs).getD z11 0) from (hν11 _ (q_nek ks_4 kh (by simp)))]
    refine w_join (J := fun v9 => v9 = zP ((¬ ((ν h).2.2.2.2.2.2.2.2.2.1) < (ν ((ω qs).getD z11 0)).2.2.2.2.2.2.2.2.2.1 ∧ ¬ (ν ((ω qs).getD z11 0)).2.2.2.2.2.2.2.2.2.2.1 < ((ν h).2.2.2.2.2.2.2.2.2.1)) ∧ ((((ν ((ω qs).getD z11 0)).2.2.2.2.2.2.2.2.2.2.2.1) = (0 : Int32)) ∧ (useQ (ν c9).2.2.2.2.2.1 6)))) (pc := 65) (ls := ls) (rest := []) (fun v9 hv9 => ?_) (fun k65 => ?_)
    · subst hv9
      refine lv_istore (lv' := [(8, .int (zP ((¬ ((ν h).2.2.2.2.2.2.2.2.2.1) < (ν ((ω qs).getD z11 0)).2.2.2.2.2.2.2.2.2.1 ∧ ¬ (ν ((ω qs).getD z11 0)).2.2.2.2.2.2.2.2.2.2.1 < ((ν h).2.2.2.2.2.2.2.2.2.1)) ∧ ((((ν ((ω qs).getD z11 0)).2.2.2.2.2.2.2.2.2.2.2.1) = (0 : Int32)) ∧ (useQ (ν c9).2.2.2.2.2.1 6))))), (7, .ref ((ω qs).getD z11 0)), (6, .int (nI z11)), (5, .int (zP (∃ l8, l8 < z11 ∧ couQ (cO κ ν ω) (fun l9 => qO κ ν ω ((ω qs).getD l9 0)) (fun l9 s9 => SGX κ ν ω ((ω qs).getD l9 0) s9) (ν h).2.2.2.2.2.2.2.2.2.1 c8 c9 l8 ∧ ((cO κ ν ω) c8).se ∈ ((fun l9 => qO κ ν ω ((ω qs).getD l9 0)) l8).en))), (0, .ref h), (1, .ref c8), (2, .ref c9), (3, .ref qs), (4, .ref r9)]) hx hb d_PathCheck_isRevoked_65 hl (by decide) rfl (fun ls hl => ?_)
      refine lv_iload hx hb d_PathCheck_isRevoked_67 (lv_at hl 0 rfl) ?_
      refine lv_if_eq (tgt := 127) hx hb d_PathCheck_isRevoked_69 (by decide) (fun c69 => ?_) (fun c69 => ?_)
      · have p69 : ¬ ((¬ ((ν h).2.2.2.2.2.2.2.2.2.1) < (ν ((ω qs).getD z11 0)).2.2.2.2.2.2.2.2.2.1 ∧ ¬ (ν ((ω qs).getD z11 0)).2.2.2.2.2.2.2.2.2.2.1 < ((ν h).2.2.2.2.2.2.2.2.2.1)) ∧ ((((ν ((ω qs).getD z11 0)).2.2.2.2.2.2.2.2.2.2.2.1) = (0 : Int32)) ∧ (useQ (ν c9).2.2.2.2.2.1 6))) := (zP_0.mp c69)
        refine lv_iinc (v := nI (z11 + 1)) (lv' := [(6, .int (nI (z11 + 1))), (8, .int (zP ((¬ ((ν h).2.2.2.2.2.2.2.2.2.1) < (ν ((ω qs).getD z11 0)).2.2.2.2.2.2.2.2.2.1 ∧ ¬ (ν ((ω qs).getD z11 0)).2.2.2.2.2.2.2.2.2.2.1 < ((ν h).2.2.2.2.2.2.2.2.2.1)) ∧ ((((ν ((ω qs).getD z11 0)).2.2.2.2.2.2.2.2.2.2.2.1) = (0 : Int32)) ∧ (useQ (ν c9).2.2.2.2.2.1 6))))), (7, .ref ((ω qs).getD z11 0)), (5, .int (zP (∃ l8, l8 < z11 ∧ couQ (cO κ ν ω) (fun l9 => qO κ ν ω ((ω qs).getD l9 0)) (fun l9 s9 => SGX κ ν ω ((ω qs).getD l9 0) s9) (ν h).2.2.2.2.2.2.2.2.2.1 c8 c9 l8 ∧ ((cO κ ν ω) c8).se ∈ ((fun l9 => qO κ ν ω ((ω qs).getD l9 0)) l8).en))), (0, .ref h), (1, .ref c8), (2, .ref c9), (3, .ref qs), (4, .ref r9)]) hx hb d_PathCheck_isRevoked_127 hl (k := 2) rfl (nI_1 _) (by decide) rfl (fun ls hl => ?_)
        refine lv_goto (tgt := 11) hx hb d_PathCheck_isRevoked_130 (by decide) ?_
        have hcn : ¬ couQ (cO κ ν ω) (fun l9 => qO κ ν ω ((ω qs).getD l9 0)) (fun l9 s9 => SGX κ ν ω ((ω qs).getD l9 0) s9) (ν h).2.2.2.2.2.2.2.2.2.1 c8 c9 z11 := fun h9 => p69 (cou_e h9).1
        have e5 : zP (∃ l8, l8 < z11 ∧ couQ (cO κ ν ω) (fun l9 => qO κ ν ω ((ω qs).getD l9 0)) (fun l9 s9 => SGX κ ν ω ((ω qs).getD l9 0) s9) (ν h).2.2.2.2.2.2.2.2.2.1 c8 c9 l8 ∧ ((cO κ ν ω) c8).se ∈ ((fun l9 => qO κ ν ω ((ω qs).getD l9 0)) l8).en) = zP (∃ l8, l8 < (z11 + 1) ∧ couQ (cO κ ν ω) (fun l9 => qO κ ν ω ((ω qs).getD l9 0)) (fun l9 s9 => SGX κ ν ω ((ω qs).getD l9 0) s9) (ν h).2.2.2.2.2.2.2.2.2.1 c8 c9 l8 ∧ ((cO κ ν ω) c8).se ∈ ((fun l9 => qO κ ν ω ((ω qs).getD l9 0)) l8).en) := zP_g (rv_0 hcn)
        have e6 : (zP (∃ l8, l8 < z11 ∧ couQ (cO κ ν ω) (fun l9 => qO κ ν ω ((ω qs).getD l9 0)) (fun l9 s9 => SGX κ ν ω ((ω qs).getD l9 0) s9) (ν h).2.2.2.2.2.2.2.2.2.1 c8 c9 l8) : Int32) = zP (∃ l8, l8 < (z11 + 1) ∧ couQ (cO κ ν ω) (fun l9 => qO κ ν ω ((ω qs).getD l9 0)) (fun l9 s9 => SGX κ ν ω ((ω qs).getD l9 0) s9) (ν h).2.2.2.2.2.2.2.2.2.1 c8 c9 l8) := zP_g (kno_0 hcn)
        have hl : lv_has ls 9 [(6, .int (nI (z11 + 1))), (8, .int (zP ((¬ ((ν h).2.2.2.2.2.2.2.2.2.1) < (ν ((ω qs).getD z11 0)).2.2.2.2.2.2.2.2.2.1 ∧ ¬ (ν ((ω qs).getD z11 0)).2.2.2.2.2.2.2.2.2.2.1 < ((ν h).2.2.2.2.2.2.2.2.2.1)) ∧ ((((ν ((ω qs).getD z11 0)).2.2.2.2.2.2.2.2.2.2.2.1) = (0 : Int32)) ∧ (useQ (ν c9).2.2.2.2.2.1 6))))), (7, .ref ((ω qs).getD z11 0)), (5, .int (zP (∃ l8, l8 < (z11 + 1) ∧ couQ (cO κ ν ω) (fun l9 => qO κ ν ω ((ω qs).getD l9 0)) (fun l9 s9 => SGX κ ν ω ((ω qs).getD l9 0) s9) (ν h).2.2.2.2.2.2.2.2.2.1 c8 c9 l8 ∧ ((cO κ ν ω) c8).se ∈ ((fun l9 => qO κ ν ω ((ω qs).getD l9 0)) l8).en))), (0, .ref h), (1, .ref c8), (2, .ref c9), (3, .ref qs), (4, .ref r9)] := by rw [← e5]; exact hl
        exact ih11 (z11 + 1, G11) _ _ ls (by dsimp only; omega) ⟨by dsimp only; omega, ⟨ν11, hν11, by rw [eν11, e6], _, hL11, hTy⟩, hFR⟩ hP hD hS (lv_sub hl [0, 3, 4, 5, 6, 7, 8] rfl)
      · have p69 : (¬ ((ν h).2.2.2.2.2.2.2.2.2.1) < (ν ((ω qs).getD z11 0)).2.2.2.2.2.2.2.2.2.1 ∧ ¬ (ν ((ω qs).getD z11 0)).2.2.2.2.2.2.2.2.2.2.1 < ((ν h).2.2.2.2.2.2.2.2.2.1)) ∧ ((((ν ((ω qs).getD z11 0)).2.2.2.2.2.2.2.2.2.2.2.1) = (0 : Int32)) ∧ (useQ (ν c9).2.2.2.2.2.1 6)) := (zP_1 c69)
        refine lv_aload hx hb d_PathCheck_isRevoked_72 (lv_at hl 1 rfl) ?_
        refine va_get (v := .ref ((ω ((ω qs).getD z11 0)).getD 5 0)) hx hb htb i_Paper hown hK hP i_6 hg_6 rfl 5 (by decide) (htb _ q2_216) (fun _ h9 => h9) rfl d_PathCheck_isRevoked_74 ?_
        refine lv_aload_n hx hb d_PathCheck_isRevoked_77 rfl (lv_at hl 5 rfl) ?_
        obtain ⟨i_8, bo_8, K_8, B_8, kbo_8, wl_8, hg_8⟩ := ty_8x hTy kc8
        obtain ⟨⟨A_8, knm_8⟩, kpe_8, kec_8, kse_8, ksu_8, kmo_8, kok_8, kik_8, kha_8, ksi_8, ken_8, ksg_8, kis_8⟩ := K_8
        have knm_8 := tK.fiv ⟨_, _, knm_8⟩
        have kpe_8 := tK.fiv kpe_8
        have kec_8 := tK.fiv kec_8
        have ksu_8 := tK.two ksu_8
        have kmo_8 := tK.two kmo_8
        have kok_8 := tK.two kok_8
        have kik_8 := tK.two kik_8
        have ksg_8 := tK.two ksg_8
        have kis_8 := tK.two kis_8
        rw [show ν11 c8 = ν c8 from hν11 _ (q_nek kc8 kh (by simp))] at hg_8 B_8
        refine va_get (v := .ref ((ω c8).getD 11 0)) hx hb htb i_Certificate hown hK hP i_8 hg_8 rfl 24 (by decide) (htb _ q2_217) (fun x9 h9 => u_same (htb _ q2_213) x9 h9) rfl d_PathCheck_isRevoked_78 ?_
        obtain ⟨i_9, t_9, n_9, f_9, kt_9, hb_9, hm_9, hw_9, hg_9⟩ := ty_2x hTy kis_6
        obtain ⟨i_10, u_10, hu_10, hc_10, hn_10, hg_10⟩ := ty_1x hTy kt_9
        obtain ⟨i_11, t_11, n_11, f_11, kt_11, hb_11, hm_11, hw_11, hg_11⟩ := ty_2x hTy kis_8
        obtain ⟨i_12, u_12, hu_12, hc_12, hn_12, hg_12⟩ := ty_1x hTy kt_11
        refine vp_callSi (pu_callV (As := [.ref ((ω c8).getD 11 0)]) (rest := []) ⟨hx, hb, hml, hown, hts⟩ tbin (c_Slice_same l dC dI sb ((ω ((ω qs).getD z11 0)).getD 5 0) ((ω c8).getD 11 0) t_9 t_11 f_9 (f_9 + ((κ ((ω ((ω qs).getD z11 0)).getD 5 0)).2.1)) n_9 f_11 (f_11 + ((κ ((ω c8).getD 11 0)).2.1)) n_11 γ.1 γ.1 u_10 u_12 hu_10 (by omega) (by omega) (by omega) hu_12 (by omega) (by omega) (by omega)) q6_70 q4_27 q4_28 q1_22 q4_29 (n := 1) (by decide +kernel) rfl ⟨rfl, rfl⟩ ⟨Nat.le_of_ble_eq_true rfl, Nat.le_of_ble_eq_true rfl⟩ ⟨Nat.le_of_ble_eq_true rfl, Nat.le_of_ble_eq_true rfl⟩ hN (hT0.keep hS hAs) hK hP [i_9, i_10, i_11, i_12] (by simp only [List.filterMap_cons, List.filterMap_nil, hg_9, hg_10, hg_11, hg_12]) [0, 0] rfl i_9 0 hg_9 rfl rfl hl.1 rfl (Nat.le_of_ble_eq_true rfl) d_PathCheck_isRevoked_81) (fun r81 hr81 => ?_)
        have hr81 := bz_c hr81 (sO_same kis_6 hw_9 hc_10 hb_9 kis_8 hw_11 hc_12 hb_11)
        obtain rfl := Eq.symm (bz_zP hr81)
        refine lv_if_eq (tgt := 127) hx hb d_PathCheck_isRevoked_84 (by decide) (fun c84 => ?_) (fun c84 => ?_)
        · have p84 : ¬ (sO κ ω ((ω ((ω qs).getD z11 0)).getD 5 0) = sO κ ω ((ω c8).getD 11 0)) := (zP_0.mp c84)
          refine lv_iinc (v := nI (z11 + 1)) (lv' := [(6, .int (nI (z11 + 1))), (8, .int (zP ((¬ ((ν h).2.2.2.2.2.2.2.2.2.1) < (ν ((ω qs).getD z11 0)).2.2.2.2.2.2.2.2.2.1 ∧ ¬ (ν ((ω qs).getD z11 0)).2.2.2.2.2.2.2.2.2.2.1 < ((ν h).2.2.2.2.2.2.2.2.2.1)) ∧ ((((ν ((ω qs).getD z11 0)).2.2.2.2.2.2.2.2.2.2.2.1) = (0 : Int32)) ∧ (useQ (ν c9).2.2.2.2.2.1 6))))), (7, .ref ((ω qs).getD z11 0)), (5, .int (zP (∃ l8, l8 < z11 ∧ couQ (cO κ ν ω) (fun l9 => qO κ ν ω ((ω qs).getD l9 0)) (fun l9 s9 => SGX κ ν ω ((ω qs).getD l9 0) s9) (ν h).2.2.2.2.2.2.2.2.2.1 c8 c9 l8 ∧ ((cO κ ν ω) c8).se ∈ ((fun l9 => qO κ ν ω ((ω qs).getD l9 0)) l8).en))), (0, .ref h), (1, .ref c8), (2, .ref c9), (3, .ref qs), (4, .ref r9)]) hx hb d_PathCheck_isRevoked_127 hl (k := 2) rfl (nI_1 _) (by decide) rfl (fun ls hl => ?_)
          refine lv_goto (tgt := 11) hx hb d_PathCheck_isRevoked_130 (by decide) ?_
          have hcn : ¬ couQ (cO κ ν ω) (fun l9 => qO κ ν ω ((ω qs).getD l9 0)) (fun l9 s9 => SGX κ ν ω ((ω qs).getD l9 0) s9) (ν h).2.2.2.2.2.2.2.2.2.1 c8 c9 z11 := fun h9 => p84 (cou_e h9).2.1
          have e5 : zP (∃ l8, l8 < z11 ∧ couQ (cO κ ν ω) (fun l9 => qO κ ν ω ((ω qs).getD l9 0)) (fun l9 s9 => SGX κ ν ω ((ω qs).getD l9 0) s9) (ν h).2.2.2.2.2.2.2.2.2.1 c8 c9 l8 ∧ ((cO κ ν ω) c8).se ∈ ((fun l9 => qO κ ν ω ((ω qs).getD l9 0)) l8).en) = zP (∃ l8, l8 < (z11 + 1) ∧ couQ (cO κ ν ω) (fun l9 => qO κ ν ω ((ω qs).getD l9 0)) (fun l9 s9 => SGX κ ν ω ((ω qs).getD l9 0) s9) (ν h).2.2.2.2.2.2.2.2.2.1 c8 c9 l8 ∧ ((cO κ ν ω) c8).se ∈ ((fun l9 => qO κ ν ω ((ω qs).getD l9 0)) l8).en) := zP_g (rv_0 hcn)
          have e6 : (zP (∃ l8, l8 < z11 ∧ couQ (cO κ ν ω) (fun l9 => qO κ ν ω ((ω qs).getD l9 0)) (fun l9 s9 => SGX κ ν ω ((ω qs).getD l9 0) s9) (ν h).2.2.2.2.2.2.2.2.2.1 c8 c9 l8) : Int32) = zP (∃ l8, l8 < (z11 + 1) ∧ couQ (cO κ ν ω) (fun l9 => qO κ ν ω ((ω qs).getD l9 0)) (fun l9 s9 => SGX κ ν ω ((ω qs).getD l9 0) s9) (ν h).2.2.2.2.2.2.2.2.2.1 c8 c9 l8) := zP_g (kno_0 hcn)
          have hl : lv_has ls 9 [(6, .int (nI (z11 + 1))), (8, .int (zP ((¬ ((ν h).2.2.2.2.2.2.2.2.2.1) < (ν ((ω qs).getD z11 0)).2.2.2.2.2.2.2.2.2.1 ∧ ¬ (ν ((ω qs).getD z11 0)).2.2.2.2.2.2.2.2.2.2.1 < ((ν h).2.2.2.2.2.2.2.2.2.1)) ∧ ((((ν ((ω qs).getD z11 0)).2.2.2.2.2.2.2.2.2.2.2.1) = (0 : Int32)) ∧ (useQ (ν c9).2.2.2.2.2.1 6))))), (7, .ref ((ω qs).getD z11 0)), (5, .int (zP (∃ l8, l8 < (z11 + 1) ∧ couQ (cO κ ν ω) (fun l9 => qO κ ν ω ((ω qs).getD l9 0)) (fun l9 s9 => SGX κ ν ω ((ω qs).getD l9 0) s9) (ν h).2.2.2.2.2.2.2.2.2.1 c8 c9 l8 ∧ ((cO κ ν ω) c8).se ∈ ((fun l9 => qO κ ν ω ((ω qs).getD l9 0)) l8).en))), (0, .ref h), (1, .ref c8), (2, .ref c9), (3, .ref qs), (4, .ref r9)] := by rw [← e5]; exact hl
          exact ih11 (z11 + 1, G11) _ _ ls (by dsimp only; omega) ⟨by dsimp only; omega, ⟨ν11, hν11, by rw [eν11, e6], _, hL11, hTy⟩, hFR⟩ hP hD hS (lv_sub hl [0, 3, 4, 5, 6, 7, 8] rfl)
        · have p84 : sO κ ω ((ω ((ω qs).getD z11 0)).getD 5 0) = sO κ ω ((ω c8).getD 11 0) := (zP_1 c84)
          refine lv_aload hx hb d_PathCheck_isRevoked_87 (lv_at hl 8 rfl) ?_
          refine lv_aload hx hb d_PathCheck_isRevoked_89 (lv_at hl 1 rfl) ?_
          refine lv_aload_n hx hb d_PathCheck_isRevoked_91 rfl (lv_at hl 6 rfl) ?_
          have hFc := va_free (wc := G11) hD hS hA (List.range G11.length) (rg_is _)
          obtain ⟨i_14, mo_14, sq_14, ba_14, po_14, un_14, su_14, iv_14, kmo_14, ksq_14, kba_14, kpo_14, kun_14, ksu_14, hg_14⟩ := ty_10 hTy kr9
          refine va_calli (mu_runV (As := [.ref ((ω qs).getD z11 0), .ref c9]) (rest := []) ⟨hx, hb, hml, hown, hts⟩ tbin (m_isSignedP l dC dI sb γ κ Ad ν11 ω L11 G11 r9 ((ω qs).getD z11 0) c9 _ _ _ HL11.size hTy kr9 ks_4 kc9 hL11 h1 (XC_nu hTy0 hTk hν11 hX)) q6_53 q5_177 q5_178 q1_6 q5_179 (n := 2) (by decide +kernel) rfl ⟨rfl, rfl⟩ ⟨Nat.le_of_ble_eq_true rfl, Nat.le_of_ble_eq_true rfl⟩ ⟨Nat.le_of_ble_eq_true rfl, Nat.le_of_ble_eq_true rfl⟩ hN (hT0.keep hS hAs) hAs (Nat.le_trans hB0 hS.1) hK hP hD (List.range G11.length) (rg_nd _) (rg_is _) [0, 1, 2, 3] rfl i_14 7 hg_14 rfl rfl hl.1 rfl (Nat.le_of_ble_eq_true rfl) d_PathCheck_isRevoked_92) hS (fun q _ h => hFc q h) hFc (fun r92 G_13 tS H92 locs ht hvm hw92 hB hz1 hk1 hS => ?_)
          obtain ⟨⟨L92, hL92, hTy⟩, hF9, hr92⟩ := hw92
          have hFR := hFR.tr hF9
          obtain ⟨hP1, hK1, hD1⟩ := hB
          rw [ht] at hP1
          have hP : va_P (dC, dI) classes G_13 H92 := hP1
          have hD : va_D A G_13 := hD1.weaken (fun _ _ _ h => hFc _ h)
          have hr92 := bz_c hr92 (SGX_nu (hν11 _ (q_nek kha_6 kh (by simp))) (hν11 _ (q_nek kc9 kh (by simp))))
          obtain rfl := Eq.symm (bz_zP hr92)
          refine lv_if_eq (tgt := 127) hx hb d_PathCheck_isRevoked_95 (by decide) (fun c95 => ?_) (fun c95 => ?_)
          · have p95 : ¬ (SGX κ ν ω ((ω qs).getD z11 0) c9) := (zP_0.mp c95)
            refine lv_iinc (v := nI (z11 + 1)) (lv' := [(6, .int (nI (z11 + 1))), (8, .int (zP ((¬ ((ν h).2.2.2.2.2.2.2.2.2.1) < (ν ((ω qs).getD z11 0)).2.2.2.2.2.2.2.2.2.1 ∧ ¬ (ν ((ω qs).getD z11 0)).2.2.2.2.2.2.2.2.2.2.1 < ((ν h).2.2.2.2.2.2.2.2.2.1)) ∧ ((((ν ((ω qs).getD z11 0)).2.2.2.2.2.2.2.2.2.2.2.1) = (0 : Int32)) ∧ (useQ (ν c9).2.2.2.2.2.1 6))))), (7, .ref ((ω qs).getD z11 0)), (5, .int (zP (∃ l8, l8 < z11 ∧ couQ (cO κ ν ω) (fun l9 => qO κ ν ω ((ω qs).getD l9 0)) (fun l9 s9 => SGX κ ν ω ((ω qs).getD l9 0) s9) (ν h).2.2.2.2.2.2.2.2.2.1 c8 c9 l8 ∧ ((cO κ ν ω) c8).se ∈ ((fun l9 => qO κ ν ω ((ω qs).getD l9 0)) l8).en))), (0, .ref h), (1, .ref c8), (2, .ref c9), (3, .ref qs), (4, .ref r9)]) hx hb d_PathCheck_isRevoked_127 hl (k := 2) rfl (nI_1 _) (by decide) rfl (fun ls hl => ?_)
            refine lv_goto (tgt := 11) hx hb d_PathCheck_isRevoked_130 (by decide) ?_
            have hcn : ¬ couQ (cO κ ν ω) (fun l9 => qO κ ν ω ((ω qs).getD l9 0)) (fun l9 s9 => SGX κ ν ω ((ω qs).getD l9 0) s9) (ν h).2.2.2.2.2.2.2.2.2.1 c8 c9 z11 := fun h9 => p95 (cou_e h9).2.2
            have e5 : zP (∃ l8, l8 < z11 ∧ couQ (cO κ ν ω) (fun l9 => qO κ ν ω ((ω qs).getD l9 0)) (fun l9 s9 => SGX κ ν ω ((ω qs).getD l9 0) s9) (ν h).2.2.2.2.2.2.2.2.2.1 c8 c9 l8 ∧ ((cO κ ν ω) c8).se ∈ ((fun l9 => qO κ ν ω ((ω qs).getD l9 0)) l8).en) = zP (∃ l8, l8 < (z11 + 1) ∧ couQ (cO κ ν ω) (fun l9 => qO κ ν ω ((ω qs).getD l9 0)) (fun l9 s9 => SGX κ ν ω ((ω qs).getD l9 0) s9) (ν h).2.2.2.2.2.2.2.2.2.1 c8 c9 l8 ∧ ((cO κ ν ω) c8).se ∈ ((fun l9 => qO κ ν ω ((ω qs).getD l9 0)) l8).en) := zP_g (rv_0 hcn)
            have e6 : (zP (∃ l8, l8 < z11 ∧ couQ (cO κ ν ω) (fun l9 => qO κ ν ω ((ω qs).getD l9 0)) (fun l9 s9 => SGX κ ν ω ((ω qs).getD l9 0) s9) (ν h).2.2.2.2.2.2.2.2.2.1 c8 c9 l8) : Int32) = zP (∃ l8, l8 < (z11 + 1) ∧ couQ (cO κ ν ω) (fun l9 => qO κ ν ω ((ω qs).getD l9 0)) (fun l9 s9 => SGX κ ν ω ((ω qs).getD l9 0) s9) (ν h).2.2.2.2.2.2.2.2.2.1 c8 c9 l8) := zP_g (kno_0 hcn)
            have hl : lv_has ls 9 [(6, .int (nI (z11 + 1))), (8, .int (zP ((¬ ((ν h).2.2.2.2.2.2.2.2.2.1) < (ν ((ω qs).getD z11 0)).2.2.2.2.2.2.2.2.2.1 ∧ ¬ (ν ((ω qs).getD z11 0)).2.2.2.2.2.2.2.2.2.2.1 < ((ν h).2.2.2.2.2.2.2.2.2.1)) ∧ ((((ν ((ω qs).getD z11 0)).2.2.2.2.2.2.2.2.2.2.2.1) = (0 : Int32)) ∧ (useQ (ν c9).2.2.2.2.2.1 6))))), (7, .ref ((ω qs).getD z11 0)), (5, .int (zP (∃ l8, l8 < (z11 + 1) ∧ couQ (cO κ ν ω) (fun l9 => qO κ ν ω ((ω qs).getD l9 0)) (fun l9 s9 => SGX κ ν ω ((ω qs).getD l9 0) s9) (ν h).2.2.2.2.2.2.2.2.2.1 c8 c9 l8 ∧ ((cO κ ν ω) c8).se ∈ ((fun l9 => qO κ ν ω ((ω qs).getD l9 0)) l8).en))), (0, .ref h), (1, .ref c8), (2, .ref c9), (3, .ref qs), (4, .ref r9)] := by rw [← e5]; exact hl
            exact ih11 (z11 + 1, G_13) _ _ ls (by dsimp only; omega) ⟨by dsimp only; omega, ⟨ν11, hν11, by rw [eν11, e6], _, hL92, hTy⟩, hFR⟩ hP hD hS (lv_sub hl [0, 3, 4, 5, 6, 7, 8] rfl)
          · have p95 : SGX κ ν ω ((ω qs).getD z11 0) c9 := (zP_1 c95)
            refine lv_aload_n hx hb d_PathCheck_isRevoked_98 rfl (lv_at hl 4 rfl) ?_
            refine lv_iconst (v := 1) hx hb d_PathCheck_isRevoked_99 (by decide) ?_
            obtain ⟨i_15, hg_15⟩ := ty_12 hTy kh
            rw [eν11] at hg_15
            have hg_15 : G_13[i_15]? = some (h, .inr (9, [.int ((ν h).1), .long ((ν h).2.2.2.2.2.2.2.2.2.1), .int ((ν h).2.1), .int (zP (∃ l8, l8 < z11 ∧ couQ (cO κ ν ω) (fun l9 => qO κ ν ω ((ω qs).getD l9 0)) (fun l9 s9 => SGX κ ν ω ((ω qs).getD l9 0) s9) (ν h).2.2.2.2.2.2.2.2.2.1 c8 c9 l8))])) := hg_15
            refine va_put (v := .int 1) (ty := .boolean) hx hb htb i_PathCheck t_PathCheck t_PathCheck_ok n_PathCheck hown hK hP hD hS i_15 hg_15 rfl 3 (by decide) (htb _ q1_146) (fun _ h9 => h9) rfl (by decide +kernel) rfl rfl (Nat.le_of_ble_eq_true rfl) d_PathCheck_isRevoked_100 (fun H100 locs hP hD2 hS => ?_)
            have hP : va_P (dC, dI) classes (G_13.set i_15 (h, .inr (9, [.int ((ν h).1), .long ((ν h).2.2.2.2.2.2.2.2.2.1), .int ((ν h).2.1), .int 1]))) H100 := hP
            have hD3 : va_D A (G_13.set i_15 (h, .inr (9, [.int ((ν h).1), .long ((ν h).2.2.2.2.2.2.2.2.2.1), .int ((ν h).2.1), .int 1]))) := hD2
            obtain ⟨ν100_16, hν100_16, eν100_16⟩ : ∃ z : Nat → cN, (∀ b, b ≠ h → z b = ν11 b) ∧ z h = mkP (ν h) ((ν h).1) ((ν h).2.1) (1 : Int32) ((ν h).2.2.2.2.2.2.2.2.2.1) := ⟨nuR0 ν11 h (mkP (ν h) ((ν h).1) ((ν h).2.1) (1 : Int32) ((ν h).2.2.2.2.2.2.2.2.2.1)), fun b hb => if_neg hb, if_pos rfl⟩
            have hFR := hFR.tr (FR.set (c' := .inr (9, [.int ((ν h).1), .long ((ν h).2.2.2.2.2.2.2.2.2.1), .int ((ν h).2.1), .int 1])) hg_15 kh.1)
            have hTy := q_setnu (ν' := ν100_16) (c' := .inr (9, [.int ((ν h).1), .long ((ν h).2.2.2.2.2.2.2.2.2.1), .int ((ν h).2.1), .int 1])) hTy hD hg_15 hν100_16 (ok_12 kh (by rw [eν100_16]; rfl) (by rw [eν100_16]; rfl) (by rw [eν100_16]; rfl) (by rw [eν100_16]; rfl))
            have hD := hD3
            have hNν100_16 : ∀ b, b ≠ h → ν100_16 b = ν b := fun b hb => (hν100_16 b hb).trans (hν11 b hb)
            clear hD3 hD2
            generalize G_13.set i_15 (h, .inr (9, [.int ((ν h).1), .long ((ν h).2.2.2.2.2.2.2.2.2.1), .int ((ν h).2.1), .int 1])) = G_16 at hP hD hTy hFR 
            refine lv_iload hx hb d_PathCheck_isRevoked_103 (lv_at hl 3 rfl) ?_
            refine w_join (J := fun v9 => v9 = zP ((∃ l8, l8 < z11 ∧ couQ (cO κ ν ω) (fun l9 => qO κ ν ω ((ω qs).getD l9 0)) (fun l9 s9 => SGX κ ν ω ((ω qs).getD l9 0) s9) (ν h).2.2.2.2.2.2.2.2.2.1 c8 c9 l8 ∧ ((cO κ ν ω) c8).se ∈ ((fun l9 => qO κ ν ω ((ω qs).getD l9 0)) l8).en) ∨ (sO κ ω ((ω c8).getD 7 0) ∈ lO κ ω ((ω ((ω qs).getD z11 0)).getD 4 0)))) (pc := 125) (ls := ls) (rest := []) (fun v9 hv9 => ?_) (fun k125 => ?_)
            · subst hv9
              refine lv_istore (lv' := [(5, .int (zP ((∃ l8, l8 < z11 ∧ couQ (cO κ ν ω) (fun l9 => qO κ ν ω ((ω qs).getD l9 0)) (fun l9 s9 => SGX κ ν ω ((ω qs).getD l9 0) s9) (ν h).2.2.2.2.2.2.2.2.2.1 c8 c9 l8 ∧ ((cO κ ν ω) c8).se ∈ ((fun l9 => qO κ ν ω ((ω qs).getD l9 0)) l8).en) ∨ (sO κ ω ((ω c8).getD 7 0) ∈ lO κ ω ((ω ((ω qs).getD z11 0)).getD 4 0))))), (8, .int (zP ((¬ ((ν h).2.2.2.2.2.2.2.2.2.1) < (ν ((ω qs).getD z11 0)).2.2.2.2.2.2.2.2.2.1 ∧ ¬ (ν ((ω qs).getD z11 0)).2.2.2.2.2.2.2.2.2.2.1 < ((ν h).2.2.2.2.2.2.2.2.2.1)) ∧ ((((ν ((ω qs).getD z11 0)).2.2.2.2.2.2.2.2.2.2.2.1) = (0 : Int32)) ∧ (useQ (ν c9).2.2.2.2.2.1 6))))), (7, .ref ((ω qs).getD z11 0)), (6, .int (nI z11)), (0, .ref h), (1, .ref c8), (2, .ref c9), (3, .ref qs), (4, .ref r9)]) hx hb d_PathCheck_isRevoked_125 hl (by decide) rfl (fun ls hl => ?_)
              refine lv_iinc (v := nI (z11 + 1)) (lv' := [(6, .int (nI (z11 + 1))), (5, .int (zP ((∃ l8, l8 < z11 ∧ couQ (cO κ ν ω) (fun l9 => qO κ ν ω ((ω qs).getD l9 0)) (fun l9 s9 => SGX κ ν ω ((ω qs).getD l9 0) s9) (ν h).2.2.2.2.2.2.2.2.2.1 c8 c9 l8 ∧ ((cO κ ν ω) c8).se ∈ ((fun l9 => qO κ ν ω ((ω qs).getD l9 0)) l8).en) ∨ (sO κ ω ((ω c8).getD 7 0) ∈ lO κ ω ((ω ((ω qs).getD z11 0)).getD 4 0))))), (8, .int (zP ((¬ ((ν h).2.2.2.2.2.2.2.2.2.1) < (ν ((ω qs).getD z11 0)).2.2.2.2.2.2.2.2.2.1 ∧ ¬ (ν ((ω qs).getD z11 0)).2.2.2.2.2.2.2.2.2.2.1 < ((ν h).2.2.2.2.2.2.2.2.2.1)) ∧ ((((ν ((ω qs).getD z11 0)).2.2.2.2.2.2.2.2.2.2.2.1) = (0 : Int32)) ∧ (useQ (ν c9).2.2.2.2.2.1 6))))), (7, .ref ((ω qs).getD z11 0)), (0, .ref h), (1, .ref c8), (2, .ref c9), (3, .ref qs), (4, .ref r9)]) hx hb d_PathCheck_isRevoked_127 hl (k := 3) rfl (nI_1 _) (by decide) rfl (fun ls hl => ?_)
              refine lv_goto (tgt := 11) hx hb d_PathCheck_isRevoked_130 (by decide) ?_
              have hcn : couQ (cO κ ν ω) (fun l9 => qO κ ν ω ((ω qs).getD l9 0)) (fun l9 s9 => SGX κ ν ω ((ω qs).getD l9 0) s9) (ν h).2.2.2.2.2.2.2.2.2.1 c8 c9 z11 := cou_i p69 p84 p95
              have e5 : zP ((∃ l8, l8 < z11 ∧ couQ (cO κ ν ω) (fun l9 => qO κ ν ω ((ω qs).getD l9 0)) (fun l9 s9 => SGX κ ν ω ((ω qs).getD l9 0) s9) (ν h).2.2.2.2.2.2.2.2.2.1 c8 c9 l8 ∧ ((cO κ ν ω) c8).se ∈ ((fun l9 => qO κ ν ω ((ω qs).getD l9 0)) l8).en) ∨ (sO κ ω ((ω c8).getD 7 0) ∈ lO κ ω ((ω ((ω qs).getD z11 0)).getD 4 0))) = zP (∃ l8, l8 < (z11 + 1) ∧ couQ (cO κ ν ω) (fun l9 => qO κ ν ω ((ω qs).getD l9 0)) (fun l9 s9 => SGX κ ν ω ((ω qs).getD l9 0) s9) (ν h).2.2.2.2.2.2.2.2.2.1 c8 c9 l8 ∧ ((cO κ ν ω) c8).se ∈ ((fun l9 => qO κ ν ω ((ω qs).getD l9 0)) l8).en) := zP_g (rv_1 hcn)
              have e6 : (1 : Int32) = zP (∃ l8, l8 < (z11 + 1) ∧ couQ (cO κ ν ω) (fun l9 => qO κ ν ω ((ω qs).getD l9 0)) (fun l9 s9 => SGX κ ν ω ((ω qs).getD l9 0) s9) (ν h).2.2.2.2.2.2.2.2.2.1 c8 c9 l8) := zP_t ⟨z11, Nat.lt_succ_self _, hcn⟩
              have hl : lv_has ls 9 [(6, .int (nI (z11 + 1))), (5, .int (zP (∃ l8, l8 < (z11 + 1) ∧ couQ (cO κ ν ω) (fun l9 => qO κ ν ω ((ω qs).getD l9 0)) (fun l9 s9 => SGX κ ν ω ((ω qs).getD l9 0) s9) (ν h).2.2.2.2.2.2.2.2.2.1 c8 c9 l8 ∧ ((cO κ ν ω) c8).se ∈ ((fun l9 => qO κ ν ω ((ω qs).getD l9 0)) l8).en))), (8, .int (zP ((¬ ((ν h).2.2.2.2.2.2.2.2.2.1) < (ν ((ω qs).getD z11 0)).2.2.2.2.2.2.2.2.2.1 ∧ ¬ (ν ((ω qs).getD z11 0)).2.2.2.2.2.2.2.2.2.2.1 < ((ν h).2.2.2.2.2.2.2.2.2.1)) ∧ ((((ν ((ω qs).getD z11 0)).2.2.2.2.2.2.2.2.2.2.2.1) = (0 : Int32)) ∧ (useQ (ν c9).2.2.2.2.2.1 6))))), (7, .ref ((ω qs).getD z11 0)), (0, .ref h), (1, .ref c8), (2, .ref c9), (3, .ref qs), (4, .ref r9)] := by rw [← e5]; exact hl
              exact ih11 (z11 + 1, G_16) _ _ ls (by dsimp only; omega) ⟨by dsimp only; omega, ⟨ν100_16, hNν100_16, by rw [eν100_16, e6], _, hL92, hTy⟩, hFR⟩ hP hD hS (lv_sub hl [0, 1, 4, 5, 6, 7, 8] rfl)
            · skip
              refine lv_if_ne (tgt := 120) hx hb d_PathCheck_isRevoked_105 (by decide) (fun c105 => ?_) (fun c105 => ?_)
              · have p105 : ∃ l8, l8 < z11 ∧ couQ (cO κ ν ω) (fun l9 => qO κ ν ω ((ω qs).getD l9 0)) (fun l9 s9 => SGX κ ν ω ((ω qs).getD l9 0) s9) (ν h).2.2.2.2.2.2.2.2.2.1 c8 c9 l8 ∧ ((cO κ ν ω) c8).se ∈ ((fun l9 => qO κ ν ω ((ω qs).getD l9 0)) l8).en := (zP_1 c105)
                refine lv_iconst (v := 1) hx hb d_PathCheck_isRevoked_120 (by decide) ?_
                refine lv_goto (tgt := 125) hx hb d_PathCheck_isRevoked_121 (by decide) ?_
                exact k125 _ (zP_t (Or.inl p105))
              · have p105 : ¬ (∃ l8, l8 < z11 ∧ couQ (cO κ ν ω) (fun l9 => qO κ ν ω ((ω qs).getD l9 0)) (fun l9 s9 => SGX κ ν ω ((ω qs).getD l9 0) s9) (ν h).2.2.2.2.2.2.2.2.2.1 c8 c9 l8 ∧ ((cO κ ν ω) c8).se ∈ ((fun l9 => qO κ ν ω ((ω qs).getD l9 0)) l8).en) := (zP_0.mp c105)
                refine lv_aload hx hb d_PathCheck_isRevoked_108 (lv_at hl 1 rfl) ?_
                refine lv_aload_n hx hb d_PathCheck_isRevoked_110 rfl (lv_at hl 5 rfl) ?_
                obtain ⟨i_17, bo_17, K_17, B_17, kbo_17, wl_17, hg_17⟩ := ty_8x hTy kc8
                obtain ⟨⟨A_17, knm_17⟩, kpe_17, kec_17, kse_17, ksu_17, kmo_17, kok_17, kik_17, kha_17, ksi_17, ken_17, ksg_17, kis_17⟩ := K_17
                have knm_17 := tK.fiv ⟨_, _, knm_17⟩
                have kpe_17 := tK.fiv kpe_17
                have kec_17 := tK.fiv kec_17
                have ksu_17 := tK.two ksu_17
                have kmo_17 := tK.two kmo_17
                have kok_17 := tK.two kok_17
                have kik_17 := tK.two kik_17
                have ksg_17 := tK.two ksg_17
                have kis_17 := tK.two kis_17
                rw [show ν100_16 c8 = ν c8 from hNν100_16 _ (q_nek kc8 kh (by simp))] at hg_17 B_17
                refine va_get (v := .ref ((ω c8).getD 7 0)) hx hb htb i_Certificate hown hK hP i_17 hg_17 rfl 3 (by decide) (htb _ q2_149) (fun _ h9 => h9) rfl d_PathCheck_isRevoked_111 ?_
                obtain ⟨i_18, bo_18, ⟨kha_18, ksi_18, ken_18, ksg_18, kis_18⟩, kbo_18, hg_18⟩ := ty_9x hTy ks_4
                have ksg_18 := tK.two ksg_18
                have kis_18 := tK.two kis_18
                rw [show ν100_16 ((ω qs).getD z11 0) = ν ((ω qs).getD z11 0) from hNν100_16 _ (q_nek ks_4 kh (by simp))] at hg_18
                refine vp_callSi (pu_callV (As := [.ref ((ω c8).getD 7 0)]) (rest := []) ⟨hx, hb, hml, hown, hts⟩ tbin (p_Paper_hasEntry l dC dI sb γ κ Ad ν100_16 ω L92 G_16 ((ω qs).getD z11 0) ((ω c8).getD 7 0) _ _ hTy ks_4 kse_17 ) q6_71 q6_72 q6_73 q1_20 q6_76 (n := 1) (by decide +kernel) rfl ⟨rfl, rfl⟩ ⟨Nat.le_of_ble_eq_true rfl, Nat.le_of_ble_eq_true rfl⟩ ⟨Nat.le_of_ble_eq_true rfl, Nat.le_of_ble_eq_true rfl⟩ hN (hT0.keep hS hAs) hK hP (List.range G_16.length) (rg_all G_16) [0, 1, 2, 3] rfl i_18 2 hg_18 rfl rfl hl.1 rfl (Nat.le_of_ble_eq_true rfl) d_PathCheck_isRevoked_114) (fun r114 hr114 => ?_)
                obtain rfl : r114 = zP (sO κ ω ((ω c8).getD 7 0) ∈ lO κ ω ((ω ((ω qs).getD z11 0)).getD 4 0)) := hr114
                refine lv_if_eq (tgt := 124) hx hb d_PathCheck_isRevoked_117 (by decide) (fun c117 => ?_) (fun c117 => ?_)
                · have p117 : ¬ (sO κ ω ((ω c8).getD 7 0) ∈ lO κ ω ((ω ((ω qs).getD z11 0)).getD 4 0)) := (zP_0.mp c117)
                  refine lv_iconst (v := 0) hx hb d_PathCheck_isRevoked_124 (by decide) ?_
                  exact k125 _ (zP_f (fun z => z.elim p105 p117))
                · have p117 : sO κ ω ((ω c8).getD 7 0) ∈ lO κ ω ((ω ((ω qs).getD z11 0)).getD 4 0) := (zP_1 c117)
                  refine lv_iconst (v := 1) hx hb d_PathCheck_isRevoked_120 (by decide) ?_
                  refine lv_goto (tgt := 125) hx hb d_PathCheck_isRevoked_121 (by decide) ?_
                  exact k125 _ (zP_t (Or.inr p117))
    · skip
      refine lv_if_eq (tgt := 64) hx hb d_PathCheck_isRevoked_40 (by decide) (fun c40 => ?_) (fun c40 => ?_)
      · have p40 : ¬ (¬ ((ν h).2.2.2.2.2.2.2.2.2.1) < (ν ((ω qs).getD z11 0)).2.2.2.2.2.2.2.2.2.1 ∧ ¬ (ν ((ω qs).getD z11 0)).2.2.2.2.2.2.2.2.2.2.1 < ((ν h).2.2.2.2.2.2.2.2.2.1)) := (zP_0.mp c40)
        refine lv_iconst (v := 0) hx hb d_PathCheck_isRevoked_64 (by decide) ?_
        exact k65 _ (zP_f (fun z => p40 z.1))
      · have p40 : ¬ ((ν h).2.2.2.2.2.2.2.2.2.1) < (ν ((ω qs).getD z11 0)).2.2.2.2.2.2.2.2.2.1 ∧ ¬ (ν ((ω qs).getD z11 0)).2.2.2.2.2.2.2.2.2.2.1 < ((ν h).2.2.2.2.2.2.2.2.2.1) := (zP_1 c40)
        refine lv_aload hx hb d_PathCheck_isRevoked_43 (lv_at hl 0 rfl) ?_
        refine va_get (v := .int ((ν ((ω qs).getD z11 0)).2.2.2.2.2.2.2.2.2.2.2.1)) hx hb htb i_Paper hown hK hP i_6 hg_6 rfl 8 (by decide) (htb _ q2_235) (fun _ h9 => h9) rfl d_PathCheck_isRevoked_45 ?_
        refine lv_if_ne (tgt := 64) hx hb d_PathCheck_isRevoked_48 (by decide) (fun c48 => ?_) (fun c48 => ?_)
        · have p48 : ¬ (((ν ((ω qs).getD z11 0)).2.2.2.2.2.2.2.2.2.2.2.1) = (0 : Int32)) := c48
          refine lv_iconst (v := 0) hx hb d_PathCheck_isRevoked_64 (by decide) ?_
          exact k65 _ (zP_f (fun z => (fun z => p48 z.1) z.2))
        · have p48 : ((ν ((ω qs).getD z11 0)).2.2.2.2.2.2.2.2.2.2.2.1) = (0 : Int32) := c48
          refine lv_aload_n hx hb d_PathCheck_isRevoked_51 rfl (lv_at hl 5 rfl) ?_
          refine lv_bipush (v := 6) hx hb d_PathCheck_isRevoked_52 (by decide) ?_
          obtain ⟨i_19, bo_19, K_19, B_19, kbo_19, wl_19, hg_19⟩ := ty_8x hTy kc9
          obtain ⟨⟨A_19, knm_19⟩, kpe_19, kec_19, kse_19, ksu_19, kmo_19, kok_19, kik_19, kha_19, ksi_19, ken_19, ksg_19, kis_19⟩ := K_19
          have knm_19 := tK.fiv ⟨_, _, knm_19⟩
          have kpe_19 := tK.fiv kpe_19
          have kec_19 := tK.fiv kec_19
          have ksu_19 := tK.two ksu_19
          have kmo_19 := tK.two kmo_19
          have kok_19 := tK.two kok_19
          have kik_19 := tK.two kik_19
          have ksg_19 := tK.two ksg_19
          have kis_19 := tK.two kis_19
          rw [show ν11 c9 = ν c9 from hν11 _ (q_nek kc9 kh (by simp))] at hg_19 B_19
          refine vp_callSi (pu_callV (As := [.int 6]) (rest := []) ⟨hx, hb, hml, hown, hts⟩ tbin (p_Certificate_mayUse l dC dI sb γ κ Ad ν11 ω L11 G11 c9 _ _ _ hTy kc9 (by decide)) q6_66 q6_67 q6_68 q1_21 q6_69 (n := 1) (by decide +kernel) rfl ⟨rfl, rfl⟩ ⟨Nat.le_of_ble_eq_true rfl, Nat.le_of_ble_eq_true rfl⟩ ⟨Nat.le_of_ble_eq_true rfl, Nat.le_of_ble_eq_true rfl⟩ hN (hT0.keep hS hAs) hK hP (List.range G11.length) (rg_all G11) [0, 1, 2, 3] rfl i_19 3 hg_19 rfl rfl hl.1 rfl (Nat.le_of_ble_eq_true rfl) d_PathCheck_isRevoked_54) (fun r54 hr54 => ?_)
          obtain rfl : r54 = zP (useQ (ν c9).2.2.2.2.2.1 6) := by rw [hr54, show ν11 c9 = ν c9 from (hν11 _ (q_nek kc9 kh (by simp)))]
          refine lv_if_eq (tgt := 64) hx hb d_PathCheck_isRevoked_57 (by decide) (fun c57 => ?_) (fun c57 => ?_)
          · have p57 : ¬ (useQ (ν c9).2.2.2.2.2.1 6) := (zP_0.mp c57)
            refine lv_iconst (v := 0) hx hb d_PathCheck_isRevoked_64 (by decide) ?_
            exact k65 _ (zP_f (fun z => (fun z => p57 z.2) z.2))
          · have p57 : useQ (ν c9).2.2.2.2.2.1 6 := (zP_1 c57)
            refine lv_iconst (v := 1) hx hb d_PathCheck_isRevoked_60 (by decide) ?_
            refine lv_goto (tgt := 65) hx hb d_PathCheck_isRevoked_61 (by decide) ?_
            exact k65 _ (zP_t ⟨p40, ⟨p48, p57⟩⟩)
def y_PathCheck_faultAt : MethodName := ⟨"TrustChain$PathCheck", "faultAt", "(Ljava/util/ArrayList;ILjava/util/ArrayList;LTrustChain$Rsa;)I"⟩
abbrev b_PathCheck_faultAt : ByteArray := prog_7_method_4_code
def w_PathCheck_faultAt : List Cond := Cond.code y_PathCheck_faultAt b_PathCheck_faultAt 7 ((some FieldType.int)) :: tb
theorem d_PathCheck_faultAt_0 : decode b_PathCheck_faultAt 0 = .ok (.iload_n 2, 1) := by decide +kernel
theorem d_PathCheck_faultAt_1 : decode b_PathCheck_faultAt 1 = .ok (.ifCond .lt 13, 3) := by decide +kernel
theorem d_PathCheck_faultAt_4 : decode b_PathCheck_faultAt 4 = .ok (.iload_n 2, 1) := by decide +kernel
theorem d_PathCheck_faultAt_5 : decode b_PathCheck_faultAt 5 = .ok (.iconst 1, 1) := by decide +kernel
theorem d_PathCheck_faultAt_6 : decode b_PathCheck_faultAt 6 = .ok (.iadd, 1) := by decide +kernel
theorem d_PathCheck_faultAt_7 : decode b_PathCheck_faultAt 7 = .ok (.aload_n 1, 1) := by decide +kernel
theorem d_PathCheck_faultAt_8 : decode b_PathCheck_faultAt 8 = .ok (.invokevirtual 26, 3) := by decide +kernel
theorem d_PathCheck_faultAt_11 : decode b_PathCheck_faultAt 11 = .ok (.if_icmp .lt 5, 3) := by decide +kernel
theorem d_PathCheck_faultAt_14 : decode b_PathCheck_faultAt 14 = .ok (.iconst 0, 1) := by decide +kernel
theorem d_PathCheck_faultAt_15 : decode b_PathCheck_faultAt 15 = .ok (.ireturn, 1) := by decide +kernel
theorem d_PathCheck_faultAt_16 : decode b_PathCheck_faultAt 16 = .ok (.aload_n 1, 1) := by decide +kernel
theorem d_PathCheck_faultAt_17 : decode b_PathCheck_faultAt 17 = .ok (.iload_n 2, 1) := by decide +kernel
theorem d_PathCheck_faultAt_18 : decode b_PathCheck_faultAt 18 = .ok (.invokevirtual 36, 3) := by decide +kernel
theorem d_PathCheck_faultAt_21 : decode b_PathCheck_faultAt 21 = .ok (.checkcast 40, 3) := by decide +kernel
theorem d_PathCheck_faultAt_24 : decode b_PathCheck_faultAt 24 = .ok (.astore 5, 2) := by decide +kernel
theorem d_PathCheck_faultAt_26 : decode b_PathCheck_faultAt 26 = .ok (.aload_n 1, 1) := by decide +kernel
theorem d_PathCheck_faultAt_27 : decode b_PathCheck_faultAt 27 = .ok (.iload_n 2, 1) := by decide +kernel
theorem d_PathCheck_faultAt_28 : decode b_PathCheck_faultAt 28 = .ok (.iconst 1, 1) := by decide +kernel
theorem d_PathCheck_faultAt_29 : decode b_PathCheck_faultAt 29 = .ok (.iadd, 1) := by decide +kernel
theorem d_PathCheck_faultAt_30 : decode b_PathCheck_faultAt 30 = .ok (.invokevirtual 36, 3) := by decide +kernel
theorem d_PathCheck_faultAt_33 : decode b_PathCheck_faultAt 33 = .ok (.checkcast 40, 3) := by decide +kernel
theorem d_PathCheck_faultAt_36 : decode b_PathCheck_faultAt 36 = .ok (.astore 6, 2) := by decide +kernel
theorem d_PathCheck_faultAt_38 : decode b_PathCheck_faultAt 38 = .ok (.aload 4, 2) := by decide +kernel
theorem d_PathCheck_faultAt_40 : decode b_PathCheck_faultAt 40 = .ok (.aload 5, 2) := by decide +kernel
theorem d_PathCheck_faultAt_42 : decode b_PathCheck_faultAt 42 = .ok (.aload 6, 2) := by decide +kernel
theorem d_PathCheck_faultAt_44 : decode b_PathCheck_faultAt 44 = .ok (.invokevirtual 42, 3) := by decide +kernel
theorem d_PathCheck_faultAt_47 : decode b_PathCheck_faultAt 47 = .ok (.ifCond .ne 5, 3) := by decide +kernel
theorem d_PathCheck_faultAt_50 : decode b_PathCheck_faultAt 50 = .ok (.iconst 1, 1) := by decide +kernel
theorem d_PathCheck_faultAt_51 : decode b_PathCheck_faultAt 51 = .ok (.ireturn, 1) := by decide +kernel
theorem d_PathCheck_faultAt_52 : decode b_PathCheck_faultAt 52 = .ok (.aload 5, 2) := by decide +kernel
theorem d_PathCheck_faultAt_54 : decode b_PathCheck_faultAt 54 = .ok (.aload_n 0, 1) := by decide +kernel
theorem d_PathCheck_faultAt_55 : decode b_PathCheck_faultAt 55 = .ok (.getfield 15, 3) := by decide +kernel
theorem d_PathCheck_faultAt_58 : decode b_PathCheck_faultAt 58 = .ok (.invokevirtual 48, 3) := by decide +kernel
theorem d_PathCheck_faultAt_61 : decode b_PathCheck_faultAt 61 = .ok (.ifCond .ne 5, 3) := by decide +kernel
theorem d_PathCheck_faultAt_64 : decode b_PathCheck_faultAt 64 = .ok (.iconst 2, 1) := by decide +kernel
theorem d_PathCheck_faultAt_65 : decode b_PathCheck_faultAt 65 = .ok (.ireturn, 1) := by decide +kernel
theorem d_PathCheck_faultAt_66 : decode b_PathCheck_faultAt 66 = .ok (.aload_n 0, 1) := by decide +kernel
theorem d_PathCheck_faultAt_67 : decode b_PathCheck_faultAt 67 = .ok (.aload 5, 2) := by decide +kernel
theorem d_PathCheck_faultAt_69 : decode b_PathCheck_faultAt 69 = .ok (.aload 6, 2) := by decide +kernel
theorem d_PathCheck_faultAt_71 : decode b_PathCheck_faultAt 71 = .ok (.aload_n 3, 1) := by decide +kernel
theorem d_PathCheck_faultAt_72 : decode b_PathCheck_faultAt 72 = .ok (.aload 4, 2) := by decide +kernel
theorem d_PathCheck_faultAt_74 : decode b_PathCheck_faultAt 74 = .ok (.invokevirtual 52, 3) := by decide +kernel
theorem d_PathCheck_faultAt_77 : decode b_PathCheck_faultAt 77 = .ok (.ifCond .eq 5, 3) := by decide +kernel
theorem d_PathCheck_faultAt_80 : decode b_PathCheck_faultAt 80 = .ok (.iconst 3, 1) := by decide +kernel
theorem d_PathCheck_faultAt_81 : decode b_PathCheck_faultAt 81 = .ok (.ireturn, 1) := by decide +kernel
theorem d_PathCheck_faultAt_82 : decode b_PathCheck_faultAt 82 = .ok (.aload_n 0, 1) := by decide +kernel
theorem d_PathCheck_faultAt_83 : decode b_PathCheck_faultAt 83 = .ok (.getfield 19, 3) := by decide +kernel
theorem d_PathCheck_faultAt_86 : decode b_PathCheck_faultAt 86 = .ok (.ifCond .eq 12, 3) := by decide +kernel
theorem d_PathCheck_faultAt_89 : decode b_PathCheck_faultAt 89 = .ok (.aload_n 0, 1) := by decide +kernel
theorem d_PathCheck_faultAt_90 : decode b_PathCheck_faultAt 90 = .ok (.getfield 23, 3) := by decide +kernel
theorem d_PathCheck_faultAt_93 : decode b_PathCheck_faultAt 93 = .ok (.ifCond .ne 5, 3) := by decide +kernel
theorem d_PathCheck_faultAt_96 : decode b_PathCheck_faultAt 96 = .ok (.iconst 4, 1) := by decide +kernel
theorem d_PathCheck_faultAt_97 : decode b_PathCheck_faultAt 97 = .ok (.ireturn, 1) := by decide +kernel
theorem d_PathCheck_faultAt_98 : decode b_PathCheck_faultAt 98 = .ok (.iload_n 2, 1) := by decide +kernel
theorem d_PathCheck_faultAt_99 : decode b_PathCheck_faultAt 99 = .ok (.ifCond .eq 11, 3) := by decide +kernel
theorem d_PathCheck_faultAt_102 : decode b_PathCheck_faultAt 102 = .ok (.aload 5, 2) := by decide +kernel
theorem d_PathCheck_faultAt_104 : decode b_PathCheck_faultAt 104 = .ok (.getfield 56, 3) := by decide +kernel
theorem d_PathCheck_faultAt_107 : decode b_PathCheck_faultAt 107 = .ok (.ifCond .ne 13, 3) := by decide +kernel
theorem d_PathCheck_faultAt_110 : decode b_PathCheck_faultAt 110 = .ok (.aload_n 1, 1) := by decide +kernel
theorem d_PathCheck_faultAt_111 : decode b_PathCheck_faultAt 111 = .ok (.iload_n 2, 1) := by decide +kernel
theorem d_PathCheck_faultAt_112 : decode b_PathCheck_faultAt 112 = .ok (.invokestatic 59, 3) := by decide +kernel
theorem d_PathCheck_faultAt_115 : decode b_PathCheck_faultAt 115 = .ok (.ifCond .ne 5, 3) := by decide +kernel
theorem d_PathCheck_faultAt_118 : decode b_PathCheck_faultAt 118 = .ok (.iconst 5, 1) := by decide +kernel
theorem d_PathCheck_faultAt_119 : decode b_PathCheck_faultAt 119 = .ok (.ireturn, 1) := by decide +kernel
theorem d_PathCheck_faultAt_120 : decode b_PathCheck_faultAt 120 = .ok (.aload 5, 2) := by decide +kernel
theorem d_PathCheck_faultAt_122 : decode b_PathCheck_faultAt 122 = .ok (.getfield 63, 3) := by decide +kernel
theorem d_PathCheck_faultAt_125 : decode b_PathCheck_faultAt 125 = .ok (.ifCond .le 6, 3) := by decide +kernel
theorem d_PathCheck_faultAt_128 : decode b_PathCheck_faultAt 128 = .ok (.bipush 6, 2) := by decide +kernel
theorem d_PathCheck_faultAt_130 : decode b_PathCheck_faultAt 130 = .ok (.ireturn, 1) := by decide +kernel
theorem d_PathCheck_faultAt_131 : decode b_PathCheck_faultAt 131 = .ok (.iload_n 2, 1) := by decide +kernel
theorem d_PathCheck_faultAt_132 : decode b_PathCheck_faultAt 132 = .ok (.ifCond .ne 7, 3) := by decide +kernel
theorem d_PathCheck_faultAt_135 : decode b_PathCheck_faultAt 135 = .ok (.iconst 0, 1) := by decide +kernel
theorem d_PathCheck_faultAt_136 : decode b_PathCheck_faultAt 136 = .ok (.goto 9, 3) := by decide +kernel
theorem d_PathCheck_faultAt_139 : decode b_PathCheck_faultAt 139 = .ok (.aload_n 0, 1) := by decide +kernel
theorem d_PathCheck_faultAt_140 : decode b_PathCheck_faultAt 140 = .ok (.aload_n 1, 1) := by decide +kernel
theorem d_PathCheck_faultAt_141 : decode b_PathCheck_faultAt 141 = .ok (.iload_n 2, 1) := by decide +kernel
theorem d_PathCheck_faultAt_142 : decode b_PathCheck_faultAt 142 = .ok (.invokevirtual 66, 3) := by decide +kernel
theorem d_PathCheck_faultAt_145 : decode b_PathCheck_faultAt 145 = .ok (.ireturn, 1) := by decide +kernel
set_option maxHeartbeats 4000000 in
set_option maxRecDepth 100000 in
theorem m_PathCheck_faultAt (l : Launch) (dC : Nat → ClassId) (dI : Nat → Nat → Nat) (sb : sB) (γ : cG) (κ : kE) (Ad : List Nat) (ν : Nat → cN) (ω : Nat → List Nat) (L : Nat) (G : va_W) (h p9 qs r9 : Nat) (o1 : alD) (as : List Nat) (k : Nat) (sz : Nat) (hTy : TY γ κ Ad ν ω L G) (kh : tK κ Ad h (12, 0, 0)) (kp9 : PLx γ sb κ Ad 8 p9 o1 as G) (kqs : tK κ Ad qs (17, (sb.2 5), 0)) (kr9 : tK κ Ad r9 (10, 0, 0)) (hL : L ≤ 64) (h1 : ∀ a, a ∈ Ad → (κ a).1 = 10 → a = r9) (hX : XC κ Ad ν ω) (hY : YC κ Ad ν ω) (hkw9 : b01 (ν h).2.1) (hk : k + 1 < as.length) (hk20 : as.length < 2 ^ 20) : Met l y_PathCheck_faultAt w_PathCheck_faultAt ({ frames := 6, cells := 0, slots := 0, locals := 137 }) (mu_P [.ref h, .ref p9, .int (nI k), .ref qs, .ref r9] (dC, dI) sb G [(γ.1, .byte), (γ.2.1, .int), (γ.2.2.1, .long), (γ.2.2.2, .object "java/lang/Object")] sz) (va_Qi (fun r (G' : va_W) => ∃ ν' : Nat → cN, (∀ b, b ≠ h → ν' b = ν b) ∧ (∃ ik9 : Int32, ν' h = mkP (ν h) (ν h).1 (ν h).2.1 ik9 (ν h).2.2.2.2.2.2.2.2.2.1) ∧ (∃ L' : Nat, L' ≤ 64 ∧ TY γ κ Ad ν' ω L' G') ∧ FR Ad G G' ∧ (r = fltQ (cO κ ν ω) (fun l9 => qO κ ν ω ((ω qs).getD l9 0)) (ω qs).length (SGX κ ν ω) (fun l9 s9 => SGX κ ν ω ((ω qs).getD l9 0) s9) (ν h).2.2.2.2.2.2.2.2.2.1 ((ν h).2.1 = 1) as k)) (mu_B (dC, dI) [(γ.1, .byte), (γ.2.1, .int), (γ.2.2.1, .long), (γ.2.2.2, .object "java/lang/Object")] (va_A G sz) (fun G' : va_W => G')) (va_A G sz)) 0 0 (va_A G sz) := by
  refine Met.ofW (cc := b_PathCheck_faultAt) (maxL := 7) (ret := (some FieldType.int)) (by decide) rfl ?_
  intro p e s m args below meth c s₁ B hml hv
  obtain ⟨rfl, hsz, hB0, hP, hK, hD0, hN, hT0⟩ := hv
  have hx := B.exec
  have hb := B.bytes
  have hr := B.returns
  have hts := atoms_spec (ws := w_PathCheck_faultAt) B.pre
  have tbin : ∀ w ∈ tb, w ∈ w_PathCheck_faultAt := fun w h => List.mem_cons_of_mem _ h
  have htb : ∀ w ∈ tb, w.before _ s = true := fun w h => hts w (tbin w h)
  have hown : s.vm.findClass "TrustChain$PathCheck" = some m.cls := findClass_of_methodNamed B.named
  have hlocks := B.notSynchronized
  subst hsz
  have hD := hD0.self (sz := s.heap.size)
  generalize hAe : va_A G s.heap.size = A at hD ⊢
  have hA : ∀ q : Nat, s.heap.size ≤ q → A q := fun q h => by rw [← hAe]; exact Or.inr h
  have hAs : ∀ q : Nat, A q → sb.1 ≤ q := fun q h => by
    rw [← hAe] at h
    rcases h with ⟨k, e, h⟩ | h
    · exact hD0.2 k _ h
    · exact Nat.le_trans hB0 h
  have hS : va_S A s.heap s.heap [] := va_S.rf
  have hFR := FR.rf Ad G
  have hcs : 0 ≤ (headSpec w_PathCheck_faultAt ({ frames := 6, cells := 0, slots := 0, locals := 137 })).room.cells ∧ 0 ≤ (headSpec w_PathCheck_faultAt ({ frames := 6, cells := 0, slots := 0, locals := 137 })).room.slots := ⟨Nat.le_refl _, Nat.le_refl _⟩
  have hP : va_P (dC, dI) classes G s.heap := hP
  have hl := lv_entry ([.ref h, .ref p9, .int (nI k), .ref qs, .ref r9]) (n := 7) (Nat.le_of_ble_eq_true rfl)
  rw [lg_entry_eq]
  generalize (lg_sl ([.ref h, .ref p9, .int (nI k), .ref qs, .ref r9]) ++ List.replicate (7 - (lg_sl ([.ref h, .ref p9, .int (nI k), .ref qs, .ref r9])).length) Slot.unset).toArray = ls at hl ⊢
  have hl : lv_has ls 7 [(0, .ref h), (1, .ref p9), (2, .int (nI k)), (3, .ref qs), (4, .ref r9)] := hl
  have kp9_0 := kp9
  have hTy0 := hTy
  have hTk : (κ h).1 = 12 ∨ (κ h).1 = 13 := Or.inl (by rw [kh.2])
  refine lv_iload_n hx hb d_PathCheck_faultAt_0 rfl (lv_at hl 2 rfl) ?_
  refine lv_if_lt (tgt := 14) hx hb d_PathCheck_faultAt_1 (by decide) (fun c1 => ?_) (fun c1 => ?_)
  · have p1 : k < 0 := ((nI_ltI (a := k) (b := 0) (by omega) (by omega)).mp c1)
    refine lv_iconst (v := 0) hx hb d_PathCheck_faultAt_14 (by decide) ?_
    exact W.iret (v := 0) hx hb hr (fun t ht hW => ⟨⟨_, G, rfl, ⟨ν, (fun _ _ => rfl), ⟨(ν h).2.2.1, rfl⟩, ⟨_, hL, hTy⟩, hFR, False.elim (by omega)⟩, by rw [ht]; exact hP, va_K.moved hW.alike hK, hD⟩, hS.F ht⟩) hS.2.2 d_PathCheck_faultAt_15
  · have p1 : ¬ (k < 0) := (fun q9 => c1 ((nI_ltI (a := k) (b := 0) (by omega) (by omega)).mpr q9))
    refine lv_iload_n hx hb d_PathCheck_faultAt_4 rfl (lv_at hl 2 rfl) ?_
    refine lv_iconst (v := 1) hx hb d_PathCheck_faultAt_5 (by decide) ?_
    refine lv_iadd hx hb d_PathCheck_faultAt_6 ?_
    rw [show ((nI k) + 1 : Int32) = nI (k + 1) from nI_add k 1]
    refine lv_aload_n hx hb d_PathCheck_faultAt_7 rfl (lv_at hl 1 rfl) ?_
    obtain ⟨i_1, m_1, hK_1, hg_1⟩ := pl_size kp9
    refine vp_callSi (pu_callV (As := []) (rest := [.int (nI (k + 1))]) ⟨hx, hb, hml, hown, hts⟩ tbin (c_AL_size l dC dI sb p9 (alO sb o1) as.length m_1) q6_46 q2_54 q2_55 q1_4 q2_56 (n := 0) (by decide +kernel) rfl ⟨rfl, rfl⟩ ⟨Nat.le_of_ble_eq_true rfl, Nat.le_of_ble_eq_true rfl⟩ ⟨Nat.le_of_ble_eq_true rfl, Nat.le_of_ble_eq_true rfl⟩ hN (hT0.keep hS hAs) hK hP [i_1] (by simp only [List.filterMap_cons, List.filterMap_nil, hg_1]) [] rfl i_1 11 hg_1 rfl rfl hl.1 rfl (Nat.le_of_ble_eq_true rfl) d_PathCheck_faultAt_8) (fun r8 hr8 => ?_)
    subst hr8
    refine lv_icmp_lt (tgt := 16) hx hb d_PathCheck_faultAt_11 (by decide) (fun c11 => ?_) (fun c11 => ?_)
    · have p11 : (k + 1) < as.length := ((nI_ltI (a := (k + 1)) (b := as.length) (by omega) (by omega)).mp c11)
      have hk1 : k + 1 < as.length := by omega
      refine lv_aload_n hx hb d_PathCheck_faultAt_16 rfl (lv_at hl 1 rfl) ?_
      refine lv_iload_n hx hb d_PathCheck_faultAt_17 rfl (lv_at hl 2 rfl) ?_
      obtain ⟨j_2, cap_2, f_2, p_2, q_2, hK_2, hc_2, hf_2, ks_2, h9_2, hq_2⟩ := pl_get kp9 (j := k) (by omega)
      refine va_csr (pu_callV (As := [.int (nI k)]) (rest := []) ⟨hx, hb, hml, hown, hts⟩ tbin (c_AL_get l dC dI sb p9 (alO sb o1) as.length cap_2 k (as.getD k 0) m_1 γ.2.2.2 f_2 (by omega) hK_2 (by omega) hf_2) q6_51 q4_210 q4_211 q1_4 q4_212 (n := 1) (by decide +kernel) rfl ⟨rfl, rfl⟩ ⟨Nat.le_of_ble_eq_true rfl, Nat.le_of_ble_eq_true rfl⟩ ⟨Nat.le_of_ble_eq_true rfl, Nat.le_of_ble_eq_true rfl⟩ hN (hT0.keep hS hAs) hK hP [i_1, j_2] (by simp only [List.filterMap_cons, List.filterMap_nil, hg_1, hq_2]) [3] rfl i_1 11 hg_1 rfl rfl hl.1 rfl (Nat.le_of_ble_eq_true rfl) d_PathCheck_faultAt_18) (fun r18 hr18 => ?_)
      obtain rfl := Eq.symm hr18
      obtain ⟨i_3, bo_3, K_3, B_3, kbo_3, wl_3, hg_3⟩ := ty_8x hTy ks_2
      obtain ⟨⟨A_3, knm_3⟩, kpe_3, kec_3, kse_3, ksu_3, kmo_3, kok_3, kik_3, kha_3, ksi_3, ken_3, ksg_3, kis_3⟩ := K_3
      have knm_3 := tK.fiv ⟨_, _, knm_3⟩
      have kpe_3 := tK.fiv kpe_3
      have kec_3 := tK.fiv kec_3
      have ksu_3 := tK.two ksu_3
      have kmo_3 := tK.two kmo_3
      have kok_3 := tK.two kok_3
      have kik_3 := tK.two kik_3
      have ksg_3 := tK.two ksg_3
      have kis_3 := tK.two kis_3
      refine va_castY (C := "TrustChain$Certificate") hx hb hown (htb _ q6_52) (hN.1 _ qn9_223) (va_recv (ci := 3) hK hP rfl hg_3) d_PathCheck_faultAt_21 ?_
      refine lv_astore (lv' := [(5, .ref (as.getD k 0)), (0, .ref h), (1, .ref p9), (2, .int (nI k)), (3, .ref qs), (4, .ref r9)]) hx hb d_PathCheck_faultAt_24 hl (by decide) rfl (fun ls hl => ?_)
      refine lv_aload_n hx hb d_PathCheck_faultAt_26 rfl (lv_at hl 2 rfl) ?_
      refine lv_iload_n hx hb d_PathCheck_faultAt_27 rfl (lv_at hl 3 rfl) ?_
      refine lv_iconst (v := 1) hx hb d_PathCheck_faultAt_28 (by decide) ?_
      refine lv_iadd hx hb d_PathCheck_faultAt_29 ?_
      rw [show ((nI k) + 1 : Int32) = nI (k + 1) from nI_add k 1]
      obtain ⟨j_4, cap_4, f_4, p_4, q_4, hK_4, hc_4, hf_4, ks_4, h9_4, hq_4⟩ := pl_get kp9 (j := (k + 1)) (by omega)
      refine va_csr (pu_callV (As := [.int (nI (k + 1))]) (rest := []) ⟨hx, hb, hml, hown, hts⟩ tbin (c_AL_get l dC dI sb p9 (alO sb o1) as.length cap_4 (k + 1) (as.getD (k + 1) 0) m_1 γ.2.2.2 f_4 (by omega) hK_4 (by omega) hf_4) q6_51 q4_210 q4_211 q1_4 q4_212 (n := 1) (by decide +kernel) rfl ⟨rfl, rfl⟩ ⟨Nat.le_of_ble_eq_true rfl, Nat.le_of_ble_eq_true rfl⟩ ⟨Nat.le_of_ble_eq_true rfl, Nat.le_of_ble_eq_true rfl⟩ hN (hT0.keep hS hAs) hK hP [i_1, j_4] (by simp only [List.filterMap_cons, List.filterMap_nil, hg_1, hq_4]) [3] rfl i_1 11 hg_1 rfl rfl hl.1 rfl (Nat.le_of_ble_eq_true rfl) d_PathCheck_faultAt_30) (fun r30 hr30 => ?_)
      obtain rfl := Eq.symm hr30
      obtain ⟨i_5, bo_5, K_5, B_5, kbo_5, wl_5, hg_5⟩ := ty_8x hTy ks_4
      obtain ⟨⟨A_5, knm_5⟩, kpe_5, kec_5, kse_5, ksu_5, kmo_5, kok_5, kik_5, kha_5, ksi_5, ken_5, ksg_5, kis_5⟩ := K_5
      have knm_5 := tK.fiv ⟨_, _, knm_5⟩
      have kpe_5 := tK.fiv kpe_5
      have kec_5 := tK.fiv kec_5
      have ksu_5 := tK.two ksu_5
      have kmo_5 := tK.two kmo_5
      have kok_5 := tK.two kok_5
      have kik_5 := tK.two kik_5
      have ksg_5 := tK.two ksg_5
      have kis_5 := tK.two kis_5
      refine va_castY (C := "TrustChain$Certificate") hx hb hown (htb _ q6_52) (hN.1 _ qn9_223) (va_recv (ci := 3) hK hP rfl hg_5) d_PathCheck_faultAt_33 ?_
      refine lv_astore (lv' := [(6, .ref (as.getD (k + 1) 0)), (5, .ref (as.getD k 0)), (0, .ref h), (1, .ref p9), (2, .int (nI k)), (3, .ref qs), (4, .ref r9)]) hx hb d_PathCheck_faultAt_36 hl (by decide) rfl (fun ls hl => ?_)
      refine lv_aload hx hb d_PathCheck_faultAt_38 (lv_at hl 6 rfl) ?_
      refine lv_aload hx hb d_PathCheck_faultAt_40 (lv_at hl 1 rfl) ?_
      refine lv_aload hx hb d_PathCheck_faultAt_42 (lv_at hl 0 rfl) ?_
      have hFc := va_free (wc := G) hD hS hA (List.range G.length) (rg_is _)
      obtain ⟨i_7, mo_7, sq_7, ba_7, po_7, un_7, su_7, iv_7, kmo_7, ksq_7, kba_7, kpo_7, kun_7, ksu_7, hg_7⟩ := ty_10 hTy kr9
      refine va_calli (mu_runV (As := [.ref (as.getD k 0), .ref (as.getD (k + 1) 0)]) (rest := []) ⟨hx, hb, hml, hown, hts⟩ tbin (m_isSignedC l dC dI sb γ κ Ad ν ω L G r9 (as.getD k 0) (as.getD (k + 1) 0) _ _ _ _ s.heap.size hTy kr9 ks_2 ks_4 hL h1 hX) q6_53 q5_177 q5_178 q1_6 q5_179 (n := 2) (by decide +kernel) rfl ⟨rfl, rfl⟩ ⟨Nat.le_of_ble_eq_true rfl, Nat.le_of_ble_eq_true rfl⟩ ⟨Nat.le_of_ble_eq_true rfl, Nat.le_of_ble_eq_true rfl⟩ hN (hT0.keep hS hAs) hAs (Nat.le_trans hB0 hS.1) hK hP hD (List.range G.length) (rg_nd _) (rg_is _) [0, 1, 2, 3] rfl i_7 7 hg_7 rfl rfl hl.1 rfl (Nat.le_of_ble_eq_true rfl) d_PathCheck_faultAt_44) hS (fun q _ h => hFc q h) hFc (fun r44 G_6 tS H44 locs ht hvm hw44 hB hz1 hk1 hS => ?_)
      obtain ⟨⟨L44, hL44, hTy⟩, hF9, hr44⟩ := hw44
      have hFR := hFR.tr hF9
      obtain ⟨hP1, hK1, hD1⟩ := hB
      rw [ht] at hP1
      have hP : va_P (dC, dI) classes G_6 H44 := hP1
      have hD : va_D A G_6 := hD1.weaken (fun _ _ _ h => hFc _ h)
      have kp9 := kp9_0.fr hFR
      have hr44 := bz_c hr44 (Iff.rfl)
      obtain rfl := Eq.symm (bz_zP hr44)
      refine lv_if_ne (tgt := 52) hx hb d_PathCheck_faultAt_47 (by decide) (fun c47 => ?_) (fun c47 => ?_)
      · have p47 : SGX κ ν ω (as.getD k 0) (as.getD (k + 1) 0) := (zP_1 c47)
        refine lv_aload hx hb d_PathCheck_faultAt_52 (lv_at hl 1 rfl) ?_
        refine lv_aload_n hx hb d_PathCheck_faultAt_54 rfl (lv_at hl 2 rfl) ?_
        obtain ⟨i_8, hg_8⟩ := ty_12 hTy kh
        have hg_8 : G_6[i_8]? = some (h, .inr (9, [.int ((ν h).1), .long ((ν h).2.2.2.2.2.2.2.2.2.1), .int ((ν h).2.1), .int ((ν h).2.2.1)])) := hg_8
        refine va_get (v := .long ((ν h).2.2.2.2.2.2.2.2.2.1)) hx hb htb i_PathCheck hown hK hP i_8 hg_8 rfl 1 (by decide) (htb _ q1_144) (fun _ h9 => h9) rfl d_PathCheck_faultAt_55 ?_
        obtain ⟨i_9, bo_9, K_9, B_9, kbo_9, wl_9, hg_9⟩ := ty_8x hTy ks_2
        obtain ⟨⟨A_9, knm_9⟩, kpe_9, kec_9, kse_9, ksu_9, kmo_9, kok_9, kik_9, kha_9, ksi_9, ken_9, ksg_9, kis_9⟩ := K_9
        have knm_9 := tK.fiv ⟨_, _, knm_9⟩
        have kpe_9 := tK.fiv kpe_9
        have kec_9 := tK.fiv kec_9
        have ksu_9 := tK.two ksu_9
        have kmo_9 := tK.two kmo_9
        have kok_9 := tK.two kok_9
        have kik_9 := tK.two kik_9
        have ksg_9 := tK.two ksg_9
        have kis_9 := tK.two kis_9
        refine vp_callSi (pu_callU (As := [.long ((ν h).2.2.2.2.2.2.2.2.2.1)]) (rest := []) ⟨hx, hb, hml, hown, hts⟩ (p_isAtC l dC dI sb γ κ Ad ν ω L44 G_6 (as.getD k 0) _ _ _ hTy ks_2 ) (cu_of (n := 1) hts tbin q6_54 q6_55 q6_58 q6_57 q1_20 q6_59 rfl (by decide +kernel) ⟨rfl, rfl⟩ ⟨Nat.le_of_ble_eq_true rfl, Nat.le_of_ble_eq_true rfl⟩) rfl ⟨Nat.le_of_ble_eq_true rfl, Nat.le_of_ble_eq_true rfl⟩ hN (hT0.keep hS hAs) hK hP (List.range G_6.length) (rg_all G_6) [0, 1, 2, 3] rfl i_9 3 hg_9 rfl rfl hl.1 rfl (Nat.le_of_ble_eq_true rfl) d_PathCheck_faultAt_58) (fun r58 hr58 => ?_)
        obtain rfl : r58 = zP (¬ ((ν h).2.2.2.2.2.2.2.2.2.1) < (ν (as.getD k 0)).2.2.2.2.2.2.2.2.2.1 ∧ ¬ (ν (as.getD k 0)).2.2.2.2.2.2.2.2.2.2.1 < ((ν h).2.2.2.2.2.2.2.2.2.1)) := hr58
        refine lv_if_ne (tgt := 66) hx hb d_PathCheck_faultAt_61 (by decide) (fun c61 => ?_) (fun c61 => ?_)
        · have p61 : ¬ ((ν h).2.2.2.2.2.2.2.2.2.1) < (ν (as.getD k 0)).2.2.2.2.2.2.2.2.2.1 ∧ ¬ (ν (as.getD k 0)).2.2.2.2.2.2.2.2.2.2.1 < ((ν h).2.2.2.2.2.2.2.2.2.1) := (zP_1 c61)
          refine lv_aload_n hx hb d_PathCheck_faultAt_66 rfl (lv_at hl 2 rfl) ?_
          refine lv_aload hx hb d_PathCheck_faultAt_67 (lv_at hl 1 rfl) ?_
          refine lv_aload hx hb d_PathCheck_faultAt_69 (lv_at hl 0 rfl) ?_
          refine lv_aload_n hx hb d_PathCheck_faultAt_71 rfl (lv_at hl 5 rfl) ?_
          refine lv_aload hx hb d_PathCheck_faultAt_72 (lv_at hl 6 rfl) ?_
          have hFc := va_free (wc := G_6) hD hS hA (List.range G_6.length) (rg_is _)
          refine va_calli (mu_runV (As := [.ref (as.getD k 0), .ref (as.getD (k + 1) 0), .ref qs, .ref r9]) (rest := []) ⟨hx, hb, hml, hown, hts⟩ tbin (m_PathCheck_isRevoked l dC dI sb γ κ Ad ν ω L44 G_6 h (as.getD k 0) (as.getD (k + 1) 0) qs r9 _ _ _ _ H44.size hTy kh ks_2 ks_4 kqs kr9 hL44 h1 hX hY) q6_60 q6_62 qp_32 q1_8 q6_63 (n := 4) (by decide +kernel) rfl ⟨rfl, rfl⟩ ⟨Nat.le_of_ble_eq_true rfl, Nat.le_of_ble_eq_true rfl⟩ ⟨Nat.le_of_ble_eq_true rfl, Nat.le_of_ble_eq_true rfl⟩ hN (hT0.keep hS hAs) hAs (Nat.le_trans hB0 hS.1) hK hP hD (List.range G_6.length) (rg_nd _) (rg_is _) [0, 1, 2, 3] rfl i_8 9 hg_8 rfl rfl hl.1 rfl (Nat.le_of_ble_eq_true rfl) d_PathCheck_faultAt_74) hS (fun q _ h => hFc q h) hFc (fun r74 G_10 tS H74 locs ht hvm hw74 hB hz1 hk1 hS => ?_)
          obtain ⟨ν74_10, hν74_10, eν74_10, ⟨L74, hL74, hTy⟩, hF9, hr74⟩ := hw74
          have hNν74_10 : ∀ b, b ≠ h → ν74_10 b = ν b := fun b hb => hν74_10 b hb
          have hFR := hFR.tr hF9
          obtain ⟨hP1, hK1, hD1⟩ := hB
          rw [ht] at hP1
          have hP : va_P (dC, dI) classes G_10 H74 := hP1
          have hD : va_D A G_10 := hD1.weaken (fun _ _ _ h => hFc _ h)
          have kp9 := kp9_0.fr hFR
          obtain rfl : r74 = zP (revQ (cO κ ν ω) (fun l9 => qO κ ν ω ((ω qs).getD l9 0)) (ω qs).length (fun l9 s9 => SGX κ ν ω ((ω qs).getD l9 0) s9) (ν h).2.2.2.2.2.2.2.2.2.1 (as.getD k 0) (as.getD (k + 1) 0)) := hr74
          refine lv_if_eq (tgt := 82) hx hb d_PathCheck_faultAt_77 (by decide) (fun c77 => ?_) (fun c77 => ?_)
          · have p77 : ¬ (revQ (cO κ ν ω) (fun l9 => qO κ ν ω ((ω qs).getD l9 0)) (ω qs).length (fun l9 s9 => SGX κ ν ω ((ω qs).getD l9 0) s9) (ν h).2.2.2.2.2.2.2.2.2.1 (as.getD k 0) (as.getD (k + 1) 0)) := (zP_0.mp c77)
            refine lv_aload_n hx hb d_PathCheck_faultAt_82 rfl (lv_at hl 2 rfl) ?_
            obtain ⟨i_11, hg_11⟩ := ty_12 hTy kh
            rw [eν74_10] at hg_11
            have hg_11 : G_10[i_11]? = some (h, .inr (9, [.int ((ν h).1), .long ((ν h).2.2.2.2.2.2.2.2.2.1), .int ((ν h).2.1), .int (zP (knoQ (cO κ ν ω) (fun l9 => qO κ ν ω ((ω qs).getD l9 0)) (ω qs).length (fun l9 s9 => SGX κ ν ω ((ω qs).getD l9 0) s9) (ν h).2.2.2.2.2.2.2.2.2.1 (as.getD k 0) (as.getD (k + 1) 0)))])) := hg_11
            refine va_get (v := .int ((ν h).2.1)) hx hb htb i_PathCheck hown hK hP i_11 hg_11 rfl 2 (by decide) (htb _ q1_145) (fun _ h9 => h9) rfl d_PathCheck_faultAt_83 ?_
            refine lv_if_eq (tgt := 98) hx hb d_PathCheck_faultAt_86 (by decide) (fun c86 => ?_) (fun c86 => ?_)
            · have p86 : ((ν h).2.1) = (0 : Int32) := c86
              have hY9 := hY _ _ _ ks_2
              refine lv_iload_n hx hb d_PathCheck_faultAt_98 rfl (lv_at hl 4 rfl) ?_
              refine lv_if_eq (tgt := 110) hx hb d_PathCheck_faultAt_99 (by decide) (fun c99 => ?_) (fun c99 => ?_)
              · have p99 : k = 0 := ((nI_eq (a := k) (b := 0) (by omega) (by omega)).mp c99)
                refine lv_aload_n hx hb d_PathCheck_faultAt_110 rfl (lv_at hl 3 rfl) ?_
                refine lv_iload_n hx hb d_PathCheck_faultAt_111 rfl (lv_at hl 4 rfl) ?_
                refine vp_callSi (pu_callS (As := [.ref p9, .int (nI k)]) (rest := []) ⟨hx, hb, hml, hown, hts⟩ tbin (p_PathCheck_isNameAllowed l dC dI sb γ κ Ad ν74_10 ω L74 G_10 p9 _ _ _ hTy kp9 (by omega)) q6_81 q6_82 q1_8 q6_83 (n := 2) (by decide +kernel) rfl ⟨rfl, rfl⟩ ⟨Nat.le_of_ble_eq_true rfl, Nat.le_of_ble_eq_true rfl⟩ ⟨Nat.le_of_ble_eq_true rfl, Nat.le_of_ble_eq_true rfl⟩ hN (hT0.keep hS hAs) hK hP (List.range G_10.length) (rg_all G_10) [0, 1, 2, 3] rfl hl.1 rfl (Nat.le_of_ble_eq_true rfl) d_PathCheck_faultAt_112) (fun r112 hr112 => ?_)
                obtain rfl : r112 = zP (namQ (cO κ ν ω) as k) := hr112.trans (zP_g (namQ_c (C := cO κ ν74_10 ω) (C' := (cO κ ν ω)) (by omega) (fun j9 hj9 => cO_nu (hNν74_10 _ (pl_ne (a := 0) kp9 hj9 kh)))))
                refine lv_if_ne (tgt := 120) hx hb d_PathCheck_faultAt_115 (by decide) (fun c115 => ?_) (fun c115 => ?_)
                · have p115 : namQ (cO κ ν ω) as k := (zP_1 c115)
                  refine lv_aload hx hb d_PathCheck_faultAt_120 (lv_at hl 1 rfl) ?_
                  obtain ⟨i_12, bo_12, K_12, B_12, kbo_12, wl_12, hg_12⟩ := ty_8x hTy ks_2
                  obtain ⟨⟨A_12, knm_12⟩, kpe_12, kec_12, kse_12, ksu_12, kmo_12, kok_12, kik_12, kha_12, ksi_12, ken_12, ksg_12, kis_12⟩ := K_12
                  have knm_12 := tK.fiv ⟨_, _, knm_12⟩
                  have kpe_12 := tK.fiv kpe_12
                  have kec_12 := tK.fiv kec_12
                  have ksu_12 := tK.two ksu_12
                  have kmo_12 := tK.two kmo_12
                  have kok_12 := tK.two kok_12
                  have kik_12 := tK.two kik_12
                  have ksg_12 := tK.two ksg_12
                  have kis_12 := tK.two kis_12
                  rw [show ν74_10 (as.getD k 0) = ν (as.getD k 0) from hNν74_10 _ (q_nek ks_2 kh (by simp))] at hg_12 B_12
                  refine va_get (v := .int ((ν (as.getD k 0)).2.2.2.2.2.2.2.2.2.2.2.1)) hx hb htb i_Certificate hown hK hP i_12 hg_12 rfl 27 (by decide) (htb _ q2_234) (fun x9 h9 => u_same (htb _ q2_232) x9 h9) rfl d_PathCheck_faultAt_122 ?_
                  refine lv_if_le (tgt := 131) hx hb d_PathCheck_faultAt_125 (by decide) (fun c125 => ?_) (fun c125 => ?_)
                  · have p125 : ((ν (as.getD k 0)).2.2.2.2.2.2.2.2.2.2.2.1) ≤ (0 : Int32) := c125
                    refine lv_iload_n hx hb d_PathCheck_faultAt_131 rfl (lv_at hl 4 rfl) ?_
                    refine lv_if_ne (tgt := 139) hx hb d_PathCheck_faultAt_132 (by decide) (fun c132 => ?_) (fun c132 => ?_)
                    · have p132 : ¬ (k = 0) := (fun q9 => c132 ((nI_eq (a := k) (b := 0) (by omega) (by omega)).mpr q9))
                      refine lv_aload_n hx hb d_PathCheck_faultAt_139 rfl (lv_at hl 2 rfl) ?_
                      refine lv_aload_n hx hb d_PathCheck_faultAt_140 rfl (lv_at hl 3 rfl) ?_
                      refine lv_iload_n hx hb d_PathCheck_faultAt_141 rfl (lv_at hl 4 rfl) ?_
                      refine vp_callSi (pu_callV (As := [.ref p9, .int (nI k)]) (rest := []) ⟨hx, hb, hml, hown, hts⟩ tbin (p_PathCheck_faultAsIssuer l dC dI sb γ κ Ad ν74_10 ω L74 G_10 h p9 _ _ _ hTy kh kp9 (by omega) (YC_nu hTk hNν74_10 hY)) q6_115 q6_117 qp_33 q1_8 q6_118 (n := 2) (by decide +kernel) rfl ⟨rfl, rfl⟩ ⟨Nat.le_of_ble_eq_true rfl, Nat.le_of_ble_eq_true rfl⟩ ⟨Nat.le_of_ble_eq_true rfl, Nat.le_of_ble_eq_true rfl⟩ hN (hT0.keep hS hAs) hK hP (List.range G_10.length) (rg_all G_10) [0, 1, 2, 3] rfl i_11 9 hg_11 rfl rfl hl.1 rfl (Nat.le_of_ble_eq_true rfl) d_PathCheck_faultAt_142) (fun r142 hr142 => ?_)
                      obtain rfl : r142 = issQ (cO κ ν ω) as k := hr142.trans (issQ_c (C := cO κ ν74_10 ω) (C' := (cO κ ν ω)) (by omega) (fun j9 hj9 => cO_nu (hNν74_10 _ (pl_ne (a := 0) kp9 hj9 kh))))
                      exact W.iret (v := issQ (cO κ ν ω) as k) hx hb hr (fun t ht hW => ⟨⟨_, G_10, rfl, ⟨ν74_10, hNν74_10, ⟨_, eν74_10⟩, ⟨_, hL74, hTy⟩, hFR, Eq.symm (if_nt (fun q9 => q9 p47) (if_nt (fun q9 => q9.elim p61.1 p61.2) (if_nt p77 (if_nt (fun q9 => absurd q9.1 (k01_n p86)) (if_nt (fun q9 => q9.2 p115) (if_nt (q_ng p125) (if_neg p132)))))))⟩, by rw [ht]; exact hP, va_K.moved hW.alike hK, hD⟩, hS.F ht⟩) hS.2.2 d_PathCheck_faultAt_145
                    · have p132 : k = 0 := ((nI_eq (a := k) (b := 0) (by omega) (by omega)).mp c132)
                      refine lv_iconst (v := 0) hx hb d_PathCheck_faultAt_135 (by decide) ?_
                      refine lv_goto (tgt := 145) hx hb d_PathCheck_faultAt_136 (by decide) ?_
                      exact W.iret (v := 0) hx hb hr (fun t ht hW => ⟨⟨_, G_10, rfl, ⟨ν74_10, hNν74_10, ⟨_, eν74_10⟩, ⟨_, hL74, hTy⟩, hFR, Eq.symm (if_nt (fun q9 => q9 p47) (if_nt (fun q9 => q9.elim p61.1 p61.2) (if_nt p77 (if_nt (fun q9 => absurd q9.1 (k01_n p86)) (if_nt (fun q9 => q9.2 p115) (if_nt (q_ng p125) (if_pos p132)))))))⟩, by rw [ht]; exact hP, va_K.moved hW.alike hK, hD⟩, hS.F ht⟩) hS.2.2 d_PathCheck_faultAt_145
                  · have p125 : ¬ (((ν (as.getD k 0)).2.2.2.2.2.2.2.2.2.2.2.1) ≤ (0 : Int32)) := c125
                    refine lv_bipush (v := 6) hx hb d_PathCheck_faultAt_128 (by decide) ?_
                    exact W.iret (v := 6) hx hb hr (fun t ht hW => ⟨⟨_, G_10, rfl, ⟨ν74_10, hNν74_10, ⟨_, eν74_10⟩, ⟨_, hL74, hTy⟩, hFR, Eq.symm (if_nt (fun q9 => q9 p47) (if_nt (fun q9 => q9.elim p61.1 p61.2) (if_nt p77 (if_nt (fun q9 => absurd q9.1 (k01_n p86)) (if_nt (fun q9 => q9.2 p115) (if_pos (q_gt p125)))))))⟩, by rw [ht]; exact hP, va_K.moved hW.alike hK, hD⟩, hS.F ht⟩) hS.2.2 d_PathCheck_faultAt_130
                · have p115 : ¬ (namQ (cO κ ν ω) as k) := (zP_0.mp c115)
                  refine lv_iconst (v := 5) hx hb d_PathCheck_faultAt_118 (by decide) ?_
                  exact W.iret (v := 5) hx hb hr (fun t ht hW => ⟨⟨_, G_10, rfl, ⟨ν74_10, hNν74_10, ⟨_, eν74_10⟩, ⟨_, hL74, hTy⟩, hFR, Eq.symm (if_nt (fun q9 => q9 p47) (if_nt (fun q9 => q9.elim p61.1 p61.2) (if_nt p77 (if_nt (fun q9 => absurd q9.1 (k01_n p86)) (if_pos ⟨Or.inl p99, p115⟩)))))⟩, by rw [ht]; exact hP, va_K.moved hW.alike hK, hD⟩, hS.F ht⟩) hS.2.2 d_PathCheck_faultAt_119
              · have p99 : ¬ (k = 0) := (fun q9 => c99 ((nI_eq (a := k) (b := 0) (by omega) (by omega)).mpr q9))
                refine lv_aload hx hb d_PathCheck_faultAt_102 (lv_at hl 1 rfl) ?_
                obtain ⟨i_13, bo_13, K_13, B_13, kbo_13, wl_13, hg_13⟩ := ty_8x hTy ks_2
                obtain ⟨⟨A_13, knm_13⟩, kpe_13, kec_13, kse_13, ksu_13, kmo_13, kok_13, kik_13, kha_13, ksi_13, ken_13, ksg_13, kis_13⟩ := K_13
                have knm_13 := tK.fiv ⟨_, _, knm_13⟩
                have kpe_13 := tK.fiv kpe_13
                have kec_13 := tK.fiv kec_13
                have ksu_13 := tK.two ksu_13
                have kmo_13 := tK.two kmo_13
                have kok_13 := tK.two kok_13
                have kik_13 := tK.two kik_13
                have ksg_13 := tK.two ksg_13
                have kis_13 := tK.two kis_13
                rw [show ν74_10 (as.getD k 0) = ν (as.getD k 0) from hNν74_10 _ (q_nek ks_2 kh (by simp))] at hg_13 B_13
                refine va_get (v := .int ((ν (as.getD k 0)).2.2.2.2.2.2.2.1)) hx hb htb i_Certificate hown hK hP i_13 hg_13 rfl 15 (by decide) (htb _ q2_181) (fun _ h9 => h9) rfl d_PathCheck_faultAt_104 ?_
                refine lv_if_ne (tgt := 120) hx hb d_PathCheck_faultAt_107 (by decide) (fun c107 => ?_) (fun c107 => ?_)
                · have p107 : ¬ (((ν (as.getD k 0)).2.2.2.2.2.2.2.1) = (0 : Int32)) := c107
                  refine lv_aload hx hb d_PathCheck_faultAt_120 (lv_at hl 1 rfl) ?_
                  refine va_get (v := .int ((ν (as.getD k 0)).2.2.2.2.2.2.2.2.2.2.2.1)) hx hb htb i_Certificate hown hK hP i_13 hg_13 rfl 27 (by decide) (htb _ q2_234) (fun x9 h9 => u_same (htb _ q2_232) x9 h9) rfl d_PathCheck_faultAt_122 ?_
                  refine lv_if_le (tgt := 131) hx hb d_PathCheck_faultAt_125 (by decide) (fun c125 => ?_) (fun c125 => ?_)
                  · have p125 : ((ν (as.getD k 0)).2.2.2.2.2.2.2.2.2.2.2.1) ≤ (0 : Int32) := c125
                    refine lv_iload_n hx hb d_PathCheck_faultAt_131 rfl (lv_at hl 4 rfl) ?_
                    refine lv_if_ne (tgt := 139) hx hb d_PathCheck_faultAt_132 (by decide) (fun c132 => ?_) (fun c132 => ?_)
                    · have p132 : ¬ (k = 0) := (fun q9 => c132 ((nI_eq (a := k) (b := 0) (by omega) (by omega)).mpr q9))
                      refine lv_aload_n hx hb d_PathCheck_faultAt_139 rfl (lv_at hl 2 rfl) ?_
                      refine lv_aload_n hx hb d_PathCheck_faultAt_140 rfl (lv_at hl 3 rfl) ?_
                      refine lv_iload_n hx hb d_PathCheck_faultAt_141 rfl (lv_at hl 4 rfl) ?_
                      refine vp_callSi (pu_callV (As := [.ref p9, .int (nI k)]) (rest := []) ⟨hx, hb, hml, hown, hts⟩ tbin (p_PathCheck_faultAsIssuer l dC dI sb γ κ Ad ν74_10 ω L74 G_10 h p9 _ _ _ hTy kh kp9 (by omega) (YC_nu hTk hNν74_10 hY)) q6_115 q6_117 qp_33 q1_8 q6_118 (n := 2) (by decide +kernel) rfl ⟨rfl, rfl⟩ ⟨Nat.le_of_ble_eq_true rfl, Nat.le_of_ble_eq_true rfl⟩ ⟨Nat.le_of_ble_eq_true rfl, Nat.le_of_ble_eq_true rfl⟩ hN (hT0.keep hS hAs) hK hP (List.range G_10.length) (rg_all G_10) [0, 1, 2, 3] rfl i_11 9 hg_11 rfl rfl hl.1 rfl (Nat.le_of_ble_eq_true rfl) d_PathCheck_faultAt_142) (fun r142 hr142 => ?_)
                      obtain rfl : r142 = issQ (cO κ ν ω) as k := hr142.trans (issQ_c (C := cO κ ν74_10 ω) (C' := (cO κ ν ω)) (by omega) (fun j9 hj9 => cO_nu (hNν74_10 _ (pl_ne (a := 0) kp9 hj9 kh))))
                      exact W.iret (v := issQ (cO κ ν ω) as k) hx hb hr (fun t ht hW => ⟨⟨_, G_10, rfl, ⟨ν74_10, hNν74_10, ⟨_, eν74_10⟩, ⟨_, hL74, hTy⟩, hFR, Eq.symm (if_nt (fun q9 => q9 p47) (if_nt (fun q9 => q9.elim p61.1 p61.2) (if_nt p77 (if_nt (fun q9 => absurd q9.1 (k01_n p86)) (if_nt (fun q9 => q9.1.elim p99 (fun z9 => z9 (own_y hY9 p107))) (if_nt (q_ng p125) (if_neg p132)))))))⟩, by rw [ht]; exact hP, va_K.moved hW.alike hK, hD⟩, hS.F ht⟩) hS.2.2 d_PathCheck_faultAt_145
                    · have p132 : k = 0 := ((nI_eq (a := k) (b := 0) (by omega) (by omega)).mp c132)
                      refine lv_iconst (v := 0) hx hb d_PathCheck_faultAt_135 (by decide) ?_
                      refine lv_goto (tgt := 145) hx hb d_PathCheck_faultAt_136 (by decide) ?_
                      exact W.iret (v := 0) hx hb hr (fun t ht hW => ⟨⟨_, G_10, rfl, ⟨ν74_10, hNν74_10, ⟨_, eν74_10⟩, ⟨_, hL74, hTy⟩, hFR, Eq.symm (if_nt (fun q9 => q9 p47) (if_nt (fun q9 => q9.elim p61.1 p61.2) (if_nt p77 (if_nt (fun q9 => absurd q9.1 (k01_n p86)) (if_nt (fun q9 => q9.1.elim p99 (fun z9 => z9 (own_y hY9 p107))) (if_nt (q_ng p125) (if_pos p132)))))))⟩, by rw [ht]; exact hP, va_K.moved hW.alike hK, hD⟩, hS.F ht⟩) hS.2.2 d_PathCheck_faultAt_145
                  · have p125 : ¬ (((ν (as.getD k 0)).2.2.2.2.2.2.2.2.2.2.2.1) ≤ (0 : Int32)) := c125
                    refine lv_bipush (v := 6) hx hb d_PathCheck_faultAt_128 (by decide) ?_
                    exact W.iret (v := 6) hx hb hr (fun t ht hW => ⟨⟨_, G_10, rfl, ⟨ν74_10, hNν74_10, ⟨_, eν74_10⟩, ⟨_, hL74, hTy⟩, hFR, Eq.symm (if_nt (fun q9 => q9 p47) (if_nt (fun q9 => q9.elim p61.1 p61.2) (if_nt p77 (if_nt (fun q9 => absurd q9.1 (k01_n p86)) (if_nt (fun q9 => q9.1.elim p99 (fun z9 => z9 (own_y hY9 p107))) (if_pos (q_gt p125)))))))⟩, by rw [ht]; exact hP, va_K.moved hW.alike hK, hD⟩, hS.F ht⟩) hS.2.2 d_PathCheck_faultAt_130
                · have p107 : ((ν (as.getD k 0)).2.2.2.2.2.2.2.1) = (0 : Int32) := c107
                  refine lv_aload_n hx hb d_PathCheck_faultAt_110 rfl (lv_at hl 3 rfl) ?_
                  refine lv_iload_n hx hb d_PathCheck_faultAt_111 rfl (lv_at hl 4 rfl) ?_
                  refine vp_callSi (pu_callS (As := [.ref p9, .int (nI k)]) (rest := []) ⟨hx, hb, hml, hown, hts⟩ tbin (p_PathCheck_isNameAllowed l dC dI sb γ κ Ad ν74_10 ω L74 G_10 p9 _ _ _ hTy kp9 (by omega)) q6_81 q6_82 q1_8 q6_83 (n := 2) (by decide +kernel) rfl ⟨rfl, rfl⟩ ⟨Nat.le_of_ble_eq_true rfl, Nat.le_of_ble_eq_true rfl⟩ ⟨Nat.le_of_ble_eq_true rfl, Nat.le_of_ble_eq_true rfl⟩ hN (hT0.keep hS hAs) hK hP (List.range G_10.length) (rg_all G_10) [0, 1, 2, 3] rfl hl.1 rfl (Nat.le_of_ble_eq_true rfl) d_PathCheck_faultAt_112) (fun r112 hr112 => ?_)
                  obtain rfl : r112 = zP (namQ (cO κ ν ω) as k) := hr112.trans (zP_g (namQ_c (C := cO κ ν74_10 ω) (C' := (cO κ ν ω)) (by omega) (fun j9 hj9 => cO_nu (hNν74_10 _ (pl_ne (a := 0) kp9 hj9 kh)))))
                  refine lv_if_ne (tgt := 120) hx hb d_PathCheck_faultAt_115 (by decide) (fun c115 => ?_) (fun c115 => ?_)
                  · have p115 : namQ (cO κ ν ω) as k := (zP_1 c115)
                    refine lv_aload hx hb d_PathCheck_faultAt_120 (lv_at hl 1 rfl) ?_
                    refine va_get (v := .int ((ν (as.getD k 0)).2.2.2.2.2.2.2.2.2.2.2.1)) hx hb htb i_Certificate hown hK hP i_13 hg_13 rfl 27 (by decide) (htb _ q2_234) (fun x9 h9 => u_same (htb _ q2_232) x9 h9) rfl d_PathCheck_faultAt_122 ?_
                    refine lv_if_le (tgt := 131) hx hb d_PathCheck_faultAt_125 (by decide) (fun c125 => ?_) (fun c125 => ?_)
                    · have p125 : ((ν (as.getD k 0)).2.2.2.2.2.2.2.2.2.2.2.1) ≤ (0 : Int32) := c125
                      refine lv_iload_n hx hb d_PathCheck_faultAt_131 rfl (lv_at hl 4 rfl) ?_
                      refine lv_if_ne (tgt := 139) hx hb d_PathCheck_faultAt_132 (by decide) (fun c132 => ?_) (fun c132 => ?_)
                      · have p132 : ¬ (k = 0) := (fun q9 => c132 ((nI_eq (a := k) (b := 0) (by omega) (by omega)).mpr q9))
                        refine lv_aload_n hx hb d_PathCheck_faultAt_139 rfl (lv_at hl 2 rfl) ?_
                        refine lv_aload_n hx hb d_PathCheck_faultAt_140 rfl (lv_at hl 3 rfl) ?_
                        refine lv_iload_n hx hb d_PathCheck_faultAt_141 rfl (lv_at hl 4 rfl) ?_
                        refine vp_callSi (pu_callV (As := [.ref p9, .int (nI k)]) (rest := []) ⟨hx, hb, hml, hown, hts⟩ tbin (p_PathCheck_faultAsIssuer l dC dI sb γ κ Ad ν74_10 ω L74 G_10 h p9 _ _ _ hTy kh kp9 (by omega) (YC_nu hTk hNν74_10 hY)) q6_115 q6_117 qp_33 q1_8 q6_118 (n := 2) (by decide +kernel) rfl ⟨rfl, rfl⟩ ⟨Nat.le_of_ble_eq_true rfl, Nat.le_of_ble_eq_true rfl⟩ ⟨Nat.le_of_ble_eq_true rfl, Nat.le_of_ble_eq_true rfl⟩ hN (hT0.keep hS hAs) hK hP (List.range G_10.length) (rg_all G_10) [0, 1, 2, 3] rfl i_11 9 hg_11 rfl rfl hl.1 rfl (Nat.le_of_ble_eq_true rfl) d_PathCheck_faultAt_142) (fun r142 hr142 => ?_)
                        obtain rfl : r142 = issQ (cO κ ν ω) as k := hr142.trans (issQ_c (C := cO κ ν74_10 ω) (C' := (cO κ ν ω)) (by omega) (fun j9 hj9 => cO_nu (hNν74_10 _ (pl_ne (a := 0) kp9 hj9 kh))))
                        exact W.iret (v := issQ (cO κ ν ω) as k) hx hb hr (fun t ht hW => ⟨⟨_, G_10, rfl, ⟨ν74_10, hNν74_10, ⟨_, eν74_10⟩, ⟨_, hL74, hTy⟩, hFR, Eq.symm (if_nt (fun q9 => q9 p47) (if_nt (fun q9 => q9.elim p61.1 p61.2) (if_nt p77 (if_nt (fun q9 => absurd q9.1 (k01_n p86)) (if_nt (fun q9 => q9.2 p115) (if_nt (q_ng p125) (if_neg p132)))))))⟩, by rw [ht]; exact hP, va_K.moved hW.alike hK, hD⟩, hS.F ht⟩) hS.2.2 d_PathCheck_faultAt_145
                      · have p132 : k = 0 := ((nI_eq (a := k) (b := 0) (by omega) (by omega)).mp c132)
                        refine lv_iconst (v := 0) hx hb d_PathCheck_faultAt_135 (by decide) ?_
                        refine lv_goto (tgt := 145) hx hb d_PathCheck_faultAt_136 (by decide) ?_
                        exact W.iret (v := 0) hx hb hr (fun t ht hW => ⟨⟨_, G_10, rfl, ⟨ν74_10, hNν74_10, ⟨_, eν74_10⟩, ⟨_, hL74, hTy⟩, hFR, Eq.symm (if_nt (fun q9 => q9 p47) (if_nt (fun q9 => q9.elim p61.1 p61.2) (if_nt p77 (if_nt (fun q9 => absurd q9.1 (k01_n p86)) (if_nt (fun q9 => q9.2 p115) (if_nt (q_ng p125) (if_pos p132)))))))⟩, by rw [ht]; exact hP, va_K.moved hW.alike hK, hD⟩, hS.F ht⟩) hS.2.2 d_PathCheck_faultAt_145
                    · have p125 : ¬ (((ν (as.getD k 0)).2.2.2.2.2.2.2.2.2.2.2.1) ≤ (0 : Int32)) := c125
                      refine lv_bipush (v := 6) hx hb d_PathCheck_faultAt_128 (by decide) ?_
                      exact W.iret (v := 6) hx hb hr (fun t ht hW => ⟨⟨_, G_10, rfl, ⟨ν74_10, hNν74_10, ⟨_, eν74_10⟩, ⟨_, hL74, hTy⟩, hFR, Eq.symm (if_nt (fun q9 => q9 p47) (if_nt (fun q9 => q9.elim p61.1 p61.2) (if_nt p77 (if_nt (fun q9 => absurd q9.1 (k01_n p86)) (if_nt (fun q9 => q9.2 p115) (if_pos (q_gt p125)))))))⟩, by rw [ht]; exact hP, va_K.moved hW.alike hK, hD⟩, hS.F ht⟩) hS.2.2 d_PathCheck_faultAt_130
                  · have p115 : ¬ (namQ (cO κ ν ω) as k) := (zP_0.mp c115)
                    refine lv_iconst (v := 5) hx hb d_PathCheck_faultAt_118 (by decide) ?_
                    exact W.iret (v := 5) hx hb hr (fun t ht hW => ⟨⟨_, G_10, rfl, ⟨ν74_10, hNν74_10, ⟨_, eν74_10⟩, ⟨_, hL74, hTy⟩, hFR, Eq.symm (if_nt (fun q9 => q9 p47) (if_nt (fun q9 => q9.elim p61.1 p61.2) (if_nt p77 (if_nt (fun q9 => absurd q9.1 (k01_n p86)) (if_pos ⟨Or.inr (own_n hY9 p107), p115⟩)))))⟩, by rw [ht]; exact hP, va_K.moved hW.alike hK, hD⟩, hS.F ht⟩) hS.2.2 d_PathCheck_faultAt_119
            · have p86 : ¬ (((ν h).2.1) = (0 : Int32)) := c86
              refine lv_aload_n hx hb d_PathCheck_faultAt_89 rfl (lv_at hl 2 rfl) ?_
              refine va_get (v := .int (zP (knoQ (cO κ ν ω) (fun l9 => qO κ ν ω ((ω qs).getD l9 0)) (ω qs).length (fun l9 s9 => SGX κ ν ω ((ω qs).getD l9 0) s9) (ν h).2.2.2.2.2.2.2.2.2.1 (as.getD k 0) (as.getD (k + 1) 0)))) hx hb htb i_PathCheck hown hK hP i_11 hg_11 rfl 3 (by decide) (htb _ q1_146) (fun _ h9 => h9) rfl d_PathCheck_faultAt_90 ?_
              refine lv_if_ne (tgt := 98) hx hb d_PathCheck_faultAt_93 (by decide) (fun c93 => ?_) (fun c93 => ?_)
              · have p93 : knoQ (cO κ ν ω) (fun l9 => qO κ ν ω ((ω qs).getD l9 0)) (ω qs).length (fun l9 s9 => SGX κ ν ω ((ω qs).getD l9 0) s9) (ν h).2.2.2.2.2.2.2.2.2.1 (as.getD k 0) (as.getD (k + 1) 0) := (zP_1 c93)
                have hY9 := hY _ _ _ ks_2
                refine lv_iload_n hx hb d_PathCheck_faultAt_98 rfl (lv_at hl 4 rfl) ?_
                refine lv_if_eq (tgt := 110) hx hb d_PathCheck_faultAt_99 (by decide) (fun c99 => ?_) (fun c99 => ?_)
                · have p99 : k = 0 := ((nI_eq (a := k) (b := 0) (by omega) (by omega)).mp c99)
                  refine lv_aload_n hx hb d_PathCheck_faultAt_110 rfl (lv_at hl 3 rfl) ?_
                  refine lv_iload_n hx hb d_PathCheck_faultAt_111 rfl (lv_at hl 4 rfl) ?_
                  refine vp_callSi (pu_callS (As := [.ref p9, .int (nI k)]) (rest := []) ⟨hx, hb, hml, hown, hts⟩ tbin (p_PathCheck_isNameAllowed l dC dI sb γ κ Ad ν74_10 ω L74 G_10 p9 _ _ _ hTy kp9 (by omega)) q6_81 q6_82 q1_8 q6_83 (n := 2) (by decide +kernel) rfl ⟨rfl, rfl⟩ ⟨Nat.le_of_ble_eq_true rfl, Nat.le_of_ble_eq_true rfl⟩ ⟨Nat.le_of_ble_eq_true rfl, Nat.le_of_ble_eq_true rfl⟩ hN (hT0.keep hS hAs) hK hP (List.range G_10.length) (rg_all G_10) [0, 1, 2, 3] rfl hl.1 rfl (Nat.le_of_ble_eq_true rfl) d_PathCheck_faultAt_112) (fun r112 hr112 => ?_)
                  obtain rfl : r112 = zP (namQ (cO κ ν ω) as k) := hr112.trans (zP_g (namQ_c (C := cO κ ν74_10 ω) (C' := (cO κ ν ω)) (by omega) (fun j9 hj9 => cO_nu (hNν74_10 _ (pl_ne (a := 0) kp9 hj9 kh)))))
                  refine lv_if_ne (tgt := 120) hx hb d_PathCheck_faultAt_115 (by decide) (fun c115 => ?_) (fun c115 => ?_)
                  · have p115 : namQ (cO κ ν ω) as k := (zP_1 c115)
                    refine lv_aload hx hb d_PathCheck_faultAt_120 (lv_at hl 1 rfl) ?_
                    obtain ⟨i_14, bo_14, K_14, B_14, kbo_14, wl_14, hg_14⟩ := ty_8x hTy ks_2
                    obtain ⟨⟨A_14, knm_14⟩, kpe_14, kec_14, kse_14, ksu_14, kmo_14, kok_14, kik_14, kha_14, ksi_14, ken_14, ksg_14, kis_14⟩ := K_14
                    have knm_14 := tK.fiv ⟨_, _, knm_14⟩
                    have kpe_14 := tK.fiv kpe_14
                    have kec_14 := tK.fiv kec_14
                    have ksu_14 := tK.two ksu_14
                    have kmo_14 := tK.two kmo_14
                    have kok_14 := tK.two kok_14
                    have kik_14 := tK.two kik_14
                    have ksg_14 := tK.two ksg_14
                    have kis_14 := tK.two kis_14
                    rw [show ν74_10 (as.getD k 0) = ν (as.getD k 0) from hNν74_10 _ (q_nek ks_2 kh (by simp))] at hg_14 B_14
                    refine va_get (v := .int ((ν (as.getD k 0)).2.2.2.2.2.2.2.2.2.2.2.1)) hx hb htb i_Certificate hown hK hP i_14 hg_14 rfl 27 (by decide) (htb _ q2_234) (fun x9 h9 => u_same (htb _ q2_232) x9 h9) rfl d_PathCheck_faultAt_122 ?_
                    refine lv_if_le (tgt := 131) hx hb d_PathCheck_faultAt_125 (by decide) (fun c125 => ?_) (fun c125 => ?_)
                    · have p125 : ((ν (as.getD k 0)).2.2.2.2.2.2.2.2.2.2.2.1) ≤ (0 : Int32) := c125
                      refine lv_iload_n hx hb d_PathCheck_faultAt_131 rfl (lv_at hl 4 rfl) ?_
                      refine lv_if_ne (tgt := 139) hx hb d_PathCheck_faultAt_132 (by decide) (fun c132 => ?_) (fun c132 => ?_)
                      · have p132 : ¬ (k = 0) := (fun q9 => c132 ((nI_eq (a := k) (b := 0) (by omega) (by omega)).mpr q9))
                        refine lv_aload_n hx hb d_PathCheck_faultAt_139 rfl (lv_at hl 2 rfl) ?_
                        refine lv_aload_n hx hb d_PathCheck_faultAt_140 rfl (lv_at hl 3 rfl) ?_
                        refine lv_iload_n hx hb d_PathCheck_faultAt_141 rfl (lv_at hl 4 rfl) ?_
                        refine vp_callSi (pu_callV (As := [.ref p9, .int (nI k)]) (rest := []) ⟨hx, hb, hml, hown, hts⟩ tbin (p_PathCheck_faultAsIssuer l dC dI sb γ κ Ad ν74_10 ω L74 G_10 h p9 _ _ _ hTy kh kp9 (by omega) (YC_nu hTk hNν74_10 hY)) q6_115 q6_117 qp_33 q1_8 q6_118 (n := 2) (by decide +kernel) rfl ⟨rfl, rfl⟩ ⟨Nat.le_of_ble_eq_true rfl, Nat.le_of_ble_eq_true rfl⟩ ⟨Nat.le_of_ble_eq_true rfl, Nat.le_of_ble_eq_true rfl⟩ hN (hT0.keep hS hAs) hK hP (List.range G_10.length) (rg_all G_10) [0, 1, 2, 3] rfl i_11 9 hg_11 rfl rfl hl.1 rfl (Nat.le_of_ble_eq_true rfl) d_PathCheck_faultAt_142) (fun r142 hr142 => ?_)
                        obtain rfl : r142 = issQ (cO κ ν ω) as k := hr142.trans (issQ_c (C := cO κ ν74_10 ω) (C' := (cO κ ν ω)) (by omega) (fun j9 hj9 => cO_nu (hNν74_10 _ (pl_ne (a := 0) kp9 hj9 kh))))
                        exact W.iret (v := issQ (cO κ ν ω) as k) hx hb hr (fun t ht hW => ⟨⟨_, G_10, rfl, ⟨ν74_10, hNν74_10, ⟨_, eν74_10⟩, ⟨_, hL74, hTy⟩, hFR, Eq.symm (if_nt (fun q9 => q9 p47) (if_nt (fun q9 => q9.elim p61.1 p61.2) (if_nt p77 (if_nt (fun q9 => q9.2 p93) (if_nt (fun q9 => q9.2 p115) (if_nt (q_ng p125) (if_neg p132)))))))⟩, by rw [ht]; exact hP, va_K.moved hW.alike hK, hD⟩, hS.F ht⟩) hS.2.2 d_PathCheck_faultAt_145
                      · have p132 : k = 0 := ((nI_eq (a := k) (b := 0) (by omega) (by omega)).mp c132)
                        refine lv_iconst (v := 0) hx hb d_PathCheck_faultAt_135 (by decide) ?_
                        refine lv_goto (tgt := 145) hx hb d_PathCheck_faultAt_136 (by decide) ?_
                        exact W.iret (v := 0) hx hb hr (fun t ht hW => ⟨⟨_, G_10, rfl, ⟨ν74_10, hNν74_10, ⟨_, eν74_10⟩, ⟨_, hL74, hTy⟩, hFR, Eq.symm (if_nt (fun q9 => q9 p47) (if_nt (fun q9 => q9.elim p61.1 p61.2) (if_nt p77 (if_nt (fun q9 => q9.2 p93) (if_nt (fun q9 => q9.2 p115) (if_nt (q_ng p125) (if_pos p132)))))))⟩, by rw [ht]; exact hP, va_K.moved hW.alike hK, hD⟩, hS.F ht⟩) hS.2.2 d_PathCheck_faultAt_145
                    · have p125 : ¬ (((ν (as.getD k 0)).2.2.2.2.2.2.2.2.2.2.2.1) ≤ (0 : Int32)) := c125
                      refine lv_bipush (v := 6) hx hb d_PathCheck_faultAt_128 (by decide) ?_
                      exact W.iret (v := 6) hx hb hr (fun t ht hW => ⟨⟨_, G_10, rfl, ⟨ν74_10, hNν74_10, ⟨_, eν74_10⟩, ⟨_, hL74, hTy⟩, hFR, Eq.symm (if_nt (fun q9 => q9 p47) (if_nt (fun q9 => q9.elim p61.1 p61.2) (if_nt p77 (if_nt (fun q9 => q9.2 p93) (if_nt (fun q9 => q9.2 p115) (if_pos (q_gt p125)))))))⟩, by rw [ht]; exact hP, va_K.moved hW.alike hK, hD⟩, hS.F ht⟩) hS.2.2 d_PathCheck_faultAt_130
                  · have p115 : ¬ (namQ (cO κ ν ω) as k) := (zP_0.mp c115)
                    refine lv_iconst (v := 5) hx hb d_PathCheck_faultAt_118 (by decide) ?_
                    exact W.iret (v := 5) hx hb hr (fun t ht hW => ⟨⟨_, G_10, rfl, ⟨ν74_10, hNν74_10, ⟨_, eν74_10⟩, ⟨_, hL74, hTy⟩, hFR, Eq.symm (if_nt (fun q9 => q9 p47) (if_nt (fun q9 => q9.elim p61.1 p61.2) (if_nt p77 (if_nt (fun q9 => q9.2 p93) (if_pos ⟨Or.inl p99, p115⟩)))))⟩, by rw [ht]; exact hP, va_K.moved hW.alike hK, hD⟩, hS.F ht⟩) hS.2.2 d_PathCheck_faultAt_119
                · have p99 : ¬ (k = 0) := (fun q9 => c99 ((nI_eq (a := k) (b := 0) (by omega) (by omega)).mpr q9))
                  refine lv_aload hx hb d_PathCheck_faultAt_102 (lv_at hl 1 rfl) ?_
                  obtain ⟨i_15, bo_15, K_15, B_15, kbo_15, wl_15, hg_15⟩ := ty_8x hTy ks_2
                  obtain ⟨⟨A_15, knm_15⟩, kpe_15, kec_15, kse_15, ksu_15, kmo_15, kok_15, kik_15, kha_15, ksi_15, ken_15, ksg_15, kis_15⟩ := K_15
                  have knm_15 := tK.fiv ⟨_, _, knm_15⟩
                  have kpe_15 := tK.fiv kpe_15
                  have kec_15 := tK.fiv kec_15
                  have ksu_15 := tK.two ksu_15
                  have kmo_15 := tK.two kmo_15
                  have kok_15 := tK.two kok_15
                  have kik_15 := tK.two kik_15
                  have ksg_15 := tK.two ksg_15
                  have kis_15 := tK.two kis_15
                  rw [show ν74_10 (as.getD k 0) = ν (as.getD k 0) from hNν74_10 _ (q_nek ks_2 kh (by simp))] at hg_15 B_15
                  refine va_get (v := .int ((ν (as.getD k 0)).2.2.2.2.2.2.2.1)) hx hb htb i_Certificate hown hK hP i_15 hg_15 rfl 15 (by decide) (htb _ q2_181) (fun _ h9 => h9) rfl d_PathCheck_faultAt_104 ?_
                  refine lv_if_ne (tgt := 120) hx hb d_PathCheck_faultAt_107 (by decide) (fun c107 => ?_) (fun c107 => ?_)
                  · have p107 : ¬ (((ν (as.getD k 0)).2.2.2.2.2.2.2.1) = (0 : Int32)) := c107
                    refine lv_aload hx hb d_PathCheck_faultAt_120 (lv_at hl 1 rfl) ?_
                    refine va_get (v := .int ((ν (as.getD k 0)).2.2.2.2.2.2.2.2.2.2.2.1)) hx hb htb i_Certificate hown hK hP i_15 hg_15 rfl 27 (by decide) (htb _ q2_234) (fun x9 h9 => u_same (htb _ q2_232) x9 h9) rfl d_PathCheck_faultAt_122 ?_
                    refine lv_if_le (tgt := 131) hx hb d_PathCheck_faultAt_125 (by decide) (fun c125 => ?_) (fun c125 => ?_)
                    · have p125 : ((ν (as.getD k 0)).2.2.2.2.2.2.2.2.2.2.2.1) ≤ (0 : Int32) := c125
                      refine lv_iload_n hx hb d_PathCheck_faultAt_131 rfl (lv_at hl 4 rfl) ?_
                      refine lv_if_ne (tgt := 139) hx hb d_PathCheck_faultAt_132 (by decide) (fun c132 => ?_) (fun c132 => ?_)
                      · have p132 : ¬ (k = 0) := (fun q9 => c132 ((nI_eq (a := k) (b := 0) (by omega) (by omega)).mpr q9))
                        refine lv_aload_n hx hb d_PathCheck_faultAt_139 rfl (lv_at hl 2 rfl) ?_
                        refine lv_aload_n hx hb d_PathCheck_faultAt_140 rfl (lv_at hl 3 rfl) ?_
                        refine lv_iload_n hx hb d_PathCheck_faultAt_141 rfl (lv_at hl 4 rfl) ?_
                        refine vp_callSi (pu_callV (As := [.ref p9, .int (nI k)]) (rest := []) ⟨hx, hb, hml, hown, hts⟩ tbin (p_PathCheck_faultAsIssuer l dC dI sb γ κ Ad ν74_10 ω L74 G_10 h p9 _ _ _ hTy kh kp9 (by omega) (YC_nu hTk hNν74_10 hY)) q6_115 q6_117 qp_33 q1_8 q6_118 (n := 2) (by decide +kernel) rfl ⟨rfl, rfl⟩ ⟨Nat.le_of_ble_eq_true rfl, Nat.le_of_ble_eq_true rfl⟩ ⟨Nat.le_of_ble_eq_true rfl, Nat.le_of_ble_eq_true rfl⟩ hN (hT0.keep hS hAs) hK hP (List.range G_10.length) (rg_all G_10) [0, 1, 2, 3] rfl i_11 9 hg_11 rfl rfl hl.1 rfl (Nat.le_of_ble_eq_true rfl) d_PathCheck_faultAt_142) (fun r142 hr142 => ?_)
                        obtain rfl : r142 = issQ (cO κ ν ω) as k := hr142.trans (issQ_c (C := cO κ ν74_10 ω) (C' := (cO κ ν ω)) (by omega) (fun j9 hj9 => cO_nu (hNν74_10 _ (pl_ne (a := 0) kp9 hj9 kh))))
                        exact W.iret (v := issQ (cO κ ν ω) as k) hx hb hr (fun t ht hW => ⟨⟨_, G_10, rfl, ⟨ν74_10, hNν74_10, ⟨_, eν74_10⟩, ⟨_, hL74, hTy⟩, hFR, Eq.symm (if_nt (fun q9 => q9 p47) (if_nt (fun q9 => q9.elim p61.1 p61.2) (if_nt p77 (if_nt (fun q9 => q9.2 p93) (if_nt (fun q9 => q9.1.elim p99 (fun z9 => z9 (own_y hY9 p107))) (if_nt (q_ng p125) (if_neg p132)))))))⟩, by rw [ht]; exact hP, va_K.moved hW.alike hK, hD⟩, hS.F ht⟩) hS.2.2 d_PathCheck_faultAt_145
                      · have p132 : k = 0 := ((nI_eq (a := k) (b := 0) (by omega) (by omega)).mp c132)
                        refine lv_iconst (v := 0) hx hb d_PathCheck_faultAt_135 (by decide) ?_
                        refine lv_goto (tgt := 145) hx hb d_PathCheck_faultAt_136 (by decide) ?_
                        exact W.iret (v := 0) hx hb hr (fun t ht hW => ⟨⟨_, G_10, rfl, ⟨ν74_10, hNν74_10, ⟨_, eν74_10⟩, ⟨_, hL74, hTy⟩, hFR, Eq.symm (if_nt (fun q9 => q9 p47) (if_nt (fun q9 => q9.elim p61.1 p61.2) (if_nt p77 (if_nt (fun q9 => q9.2 p93) (if_nt (fun q9 => q9.1.elim p99 (fun z9 => z9 (own_y hY9 p107))) (if_nt (q_ng p125) (if_pos p132)))))))⟩, by rw [ht]; exact hP, va_K.moved hW.alike hK, hD⟩, hS.F ht⟩) hS.2.2 d_PathCheck_faultAt_145
                    · have p125 : ¬ (((ν (as.getD k 0)).2.2.2.2.2.2.2.2.2.2.2.1) ≤ (0 : Int32)) := c125
                      refine lv_bipush (v := 6) hx hb d_PathCheck_faultAt_128 (by decide) ?_
                      exact W.iret (v := 6) hx hb hr (fun t ht hW => ⟨⟨_, G_10, rfl, ⟨ν74_10, hNν74_10, ⟨_, eν74_10⟩, ⟨_, hL74, hTy⟩, hFR, Eq.symm (if_nt (fun q9 => q9 p47) (if_nt (fun q9 => q9.elim p61.1 p61.2) (if_nt p77 (if_nt (fun q9 => q9.2 p93) (if_nt (fun q9 => q9.1.elim p99 (fun z9 => z9 (own_y hY9 p107))) (if_pos (q_gt p125)))))))⟩, by rw [ht]; exact hP, va_K.moved hW.alike hK, hD⟩, hS.F ht⟩) hS.2.2 d_PathCheck_faultAt_130
                  · have p107 : ((ν (as.getD k 0)).2.2.2.2.2.2.2.1) = (0 : Int32) := c107
                    refine lv_aload_n hx hb d_PathCheck_faultAt_110 rfl (lv_at hl 3 rfl) ?_
                    refine lv_iload_n hx hb d_PathCheck_faultAt_111 rfl (lv_at hl 4 rfl) ?_
                    refine vp_callSi (pu_callS (As := [.ref p9, .int (nI k)]) (rest := []) ⟨hx, hb, hml, hown, hts⟩ tbin (p_PathCheck_isNameAllowed l dC dI sb γ κ Ad ν74_10 ω L74 G_10 p9 _ _ _ hTy kp9 (by omega)) q6_81 q6_82 q1_8 q6_83 (n := 2) (by decide +kernel) rfl ⟨rfl, rfl⟩ ⟨Nat.le_of_ble_eq_true rfl, Nat.le_of_ble_eq_true rfl⟩ ⟨Nat.le_of_ble_eq_true rfl, Nat.le_of_ble_eq_true rfl⟩ hN (hT0.keep hS hAs) hK hP (List.range G_10.length) (rg_all G_10) [0, 1, 2, 3] rfl hl.1 rfl (Nat.le_of_ble_eq_true rfl) d_PathCheck_faultAt_112) (fun r112 hr112 => ?_)
                    obtain rfl : r112 = zP (namQ (cO κ ν ω) as k) := hr112.trans (zP_g (namQ_c (C := cO κ ν74_10 ω) (C' := (cO κ ν ω)) (by omega) (fun j9 hj9 => cO_nu (hNν74_10 _ (pl_ne (a := 0) kp9 hj9 kh)))))
                    refine lv_if_ne (tgt := 120) hx hb d_PathCheck_faultAt_115 (by decide) (fun c115 => ?_) (fun c115 => ?_)
                    · have p115 : namQ (cO κ ν ω) as k := (zP_1 c115)
                      refine lv_aload hx hb d_PathCheck_faultAt_120 (lv_at hl 1 rfl) ?_
                      refine va_get (v := .int ((ν (as.getD k 0)).2.2.2.2.2.2.2.2.2.2.2.1)) hx hb htb i_Certificate hown hK hP i_15 hg_15 rfl 27 (by decide) (htb _ q2_234) (fun x9 h9 => u_same (htb _ q2_232) x9 h9) rfl d_PathCheck_faultAt_122 ?_
                      refine lv_if_le (tgt := 131) hx hb d_PathCheck_faultAt_125 (by decide) (fun c125 => ?_) (fun c125 => ?_)
                      · have p125 : ((ν (as.getD k 0)).2.2.2.2.2.2.2.2.2.2.2.1) ≤ (0 : Int32) := c125
                        refine lv_iload_n hx hb d_PathCheck_faultAt_131 rfl (lv_at hl 4 rfl) ?_
                        refine lv_if_ne (tgt := 139) hx hb d_PathCheck_faultAt_132 (by decide) (fun c132 => ?_) (fun c132 => ?_)
                        · have p132 : ¬ (k = 0) := (fun q9 => c132 ((nI_eq (a := k) (b := 0) (by omega) (by omega)).mpr q9))
                          refine lv_aload_n hx hb d_PathCheck_faultAt_139 rfl (lv_at hl 2 rfl) ?_
                          refine lv_aload_n hx hb d_PathCheck_faultAt_140 rfl (lv_at hl 3 rfl) ?_
                          refine lv_iload_n hx hb d_PathCheck_faultAt_141 rfl (lv_at hl 4 rfl) ?_
                          refine vp_callSi (pu_callV (As := [.ref p9, .int (nI k)]) (rest := []) ⟨hx, hb, hml, hown, hts⟩ tbin (p_PathCheck_faultAsIssuer l dC dI sb γ κ Ad ν74_10 ω L74 G_10 h p9 _ _ _ hTy kh kp9 (by omega) (YC_nu hTk hNν74_10 hY)) q6_115 q6_117 qp_33 q1_8 q6_118 (n := 2) (by decide +kernel) rfl ⟨rfl, rfl⟩ ⟨Nat.le_of_ble_eq_true rfl, Nat.le_of_ble_eq_true rfl⟩ ⟨Nat.le_of_ble_eq_true rfl, Nat.le_of_ble_eq_true rfl⟩ hN (hT0.keep hS hAs) hK hP (List.range G_10.length) (rg_all G_10) [0, 1, 2, 3] rfl i_11 9 hg_11 rfl rfl hl.1 rfl (Nat.le_of_ble_eq_true rfl) d_PathCheck_faultAt_142) (fun r142 hr142 => ?_)
                          obtain rfl : r142 = issQ (cO κ ν ω) as k := hr142.trans (issQ_c (C := cO κ ν74_10 ω) (C' := (cO κ ν ω)) (by omega) (fun j9 hj9 => cO_nu (hNν74_10 _ (pl_ne (a := 0) kp9 hj9 kh))))
                          exact W.iret (v := issQ (cO κ ν ω) as k) hx hb hr (fun t ht hW => ⟨⟨_, G_10, rfl, ⟨ν74_10, hNν74_10, ⟨_, eν74_10⟩, ⟨_, hL74, hTy⟩, hFR, Eq.symm (if_nt (fun q9 => q9 p47) (if_nt (fun q9 => q9.elim p61.1 p61.2) (if_nt p77 (if_nt (fun q9 => q9.2 p93) (if_nt (fun q9 => q9.2 p115) (if_nt (q_ng p125) (if_neg p132)))))))⟩, by rw [ht]; exact hP, va_K.moved hW.alike hK, hD⟩, hS.F ht⟩) hS.2.2 d_PathCheck_faultAt_145
                        · have p132 : k = 0 := ((nI_eq (a := k) (b := 0) (by omega) (by omega)).mp c132)
                          refine lv_iconst (v := 0) hx hb d_PathCheck_faultAt_135 (by decide) ?_
                          refine lv_goto (tgt := 145) hx hb d_PathCheck_faultAt_136 (by decide) ?_
                          exact W.iret (v := 0) hx hb hr (fun t ht hW => ⟨⟨_, G_10, rfl, ⟨ν74_10, hNν74_10, ⟨_, eν74_10⟩, ⟨_, hL74, hTy⟩, hFR, Eq.symm (if_nt (fun q9 => q9 p47) (if_nt (fun q9 => q9.elim p61.1 p61.2) (if_nt p77 (if_nt (fun q9 => q9.2 p93) (if_nt (fun q9 => q9.2 p115) (if_nt (q_ng p125) (if_pos p132)))))))⟩, by rw [ht]; exact hP, va_K.moved hW.alike hK, hD⟩, hS.F ht⟩) hS.2.2 d_PathCheck_faultAt_145
                      · have p125 : ¬ (((ν (as.getD k 0)).2.2.2.2.2.2.2.2.2.2.2.1) ≤ (0 : Int32)) := c125
                        refine lv_bipush (v := 6) hx hb d_PathCheck_faultAt_128 (by decide) ?_
                        exact W.iret (v := 6) hx hb hr (fun t ht hW => ⟨⟨_, G_10, rfl, ⟨ν74_10, hNν74_10, ⟨_, eν74_10⟩, ⟨_, hL74, hTy⟩, hFR, Eq.symm (if_nt (fun q9 => q9 p47) (if_nt (fun q9 => q9.elim p61.1 p61.2) (if_nt p77 (if_nt (fun q9 => q9.2 p93) (if_nt (fun q9 => q9.2 p115) (if_pos (q_gt p125)))))))⟩, by rw [ht]; exact hP, va_K.moved hW.alike hK, hD⟩, hS.F ht⟩) hS.2.2 d_PathCheck_faultAt_130
                    · have p115 : ¬ (namQ (cO κ ν ω) as k) := (zP_0.mp c115)
                      refine lv_iconst (v := 5) hx hb d_PathCheck_faultAt_118 (by decide) ?_
                      exact W.iret (v := 5) hx hb hr (fun t ht hW => ⟨⟨_, G_10, rfl, ⟨ν74_10, hNν74_10, ⟨_, eν74_10⟩, ⟨_, hL74, hTy⟩, hFR, Eq.symm (if_nt (fun q9 => q9 p47) (if_nt (fun q9 => q9.elim p61.1 p61.2) (if_nt p77 (if_nt (fun q9 => q9.2 p93) (if_pos ⟨Or.inr (own_n hY9 p107), p115⟩)))))⟩, by rw [ht]; exact hP, va_K.moved hW.alike hK, hD⟩, hS.F ht⟩) hS.2.2 d_PathCheck_faultAt_119
              · have p93 : ¬ (knoQ (cO κ ν ω) (fun l9 => qO κ ν ω ((ω qs).getD l9 0)) (ω qs).length (fun l9 s9 => SGX κ ν ω ((ω qs).getD l9 0) s9) (ν h).2.2.2.2.2.2.2.2.2.1 (as.getD k 0) (as.getD (k + 1) 0)) := (zP_0.mp c93)
                refine lv_iconst (v := 4) hx hb d_PathCheck_faultAt_96 (by decide) ?_
                exact W.iret (v := 4) hx hb hr (fun t ht hW => ⟨⟨_, G_10, rfl, ⟨ν74_10, hNν74_10, ⟨_, eν74_10⟩, ⟨_, hL74, hTy⟩, hFR, Eq.symm (if_nt (fun q9 => q9 p47) (if_nt (fun q9 => q9.elim p61.1 p61.2) (if_nt p77 (if_pos ⟨b01_1 hkw9 p86, p93⟩))))⟩, by rw [ht]; exact hP, va_K.moved hW.alike hK, hD⟩, hS.F ht⟩) hS.2.2 d_PathCheck_faultAt_97
          · have p77 : revQ (cO κ ν ω) (fun l9 => qO κ ν ω ((ω qs).getD l9 0)) (ω qs).length (fun l9 s9 => SGX κ ν ω ((ω qs).getD l9 0) s9) (ν h).2.2.2.2.2.2.2.2.2.1 (as.getD k 0) (as.getD (k + 1) 0) := (zP_1 c77)
            refine lv_iconst (v := 3) hx hb d_PathCheck_faultAt_80 (by decide) ?_
            exact W.iret (v := 3) hx hb hr (fun t ht hW => ⟨⟨_, G_10, rfl, ⟨ν74_10, hNν74_10, ⟨_, eν74_10⟩, ⟨_, hL74, hTy⟩, hFR, Eq.symm (if_nt (fun q9 => q9 p47) (if_nt (fun q9 => q9.elim p61.1 p61.2) (if_pos p77)))⟩, by rw [ht]; exact hP, va_K.moved hW.alike hK, hD⟩, hS.F ht⟩) hS.2.2 d_PathCheck_faultAt_81
        · have p61 : ¬ (¬ ((ν h).2.2.2.2.2.2.2.2.2.1) < (ν (as.getD k 0)).2.2.2.2.2.2.2.2.2.1 ∧ ¬ (ν (as.getD k 0)).2.2.2.2.2.2.2.2.2.2.1 < ((ν h).2.2.2.2.2.2.2.2.2.1)) := (zP_0.mp c61)
          refine lv_iconst (v := 2) hx hb d_PathCheck_faultAt_64 (by decide) ?_
          exact W.iret (v := 2) hx hb hr (fun t ht hW => ⟨⟨_, G_6, rfl, ⟨ν, (fun _ _ => rfl), ⟨(ν h).2.2.1, rfl⟩, ⟨_, hL44, hTy⟩, hFR, Eq.symm (if_nt (fun q9 => q9 p47) (if_pos (at_n p61)))⟩, by rw [ht]; exact hP, va_K.moved hW.alike hK, hD⟩, hS.F ht⟩) hS.2.2 d_PathCheck_faultAt_65
      · have p47 : ¬ (SGX κ ν ω (as.getD k 0) (as.getD (k + 1) 0)) := (zP_0.mp c47)
        refine lv_iconst (v := 1) hx hb d_PathCheck_faultAt_50 (by decide) ?_
        exact W.iret (v := 1) hx hb hr (fun t ht hW => ⟨⟨_, G_6, rfl, ⟨ν, (fun _ _ => rfl), ⟨(ν h).2.2.1, rfl⟩, ⟨_, hL44, hTy⟩, hFR, Eq.symm (if_pos p47)⟩, by rw [ht]; exact hP, va_K.moved hW.alike hK, hD⟩, hS.F ht⟩) hS.2.2 d_PathCheck_faultAt_51
    · have p11 : ¬ ((k + 1) < as.length) := (fun q9 => c11 ((nI_ltI (a := (k + 1)) (b := as.length) (by omega) (by omega)).mpr q9))
      refine lv_iconst (v := 0) hx hb d_PathCheck_faultAt_14 (by decide) ?_
      exact W.iret (v := 0) hx hb hr (fun t ht hW => ⟨⟨_, G, rfl, ⟨ν, (fun _ _ => rfl), ⟨(ν h).2.2.1, rfl⟩, ⟨_, hL, hTy⟩, hFR, False.elim (by omega)⟩, by rw [ht]; exact hP, va_K.moved hW.alike hK, hD⟩, hS.F ht⟩) hS.2.2 d_PathCheck_faultAt_15
def y_PathCheck_faultOf : MethodName := ⟨"TrustChain$PathCheck", "faultOf", "(Ljava/util/ArrayList;Ljava/util/ArrayList;LTrustChain$Rsa;)I"⟩
abbrev b_PathCheck_faultOf : ByteArray := prog_7_method_3_code
def w_PathCheck_faultOf : List Cond := Cond.code y_PathCheck_faultOf b_PathCheck_faultOf 6 ((some FieldType.int)) :: tb
theorem d_PathCheck_faultOf_0 : decode b_PathCheck_faultOf 0 = .ok (.aload_n 1, 1) := by decide +kernel
theorem d_PathCheck_faultOf_1 : decode b_PathCheck_faultOf 1 = .ok (.invokevirtual 26, 3) := by decide +kernel
theorem d_PathCheck_faultOf_4 : decode b_PathCheck_faultOf 4 = .ok (.iconst 2, 1) := by decide +kernel
theorem d_PathCheck_faultOf_5 : decode b_PathCheck_faultOf 5 = .ok (.isub, 1) := by decide +kernel
theorem d_PathCheck_faultOf_6 : decode b_PathCheck_faultOf 6 = .ok (.istore 4, 2) := by decide +kernel
theorem d_PathCheck_faultOf_8 : decode b_PathCheck_faultOf 8 = .ok (.iload 4, 2) := by decide +kernel
theorem d_PathCheck_faultOf_10 : decode b_PathCheck_faultOf 10 = .ok (.ifCond .lt 34, 3) := by decide +kernel
theorem d_PathCheck_faultOf_13 : decode b_PathCheck_faultOf 13 = .ok (.aload_n 0, 1) := by decide +kernel
theorem d_PathCheck_faultOf_14 : decode b_PathCheck_faultOf 14 = .ok (.aload_n 1, 1) := by decide +kernel
theorem d_PathCheck_faultOf_15 : decode b_PathCheck_faultOf 15 = .ok (.iload 4, 2) := by decide +kernel
theorem d_PathCheck_faultOf_17 : decode b_PathCheck_faultOf 17 = .ok (.aload_n 2, 1) := by decide +kernel
theorem d_PathCheck_faultOf_18 : decode b_PathCheck_faultOf 18 = .ok (.aload_n 3, 1) := by decide +kernel
theorem d_PathCheck_faultOf_19 : decode b_PathCheck_faultOf 19 = .ok (.invokevirtual 32, 3) := by decide +kernel
theorem d_PathCheck_faultOf_22 : decode b_PathCheck_faultOf 22 = .ok (.istore 5, 2) := by decide +kernel
theorem d_PathCheck_faultOf_24 : decode b_PathCheck_faultOf 24 = .ok (.iload 5, 2) := by decide +kernel
theorem d_PathCheck_faultOf_26 : decode b_PathCheck_faultOf 26 = .ok (.ifCond .eq 12, 3) := by decide +kernel
theorem d_PathCheck_faultOf_29 : decode b_PathCheck_faultOf 29 = .ok (.aload_n 0, 1) := by decide +kernel
theorem d_PathCheck_faultOf_30 : decode b_PathCheck_faultOf 30 = .ok (.iload 4, 2) := by decide +kernel
theorem d_PathCheck_faultOf_32 : decode b_PathCheck_faultOf 32 = .ok (.putfield 9, 3) := by decide +kernel
theorem d_PathCheck_faultOf_35 : decode b_PathCheck_faultOf 35 = .ok (.iload 5, 2) := by decide +kernel
theorem d_PathCheck_faultOf_37 : decode b_PathCheck_faultOf 37 = .ok (.ireturn, 1) := by decide +kernel
theorem d_PathCheck_faultOf_38 : decode b_PathCheck_faultOf 38 = .ok (.iinc 4 (-1), 3) := by decide +kernel
theorem d_PathCheck_faultOf_41 : decode b_PathCheck_faultOf 41 = .ok (.goto (-33), 3) := by decide +kernel
theorem d_PathCheck_faultOf_44 : decode b_PathCheck_faultOf 44 = .ok (.aload_n 0, 1) := by decide +kernel
theorem d_PathCheck_faultOf_45 : decode b_PathCheck_faultOf 45 = .ok (.iconst (-1), 1) := by decide +kernel
theorem d_PathCheck_faultOf_46 : decode b_PathCheck_faultOf 46 = .ok (.putfield 9, 3) := by decide +kernel
theorem d_PathCheck_faultOf_49 : decode b_PathCheck_faultOf 49 = .ok (.iconst 0, 1) := by decide +kernel
theorem d_PathCheck_faultOf_50 : decode b_PathCheck_faultOf 50 = .ok (.ireturn, 1) := by decide +kernel
set_option maxHeartbeats 4000000 in
set_option maxRecDepth 100000 in
theorem m_PathCheck_faultOf (l : Launch) (dC : Nat → ClassId) (dI : Nat → Nat → Nat) (sb : sB) (γ : cG) (κ : kE) (Ad : List Nat) (ν : Nat → cN) (ω : Nat → List Nat) (L : Nat) (G : va_W) (h p9 qs r9 : Nat) (o1 : alD) (as : List Nat) (sz : Nat) (hTy : TY γ κ Ad ν ω L G) (kh : tK κ Ad h (12, 0, 0)) (kp9 : PLx γ sb κ Ad 8 p9 o1 as G) (kqs : tK κ Ad qs (17, (sb.2 5), 0)) (kr9 : tK κ Ad r9 (10, 0, 0)) (hL : L ≤ 64) (h1 : ∀ a, a ∈ Ad → (κ a).1 = 10 → a = r9) (hX : XC κ Ad ν ω) (hY : YC κ Ad ν ω) (hkw9 : b01 (ν h).2.1) (ha : 1 ≤ as.length) (hk20 : as.length < 2 ^ 20) : Met l y_PathCheck_faultOf w_PathCheck_faultOf ({ frames := 7, cells := 0, slots := 0, locals := 163 }) (mu_P [.ref h, .ref p9, .ref qs, .ref r9] (dC, dI) sb G [(γ.1, .byte), (γ.2.1, .int), (γ.2.2.1, .long), (γ.2.2.2, .object "java/lang/Object")] sz) (va_Qi (fun r (G' : va_W) => ∃ ν' : Nat → cN, (∀ b, b ≠ h → ν' b = ν b) ∧ (∃ ik9 : Int32, ν' h = mkP (ν h) (flG (fltQ (cO κ ν ω) (fun l9 => qO κ ν ω ((ω qs).getD l9 0)) (ω qs).length (SGX κ ν ω) (fun l9 s9 => SGX κ ν ω ((ω qs).getD l9 0) s9) (ν h).2.2.2.2.2.2.2.2.2.1 ((ν h).2.1 = 1) as) (as.length - 1)).2 (ν h).2.1 ik9 (ν h).2.2.2.2.2.2.2.2.2.1) ∧ (∃ L' : Nat, L' ≤ 64 ∧ TY γ κ Ad ν' ω L' G') ∧ FR Ad G G' ∧ (r = (flG (fltQ (cO κ ν ω) (fun l9 => qO κ ν ω ((ω qs).getD l9 0)) (ω qs).length (SGX κ ν ω) (fun l9 s9 => SGX κ ν ω ((ω qs).getD l9 0) s9) (ν h).2.2.2.2.2.2.2.2.2.1 ((ν h).2.1 = 1) as) (as.length - 1)).1)) (mu_B (dC, dI) [(γ.1, .byte), (γ.2.1, .int), (γ.2.2.1, .long), (γ.2.2.2, .object "java/lang/Object")] (va_A G sz) (fun G' : va_W => G')) (va_A G sz)) 0 0 (va_A G sz) := by
  refine Met.ofW (cc := b_PathCheck_faultOf) (maxL := 6) (ret := (some FieldType.int)) (by decide) rfl ?_
  intro p e s m args below meth c s₁ B hml hv
  obtain ⟨rfl, hsz, hB0, hP, hK, hD0, hN, hT0⟩ := hv
  have hx := B.exec
  have hb := B.bytes
  have hr := B.returns
  have hts := atoms_spec (ws := w_PathCheck_faultOf) B.pre
  have tbin : ∀ w ∈ tb, w ∈ w_PathCheck_faultOf := fun w h => List.mem_cons_of_mem _ h
  have htb : ∀ w ∈ tb, w.before _ s = true := fun w h => hts w (tbin w h)
  have hown : s.vm.findClass "TrustChain$PathCheck" = some m.cls := findClass_of_methodNamed B.named
  have hlocks := B.notSynchronized
  subst hsz
  have hD := hD0.self (sz := s.heap.size)
  generalize hAe : va_A G s.heap.size = A at hD ⊢
  have hA : ∀ q : Nat, s.heap.size ≤ q → A q := fun q h => by rw [← hAe]; exact Or.inr h
  have hAs : ∀ q : Nat, A q → sb.1 ≤ q := fun q h => by
    rw [← hAe] at h
    rcases h with ⟨k, e, h⟩ | h
    · exact hD0.2 k _ h
    · exact Nat.le_trans hB0 h
  have hS : va_S A s.heap s.heap [] := va_S.rf
  have hFR := FR.rf Ad G
  have hcs : 0 ≤ (headSpec w_PathCheck_faultOf ({ frames := 7, cells := 0, slots := 0, locals := 163 })).room.cells ∧ 0 ≤ (headSpec w_PathCheck_faultOf ({ frames := 7, cells := 0, slots := 0, locals := 163 })).room.slots := ⟨Nat.le_refl _, Nat.le_refl _⟩
  have hP : va_P (dC, dI) classes G s.heap := hP
  have hl := lv_entry ([.ref h, .ref p9, .ref qs, .ref r9]) (n := 6) (Nat.le_of_ble_eq_true rfl)
  rw [lg_entry_eq]
  generalize (lg_sl ([.ref h, .ref p9, .ref qs, .ref r9]) ++ List.replicate (6 - (lg_sl ([.ref h, .ref p9, .ref qs, .ref r9])).length) Slot.unset).toArray = ls at hl ⊢
  have hl : lv_has ls 6 [(0, .ref h), (1, .ref p9), (2, .ref qs), (3, .ref r9)] := hl
  have kp9_0 := kp9
  have hTy0 := hTy
  have hTk : (κ h).1 = 12 ∨ (κ h).1 = 13 := Or.inl (by rw [kh.2])
  refine lv_aload_n hx hb d_PathCheck_faultOf_0 rfl (lv_at hl 1 rfl) ?_
  obtain ⟨i_1, m_1, hK_1, hg_1⟩ := pl_size kp9
  refine vp_callSi (pu_callV (As := []) (rest := []) ⟨hx, hb, hml, hown, hts⟩ tbin (c_AL_size l dC dI sb p9 (alO sb o1) as.length m_1) q6_46 q2_54 q2_55 q1_4 q2_56 (n := 0) (by decide +kernel) rfl ⟨rfl, rfl⟩ ⟨Nat.le_of_ble_eq_true rfl, Nat.le_of_ble_eq_true rfl⟩ ⟨Nat.le_of_ble_eq_true rfl, Nat.le_of_ble_eq_true rfl⟩ hN (hT0.keep hS hAs) hK hP [i_1] (by simp only [List.filterMap_cons, List.filterMap_nil, hg_1]) [] rfl i_1 11 hg_1 rfl rfl hl.1 rfl (Nat.le_of_ble_eq_true rfl) d_PathCheck_faultOf_1) (fun r1 hr1 => ?_)
  subst hr1
  refine lv_iconst (v := 2) hx hb d_PathCheck_faultOf_4 (by decide) ?_
  refine lv_isub hx hb d_PathCheck_faultOf_5 ?_
  rw [show ((nI as.length) - 2 : Int32) = jD (as.length - 1) from jD_2 (by omega)]
  refine lv_istore (lv' := [(4, .int (jD (as.length - 1))), (0, .ref h), (1, .ref p9), (2, .ref qs), (3, .ref r9)]) hx hb d_PathCheck_faultOf_6 hl (by decide) rfl (fun ls hl => ?_)
  refine w_loopW (α := Nat × va_W) (fun a9 => a9.1 ≤ as.length - 1 ∧ flG (fltQ (cO κ ν ω) (fun l9 => qO κ ν ω ((ω qs).getD l9 0)) (ω qs).length (SGX κ ν ω) (fun l9 s9 => SGX κ ν ω ((ω qs).getD l9 0) s9) (ν h).2.2.2.2.2.2.2.2.2.1 ((ν h).2.1 = 1) as) (as.length - 1) = flG (fltQ (cO κ ν ω) (fun l9 => qO κ ν ω ((ω qs).getD l9 0)) (ω qs).length (SGX κ ν ω) (fun l9 s9 => SGX κ ν ω ((ω qs).getD l9 0) s9) (ν h).2.2.2.2.2.2.2.2.2.1 ((ν h).2.1 = 1) as) a9.1 ∧ (∃ (ν' : Nat → cN) (ik9 : Int32), (∀ b, b ≠ h → ν' b = ν b) ∧ ν' h = mkP (ν h) (ν h).1 (ν h).2.1 ik9 (ν h).2.2.2.2.2.2.2.2.2.1 ∧ ∃ L' : Nat, L' ≤ 64 ∧ TY γ κ Ad ν' ω L' a9.2) ∧ FR Ad G a9.2) (fun a9 => a9.1) (fun a9 => [(4, .int (jD a9.1)), (0, .ref h), (1, .ref p9), (2, .ref qs), (3, .ref r9)]) (fun _ => []) (fun a9 => a9.2) 6 8 (fun a9 HL8 locs ls hJ hP hD hS hl ih8 => ?_) (as.length - 1, G) _ _ ls ⟨Nat.le_refl _, rfl, ⟨ν, (ν h).2.2.1, fun _ _ => rfl, rfl, _, hL, hTy⟩, hFR⟩ hP hD hS (lv_sub hl [0, 1, 2, 3, 4] rfl)
  obtain ⟨z8, G8⟩ := a9
  obtain ⟨hz8, hfl8, ⟨ν8, ik8, hν8, eν8, L8, hL8, hTy⟩, hFR⟩ := hJ
  dsimp only at hz8 hfl8 hTy hFR hP hD hl ih8
  obtain _ | z8 := z8
  · have hl : lv_has ls 6 [(4, .int (-1)), (0, .ref h), (1, .ref p9), (2, .ref qs), (3, .ref r9)] := hl
    have kp9 := kp9_0.fr hFR
    refine lv_iload hx hb d_PathCheck_faultOf_8 (lv_at hl 0 rfl) ?_
    refine lv_if_lt (tgt := 44) hx hb d_PathCheck_faultOf_10 (by decide) (fun c10 => ?_) (fun c10 => ?_)
    rotate_left
    · exact absurd c10 (by decide)
    refine lv_aload_n hx hb d_PathCheck_faultOf_44 rfl (lv_at hl 1 rfl) ?_
    refine lv_iconst (v := -1) hx hb d_PathCheck_faultOf_45 (by decide) ?_
    obtain ⟨i_2, hg_2⟩ := ty_12 hTy kh
    rw [eν8] at hg_2
    have hg_2 : G8[i_2]? = some (h, .inr (9, [.int ((ν h).1), .long ((ν h).2.2.2.2.2.2.2.2.2.1), .int ((ν h).2.1), .int ik8])) := hg_2
    refine va_put (v := .int (-1)) (ty := .int) hx hb htb i_PathCheck t_PathCheck t_PathCheck_ok n_PathCheck hown hK hP hD hS i_2 hg_2 rfl 0 (by decide) (htb _ q1_142) (fun _ h9 => h9) rfl (by decide +kernel) rfl rfl (Nat.le_of_ble_eq_true rfl) d_PathCheck_faultOf_46 (fun H46 locs hP hD2 hS => ?_)
    have hP : va_P (dC, dI) classes (G8.set i_2 (h, .inr (9, [.int (-1), .long ((ν h).2.2.2.2.2.2.2.2.2.1), .int ((ν h).2.1), .int ik8]))) H46 := hP
    have hD3 : va_D A (G8.set i_2 (h, .inr (9, [.int (-1), .long ((ν h).2.2.2.2.2.2.2.2.2.1), .int ((ν h).2.1), .int ik8]))) := hD2
    obtain ⟨ν46_3, hν46_3, eν46_3⟩ : ∃ z : Nat → cN, (∀ b, b ≠ h → z b = ν8 b) ∧ z h = mkP (ν h) (-1 : Int32) ((ν h).2.1) ik8 ((ν h).2.2.2.2.2.2.2.2.2.1) := ⟨nuR0 ν8 h (mkP (ν h) (-1 : Int32) ((ν h).2.1) ik8 ((ν h).2.2.2.2.2.2.2.2.2.1)), fun b hb => if_neg hb, if_pos rfl⟩
    have hFR := hFR.tr (FR.set (c' := .inr (9, [.int (-1), .long ((ν h).2.2.2.2.2.2.2.2.2.1), .int ((ν h).2.1), .int ik8])) hg_2 kh.1)
    have hTy := q_setnu (ν' := ν46_3) (c' := .inr (9, [.int (-1), .long ((ν h).2.2.2.2.2.2.2.2.2.1), .int ((ν h).2.1), .int ik8])) hTy hD hg_2 hν46_3 (ok_12 kh (by rw [eν46_3]; rfl) (by rw [eν46_3]; rfl) (by rw [eν46_3]; rfl) (by rw [eν46_3]; rfl))
    have hD := hD3
    have hNν46_3 : ∀ b, b ≠ h → ν46_3 b = ν b := fun b hb => (hν46_3 b hb).trans (hν8 b hb)
    clear hD3 hD2
    generalize G8.set i_2 (h, .inr (9, [.int (-1), .long ((ν h).2.2.2.2.2.2.2.2.2.1), .int ((ν h).2.1), .int ik8])) = G_3 at hP hD hTy hFR 
    have kp9 := kp9_0.fr hFR
    refine lv_iconst (v := 0) hx hb d_PathCheck_faultOf_49 (by decide) ?_
    exact W.iret (v := 0) hx hb hr (fun t ht hW => ⟨⟨_, G_3, rfl, ⟨ν46_3, hNν46_3, ⟨_, by rw [eν46_3, hfl8]; rfl⟩, ⟨_, hL8, hTy⟩, hFR, by rw [hfl8]; rfl⟩, by rw [ht]; exact hP, va_K.moved hW.alike hK, hD⟩, hS.F ht⟩) hS.2.2 d_PathCheck_faultOf_50
  · have hl : lv_has ls 6 [(4, .int (nI z8)), (0, .ref h), (1, .ref p9), (2, .ref qs), (3, .ref r9)] := hl
    have kp9 := kp9_0.fr hFR
    refine lv_iload hx hb d_PathCheck_faultOf_8 (lv_at hl 0 rfl) ?_
    refine lv_if_lt (tgt := 44) hx hb d_PathCheck_faultOf_10 (by decide) (fun c10 => ?_) (fun c10 => ?_)
    · exact absurd c10 (fun q9 => absurd ((nI_ltI (a := z8) (b := 0) (by omega) (by omega)).mp q9) (Nat.not_lt_zero z8))
    refine lv_aload_n hx hb d_PathCheck_faultOf_13 rfl (lv_at hl 1 rfl) ?_
    refine lv_aload_n hx hb d_PathCheck_faultOf_14 rfl (lv_at hl 2 rfl) ?_
    refine lv_iload hx hb d_PathCheck_faultOf_15 (lv_at hl 0 rfl) ?_
    refine lv_aload_n hx hb d_PathCheck_faultOf_17 rfl (lv_at hl 3 rfl) ?_
    refine lv_aload_n hx hb d_PathCheck_faultOf_18 rfl (lv_at hl 4 rfl) ?_
    have hFc := va_free (wc := G8) hD hS hA (List.range G8.length) (rg_is _)
    obtain ⟨i_5, hg_5⟩ := ty_12 hTy kh
    rw [eν8] at hg_5
    have hg_5 : G8[i_5]? = some (h, .inr (9, [.int ((ν h).1), .long ((ν h).2.2.2.2.2.2.2.2.2.1), .int ((ν h).2.1), .int ik8])) := hg_5
    refine va_calli (mu_runV (As := [.ref p9, .int (nI z8), .ref qs, .ref r9]) (rest := []) ⟨hx, hb, hml, hown, hts⟩ tbin (m_PathCheck_faultAt l dC dI sb γ κ Ad ν8 ω L8 G8 h p9 qs r9 _ _ _ HL8.size hTy kh kp9 kqs kr9 hL8 h1 (XC_nu hTy0 hTk hν8 hX) (YC_nu hTk hν8 hY) (by rw [eν8]; exact hkw9) (by omega) (by omega)) q6_47 q6_49 qp_31 q1_8 q6_50 (n := 4) (by decide +kernel) rfl ⟨rfl, rfl⟩ ⟨Nat.le_of_ble_eq_true rfl, Nat.le_of_ble_eq_true rfl⟩ ⟨Nat.le_of_ble_eq_true rfl, Nat.le_of_ble_eq_true rfl⟩ hN (hT0.keep hS hAs) hAs (Nat.le_trans hB0 hS.1) hK hP hD (List.range G8.length) (rg_nd _) (rg_is _) [0, 1, 2, 3] rfl i_5 9 hg_5 rfl rfl hl.1 rfl (Nat.le_of_ble_eq_true rfl) d_PathCheck_faultOf_19) hS (fun q _ h => hFc q h) hFc (fun r19 G_4 tS H19 locs ht hvm hw19 hB hz1 hk1 hS => ?_)
    obtain ⟨ν19_5, hν19_5, eν19_5, ⟨L19, hL19, hTy⟩, hF9, hr19⟩ := hw19
    have hNν19_5 : ∀ b, b ≠ h → ν19_5 b = ν b := fun b hb => (hν19_5 b hb).trans (hν8 b hb)
    have hFR := hFR.tr hF9
    obtain ⟨hP1, hK1, hD1⟩ := hB
    rw [ht] at hP1
    have hP : va_P (dC, dI) classes G_4 H19 := hP1
    have hD : va_D A G_4 := hD1.weaken (fun _ _ _ h => hFc _ h)
    have kp9 := kp9_0.fr hFR
    obtain ⟨ik19, eν19_5⟩ := eν19_5
    rw [eν8] at eν19_5
    have eν19_5 : ν19_5 h = mkP (ν h) (ν h).1 (ν h).2.1 ik19 (ν h).2.2.2.2.2.2.2.2.2.1 := eν19_5
    have hr19 : r19 = fltQ (cO κ ν ω) (fun l9 => qO κ ν ω ((ω qs).getD l9 0)) (ω qs).length (SGX κ ν ω) (fun l9 s9 => SGX κ ν ω ((ω qs).getD l9 0) s9) (ν h).2.2.2.2.2.2.2.2.2.1 ((ν h).2.1 = 1) as z8 := hr19.trans (flt_nu hTy0 hTk kp9_0 kqs hν8 eν8 (by omega))
    subst hr19
    refine lv_topi (fun v22 ev22 => ?_)
    refine lv_istore (lv' := [(5, .int v22), (4, .int (nI z8)), (0, .ref h), (1, .ref p9), (2, .ref qs), (3, .ref r9)]) hx hb d_PathCheck_faultOf_22 hl (by decide) rfl (fun ls hl => ?_)
    refine lv_iload hx hb d_PathCheck_faultOf_24 (lv_at hl 0 rfl) ?_
    refine lv_if_eq (tgt := 38) hx hb d_PathCheck_faultOf_26 (by decide) (fun c26 => ?_) (fun c26 => ?_)
    · have p26 : v22 = (0 : Int32) := c26
      refine lv_iinc (v := jD z8) (lv' := [(4, .int (jD z8)), (5, .int v22), (0, .ref h), (1, .ref p9), (2, .ref qs), (3, .ref r9)]) hx hb d_PathCheck_faultOf_38 hl (k := 1) rfl (jD_dec _) (by decide) rfl (fun ls hl => ?_)
      refine lv_goto (tgt := 8) hx hb d_PathCheck_faultOf_41 (by decide) ?_
      exact ih8 (z8, G_4) _ _ ls (by dsimp only; omega) ⟨by dsimp only; omega, hfl8.trans (flG_step (ev22.symm.trans p26)), ⟨ν19_5, _, hNν19_5, eν19_5, _, hL19, hTy⟩, hFR⟩ hP hD hS (lv_sub hl [0, 2, 3, 4, 5] rfl)
    · have p26 : ¬ (v22 = (0 : Int32)) := c26
      refine lv_aload_n hx hb d_PathCheck_faultOf_29 rfl (lv_at hl 2 rfl) ?_
      refine lv_iload hx hb d_PathCheck_faultOf_30 (lv_at hl 1 rfl) ?_
      obtain ⟨i_6, hg_6⟩ := ty_12 hTy kh
      rw [eν19_5] at hg_6
      have hg_6 : G_4[i_6]? = some (h, .inr (9, [.int ((ν h).1), .long ((ν h).2.2.2.2.2.2.2.2.2.1), .int ((ν h).2.1), .int ik19])) := hg_6
      refine va_put (v := .int (nI z8)) (ty := .int) hx hb htb i_PathCheck t_PathCheck t_PathCheck_ok n_PathCheck hown hK hP hD hS i_6 hg_6 rfl 0 (by decide) (htb _ q1_142) (fun _ h9 => h9) rfl (by decide +kernel) rfl rfl (Nat.le_of_ble_eq_true rfl) d_PathCheck_faultOf_32 (fun H32 locs hP hD2 hS => ?_)
      have hP : va_P (dC, dI) classes (G_4.set i_6 (h, .inr (9, [.int (nI z8), .long ((ν h).2.2.2.2.2.2.2.2.2.1), .int ((ν h).2.1), .int ik19]))) H32 := hP
      have hD3 : va_D A (G_4.set i_6 (h, .inr (9, [.int (nI z8), .long ((ν h).2.2.2.2.2.2.2.2.2.1), .int ((ν h).2.1), .int ik19]))) := hD2
      obtain ⟨ν32_7, hν32_7, eν32_7⟩ : ∃ z : Nat → cN, (∀ b, b ≠ h → z b = ν19_5 b) ∧ z h = mkP (ν h) (nI z8) ((ν h).2.1) ik19 ((ν h).2.2.2.2.2.2.2.2.2.1) := ⟨nuR0 ν19_5 h (mkP (ν h) (nI z8) ((ν h).2.1) ik19 ((ν h).2.2.2.2.2.2.2.2.2.1)), fun b hb => if_neg hb, if_pos rfl⟩
      have hFR := hFR.tr (FR.set (c' := .inr (9, [.int (nI z8), .long ((ν h).2.2.2.2.2.2.2.2.2.1), .int ((ν h).2.1), .int ik19])) hg_6 kh.1)
      have hTy := q_setnu (ν' := ν32_7) (c' := .inr (9, [.int (nI z8), .long ((ν h).2.2.2.2.2.2.2.2.2.1), .int ((ν h).2.1), .int ik19])) hTy hD hg_6 hν32_7 (ok_12 kh (by rw [eν32_7]; rfl) (by rw [eν32_7]; rfl) (by rw [eν32_7]; rfl) (by rw [eν32_7]; rfl))
      have hD := hD3
      have hNν32_7 : ∀ b, b ≠ h → ν32_7 b = ν b := fun b hb => (hν32_7 b hb).trans (hNν19_5 b hb)
      clear hD3 hD2
      generalize G_4.set i_6 (h, .inr (9, [.int (nI z8), .long ((ν h).2.2.2.2.2.2.2.2.2.1), .int ((ν h).2.1), .int ik19])) = G_7 at hP hD hTy hFR 
      have kp9 := kp9_0.fr hFR
      refine lv_iload hx hb d_PathCheck_faultOf_35 (lv_at hl 0 rfl) ?_
      exact W.iret (v := v22) hx hb hr (fun t ht hW => ⟨⟨_, G_7, rfl, ⟨ν32_7, hNν32_7, ⟨_, by rw [eν32_7, hfl8, flG_stop (fun q9 => p26 (ev22.trans q9))]⟩, ⟨_, hL19, hTy⟩, hFR, by rw [hfl8, flG_stop (fun q9 => p26 (ev22.trans q9))]; exact ev22⟩, by rw [ht]; exact hP, va_K.moved hW.alike hK, hD⟩, hS.F ht⟩) hS.2.2 d_PathCheck_faultOf_37
