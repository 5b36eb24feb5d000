/-! Names, papers and certificates: what these methods answer. -/
def y_NameSet_holdsDirectoryTreeOf : MethodName := ⟨"TrustChain$NameSet", "holdsDirectoryTreeOf", "(LTrustChain$Slice;)Z"⟩
abbrev b_NameSet_holdsDirectoryTreeOf : ByteArray := prog_5_method_2_code
def w_NameSet_holdsDirectoryTreeOf : List Cond := Cond.code y_NameSet_holdsDirectoryTreeOf b_NameSet_holdsDirectoryTreeOf 3 ((some FieldType.boolean)) :: tb
theorem d_NameSet_holdsDirectoryTreeOf_0 : decode b_NameSet_holdsDirectoryTreeOf 0 = .ok (.iconst 0, 1) := by decide +kernel
theorem d_NameSet_holdsDirectoryTreeOf_1 : decode b_NameSet_holdsDirectoryTreeOf 1 = .ok (.istore_n 2, 1) := by decide +kernel
theorem d_NameSet_holdsDirectoryTreeOf_2 : decode b_NameSet_holdsDirectoryTreeOf 2 = .ok (.iload_n 2, 1) := by decide +kernel
theorem d_NameSet_holdsDirectoryTreeOf_3 : decode b_NameSet_holdsDirectoryTreeOf 3 = .ok (.aload_n 0, 1) := by decide +kernel
theorem d_NameSet_holdsDirectoryTreeOf_4 : decode b_NameSet_holdsDirectoryTreeOf 4 = .ok (.getfield 18, 3) := by decide +kernel
theorem d_NameSet_holdsDirectoryTreeOf_7 : decode b_NameSet_holdsDirectoryTreeOf 7 = .ok (.invokevirtual 21, 3) := by decide +kernel
theorem d_NameSet_holdsDirectoryTreeOf_10 : decode b_NameSet_holdsDirectoryTreeOf 10 = .ok (.if_icmp .ge 29, 3) := by decide +kernel
theorem d_NameSet_holdsDirectoryTreeOf_13 : decode b_NameSet_holdsDirectoryTreeOf 13 = .ok (.aload_n 1, 1) := by decide +kernel
theorem d_NameSet_holdsDirectoryTreeOf_14 : decode b_NameSet_holdsDirectoryTreeOf 14 = .ok (.aload_n 0, 1) := by decide +kernel
theorem d_NameSet_holdsDirectoryTreeOf_15 : decode b_NameSet_holdsDirectoryTreeOf 15 = .ok (.getfield 18, 3) := by decide +kernel
theorem d_NameSet_holdsDirectoryTreeOf_18 : decode b_NameSet_holdsDirectoryTreeOf 18 = .ok (.iload_n 2, 1) := by decide +kernel
theorem d_NameSet_holdsDirectoryTreeOf_19 : decode b_NameSet_holdsDirectoryTreeOf 19 = .ok (.invokevirtual 25, 3) := by decide +kernel
theorem d_NameSet_holdsDirectoryTreeOf_22 : decode b_NameSet_holdsDirectoryTreeOf 22 = .ok (.checkcast 29, 3) := by decide +kernel
theorem d_NameSet_holdsDirectoryTreeOf_25 : decode b_NameSet_holdsDirectoryTreeOf 25 = .ok (.invokevirtual 31, 3) := by decide +kernel
theorem d_NameSet_holdsDirectoryTreeOf_28 : decode b_NameSet_holdsDirectoryTreeOf 28 = .ok (.ifCond .eq 5, 3) := by decide +kernel
theorem d_NameSet_holdsDirectoryTreeOf_31 : decode b_NameSet_holdsDirectoryTreeOf 31 = .ok (.iconst 1, 1) := by decide +kernel
theorem d_NameSet_holdsDirectoryTreeOf_32 : decode b_NameSet_holdsDirectoryTreeOf 32 = .ok (.ireturn, 1) := by decide +kernel
theorem d_NameSet_holdsDirectoryTreeOf_33 : decode b_NameSet_holdsDirectoryTreeOf 33 = .ok (.iinc 2 1, 3) := by decide +kernel
theorem d_NameSet_holdsDirectoryTreeOf_36 : decode b_NameSet_holdsDirectoryTreeOf 36 = .ok (.goto (-34), 3) := by decide +kernel
theorem d_NameSet_holdsDirectoryTreeOf_39 : decode b_NameSet_holdsDirectoryTreeOf 39 = .ok (.iconst 0, 1) := by decide +kernel
theorem d_NameSet_holdsDirectoryTreeOf_40 : decode b_NameSet_holdsDirectoryTreeOf 40 = .ok (.ireturn, 1) := by decide +kernel
set_option maxHeartbeats 4000000 in
set_option maxRecDepth 100000 in
theorem p_NameSet_holdsDirectoryTreeOf (l : Launch) (dC : Nat → ClassId) (dI : Nat → Nat → Nat) (sb : sB) (γ : cG) (κ : kE) (Ad : List Nat) (ν : Nat → cN) (ω : Nat → List Nat) (L : Nat) (G : va_W) (h g : Nat) (K1 K2 z : Nat) (hTy : TY γ κ Ad ν ω L G) (kh : tK κ Ad h (5, K1, K2)) (kg : tK κ Ad g (2, z, 1))  : Met l y_NameSet_holdsDirectoryTreeOf w_NameSet_holdsDirectoryTreeOf ({ frames := 3, cells := 0, slots := 0, locals := 64 }) (pu_P [.ref h, .ref g] (dC, dI) sb G [(γ.1, .byte), (γ.2.1, .int), (γ.2.2.1, .long), (γ.2.2.2, .object "java/lang/Object")]) (vp_Si (fun r => r = zP (∃ t, t ∈ lO κ ω ((ω h).getD 1 0) ∧ t <+: sO κ ω g))) 0 0 (fun _ => False) := by
  refine Met.ofW (cc := b_NameSet_holdsDirectoryTreeOf) (maxL := 3) (ret := (some FieldType.boolean)) (by decide) rfl ?_
  intro p e s m args below meth c s₁ B hml hv
  obtain ⟨rfl, hP, hK, hN, hT0⟩ := hv
  have hx := B.exec
  have hb := B.bytes
  have hr := B.returns
  have hts := atoms_spec (ws := w_NameSet_holdsDirectoryTreeOf) B.pre
  have tbin : ∀ w ∈ tb, w ∈ w_NameSet_holdsDirectoryTreeOf := fun w h => List.mem_cons_of_mem _ h
  have htb : ∀ w ∈ tb, w.before _ s = true := fun w h => hts w (tbin w h)
  have hown : s.vm.findClass "TrustChain$NameSet" = some m.cls := findClass_of_methodNamed B.named
  have hlocks := B.notSynchronized
  have hl := lv_entry ([.ref h, .ref g]) (n := 3) (Nat.le_of_ble_eq_true rfl)
  rw [lg_entry_eq]
  generalize (lg_sl ([.ref h, .ref g]) ++ List.replicate (3 - (lg_sl ([.ref h, .ref g])).length) Slot.unset).toArray = ls at hl ⊢
  have hl : lv_has ls 3 [(0, .ref h), (1, .ref g)] := hl
  refine lv_iconst (v := 0) hx hb d_NameSet_holdsDirectoryTreeOf_0 (by decide) ?_
  refine lv_istore_n (lv' := [(2, .int 0), (0, .ref h), (1, .ref g)]) hx hb d_NameSet_holdsDirectoryTreeOf_1 rfl hl (by decide) rfl (fun ls hl => ?_)
  refine w_loop (α := Nat) (fun z9 => z9 ≤ K2 ∧ ∀ i9, i9 < z9 → ¬ (sO κ ω ((ω ((ω ((ω h).getD 1 0)).getD 0 0)).getD i9 0) <+: sO κ ω g)) (fun z9 => K2 - z9) (fun z9 => [(2, .int (nI z9)), (0, .ref h), (1, .ref g)]) (fun _ => []) 3 2 (fun z9 ls hJ hl ih2 => ?_) 0 ls (⟨Nat.zero_le _, fun i9 h9 => absurd h9 (Nat.not_lt_zero i9)⟩) (lv_sub hl [0, 1, 2] rfl)
  have hz9 := hJ.1
  refine lv_iload_n hx hb d_NameSet_holdsDirectoryTreeOf_2 rfl (lv_at hl 0 rfl) ?_
  refine lv_aload_n hx hb d_NameSet_holdsDirectoryTreeOf_3 rfl (lv_at hl 1 rfl) ?_
  obtain ⟨i_1, kl_1, kd_1, hg_1⟩ := ty_5x hTy kh
  refine va_get (v := .ref ((ω h).getD 1 0)) hx hb htb i_NameSet hown hK hP i_1 hg_1 rfl 1 (by decide) (htb _ q2_130) (fun _ h9 => h9) rfl d_NameSet_holdsDirectoryTreeOf_4 ?_
  obtain ⟨i_2, m_2, hK_2, he_2, hg_2⟩ := ty_4x hTy kd_1
  refine vp_callSi (pu_callV (As := []) (rest := [.int (nI z9)]) ⟨hx, hb, hml, hown, hts⟩ tbin (c_AL_size l dC dI sb ((ω h).getD 1 0) ((ω ((ω h).getD 1 0)).getD 0 0) K2 m_2) q6_93 q2_54 q2_55 q1_4 q2_56 (n := 0) (by decide +kernel) rfl ⟨rfl, rfl⟩ ⟨Nat.le_of_ble_eq_true rfl, Nat.le_of_ble_eq_true rfl⟩ ⟨Nat.le_of_ble_eq_true rfl, Nat.le_of_ble_eq_true rfl⟩ hN hT0 hK hP [i_2] (by simp only [List.filterMap_cons, List.filterMap_nil, hg_2]) [] rfl i_2 11 hg_2 rfl rfl hl.1 rfl (Nat.le_of_ble_eq_true rfl) d_NameSet_holdsDirectoryTreeOf_7) (fun r7 hr7 => ?_)
  subst hr7
  refine lv_icmp_ge (tgt := 39) hx hb d_NameSet_holdsDirectoryTreeOf_10 (by decide) (fun c10 => ?_) (fun c10 => ?_)
  · have p10 : K2 ≤ z9 := ((nI_leI (a := K2) (b := z9) (by omega) (by omega)).mp c10)
    refine lv_iconst (v := 0) hx hb d_NameSet_holdsDirectoryTreeOf_39 (by decide) ?_
    exact W.zret (v := 0) hx hb hr rfl (fun t ht hW => ⟨_, rfl, zP_f (fun ⟨t9, h8, h9⟩ => lO_all (P := fun t => ¬ t <+: sO κ ω g) kd_1 (fun i hi => hJ.2 i (by omega)) t9 h8 h9), ht⟩) (fun q h => by cases h) d_NameSet_holdsDirectoryTreeOf_40
  · have p10 : ¬ (K2 ≤ z9) := (fun q9 => c10 ((nI_leI (a := K2) (b := z9) (by omega) (by omega)).mpr q9))
    refine lv_aload_n hx hb d_NameSet_holdsDirectoryTreeOf_13 rfl (lv_at hl 2 rfl) ?_
    refine lv_aload_n hx hb d_NameSet_holdsDirectoryTreeOf_14 rfl (lv_at hl 1 rfl) ?_
    refine va_get (v := .ref ((ω h).getD 1 0)) hx hb htb i_NameSet hown hK hP i_1 hg_1 rfl 1 (by decide) (htb _ q2_130) (fun _ h9 => h9) rfl d_NameSet_holdsDirectoryTreeOf_15 ?_
    refine lv_iload_n hx hb d_NameSet_holdsDirectoryTreeOf_18 rfl (lv_at hl 0 rfl) ?_
    obtain ⟨cap_3, kq_3⟩ := he_2 (by omega)
    obtain ⟨i_4, f_4, hK_4, hc_4, he_4, hg_4⟩ := ty_3x hTy kq_3
    obtain ⟨hf_3, ks_3⟩ := he_4 z9 (by omega)
    have ks_3 := tK.two ks_3
    refine va_csr (pu_callV (As := [.int (nI z9)]) (rest := [.ref g]) ⟨hx, hb, hml, hown, hts⟩ tbin (c_AL_get l dC dI sb ((ω h).getD 1 0) ((ω ((ω h).getD 1 0)).getD 0 0) K2 cap_3 z9 ((ω ((ω ((ω h).getD 1 0)).getD 0 0)).getD z9 0) m_2 γ.2.2.2 f_4 (by omega) hK_4 (by omega) hf_3) q6_94 q4_210 q4_211 q1_4 q4_212 (n := 1) (by decide +kernel) rfl ⟨rfl, rfl⟩ ⟨Nat.le_of_ble_eq_true rfl, Nat.le_of_ble_eq_true rfl⟩ ⟨Nat.le_of_ble_eq_true rfl, Nat.le_of_ble_eq_true rfl⟩ hN hT0 hK hP [i_2, i_4] (by simp only [List.filterMap_cons, List.filterMap_nil, hg_2, hg_4]) [3] rfl i_2 11 hg_2 rfl rfl hl.1 rfl (Nat.le_of_ble_eq_true rfl) d_NameSet_holdsDirectoryTreeOf_19) (fun r19 hr19 => ?_)
    obtain rfl := Eq.symm hr19
    obtain ⟨i_5, t_5, n_5, f_5, kt_5, hb_5, hm_5, hw_5, hg_5⟩ := ty_2x hTy ks_3
    refine va_castY (C := "TrustChain$Slice") hx hb hown (htb _ q6_95) (hN.1 _ qn9_222) (va_recv (ci := 0) hK hP rfl hg_5) d_NameSet_holdsDirectoryTreeOf_22 ?_
    obtain ⟨i_6, t_6, n_6, f_6, kt_6, hb_6, hm_6, hw_6, hg_6⟩ := ty_2x hTy kg
    obtain ⟨i_7, u_7, hu_7, hc_7, hn_7, hg_7⟩ := ty_1x hTy kt_6
    obtain ⟨i_8, u_8, hu_8, hc_8, hn_8, hg_8⟩ := ty_1x hTy kt_5
    refine vp_callSi (pu_callV (As := [.ref ((ω ((ω ((ω h).getD 1 0)).getD 0 0)).getD z9 0)]) (rest := []) ⟨hx, hb, hml, hown, hts⟩ tbin (c_Slice_beginsWith l dC dI sb g ((ω ((ω ((ω h).getD 1 0)).getD 0 0)).getD z9 0) t_6 t_5 f_6 (f_6 + z) n_6 f_5 (f_5 + ((κ ((ω ((ω ((ω h).getD 1 0)).getD 0 0)).getD z9 0)).2.1)) n_5 γ.1 γ.1 u_7 u_8 hu_7 (by omega) (by omega) (by omega) hu_8 (by omega) (by omega) (by omega)) q6_96 q4_31 q4_32 q1_22 q4_33 (n := 1) (by decide +kernel) rfl ⟨rfl, rfl⟩ ⟨Nat.le_of_ble_eq_true rfl, Nat.le_of_ble_eq_true rfl⟩ ⟨Nat.le_of_ble_eq_true rfl, Nat.le_of_ble_eq_true rfl⟩ hN hT0 hK hP [i_6, i_7, i_5, i_8] (by simp only [List.filterMap_cons, List.filterMap_nil, hg_6, hg_7, hg_5, hg_8]) [0, 0] rfl i_6 0 hg_6 rfl rfl hl.1 rfl (Nat.le_of_ble_eq_true rfl) d_NameSet_holdsDirectoryTreeOf_25) (fun r25 hr25 => ?_)
    have hr25 := bz_c hr25 (sO_pf kg hw_6 hc_7 hb_6 ks_3 hw_5 hc_8 hb_5)
    obtain rfl := Eq.symm (bz_zP hr25)
    refine lv_if_eq (tgt := 33) hx hb d_NameSet_holdsDirectoryTreeOf_28 (by decide) (fun c28 => ?_) (fun c28 => ?_)
    · have p28 : ¬ (sO κ ω ((ω ((ω ((ω h).getD 1 0)).getD 0 0)).getD z9 0) <+: sO κ ω g) := (zP_0.mp c28)
      refine lv_iinc (v := nI (z9 + 1)) (lv' := [(2, .int (nI (z9 + 1))), (0, .ref h), (1, .ref g)]) hx hb d_NameSet_holdsDirectoryTreeOf_33 hl (k := 0) rfl (nI_1 _) (by decide) rfl (fun ls hl => ?_)
      refine lv_goto (tgt := 2) hx hb d_NameSet_holdsDirectoryTreeOf_36 (by decide) ?_
      exact ih2 (z9 + 1) ls (by omega) (⟨by omega, fun i9 h9 => (Nat.lt_succ_iff_lt_or_eq.mp h9).elim (hJ.2 i9) (fun e9 => by subst e9; exact p28)⟩) (lv_sub hl [0, 1, 2] rfl)
    · have p28 : sO κ ω ((ω ((ω ((ω h).getD 1 0)).getD 0 0)).getD z9 0) <+: sO κ ω g := (zP_1 c28)
      refine lv_iconst (v := 1) hx hb d_NameSet_holdsDirectoryTreeOf_31 (by decide) ?_
      exact W.zret (v := 1) hx hb hr rfl (fun t ht hW => ⟨_, rfl, zP_t ⟨_, lO_mem kd_1 (by omega), p28⟩, ht⟩) (fun q h => by cases h) d_NameSet_holdsDirectoryTreeOf_32
def y_NameSet_holdsDnsTreeOf : MethodName := ⟨"TrustChain$NameSet", "holdsDnsTreeOf", "(LTrustChain$Slice;)Z"⟩
abbrev b_NameSet_holdsDnsTreeOf : ByteArray := prog_5_method_3_code
def w_NameSet_holdsDnsTreeOf : List Cond := Cond.code y_NameSet_holdsDnsTreeOf b_NameSet_holdsDnsTreeOf 6 ((some FieldType.boolean)) :: tb
theorem d_NameSet_holdsDnsTreeOf_0 : decode b_NameSet_holdsDnsTreeOf 0 = .ok (.iconst 0, 1) := by decide +kernel
theorem d_NameSet_holdsDnsTreeOf_1 : decode b_NameSet_holdsDnsTreeOf 1 = .ok (.istore_n 2, 1) := by decide +kernel
theorem d_NameSet_holdsDnsTreeOf_2 : decode b_NameSet_holdsDnsTreeOf 2 = .ok (.iload_n 2, 1) := by decide +kernel
theorem d_NameSet_holdsDnsTreeOf_3 : decode b_NameSet_holdsDnsTreeOf 3 = .ok (.aload_n 0, 1) := by decide +kernel
theorem d_NameSet_holdsDnsTreeOf_4 : decode b_NameSet_holdsDnsTreeOf 4 = .ok (.getfield 12, 3) := by decide +kernel
theorem d_NameSet_holdsDnsTreeOf_7 : decode b_NameSet_holdsDnsTreeOf 7 = .ok (.invokevirtual 21, 3) := by decide +kernel
theorem d_NameSet_holdsDnsTreeOf_10 : decode b_NameSet_holdsDnsTreeOf 10 = .ok (.if_icmp .ge 84, 3) := by decide +kernel
theorem d_NameSet_holdsDnsTreeOf_13 : decode b_NameSet_holdsDnsTreeOf 13 = .ok (.aload_n 0, 1) := by decide +kernel
theorem d_NameSet_holdsDnsTreeOf_14 : decode b_NameSet_holdsDnsTreeOf 14 = .ok (.getfield 12, 3) := by decide +kernel
theorem d_NameSet_holdsDnsTreeOf_17 : decode b_NameSet_holdsDnsTreeOf 17 = .ok (.iload_n 2, 1) := by decide +kernel
theorem d_NameSet_holdsDnsTreeOf_18 : decode b_NameSet_holdsDnsTreeOf 18 = .ok (.invokevirtual 25, 3) := by decide +kernel
theorem d_NameSet_holdsDnsTreeOf_21 : decode b_NameSet_holdsDnsTreeOf 21 = .ok (.checkcast 29, 3) := by decide +kernel
theorem d_NameSet_holdsDnsTreeOf_24 : decode b_NameSet_holdsDnsTreeOf 24 = .ok (.astore_n 3, 1) := by decide +kernel
theorem d_NameSet_holdsDnsTreeOf_25 : decode b_NameSet_holdsDnsTreeOf 25 = .ok (.aload_n 1, 1) := by decide +kernel
theorem d_NameSet_holdsDnsTreeOf_26 : decode b_NameSet_holdsDnsTreeOf 26 = .ok (.invokevirtual 35, 3) := by decide +kernel
theorem d_NameSet_holdsDnsTreeOf_29 : decode b_NameSet_holdsDnsTreeOf 29 = .ok (.aload_n 3, 1) := by decide +kernel
theorem d_NameSet_holdsDnsTreeOf_30 : decode b_NameSet_holdsDnsTreeOf 30 = .ok (.invokevirtual 35, 3) := by decide +kernel
theorem d_NameSet_holdsDnsTreeOf_33 : decode b_NameSet_holdsDnsTreeOf 33 = .ok (.isub, 1) := by decide +kernel
theorem d_NameSet_holdsDnsTreeOf_34 : decode b_NameSet_holdsDnsTreeOf 34 = .ok (.iconst 1, 1) := by decide +kernel
theorem d_NameSet_holdsDnsTreeOf_35 : decode b_NameSet_holdsDnsTreeOf 35 = .ok (.isub, 1) := by decide +kernel
theorem d_NameSet_holdsDnsTreeOf_36 : decode b_NameSet_holdsDnsTreeOf 36 = .ok (.istore 4, 2) := by decide +kernel
theorem d_NameSet_holdsDnsTreeOf_38 : decode b_NameSet_holdsDnsTreeOf 38 = .ok (.iload 4, 2) := by decide +kernel
theorem d_NameSet_holdsDnsTreeOf_40 : decode b_NameSet_holdsDnsTreeOf 40 = .ok (.iconst (-1), 1) := by decide +kernel
theorem d_NameSet_holdsDnsTreeOf_41 : decode b_NameSet_holdsDnsTreeOf 41 = .ok (.if_icmp .eq 14, 3) := by decide +kernel
theorem d_NameSet_holdsDnsTreeOf_44 : decode b_NameSet_holdsDnsTreeOf 44 = .ok (.aload_n 1, 1) := by decide +kernel
theorem d_NameSet_holdsDnsTreeOf_45 : decode b_NameSet_holdsDnsTreeOf 45 = .ok (.iload 4, 2) := by decide +kernel
theorem d_NameSet_holdsDnsTreeOf_47 : decode b_NameSet_holdsDnsTreeOf 47 = .ok (.invokevirtual 38, 3) := by decide +kernel
theorem d_NameSet_holdsDnsTreeOf_50 : decode b_NameSet_holdsDnsTreeOf 50 = .ok (.bipush 46, 2) := by decide +kernel
theorem d_NameSet_holdsDnsTreeOf_52 : decode b_NameSet_holdsDnsTreeOf 52 = .ok (.if_icmp .ne 7, 3) := by decide +kernel
theorem d_NameSet_holdsDnsTreeOf_55 : decode b_NameSet_holdsDnsTreeOf 55 = .ok (.iconst 1, 1) := by decide +kernel
theorem d_NameSet_holdsDnsTreeOf_56 : decode b_NameSet_holdsDnsTreeOf 56 = .ok (.goto 4, 3) := by decide +kernel
theorem d_NameSet_holdsDnsTreeOf_59 : decode b_NameSet_holdsDnsTreeOf 59 = .ok (.iconst 0, 1) := by decide +kernel
theorem d_NameSet_holdsDnsTreeOf_60 : decode b_NameSet_holdsDnsTreeOf 60 = .ok (.istore 5, 2) := by decide +kernel
theorem d_NameSet_holdsDnsTreeOf_62 : decode b_NameSet_holdsDnsTreeOf 62 = .ok (.aload_n 3, 1) := by decide +kernel
theorem d_NameSet_holdsDnsTreeOf_63 : decode b_NameSet_holdsDnsTreeOf 63 = .ok (.invokevirtual 35, 3) := by decide +kernel
theorem d_NameSet_holdsDnsTreeOf_66 : decode b_NameSet_holdsDnsTreeOf 66 = .ok (.ifCond .eq 20, 3) := by decide +kernel
theorem d_NameSet_holdsDnsTreeOf_69 : decode b_NameSet_holdsDnsTreeOf 69 = .ok (.iload 5, 2) := by decide +kernel
theorem d_NameSet_holdsDnsTreeOf_71 : decode b_NameSet_holdsDnsTreeOf 71 = .ok (.ifCond .eq 17, 3) := by decide +kernel
theorem d_NameSet_holdsDnsTreeOf_74 : decode b_NameSet_holdsDnsTreeOf 74 = .ok (.aload_n 1, 1) := by decide +kernel
theorem d_NameSet_holdsDnsTreeOf_75 : decode b_NameSet_holdsDnsTreeOf 75 = .ok (.aload_n 3, 1) := by decide +kernel
theorem d_NameSet_holdsDnsTreeOf_76 : decode b_NameSet_holdsDnsTreeOf 76 = .ok (.aload_n 3, 1) := by decide +kernel
theorem d_NameSet_holdsDnsTreeOf_77 : decode b_NameSet_holdsDnsTreeOf 77 = .ok (.invokevirtual 35, 3) := by decide +kernel
theorem d_NameSet_holdsDnsTreeOf_80 : decode b_NameSet_holdsDnsTreeOf 80 = .ok (.invokevirtual 42, 3) := by decide +kernel
theorem d_NameSet_holdsDnsTreeOf_83 : decode b_NameSet_holdsDnsTreeOf 83 = .ok (.ifCond .eq 5, 3) := by decide +kernel
theorem d_NameSet_holdsDnsTreeOf_86 : decode b_NameSet_holdsDnsTreeOf 86 = .ok (.iconst 1, 1) := by decide +kernel
theorem d_NameSet_holdsDnsTreeOf_87 : decode b_NameSet_holdsDnsTreeOf 87 = .ok (.ireturn, 1) := by decide +kernel
theorem d_NameSet_holdsDnsTreeOf_88 : decode b_NameSet_holdsDnsTreeOf 88 = .ok (.iinc 2 1, 3) := by decide +kernel
theorem d_NameSet_holdsDnsTreeOf_91 : decode b_NameSet_holdsDnsTreeOf 91 = .ok (.goto (-89), 3) := by decide +kernel
theorem d_NameSet_holdsDnsTreeOf_94 : decode b_NameSet_holdsDnsTreeOf 94 = .ok (.iconst 0, 1) := by decide +kernel
theorem d_NameSet_holdsDnsTreeOf_95 : decode b_NameSet_holdsDnsTreeOf 95 = .ok (.ireturn, 1) := by decide +kernel
set_option maxHeartbeats 4000000 in
set_option maxRecDepth 100000 in
theorem p_NameSet_holdsDnsTreeOf (l : Launch) (dC : Nat → ClassId) (dI : Nat → Nat → Nat) (sb : sB) (γ : cG) (κ : kE) (Ad : List Nat) (ν : Nat → cN) (ω : Nat → List Nat) (L : Nat) (G : va_W) (h g : Nat) (K1 K2 z : Nat) (hTy : TY γ κ Ad ν ω L G) (kh : tK κ Ad h (5, K1, K2)) (kg : tK κ Ad g (2, z, 1))  : Met l y_NameSet_holdsDnsTreeOf w_NameSet_holdsDnsTreeOf ({ frames := 3, cells := 0, slots := 0, locals := 64 }) (pu_P [.ref h, .ref g] (dC, dI) sb G [(γ.1, .byte), (γ.2.1, .int), (γ.2.2.1, .long), (γ.2.2.2, .object "java/lang/Object")]) (vp_Si (fun r => r = zP (∃ t, t ∈ lO κ ω ((ω h).getD 0 0) ∧ dtQ t (sO κ ω g)))) 0 0 (fun _ => False) := by
  refine Met.ofW (cc := b_NameSet_holdsDnsTreeOf) (maxL := 6) (ret := (some FieldType.boolean)) (by decide) rfl ?_
  intro p e s m args below meth c s₁ B hml hv
  obtain ⟨rfl, hP, hK, hN, hT0⟩ := hv
  have hx := B.exec
  have hb := B.bytes
  have hr := B.returns
  have hts := atoms_spec (ws := w_NameSet_holdsDnsTreeOf) B.pre
  have tbin : ∀ w ∈ tb, w ∈ w_NameSet_holdsDnsTreeOf := fun w h => List.mem_cons_of_mem _ h
  have htb : ∀ w ∈ tb, w.before _ s = true := fun w h => hts w (tbin w h)
  have hown : s.vm.findClass "TrustChain$NameSet" = some m.cls := findClass_of_methodNamed B.named
  have hlocks := B.notSynchronized
  have hl := lv_entry ([.ref h, .ref g]) (n := 6) (Nat.le_of_ble_eq_true rfl)
  rw [lg_entry_eq]
  generalize (lg_sl ([.ref h, .ref g]) ++ List.replicate (6 - (lg_sl ([.ref h, .ref g])).length) Slot.unset).toArray = ls at hl ⊢
  have hl : lv_has ls 6 [(0, .ref h), (1, .ref g)] := hl
  refine lv_iconst (v := 0) hx hb d_NameSet_holdsDnsTreeOf_0 (by decide) ?_
  refine lv_istore_n (lv' := [(2, .int 0), (0, .ref h), (1, .ref g)]) hx hb d_NameSet_holdsDnsTreeOf_1 rfl hl (by decide) rfl (fun ls hl => ?_)
  refine w_loop (α := Nat) (fun z9 => z9 ≤ K1 ∧ ∀ i9, i9 < z9 → ¬ (dtQ (sO κ ω ((ω ((ω ((ω h).getD 0 0)).getD 0 0)).getD i9 0)) (sO κ ω g))) (fun z9 => K1 - z9) (fun z9 => [(2, .int (nI z9)), (0, .ref h), (1, .ref g)]) (fun _ => []) 6 2 (fun z9 ls hJ hl ih2 => ?_) 0 ls (⟨Nat.zero_le _, fun i9 h9 => absurd h9 (Nat.not_lt_zero i9)⟩) (lv_sub hl [0, 1, 2] rfl)
  have hz9 := hJ.1
  refine lv_iload_n hx hb d_NameSet_holdsDnsTreeOf_2 rfl (lv_at hl 0 rfl) ?_
  refine lv_aload_n hx hb d_NameSet_holdsDnsTreeOf_3 rfl (lv_at hl 1 rfl) ?_
  obtain ⟨i_1, kl_1, kd_1, hg_1⟩ := ty_5x hTy kh
  refine va_get (v := .ref ((ω h).getD 0 0)) hx hb htb i_NameSet hown hK hP i_1 hg_1 rfl 0 (by decide) (htb _ q2_126) (fun _ h9 => h9) rfl d_NameSet_holdsDnsTreeOf_4 ?_
  obtain ⟨i_2, m_2, hK_2, he_2, hg_2⟩ := ty_4x hTy kl_1
  refine vp_callSi (pu_callV (As := []) (rest := [.int (nI z9)]) ⟨hx, hb, hml, hown, hts⟩ tbin (c_AL_size l dC dI sb ((ω h).getD 0 0) ((ω ((ω h).getD 0 0)).getD 0 0) K1 m_2) q6_93 q2_54 q2_55 q1_4 q2_56 (n := 0) (by decide +kernel) rfl ⟨rfl, rfl⟩ ⟨Nat.le_of_ble_eq_true rfl, Nat.le_of_ble_eq_true rfl⟩ ⟨Nat.le_of_ble_eq_true rfl, Nat.le_of_ble_eq_true rfl⟩ hN hT0 hK hP [i_2] (by simp only [List.filterMap_cons, List.filterMap_nil, hg_2]) [] rfl i_2 11 hg_2 rfl rfl hl.1 rfl (Nat.le_of_ble_eq_true rfl) d_NameSet_holdsDnsTreeOf_7) (fun r7 hr7 => ?_)
  subst hr7
  refine lv_icmp_ge (tgt := 94) hx hb d_NameSet_holdsDnsTreeOf_10 (by decide) (fun c10 => ?_) (fun c10 => ?_)
  · have p10 : K1 ≤ z9 := ((nI_leI (a := K1) (b := z9) (by omega) (by omega)).mp c10)
    refine lv_iconst (v := 0) hx hb d_NameSet_holdsDnsTreeOf_94 (by decide) ?_
    exact W.zret (v := 0) hx hb hr rfl (fun t ht hW => ⟨_, rfl, zP_f (fun ⟨t9, h8, h9⟩ => lO_all (P := fun t => ¬ dtQ t (sO κ ω g)) kl_1 (fun i hi => hJ.2 i (by omega)) t9 h8 h9), ht⟩) (fun q h => by cases h) d_NameSet_holdsDnsTreeOf_95
  · have p10 : ¬ (K1 ≤ z9) := (fun q9 => c10 ((nI_leI (a := K1) (b := z9) (by omega) (by omega)).mpr q9))
    refine lv_aload_n hx hb d_NameSet_holdsDnsTreeOf_13 rfl (lv_at hl 1 rfl) ?_
    refine va_get (v := .ref ((ω h).getD 0 0)) hx hb htb i_NameSet hown hK hP i_1 hg_1 rfl 0 (by decide) (htb _ q2_126) (fun _ h9 => h9) rfl d_NameSet_holdsDnsTreeOf_14 ?_
    refine lv_iload_n hx hb d_NameSet_holdsDnsTreeOf_17 rfl (lv_at hl 0 rfl) ?_
    obtain ⟨cap_3, kq_3⟩ := he_2 (by omega)
    obtain ⟨i_4, f_4, hK_4, hc_4, he_4, hg_4⟩ := ty_3x hTy kq_3
    obtain ⟨hf_3, ks_3⟩ := he_4 z9 (by omega)
    have ks_3 := tK.two ks_3
    refine va_csr (pu_callV (As := [.int (nI z9)]) (rest := []) ⟨hx, hb, hml, hown, hts⟩ tbin (c_AL_get l dC dI sb ((ω h).getD 0 0) ((ω ((ω h).getD 0 0)).getD 0 0) K1 cap_3 z9 ((ω ((ω ((ω h).getD 0 0)).getD 0 0)).getD z9 0) m_2 γ.2.2.2 f_4 (by omega) hK_4 (by omega) hf_3) q6_94 q4_210 q4_211 q1_4 q4_212 (n := 1) (by decide +kernel) rfl ⟨rfl, rfl⟩ ⟨Nat.le_of_ble_eq_true rfl, Nat.le_of_ble_eq_true rfl⟩ ⟨Nat.le_of_ble_eq_true rfl, Nat.le_of_ble_eq_true rfl⟩ hN hT0 hK hP [i_2, i_4] (by simp only [List.filterMap_cons, List.filterMap_nil, hg_2, hg_4]) [3] rfl i_2 11 hg_2 rfl rfl hl.1 rfl (Nat.le_of_ble_eq_true rfl) d_NameSet_holdsDnsTreeOf_18) (fun r18 hr18 => ?_)
    obtain rfl := Eq.symm hr18
    obtain ⟨i_5, t_5, n_5, f_5, kt_5, hb_5, hm_5, hw_5, hg_5⟩ := ty_2x hTy ks_3
    refine va_castY (C := "TrustChain$Slice") hx hb hown (htb _ q6_95) (hN.1 _ qn9_222) (va_recv (ci := 0) hK hP rfl hg_5) d_NameSet_holdsDnsTreeOf_21 ?_
    refine lv_astore_n (lv' := [(3, .ref ((ω ((ω ((ω h).getD 0 0)).getD 0 0)).getD z9 0)), (2, .int (nI z9)), (0, .ref h), (1, .ref g)]) hx hb d_NameSet_holdsDnsTreeOf_24 rfl hl (by decide) rfl (fun ls hl => ?_)
    obtain ⟨i_6, t_6, n_6, f_6, kt_6, hb_6, hm_6, hw_6, hg_6⟩ := ty_2x hTy kg
    obtain ⟨i_7, u_7, hu_7, hc_7, hn_7, hg_7⟩ := ty_1x hTy kt_6
    have hlt9 := sO_lt kg hw_6 hc_7 hu_7 hb_6
    refine lv_aload_n hx hb d_NameSet_holdsDnsTreeOf_25 rfl (lv_at hl 3 rfl) ?_
    refine vp_callSi (pu_callV (As := []) (rest := []) ⟨hx, hb, hml, hown, hts⟩ tbin (c_Slice_length l dC dI sb g t_6 f_6 (f_6 + z) (by omega)) q6_106 q3_144 q3_145 q1_22 q3_146 (n := 0) (by decide +kernel) rfl ⟨rfl, rfl⟩ ⟨Nat.le_of_ble_eq_true rfl, Nat.le_of_ble_eq_true rfl⟩ ⟨Nat.le_of_ble_eq_true rfl, Nat.le_of_ble_eq_true rfl⟩ hN hT0 hK hP [i_6] (by simp only [List.filterMap_cons, List.filterMap_nil, hg_6]) [] rfl i_6 0 hg_6 rfl rfl hl.1 rfl (Nat.le_of_ble_eq_true rfl) d_NameSet_holdsDnsTreeOf_26) (fun r26 hr26 => ?_)
    rw [show (f_6 + z) - f_6 = z by omega] at hr26
    subst hr26
    refine lv_aload_n hx hb d_NameSet_holdsDnsTreeOf_29 rfl (lv_at hl 0 rfl) ?_
    refine vp_callSi (pu_callV (As := []) (rest := [.int (nI z)]) ⟨hx, hb, hml, hown, hts⟩ tbin (c_Slice_length l dC dI sb ((ω ((ω ((ω h).getD 0 0)).getD 0 0)).getD z9 0) t_5 f_5 (f_5 + ((κ ((ω ((ω ((ω h).getD 0 0)).getD 0 0)).getD z9 0)).2.1)) (by omega)) q6_106 q3_144 q3_145 q1_22 q3_146 (n := 0) (by decide +kernel) rfl ⟨rfl, rfl⟩ ⟨Nat.le_of_ble_eq_true rfl, Nat.le_of_ble_eq_true rfl⟩ ⟨Nat.le_of_ble_eq_true rfl, Nat.le_of_ble_eq_true rfl⟩ hN hT0 hK hP [i_5] (by simp only [List.filterMap_cons, List.filterMap_nil, hg_5]) [] rfl i_5 0 hg_5 rfl rfl hl.1 rfl (Nat.le_of_ble_eq_true rfl) d_NameSet_holdsDnsTreeOf_30) (fun r30 hr30 => ?_)
    rw [show (f_5 + ((κ ((ω ((ω ((ω h).getD 0 0)).getD 0 0)).getD z9 0)).2.1)) - f_5 = (κ ((ω ((ω ((ω h).getD 0 0)).getD 0 0)).getD z9 0)).2.1 by omega] at hr30
    subst hr30
    refine lv_isub hx hb d_NameSet_holdsDnsTreeOf_33 ?_
    refine lv_iconst (v := 1) hx hb d_NameSet_holdsDnsTreeOf_34 (by decide) ?_
    refine lv_isub hx hb d_NameSet_holdsDnsTreeOf_35 ?_
    refine lv_istore (lv' := [(4, .int (((nI z) - (nI ((κ ((ω ((ω ((ω h).getD 0 0)).getD 0 0)).getD z9 0)).2.1))) - 1)), (3, .ref ((ω ((ω ((ω h).getD 0 0)).getD 0 0)).getD z9 0)), (2, .int (nI z9)), (0, .ref h), (1, .ref g)]) hx hb d_NameSet_holdsDnsTreeOf_36 hl (by decide) rfl (fun ls hl => ?_)
    refine lv_iload hx hb d_NameSet_holdsDnsTreeOf_38 (lv_at hl 0 rfl) ?_
    refine lv_iconst (v := -1) hx hb d_NameSet_holdsDnsTreeOf_40 (by decide) ?_
    refine w_join (J := fun v9 => v9 = zP (((((nI z) - (nI ((κ ((ω ((ω ((ω h).getD 0 0)).getD 0 0)).getD z9 0)).2.1))) - 1) = (-1 : Int32)) ∨ ((atQ (sO κ ω g) (((nI z) - (nI ((κ ((ω ((ω ((ω h).getD 0 0)).getD 0 0)).getD z9 0)).2.1))) - 1)) = (46 : Int32)))) (pc := 60) (ls := ls) (rest := []) (fun v9 hv9 => ?_) (fun k60 => ?_)
    · subst hv9
      refine lv_istore (lv' := [(5, .int (zP (((((nI z) - (nI ((κ ((ω ((ω ((ω h).getD 0 0)).getD 0 0)).getD z9 0)).2.1))) - 1) = (-1 : Int32)) ∨ ((atQ (sO κ ω g) (((nI z) - (nI ((κ ((ω ((ω ((ω h).getD 0 0)).getD 0 0)).getD z9 0)).2.1))) - 1)) = (46 : Int32))))), (4, .int (((nI z) - (nI ((κ ((ω ((ω ((ω h).getD 0 0)).getD 0 0)).getD z9 0)).2.1))) - 1)), (3, .ref ((ω ((ω ((ω h).getD 0 0)).getD 0 0)).getD z9 0)), (2, .int (nI z9)), (0, .ref h), (1, .ref g)]) hx hb d_NameSet_holdsDnsTreeOf_60 hl (by decide) rfl (fun ls hl => ?_)
      refine lv_aload_n hx hb d_NameSet_holdsDnsTreeOf_62 rfl (lv_at hl 2 rfl) ?_
      refine vp_callSi (pu_callV (As := []) (rest := []) ⟨hx, hb, hml, hown, hts⟩ tbin (c_Slice_length l dC dI sb ((ω ((ω ((ω h).getD 0 0)).getD 0 0)).getD z9 0) t_5 f_5 (f_5 + ((κ ((ω ((ω ((ω h).getD 0 0)).getD 0 0)).getD z9 0)).2.1)) (by omega)) q6_106 q3_144 q3_145 q1_22 q3_146 (n := 0) (by decide +kernel) rfl ⟨rfl, rfl⟩ ⟨Nat.le_of_ble_eq_true rfl, Nat.le_of_ble_eq_true rfl⟩ ⟨Nat.le_of_ble_eq_true rfl, Nat.le_of_ble_eq_true rfl⟩ hN hT0 hK hP [i_5] (by simp only [List.filterMap_cons, List.filterMap_nil, hg_5]) [] rfl i_5 0 hg_5 rfl rfl hl.1 rfl (Nat.le_of_ble_eq_true rfl) d_NameSet_holdsDnsTreeOf_63) (fun r63 hr63 => ?_)
      rw [show (f_5 + ((κ ((ω ((ω ((ω h).getD 0 0)).getD 0 0)).getD z9 0)).2.1)) - f_5 = (κ ((ω ((ω ((ω h).getD 0 0)).getD 0 0)).getD z9 0)).2.1 by omega] at hr63
      subst hr63
      refine lv_if_eq (tgt := 86) hx hb d_NameSet_holdsDnsTreeOf_66 (by decide) (fun c66 => ?_) (fun c66 => ?_)
      · have p66 : ((κ ((ω ((ω ((ω h).getD 0 0)).getD 0 0)).getD z9 0)).2.1) = 0 := ((nI_eq (a := ((κ ((ω ((ω ((ω h).getD 0 0)).getD 0 0)).getD z9 0)).2.1)) (b := 0) (by omega) (by omega)).mp c66)
        refine lv_iconst (v := 1) hx hb d_NameSet_holdsDnsTreeOf_86 (by decide) ?_
        exact W.zret (v := 1) hx hb hr rfl (fun t ht hW => ⟨_, rfl, zP_t ⟨_, lO_mem kl_1 (by omega), (dns_y (sO_len ks_3) (sO_len kg) (by omega) (by omega) hlt9).mp (Or.inl p66)⟩, ht⟩) (fun q h => by cases h) d_NameSet_holdsDnsTreeOf_87
      · have p66 : ¬ (((κ ((ω ((ω ((ω h).getD 0 0)).getD 0 0)).getD z9 0)).2.1) = 0) := (fun q9 => c66 ((nI_eq (a := ((κ ((ω ((ω ((ω h).getD 0 0)).getD 0 0)).getD z9 0)).2.1)) (b := 0) (by omega) (by omega)).mpr q9))
        refine lv_iload hx hb d_NameSet_holdsDnsTreeOf_69 (lv_at hl 0 rfl) ?_
        refine lv_if_eq (tgt := 88) hx hb d_NameSet_holdsDnsTreeOf_71 (by decide) (fun c71 => ?_) (fun c71 => ?_)
        · have p71 : ¬ (((((nI z) - (nI ((κ ((ω ((ω ((ω h).getD 0 0)).getD 0 0)).getD z9 0)).2.1))) - 1) = (-1 : Int32)) ∨ ((atQ (sO κ ω g) (((nI z) - (nI ((κ ((ω ((ω ((ω h).getD 0 0)).getD 0 0)).getD z9 0)).2.1))) - 1)) = (46 : Int32))) := (zP_0.mp c71)
          refine lv_iinc (v := nI (z9 + 1)) (lv' := [(2, .int (nI (z9 + 1))), (5, .int (zP (((((nI z) - (nI ((κ ((ω ((ω ((ω h).getD 0 0)).getD 0 0)).getD z9 0)).2.1))) - 1) = (-1 : Int32)) ∨ ((atQ (sO κ ω g) (((nI z) - (nI ((κ ((ω ((ω ((ω h).getD 0 0)).getD 0 0)).getD z9 0)).2.1))) - 1)) = (46 : Int32))))), (4, .int (((nI z) - (nI ((κ ((ω ((ω ((ω h).getD 0 0)).getD 0 0)).getD z9 0)).2.1))) - 1)), (3, .ref ((ω ((ω ((ω h).getD 0 0)).getD 0 0)).getD z9 0)), (0, .ref h), (1, .ref g)]) hx hb d_NameSet_holdsDnsTreeOf_88 hl (k := 3) rfl (nI_1 _) (by decide) rfl (fun ls hl => ?_)
          refine lv_goto (tgt := 2) hx hb d_NameSet_holdsDnsTreeOf_91 (by decide) ?_
          exact ih2 (z9 + 1) ls (by omega) (⟨by omega, fun i9 h9 => (Nat.lt_succ_iff_lt_or_eq.mp h9).elim (hJ.2 i9) (fun e9 => by subst e9; exact fun q9 => ((dns_y (sO_len ks_3) (sO_len kg) (by omega) (by omega) hlt9).mpr q9).elim p66 (fun z9 => p71 z9.1))⟩) (lv_sub hl [0, 4, 5] rfl)
        · have p71 : ((((nI z) - (nI ((κ ((ω ((ω ((ω h).getD 0 0)).getD 0 0)).getD z9 0)).2.1))) - 1) = (-1 : Int32)) ∨ ((atQ (sO κ ω g) (((nI z) - (nI ((κ ((ω ((ω ((ω h).getD 0 0)).getD 0 0)).getD z9 0)).2.1))) - 1)) = (46 : Int32)) := (zP_1 c71)
          refine lv_aload_n hx hb d_NameSet_holdsDnsTreeOf_74 rfl (lv_at hl 5 rfl) ?_
          refine lv_aload_n hx hb d_NameSet_holdsDnsTreeOf_75 rfl (lv_at hl 2 rfl) ?_
          refine lv_aload_n hx hb d_NameSet_holdsDnsTreeOf_76 rfl (lv_at hl 2 rfl) ?_
          refine vp_callSi (pu_callV (As := []) (rest := [.ref ((ω ((ω ((ω h).getD 0 0)).getD 0 0)).getD z9 0), .ref g]) ⟨hx, hb, hml, hown, hts⟩ tbin (c_Slice_length l dC dI sb ((ω ((ω ((ω h).getD 0 0)).getD 0 0)).getD z9 0) t_5 f_5 (f_5 + ((κ ((ω ((ω ((ω h).getD 0 0)).getD 0 0)).getD z9 0)).2.1)) (by omega)) q6_106 q3_144 q3_145 q1_22 q3_146 (n := 0) (by decide +kernel) rfl ⟨rfl, rfl⟩ ⟨Nat.le_of_ble_eq_true rfl, Nat.le_of_ble_eq_true rfl⟩ ⟨Nat.le_of_ble_eq_true rfl, Nat.le_of_ble_eq_true rfl⟩ hN hT0 hK hP [i_5] (by simp only [List.filterMap_cons, List.filterMap_nil, hg_5]) [] rfl i_5 0 hg_5 rfl rfl hl.1 rfl (Nat.le_of_ble_eq_true rfl) d_NameSet_holdsDnsTreeOf_77) (fun r77 hr77 => ?_)
          rw [show (f_5 + ((κ ((ω ((ω ((ω h).getD 0 0)).getD 0 0)).getD z9 0)).2.1)) - f_5 = (κ ((ω ((ω ((ω h).getD 0 0)).getD 0 0)).getD z9 0)).2.1 by omega] at hr77
          subst hr77
          obtain ⟨i_8, u_8, hu_8, hc_8, hn_8, hg_8⟩ := ty_1x hTy kt_5
          refine vp_callSi (pu_callV (As := [.ref ((ω ((ω ((ω h).getD 0 0)).getD 0 0)).getD z9 0), .int (nI ((κ ((ω ((ω ((ω h).getD 0 0)).getD 0 0)).getD z9 0)).2.1))]) (rest := []) ⟨hx, hb, hml, hown, hts⟩ tbin (c_Slice_sharesTail l dC dI sb g ((ω ((ω ((ω h).getD 0 0)).getD 0 0)).getD z9 0) t_6 t_5 f_6 (f_6 + z) n_6 f_5 (f_5 + ((κ ((ω ((ω ((ω h).getD 0 0)).getD 0 0)).getD z9 0)).2.1)) n_5 γ.1 γ.1 u_7 u_8 ((κ ((ω ((ω ((ω h).getD 0 0)).getD 0 0)).getD z9 0)).2.1) hu_7 (by omega) (by omega) (by omega) hu_8 (by omega) (by omega) (by omega) (by omega)) q6_108 q6_109 q6_110 q1_22 q6_111 (n := 2) (by decide +kernel) rfl ⟨rfl, rfl⟩ ⟨Nat.le_of_ble_eq_true rfl, Nat.le_of_ble_eq_true rfl⟩ ⟨Nat.le_of_ble_eq_true rfl, Nat.le_of_ble_eq_true rfl⟩ hN hT0 hK hP [i_6, i_7, i_5, i_8] (by simp only [List.filterMap_cons, List.filterMap_nil, hg_6, hg_7, hg_5, hg_8]) [0, 0] rfl i_6 0 hg_6 rfl rfl hl.1 rfl (Nat.le_of_ble_eq_true rfl) d_NameSet_holdsDnsTreeOf_80) (fun r80 hr80 => ?_)
          have hr80 := bz_c hr80 (sO_tl kg hw_6 hc_7 hb_6 ks_3 hw_5 hc_8 hb_5 rfl)
          obtain rfl := Eq.symm (bz_zP hr80)
          refine lv_if_eq (tgt := 88) hx hb d_NameSet_holdsDnsTreeOf_83 (by decide) (fun c83 => ?_) (fun c83 => ?_)
          · have p83 : ¬ ((sO κ ω ((ω ((ω ((ω h).getD 0 0)).getD 0 0)).getD z9 0)).length ≤ (sO κ ω g).length ∧ tlQ (sO κ ω ((ω ((ω ((ω h).getD 0 0)).getD 0 0)).getD z9 0)) (sO κ ω g)) := (zP_0.mp c83)
            refine lv_iinc (v := nI (z9 + 1)) (lv' := [(2, .int (nI (z9 + 1))), (5, .int (zP (((((nI z) - (nI ((κ ((ω ((ω ((ω h).getD 0 0)).getD 0 0)).getD z9 0)).2.1))) - 1) = (-1 : Int32)) ∨ ((atQ (sO κ ω g) (((nI z) - (nI ((κ ((ω ((ω ((ω h).getD 0 0)).getD 0 0)).getD z9 0)).2.1))) - 1)) = (46 : Int32))))), (4, .int (((nI z) - (nI ((κ ((ω ((ω ((ω h).getD 0 0)).getD 0 0)).getD z9 0)).2.1))) - 1)), (3, .ref ((ω ((ω ((ω h).getD 0 0)).getD 0 0)).getD z9 0)), (0, .ref h), (1, .ref g)]) hx hb d_NameSet_holdsDnsTreeOf_88 hl (k := 3) rfl (nI_1 _) (by decide) rfl (fun ls hl => ?_)
            refine lv_goto (tgt := 2) hx hb d_NameSet_holdsDnsTreeOf_91 (by decide) ?_
            exact ih2 (z9 + 1) ls (by omega) (⟨by omega, fun i9 h9 => (Nat.lt_succ_iff_lt_or_eq.mp h9).elim (hJ.2 i9) (fun e9 => by subst e9; exact fun q9 => ((dns_y (sO_len ks_3) (sO_len kg) (by omega) (by omega) hlt9).mpr q9).elim p66 (fun z9 => p83 z9.2))⟩) (lv_sub hl [0, 4, 5] rfl)
          · have p83 : (sO κ ω ((ω ((ω ((ω h).getD 0 0)).getD 0 0)).getD z9 0)).length ≤ (sO κ ω g).length ∧ tlQ (sO κ ω ((ω ((ω ((ω h).getD 0 0)).getD 0 0)).getD z9 0)) (sO κ ω g) := (zP_1 c83)
            refine lv_iconst (v := 1) hx hb d_NameSet_holdsDnsTreeOf_86 (by decide) ?_
            exact W.zret (v := 1) hx hb hr rfl (fun t ht hW => ⟨_, rfl, zP_t ⟨_, lO_mem kl_1 (by omega), (dns_y (sO_len ks_3) (sO_len kg) (by omega) (by omega) hlt9).mp (Or.inr ⟨p71, p83⟩)⟩, ht⟩) (fun q h => by cases h) d_NameSet_holdsDnsTreeOf_87
    · skip
      refine lv_icmp_eq (tgt := 55) hx hb d_NameSet_holdsDnsTreeOf_41 (by decide) (fun c41 => ?_) (fun c41 => ?_)
      · have p41 : (((nI z) - (nI ((κ ((ω ((ω ((ω h).getD 0 0)).getD 0 0)).getD z9 0)).2.1))) - 1) = (-1 : Int32) := c41
        refine lv_iconst (v := 1) hx hb d_NameSet_holdsDnsTreeOf_55 (by decide) ?_
        refine lv_goto (tgt := 60) hx hb d_NameSet_holdsDnsTreeOf_56 (by decide) ?_
        exact k60 _ (zP_t (Or.inl p41))
      · have p41 : ¬ ((((nI z) - (nI ((κ ((ω ((ω ((ω h).getD 0 0)).getD 0 0)).getD z9 0)).2.1))) - 1) = (-1 : Int32)) := c41
        refine lv_aload_n hx hb d_NameSet_holdsDnsTreeOf_44 rfl (lv_at hl 4 rfl) ?_
        refine lv_iload hx hb d_NameSet_holdsDnsTreeOf_45 (lv_at hl 0 rfl) ?_
        refine vp_callSi (pu_callV (As := [.int (((nI z) - (nI ((κ ((ω ((ω ((ω h).getD 0 0)).getD 0 0)).getD z9 0)).2.1))) - 1)]) (rest := []) ⟨hx, hb, hml, hown, hts⟩ tbin (c_Slice_at l dC dI sb g t_6 f_6 (f_6 + z) n_6 γ.1 u_7 (((nI z) - (nI ((κ ((ω ((ω ((ω h).getD 0 0)).getD 0 0)).getD z9 0)).2.1))) - 1) hu_7 (by omega) (by omega) (by omega)) q6_107 q3_149 q3_150 q1_22 q3_151 (n := 1) (by decide +kernel) rfl ⟨rfl, rfl⟩ ⟨Nat.le_of_ble_eq_true rfl, Nat.le_of_ble_eq_true rfl⟩ ⟨Nat.le_of_ble_eq_true rfl, Nat.le_of_ble_eq_true rfl⟩ hN hT0 hK hP [i_6, i_7] (by simp only [List.filterMap_cons, List.filterMap_nil, hg_6, hg_7]) [0] rfl i_6 0 hg_6 rfl rfl hl.1 rfl (Nat.le_of_ble_eq_true rfl) d_NameSet_holdsDnsTreeOf_47) (fun r47 hr47 => ?_)
        rw [sO_at kg hw_6 hc_7 hb_6] at hr47
        obtain rfl : r47 = atQ (sO κ ω g) (((nI z) - (nI ((κ ((ω ((ω ((ω h).getD 0 0)).getD 0 0)).getD z9 0)).2.1))) - 1) := hr47
        have hlt47 := sO_lt kg hw_6 hc_7 hu_7 hb_6
        refine lv_bipush (v := 46) hx hb d_NameSet_holdsDnsTreeOf_50 (by decide) ?_
        refine lv_icmp_ne (tgt := 59) hx hb d_NameSet_holdsDnsTreeOf_52 (by decide) (fun c52 => ?_) (fun c52 => ?_)
        · have p52 : ¬ ((atQ (sO κ ω g) (((nI z) - (nI ((κ ((ω ((ω ((ω h).getD 0 0)).getD 0 0)).getD z9 0)).2.1))) - 1)) = (46 : Int32)) := c52
          refine lv_iconst (v := 0) hx hb d_NameSet_holdsDnsTreeOf_59 (by decide) ?_
          exact k60 _ (zP_f (fun z => z.elim p41 p52))
        · have p52 : (atQ (sO κ ω g) (((nI z) - (nI ((κ ((ω ((ω ((ω h).getD 0 0)).getD 0 0)).getD z9 0)).2.1))) - 1)) = (46 : Int32) := c52
          refine lv_iconst (v := 1) hx hb d_NameSet_holdsDnsTreeOf_55 (by decide) ?_
          refine lv_goto (tgt := 60) hx hb d_NameSet_holdsDnsTreeOf_56 (by decide) ?_
          exact k60 _ (zP_t (Or.inr p52))
def y_NameSet_holdsHost : MethodName := ⟨"TrustChain$NameSet", "holdsHost", "(LTrustChain$Slice;)Z"⟩
abbrev b_NameSet_holdsHost : ByteArray := prog_5_method_4_code
def w_NameSet_holdsHost : List Cond := Cond.code y_NameSet_holdsHost b_NameSet_holdsHost 7 ((some FieldType.boolean)) :: tb
theorem d_NameSet_holdsHost_0 : decode b_NameSet_holdsHost 0 = .ok (.aload_n 1, 1) := by decide +kernel
theorem d_NameSet_holdsHost_1 : decode b_NameSet_holdsHost 1 = .ok (.bipush 46, 2) := by decide +kernel
theorem d_NameSet_holdsHost_3 : decode b_NameSet_holdsHost 3 = .ok (.invokevirtual 46, 3) := by decide +kernel
theorem d_NameSet_holdsHost_6 : decode b_NameSet_holdsHost 6 = .ok (.istore_n 2, 1) := by decide +kernel
theorem d_NameSet_holdsHost_7 : decode b_NameSet_holdsHost 7 = .ok (.aload_n 1, 1) := by decide +kernel
theorem d_NameSet_holdsHost_8 : decode b_NameSet_holdsHost 8 = .ok (.invokevirtual 35, 3) := by decide +kernel
theorem d_NameSet_holdsHost_11 : decode b_NameSet_holdsHost 11 = .ok (.iload_n 2, 1) := by decide +kernel
theorem d_NameSet_holdsHost_12 : decode b_NameSet_holdsHost 12 = .ok (.isub, 1) := by decide +kernel
theorem d_NameSet_holdsHost_13 : decode b_NameSet_holdsHost 13 = .ok (.iconst 1, 1) := by decide +kernel
theorem d_NameSet_holdsHost_14 : decode b_NameSet_holdsHost 14 = .ok (.isub, 1) := by decide +kernel
theorem d_NameSet_holdsHost_15 : decode b_NameSet_holdsHost 15 = .ok (.istore_n 3, 1) := by decide +kernel
theorem d_NameSet_holdsHost_16 : decode b_NameSet_holdsHost 16 = .ok (.iconst 0, 1) := by decide +kernel
theorem d_NameSet_holdsHost_17 : decode b_NameSet_holdsHost 17 = .ok (.istore 4, 2) := by decide +kernel
theorem d_NameSet_holdsHost_19 : decode b_NameSet_holdsHost 19 = .ok (.iload 4, 2) := by decide +kernel
theorem d_NameSet_holdsHost_21 : decode b_NameSet_holdsHost 21 = .ok (.aload_n 0, 1) := by decide +kernel
theorem d_NameSet_holdsHost_22 : decode b_NameSet_holdsHost 22 = .ok (.getfield 12, 3) := by decide +kernel
theorem d_NameSet_holdsHost_25 : decode b_NameSet_holdsHost 25 = .ok (.invokevirtual 21, 3) := by decide +kernel
theorem d_NameSet_holdsHost_28 : decode b_NameSet_holdsHost 28 = .ok (.if_icmp .ge 111, 3) := by decide +kernel
theorem d_NameSet_holdsHost_31 : decode b_NameSet_holdsHost 31 = .ok (.aload_n 0, 1) := by decide +kernel
theorem d_NameSet_holdsHost_32 : decode b_NameSet_holdsHost 32 = .ok (.getfield 12, 3) := by decide +kernel
theorem d_NameSet_holdsHost_35 : decode b_NameSet_holdsHost 35 = .ok (.iload 4, 2) := by decide +kernel
theorem d_NameSet_holdsHost_37 : decode b_NameSet_holdsHost 37 = .ok (.invokevirtual 25, 3) := by decide +kernel
theorem d_NameSet_holdsHost_40 : decode b_NameSet_holdsHost 40 = .ok (.checkcast 29, 3) := by decide +kernel
theorem d_NameSet_holdsHost_43 : decode b_NameSet_holdsHost 43 = .ok (.astore 5, 2) := by decide +kernel
theorem d_NameSet_holdsHost_45 : decode b_NameSet_holdsHost 45 = .ok (.aload 5, 2) := by decide +kernel
theorem d_NameSet_holdsHost_47 : decode b_NameSet_holdsHost 47 = .ok (.invokevirtual 35, 3) := by decide +kernel
theorem d_NameSet_holdsHost_50 : decode b_NameSet_holdsHost 50 = .ok (.aload_n 1, 1) := by decide +kernel
theorem d_NameSet_holdsHost_51 : decode b_NameSet_holdsHost 51 = .ok (.invokevirtual 35, 3) := by decide +kernel
theorem d_NameSet_holdsHost_54 : decode b_NameSet_holdsHost 54 = .ok (.if_icmp .ne 18, 3) := by decide +kernel
theorem d_NameSet_holdsHost_57 : decode b_NameSet_holdsHost 57 = .ok (.aload 5, 2) := by decide +kernel
theorem d_NameSet_holdsHost_59 : decode b_NameSet_holdsHost 59 = .ok (.aload_n 1, 1) := by decide +kernel
theorem d_NameSet_holdsHost_60 : decode b_NameSet_holdsHost 60 = .ok (.aload_n 1, 1) := by decide +kernel
theorem d_NameSet_holdsHost_61 : decode b_NameSet_holdsHost 61 = .ok (.invokevirtual 35, 3) := by decide +kernel
theorem d_NameSet_holdsHost_64 : decode b_NameSet_holdsHost 64 = .ok (.invokevirtual 42, 3) := by decide +kernel
theorem d_NameSet_holdsHost_67 : decode b_NameSet_holdsHost 67 = .ok (.ifCond .eq 5, 3) := by decide +kernel
theorem d_NameSet_holdsHost_70 : decode b_NameSet_holdsHost 70 = .ok (.iconst 1, 1) := by decide +kernel
theorem d_NameSet_holdsHost_71 : decode b_NameSet_holdsHost 71 = .ok (.ireturn, 1) := by decide +kernel
theorem d_NameSet_holdsHost_72 : decode b_NameSet_holdsHost 72 = .ok (.aload 5, 2) := by decide +kernel
theorem d_NameSet_holdsHost_74 : decode b_NameSet_holdsHost 74 = .ok (.invokevirtual 35, 3) := by decide +kernel
theorem d_NameSet_holdsHost_77 : decode b_NameSet_holdsHost 77 = .ok (.iload_n 3, 1) := by decide +kernel
theorem d_NameSet_holdsHost_78 : decode b_NameSet_holdsHost 78 = .ok (.iconst 2, 1) := by decide +kernel
theorem d_NameSet_holdsHost_79 : decode b_NameSet_holdsHost 79 = .ok (.iadd, 1) := by decide +kernel
theorem d_NameSet_holdsHost_80 : decode b_NameSet_holdsHost 80 = .ok (.if_icmp .ne 29, 3) := by decide +kernel
theorem d_NameSet_holdsHost_83 : decode b_NameSet_holdsHost 83 = .ok (.aload 5, 2) := by decide +kernel
theorem d_NameSet_holdsHost_85 : decode b_NameSet_holdsHost 85 = .ok (.iconst 0, 1) := by decide +kernel
theorem d_NameSet_holdsHost_86 : decode b_NameSet_holdsHost 86 = .ok (.invokevirtual 38, 3) := by decide +kernel
theorem d_NameSet_holdsHost_89 : decode b_NameSet_holdsHost 89 = .ok (.bipush 42, 2) := by decide +kernel
theorem d_NameSet_holdsHost_91 : decode b_NameSet_holdsHost 91 = .ok (.if_icmp .ne 18, 3) := by decide +kernel
theorem d_NameSet_holdsHost_94 : decode b_NameSet_holdsHost 94 = .ok (.aload 5, 2) := by decide +kernel
theorem d_NameSet_holdsHost_96 : decode b_NameSet_holdsHost 96 = .ok (.iconst 1, 1) := by decide +kernel
theorem d_NameSet_holdsHost_97 : decode b_NameSet_holdsHost 97 = .ok (.invokevirtual 38, 3) := by decide +kernel
theorem d_NameSet_holdsHost_100 : decode b_NameSet_holdsHost 100 = .ok (.bipush 46, 2) := by decide +kernel
theorem d_NameSet_holdsHost_102 : decode b_NameSet_holdsHost 102 = .ok (.if_icmp .ne 7, 3) := by decide +kernel
theorem d_NameSet_holdsHost_105 : decode b_NameSet_holdsHost 105 = .ok (.iconst 1, 1) := by decide +kernel
theorem d_NameSet_holdsHost_106 : decode b_NameSet_holdsHost 106 = .ok (.goto 4, 3) := by decide +kernel
theorem d_NameSet_holdsHost_109 : decode b_NameSet_holdsHost 109 = .ok (.iconst 0, 1) := by decide +kernel
theorem d_NameSet_holdsHost_110 : decode b_NameSet_holdsHost 110 = .ok (.istore 6, 2) := by decide +kernel
theorem d_NameSet_holdsHost_112 : decode b_NameSet_holdsHost 112 = .ok (.iload_n 2, 1) := by decide +kernel
theorem d_NameSet_holdsHost_113 : decode b_NameSet_holdsHost 113 = .ok (.ifCond .lt 20, 3) := by decide +kernel
theorem d_NameSet_holdsHost_116 : decode b_NameSet_holdsHost 116 = .ok (.iload 6, 2) := by decide +kernel
theorem d_NameSet_holdsHost_118 : decode b_NameSet_holdsHost 118 = .ok (.ifCond .eq 15, 3) := by decide +kernel
theorem d_NameSet_holdsHost_121 : decode b_NameSet_holdsHost 121 = .ok (.aload 5, 2) := by decide +kernel
theorem d_NameSet_holdsHost_123 : decode b_NameSet_holdsHost 123 = .ok (.aload_n 1, 1) := by decide +kernel
theorem d_NameSet_holdsHost_124 : decode b_NameSet_holdsHost 124 = .ok (.iload_n 3, 1) := by decide +kernel
theorem d_NameSet_holdsHost_125 : decode b_NameSet_holdsHost 125 = .ok (.invokevirtual 42, 3) := by decide +kernel
theorem d_NameSet_holdsHost_128 : decode b_NameSet_holdsHost 128 = .ok (.ifCond .eq 5, 3) := by decide +kernel
theorem d_NameSet_holdsHost_131 : decode b_NameSet_holdsHost 131 = .ok (.iconst 1, 1) := by decide +kernel
theorem d_NameSet_holdsHost_132 : decode b_NameSet_holdsHost 132 = .ok (.ireturn, 1) := by decide +kernel
theorem d_NameSet_holdsHost_133 : decode b_NameSet_holdsHost 133 = .ok (.iinc 4 1, 3) := by decide +kernel
theorem d_NameSet_holdsHost_136 : decode b_NameSet_holdsHost 136 = .ok (.goto (-117), 3) := by decide +kernel
theorem d_NameSet_holdsHost_139 : decode b_NameSet_holdsHost 139 = .ok (.iconst 0, 1) := by decide +kernel
theorem d_NameSet_holdsHost_140 : decode b_NameSet_holdsHost 140 = .ok (.ireturn, 1) := by decide +kernel
set_option maxHeartbeats 4000000 in
set_option maxRecDepth 100000 in
theorem p_NameSet_holdsHost (l : Launch) (dC : Nat → ClassId) (dI : Nat → Nat → Nat) (sb : sB) (γ : cG) (κ : kE) (Ad : List Nat) (ν : Nat → cN) (ω : Nat → List Nat) (L : Nat) (G : va_W) (h g : Nat) (K1 K2 z : Nat) (hTy : TY γ κ Ad ν ω L G) (kh : tK κ Ad h (5, K1, K2)) (kg : tK κ Ad g (2, z, 0))  : Met l y_NameSet_holdsHost w_NameSet_holdsHost ({ frames := 3, cells := 0, slots := 0, locals := 64 }) (pu_P [.ref h, .ref g] (dC, dI) sb G [(γ.1, .byte), (γ.2.1, .int), (γ.2.2.1, .long), (γ.2.2.2, .object "java/lang/Object")]) (vp_Si (fun r => bz r (r = 1))) 0 0 (fun _ => False) := by
  refine Met.ofW (cc := b_NameSet_holdsHost) (maxL := 7) (ret := (some FieldType.boolean)) (by decide) rfl ?_
  intro p e s m args below meth c s₁ B hml hv
  obtain ⟨rfl, hP, hK, hN, hT0⟩ := hv
  have hx := B.exec
  have hb := B.bytes
  have hr := B.returns
  have hts := atoms_spec (ws := w_NameSet_holdsHost) B.pre
  have tbin : ∀ w ∈ tb, w ∈ w_NameSet_holdsHost := fun w h => List.mem_cons_of_mem _ h
  have htb : ∀ w ∈ tb, w.before _ s = true := fun w h => hts w (tbin w h)
  have hown : s.vm.findClass "TrustChain$NameSet" = some m.cls := findClass_of_methodNamed B.named
  have hlocks := B.notSynchronized
  have hl := lv_entry ([.ref h, .ref g]) (n := 7) (Nat.le_of_ble_eq_true rfl)
  rw [lg_entry_eq]
  generalize (lg_sl ([.ref h, .ref g]) ++ List.replicate (7 - (lg_sl ([.ref h, .ref g])).length) Slot.unset).toArray = ls at hl ⊢
  have hl : lv_has ls 7 [(0, .ref h), (1, .ref g)] := hl
  refine lv_aload_n hx hb d_NameSet_holdsHost_0 rfl (lv_at hl 1 rfl) ?_
  refine lv_bipush (v := 46) hx hb d_NameSet_holdsHost_1 (by decide) ?_
  obtain ⟨i_1, t_1, n_1, f_1, gt_1, kt_1, hb_1, hm_1, hg_1⟩ := ty_2 hTy kg
  obtain ⟨i_2, u_2, hu_2, hn_2, hg_2⟩ := ty_1 hTy kt_1
  refine vp_callSi (pu_callV (As := [.int 46]) (rest := []) ⟨hx, hb, hml, hown, hts⟩ tbin (c_Slice_find l dC dI sb g t_1 f_1 (f_1 + z) n_1 γ.1 u_2 46 hu_2 (by omega) (by omega) (by omega) (by omega)) q6_161 q6_162 q6_163 q1_22 q6_164 (n := 1) (by decide +kernel) rfl ⟨rfl, rfl⟩ ⟨Nat.le_of_ble_eq_true rfl, Nat.le_of_ble_eq_true rfl⟩ ⟨Nat.le_of_ble_eq_true rfl, Nat.le_of_ble_eq_true rfl⟩ hN hT0 hK hP [i_1, i_2] (by simp only [List.filterMap_cons, List.filterMap_nil, hg_1, hg_2]) [0] rfl i_1 0 hg_1 rfl rfl hl.1 rfl (Nat.le_of_ble_eq_true rfl) d_NameSet_holdsHost_3) (fun r3 hr3 => ?_)
  rcases hr3 with ⟨k3, hk3, rfl, -⟩ | ⟨rfl, -⟩
  · have hk3 : k3 < z := by omega
    refine lv_istore_n (lv' := [(2, .int (nI k3)), (0, .ref h), (1, .ref g)]) hx hb d_NameSet_holdsHost_6 rfl hl (by decide) rfl (fun ls hl => ?_)
    refine lv_aload_n hx hb d_NameSet_holdsHost_7 rfl (lv_at hl 2 rfl) ?_
    refine vp_callSi (pu_callV (As := []) (rest := []) ⟨hx, hb, hml, hown, hts⟩ tbin (c_Slice_length l dC dI sb g t_1 f_1 (f_1 + z) (by omega)) q6_106 q3_144 q3_145 q1_22 q3_146 (n := 0) (by decide +kernel) rfl ⟨rfl, rfl⟩ ⟨Nat.le_of_ble_eq_true rfl, Nat.le_of_ble_eq_true rfl⟩ ⟨Nat.le_of_ble_eq_true rfl, Nat.le_of_ble_eq_true rfl⟩ hN hT0 hK hP [i_1] (by simp only [List.filterMap_cons, List.filterMap_nil, hg_1]) [] rfl i_1 0 hg_1 rfl rfl hl.1 rfl (Nat.le_of_ble_eq_true rfl) d_NameSet_holdsHost_8) (fun r8 hr8 => ?_)
    rw [show (f_1 + z) - f_1 = z by omega] at hr8
    subst hr8
    refine lv_iload_n hx hb d_NameSet_holdsHost_11 rfl (lv_at hl 0 rfl) ?_
    refine lv_isub hx hb d_NameSet_holdsHost_12 ?_
    rw [show ((nI z) - (nI k3) : Int32) = nI (z - k3) from pk_sub (a := z) (b := k3) (by omega)]
    refine lv_iconst (v := 1) hx hb d_NameSet_holdsHost_13 (by decide) ?_
    refine lv_isub hx hb d_NameSet_holdsHost_14 ?_
    rw [show ((nI (z - k3)) - 1 : Int32) = nI ((z - k3) - 1) from pk_sub (a := (z - k3)) (b := 1) (by omega)]
    refine lv_istore_n (lv' := [(3, .int (nI ((z - k3) - 1))), (2, .int (nI k3)), (0, .ref h), (1, .ref g)]) hx hb d_NameSet_holdsHost_15 rfl hl (by decide) rfl (fun ls hl => ?_)
    refine lv_iconst (v := 0) hx hb d_NameSet_holdsHost_16 (by decide) ?_
    refine lv_istore (lv' := [(4, .int 0), (3, .int (nI ((z - k3) - 1))), (2, .int (nI k3)), (0, .ref h), (1, .ref g)]) hx hb d_NameSet_holdsHost_17 hl (by decide) rfl (fun ls hl => ?_)
    refine w_loop (α := Nat) (fun z9 => z9 ≤ K1) (fun z9 => K1 - z9) (fun z9 => [(4, .int (nI z9)), (3, .int (nI ((z - k3) - 1))), (2, .int (nI k3)), (0, .ref h), (1, .ref g)]) (fun _ => []) 7 19 (fun z9 ls hJ hl ih => ?_) 0 ls (by omega) (lv_sub hl [0, 1, 2, 3, 4] rfl)
    refine lv_iload hx hb d_NameSet_holdsHost_19 (lv_at hl 0 rfl) ?_
    refine lv_aload_n hx hb d_NameSet_holdsHost_21 rfl (lv_at hl 3 rfl) ?_
    obtain ⟨i_3, l_3, d_3, kl_3, kd_3, hw_3, hg_3⟩ := ty_5 hTy kh
    refine va_get (v := .ref l_3) hx hb htb i_NameSet hown hK hP i_3 hg_3 rfl 0 (by decide) (htb _ q2_126) (fun _ h9 => h9) rfl d_NameSet_holdsHost_22 ?_
    obtain ⟨i_4, q_4, m_4, hK_4, he_4, hw_4, hg_4⟩ := ty_4 hTy kl_3
    refine vp_callSi (pu_callV (As := []) (rest := [.int (nI z9)]) ⟨hx, hb, hml, hown, hts⟩ tbin (c_AL_size l dC dI sb l_3 q_4 K1 m_4) q6_93 q2_54 q2_55 q1_4 q2_56 (n := 0) (by decide +kernel) rfl ⟨rfl, rfl⟩ ⟨Nat.le_of_ble_eq_true rfl, Nat.le_of_ble_eq_true rfl⟩ ⟨Nat.le_of_ble_eq_true rfl, Nat.le_of_ble_eq_true rfl⟩ hN hT0 hK hP [i_4] (by simp only [List.filterMap_cons, List.filterMap_nil, hg_4]) [] rfl i_4 11 hg_4 rfl rfl hl.1 rfl (Nat.le_of_ble_eq_true rfl) d_NameSet_holdsHost_25) (fun r25 hr25 => ?_)
    subst hr25
    refine lv_icmp_ge (tgt := 139) hx hb d_NameSet_holdsHost_28 (by decide) (fun c28 => ?_) (fun c28 => ?_)
    · have p28 : K1 ≤ z9 := ((nI_leI (a := K1) (b := z9) (by omega) (by omega)).mp c28)
      refine lv_iconst (v := 0) hx hb d_NameSet_holdsHost_139 (by decide) ?_
      exact W.zret (v := 0) hx hb hr rfl (fun t ht hW => ⟨_, rfl, bz_f (by decide), ht⟩) (fun q h => by cases h) d_NameSet_holdsHost_140
    · have p28 : ¬ (K1 ≤ z9) := (fun q9 => c28 ((nI_leI (a := K1) (b := z9) (by omega) (by omega)).mpr q9))
      refine lv_aload_n hx hb d_NameSet_holdsHost_31 rfl (lv_at hl 3 rfl) ?_
      refine va_get (v := .ref l_3) hx hb htb i_NameSet hown hK hP i_3 hg_3 rfl 0 (by decide) (htb _ q2_126) (fun _ h9 => h9) rfl d_NameSet_holdsHost_32 ?_
      refine lv_iload hx hb d_NameSet_holdsHost_35 (lv_at hl 0 rfl) ?_
      obtain ⟨cap_5, kq_5⟩ := he_4 (by omega)
      obtain ⟨i_6, f_6, hK_6, hc_6, he_6, hg_6⟩ := ty_3 hTy kq_5
      obtain ⟨s_5, len_5, hf_5, ks_5, hw_5⟩ := he_6 z9 (by omega)
      refine va_csr (pu_callV (As := [.int (nI z9)]) (rest := []) ⟨hx, hb, hml, hown, hts⟩ tbin (c_AL_get l dC dI sb l_3 q_4 K1 cap_5 z9 s_5 m_4 γ.2.2.2 f_6 (by omega) hK_6 (by omega) hf_5) q6_94 q4_210 q4_211 q1_4 q4_212 (n := 1) (by decide +kernel) rfl ⟨rfl, rfl⟩ ⟨Nat.le_of_ble_eq_true rfl, Nat.le_of_ble_eq_true rfl⟩ ⟨Nat.le_of_ble_eq_true rfl, Nat.le_of_ble_eq_true rfl⟩ hN hT0 hK hP [i_4, i_6] (by simp only [List.filterMap_cons, List.filterMap_nil, hg_4, hg_6]) [3] rfl i_4 11 hg_4 rfl rfl hl.1 rfl (Nat.le_of_ble_eq_true rfl) d_NameSet_holdsHost_37) (fun r37 hr37 => ?_)
      obtain rfl := Eq.symm hr37
      obtain ⟨i_7, t_7, n_7, f_7, gt_7, kt_7, hb_7, hm_7, hg_7⟩ := ty_2 hTy ks_5
      refine va_castY (C := "TrustChain$Slice") hx hb hown (htb _ q6_95) (hN.1 _ qn9_222) (va_recv (ci := 0) hK hP rfl hg_7) d_NameSet_holdsHost_40 ?_
      refine lv_astore (lv' := [(5, .ref s_5), (4, .int (nI z9)), (3, .int (nI ((z - k3) - 1))), (2, .int (nI k3)), (0, .ref h), (1, .ref g)]) hx hb d_NameSet_holdsHost_43 hl (by decide) rfl (fun ls hl => ?_)
      refine lv_aload hx hb d_NameSet_holdsHost_45 (lv_at hl 0 rfl) ?_
      refine vp_callSi (pu_callV (As := []) (rest := []) ⟨hx, hb, hml, hown, hts⟩ tbin (c_Slice_length l dC dI sb s_5 t_7 f_7 (f_7 + len_5) (by omega)) q6_106 q3_144 q3_145 q1_22 q3_146 (n := 0) (by decide +kernel) rfl ⟨rfl, rfl⟩ ⟨Nat.le_of_ble_eq_true rfl, Nat.le_of_ble_eq_true rfl⟩ ⟨Nat.le_of_ble_eq_true rfl, Nat.le_of_ble_eq_true rfl⟩ hN hT0 hK hP [i_7] (by simp only [List.filterMap_cons, List.filterMap_nil, hg_7]) [] rfl i_7 0 hg_7 rfl rfl hl.1 rfl (Nat.le_of_ble_eq_true rfl) d_NameSet_holdsHost_47) (fun r47 hr47 => ?_)
      rw [show (f_7 + len_5) - f_7 = len_5 by omega] at hr47
      subst hr47
      refine lv_aload_n hx hb d_NameSet_holdsHost_50 rfl (lv_at hl 5 rfl) ?_
      refine vp_callSi (pu_callV (As := []) (rest := [.int (nI len_5)]) ⟨hx, hb, hml, hown, hts⟩ tbin (c_Slice_length l dC dI sb g t_1 f_1 (f_1 + z) (by omega)) q6_106 q3_144 q3_145 q1_22 q3_146 (n := 0) (by decide +kernel) rfl ⟨rfl, rfl⟩ ⟨Nat.le_of_ble_eq_true rfl, Nat.le_of_ble_eq_true rfl⟩ ⟨Nat.le_of_ble_eq_true rfl, Nat.le_of_ble_eq_true rfl⟩ hN hT0 hK hP [i_1] (by simp only [List.filterMap_cons, List.filterMap_nil, hg_1]) [] rfl i_1 0 hg_1 rfl rfl hl.1 rfl (Nat.le_of_ble_eq_true rfl) d_NameSet_holdsHost_51) (fun r51 hr51 => ?_)
      rw [show (f_1 + z) - f_1 = z by omega] at hr51
      subst hr51
      refine lv_icmp_ne (tgt := 72) hx hb d_NameSet_holdsHost_54 (by decide) (fun c54 => ?_) (fun c54 => ?_)
      · have p54 : ¬ (len_5 = z) := (fun q9 => c54 ((nI_eq (a := len_5) (b := z) (by omega) (by omega)).mpr q9))
        refine lv_aload hx hb d_NameSet_holdsHost_72 (lv_at hl 0 rfl) ?_
        refine vp_callSi (pu_callV (As := []) (rest := []) ⟨hx, hb, hml, hown, hts⟩ tbin (c_Slice_length l dC dI sb s_5 t_7 f_7 (f_7 + len_5) (by omega)) q6_106 q3_144 q3_145 q1_22 q3_146 (n := 0) (by decide +kernel) rfl ⟨rfl, rfl⟩ ⟨Nat.le_of_ble_eq_true rfl, Nat.le_of_ble_eq_true rfl⟩ ⟨Nat.le_of_ble_eq_true rfl, Nat.le_of_ble_eq_true rfl⟩ hN hT0 hK hP [i_7] (by simp only [List.filterMap_cons, List.filterMap_nil, hg_7]) [] rfl i_7 0 hg_7 rfl rfl hl.1 rfl (Nat.le_of_ble_eq_true rfl) d_NameSet_holdsHost_74) (fun r74 hr74 => ?_)
        rw [show (f_7 + len_5) - f_7 = len_5 by omega] at hr74
        subst hr74
        refine lv_iload_n hx hb d_NameSet_holdsHost_77 rfl (lv_at hl 2 rfl) ?_
        refine lv_iconst (v := 2) hx hb d_NameSet_holdsHost_78 (by decide) ?_
        refine lv_iadd hx hb d_NameSet_holdsHost_79 ?_
        rw [show ((nI ((z - k3) - 1)) + 2 : Int32) = nI (((z - k3) - 1) + 2) from nI_add ((z - k3) - 1) 2]
        refine w_join (J := fun jv80 => bz jv80 (jv80 = 1)) (pc := 110) (ls := ls) (rest := []) (fun jv80 hjv80 => ?_) (fun k110 => ?_)
        · skip
          refine lv_istore (lv' := [(6, .int jv80), (5, .ref s_5), (4, .int (nI z9)), (3, .int (nI ((z - k3) - 1))), (2, .int (nI k3)), (0, .ref h), (1, .ref g)]) hx hb d_NameSet_holdsHost_110 hl (by decide) rfl (fun ls hl => ?_)
          refine lv_iload_n hx hb d_NameSet_holdsHost_112 rfl (lv_at hl 4 rfl) ?_
          refine lv_if_lt (tgt := 133) hx hb d_NameSet_holdsHost_113 (by decide) (fun c113 => ?_) (fun c113 => ?_)
          · have p113 : k3 < 0 := ((nI_ltI (a := k3) (b := 0) (by omega) (by omega)).mp c113)
            refine lv_iinc (v := nI (z9 + 1)) (lv' := [(4, .int (nI (z9 + 1))), (6, .int jv80), (5, .ref s_5), (3, .int (nI ((z - k3) - 1))), (2, .int (nI k3)), (0, .ref h), (1, .ref g)]) hx hb d_NameSet_holdsHost_133 hl (k := 2) rfl (nI_1 _) (by decide) rfl (fun ls hl => ?_)
            refine lv_goto (tgt := 19) hx hb d_NameSet_holdsHost_136 (by decide) ?_
            exact ih (z9 + 1) ls (by omega) (by omega) (lv_sub hl [0, 3, 4, 5, 6] rfl)
          · have p113 : ¬ (k3 < 0) := (fun q9 => c113 ((nI_ltI (a := k3) (b := 0) (by omega) (by omega)).mpr q9))
            refine lv_iload hx hb d_NameSet_holdsHost_116 (lv_at hl 0 rfl) ?_
            refine lv_if_eq (tgt := 133) hx hb d_NameSet_holdsHost_118 (by decide) (fun c118 => ?_) (fun c118 => ?_)
            · have p118 : jv80 = (0 : Int32) := c118
              refine lv_iinc (v := nI (z9 + 1)) (lv' := [(4, .int (nI (z9 + 1))), (6, .int jv80), (5, .ref s_5), (3, .int (nI ((z - k3) - 1))), (2, .int (nI k3)), (0, .ref h), (1, .ref g)]) hx hb d_NameSet_holdsHost_133 hl (k := 2) rfl (nI_1 _) (by decide) rfl (fun ls hl => ?_)
              refine lv_goto (tgt := 19) hx hb d_NameSet_holdsHost_136 (by decide) ?_
              exact ih (z9 + 1) ls (by omega) (by omega) (lv_sub hl [0, 3, 4, 5, 6] rfl)
            · have p118 : ¬ (jv80 = (0 : Int32)) := c118
              refine lv_aload hx hb d_NameSet_holdsHost_121 (lv_at hl 1 rfl) ?_
              refine lv_aload_n hx hb d_NameSet_holdsHost_123 rfl (lv_at hl 6 rfl) ?_
              refine lv_iload_n hx hb d_NameSet_holdsHost_124 rfl (lv_at hl 3 rfl) ?_
              obtain ⟨i_8, u_8, hu_8, hn_8, hg_8⟩ := ty_1 hTy kt_7
              refine vp_callSi (pu_callV (As := [.ref g, .int (nI ((z - k3) - 1))]) (rest := []) ⟨hx, hb, hml, hown, hts⟩ tbin (c_Slice_sharesTail l dC dI sb s_5 g t_7 t_1 f_7 (f_7 + len_5) n_7 f_1 (f_1 + z) n_1 γ.1 γ.1 u_8 u_2 ((z - k3) - 1) hu_8 (by omega) (by omega) (by omega) hu_2 (by omega) (by omega) (by omega) (by omega)) q6_108 q6_109 q6_110 q1_22 q6_111 (n := 2) (by decide +kernel) rfl ⟨rfl, rfl⟩ ⟨Nat.le_of_ble_eq_true rfl, Nat.le_of_ble_eq_true rfl⟩ ⟨Nat.le_of_ble_eq_true rfl, Nat.le_of_ble_eq_true rfl⟩ hN hT0 hK hP [i_7, i_8, i_1, i_2] (by simp only [List.filterMap_cons, List.filterMap_nil, hg_7, hg_8, hg_1, hg_2]) [0, 0] rfl i_7 0 hg_7 rfl rfl hl.1 rfl (Nat.le_of_ble_eq_true rfl) d_NameSet_holdsHost_125) (fun r125 hr125 => ?_)
              refine lv_if_eq (tgt := 133) hx hb d_NameSet_holdsHost_128 (by decide) (fun c128 => ?_) (fun c128 => ?_)
              · have p128 : r125 = (0 : Int32) := c128
                refine lv_iinc (v := nI (z9 + 1)) (lv' := [(4, .int (nI (z9 + 1))), (6, .int jv80), (5, .ref s_5), (3, .int (nI ((z - k3) - 1))), (2, .int (nI k3)), (0, .ref h), (1, .ref g)]) hx hb d_NameSet_holdsHost_133 hl (k := 2) rfl (nI_1 _) (by decide) rfl (fun ls hl => ?_)
                refine lv_goto (tgt := 19) hx hb d_NameSet_holdsHost_136 (by decide) ?_
                exact ih (z9 + 1) ls (by omega) (by omega) (lv_sub hl [0, 3, 4, 5, 6] rfl)
              · have p128 : ¬ (r125 = (0 : Int32)) := c128
                refine lv_iconst (v := 1) hx hb d_NameSet_holdsHost_131 (by decide) ?_
                exact W.zret (v := 1) hx hb hr rfl (fun t ht hW => ⟨_, rfl, bz_t rfl, ht⟩) (fun q h => by cases h) d_NameSet_holdsHost_132
        · skip
          refine lv_icmp_ne (tgt := 109) hx hb d_NameSet_holdsHost_80 (by decide) (fun c80 => ?_) (fun c80 => ?_)
          · have p80 : ¬ (len_5 = (((z - k3) - 1) + 2)) := (fun q9 => c80 ((nI_eq (a := len_5) (b := (((z - k3) - 1) + 2)) (by omega) (by omega)).mpr q9))
            refine lv_iconst (v := 0) hx hb d_NameSet_holdsHost_109 (by decide) ?_
            exact k110 _ (bz_f (by decide))
          · have p80 : len_5 = (((z - k3) - 1) + 2) := ((nI_eq (a := len_5) (b := (((z - k3) - 1) + 2)) (by omega) (by omega)).mp c80)
            refine lv_aload hx hb d_NameSet_holdsHost_83 (lv_at hl 0 rfl) ?_
            refine lv_iconst (v := 0) hx hb d_NameSet_holdsHost_85 (by decide) ?_
            obtain ⟨i_9, u_9, hu_9, hn_9, hg_9⟩ := ty_1 hTy kt_7
            refine vp_callSi (pu_callV (As := [.int 0]) (rest := []) ⟨hx, hb, hml, hown, hts⟩ tbin (c_Slice_at l dC dI sb s_5 t_7 f_7 (f_7 + len_5) n_7 γ.1 u_9 (0 : Int32) hu_9 (by omega) (by omega) (by omega)) q6_107 q3_149 q3_150 q1_22 q3_151 (n := 1) (by decide +kernel) rfl ⟨rfl, rfl⟩ ⟨Nat.le_of_ble_eq_true rfl, Nat.le_of_ble_eq_true rfl⟩ ⟨Nat.le_of_ble_eq_true rfl, Nat.le_of_ble_eq_true rfl⟩ hN hT0 hK hP [i_7, i_9] (by simp only [List.filterMap_cons, List.filterMap_nil, hg_7, hg_9]) [0] rfl i_7 0 hg_7 rfl rfl hl.1 rfl (Nat.le_of_ble_eq_true rfl) d_NameSet_holdsHost_86) (fun r86 hr86 => ?_)
            refine lv_bipush (v := 42) hx hb d_NameSet_holdsHost_89 (by decide) ?_
            refine lv_icmp_ne (tgt := 109) hx hb d_NameSet_holdsHost_91 (by decide) (fun c91 => ?_) (fun c91 => ?_)
            · have p91 : ¬ (r86 = (42 : Int32)) := c91
              refine lv_iconst (v := 0) hx hb d_NameSet_holdsHost_109 (by decide) ?_
              exact k110 _ (bz_f (by decide))
            · have p91 : r86 = (42 : Int32) := c91
              refine lv_aload hx hb d_NameSet_holdsHost_94 (lv_at hl 0 rfl) ?_
              refine lv_iconst (v := 1) hx hb d_NameSet_holdsHost_96 (by decide) ?_
              refine vp_callSi (pu_callV (As := [.int 1]) (rest := []) ⟨hx, hb, hml, hown, hts⟩ tbin (c_Slice_at l dC dI sb s_5 t_7 f_7 (f_7 + len_5) n_7 γ.1 u_9 (1 : Int32) hu_9 (by omega) (by omega) (by omega)) q6_107 q3_149 q3_150 q1_22 q3_151 (n := 1) (by decide +kernel) rfl ⟨rfl, rfl⟩ ⟨Nat.le_of_ble_eq_true rfl, Nat.le_of_ble_eq_true rfl⟩ ⟨Nat.le_of_ble_eq_true rfl, Nat.le_of_ble_eq_true rfl⟩ hN hT0 hK hP [i_7, i_9] (by simp only [List.filterMap_cons, List.filterMap_nil, hg_7, hg_9]) [0] rfl i_7 0 hg_7 rfl rfl hl.1 rfl (Nat.le_of_ble_eq_true rfl) d_NameSet_holdsHost_97) (fun r97 hr97 => ?_)
              refine lv_bipush (v := 46) hx hb d_NameSet_holdsHost_100 (by decide) ?_
              refine lv_icmp_ne (tgt := 109) hx hb d_NameSet_holdsHost_102 (by decide) (fun c102 => ?_) (fun c102 => ?_)
              · have p102 : ¬ (r97 = (46 : Int32)) := c102
                refine lv_iconst (v := 0) hx hb d_NameSet_holdsHost_109 (by decide) ?_
                exact k110 _ (bz_f (by decide))
              · have p102 : r97 = (46 : Int32) := c102
                refine lv_iconst (v := 1) hx hb d_NameSet_holdsHost_105 (by decide) ?_
                refine lv_goto (tgt := 110) hx hb d_NameSet_holdsHost_106 (by decide) ?_
                exact k110 _ (bz_t rfl)
      · have p54 : len_5 = z := ((nI_eq (a := len_5) (b := z) (by omega) (by omega)).mp c54)
        refine lv_aload hx hb d_NameSet_holdsHost_57 (lv_at hl 0 rfl) ?_
        refine lv_aload_n hx hb d_NameSet_holdsHost_59 rfl (lv_at hl 5 rfl) ?_
        refine lv_aload_n hx hb d_NameSet_holdsHost_60 rfl (lv_at hl 5 rfl) ?_
        refine vp_callSi (pu_callV (As := []) (rest := [.ref g, .ref s_5]) ⟨hx, hb, hml, hown, hts⟩ tbin (c_Slice_length l dC dI sb g t_1 f_1 (f_1 + z) (by omega)) q6_106 q3_144 q3_145 q1_22 q3_146 (n := 0) (by decide +kernel) rfl ⟨rfl, rfl⟩ ⟨Nat.le_of_ble_eq_true rfl, Nat.le_of_ble_eq_true rfl⟩ ⟨Nat.le_of_ble_eq_true rfl, Nat.le_of_ble_eq_true rfl⟩ hN hT0 hK hP [i_1] (by simp only [List.filterMap_cons, List.filterMap_nil, hg_1]) [] rfl i_1 0 hg_1 rfl rfl hl.1 rfl (Nat.le_of_ble_eq_true rfl) d_NameSet_holdsHost_61) (fun r61 hr61 => ?_)
        rw [show (f_1 + z) - f_1 = z by omega] at hr61
        subst hr61
        obtain ⟨i_10, u_10, hu_10, hn_10, hg_10⟩ := ty_1 hTy kt_7
        refine vp_callSi (pu_callV (As := [.ref g, .int (nI z)]) (rest := []) ⟨hx, hb, hml, hown, hts⟩ tbin (c_Slice_sharesTail l dC dI sb s_5 g t_7 t_1 f_7 (f_7 + len_5) n_7 f_1 (f_1 + z) n_1 γ.1 γ.1 u_10 u_2 z hu_10 (by omega) (by omega) (by omega) hu_2 (by omega) (by omega) (by omega) (by omega)) q6_108 q6_109 q6_110 q1_22 q6_111 (n := 2) (by decide +kernel) rfl ⟨rfl, rfl⟩ ⟨Nat.le_of_ble_eq_true rfl, Nat.le_of_ble_eq_true rfl⟩ ⟨Nat.le_of_ble_eq_true rfl, Nat.le_of_ble_eq_true rfl⟩ hN hT0 hK hP [i_7, i_10, i_1, i_2] (by simp only [List.filterMap_cons, List.filterMap_nil, hg_7, hg_10, hg_1, hg_2]) [0, 0] rfl i_7 0 hg_7 rfl rfl hl.1 rfl (Nat.le_of_ble_eq_true rfl) d_NameSet_holdsHost_64) (fun r64 hr64 => ?_)
        refine lv_if_eq (tgt := 72) hx hb d_NameSet_holdsHost_67 (by decide) (fun c67 => ?_) (fun c67 => ?_)
        · have p67 : r64 = (0 : Int32) := c67
          refine lv_aload hx hb d_NameSet_holdsHost_72 (lv_at hl 0 rfl) ?_
          refine vp_callSi (pu_callV (As := []) (rest := []) ⟨hx, hb, hml, hown, hts⟩ tbin (c_Slice_length l dC dI sb s_5 t_7 f_7 (f_7 + len_5) (by omega)) q6_106 q3_144 q3_145 q1_22 q3_146 (n := 0) (by decide +kernel) rfl ⟨rfl, rfl⟩ ⟨Nat.le_of_ble_eq_true rfl, Nat.le_of_ble_eq_true rfl⟩ ⟨Nat.le_of_ble_eq_true rfl, Nat.le_of_ble_eq_true rfl⟩ hN hT0 hK hP [i_7] (by simp only [List.filterMap_cons, List.filterMap_nil, hg_7]) [] rfl i_7 0 hg_7 rfl rfl hl.1 rfl (Nat.le_of_ble_eq_true rfl) d_NameSet_holdsHost_74) (fun r74 hr74 => ?_)
          rw [show (f_7 + len_5) - f_7 = len_5 by omega] at hr74
          subst hr74
          refine lv_iload_n hx hb d_NameSet_holdsHost_77 rfl (lv_at hl 2 rfl) ?_
          refine lv_iconst (v := 2) hx hb d_NameSet_holdsHost_78 (by decide) ?_
          refine lv_iadd hx hb d_NameSet_holdsHost_79 ?_
          rw [show ((nI ((z - k3) - 1)) + 2 : Int32) = nI (((z - k3) - 1) + 2) from nI_add ((z - k3) - 1) 2]
          refine w_join (J := fun jv80 => bz jv80 (jv80 = 1)) (pc := 110) (ls := ls) (rest := []) (fun jv80 hjv80 => ?_) (fun k110 => ?_)
          · skip
            refine lv_istore (lv' := [(6, .int jv80), (5, .ref s_5), (4, .int (nI z9)), (3, .int (nI ((z - k3) - 1))), (2, .int (nI k3)), (0, .ref h), (1, .ref g)]) hx hb d_NameSet_holdsHost_110 hl (by decide) rfl (fun ls hl => ?_)
            refine lv_iload_n hx hb d_NameSet_holdsHost_112 rfl (lv_at hl 4 rfl) ?_
            refine lv_if_lt (tgt := 133) hx hb d_NameSet_holdsHost_113 (by decide) (fun c113 => ?_) (fun c113 => ?_)
            · have p113 : k3 < 0 := ((nI_ltI (a := k3) (b := 0) (by omega) (by omega)).mp c113)
              refine lv_iinc (v := nI (z9 + 1)) (lv' := [(4, .int (nI (z9 + 1))), (6, .int jv80), (5, .ref s_5), (3, .int (nI ((z - k3) - 1))), (2, .int (nI k3)), (0, .ref h), (1, .ref g)]) hx hb d_NameSet_holdsHost_133 hl (k := 2) rfl (nI_1 _) (by decide) rfl (fun ls hl => ?_)
              refine lv_goto (tgt := 19) hx hb d_NameSet_holdsHost_136 (by decide) ?_
              exact ih (z9 + 1) ls (by omega) (by omega) (lv_sub hl [0, 3, 4, 5, 6] rfl)
            · have p113 : ¬ (k3 < 0) := (fun q9 => c113 ((nI_ltI (a := k3) (b := 0) (by omega) (by omega)).mpr q9))
              refine lv_iload hx hb d_NameSet_holdsHost_116 (lv_at hl 0 rfl) ?_
              refine lv_if_eq (tgt := 133) hx hb d_NameSet_holdsHost_118 (by decide) (fun c118 => ?_) (fun c118 => ?_)
              · have p118 : jv80 = (0 : Int32) := c118
                refine lv_iinc (v := nI (z9 + 1)) (lv' := [(4, .int (nI (z9 + 1))), (6, .int jv80), (5, .ref s_5), (3, .int (nI ((z - k3) - 1))), (2, .int (nI k3)), (0, .ref h), (1, .ref g)]) hx hb d_NameSet_holdsHost_133 hl (k := 2) rfl (nI_1 _) (by decide) rfl (fun ls hl => ?_)
                refine lv_goto (tgt := 19) hx hb d_NameSet_holdsHost_136 (by decide) ?_
                exact ih (z9 + 1) ls (by omega) (by omega) (lv_sub hl [0, 3, 4, 5, 6] rfl)
              · have p118 : ¬ (jv80 = (0 : Int32)) := c118
                refine lv_aload hx hb d_NameSet_holdsHost_121 (lv_at hl 1 rfl) ?_
                refine lv_aload_n hx hb d_NameSet_holdsHost_123 rfl (lv_at hl 6 rfl) ?_
                refine lv_iload_n hx hb d_NameSet_holdsHost_124 rfl (lv_at hl 3 rfl) ?_
                refine vp_callSi (pu_callV (As := [.ref g, .int (nI ((z - k3) - 1))]) (rest := []) ⟨hx, hb, hml, hown, hts⟩ tbin (c_Slice_sharesTail l dC dI sb s_5 g t_7 t_1 f_7 (f_7 + len_5) n_7 f_1 (f_1 + z) n_1 γ.1 γ.1 u_10 u_2 ((z - k3) - 1) hu_10 (by omega) (by omega) (by omega) hu_2 (by omega) (by omega) (by omega) (by omega)) q6_108 q6_109 q6_110 q1_22 q6_111 (n := 2) (by decide +kernel) rfl ⟨rfl, rfl⟩ ⟨Nat.le_of_ble_eq_true rfl, Nat.le_of_ble_eq_true rfl⟩ ⟨Nat.le_of_ble_eq_true rfl, Nat.le_of_ble_eq_true rfl⟩ hN hT0 hK hP [i_7, i_10, i_1, i_2] (by simp only [List.filterMap_cons, List.filterMap_nil, hg_7, hg_10, hg_1, hg_2]) [0, 0] rfl i_7 0 hg_7 rfl rfl hl.1 rfl (Nat.le_of_ble_eq_true rfl) d_NameSet_holdsHost_125) (fun r125 hr125 => ?_)
                refine lv_if_eq (tgt := 133) hx hb d_NameSet_holdsHost_128 (by decide) (fun c128 => ?_) (fun c128 => ?_)
                · have p128 : r125 = (0 : Int32) := c128
                  refine lv_iinc (v := nI (z9 + 1)) (lv' := [(4, .int (nI (z9 + 1))), (6, .int jv80), (5, .ref s_5), (3, .int (nI ((z - k3) - 1))), (2, .int (nI k3)), (0, .ref h), (1, .ref g)]) hx hb d_NameSet_holdsHost_133 hl (k := 2) rfl (nI_1 _) (by decide) rfl (fun ls hl => ?_)
                  refine lv_goto (tgt := 19) hx hb d_NameSet_holdsHost_136 (by decide) ?_
                  exact ih (z9 + 1) ls (by omega) (by omega) (lv_sub hl [0, 3, 4, 5, 6] rfl)
                · have p128 : ¬ (r125 = (0 : Int32)) := c128
                  refine lv_iconst (v := 1) hx hb d_NameSet_holdsHost_131 (by decide) ?_
                  exact W.zret (v := 1) hx hb hr rfl (fun t ht hW => ⟨_, rfl, bz_t rfl, ht⟩) (fun q h => by cases h) d_NameSet_holdsHost_132
          · skip
            refine lv_icmp_ne (tgt := 109) hx hb d_NameSet_holdsHost_80 (by decide) (fun c80 => ?_) (fun c80 => ?_)
            · have p80 : ¬ (len_5 = (((z - k3) - 1) + 2)) := (fun q9 => c80 ((nI_eq (a := len_5) (b := (((z - k3) - 1) + 2)) (by omega) (by omega)).mpr q9))
              refine lv_iconst (v := 0) hx hb d_NameSet_holdsHost_109 (by decide) ?_
              exact k110 _ (bz_f (by decide))
            · have p80 : len_5 = (((z - k3) - 1) + 2) := ((nI_eq (a := len_5) (b := (((z - k3) - 1) + 2)) (by omega) (by omega)).mp c80)
              refine lv_aload hx hb d_NameSet_holdsHost_83 (lv_at hl 0 rfl) ?_
              refine lv_iconst (v := 0) hx hb d_NameSet_holdsHost_85 (by decide) ?_
              refine vp_callSi (pu_callV (As := [.int 0]) (rest := []) ⟨hx, hb, hml, hown, hts⟩ tbin (c_Slice_at l dC dI sb s_5 t_7 f_7 (f_7 + len_5) n_7 γ.1 u_10 (0 : Int32) hu_10 (by omega) (by omega) (by omega)) q6_107 q3_149 q3_150 q1_22 q3_151 (n := 1) (by decide +kernel) rfl ⟨rfl, rfl⟩ ⟨Nat.le_of_ble_eq_true rfl, Nat.le_of_ble_eq_true rfl⟩ ⟨Nat.le_of_ble_eq_true rfl, Nat.le_of_ble_eq_true rfl⟩ hN hT0 hK hP [i_7, i_10] (by simp only [List.filterMap_cons, List.filterMap_nil, hg_7, hg_10]) [0] rfl i_7 0 hg_7 rfl rfl hl.1 rfl (Nat.le_of_ble_eq_true rfl) d_NameSet_holdsHost_86) (fun r86 hr86 => ?_)
              refine lv_bipush (v := 42) hx hb d_NameSet_holdsHost_89 (by decide) ?_
              refine lv_icmp_ne (tgt := 109) hx hb d_NameSet_holdsHost_91 (by decide) (fun c91 => ?_) (fun c91 => ?_)
              · have p91 : ¬ (r86 = (42 : Int32)) := c91
                refine lv_iconst (v := 0) hx hb d_NameSet_holdsHost_109 (by decide) ?_
                exact k110 _ (bz_f (by decide))
              · have p91 : r86 = (42 : Int32) := c91
                refine lv_aload hx hb d_NameSet_holdsHost_94 (lv_at hl 0 rfl) ?_
                refine lv_iconst (v := 1) hx hb d_NameSet_holdsHost_96 (by decide) ?_
                refine vp_callSi (pu_callV (As := [.int 1]) (rest := []) ⟨hx, hb, hml, hown, hts⟩ tbin (c_Slice_at l dC dI sb s_5 t_7 f_7 (f_7 + len_5) n_7 γ.1 u_10 (1 : Int32) hu_10 (by omega) (by omega) (by omega)) q6_107 q3_149 q3_150 q1_22 q3_151 (n := 1) (by decide +kernel) rfl ⟨rfl, rfl⟩ ⟨Nat.le_of_ble_eq_true rfl, Nat.le_of_ble_eq_true rfl⟩ ⟨Nat.le_of_ble_eq_true rfl, Nat.le_of_ble_eq_true rfl⟩ hN hT0 hK hP [i_7, i_10] (by simp only [List.filterMap_cons, List.filterMap_nil, hg_7, hg_10]) [0] rfl i_7 0 hg_7 rfl rfl hl.1 rfl (Nat.le_of_ble_eq_true rfl) d_NameSet_holdsHost_97) (fun r97 hr97 => ?_)
                refine lv_bipush (v := 46) hx hb d_NameSet_holdsHost_100 (by decide) ?_
                refine lv_icmp_ne (tgt := 109) hx hb d_NameSet_holdsHost_102 (by decide) (fun c102 => ?_) (fun c102 => ?_)
                · have p102 : ¬ (r97 = (46 : Int32)) := c102
                  refine lv_iconst (v := 0) hx hb d_NameSet_holdsHost_109 (by decide) ?_
                  exact k110 _ (bz_f (by decide))
                · have p102 : r97 = (46 : Int32) := c102
                  refine lv_iconst (v := 1) hx hb d_NameSet_holdsHost_105 (by decide) ?_
                  refine lv_goto (tgt := 110) hx hb d_NameSet_holdsHost_106 (by decide) ?_
                  exact k110 _ (bz_t rfl)
        · have p67 : ¬ (r64 = (0 : Int32)) := c67
          refine lv_iconst (v := 1) hx hb d_NameSet_holdsHost_70 (by decide) ?_
          exact W.zret (v := 1) hx hb hr rfl (fun t ht hW => ⟨_, rfl, bz_t rfl, ht⟩) (fun q h => by cases h) d_NameSet_holdsHost_71
  · skip
    refine lv_istore_n (lv' := [(2, .int (-1)), (0, .ref h), (1, .ref g)]) hx hb d_NameSet_holdsHost_6 rfl hl (by decide) rfl (fun ls hl => ?_)
    refine lv_aload_n hx hb d_NameSet_holdsHost_7 rfl (lv_at hl 2 rfl) ?_
    refine vp_callSi (pu_callV (As := []) (rest := []) ⟨hx, hb, hml, hown, hts⟩ tbin (c_Slice_length l dC dI sb g t_1 f_1 (f_1 + z) (by omega)) q6_106 q3_144 q3_145 q1_22 q3_146 (n := 0) (by decide +kernel) rfl ⟨rfl, rfl⟩ ⟨Nat.le_of_ble_eq_true rfl, Nat.le_of_ble_eq_true rfl⟩ ⟨Nat.le_of_ble_eq_true rfl, Nat.le_of_ble_eq_true rfl⟩ hN hT0 hK hP [i_1] (by simp only [List.filterMap_cons, List.filterMap_nil, hg_1]) [] rfl i_1 0 hg_1 rfl rfl hl.1 rfl (Nat.le_of_ble_eq_true rfl) d_NameSet_holdsHost_8) (fun r8 hr8 => ?_)
    rw [show (f_1 + z) - f_1 = z by omega] at hr8
    subst hr8
    refine lv_iload_n hx hb d_NameSet_holdsHost_11 rfl (lv_at hl 0 rfl) ?_
    refine lv_isub hx hb d_NameSet_holdsHost_12 ?_
    refine lv_iconst (v := 1) hx hb d_NameSet_holdsHost_13 (by decide) ?_
    refine lv_isub hx hb d_NameSet_holdsHost_14 ?_
    refine lv_topi (fun v15 ev15 => ?_)
    refine lv_istore_n (lv' := [(3, .int v15), (2, .int (-1)), (0, .ref h), (1, .ref g)]) hx hb d_NameSet_holdsHost_15 rfl hl (by decide) rfl (fun ls hl => ?_)
    refine lv_iconst (v := 0) hx hb d_NameSet_holdsHost_16 (by decide) ?_
    refine lv_istore (lv' := [(4, .int 0), (3, .int v15), (2, .int (-1)), (0, .ref h), (1, .ref g)]) hx hb d_NameSet_holdsHost_17 hl (by decide) rfl (fun ls hl => ?_)
    refine w_loop (α := Nat) (fun z9 => z9 ≤ K1) (fun z9 => K1 - z9) (fun z9 => [(4, .int (nI z9)), (3, .int v15), (2, .int (-1)), (0, .ref h), (1, .ref g)]) (fun _ => []) 7 19 (fun z9 ls hJ hl ih => ?_) 0 ls (by omega) (lv_sub hl [0, 1, 2, 3, 4] rfl)
    refine lv_iload hx hb d_NameSet_holdsHost_19 (lv_at hl 0 rfl) ?_
    refine lv_aload_n hx hb d_NameSet_holdsHost_21 rfl (lv_at hl 3 rfl) ?_
    obtain ⟨i_11, l_11, d_11, kl_11, kd_11, hw_11, hg_11⟩ := ty_5 hTy kh
    refine va_get (v := .ref l_11) hx hb htb i_NameSet hown hK hP i_11 hg_11 rfl 0 (by decide) (htb _ q2_126) (fun _ h9 => h9) rfl d_NameSet_holdsHost_22 ?_
    obtain ⟨i_12, q_12, m_12, hK_12, he_12, hw_12, hg_12⟩ := ty_4 hTy kl_11
    refine vp_callSi (pu_callV (As := []) (rest := [.int (nI z9)]) ⟨hx, hb, hml, hown, hts⟩ tbin (c_AL_size l dC dI sb l_11 q_12 K1 m_12) q6_93 q2_54 q2_55 q1_4 q2_56 (n := 0) (by decide +kernel) rfl ⟨rfl, rfl⟩ ⟨Nat.le_of_ble_eq_true rfl, Nat.le_of_ble_eq_true rfl⟩ ⟨Nat.le_of_ble_eq_true rfl, Nat.le_of_ble_eq_true rfl⟩ hN hT0 hK hP [i_12] (by simp only [List.filterMap_cons, List.filterMap_nil, hg_12]) [] rfl i_12 11 hg_12 rfl rfl hl.1 rfl (Nat.le_of_ble_eq_true rfl) d_NameSet_holdsHost_25) (fun r25 hr25 => ?_)
    subst hr25
    refine lv_icmp_ge (tgt := 139) hx hb d_NameSet_holdsHost_28 (by decide) (fun c28 => ?_) (fun c28 => ?_)
    · have p28 : K1 ≤ z9 := ((nI_leI (a := K1) (b := z9) (by omega) (by omega)).mp c28)
      refine lv_iconst (v := 0) hx hb d_NameSet_holdsHost_139 (by decide) ?_
      exact W.zret (v := 0) hx hb hr rfl (fun t ht hW => ⟨_, rfl, bz_f (by decide), ht⟩) (fun q h => by cases h) d_NameSet_holdsHost_140
    · have p28 : ¬ (K1 ≤ z9) := (fun q9 => c28 ((nI_leI (a := K1) (b := z9) (by omega) (by omega)).mpr q9))
      refine lv_aload_n hx hb d_NameSet_holdsHost_31 rfl (lv_at hl 3 rfl) ?_
      refine va_get (v := .ref l_11) hx hb htb i_NameSet hown hK hP i_11 hg_11 rfl 0 (by decide) (htb _ q2_126) (fun _ h9 => h9) rfl d_NameSet_holdsHost_32 ?_
      refine lv_iload hx hb d_NameSet_holdsHost_35 (lv_at hl 0 rfl) ?_
      obtain ⟨cap_13, kq_13⟩ := he_12 (by omega)
      obtain ⟨i_14, f_14, hK_14, hc_14, he_14, hg_14⟩ := ty_3 hTy kq_13
      obtain ⟨s_13, len_13, hf_13, ks_13, hw_13⟩ := he_14 z9 (by omega)
      refine va_csr (pu_callV (As := [.int (nI z9)]) (rest := []) ⟨hx, hb, hml, hown, hts⟩ tbin (c_AL_get l dC dI sb l_11 q_12 K1 cap_13 z9 s_13 m_12 γ.2.2.2 f_14 (by omega) hK_14 (by omega) hf_13) q6_94 q4_210 q4_211 q1_4 q4_212 (n := 1) (by decide +kernel) rfl ⟨rfl, rfl⟩ ⟨Nat.le_of_ble_eq_true rfl, Nat.le_of_ble_eq_true rfl⟩ ⟨Nat.le_of_ble_eq_true rfl, Nat.le_of_ble_eq_true rfl⟩ hN hT0 hK hP [i_12, i_14] (by simp only [List.filterMap_cons, List.filterMap_nil, hg_12, hg_14]) [3] rfl i_12 11 hg_12 rfl rfl hl.1 rfl (Nat.le_of_ble_eq_true rfl) d_NameSet_holdsHost_37) (fun r37 hr37 => ?_)
      obtain rfl := Eq.symm hr37
      obtain ⟨i_15, t_15, n_15, f_15, gt_15, kt_15, hb_15, hm_15, hg_15⟩ := ty_2 hTy ks_13
      refine va_castY (C := "TrustChain$Slice") hx hb hown (htb _ q6_95) (hN.1 _ qn9_222) (va_recv (ci := 0) hK hP rfl hg_15) d_NameSet_holdsHost_40 ?_
      refine lv_astore (lv' := [(5, .ref s_13), (4, .int (nI z9)), (3, .int v15), (2, .int (-1)), (0, .ref h), (1, .ref g)]) hx hb d_NameSet_holdsHost_43 hl (by decide) rfl (fun ls hl => ?_)
      refine lv_aload hx hb d_NameSet_holdsHost_45 (lv_at hl 0 rfl) ?_
      refine vp_callSi (pu_callV (As := []) (rest := []) ⟨hx, hb, hml, hown, hts⟩ tbin (c_Slice_length l dC dI sb s_13 t_15 f_15 (f_15 + len_13) (by omega)) q6_106 q3_144 q3_145 q1_22 q3_146 (n := 0) (by decide +kernel) rfl ⟨rfl, rfl⟩ ⟨Nat.le_of_ble_eq_true rfl, Nat.le_of_ble_eq_true rfl⟩ ⟨Nat.le_of_ble_eq_true rfl, Nat.le_of_ble_eq_true rfl⟩ hN hT0 hK hP [i_15] (by simp only [List.filterMap_cons, List.filterMap_nil, hg_15]) [] rfl i_15 0 hg_15 rfl rfl hl.1 rfl (Nat.le_of_ble_eq_true rfl) d_NameSet_holdsHost_47) (fun r47 hr47 => ?_)
      rw [show (f_15 + len_13) - f_15 = len_13 by omega] at hr47
      subst hr47
      refine lv_aload_n hx hb d_NameSet_holdsHost_50 rfl (lv_at hl 5 rfl) ?_
      refine vp_callSi (pu_callV (As := []) (rest := [.int (nI len_13)]) ⟨hx, hb, hml, hown, hts⟩ tbin (c_Slice_length l dC dI sb g t_1 f_1 (f_1 + z) (by omega)) q6_106 q3_144 q3_145 q1_22 q3_146 (n := 0) (by decide +kernel) rfl ⟨rfl, rfl⟩ ⟨Nat.le_of_ble_eq_true rfl, Nat.le_of_ble_eq_true rfl⟩ ⟨Nat.le_of_ble_eq_true rfl, Nat.le_of_ble_eq_true rfl⟩ hN hT0 hK hP [i_1] (by simp only [List.filterMap_cons, List.filterMap_nil, hg_1]) [] rfl i_1 0 hg_1 rfl rfl hl.1 rfl (Nat.le_of_ble_eq_true rfl) d_NameSet_holdsHost_51) (fun r51 hr51 => ?_)
      rw [show (f_1 + z) - f_1 = z by omega] at hr51
      subst hr51
      refine lv_icmp_ne (tgt := 72) hx hb d_NameSet_holdsHost_54 (by decide) (fun c54 => ?_) (fun c54 => ?_)
      · have p54 : ¬ (len_13 = z) := (fun q9 => c54 ((nI_eq (a := len_13) (b := z) (by omega) (by omega)).mpr q9))
        refine lv_aload hx hb d_NameSet_holdsHost_72 (lv_at hl 0 rfl) ?_
        refine vp_callSi (pu_callV (As := []) (rest := []) ⟨hx, hb, hml, hown, hts⟩ tbin (c_Slice_length l dC dI sb s_13 t_15 f_15 (f_15 + len_13) (by omega)) q6_106 q3_144 q3_145 q1_22 q3_146 (n := 0) (by decide +kernel) rfl ⟨rfl, rfl⟩ ⟨Nat.le_of_ble_eq_true rfl, Nat.le_of_ble_eq_true rfl⟩ ⟨Nat.le_of_ble_eq_true rfl, Nat.le_of_ble_eq_true rfl⟩ hN hT0 hK hP [i_15] (by simp only [List.filterMap_cons, List.filterMap_nil, hg_15]) [] rfl i_15 0 hg_15 rfl rfl hl.1 rfl (Nat.le_of_ble_eq_true rfl) d_NameSet_holdsHost_74) (fun r74 hr74 => ?_)
        rw [show (f_15 + len_13) - f_15 = len_13 by omega] at hr74
        subst hr74
        refine lv_iload_n hx hb d_NameSet_holdsHost_77 rfl (lv_at hl 2 rfl) ?_
        refine lv_iconst (v := 2) hx hb d_NameSet_holdsHost_78 (by decide) ?_
        refine lv_iadd hx hb d_NameSet_holdsHost_79 ?_
        refine w_join (J := fun jv80 => bz jv80 (jv80 = 1)) (pc := 110) (ls := ls) (rest := []) (fun jv80 hjv80 => ?_) (fun k110 => ?_)
        · skip
          refine lv_istore (lv' := [(6, .int jv80), (5, .ref s_13), (4, .int (nI z9)), (3, .int v15), (2, .int (-1)), (0, .ref h), (1, .ref g)]) hx hb d_NameSet_holdsHost_110 hl (by decide) rfl (fun ls hl => ?_)
          refine lv_iload_n hx hb d_NameSet_holdsHost_112 rfl (lv_at hl 4 rfl) ?_
          refine lv_if_lt (tgt := 133) hx hb d_NameSet_holdsHost_113 (by decide) (fun c113 => ?_) (fun c113 => ?_)
          rotate_left
          · exact absurd c113 (by decide)
          refine lv_iinc (v := nI (z9 + 1)) (lv' := [(4, .int (nI (z9 + 1))), (6, .int jv80), (5, .ref s_13), (3, .int v15), (2, .int (-1)), (0, .ref h), (1, .ref g)]) hx hb d_NameSet_holdsHost_133 hl (k := 2) rfl (nI_1 _) (by decide) rfl (fun ls hl => ?_)
          refine lv_goto (tgt := 19) hx hb d_NameSet_holdsHost_136 (by decide) ?_
          exact ih (z9 + 1) ls (by omega) (by omega) (lv_sub hl [0, 3, 4, 5, 6] rfl)
        · skip
          refine lv_icmp_ne (tgt := 109) hx hb d_NameSet_holdsHost_80 (by decide) (fun c80 => ?_) (fun c80 => ?_)
          · have p80 : ¬ ((nI len_13) = (v15 + 2)) := c80
            refine lv_iconst (v := 0) hx hb d_NameSet_holdsHost_109 (by decide) ?_
            exact k110 _ (bz_f (by decide))
          · have p80 : (nI len_13) = (v15 + 2) := c80
            refine lv_aload hx hb d_NameSet_holdsHost_83 (lv_at hl 0 rfl) ?_
            refine lv_iconst (v := 0) hx hb d_NameSet_holdsHost_85 (by decide) ?_
            obtain ⟨i_16, u_16, hu_16, hn_16, hg_16⟩ := ty_1 hTy kt_15
            refine vp_callSi (pu_callV (As := [.int 0]) (rest := []) ⟨hx, hb, hml, hown, hts⟩ tbin (c_Slice_at l dC dI sb s_13 t_15 f_15 (f_15 + len_13) n_15 γ.1 u_16 (0 : Int32) hu_16 (by omega) (by omega) (by omega)) q6_107 q3_149 q3_150 q1_22 q3_151 (n := 1) (by decide +kernel) rfl ⟨rfl, rfl⟩ ⟨Nat.le_of_ble_eq_true rfl, Nat.le_of_ble_eq_true rfl⟩ ⟨Nat.le_of_ble_eq_true rfl, Nat.le_of_ble_eq_true rfl⟩ hN hT0 hK hP [i_15, i_16] (by simp only [List.filterMap_cons, List.filterMap_nil, hg_15, hg_16]) [0] rfl i_15 0 hg_15 rfl rfl hl.1 rfl (Nat.le_of_ble_eq_true rfl) d_NameSet_holdsHost_86) (fun r86 hr86 => ?_)
            refine lv_bipush (v := 42) hx hb d_NameSet_holdsHost_89 (by decide) ?_
            refine lv_icmp_ne (tgt := 109) hx hb d_NameSet_holdsHost_91 (by decide) (fun c91 => ?_) (fun c91 => ?_)
            · have p91 : ¬ (r86 = (42 : Int32)) := c91
              refine lv_iconst (v := 0) hx hb d_NameSet_holdsHost_109 (by decide) ?_
              exact k110 _ (bz_f (by decide))
            · have p91 : r86 = (42 : Int32) := c91
              refine lv_aload hx hb d_NameSet_holdsHost_94 (lv_at hl 0 rfl) ?_
              refine lv_iconst (v := 1) hx hb d_NameSet_holdsHost_96 (by decide) ?_
              refine vp_callSi (pu_callV (As := [.int 1]) (rest := []) ⟨hx, hb, hml, hown, hts⟩ tbin (c_Slice_at l dC dI sb s_13 t_15 f_15 (f_15 + len_13) n_15 γ.1 u_16 (1 : Int32) hu_16 (by omega) (by omega) (by omega)) q6_107 q3_149 q3_150 q1_22 q3_151 (n := 1) (by decide +kernel) rfl ⟨rfl, rfl⟩ ⟨Nat.le_of_ble_eq_true rfl, Nat.le_of_ble_eq_true rfl⟩ ⟨Nat.le_of_ble_eq_true rfl, Nat.le_of_ble_eq_true rfl⟩ hN hT0 hK hP [i_15, i_16] (by simp only [List.filterMap_cons, List.filterMap_nil, hg_15, hg_16]) [0] rfl i_15 0 hg_15 rfl rfl hl.1 rfl (Nat.le_of_ble_eq_true rfl) d_NameSet_holdsHost_97) (fun r97 hr97 => ?_)
              refine lv_bipush (v := 46) hx hb d_NameSet_holdsHost_100 (by decide) ?_
              refine lv_icmp_ne (tgt := 109) hx hb d_NameSet_holdsHost_102 (by decide) (fun c102 => ?_) (fun c102 => ?_)
              · have p102 : ¬ (r97 = (46 : Int32)) := c102
                refine lv_iconst (v := 0) hx hb d_NameSet_holdsHost_109 (by decide) ?_
                exact k110 _ (bz_f (by decide))
              · have p102 : r97 = (46 : Int32) := c102
                refine lv_iconst (v := 1) hx hb d_NameSet_holdsHost_105 (by decide) ?_
                refine lv_goto (tgt := 110) hx hb d_NameSet_holdsHost_106 (by decide) ?_
                exact k110 _ (bz_t rfl)
      · have p54 : len_13 = z := ((nI_eq (a := len_13) (b := z) (by omega) (by omega)).mp c54)
        refine lv_aload hx hb d_NameSet_holdsHost_57 (lv_at hl 0 rfl) ?_
        refine lv_aload_n hx hb d_NameSet_holdsHost_59 rfl (lv_at hl 5 rfl) ?_
        refine lv_aload_n hx hb d_NameSet_holdsHost_60 rfl (lv_at hl 5 rfl) ?_
        refine vp_callSi (pu_callV (As := []) (rest := [.ref g, .ref s_13]) ⟨hx, hb, hml, hown, hts⟩ tbin (c_Slice_length l dC dI sb g t_1 f_1 (f_1 + z) (by omega)) q6_106 q3_144 q3_145 q1_22 q3_146 (n := 0) (by decide +kernel) rfl ⟨rfl, rfl⟩ ⟨Nat.le_of_ble_eq_true rfl, Nat.le_of_ble_eq_true rfl⟩ ⟨Nat.le_of_ble_eq_true rfl, Nat.le_of_ble_eq_true rfl⟩ hN hT0 hK hP [i_1] (by simp only [List.filterMap_cons, List.filterMap_nil, hg_1]) [] rfl i_1 0 hg_1 rfl rfl hl.1 rfl (Nat.le_of_ble_eq_true rfl) d_NameSet_holdsHost_61) (fun r61 hr61 => ?_)
        rw [show (f_1 + z) - f_1 = z by omega] at hr61
        subst hr61
        obtain ⟨i_17, u_17, hu_17, hn_17, hg_17⟩ := ty_1 hTy kt_15
        refine vp_callSi (pu_callV (As := [.ref g, .int (nI z)]) (rest := []) ⟨hx, hb, hml, hown, hts⟩ tbin (c_Slice_sharesTail l dC dI sb s_13 g t_15 t_1 f_15 (f_15 + len_13) n_15 f_1 (f_1 + z) n_1 γ.1 γ.1 u_17 u_2 z hu_17 (by omega) (by omega) (by omega) hu_2 (by omega) (by omega) (by omega) (by omega)) q6_108 q6_109 q6_110 q1_22 q6_111 (n := 2) (by decide +kernel) rfl ⟨rfl, rfl⟩ ⟨Nat.le_of_ble_eq_true rfl, Nat.le_of_ble_eq_true rfl⟩ ⟨Nat.le_of_ble_eq_true rfl, Nat.le_of_ble_eq_true rfl⟩ hN hT0 hK hP [i_15, i_17, i_1, i_2] (by simp only [List.filterMap_cons, List.filterMap_nil, hg_15, hg_17, hg_1, hg_2]) [0, 0] rfl i_15 0 hg_15 rfl rfl hl.1 rfl (Nat.le_of_ble_eq_true rfl) d_NameSet_holdsHost_64) (fun r64 hr64 => ?_)
        refine lv_if_eq (tgt := 72) hx hb d_NameSet_holdsHost_67 (by decide) (fun c67 => ?_) (fun c67 => ?_)
        · have p67 : r64 = (0 : Int32) := c67
          refine lv_aload hx hb d_NameSet_holdsHost_72 (lv_at hl 0 rfl) ?_
          refine vp_callSi (pu_callV (As := []) (rest := []) ⟨hx, hb, hml, hown, hts⟩ tbin (c_Slice_length l dC dI sb s_13 t_15 f_15 (f_15 + len_13) (by omega)) q6_106 q3_144 q3_145 q1_22 q3_146 (n := 0) (by decide +kernel) rfl ⟨rfl, rfl⟩ ⟨Nat.le_of_ble_eq_true rfl, Nat.le_of_ble_eq_true rfl⟩ ⟨Nat.le_of_ble_eq_true rfl, Nat.le_of_ble_eq_true rfl⟩ hN hT0 hK hP [i_15] (by simp only [List.filterMap_cons, List.filterMap_nil, hg_15]) [] rfl i_15 0 hg_15 rfl rfl hl.1 rfl (Nat.le_of_ble_eq_true rfl) d_NameSet_holdsHost_74) (fun r74 hr74 => ?_)
          rw [show (f_15 + len_13) - f_15 = len_13 by omega] at hr74
          subst hr74
          refine lv_iload_n hx hb d_NameSet_holdsHost_77 rfl (lv_at hl 2 rfl) ?_
          refine lv_iconst (v := 2) hx hb d_NameSet_holdsHost_78 (by decide) ?_
          refine lv_iadd hx hb d_NameSet_holdsHost_79 ?_
          refine w_join (J := fun jv80 => bz jv80 (jv80 = 1)) (pc := 110) (ls := ls) (rest := []) (fun jv80 hjv80 => ?_) (fun k110 => ?_)
          · skip
            refine lv_istore (lv' := [(6, .int jv80), (5, .ref s_13), (4, .int (nI z9)), (3, .int v15), (2, .int (-1)), (0, .ref h), (1, .ref g)]) hx hb d_NameSet_holdsHost_110 hl (by decide) rfl (fun ls hl => ?_)
            refine lv_iload_n hx hb d_NameSet_holdsHost_112 rfl (lv_at hl 4 rfl) ?_
            refine lv_if_lt (tgt := 133) hx hb d_NameSet_holdsHost_113 (by decide) (fun c113 => ?_) (fun c113 => ?_)
            rotate_left
            · exact absurd c113 (by decide)
            refine lv_iinc (v := nI (z9 + 1)) (lv' := [(4, .int (nI (z9 + 1))), (6, .int jv80), (5, .ref s_13), (3, .int v15), (2, .int (-1)), (0, .ref h), (1, .ref g)]) hx hb d_NameSet_holdsHost_133 hl (k := 2) rfl (nI_1 _) (by decide) rfl (fun ls hl => ?_)
            refine lv_goto (tgt := 19) hx hb d_NameSet_holdsHost_136 (by decide) ?_
            exact ih (z9 + 1) ls (by omega) (by omega) (lv_sub hl [0, 3, 4, 5, 6] rfl)
          · skip
            refine lv_icmp_ne (tgt := 109) hx hb d_NameSet_holdsHost_80 (by decide) (fun c80 => ?_) (fun c80 => ?_)
            · have p80 : ¬ ((nI len_13) = (v15 + 2)) := c80
              refine lv_iconst (v := 0) hx hb d_NameSet_holdsHost_109 (by decide) ?_
              exact k110 _ (bz_f (by decide))
            · have p80 : (nI len_13) = (v15 + 2) := c80
              refine lv_aload hx hb d_NameSet_holdsHost_83 (lv_at hl 0 rfl) ?_
              refine lv_iconst (v := 0) hx hb d_NameSet_holdsHost_85 (by decide) ?_
              refine vp_callSi (pu_callV (As := [.int 0]) (rest := []) ⟨hx, hb, hml, hown, hts⟩ tbin (c_Slice_at l dC dI sb s_13 t_15 f_15 (f_15 + len_13) n_15 γ.1 u_17 (0 : Int32) hu_17 (by omega) (by omega) (by omega)) q6_107 q3_149 q3_150 q1_22 q3_151 (n := 1) (by decide +kernel) rfl ⟨rfl, rfl⟩ ⟨Nat.le_of_ble_eq_true rfl, Nat.le_of_ble_eq_true rfl⟩ ⟨Nat.le_of_ble_eq_true rfl, Nat.le_of_ble_eq_true rfl⟩ hN hT0 hK hP [i_15, i_17] (by simp only [List.filterMap_cons, List.filterMap_nil, hg_15, hg_17]) [0] rfl i_15 0 hg_15 rfl rfl hl.1 rfl (Nat.le_of_ble_eq_true rfl) d_NameSet_holdsHost_86) (fun r86 hr86 => ?_)
              refine lv_bipush (v := 42) hx hb d_NameSet_holdsHost_89 (by decide) ?_
              refine lv_icmp_ne (tgt := 109) hx hb d_NameSet_holdsHost_91 (by decide) (fun c91 => ?_) (fun c91 => ?_)
              · have p91 : ¬ (r86 = (42 : Int32)) := c91
                refine lv_iconst (v := 0) hx hb d_NameSet_holdsHost_109 (by decide) ?_
                exact k110 _ (bz_f (by decide))
              · have p91 : r86 = (42 : Int32) := c91
                refine lv_aload hx hb d_NameSet_holdsHost_94 (lv_at hl 0 rfl) ?_
                refine lv_iconst (v := 1) hx hb d_NameSet_holdsHost_96 (by decide) ?_
                refine vp_callSi (pu_callV (As := [.int 1]) (rest := []) ⟨hx, hb, hml, hown, hts⟩ tbin (c_Slice_at l dC dI sb s_13 t_15 f_15 (f_15 + len_13) n_15 γ.1 u_17 (1 : Int32) hu_17 (by omega) (by omega) (by omega)) q6_107 q3_149 q3_150 q1_22 q3_151 (n := 1) (by decide +kernel) rfl ⟨rfl, rfl⟩ ⟨Nat.le_of_ble_eq_true rfl, Nat.le_of_ble_eq_true rfl⟩ ⟨Nat.le_of_ble_eq_true rfl, Nat.le_of_ble_eq_true rfl⟩ hN hT0 hK hP [i_15, i_17] (by simp only [List.filterMap_cons, List.filterMap_nil, hg_15, hg_17]) [0] rfl i_15 0 hg_15 rfl rfl hl.1 rfl (Nat.le_of_ble_eq_true rfl) d_NameSet_holdsHost_97) (fun r97 hr97 => ?_)
                refine lv_bipush (v := 46) hx hb d_NameSet_holdsHost_100 (by decide) ?_
                refine lv_icmp_ne (tgt := 109) hx hb d_NameSet_holdsHost_102 (by decide) (fun c102 => ?_) (fun c102 => ?_)
                · have p102 : ¬ (r97 = (46 : Int32)) := c102
                  refine lv_iconst (v := 0) hx hb d_NameSet_holdsHost_109 (by decide) ?_
                  exact k110 _ (bz_f (by decide))
                · have p102 : r97 = (46 : Int32) := c102
                  refine lv_iconst (v := 1) hx hb d_NameSet_holdsHost_105 (by decide) ?_
                  refine lv_goto (tgt := 110) hx hb d_NameSet_holdsHost_106 (by decide) ?_
                  exact k110 _ (bz_t rfl)
        · have p67 : ¬ (r64 = (0 : Int32)) := c67
          refine lv_iconst (v := 1) hx hb d_NameSet_holdsHost_70 (by decide) ?_
          exact W.zret (v := 1) hx hb hr rfl (fun t ht hW => ⟨_, rfl, bz_t rfl, ht⟩) (fun q h => by cases h) d_NameSet_holdsHost_71
def y_Paper_isAt : MethodName := ⟨"TrustChain$Paper", "isAt", "(J)Z"⟩
abbrev b_Paper_isAt : ByteArray := prog_6_method_2_code
def w_Paper_isAt : List Cond := Cond.code y_Paper_isAt b_Paper_isAt 3 ((some FieldType.boolean)) :: tb
theorem d_Paper_isAt_0 : decode b_Paper_isAt 0 = .ok (.lload_n 1, 1) := by decide +kernel
theorem d_Paper_isAt_1 : decode b_Paper_isAt 1 = .ok (.aload_n 0, 1) := by decide +kernel
theorem d_Paper_isAt_2 : decode b_Paper_isAt 2 = .ok (.getfield 25, 3) := by decide +kernel
theorem d_Paper_isAt_5 : decode b_Paper_isAt 5 = .ok (.lcmp, 1) := by decide +kernel
theorem d_Paper_isAt_6 : decode b_Paper_isAt 6 = .ok (.ifCond .lt 16, 3) := by decide +kernel
theorem d_Paper_isAt_9 : decode b_Paper_isAt 9 = .ok (.lload_n 1, 1) := by decide +kernel
theorem d_Paper_isAt_10 : decode b_Paper_isAt 10 = .ok (.aload_n 0, 1) := by decide +kernel
theorem d_Paper_isAt_11 : decode b_Paper_isAt 11 = .ok (.getfield 29, 3) := by decide +kernel
theorem d_Paper_isAt_14 : decode b_Paper_isAt 14 = .ok (.lcmp, 1) := by decide +kernel
theorem d_Paper_isAt_15 : decode b_Paper_isAt 15 = .ok (.ifCond .gt 7, 3) := by decide +kernel
theorem d_Paper_isAt_18 : decode b_Paper_isAt 18 = .ok (.iconst 1, 1) := by decide +kernel
theorem d_Paper_isAt_19 : decode b_Paper_isAt 19 = .ok (.goto 4, 3) := by decide +kernel
theorem d_Paper_isAt_22 : decode b_Paper_isAt 22 = .ok (.iconst 0, 1) := by decide +kernel
theorem d_Paper_isAt_23 : decode b_Paper_isAt 23 = .ok (.ireturn, 1) := by decide +kernel
set_option maxHeartbeats 4000000 in
set_option maxRecDepth 100000 in
theorem p_isAtC (l : Launch) (dC : Nat → ClassId) (dI : Nat → Nat → Nat) (sb : sB) (γ : cG) (κ : kE) (Ad : List Nat) (ν : Nat → cN) (ω : Nat → List Nat) (L : Nat) (G : va_W) (h : Nat) (K len : Nat) (x : Int64) (hTy : TY γ κ Ad ν ω L G) (kh : tK κ Ad h (8, K, len))  : Met l y_Paper_isAt w_Paper_isAt ({ frames := 0, cells := 0, slots := 0, locals := 0 }) (pu_P [.ref h, .long x] (dC, dI) sb G [(γ.1, .byte), (γ.2.1, .int), (γ.2.2.1, .long), (γ.2.2.2, .object "java/lang/Object")]) (vp_Si (fun r => r = zP (¬ x < (ν h).2.2.2.2.2.2.2.2.2.1 ∧ ¬ (ν h).2.2.2.2.2.2.2.2.2.2.1 < x))) 0 0 (fun _ => False) := by
  refine Met.ofW (cc := b_Paper_isAt) (maxL := 3) (ret := (some FieldType.boolean)) (by decide) rfl ?_
  intro p e s m args below meth c s₁ B hml hv
  obtain ⟨rfl, hP, hK, hN, hT0⟩ := hv
  have hx := B.exec
  have hb := B.bytes
  have hr := B.returns
  have hts := atoms_spec (ws := w_Paper_isAt) B.pre
  have tbin : ∀ w ∈ tb, w ∈ w_Paper_isAt := fun w h => List.mem_cons_of_mem _ h
  have htb : ∀ w ∈ tb, w.before _ s = true := fun w h => hts w (tbin w h)
  have hown : s.vm.findClass "TrustChain$Paper" = some m.cls := findClass_of_methodNamed B.named
  have hlocks := B.notSynchronized
  have hl := lv_entry ([.ref h, .long x]) (n := 3) (Nat.le_of_ble_eq_true rfl)
  rw [lg_entry_eq]
  generalize (lg_sl ([.ref h, .long x]) ++ List.replicate (3 - (lg_sl ([.ref h, .long x])).length) Slot.unset).toArray = ls at hl ⊢
  have hl : lv_has ls 3 [(0, .ref h), (1, .long x)] := hl
  refine lv_lload_n hx hb d_Paper_isAt_0 rfl (lv_at hl 1 rfl) ?_
  refine lv_aload_n hx hb d_Paper_isAt_1 rfl (lv_at hl 0 rfl) ?_
  obtain ⟨i_1, bo_1, K_1, B_1, kbo_1, wl_1, hg_1⟩ := ty_8x hTy kh
  obtain ⟨⟨A_1, knm_1⟩, kpe_1, kec_1, kse_1, ksu_1, kmo_1, kok_1, kik_1, kha_1, ksi_1, ken_1, ksg_1, kis_1⟩ := K_1
  have knm_1 := tK.fiv ⟨_, _, knm_1⟩
  have kpe_1 := tK.fiv kpe_1
  have kec_1 := tK.fiv kec_1
  have ksu_1 := tK.two ksu_1
  have kmo_1 := tK.two kmo_1
  have kok_1 := tK.two kok_1
  have kik_1 := tK.two kik_1
  have ksg_1 := tK.two ksg_1
  have kis_1 := tK.two kis_1
  refine va_get (v := .long ((ν h).2.2.2.2.2.2.2.2.2.1)) hx hb htb i_Certificate hown hK hP i_1 hg_1 rfl 25 (by decide) (htb _ q2_218) (fun _ h9 => h9) rfl d_Paper_isAt_2 ?_
  refine W.lcmp hx hb d_Paper_isAt_5 ?_
  refine w_join (J := fun v9 => v9 = zP (¬ ((lg_cmp x ((ν h).2.2.2.2.2.2.2.2.2.1)) < (0 : Int32)) ∧ (¬ ((0 : Int32) < (lg_cmp x ((ν h).2.2.2.2.2.2.2.2.2.2.1)))))) (pc := 23) (ls := ls) (rest := []) (fun v9 hv9 => ?_) (fun k23 => ?_)
  · subst hv9
    exact W.zret (v := zP (¬ ((lg_cmp x ((ν h).2.2.2.2.2.2.2.2.2.1)) < (0 : Int32)) ∧ (¬ ((0 : Int32) < (lg_cmp x ((ν h).2.2.2.2.2.2.2.2.2.2.1)))))) hx hb hr (zP_n _) (fun t ht hW => ⟨_, rfl, zP_g (by rw [cmp_lt, cmp_gt]), ht⟩) (fun q h => by cases h) d_Paper_isAt_23
  · skip
    refine lv_if_lt (tgt := 22) hx hb d_Paper_isAt_6 (by decide) (fun c6 => ?_) (fun c6 => ?_)
    · have p6 : (lg_cmp x ((ν h).2.2.2.2.2.2.2.2.2.1)) < (0 : Int32) := c6
      refine lv_iconst (v := 0) hx hb d_Paper_isAt_22 (by decide) ?_
      exact k23 _ (zP_f (fun z => z.1 p6))
    · have p6 : ¬ ((lg_cmp x ((ν h).2.2.2.2.2.2.2.2.2.1)) < (0 : Int32)) := c6
      refine lv_lload_n hx hb d_Paper_isAt_9 rfl (lv_at hl 1 rfl) ?_
      refine lv_aload_n hx hb d_Paper_isAt_10 rfl (lv_at hl 0 rfl) ?_
      refine va_get (v := .long ((ν h).2.2.2.2.2.2.2.2.2.2.1)) hx hb htb i_Certificate hown hK hP i_1 hg_1 rfl 26 (by decide) (htb _ q2_224) (fun _ h9 => h9) rfl d_Paper_isAt_11 ?_
      refine W.lcmp hx hb d_Paper_isAt_14 ?_
      refine lv_if_gt (tgt := 22) hx hb d_Paper_isAt_15 (by decide) (fun c15 => ?_) (fun c15 => ?_)
      · have p15 : (0 : Int32) < (lg_cmp x ((ν h).2.2.2.2.2.2.2.2.2.2.1)) := c15
        refine lv_iconst (v := 0) hx hb d_Paper_isAt_22 (by decide) ?_
        exact k23 _ (zP_f (fun z => (fun z => z p15) z.2))
      · have p15 : ¬ ((0 : Int32) < (lg_cmp x ((ν h).2.2.2.2.2.2.2.2.2.2.1))) := c15
        refine lv_iconst (v := 1) hx hb d_Paper_isAt_18 (by decide) ?_
        refine lv_goto (tgt := 23) hx hb d_Paper_isAt_19 (by decide) ?_
        exact k23 _ (zP_t ⟨p6, p15⟩)
set_option maxHeartbeats 4000000 in
set_option maxRecDepth 100000 in
theorem p_isAtP (l : Launch) (dC : Nat → ClassId) (dI : Nat → Nat → Nat) (sb : sB) (γ : cG) (κ : kE) (Ad : List Nat) (ν : Nat → cN) (ω : Nat → List Nat) (L : Nat) (G : va_W) (h : Nat) (K : Nat) (x : Int64) (hTy : TY γ κ Ad ν ω L G) (kh : tK κ Ad h (9, K, 0))  : Met l y_Paper_isAt w_Paper_isAt ({ frames := 0, cells := 0, slots := 0, locals := 0 }) (pu_P [.ref h, .long x] (dC, dI) sb G [(γ.1, .byte), (γ.2.1, .int), (γ.2.2.1, .long), (γ.2.2.2, .object "java/lang/Object")]) (vp_Si (fun r => r = zP (¬ x < (ν h).2.2.2.2.2.2.2.2.2.1 ∧ ¬ (ν h).2.2.2.2.2.2.2.2.2.2.1 < x))) 0 0 (fun _ => False) := by
  refine Met.ofW (cc := b_Paper_isAt) (maxL := 3) (ret := (some FieldType.boolean)) (by decide) rfl ?_
  intro p e s m args below meth c s₁ B hml hv
  obtain ⟨rfl, hP, hK, hN, hT0⟩ := hv
  have hx := B.exec
  have hb := B.bytes
  have hr := B.returns
  have hts := atoms_spec (ws := w_Paper_isAt) B.pre
  have tbin : ∀ w ∈ tb, w ∈ w_Paper_isAt := fun w h => List.mem_cons_of_mem _ h
  have htb : ∀ w ∈ tb, w.before _ s = true := fun w h => hts w (tbin w h)
  have hown : s.vm.findClass "TrustChain$Paper" = some m.cls := findClass_of_methodNamed B.named
  have hlocks := B.notSynchronized
  have hl := lv_entry ([.ref h, .long x]) (n := 3) (Nat.le_of_ble_eq_true rfl)
  rw [lg_entry_eq]
  generalize (lg_sl ([.ref h, .long x]) ++ List.replicate (3 - (lg_sl ([.ref h, .long x])).length) Slot.unset).toArray = ls at hl ⊢
  have hl : lv_has ls 3 [(0, .ref h), (1, .long x)] := hl
  refine lv_lload_n hx hb d_Paper_isAt_0 rfl (lv_at hl 1 rfl) ?_
  refine lv_aload_n hx hb d_Paper_isAt_1 rfl (lv_at hl 0 rfl) ?_
  obtain ⟨i_1, bo_1, ⟨kha_1, ksi_1, ken_1, ksg_1, kis_1⟩, kbo_1, hg_1⟩ := ty_9x hTy kh
  have ksg_1 := tK.two ksg_1
  have kis_1 := tK.two kis_1
  refine va_get (v := .long ((ν h).2.2.2.2.2.2.2.2.2.1)) hx hb htb i_Paper hown hK hP i_1 hg_1 rfl 6 (by decide) (htb _ q2_218) (fun _ h9 => h9) rfl d_Paper_isAt_2 ?_
  refine W.lcmp hx hb d_Paper_isAt_5 ?_
  refine w_join (J := fun v9 => v9 = zP (¬ ((lg_cmp x ((ν h).2.2.2.2.2.2.2.2.2.1)) < (0 : Int32)) ∧ (¬ ((0 : Int32) < (lg_cmp x ((ν h).2.2.2.2.2.2.2.2.2.2.1)))))) (pc := 23) (ls := ls) (rest := []) (fun v9 hv9 => ?_) (fun k23 => ?_)
  · subst hv9
    exact W.zret (v := zP (¬ ((lg_cmp x ((ν h).2.2.2.2.2.2.2.2.2.1)) < (0 : Int32)) ∧ (¬ ((0 : Int32) < (lg_cmp x ((ν h).2.2.2.2.2.2.2.2.2.2.1)))))) hx hb hr (zP_n _) (fun t ht hW => ⟨_, rfl, zP_g (by rw [cmp_lt, cmp_gt]), ht⟩) (fun q h => by cases h) d_Paper_isAt_23
  · skip
    refine lv_if_lt (tgt := 22) hx hb d_Paper_isAt_6 (by decide) (fun c6 => ?_) (fun c6 => ?_)
    · have p6 : (lg_cmp x ((ν h).2.2.2.2.2.2.2.2.2.1)) < (0 : Int32) := c6
      refine lv_iconst (v := 0) hx hb d_Paper_isAt_22 (by decide) ?_
      exact k23 _ (zP_f (fun z => z.1 p6))
    · have p6 : ¬ ((lg_cmp x ((ν h).2.2.2.2.2.2.2.2.2.1)) < (0 : Int32)) := c6
      refine lv_lload_n hx hb d_Paper_isAt_9 rfl (lv_at hl 1 rfl) ?_
      refine lv_aload_n hx hb d_Paper_isAt_10 rfl (lv_at hl 0 rfl) ?_
      refine va_get (v := .long ((ν h).2.2.2.2.2.2.2.2.2.2.1)) hx hb htb i_Paper hown hK hP i_1 hg_1 rfl 7 (by decide) (htb _ q2_224) (fun _ h9 => h9) rfl d_Paper_isAt_11 ?_
      refine W.lcmp hx hb d_Paper_isAt_14 ?_
      refine lv_if_gt (tgt := 22) hx hb d_Paper_isAt_15 (by decide) (fun c15 => ?_) (fun c15 => ?_)
      · have p15 : (0 : Int32) < (lg_cmp x ((ν h).2.2.2.2.2.2.2.2.2.2.1)) := c15
        refine lv_iconst (v := 0) hx hb d_Paper_isAt_22 (by decide) ?_
        exact k23 _ (zP_f (fun z => (fun z => z p15) z.2))
      · have p15 : ¬ ((0 : Int32) < (lg_cmp x ((ν h).2.2.2.2.2.2.2.2.2.2.1))) := c15
        refine lv_iconst (v := 1) hx hb d_Paper_isAt_18 (by decide) ?_
        refine lv_goto (tgt := 23) hx hb d_Paper_isAt_19 (by decide) ?_
        exact k23 _ (zP_t ⟨p6, p15⟩)
def y_Paper_hasEntry : MethodName := ⟨"TrustChain$Paper", "hasEntry", "(LTrustChain$Slice;)Z"⟩
abbrev b_Paper_hasEntry : ByteArray := prog_6_method_3_code
def w_Paper_hasEntry : List Cond := Cond.code y_Paper_hasEntry b_Paper_hasEntry 3 ((some FieldType.boolean)) :: tb
theorem d_Paper_hasEntry_0 : decode b_Paper_hasEntry 0 = .ok (.iconst 0, 1) := by decide +kernel
theorem d_Paper_hasEntry_1 : decode b_Paper_hasEntry 1 = .ok (.istore_n 2, 1) := by decide +kernel
theorem d_Paper_hasEntry_2 : decode b_Paper_hasEntry 2 = .ok (.iload_n 2, 1) := by decide +kernel
theorem d_Paper_hasEntry_3 : decode b_Paper_hasEntry 3 = .ok (.aload_n 0, 1) := by decide +kernel
theorem d_Paper_hasEntry_4 : decode b_Paper_hasEntry 4 = .ok (.getfield 21, 3) := by decide +kernel
theorem d_Paper_hasEntry_7 : decode b_Paper_hasEntry 7 = .ok (.invokevirtual 46, 3) := by decide +kernel
theorem d_Paper_hasEntry_10 : decode b_Paper_hasEntry 10 = .ok (.if_icmp .ge 29, 3) := by decide +kernel
theorem d_Paper_hasEntry_13 : decode b_Paper_hasEntry 13 = .ok (.aload_n 0, 1) := by decide +kernel
theorem d_Paper_hasEntry_14 : decode b_Paper_hasEntry 14 = .ok (.getfield 21, 3) := by decide +kernel
theorem d_Paper_hasEntry_17 : decode b_Paper_hasEntry 17 = .ok (.iload_n 2, 1) := by decide +kernel
theorem d_Paper_hasEntry_18 : decode b_Paper_hasEntry 18 = .ok (.invokevirtual 50, 3) := by decide +kernel
theorem d_Paper_hasEntry_21 : decode b_Paper_hasEntry 21 = .ok (.checkcast 54, 3) := by decide +kernel
theorem d_Paper_hasEntry_24 : decode b_Paper_hasEntry 24 = .ok (.aload_n 1, 1) := by decide +kernel
theorem d_Paper_hasEntry_25 : decode b_Paper_hasEntry 25 = .ok (.invokevirtual 56, 3) := by decide +kernel
theorem d_Paper_hasEntry_28 : decode b_Paper_hasEntry 28 = .ok (.ifCond .eq 5, 3) := by decide +kernel
theorem d_Paper_hasEntry_31 : decode b_Paper_hasEntry 31 = .ok (.iconst 1, 1) := by decide +kernel
theorem d_Paper_hasEntry_32 : decode b_Paper_hasEntry 32 = .ok (.ireturn, 1) := by decide +kernel
theorem d_Paper_hasEntry_33 : decode b_Paper_hasEntry 33 = .ok (.iinc 2 1, 3) := by decide +kernel
theorem d_Paper_hasEntry_36 : decode b_Paper_hasEntry 36 = .ok (.goto (-34), 3) := by decide +kernel
theorem d_Paper_hasEntry_39 : decode b_Paper_hasEntry 39 = .ok (.iconst 0, 1) := by decide +kernel
theorem d_Paper_hasEntry_40 : decode b_Paper_hasEntry 40 = .ok (.ireturn, 1) := by decide +kernel
set_option maxHeartbeats 4000000 in
set_option maxRecDepth 100000 in
theorem p_Paper_hasEntry (l : Launch) (dC : Nat → ClassId) (dI : Nat → Nat → Nat) (sb : sB) (γ : cG) (κ : kE) (Ad : List Nat) (ν : Nat → cN) (ω : Nat → List Nat) (L : Nat) (G : va_W) (h g : Nat) (K z : Nat) (hTy : TY γ κ Ad ν ω L G) (kh : tK κ Ad h (9, K, 0)) (kg : tK κ Ad g (2, z, 1))  : Met l y_Paper_hasEntry w_Paper_hasEntry ({ frames := 3, cells := 0, slots := 0, locals := 65 }) (pu_P [.ref h, .ref g] (dC, dI) sb G [(γ.1, .byte), (γ.2.1, .int), (γ.2.2.1, .long), (γ.2.2.2, .object "java/lang/Object")]) (vp_Si (fun r => r = zP (sO κ ω g ∈ lO κ ω ((ω h).getD 4 0)))) 0 0 (fun _ => False) := by
  refine Met.ofW (cc := b_Paper_hasEntry) (maxL := 3) (ret := (some FieldType.boolean)) (by decide) rfl ?_
  intro p e s m args below meth c s₁ B hml hv
  obtain ⟨rfl, hP, hK, hN, hT0⟩ := hv
  have hx := B.exec
  have hb := B.bytes
  have hr := B.returns
  have hts := atoms_spec (ws := w_Paper_hasEntry) B.pre
  have tbin : ∀ w ∈ tb, w ∈ w_Paper_hasEntry := fun w h => List.mem_cons_of_mem _ h
  have htb : ∀ w ∈ tb, w.before _ s = true := fun w h => hts w (tbin w h)
  have hown : s.vm.findClass "TrustChain$Paper" = some m.cls := findClass_of_methodNamed B.named
  have hlocks := B.notSynchronized
  have hl := lv_entry ([.ref h, .ref g]) (n := 3) (Nat.le_of_ble_eq_true rfl)
  rw [lg_entry_eq]
  generalize (lg_sl ([.ref h, .ref g]) ++ List.replicate (3 - (lg_sl ([.ref h, .ref g])).length) Slot.unset).toArray = ls at hl ⊢
  have hl : lv_has ls 3 [(0, .ref h), (1, .ref g)] := hl
  refine lv_iconst (v := 0) hx hb d_Paper_hasEntry_0 (by decide) ?_
  refine lv_istore_n (lv' := [(2, .int 0), (0, .ref h), (1, .ref g)]) hx hb d_Paper_hasEntry_1 rfl hl (by decide) rfl (fun ls hl => ?_)
  refine w_loop (α := Nat) (fun z9 => z9 ≤ K ∧ ∀ i9, i9 < z9 → ¬ (sO κ ω ((ω ((ω ((ω h).getD 4 0)).getD 0 0)).getD i9 0) = sO κ ω g)) (fun z9 => K - z9) (fun z9 => [(2, .int (nI z9)), (0, .ref h), (1, .ref g)]) (fun _ => []) 3 2 (fun z9 ls hJ hl ih2 => ?_) 0 ls (⟨Nat.zero_le _, fun i9 h9 => absurd h9 (Nat.not_lt_zero i9)⟩) (lv_sub hl [0, 1, 2] rfl)
  have hz9 := hJ.1
  refine lv_iload_n hx hb d_Paper_hasEntry_2 rfl (lv_at hl 0 rfl) ?_
  refine lv_aload_n hx hb d_Paper_hasEntry_3 rfl (lv_at hl 1 rfl) ?_
  obtain ⟨i_1, bo_1, ⟨kha_1, ksi_1, ken_1, ksg_1, kis_1⟩, kbo_1, hg_1⟩ := ty_9x hTy kh
  have ksg_1 := tK.two ksg_1
  have kis_1 := tK.two kis_1
  refine va_get (v := .ref ((ω h).getD 4 0)) hx hb htb i_Paper hown hK hP i_1 hg_1 rfl 2 (by decide) (htb _ q2_199) (fun _ h9 => h9) rfl d_Paper_hasEntry_4 ?_
  obtain ⟨i_2, m_2, hK_2, he_2, hg_2⟩ := ty_4x hTy ken_1
  refine vp_callSi (pu_callV (As := []) (rest := [.int (nI z9)]) ⟨hx, hb, hml, hown, hts⟩ tbin (c_AL_size l dC dI sb ((ω h).getD 4 0) ((ω ((ω h).getD 4 0)).getD 0 0) K m_2) q6_77 q2_54 q2_55 q1_4 q2_56 (n := 0) (by decide +kernel) rfl ⟨rfl, rfl⟩ ⟨Nat.le_of_ble_eq_true rfl, Nat.le_of_ble_eq_true rfl⟩ ⟨Nat.le_of_ble_eq_true rfl, Nat.le_of_ble_eq_true rfl⟩ hN hT0 hK hP [i_2] (by simp only [List.filterMap_cons, List.filterMap_nil, hg_2]) [] rfl i_2 11 hg_2 rfl rfl hl.1 rfl (Nat.le_of_ble_eq_true rfl) d_Paper_hasEntry_7) (fun r7 hr7 => ?_)
  subst hr7
  refine lv_icmp_ge (tgt := 39) hx hb d_Paper_hasEntry_10 (by decide) (fun c10 => ?_) (fun c10 => ?_)
  · have p10 : K ≤ z9 := ((nI_leI (a := K) (b := z9) (by omega) (by omega)).mp c10)
    refine lv_iconst (v := 0) hx hb d_Paper_hasEntry_39 (by decide) ?_
    exact W.zret (v := 0) hx hb hr rfl (fun t ht hW => ⟨_, rfl, zP_f (fun h8 => lO_all (P := fun t => ¬ t = sO κ ω g) ken_1 (fun i hi => hJ.2 i (by omega)) _ h8 rfl), ht⟩) (fun q h => by cases h) d_Paper_hasEntry_40
  · have p10 : ¬ (K ≤ z9) := (fun q9 => c10 ((nI_leI (a := K) (b := z9) (by omega) (by omega)).mpr q9))
    refine lv_aload_n hx hb d_Paper_hasEntry_13 rfl (lv_at hl 1 rfl) ?_
    refine va_get (v := .ref ((ω h).getD 4 0)) hx hb htb i_Paper hown hK hP i_1 hg_1 rfl 2 (by decide) (htb _ q2_199) (fun _ h9 => h9) rfl d_Paper_hasEntry_14 ?_
    refine lv_iload_n hx hb d_Paper_hasEntry_17 rfl (lv_at hl 0 rfl) ?_
    obtain ⟨cap_3, kq_3⟩ := he_2 (by omega)
    obtain ⟨i_4, f_4, hK_4, hc_4, he_4, hg_4⟩ := ty_3x hTy kq_3
    obtain ⟨hf_3, ks_3⟩ := he_4 z9 (by omega)
    have ks_3 := tK.two ks_3
    refine va_csr (pu_callV (As := [.int (nI z9)]) (rest := []) ⟨hx, hb, hml, hown, hts⟩ tbin (c_AL_get l dC dI sb ((ω h).getD 4 0) ((ω ((ω h).getD 4 0)).getD 0 0) K cap_3 z9 ((ω ((ω ((ω h).getD 4 0)).getD 0 0)).getD z9 0) m_2 γ.2.2.2 f_4 (by omega) hK_4 (by omega) hf_3) q6_78 q4_210 q4_211 q1_4 q4_212 (n := 1) (by decide +kernel) rfl ⟨rfl, rfl⟩ ⟨Nat.le_of_ble_eq_true rfl, Nat.le_of_ble_eq_true rfl⟩ ⟨Nat.le_of_ble_eq_true rfl, Nat.le_of_ble_eq_true rfl⟩ hN hT0 hK hP [i_2, i_4] (by simp only [List.filterMap_cons, List.filterMap_nil, hg_2, hg_4]) [3] rfl i_2 11 hg_2 rfl rfl hl.1 rfl (Nat.le_of_ble_eq_true rfl) d_Paper_hasEntry_18) (fun r18 hr18 => ?_)
    obtain rfl := Eq.symm hr18
    obtain ⟨i_5, t_5, n_5, f_5, kt_5, hb_5, hm_5, hw_5, hg_5⟩ := ty_2x hTy ks_3
    refine va_castY (C := "TrustChain$Slice") hx hb hown (htb _ q6_79) (hN.1 _ qn9_222) (va_recv (ci := 0) hK hP rfl hg_5) d_Paper_hasEntry_21 ?_
    refine lv_aload_n hx hb d_Paper_hasEntry_24 rfl (lv_at hl 2 rfl) ?_
    obtain ⟨i_6, u_6, hu_6, hc_6, hn_6, hg_6⟩ := ty_1x hTy kt_5
    obtain ⟨i_7, t_7, n_7, f_7, kt_7, hb_7, hm_7, hw_7, hg_7⟩ := ty_2x hTy kg
    obtain ⟨i_8, u_8, hu_8, hc_8, hn_8, hg_8⟩ := ty_1x hTy kt_7
    refine vp_callSi (pu_callV (As := [.ref g]) (rest := []) ⟨hx, hb, hml, hown, hts⟩ tbin (c_Slice_same l dC dI sb ((ω ((ω ((ω h).getD 4 0)).getD 0 0)).getD z9 0) g t_5 t_7 f_5 (f_5 + ((κ ((ω ((ω ((ω h).getD 4 0)).getD 0 0)).getD z9 0)).2.1)) n_5 f_7 (f_7 + z) n_7 γ.1 γ.1 u_6 u_8 hu_6 (by omega) (by omega) (by omega) hu_8 (by omega) (by omega) (by omega)) q6_80 q4_27 q4_28 q1_22 q4_29 (n := 1) (by decide +kernel) rfl ⟨rfl, rfl⟩ ⟨Nat.le_of_ble_eq_true rfl, Nat.le_of_ble_eq_true rfl⟩ ⟨Nat.le_of_ble_eq_true rfl, Nat.le_of_ble_eq_true rfl⟩ hN hT0 hK hP [i_5, i_6, i_7, i_8] (by simp only [List.filterMap_cons, List.filterMap_nil, hg_5, hg_6, hg_7, hg_8]) [0, 0] rfl i_5 0 hg_5 rfl rfl hl.1 rfl (Nat.le_of_ble_eq_true rfl) d_Paper_hasEntry_25) (fun r25 hr25 => ?_)
    have hr25 := bz_c hr25 (sO_same ks_3 hw_5 hc_6 hb_5 kg hw_7 hc_8 hb_7)
    obtain rfl := Eq.symm (bz_zP hr25)
    refine lv_if_eq (tgt := 33) hx hb d_Paper_hasEntry_28 (by decide) (fun c28 => ?_) (fun c28 => ?_)
    · have p28 : ¬ (sO κ ω ((ω ((ω ((ω h).getD 4 0)).getD 0 0)).getD z9 0) = sO κ ω g) := (zP_0.mp c28)
      refine lv_iinc (v := nI (z9 + 1)) (lv' := [(2, .int (nI (z9 + 1))), (0, .ref h), (1, .ref g)]) hx hb d_Paper_hasEntry_33 hl (k := 0) rfl (nI_1 _) (by decide) rfl (fun ls hl => ?_)
      refine lv_goto (tgt := 2) hx hb d_Paper_hasEntry_36 (by decide) ?_
      exact ih2 (z9 + 1) ls (by omega) (⟨by omega, fun i9 h9 => (Nat.lt_succ_iff_lt_or_eq.mp h9).elim (hJ.2 i9) (fun e9 => by subst e9; exact p28)⟩) (lv_sub hl [0, 1, 2] rfl)
    · have p28 : sO κ ω ((ω ((ω ((ω h).getD 4 0)).getD 0 0)).getD z9 0) = sO κ ω g := (zP_1 c28)
      refine lv_iconst (v := 1) hx hb d_Paper_hasEntry_31 (by decide) ?_
      exact W.zret (v := 1) hx hb hr rfl (fun t ht hW => ⟨_, rfl, zP_t (by have h9 := lO_mem (κ := κ) (ω := ω) ken_1 (show z9 < K by omega); rw [p28] at h9; exact h9), ht⟩) (fun q h => by cases h) d_Paper_hasEntry_32
def y_Certificate_mayFollow : MethodName := ⟨"TrustChain$Certificate", "mayFollow", "(LTrustChain$Certificate;)Z"⟩
abbrev b_Certificate_mayFollow : ByteArray := prog_2_method_2_code
def w_Certificate_mayFollow : List Cond := Cond.code y_Certificate_mayFollow b_Certificate_mayFollow 3 ((some FieldType.boolean)) :: tb
theorem d_Certificate_mayFollow_0 : decode b_Certificate_mayFollow 0 = .ok (.aload_n 0, 1) := by decide +kernel
theorem d_Certificate_mayFollow_1 : decode b_Certificate_mayFollow 1 = .ok (.getfield 71, 3) := by decide +kernel
theorem d_Certificate_mayFollow_4 : decode b_Certificate_mayFollow 4 = .ok (.invokevirtual 77, 3) := by decide +kernel
theorem d_Certificate_mayFollow_7 : decode b_Certificate_mayFollow 7 = .ok (.ifCond .le 17, 3) := by decide +kernel
theorem d_Certificate_mayFollow_10 : decode b_Certificate_mayFollow 10 = .ok (.aload_n 1, 1) := by decide +kernel
theorem d_Certificate_mayFollow_11 : decode b_Certificate_mayFollow 11 = .ok (.getfield 74, 3) := by decide +kernel
theorem d_Certificate_mayFollow_14 : decode b_Certificate_mayFollow 14 = .ok (.invokevirtual 77, 3) := by decide +kernel
theorem d_Certificate_mayFollow_17 : decode b_Certificate_mayFollow 17 = .ok (.ifCond .le 7, 3) := by decide +kernel
theorem d_Certificate_mayFollow_20 : decode b_Certificate_mayFollow 20 = .ok (.iconst 1, 1) := by decide +kernel
theorem d_Certificate_mayFollow_21 : decode b_Certificate_mayFollow 21 = .ok (.goto 4, 3) := by decide +kernel
theorem d_Certificate_mayFollow_24 : decode b_Certificate_mayFollow 24 = .ok (.iconst 0, 1) := by decide +kernel
theorem d_Certificate_mayFollow_25 : decode b_Certificate_mayFollow 25 = .ok (.istore_n 2, 1) := by decide +kernel
theorem d_Certificate_mayFollow_26 : decode b_Certificate_mayFollow 26 = .ok (.aload_n 0, 1) := by decide +kernel
theorem d_Certificate_mayFollow_27 : decode b_Certificate_mayFollow 27 = .ok (.getfield 65, 3) := by decide +kernel
theorem d_Certificate_mayFollow_30 : decode b_Certificate_mayFollow 30 = .ok (.aload_n 1, 1) := by decide +kernel
theorem d_Certificate_mayFollow_31 : decode b_Certificate_mayFollow 31 = .ok (.getfield 83, 3) := by decide +kernel
theorem d_Certificate_mayFollow_34 : decode b_Certificate_mayFollow 34 = .ok (.invokevirtual 86, 3) := by decide +kernel
theorem d_Certificate_mayFollow_37 : decode b_Certificate_mayFollow 37 = .ok (.ifCond .eq 25, 3) := by decide +kernel
theorem d_Certificate_mayFollow_40 : decode b_Certificate_mayFollow 40 = .ok (.iload_n 2, 1) := by decide +kernel
theorem d_Certificate_mayFollow_41 : decode b_Certificate_mayFollow 41 = .ok (.ifCond .eq 17, 3) := by decide +kernel
theorem d_Certificate_mayFollow_44 : decode b_Certificate_mayFollow 44 = .ok (.aload_n 0, 1) := by decide +kernel
theorem d_Certificate_mayFollow_45 : decode b_Certificate_mayFollow 45 = .ok (.getfield 71, 3) := by decide +kernel
theorem d_Certificate_mayFollow_48 : decode b_Certificate_mayFollow 48 = .ok (.aload_n 1, 1) := by decide +kernel
theorem d_Certificate_mayFollow_49 : decode b_Certificate_mayFollow 49 = .ok (.getfield 74, 3) := by decide +kernel
theorem d_Certificate_mayFollow_52 : decode b_Certificate_mayFollow 52 = .ok (.invokevirtual 86, 3) := by decide +kernel
theorem d_Certificate_mayFollow_55 : decode b_Certificate_mayFollow 55 = .ok (.ifCond .eq 7, 3) := by decide +kernel
theorem d_Certificate_mayFollow_58 : decode b_Certificate_mayFollow 58 = .ok (.iconst 1, 1) := by decide +kernel
theorem d_Certificate_mayFollow_59 : decode b_Certificate_mayFollow 59 = .ok (.goto 4, 3) := by decide +kernel
theorem d_Certificate_mayFollow_62 : decode b_Certificate_mayFollow 62 = .ok (.iconst 0, 1) := by decide +kernel
theorem d_Certificate_mayFollow_63 : decode b_Certificate_mayFollow 63 = .ok (.ireturn, 1) := by decide +kernel
set_option maxHeartbeats 4000000 in
set_option maxRecDepth 100000 in
theorem p_Certificate_mayFollow (l : Launch) (dC : Nat → ClassId) (dI : Nat → Nat → Nat) (sb : sB) (γ : cG) (κ : kE) (Ad : List Nat) (ν : Nat → cN) (ω : Nat → List Nat) (L : Nat) (G : va_W) (h g : Nat) (K len K2 len2 : Nat) (hTy : TY γ κ Ad ν ω L G) (kh : tK κ Ad h (8, K, len)) (kg : tK κ Ad g (8, K2, len2))  : Met l y_Certificate_mayFollow w_Certificate_mayFollow ({ frames := 3, cells := 0, slots := 0, locals := 65 }) (pu_P [.ref h, .ref g] (dC, dI) sb G [(γ.1, .byte), (γ.2.1, .int), (γ.2.2.1, .long), (γ.2.2.2, .object "java/lang/Object")]) (vp_Si (fun r => r = zP (folQ (cO κ ν ω h) (cO κ ν ω g)))) 0 0 (fun _ => False) := by
  refine Met.ofW (cc := b_Certificate_mayFollow) (maxL := 3) (ret := (some FieldType.boolean)) (by decide) rfl ?_
  intro p e s m args below meth c s₁ B hml hv
  obtain ⟨rfl, hP, hK, hN, hT0⟩ := hv
  have hx := B.exec
  have hb := B.bytes
  have hr := B.returns
  have hts := atoms_spec (ws := w_Certificate_mayFollow) B.pre
  have tbin : ∀ w ∈ tb, w ∈ w_Certificate_mayFollow := fun w h => List.mem_cons_of_mem _ h
  have htb : ∀ w ∈ tb, w.before _ s = true := fun w h => hts w (tbin w h)
  have hown : s.vm.findClass "TrustChain$Certificate" = some m.cls := findClass_of_methodNamed B.named
  have hlocks := B.notSynchronized
  have hl := lv_entry ([.ref h, .ref g]) (n := 3) (Nat.le_of_ble_eq_true rfl)
  rw [lg_entry_eq]
  generalize (lg_sl ([.ref h, .ref g]) ++ List.replicate (3 - (lg_sl ([.ref h, .ref g])).length) Slot.unset).toArray = ls at hl ⊢
  have hl : lv_has ls 3 [(0, .ref h), (1, .ref g)] := hl
  refine lv_aload_n hx hb d_Certificate_mayFollow_0 rfl (lv_at hl 0 rfl) ?_
  obtain ⟨i_1, bo_1, K_1, B_1, kbo_1, wl_1, hg_1⟩ := ty_8x hTy kh
  obtain ⟨⟨A_1, knm_1⟩, kpe_1, kec_1, kse_1, ksu_1, kmo_1, kok_1, kik_1, kha_1, ksi_1, ken_1, ksg_1, kis_1⟩ := K_1
  have knm_1 := tK.fiv ⟨_, _, knm_1⟩
  have kpe_1 := tK.fiv kpe_1
  have kec_1 := tK.fiv kec_1
  have ksu_1 := tK.two ksu_1
  have kmo_1 := tK.two kmo_1
  have kok_1 := tK.two kok_1
  have kik_1 := tK.two kik_1
  have ksg_1 := tK.two ksg_1
  have kis_1 := tK.two kis_1
  refine va_get (v := .ref ((ω h).getD 9 0)) hx hb htb i_Certificate hown hK hP i_1 hg_1 rfl 6 (by decide) (htb _ q2_156) (fun _ h9 => h9) rfl d_Certificate_mayFollow_1 ?_
  obtain ⟨i_2, t_2, n_2, f_2, kt_2, hb_2, hm_2, hw_2, hg_2⟩ := ty_2x hTy kok_1
  refine vp_callSi (pu_callV (As := []) (rest := []) ⟨hx, hb, hml, hown, hts⟩ tbin (c_Slice_length l dC dI sb ((ω h).getD 9 0) t_2 f_2 (f_2 + ((κ ((ω h).getD 9 0)).2.1)) (by omega)) q5_45 q3_144 q3_145 q1_22 q3_146 (n := 0) (by decide +kernel) rfl ⟨rfl, rfl⟩ ⟨Nat.le_of_ble_eq_true rfl, Nat.le_of_ble_eq_true rfl⟩ ⟨Nat.le_of_ble_eq_true rfl, Nat.le_of_ble_eq_true rfl⟩ hN hT0 hK hP [i_2] (by simp only [List.filterMap_cons, List.filterMap_nil, hg_2]) [] rfl i_2 0 hg_2 rfl rfl hl.1 rfl (Nat.le_of_ble_eq_true rfl) d_Certificate_mayFollow_4) (fun r4 hr4 => ?_)
  rw [show (f_2 + ((κ ((ω h).getD 9 0)).2.1)) - f_2 = (κ ((ω h).getD 9 0)).2.1 by omega] at hr4
  subst hr4
  refine w_join (J := fun v9 => v9 = zP (¬ (((κ ((ω h).getD 9 0)).2.1) ≤ 0) ∧ (¬ (((κ ((ω g).getD 10 0)).2.1) ≤ 0)))) (pc := 25) (ls := ls) (rest := []) (fun v9 hv9 => ?_) (fun k25 => ?_)
  · subst hv9
    refine lv_istore_n (lv' := [(2, .int (zP (¬ (((κ ((ω h).getD 9 0)).2.1) ≤ 0) ∧ (¬ (((κ ((ω g).getD 10 0)).2.1) ≤ 0))))), (0, .ref h), (1, .ref g)]) hx hb d_Certificate_mayFollow_25 rfl hl (by decide) rfl (fun ls hl => ?_)
    refine lv_aload_n hx hb d_Certificate_mayFollow_26 rfl (lv_at hl 1 rfl) ?_
    refine va_get (v := .ref ((ω h).getD 8 0)) hx hb htb i_Certificate hown hK hP i_1 hg_1 rfl 4 (by decide) (htb _ q2_150) (fun _ h9 => h9) rfl d_Certificate_mayFollow_27 ?_
    refine lv_aload_n hx hb d_Certificate_mayFollow_30 rfl (lv_at hl 2 rfl) ?_
    obtain ⟨i_3, bo_3, K_3, B_3, kbo_3, wl_3, hg_3⟩ := ty_8x hTy kg
    obtain ⟨⟨A_3, knm_3⟩, kpe_3, kec_3, kse_3, ksu_3, kmo_3, kok_3, kik_3, kha_3, ksi_3, ken_3, ksg_3, kis_3⟩ := K_3
    have knm_3 := tK.fiv ⟨_, _, knm_3⟩
    have kpe_3 := tK.fiv kpe_3
    have kec_3 := tK.fiv kec_3
    have ksu_3 := tK.two ksu_3
    have kmo_3 := tK.two kmo_3
    have kok_3 := tK.two kok_3
    have kik_3 := tK.two kik_3
    have ksg_3 := tK.two ksg_3
    have kis_3 := tK.two kis_3
    refine va_get (v := .ref ((ω g).getD 11 0)) hx hb htb i_Certificate hown hK hP i_3 hg_3 rfl 24 (by decide) (htb _ q2_212) (fun x9 h9 => u_same (htb _ q2_213) x9 h9) rfl d_Certificate_mayFollow_31 ?_
    obtain ⟨i_4, t_4, n_4, f_4, kt_4, hb_4, hm_4, hw_4, hg_4⟩ := ty_2x hTy ksu_1
    obtain ⟨i_5, u_5, hu_5, hc_5, hn_5, hg_5⟩ := ty_1x hTy kt_4
    obtain ⟨i_6, t_6, n_6, f_6, kt_6, hb_6, hm_6, hw_6, hg_6⟩ := ty_2x hTy kis_3
    obtain ⟨i_7, u_7, hu_7, hc_7, hn_7, hg_7⟩ := ty_1x hTy kt_6
    refine vp_callSi (pu_callV (As := [.ref ((ω g).getD 11 0)]) (rest := []) ⟨hx, hb, hml, hown, hts⟩ tbin (c_Slice_same l dC dI sb ((ω h).getD 8 0) ((ω g).getD 11 0) t_4 t_6 f_4 (f_4 + ((κ ((ω h).getD 8 0)).2.1)) n_4 f_6 (f_6 + ((κ ((ω g).getD 11 0)).2.1)) n_6 γ.1 γ.1 u_5 u_7 hu_5 (by omega) (by omega) (by omega) hu_7 (by omega) (by omega) (by omega)) q5_46 q4_27 q4_28 q1_22 q4_29 (n := 1) (by decide +kernel) rfl ⟨rfl, rfl⟩ ⟨Nat.le_of_ble_eq_true rfl, Nat.le_of_ble_eq_true rfl⟩ ⟨Nat.le_of_ble_eq_true rfl, Nat.le_of_ble_eq_true rfl⟩ hN hT0 hK hP [i_4, i_5, i_6, i_7] (by simp only [List.filterMap_cons, List.filterMap_nil, hg_4, hg_5, hg_6, hg_7]) [0, 0] rfl i_4 0 hg_4 rfl rfl hl.1 rfl (Nat.le_of_ble_eq_true rfl) d_Certificate_mayFollow_34) (fun r34 hr34 => ?_)
    have hr34 := bz_c hr34 (sO_same ksu_1 hw_4 hc_5 hb_4 kis_3 hw_6 hc_7 hb_6)
    obtain rfl := Eq.symm (bz_zP hr34)
    refine w_join (J := fun v9 => v9 = zP ((sO κ ω ((ω h).getD 8 0) = sO κ ω ((ω g).getD 11 0)) ∧ (¬ (¬ (((κ ((ω h).getD 9 0)).2.1) ≤ 0) ∧ (¬ (((κ ((ω g).getD 10 0)).2.1) ≤ 0))) ∨ (sO κ ω ((ω h).getD 9 0) = sO κ ω ((ω g).getD 10 0))))) (pc := 63) (ls := ls) (rest := []) (fun v9 hv9 => ?_) (fun k63 => ?_)
    · subst hv9
      exact W.zret (v := zP ((sO κ ω ((ω h).getD 8 0) = sO κ ω ((ω g).getD 11 0)) ∧ (¬ (¬ (((κ ((ω h).getD 9 0)).2.1) ≤ 0) ∧ (¬ (((κ ((ω g).getD 10 0)).2.1) ≤ 0))) ∨ (sO κ ω ((ω h).getD 9 0) = sO κ ω ((ω g).getD 10 0))))) hx hb hr (zP_n _) (fun t ht hW => ⟨_, rfl, zP_g (fol_c (sO_nil (κ := κ) (ω := ω) ((ω h).getD 9 0)) (sO_nil (κ := κ) (ω := ω) ((ω g).getD 10 0))), ht⟩) (fun q h => by cases h) d_Certificate_mayFollow_63
    · skip
      refine lv_if_eq (tgt := 62) hx hb d_Certificate_mayFollow_37 (by decide) (fun c37 => ?_) (fun c37 => ?_)
      · have p37 : ¬ (sO κ ω ((ω h).getD 8 0) = sO κ ω ((ω g).getD 11 0)) := (zP_0.mp c37)
        refine lv_iconst (v := 0) hx hb d_Certificate_mayFollow_62 (by decide) ?_
        exact k63 _ (zP_f (fun z => p37 z.1))
      · have p37 : sO κ ω ((ω h).getD 8 0) = sO κ ω ((ω g).getD 11 0) := (zP_1 c37)
        refine lv_iload_n hx hb d_Certificate_mayFollow_40 rfl (lv_at hl 0 rfl) ?_
        refine lv_if_eq (tgt := 58) hx hb d_Certificate_mayFollow_41 (by decide) (fun c41 => ?_) (fun c41 => ?_)
        · have p41 : ¬ (¬ (((κ ((ω h).getD 9 0)).2.1) ≤ 0) ∧ (¬ (((κ ((ω g).getD 10 0)).2.1) ≤ 0))) := (zP_0.mp c41)
          refine lv_iconst (v := 1) hx hb d_Certificate_mayFollow_58 (by decide) ?_
          refine lv_goto (tgt := 63) hx hb d_Certificate_mayFollow_59 (by decide) ?_
          exact k63 _ (zP_t ⟨p37, (Or.inl p41)⟩)
        · have p41 : ¬ (((κ ((ω h).getD 9 0)).2.1) ≤ 0) ∧ (¬ (((κ ((ω g).getD 10 0)).2.1) ≤ 0)) := (zP_1 c41)
          refine lv_aload_n hx hb d_Certificate_mayFollow_44 rfl (lv_at hl 1 rfl) ?_
          refine va_get (v := .ref ((ω h).getD 9 0)) hx hb htb i_Certificate hown hK hP i_1 hg_1 rfl 6 (by decide) (htb _ q2_156) (fun _ h9 => h9) rfl d_Certificate_mayFollow_45 ?_
          refine lv_aload_n hx hb d_Certificate_mayFollow_48 rfl (lv_at hl 2 rfl) ?_
          refine va_get (v := .ref ((ω g).getD 10 0)) hx hb htb i_Certificate hown hK hP i_3 hg_3 rfl 7 (by decide) (htb _ q2_158) (fun _ h9 => h9) rfl d_Certificate_mayFollow_49 ?_
          obtain ⟨i_8, u_8, hu_8, hc_8, hn_8, hg_8⟩ := ty_1x hTy kt_2
          obtain ⟨i_9, t_9, n_9, f_9, kt_9, hb_9, hm_9, hw_9, hg_9⟩ := ty_2x hTy kik_3
          obtain ⟨i_10, u_10, hu_10, hc_10, hn_10, hg_10⟩ := ty_1x hTy kt_9
          refine vp_callSi (pu_callV (As := [.ref ((ω g).getD 10 0)]) (rest := []) ⟨hx, hb, hml, hown, hts⟩ tbin (c_Slice_same l dC dI sb ((ω h).getD 9 0) ((ω g).getD 10 0) t_2 t_9 f_2 (f_2 + ((κ ((ω h).getD 9 0)).2.1)) n_2 f_9 (f_9 + ((κ ((ω g).getD 10 0)).2.1)) n_9 γ.1 γ.1 u_8 u_10 hu_8 (by omega) (by omega) (by omega) hu_10 (by omega) (by omega) (by omega)) q5_46 q4_27 q4_28 q1_22 q4_29 (n := 1) (by decide +kernel) rfl ⟨rfl, rfl⟩ ⟨Nat.le_of_ble_eq_true rfl, Nat.le_of_ble_eq_true rfl⟩ ⟨Nat.le_of_ble_eq_true rfl, Nat.le_of_ble_eq_true rfl⟩ hN hT0 hK hP [i_2, i_8, i_9, i_10] (by simp only [List.filterMap_cons, List.filterMap_nil, hg_2, hg_8, hg_9, hg_10]) [0, 0] rfl i_2 0 hg_2 rfl rfl hl.1 rfl (Nat.le_of_ble_eq_true rfl) d_Certificate_mayFollow_52) (fun r52 hr52 => ?_)
          have hr52 := bz_c hr52 (sO_same kok_1 hw_2 hc_8 hb_2 kik_3 hw_9 hc_10 hb_9)
          obtain rfl := Eq.symm (bz_zP hr52)
          refine lv_if_eq (tgt := 62) hx hb d_Certificate_mayFollow_55 (by decide) (fun c55 => ?_) (fun c55 => ?_)
          · have p55 : ¬ (sO κ ω ((ω h).getD 9 0) = sO κ ω ((ω g).getD 10 0)) := (zP_0.mp c55)
            refine lv_iconst (v := 0) hx hb d_Certificate_mayFollow_62 (by decide) ?_
            exact k63 _ (zP_f (fun z => (fun z => z.elim (fun q => q p41) p55) z.2))
          · have p55 : sO κ ω ((ω h).getD 9 0) = sO κ ω ((ω g).getD 10 0) := (zP_1 c55)
            refine lv_iconst (v := 1) hx hb d_Certificate_mayFollow_58 (by decide) ?_
            refine lv_goto (tgt := 63) hx hb d_Certificate_mayFollow_59 (by decide) ?_
            exact k63 _ (zP_t ⟨p37, (Or.inr p55)⟩)
  · skip
    refine lv_if_le (tgt := 24) hx hb d_Certificate_mayFollow_7 (by decide) (fun c7 => ?_) (fun c7 => ?_)
    · have p7 : ((κ ((ω h).getD 9 0)).2.1) ≤ 0 := ((nI_leI (a := ((κ ((ω h).getD 9 0)).2.1)) (b := 0) (by omega) (by omega)).mp c7)
      refine lv_iconst (v := 0) hx hb d_Certificate_mayFollow_24 (by decide) ?_
      exact k25 _ (zP_f (fun z => z.1 p7))
    · have p7 : ¬ (((κ ((ω h).getD 9 0)).2.1) ≤ 0) := (fun q9 => c7 ((nI_leI (a := ((κ ((ω h).getD 9 0)).2.1)) (b := 0) (by omega) (by omega)).mpr q9))
      refine lv_aload_n hx hb d_Certificate_mayFollow_10 rfl (lv_at hl 1 rfl) ?_
      obtain ⟨i_11, bo_11, K_11, B_11, kbo_11, wl_11, hg_11⟩ := ty_8x hTy kg
      obtain ⟨⟨A_11, knm_11⟩, kpe_11, kec_11, kse_11, ksu_11, kmo_11, kok_11, kik_11, kha_11, ksi_11, ken_11, ksg_11, kis_11⟩ := K_11
      have knm_11 := tK.fiv ⟨_, _, knm_11⟩
      have kpe_11 := tK.fiv kpe_11
      have kec_11 := tK.fiv kec_11
      have ksu_11 := tK.two ksu_11
      have kmo_11 := tK.two kmo_11
      have kok_11 := tK.two kok_11
      have kik_11 := tK.two kik_11
      have ksg_11 := tK.two ksg_11
      have kis_11 := tK.two kis_11
      refine va_get (v := .ref ((ω g).getD 10 0)) hx hb htb i_Certificate hown hK hP i_11 hg_11 rfl 7 (by decide) (htb _ q2_158) (fun _ h9 => h9) rfl d_Certificate_mayFollow_11 ?_
      obtain ⟨i_12, t_12, n_12, f_12, kt_12, hb_12, hm_12, hw_12, hg_12⟩ := ty_2x hTy kik_11
      refine vp_callSi (pu_callV (As := []) (rest := []) ⟨hx, hb, hml, hown, hts⟩ tbin (c_Slice_length l dC dI sb ((ω g).getD 10 0) t_12 f_12 (f_12 + ((κ ((ω g).getD 10 0)).2.1)) (by omega)) q5_45 q3_144 q3_145 q1_22 q3_146 (n := 0) (by decide +kernel) rfl ⟨rfl, rfl⟩ ⟨Nat.le_of_ble_eq_true rfl, Nat.le_of_ble_eq_true rfl⟩ ⟨Nat.le_of_ble_eq_true rfl, Nat.le_of_ble_eq_true rfl⟩ hN hT0 hK hP [i_12] (by simp only [List.filterMap_cons, List.filterMap_nil, hg_12]) [] rfl i_12 0 hg_12 rfl rfl hl.1 rfl (Nat.le_of_ble_eq_true rfl) d_Certificate_mayFollow_14) (fun r14 hr14 => ?_)
      rw [show (f_12 + ((κ ((ω g).getD 10 0)).2.1)) - f_12 = (κ ((ω g).getD 10 0)).2.1 by omega] at hr14
      subst hr14
      refine lv_if_le (tgt := 24) hx hb d_Certificate_mayFollow_17 (by decide) (fun c17 => ?_) (fun c17 => ?_)
      · have p17 : ((κ ((ω g).getD 10 0)).2.1) ≤ 0 := ((nI_leI (a := ((κ ((ω g).getD 10 0)).2.1)) (b := 0) (by omega) (by omega)).mp c17)
        refine lv_iconst (v := 0) hx hb d_Certificate_mayFollow_24 (by decide) ?_
        exact k25 _ (zP_f (fun z => (fun z => z p17) z.2))
      · have p17 : ¬ (((κ ((ω g).getD 10 0)).2.1) ≤ 0) := (fun q9 => c17 ((nI_leI (a := ((κ ((ω g).getD 10 0)).2.1)) (b := 0) (by omega) (by omega)).mpr q9))
        refine lv_iconst (v := 1) hx hb d_Certificate_mayFollow_20 (by decide) ?_
        refine lv_goto (tgt := 25) hx hb d_Certificate_mayFollow_21 (by decide) ?_
        exact k25 _ (zP_t ⟨p7, p17⟩)
set_option maxHeartbeats 4000000 in
set_option maxRecDepth 100000 in
theorem p_Certificate_mayUse (l : Launch) (dC : Nat → ClassId) (dI : Nat → Nat → Nat) (sb : sB) (γ : cG) (κ : kE) (Ad : List Nat) (ν : Nat → cN) (ω : Nat → List Nat) (L : Nat) (G : va_W) (h : Nat) (K len : Nat) (x : Int32) (hTy : TY γ κ Ad ν ω L G) (kh : tK κ Ad h (8, K, len)) (hx9 : x &&& 31 = x) : Met l y_Certificate_mayUse w_Certificate_mayUse ({ frames := 0, cells := 0, slots := 0, locals := 0 }) (pu_P [.ref h, .int x] (dC, dI) sb G [(γ.1, .byte), (γ.2.1, .int), (γ.2.2.1, .long), (γ.2.2.2, .object "java/lang/Object")]) (vp_Si (fun r => r = zP (useQ (ν h).2.2.2.2.2.1 x))) 0 0 (fun _ => False) := by
  refine Met.ofW (cc := b_Certificate_mayUse) (maxL := 2) (ret := (some FieldType.boolean)) (by decide) rfl ?_
  intro p e s m args below meth c s₁ B hml hv
  obtain ⟨rfl, hP, hK, hN, hT0⟩ := hv
  have hx := B.exec
  have hb := B.bytes
  have hr := B.returns
  have hts := atoms_spec (ws := w_Certificate_mayUse) B.pre
  have tbin : ∀ w ∈ tb, w ∈ w_Certificate_mayUse := fun w h => List.mem_cons_of_mem _ h
  have htb : ∀ w ∈ tb, w.before _ s = true := fun w h => hts w (tbin w h)
  have hown : s.vm.findClass "TrustChain$Certificate" = some m.cls := findClass_of_methodNamed B.named
  have hlocks := B.notSynchronized
  have hl := lv_entry ([.ref h, .int x]) (n := 2) (Nat.le_of_ble_eq_true rfl)
  rw [lg_entry_eq]
  generalize (lg_sl ([.ref h, .int x]) ++ List.replicate (2 - (lg_sl ([.ref h, .int x])).length) Slot.unset).toArray = ls at hl ⊢
  have hl : lv_has ls 2 [(0, .ref h), (1, .int x)] := hl
  refine lv_aload_n hx hb d_Certificate_mayUse_0 rfl (lv_at hl 0 rfl) ?_
  obtain ⟨i_1, bo_1, K_1, B_1, kbo_1, wl_1, hg_1⟩ := ty_8x hTy kh
  obtain ⟨⟨A_1, knm_1⟩, kpe_1, kec_1, kse_1, ksu_1, kmo_1, kok_1, kik_1, kha_1, ksi_1, ken_1, ksg_1, kis_1⟩ := K_1
  have knm_1 := tK.fiv ⟨_, _, knm_1⟩
  have kpe_1 := tK.fiv kpe_1
  have kec_1 := tK.fiv kec_1
  have ksu_1 := tK.two ksu_1
  have kmo_1 := tK.two kmo_1
  have kok_1 := tK.two kok_1
  have kik_1 := tK.two kik_1
  have ksg_1 := tK.two ksg_1
  have kis_1 := tK.two kis_1
  refine va_get (v := .int ((ν h).2.2.2.2.2.1)) hx hb htb i_Certificate hown hK hP i_1 hg_1 rfl 13 (by decide) (htb _ q2_175) (fun _ h9 => h9) rfl d_Certificate_mayUse_1 ?_
  refine w_join (J := fun v9 => v9 = zP ((((ν h).2.2.2.2.2.1) < (0 : Int32)) ∨ (((((ν h).2.2.2.2.2.1) >>> (x &&& 31)) &&& 1) = (1 : Int32)))) (pc := 24) (ls := ls) (rest := []) (fun v9 hv9 => ?_) (fun k24 => ?_)
  · subst hv9
    exact W.zret (v := zP ((((ν h).2.2.2.2.2.1) < (0 : Int32)) ∨ (((((ν h).2.2.2.2.2.1) >>> (x &&& 31)) &&& 1) = (1 : Int32)))) hx hb hr (zP_n _) (fun t ht hW => ⟨_, rfl, zP_g (use_c hx9), ht⟩) (fun q h => by cases h) d_Certificate_mayUse_24
  · skip
    refine lv_if_lt (tgt := 19) hx hb d_Certificate_mayUse_4 (by decide) (fun c4 => ?_) (fun c4 => ?_)
    · have p4 : ((ν h).2.2.2.2.2.1) < (0 : Int32) := c4
      refine lv_iconst (v := 1) hx hb d_Certificate_mayUse_19 (by decide) ?_
      refine lv_goto (tgt := 24) hx hb d_Certificate_mayUse_20 (by decide) ?_
      exact k24 _ (zP_t (Or.inl p4))
    · have p4 : ¬ (((ν h).2.2.2.2.2.1) < (0 : Int32)) := c4
      refine lv_aload_n hx hb d_Certificate_mayUse_7 rfl (lv_at hl 0 rfl) ?_
      refine va_get (v := .int ((ν h).2.2.2.2.2.1)) hx hb htb i_Certificate hown hK hP i_1 hg_1 rfl 13 (by decide) (htb _ q2_175) (fun _ h9 => h9) rfl d_Certificate_mayUse_8 ?_
      refine lv_iload_n hx hb d_Certificate_mayUse_11 rfl (lv_at hl 1 rfl) ?_
      refine lv_ishr hx hb d_Certificate_mayUse_12 ?_
      refine lv_iconst (v := 1) hx hb d_Certificate_mayUse_13 (by decide) ?_
      refine lv_iand hx hb d_Certificate_mayUse_14 ?_
      refine lv_iconst (v := 1) hx hb d_Certificate_mayUse_15 (by decide) ?_
      refine lv_icmp_ne (tgt := 23) hx hb d_Certificate_mayUse_16 (by decide) (fun c16 => ?_) (fun c16 => ?_)
      · have p16 : ¬ (((((ν h).2.2.2.2.2.1) >>> (x &&& 31)) &&& 1) = (1 : Int32)) := c16
        refine lv_iconst (v := 0) hx hb d_Certificate_mayUse_23 (by decide) ?_
        exact k24 _ (zP_f (fun z => z.elim p4 p16))
      · have p16 : ((((ν h).2.2.2.2.2.1) >>> (x &&& 31)) &&& 1) = (1 : Int32) := c16
        refine lv_iconst (v := 1) hx hb d_Certificate_mayUse_19 (by decide) ?_
        refine lv_goto (tgt := 24) hx hb d_Certificate_mayUse_20 (by decide) ?_
        exact k24 _ (zP_t (Or.inr p16))
def y_Certificate_allowsDirectory : MethodName := ⟨"TrustChain$Certificate", "allowsDirectory", "(LTrustChain$Slice;)Z"⟩
abbrev b_Certificate_allowsDirectory : ByteArray := prog_2_method_4_code
def w_Certificate_allowsDirectory : List Cond := Cond.code y_Certificate_allowsDirectory b_Certificate_allowsDirectory 3 ((some FieldType.boolean)) :: tb
theorem d_Certificate_allowsDirectory_0 : decode b_Certificate_allowsDirectory 0 = .ok (.aload_n 0, 1) := by decide +kernel
theorem d_Certificate_allowsDirectory_1 : decode b_Certificate_allowsDirectory 1 = .ok (.getfield 20, 3) := by decide +kernel
theorem d_Certificate_allowsDirectory_4 : decode b_Certificate_allowsDirectory 4 = .ok (.getfield 90, 3) := by decide +kernel
theorem d_Certificate_allowsDirectory_7 : decode b_Certificate_allowsDirectory 7 = .ok (.invokevirtual 94, 3) := by decide +kernel
theorem d_Certificate_allowsDirectory_10 : decode b_Certificate_allowsDirectory 10 = .ok (.ifCond .ne 14, 3) := by decide +kernel
theorem d_Certificate_allowsDirectory_13 : decode b_Certificate_allowsDirectory 13 = .ok (.aload_n 0, 1) := by decide +kernel
theorem d_Certificate_allowsDirectory_14 : decode b_Certificate_allowsDirectory 14 = .ok (.getfield 20, 3) := by decide +kernel
theorem d_Certificate_allowsDirectory_17 : decode b_Certificate_allowsDirectory 17 = .ok (.aload_n 1, 1) := by decide +kernel
theorem d_Certificate_allowsDirectory_18 : decode b_Certificate_allowsDirectory 18 = .ok (.invokevirtual 100, 3) := by decide +kernel
theorem d_Certificate_allowsDirectory_21 : decode b_Certificate_allowsDirectory 21 = .ok (.ifCond .eq 7, 3) := by decide +kernel
theorem d_Certificate_allowsDirectory_24 : decode b_Certificate_allowsDirectory 24 = .ok (.iconst 1, 1) := by decide +kernel
theorem d_Certificate_allowsDirectory_25 : decode b_Certificate_allowsDirectory 25 = .ok (.goto 4, 3) := by decide +kernel
theorem d_Certificate_allowsDirectory_28 : decode b_Certificate_allowsDirectory 28 = .ok (.iconst 0, 1) := by decide +kernel
theorem d_Certificate_allowsDirectory_29 : decode b_Certificate_allowsDirectory 29 = .ok (.istore_n 2, 1) := by decide +kernel
theorem d_Certificate_allowsDirectory_30 : decode b_Certificate_allowsDirectory 30 = .ok (.iload_n 2, 1) := by decide +kernel
theorem d_Certificate_allowsDirectory_31 : decode b_Certificate_allowsDirectory 31 = .ok (.ifCond .eq 18, 3) := by decide +kernel
theorem d_Certificate_allowsDirectory_34 : decode b_Certificate_allowsDirectory 34 = .ok (.aload_n 0, 1) := by decide +kernel
theorem d_Certificate_allowsDirectory_35 : decode b_Certificate_allowsDirectory 35 = .ok (.getfield 23, 3) := by decide +kernel
theorem d_Certificate_allowsDirectory_38 : decode b_Certificate_allowsDirectory 38 = .ok (.aload_n 1, 1) := by decide +kernel
theorem d_Certificate_allowsDirectory_39 : decode b_Certificate_allowsDirectory 39 = .ok (.invokevirtual 100, 3) := by decide +kernel
theorem d_Certificate_allowsDirectory_42 : decode b_Certificate_allowsDirectory 42 = .ok (.ifCond .ne 7, 3) := by decide +kernel
theorem d_Certificate_allowsDirectory_45 : decode b_Certificate_allowsDirectory 45 = .ok (.iconst 1, 1) := by decide +kernel
theorem d_Certificate_allowsDirectory_46 : decode b_Certificate_allowsDirectory 46 = .ok (.goto 4, 3) := by decide +kernel
theorem d_Certificate_allowsDirectory_49 : decode b_Certificate_allowsDirectory 49 = .ok (.iconst 0, 1) := by decide +kernel
theorem d_Certificate_allowsDirectory_50 : decode b_Certificate_allowsDirectory 50 = .ok (.ireturn, 1) := by decide +kernel
set_option maxHeartbeats 4000000 in
set_option maxRecDepth 100000 in
theorem p_Certificate_allowsDirectory (l : Launch) (dC : Nat → ClassId) (dI : Nat → Nat → Nat) (sb : sB) (γ : cG) (κ : kE) (Ad : List Nat) (ν : Nat → cN) (ω : Nat → List Nat) (L : Nat) (G : va_W) (h g : Nat) (K len z : Nat) (hTy : TY γ κ Ad ν ω L G) (kh : tK κ Ad h (8, K, len)) (kg : tK κ Ad g (2, z, 1))  : Met l y_Certificate_allowsDirectory w_Certificate_allowsDirectory ({ frames := 4, cells := 0, slots := 0, locals := 86 }) (pu_P [.ref h, .ref g] (dC, dI) sb G [(γ.1, .byte), (γ.2.1, .int), (γ.2.2.1, .long), (γ.2.2.2, .object "java/lang/Object")]) (vp_Si (fun r => r = zP (dirQ (cO κ ν ω h) (sO κ ω g)))) 0 0 (fun _ => False) := by
  refine Met.ofW (cc := b_Certificate_allowsDirectory) (maxL := 3) (ret := (some FieldType.boolean)) (by decide) rfl ?_
  intro p e s m args below meth c s₁ B hml hv
  obtain ⟨rfl, hP, hK, hN, hT0⟩ := hv
  have hx := B.exec
  have hb := B.bytes
  have hr := B.returns
  have hts := atoms_spec (ws := w_Certificate_allowsDirectory) B.pre
  have tbin : ∀ w ∈ tb, w ∈ w_Certificate_allowsDirectory := fun w h => List.mem_cons_of_mem _ h
  have htb : ∀ w ∈ tb, w.before _ s = true := fun w h => hts w (tbin w h)
  have hown : s.vm.findClass "TrustChain$Certificate" = some m.cls := findClass_of_methodNamed B.named
  have hlocks := B.notSynchronized
  have hl := lv_entry ([.ref h, .ref g]) (n := 3) (Nat.le_of_ble_eq_true rfl)
  rw [lg_entry_eq]
  generalize (lg_sl ([.ref h, .ref g]) ++ List.replicate (3 - (lg_sl ([.ref h, .ref g])).length) Slot.unset).toArray = ls at hl ⊢
  have hl : lv_has ls 3 [(0, .ref h), (1, .ref g)] := hl
  refine lv_aload_n hx hb d_Certificate_allowsDirectory_0 rfl (lv_at hl 0 rfl) ?_
  obtain ⟨i_1, bo_1, K_1, B_1, kbo_1, wl_1, hg_1⟩ := ty_8x hTy kh
  obtain ⟨⟨A_1, knm_1⟩, kpe_1, kec_1, kse_1, ksu_1, kmo_1, kok_1, kik_1, kha_1, ksi_1, ken_1, ksg_1, kis_1⟩ := K_1
  have knm_1 := tK.fiv ⟨_, _, knm_1⟩
  have kpe_1 := tK.fiv kpe_1
  have kec_1 := tK.fiv kec_1
  have ksu_1 := tK.two ksu_1
  have kmo_1 := tK.two kmo_1
  have kok_1 := tK.two kok_1
  have kik_1 := tK.two kik_1
  have ksg_1 := tK.two ksg_1
  have kis_1 := tK.two kis_1
  refine va_get (v := .ref ((ω h).getD 5 0)) hx hb htb i_Certificate hown hK hP i_1 hg_1 rfl 1 (by decide) (htb _ q2_143) (fun _ h9 => h9) rfl d_Certificate_allowsDirectory_1 ?_
  obtain ⟨i_2, kl_2, kd_2, hg_2⟩ := ty_5x hTy kpe_1
  refine va_getN (v := .ref ((ω ((ω h).getD 5 0)).getD 1 0)) hx hb htb i_NameSet hown hK hP i_2 hg_2 rfl 1 (by decide) (va_Nw.use rfl (hN.1 _ qn2_131)) (fun _ h9 => h9) rfl d_Certificate_allowsDirectory_4 ?_
  obtain ⟨i_3, m_3, hK_3, he_3, hg_3⟩ := ty_4x hTy kd_2
  refine vp_callSi (pu_callV (As := []) (rest := []) ⟨hx, hb, hml, hown, hts⟩ tbin (c_AL_isEmpty l dC dI sb ((ω ((ω h).getD 5 0)).getD 1 0) ((ω ((ω ((ω h).getD 5 0)).getD 1 0)).getD 0 0) ((κ ((ω h).getD 5 0)).2.2) m_3 (by omega)) q6_88 q6_20 q6_21 q1_4 q6_22 (n := 0) (by decide +kernel) rfl ⟨rfl, rfl⟩ ⟨Nat.le_of_ble_eq_true rfl, Nat.le_of_ble_eq_true rfl⟩ ⟨Nat.le_of_ble_eq_true rfl, Nat.le_of_ble_eq_true rfl⟩ hN hT0 hK hP [i_3] (by simp only [List.filterMap_cons, List.filterMap_nil, hg_3]) [] rfl i_3 11 hg_3 rfl rfl hl.1 rfl (Nat.le_of_ble_eq_true rfl) d_Certificate_allowsDirectory_7) (fun r7 hr7 => ?_)
  have hr7 := bz_c hr7 ((lO_nil (ω := ω) kd_2).symm)
  obtain rfl := Eq.symm (bz_zP hr7)
  refine w_join (J := fun v9 => v9 = zP ((lO κ ω ((ω ((ω h).getD 5 0)).getD 1 0) = []) ∨ (∃ t, t ∈ lO κ ω ((ω ((ω h).getD 5 0)).getD 1 0) ∧ t <+: sO κ ω g))) (pc := 29) (ls := ls) (rest := []) (fun v9 hv9 => ?_) (fun k29 => ?_)
  · subst hv9
    refine lv_istore_n (lv' := [(2, .int (zP ((lO κ ω ((ω ((ω h).getD 5 0)).getD 1 0) = []) ∨ (∃ t, t ∈ lO κ ω ((ω ((ω h).getD 5 0)).getD 1 0) ∧ t <+: sO κ ω g)))), (0, .ref h), (1, .ref g)]) hx hb d_Certificate_allowsDirectory_29 rfl hl (by decide) rfl (fun ls hl => ?_)
    refine lv_iload_n hx hb d_Certificate_allowsDirectory_30 rfl (lv_at hl 0 rfl) ?_
    refine w_join (J := fun v9 => v9 = zP (((lO κ ω ((ω ((ω h).getD 5 0)).getD 1 0) = []) ∨ (∃ t, t ∈ lO κ ω ((ω ((ω h).getD 5 0)).getD 1 0) ∧ t <+: sO κ ω g)) ∧ (¬ (∃ t, t ∈ lO κ ω ((ω ((ω h).getD 6 0)).getD 1 0) ∧ t <+: sO κ ω g)))) (pc := 50) (ls := ls) (rest := []) (fun v9 hv9 => ?_) (fun k50 => ?_)
    · subst hv9
      exact W.zret (v := zP (((lO κ ω ((ω ((ω h).getD 5 0)).getD 1 0) = []) ∨ (∃ t, t ∈ lO κ ω ((ω ((ω h).getD 5 0)).getD 1 0) ∧ t <+: sO κ ω g)) ∧ (¬ (∃ t, t ∈ lO κ ω ((ω ((ω h).getD 6 0)).getD 1 0) ∧ t <+: sO κ ω g)))) hx hb hr (zP_n _) (fun t ht hW => ⟨_, rfl, rfl, ht⟩) (fun q h => by cases h) d_Certificate_allowsDirectory_50
    · skip
      refine lv_if_eq (tgt := 49) hx hb d_Certificate_allowsDirectory_31 (by decide) (fun c31 => ?_) (fun c31 => ?_)
      · have p31 : ¬ ((lO κ ω ((ω ((ω h).getD 5 0)).getD 1 0) = []) ∨ (∃ t, t ∈ lO κ ω ((ω ((ω h).getD 5 0)).getD 1 0) ∧ t <+: sO κ ω g)) := (zP_0.mp c31)
        refine lv_iconst (v := 0) hx hb d_Certificate_allowsDirectory_49 (by decide) ?_
        exact k50 _ (zP_f (fun z => p31 z.1))
      · have p31 : (lO κ ω ((ω ((ω h).getD 5 0)).getD 1 0) = []) ∨ (∃ t, t ∈ lO κ ω ((ω ((ω h).getD 5 0)).getD 1 0) ∧ t <+: sO κ ω g) := (zP_1 c31)
        refine lv_aload_n hx hb d_Certificate_allowsDirectory_34 rfl (lv_at hl 1 rfl) ?_
        refine va_get (v := .ref ((ω h).getD 6 0)) hx hb htb i_Certificate hown hK hP i_1 hg_1 rfl 2 (by decide) (htb _ q2_145) (fun _ h9 => h9) rfl d_Certificate_allowsDirectory_35 ?_
        refine lv_aload_n hx hb d_Certificate_allowsDirectory_38 rfl (lv_at hl 2 rfl) ?_
        obtain ⟨i_4, kl_4, kd_4, hg_4⟩ := ty_5x hTy kec_1
        refine vp_callSi (pu_callV (As := [.ref g]) (rest := []) ⟨hx, hb, hml, hown, hts⟩ tbin (p_NameSet_holdsDirectoryTreeOf l dC dI sb γ κ Ad ν ω L G ((ω h).getD 6 0) g _ _ _ hTy kec_1 kg ) q6_89 q6_90 q6_91 q1_23 q6_92 (n := 1) (by decide +kernel) rfl ⟨rfl, rfl⟩ ⟨Nat.le_of_ble_eq_true rfl, Nat.le_of_ble_eq_true rfl⟩ ⟨Nat.le_of_ble_eq_true rfl, Nat.le_of_ble_eq_true rfl⟩ hN hT0 hK hP (List.range G.length) (rg_all G) [0, 1, 2, 3] rfl i_4 1 hg_4 rfl rfl hl.1 rfl (Nat.le_of_ble_eq_true rfl) d_Certificate_allowsDirectory_39) (fun r39 hr39 => ?_)
        obtain rfl : r39 = zP (∃ t, t ∈ lO κ ω ((ω ((ω h).getD 6 0)).getD 1 0) ∧ t <+: sO κ ω g) := hr39
        refine lv_if_ne (tgt := 49) hx hb d_Certificate_allowsDirectory_42 (by decide) (fun c42 => ?_) (fun c42 => ?_)
        · have p42 : ∃ t, t ∈ lO κ ω ((ω ((ω h).getD 6 0)).getD 1 0) ∧ t <+: sO κ ω g := (zP_1 c42)
          refine lv_iconst (v := 0) hx hb d_Certificate_allowsDirectory_49 (by decide) ?_
          exact k50 _ (zP_f (fun z => (fun z => z p42) z.2))
        · have p42 : ¬ (∃ t, t ∈ lO κ ω ((ω ((ω h).getD 6 0)).getD 1 0) ∧ t <+: sO κ ω g) := (zP_0.mp c42)
          refine lv_iconst (v := 1) hx hb d_Certificate_allowsDirectory_45 (by decide) ?_
          refine lv_goto (tgt := 50) hx hb d_Certificate_allowsDirectory_46 (by decide) ?_
          exact k50 _ (zP_t ⟨p31, p42⟩)
  · skip
    refine lv_if_ne (tgt := 24) hx hb d_Certificate_allowsDirectory_10 (by decide) (fun c10 => ?_) (fun c10 => ?_)
    · have p10 : lO κ ω ((ω ((ω h).getD 5 0)).getD 1 0) = [] := (zP_1 c10)
      refine lv_iconst (v := 1) hx hb d_Certificate_allowsDirectory_24 (by decide) ?_
      refine lv_goto (tgt := 29) hx hb d_Certificate_allowsDirectory_25 (by decide) ?_
      exact k29 _ (zP_t (Or.inl p10))
    · have p10 : ¬ (lO κ ω ((ω ((ω h).getD 5 0)).getD 1 0) = []) := (zP_0.mp c10)
      refine lv_aload_n hx hb d_Certificate_allowsDirectory_13 rfl (lv_at hl 0 rfl) ?_
      refine va_get (v := .ref ((ω h).getD 5 0)) hx hb htb i_Certificate hown hK hP i_1 hg_1 rfl 1 (by decide) (htb _ q2_143) (fun _ h9 => h9) rfl d_Certificate_allowsDirectory_14 ?_
      refine lv_aload_n hx hb d_Certificate_allowsDirectory_17 rfl (lv_at hl 1 rfl) ?_
      refine vp_callSi (pu_callV (As := [.ref g]) (rest := []) ⟨hx, hb, hml, hown, hts⟩ tbin (p_NameSet_holdsDirectoryTreeOf l dC dI sb γ κ Ad ν ω L G ((ω h).getD 5 0) g _ _ _ hTy kpe_1 kg ) q6_89 q6_90 q6_91 q1_23 q6_92 (n := 1) (by decide +kernel) rfl ⟨rfl, rfl⟩ ⟨Nat.le_of_ble_eq_true rfl, Nat.le_of_ble_eq_true rfl⟩ ⟨Nat.le_of_ble_eq_true rfl, Nat.le_of_ble_eq_true rfl⟩ hN hT0 hK hP (List.range G.length) (rg_all G) [0, 1, 2, 3] rfl i_2 1 hg_2 rfl rfl hl.1 rfl (Nat.le_of_ble_eq_true rfl) d_Certificate_allowsDirectory_18) (fun r18 hr18 => ?_)
      obtain rfl : r18 = zP (∃ t, t ∈ lO κ ω ((ω ((ω h).getD 5 0)).getD 1 0) ∧ t <+: sO κ ω g) := hr18
      refine lv_if_eq (tgt := 28) hx hb d_Certificate_allowsDirectory_21 (by decide) (fun c21 => ?_) (fun c21 => ?_)
      · have p21 : ¬ (∃ t, t ∈ lO κ ω ((ω ((ω h).getD 5 0)).getD 1 0) ∧ t <+: sO κ ω g) := (zP_0.mp c21)
        refine lv_iconst (v := 0) hx hb d_Certificate_allowsDirectory_28 (by decide) ?_
        exact k29 _ (zP_f (fun z => z.elim p10 p21))
      · have p21 : ∃ t, t ∈ lO κ ω ((ω ((ω h).getD 5 0)).getD 1 0) ∧ t <+: sO κ ω g := (zP_1 c21)
        refine lv_iconst (v := 1) hx hb d_Certificate_allowsDirectory_24 (by decide) ?_
        refine lv_goto (tgt := 29) hx hb d_Certificate_allowsDirectory_25 (by decide) ?_
        exact k29 _ (zP_t (Or.inr p21))
def y_Certificate_allowsDns : MethodName := ⟨"TrustChain$Certificate", "allowsDns", "(LTrustChain$Slice;)Z"⟩
abbrev b_Certificate_allowsDns : ByteArray := prog_2_method_5_code
def w_Certificate_allowsDns : List Cond := Cond.code y_Certificate_allowsDns b_Certificate_allowsDns 3 ((some FieldType.boolean)) :: tb
theorem d_Certificate_allowsDns_0 : decode b_Certificate_allowsDns 0 = .ok (.aload_n 0, 1) := by decide +kernel
theorem d_Certificate_allowsDns_1 : decode b_Certificate_allowsDns 1 = .ok (.getfield 20, 3) := by decide +kernel
theorem d_Certificate_allowsDns_4 : decode b_Certificate_allowsDns 4 = .ok (.getfield 103, 3) := by decide +kernel
theorem d_Certificate_allowsDns_7 : decode b_Certificate_allowsDns 7 = .ok (.invokevirtual 94, 3) := by decide +kernel
theorem d_Certificate_allowsDns_10 : decode b_Certificate_allowsDns 10 = .ok (.ifCond .ne 14, 3) := by decide +kernel
theorem d_Certificate_allowsDns_13 : decode b_Certificate_allowsDns 13 = .ok (.aload_n 0, 1) := by decide +kernel
theorem d_Certificate_allowsDns_14 : decode b_Certificate_allowsDns 14 = .ok (.getfield 20, 3) := by decide +kernel
theorem d_Certificate_allowsDns_17 : decode b_Certificate_allowsDns 17 = .ok (.aload_n 1, 1) := by decide +kernel
theorem d_Certificate_allowsDns_18 : decode b_Certificate_allowsDns 18 = .ok (.invokevirtual 106, 3) := by decide +kernel
theorem d_Certificate_allowsDns_21 : decode b_Certificate_allowsDns 21 = .ok (.ifCond .eq 7, 3) := by decide +kernel
theorem d_Certificate_allowsDns_24 : decode b_Certificate_allowsDns 24 = .ok (.iconst 1, 1) := by decide +kernel
theorem d_Certificate_allowsDns_25 : decode b_Certificate_allowsDns 25 = .ok (.goto 4, 3) := by decide +kernel
theorem d_Certificate_allowsDns_28 : decode b_Certificate_allowsDns 28 = .ok (.iconst 0, 1) := by decide +kernel
theorem d_Certificate_allowsDns_29 : decode b_Certificate_allowsDns 29 = .ok (.istore_n 2, 1) := by decide +kernel
theorem d_Certificate_allowsDns_30 : decode b_Certificate_allowsDns 30 = .ok (.iload_n 2, 1) := by decide +kernel
theorem d_Certificate_allowsDns_31 : decode b_Certificate_allowsDns 31 = .ok (.ifCond .eq 18, 3) := by decide +kernel
theorem d_Certificate_allowsDns_34 : decode b_Certificate_allowsDns 34 = .ok (.aload_n 0, 1) := by decide +kernel
theorem d_Certificate_allowsDns_35 : decode b_Certificate_allowsDns 35 = .ok (.getfield 23, 3) := by decide +kernel
theorem d_Certificate_allowsDns_38 : decode b_Certificate_allowsDns 38 = .ok (.aload_n 1, 1) := by decide +kernel
theorem d_Certificate_allowsDns_39 : decode b_Certificate_allowsDns 39 = .ok (.invokevirtual 106, 3) := by decide +kernel
theorem d_Certificate_allowsDns_42 : decode b_Certificate_allowsDns 42 = .ok (.ifCond .ne 7, 3) := by decide +kernel
theorem d_Certificate_allowsDns_45 : decode b_Certificate_allowsDns 45 = .ok (.iconst 1, 1) := by decide +kernel
theorem d_Certificate_allowsDns_46 : decode b_Certificate_allowsDns 46 = .ok (.goto 4, 3) := by decide +kernel
theorem d_Certificate_allowsDns_49 : decode b_Certificate_allowsDns 49 = .ok (.iconst 0, 1) := by decide +kernel
theorem d_Certificate_allowsDns_50 : decode b_Certificate_allowsDns 50 = .ok (.ireturn, 1) := by decide +kernel
set_option maxHeartbeats 4000000 in
set_option maxRecDepth 100000 in
theorem p_Certificate_allowsDns (l : Launch) (dC : Nat → ClassId) (dI : Nat → Nat → Nat) (sb : sB) (γ : cG) (κ : kE) (Ad : List Nat) (ν : Nat → cN) (ω : Nat → List Nat) (L : Nat) (G : va_W) (h g : Nat) (K len z : Nat) (hTy : TY γ κ Ad ν ω L G) (kh : tK κ Ad h (8, K, len)) (kg : tK κ Ad g (2, z, 1))  : Met l y_Certificate_allowsDns w_Certificate_allowsDns ({ frames := 4, cells := 0, slots := 0, locals := 89 }) (pu_P [.ref h, .ref g] (dC, dI) sb G [(γ.1, .byte), (γ.2.1, .int), (γ.2.2.1, .long), (γ.2.2.2, .object "java/lang/Object")]) (vp_Si (fun r => r = zP (dnsQ (cO κ ν ω h) (sO κ ω g)))) 0 0 (fun _ => False) := by
  refine Met.ofW (cc := b_Certificate_allowsDns) (maxL := 3) (ret := (some FieldType.boolean)) (by decide) rfl ?_
  intro p e s m args below meth c s₁ B hml hv
  obtain ⟨rfl, hP, hK, hN, hT0⟩ := hv
  have hx := B.exec
  have hb := B.bytes
  have hr := B.returns
  have hts := atoms_spec (ws := w_Certificate_allowsDns) B.pre
  have tbin : ∀ w ∈ tb, w ∈ w_Certificate_allowsDns := fun w h => List.mem_cons_of_mem _ h
  have htb : ∀ w ∈ tb, w.before _ s = true := fun w h => hts w (tbin w h)
  have hown : s.vm.findClass "TrustChain$Certificate" = some m.cls := findClass_of_methodNamed B.named
  have hlocks := B.notSynchronized
  have hl := lv_entry ([.ref h, .ref g]) (n := 3) (Nat.le_of_ble_eq_true rfl)
  rw [lg_entry_eq]
  generalize (lg_sl ([.ref h, .ref g]) ++ List.replicate (3 - (lg_sl ([.ref h, .ref g])).length) Slot.unset).toArray = ls at hl ⊢
  have hl : lv_has ls 3 [(0, .ref h), (1, .ref g)] := hl
  refine lv_aload_n hx hb d_Certificate_allowsDns_0 rfl (lv_at hl 0 rfl) ?_
  obtain ⟨i_1, bo_1, K_1, B_1, kbo_1, wl_1, hg_1⟩ := ty_8x hTy kh
  obtain ⟨⟨A_1, knm_1⟩, kpe_1, kec_1, kse_1, ksu_1, kmo_1, kok_1, kik_1, kha_1, ksi_1, ken_1, ksg_1, kis_1⟩ := K_1
  have knm_1 := tK.fiv ⟨_, _, knm_1⟩
  have kpe_1 := tK.fiv kpe_1
  have kec_1 := tK.fiv kec_1
  have ksu_1 := tK.two ksu_1
  have kmo_1 := tK.two kmo_1
  have kok_1 := tK.two kok_1
  have kik_1 := tK.two kik_1
  have ksg_1 := tK.two ksg_1
  have kis_1 := tK.two kis_1
  refine va_get (v := .ref ((ω h).getD 5 0)) hx hb htb i_Certificate hown hK hP i_1 hg_1 rfl 1 (by decide) (htb _ q2_143) (fun _ h9 => h9) rfl d_Certificate_allowsDns_1 ?_
  obtain ⟨i_2, kl_2, kd_2, hg_2⟩ := ty_5x hTy kpe_1
  refine va_getN (v := .ref ((ω ((ω h).getD 5 0)).getD 0 0)) hx hb htb i_NameSet hown hK hP i_2 hg_2 rfl 0 (by decide) (va_Nw.use rfl (hN.1 _ qn2_127)) (fun _ h9 => h9) rfl d_Certificate_allowsDns_4 ?_
  obtain ⟨i_3, m_3, hK_3, he_3, hg_3⟩ := ty_4x hTy kl_2
  refine vp_callSi (pu_callV (As := []) (rest := []) ⟨hx, hb, hml, hown, hts⟩ tbin (c_AL_isEmpty l dC dI sb ((ω ((ω h).getD 5 0)).getD 0 0) ((ω ((ω ((ω h).getD 5 0)).getD 0 0)).getD 0 0) ((κ ((ω h).getD 5 0)).2.1) m_3 (by omega)) q6_88 q6_20 q6_21 q1_4 q6_22 (n := 0) (by decide +kernel) rfl ⟨rfl, rfl⟩ ⟨Nat.le_of_ble_eq_true rfl, Nat.le_of_ble_eq_true rfl⟩ ⟨Nat.le_of_ble_eq_true rfl, Nat.le_of_ble_eq_true rfl⟩ hN hT0 hK hP [i_3] (by simp only [List.filterMap_cons, List.filterMap_nil, hg_3]) [] rfl i_3 11 hg_3 rfl rfl hl.1 rfl (Nat.le_of_ble_eq_true rfl) d_Certificate_allowsDns_7) (fun r7 hr7 => ?_)
  have hr7 := bz_c hr7 ((lO_nil (ω := ω) kl_2).symm)
  obtain rfl := Eq.symm (bz_zP hr7)
  refine w_join (J := fun v9 => v9 = zP ((lO κ ω ((ω ((ω h).getD 5 0)).getD 0 0) = []) ∨ (∃ t, t ∈ lO κ ω ((ω ((ω h).getD 5 0)).getD 0 0) ∧ dtQ t (sO κ ω g)))) (pc := 29) (ls := ls) (rest := []) (fun v9 hv9 => ?_) (fun k29 => ?_)
  · subst hv9
    refine lv_istore_n (lv' := [(2, .int (zP ((lO κ ω ((ω ((ω h).getD 5 0)).getD 0 0) = []) ∨ (∃ t, t ∈ lO κ ω ((ω ((ω h).getD 5 0)).getD 0 0) ∧ dtQ t (sO κ ω g))))), (0, .ref h), (1, .ref g)]) hx hb d_Certificate_allowsDns_29 rfl hl (by decide) rfl (fun ls hl => ?_)
    refine lv_iload_n hx hb d_Certificate_allowsDns_30 rfl (lv_at hl 0 rfl) ?_
    refine w_join (J := fun v9 => v9 = zP (((lO κ ω ((ω ((ω h).getD 5 0)).getD 0 0) = []) ∨ (∃ t, t ∈ lO κ ω ((ω ((ω h).getD 5 0)).getD 0 0) ∧ dtQ t (sO κ ω g))) ∧ (¬ (∃ t, t ∈ lO κ ω ((ω ((ω h).getD 6 0)).getD 0 0) ∧ dtQ t (sO κ ω g))))) (pc := 50) (ls := ls) (rest := []) (fun v9 hv9 => ?_) (fun k50 => ?_)
    · subst hv9
      exact W.zret (v := zP (((lO κ ω ((ω ((ω h).getD 5 0)).getD 0 0) = []) ∨ (∃ t, t ∈ lO κ ω ((ω ((ω h).getD 5 0)).getD 0 0) ∧ dtQ t (sO κ ω g))) ∧ (¬ (∃ t, t ∈ lO κ ω ((ω ((ω h).getD 6 0)).getD 0 0) ∧ dtQ t (sO κ ω g))))) hx hb hr (zP_n _) (fun t ht hW => ⟨_, rfl, rfl, ht⟩) (fun q h => by cases h) d_Certificate_allowsDns_50
    · skip
      refine lv_if_eq (tgt := 49) hx hb d_Certificate_allowsDns_31 (by decide) (fun c31 => ?_) (fun c31 => ?_)
      · have p31 : ¬ ((lO κ ω ((ω ((ω h).getD 5 0)).getD 0 0) = []) ∨ (∃ t, t ∈ lO κ ω ((ω ((ω h).getD 5 0)).getD 0 0) ∧ dtQ t (sO κ ω g))) := (zP_0.mp c31)
        refine lv_iconst (v := 0) hx hb d_Certificate_allowsDns_49 (by decide) ?_
        exact k50 _ (zP_f (fun z => p31 z.1))
      · have p31 : (lO κ ω ((ω ((ω h).getD 5 0)).getD 0 0) = []) ∨ (∃ t, t ∈ lO κ ω ((ω ((ω h).getD 5 0)).getD 0 0) ∧ dtQ t (sO κ ω g)) := (zP_1 c31)
        refine lv_aload_n hx hb d_Certificate_allowsDns_34 rfl (lv_at hl 1 rfl) ?_
        refine va_get (v := .ref ((ω h).getD 6 0)) hx hb htb i_Certificate hown hK hP i_1 hg_1 rfl 2 (by decide) (htb _ q2_145) (fun _ h9 => h9) rfl d_Certificate_allowsDns_35 ?_
        refine lv_aload_n hx hb d_Certificate_allowsDns_38 rfl (lv_at hl 2 rfl) ?_
        obtain ⟨i_4, kl_4, kd_4, hg_4⟩ := ty_5x hTy kec_1
        refine vp_callSi (pu_callV (As := [.ref g]) (rest := []) ⟨hx, hb, hml, hown, hts⟩ tbin (p_NameSet_holdsDnsTreeOf l dC dI sb γ κ Ad ν ω L G ((ω h).getD 6 0) g _ _ _ hTy kec_1 kg ) q6_102 q6_103 q6_104 q1_23 q6_105 (n := 1) (by decide +kernel) rfl ⟨rfl, rfl⟩ ⟨Nat.le_of_ble_eq_true rfl, Nat.le_of_ble_eq_true rfl⟩ ⟨Nat.le_of_ble_eq_true rfl, Nat.le_of_ble_eq_true rfl⟩ hN hT0 hK hP (List.range G.length) (rg_all G) [0, 1, 2, 3] rfl i_4 1 hg_4 rfl rfl hl.1 rfl (Nat.le_of_ble_eq_true rfl) d_Certificate_allowsDns_39) (fun r39 hr39 => ?_)
        obtain rfl : r39 = zP (∃ t, t ∈ lO κ ω ((ω ((ω h).getD 6 0)).getD 0 0) ∧ dtQ t (sO κ ω g)) := hr39
        refine lv_if_ne (tgt := 49) hx hb d_Certificate_allowsDns_42 (by decide) (fun c42 => ?_) (fun c42 => ?_)
        · have p42 : ∃ t, t ∈ lO κ ω ((ω ((ω h).getD 6 0)).getD 0 0) ∧ dtQ t (sO κ ω g) := (zP_1 c42)
          refine lv_iconst (v := 0) hx hb d_Certificate_allowsDns_49 (by decide) ?_
          exact k50 _ (zP_f (fun z => (fun z => z p42) z.2))
        · have p42 : ¬ (∃ t, t ∈ lO κ ω ((ω ((ω h).getD 6 0)).getD 0 0) ∧ dtQ t (sO κ ω g)) := (zP_0.mp c42)
          refine lv_iconst (v := 1) hx hb d_Certificate_allowsDns_45 (by decide) ?_
          refine lv_goto (tgt := 50) hx hb d_Certificate_allowsDns_46 (by decide) ?_
          exact k50 _ (zP_t ⟨p31, p42⟩)
  · skip
    refine lv_if_ne (tgt := 24) hx hb d_Certificate_allowsDns_10 (by decide) (fun c10 => ?_) (fun c10 => ?_)
    · have p10 : lO κ ω ((ω ((ω h).getD 5 0)).getD 0 0) = [] := (zP_1 c10)
      refine lv_iconst (v := 1) hx hb d_Certificate_allowsDns_24 (by decide) ?_
      refine lv_goto (tgt := 29) hx hb d_Certificate_allowsDns_25 (by decide) ?_
      exact k29 _ (zP_t (Or.inl p10))
    · have p10 : ¬ (lO κ ω ((ω ((ω h).getD 5 0)).getD 0 0) = []) := (zP_0.mp c10)
      refine lv_aload_n hx hb d_Certificate_allowsDns_13 rfl (lv_at hl 0 rfl) ?_
      refine va_get (v := .ref ((ω h).getD 5 0)) hx hb htb i_Certificate hown hK hP i_1 hg_1 rfl 1 (by decide) (htb _ q2_143) (fun _ h9 => h9) rfl d_Certificate_allowsDns_14 ?_
      refine lv_aload_n hx hb d_Certificate_allowsDns_17 rfl (lv_at hl 1 rfl) ?_
      refine vp_callSi (pu_callV (As := [.ref g]) (rest := []) ⟨hx, hb, hml, hown, hts⟩ tbin (p_NameSet_holdsDnsTreeOf l dC dI sb γ κ Ad ν ω L G ((ω h).getD 5 0) g _ _ _ hTy kpe_1 kg ) q6_102 q6_103 q6_104 q1_23 q6_105 (n := 1) (by decide +kernel) rfl ⟨rfl, rfl⟩ ⟨Nat.le_of_ble_eq_true rfl, Nat.le_of_ble_eq_true rfl⟩ ⟨Nat.le_of_ble_eq_true rfl, Nat.le_of_ble_eq_true rfl⟩ hN hT0 hK hP (List.range G.length) (rg_all G) [0, 1, 2, 3] rfl i_2 1 hg_2 rfl rfl hl.1 rfl (Nat.le_of_ble_eq_true rfl) d_Certificate_allowsDns_18) (fun r18 hr18 => ?_)
      obtain rfl : r18 = zP (∃ t, t ∈ lO κ ω ((ω ((ω h).getD 5 0)).getD 0 0) ∧ dtQ t (sO κ ω g)) := hr18
      refine lv_if_eq (tgt := 28) hx hb d_Certificate_allowsDns_21 (by decide) (fun c21 => ?_) (fun c21 => ?_)
      · have p21 : ¬ (∃ t, t ∈ lO κ ω ((ω ((ω h).getD 5 0)).getD 0 0) ∧ dtQ t (sO κ ω g)) := (zP_0.mp c21)
        refine lv_iconst (v := 0) hx hb d_Certificate_allowsDns_28 (by decide) ?_
        exact k29 _ (zP_f (fun z => z.elim p10 p21))
      · have p21 : ∃ t, t ∈ lO κ ω ((ω ((ω h).getD 5 0)).getD 0 0) ∧ dtQ t (sO κ ω g) := (zP_1 c21)
        refine lv_iconst (v := 1) hx hb d_Certificate_allowsDns_24 (by decide) ?_
        refine lv_goto (tgt := 29) hx hb d_Certificate_allowsDns_25 (by decide) ?_
        exact k29 _ (zP_t (Or.inr p21))
