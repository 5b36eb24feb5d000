/-! TrustChain's methods over the whole world. -/
theorem b01_n {x : Int32} (h : b01 x) : narrow .boolean (.int x) = .int x := by
  rcases h with rfl | rfl <;> rfl
theorem b01_z {x : Int32} {P : Prop} (h : bz x P) : b01 x := h.elim (fun q => Or.inr q.1) (fun q => Or.inl q.1)
/-- a certificate's part -/
def tellV (n : cN) (K len : Nat) (i : Int32) : Int64 := if i.toInt = 0 then n.2.2.2.2.2.2.2.2.2.1 else if i.toInt = 1 then n.2.2.2.2.2.2.2.2.2.2.1 else if i.toInt = 2 then n.2.1.toInt64 else if i.toInt = 3 then n.2.2.1.toInt64 else if i.toInt = 4 then (if n.2.2.2.1 = 0 then 0 else 1) else if i.toInt = 5 then n.2.2.2.2.1.toInt64 else if i.toInt = 6 then n.2.2.2.2.2.1.toInt64 else if i.toInt = 7 then (nI K).toInt64 else if i.toInt = 8 then n.1.toInt64 else if i.toInt = 9 then n.2.2.2.2.2.2.1.toInt64 else if i.toInt = 10 then n.2.2.2.2.2.2.2.2.2.2.2.1.toInt64 else (nI len).toInt64
/-- a list's part -/
def ltellV (n : cN) (K : Nat) (i : Int32) : Int64 := if i.toInt = 0 then n.2.2.2.2.2.2.2.2.2.1 else if i.toInt = 1 then n.2.2.2.2.2.2.2.2.2.2.1 else if i.toInt = 2 then (nI K).toInt64 else n.2.2.2.2.2.2.2.2.2.2.2.1.toInt64
/-- one certificate's trust anew -/
def nuT (ν : Nat → cN) (c : Nat) (j : Int32) : Nat → cN := fun b => if b = c then ((ν c).1, (ν c).2.1, (ν c).2.2.1, (ν c).2.2.2.1, (ν c).2.2.2.2.1, (ν c).2.2.2.2.2.1, (ν c).2.2.2.2.2.2.1, (ν c).2.2.2.2.2.2.2.1, j, (ν c).2.2.2.2.2.2.2.2.2) else ν b
def y_Certificate_tell : MethodName := ⟨"TrustChain$Certificate", "tell", "(I)J"⟩
abbrev b_Certificate_tell : ByteArray := prog_2_method_6_code
def w_Certificate_tell : List Cond := Cond.code y_Certificate_tell b_Certificate_tell 2 ((some FieldType.long)) :: tb
theorem d_Certificate_tell_0 : decode b_Certificate_tell 0 = .ok (.iload_n 1, 1) := by decide +kernel
theorem d_Certificate_tell_1 : decode b_Certificate_tell 1 = .ok (.tableswitch 136 0 10 #[59, 64, 69, 75, 81, 94, 100, 106, 118, 124, 130], 59) := by decide +kernel
theorem d_Certificate_tell_60 : decode b_Certificate_tell 60 = .ok (.aload_n 0, 1) := by decide +kernel
theorem d_Certificate_tell_61 : decode b_Certificate_tell 61 = .ok (.getfield 109, 3) := by decide +kernel
theorem d_Certificate_tell_64 : decode b_Certificate_tell 64 = .ok (.lreturn, 1) := by decide +kernel
theorem d_Certificate_tell_65 : decode b_Certificate_tell 65 = .ok (.aload_n 0, 1) := by decide +kernel
theorem d_Certificate_tell_66 : decode b_Certificate_tell 66 = .ok (.getfield 113, 3) := by decide +kernel
theorem d_Certificate_tell_69 : decode b_Certificate_tell 69 = .ok (.lreturn, 1) := by decide +kernel
theorem d_Certificate_tell_70 : decode b_Certificate_tell 70 = .ok (.aload_n 0, 1) := by decide +kernel
theorem d_Certificate_tell_71 : decode b_Certificate_tell 71 = .ok (.getfield 30, 3) := by decide +kernel
theorem d_Certificate_tell_74 : decode b_Certificate_tell 74 = .ok (.i2l, 1) := by decide +kernel
theorem d_Certificate_tell_75 : decode b_Certificate_tell 75 = .ok (.lreturn, 1) := by decide +kernel
theorem d_Certificate_tell_76 : decode b_Certificate_tell 76 = .ok (.aload_n 0, 1) := by decide +kernel
theorem d_Certificate_tell_77 : decode b_Certificate_tell 77 = .ok (.getfield 33, 3) := by decide +kernel
theorem d_Certificate_tell_80 : decode b_Certificate_tell 80 = .ok (.i2l, 1) := by decide +kernel
theorem d_Certificate_tell_81 : decode b_Certificate_tell 81 = .ok (.lreturn, 1) := by decide +kernel
theorem d_Certificate_tell_82 : decode b_Certificate_tell 82 = .ok (.aload_n 0, 1) := by decide +kernel
theorem d_Certificate_tell_83 : decode b_Certificate_tell 83 = .ok (.getfield 36, 3) := by decide +kernel
theorem d_Certificate_tell_86 : decode b_Certificate_tell 86 = .ok (.ifCond .eq 7, 3) := by decide +kernel
theorem d_Certificate_tell_89 : decode b_Certificate_tell 89 = .ok (.lconst 1, 1) := by decide +kernel
theorem d_Certificate_tell_90 : decode b_Certificate_tell 90 = .ok (.goto 4, 3) := by decide +kernel
theorem d_Certificate_tell_93 : decode b_Certificate_tell 93 = .ok (.lconst 0, 1) := by decide +kernel
theorem d_Certificate_tell_94 : decode b_Certificate_tell 94 = .ok (.lreturn, 1) := by decide +kernel
theorem d_Certificate_tell_95 : decode b_Certificate_tell 95 = .ok (.aload_n 0, 1) := by decide +kernel
theorem d_Certificate_tell_96 : decode b_Certificate_tell 96 = .ok (.getfield 40, 3) := by decide +kernel
theorem d_Certificate_tell_99 : decode b_Certificate_tell 99 = .ok (.i2l, 1) := by decide +kernel
theorem d_Certificate_tell_100 : decode b_Certificate_tell 100 = .ok (.lreturn, 1) := by decide +kernel
theorem d_Certificate_tell_101 : decode b_Certificate_tell 101 = .ok (.aload_n 0, 1) := by decide +kernel
theorem d_Certificate_tell_102 : decode b_Certificate_tell 102 = .ok (.getfield 43, 3) := by decide +kernel
theorem d_Certificate_tell_105 : decode b_Certificate_tell 105 = .ok (.i2l, 1) := by decide +kernel
theorem d_Certificate_tell_106 : decode b_Certificate_tell 106 = .ok (.lreturn, 1) := by decide +kernel
theorem d_Certificate_tell_107 : decode b_Certificate_tell 107 = .ok (.aload_n 0, 1) := by decide +kernel
theorem d_Certificate_tell_108 : decode b_Certificate_tell 108 = .ok (.getfield 14, 3) := by decide +kernel
theorem d_Certificate_tell_111 : decode b_Certificate_tell 111 = .ok (.getfield 103, 3) := by decide +kernel
theorem d_Certificate_tell_114 : decode b_Certificate_tell 114 = .ok (.invokevirtual 116, 3) := by decide +kernel
theorem d_Certificate_tell_117 : decode b_Certificate_tell 117 = .ok (.i2l, 1) := by decide +kernel
theorem d_Certificate_tell_118 : decode b_Certificate_tell 118 = .ok (.lreturn, 1) := by decide +kernel
theorem d_Certificate_tell_119 : decode b_Certificate_tell 119 = .ok (.aload_n 0, 1) := by decide +kernel
theorem d_Certificate_tell_120 : decode b_Certificate_tell 120 = .ok (.getfield 26, 3) := by decide +kernel
theorem d_Certificate_tell_123 : decode b_Certificate_tell 123 = .ok (.i2l, 1) := by decide +kernel
theorem d_Certificate_tell_124 : decode b_Certificate_tell 124 = .ok (.lreturn, 1) := by decide +kernel
theorem d_Certificate_tell_125 : decode b_Certificate_tell 125 = .ok (.aload_n 0, 1) := by decide +kernel
theorem d_Certificate_tell_126 : decode b_Certificate_tell 126 = .ok (.getfield 46, 3) := by decide +kernel
theorem d_Certificate_tell_129 : decode b_Certificate_tell 129 = .ok (.i2l, 1) := by decide +kernel
theorem d_Certificate_tell_130 : decode b_Certificate_tell 130 = .ok (.lreturn, 1) := by decide +kernel
theorem d_Certificate_tell_131 : decode b_Certificate_tell 131 = .ok (.aload_n 0, 1) := by decide +kernel
theorem d_Certificate_tell_132 : decode b_Certificate_tell 132 = .ok (.getfield 119, 3) := by decide +kernel
theorem d_Certificate_tell_135 : decode b_Certificate_tell 135 = .ok (.i2l, 1) := by decide +kernel
theorem d_Certificate_tell_136 : decode b_Certificate_tell 136 = .ok (.lreturn, 1) := by decide +kernel
theorem d_Certificate_tell_137 : decode b_Certificate_tell 137 = .ok (.aload_n 0, 1) := by decide +kernel
theorem d_Certificate_tell_138 : decode b_Certificate_tell 138 = .ok (.getfield 61, 3) := by decide +kernel
theorem d_Certificate_tell_141 : decode b_Certificate_tell 141 = .ok (.invokevirtual 77, 3) := by decide +kernel
theorem d_Certificate_tell_144 : decode b_Certificate_tell 144 = .ok (.i2l, 1) := by decide +kernel
theorem d_Certificate_tell_145 : decode b_Certificate_tell 145 = .ok (.lreturn, 1) := by decide +kernel
set_option maxHeartbeats 4000000 in
set_option maxRecDepth 100000 in
theorem p_Certificate_tell (l : Launch) (dC : Nat → ClassId) (dI : Nat → Nat → Nat) (sb : sB) (γ : cG) (κ : kE) (Ad : List Nat) (ν : Nat → cN) (ω : Nat → List Nat) (L : Nat) (G : va_W) (a : Nat) (p1 p2 : Nat) (i : Int32) (hTy : TY γ κ Ad ν ω L G) (ka : tK κ Ad a (8, p1, p2))  : Met l y_Certificate_tell w_Certificate_tell ({ frames := 1, cells := 0, slots := 0, locals := 20 }) (pu_P [.ref a, .int i] (dC, dI) sb G [(γ.1, .byte), (γ.2.1, .int), (γ.2.2.1, .long), (γ.2.2.2, .object "java/lang/Object")]) (vp_Sl (fun r => r = tellV (ν a) p1 p2 i)) 0 0 (fun _ => False) := by
  refine Met.ofW (cc := b_Certificate_tell) (maxL := 2) (ret := (some FieldType.long)) (by decide) rfl ?_
  intro p e s m args below meth c s₁ B hml hv
  obtain ⟨rfl, hP, hK, hN, hT0⟩ := hv
  have hx := B.exec
  have hb := B.bytes
  have hr := B.returns
  have hts := atoms_spec (ws := w_Certificate_tell) B.pre
  have tbin : ∀ w ∈ tb, w ∈ w_Certificate_tell := fun w h => List.mem_cons_of_mem _ h
  have htb : ∀ w ∈ tb, w.before _ s = true := fun w h => hts w (tbin w h)
  have hown : s.vm.findClass "TrustChain$Certificate" = some m.cls := findClass_of_methodNamed B.named
  have hlocks := B.notSynchronized
  have hl := lv_entry ([.ref a, .int i]) (n := 2) (Nat.le_of_ble_eq_true rfl)
  rw [lg_entry_eq]
  generalize (lg_sl ([.ref a, .int i]) ++ List.replicate (2 - (lg_sl ([.ref a, .int i])).length) Slot.unset).toArray = ls at hl ⊢
  have hl : lv_has ls 2 [(0, .ref a), (1, .int i)] := hl
  refine lv_iload_n hx hb d_Certificate_tell_0 rfl (lv_at hl 1 rfl) ?_
  by_cases s1_0 : i.toInt = 0
  · refine lv_tableIn (tgt := 60) hx hb d_Certificate_tell_1 (by omega) (by omega) (by rw [s1_0]; rfl) rfl ?_
    refine lv_aload_n hx hb d_Certificate_tell_60 rfl (lv_at hl 0 rfl) ?_
    obtain ⟨i_1, nm_1, pe_1, ec_1, se_1, su_1, mo_1, ok_1, ik_1, ha_1, si_1, en_1, bo_1, sg_1, is_1, iu_1, K_1, B_1, hg_1⟩ := ty_8 hTy ka
    obtain ⟨⟨A_1, knm_1⟩, ⟨B1_1, B2_1, kpe_1⟩, ⟨C1_1, C2_1, kec_1⟩, kse_1, ⟨z1_1, ksu_1⟩, ⟨z2_1, kmo_1⟩, ⟨z3_1, kok_1⟩, ⟨z4_1, kik_1⟩, kha_1, ksi_1, ken_1, ⟨z5_1, kbo_1⟩, ⟨z6_1, ksg_1⟩, ⟨z7_1, kis_1⟩⟩ := K_1
    refine va_get (v := .long ((ν a).2.2.2.2.2.2.2.2.2.1)) hx hb htb i_Certificate hown hK hP i_1 hg_1 rfl 25 (by decide) (htb _ q2_222) (fun x9 h9 => u_same (htb _ q2_221) x9 h9) rfl d_Certificate_tell_61 ?_
    exact W.lret (v := (ν a).2.2.2.2.2.2.2.2.2.1) hx hb hr (fun t ht hW => ⟨_, rfl, by unfold tellV; rw [if_pos s1_0], ht⟩) (fun q h => by cases h) d_Certificate_tell_64
  by_cases s1_1 : i.toInt = 1
  · refine lv_tableIn (tgt := 65) hx hb d_Certificate_tell_1 (by omega) (by omega) (by rw [s1_1]; rfl) rfl ?_
    refine lv_aload_n hx hb d_Certificate_tell_65 rfl (lv_at hl 0 rfl) ?_
    obtain ⟨i_2, nm_2, pe_2, ec_2, se_2, su_2, mo_2, ok_2, ik_2, ha_2, si_2, en_2, bo_2, sg_2, is_2, iu_2, K_2, B_2, hg_2⟩ := ty_8 hTy ka
    obtain ⟨⟨A_2, knm_2⟩, ⟨B1_2, B2_2, kpe_2⟩, ⟨C1_2, C2_2, kec_2⟩, kse_2, ⟨z1_2, ksu_2⟩, ⟨z2_2, kmo_2⟩, ⟨z3_2, kok_2⟩, ⟨z4_2, kik_2⟩, kha_2, ksi_2, ken_2, ⟨z5_2, kbo_2⟩, ⟨z6_2, ksg_2⟩, ⟨z7_2, kis_2⟩⟩ := K_2
    refine va_get (v := .long ((ν a).2.2.2.2.2.2.2.2.2.2.1)) hx hb htb i_Certificate hown hK hP i_2 hg_2 rfl 26 (by decide) (htb _ q2_228) (fun x9 h9 => u_same (htb _ q2_227) x9 h9) rfl d_Certificate_tell_66 ?_
    exact W.lret (v := (ν a).2.2.2.2.2.2.2.2.2.2.1) hx hb hr (fun t ht hW => ⟨_, rfl, by unfold tellV; rw [if_neg s1_0, if_pos s1_1], ht⟩) (fun q h => by cases h) d_Certificate_tell_69
  by_cases s1_2 : i.toInt = 2
  · refine lv_tableIn (tgt := 70) hx hb d_Certificate_tell_1 (by omega) (by omega) (by rw [s1_2]; rfl) rfl ?_
    refine lv_aload_n hx hb d_Certificate_tell_70 rfl (lv_at hl 0 rfl) ?_
    obtain ⟨i_3, nm_3, pe_3, ec_3, se_3, su_3, mo_3, ok_3, ik_3, ha_3, si_3, en_3, bo_3, sg_3, is_3, iu_3, K_3, B_3, hg_3⟩ := ty_8 hTy ka
    obtain ⟨⟨A_3, knm_3⟩, ⟨B1_3, B2_3, kpe_3⟩, ⟨C1_3, C2_3, kec_3⟩, kse_3, ⟨z1_3, ksu_3⟩, ⟨z2_3, kmo_3⟩, ⟨z3_3, kok_3⟩, ⟨z4_3, kik_3⟩, kha_3, ksi_3, ken_3, ⟨z5_3, kbo_3⟩, ⟨z6_3, ksg_3⟩, ⟨z7_3, kis_3⟩⟩ := K_3
    refine va_get (v := .int ((ν a).2.1)) hx hb htb i_Certificate hown hK hP i_3 hg_3 rfl 9 (by decide) (htb _ q2_163) (fun _ h9 => h9) rfl d_Certificate_tell_71 ?_
    refine lv_i2l (v := ((ν a).2.1).toInt64) hx hb d_Certificate_tell_74 rfl ?_
    exact W.lret (v := ((ν a).2.1).toInt64) hx hb hr (fun t ht hW => ⟨_, rfl, by unfold tellV; rw [if_neg s1_0, if_neg s1_1, if_pos s1_2], ht⟩) (fun q h => by cases h) d_Certificate_tell_75
  by_cases s1_3 : i.toInt = 3
  · refine lv_tableIn (tgt := 76) hx hb d_Certificate_tell_1 (by omega) (by omega) (by rw [s1_3]; rfl) rfl ?_
    refine lv_aload_n hx hb d_Certificate_tell_76 rfl (lv_at hl 0 rfl) ?_
    obtain ⟨i_4, nm_4, pe_4, ec_4, se_4, su_4, mo_4, ok_4, ik_4, ha_4, si_4, en_4, bo_4, sg_4, is_4, iu_4, K_4, B_4, hg_4⟩ := ty_8 hTy ka
    obtain ⟨⟨A_4, knm_4⟩, ⟨B1_4, B2_4, kpe_4⟩, ⟨C1_4, C2_4, kec_4⟩, kse_4, ⟨z1_4, ksu_4⟩, ⟨z2_4, kmo_4⟩, ⟨z3_4, kok_4⟩, ⟨z4_4, kik_4⟩, kha_4, ksi_4, ken_4, ⟨z5_4, kbo_4⟩, ⟨z6_4, ksg_4⟩, ⟨z7_4, kis_4⟩⟩ := K_4
    refine va_get (v := .int ((ν a).2.2.1)) hx hb htb i_Certificate hown hK hP i_4 hg_4 rfl 10 (by decide) (htb _ q2_166) (fun _ h9 => h9) rfl d_Certificate_tell_77 ?_
    refine lv_i2l (v := ((ν a).2.2.1).toInt64) hx hb d_Certificate_tell_80 rfl ?_
    exact W.lret (v := ((ν a).2.2.1).toInt64) hx hb hr (fun t ht hW => ⟨_, rfl, by unfold tellV; rw [if_neg s1_0, if_neg s1_1, if_neg s1_2, if_pos s1_3], ht⟩) (fun q h => by cases h) d_Certificate_tell_81
  by_cases s1_4 : i.toInt = 4
  · refine lv_tableIn (tgt := 82) hx hb d_Certificate_tell_1 (by omega) (by omega) (by rw [s1_4]; rfl) rfl ?_
    refine lv_aload_n hx hb d_Certificate_tell_82 rfl (lv_at hl 0 rfl) ?_
    obtain ⟨i_5, nm_5, pe_5, ec_5, se_5, su_5, mo_5, ok_5, ik_5, ha_5, si_5, en_5, bo_5, sg_5, is_5, iu_5, K_5, B_5, hg_5⟩ := ty_8 hTy ka
    obtain ⟨⟨A_5, knm_5⟩, ⟨B1_5, B2_5, kpe_5⟩, ⟨C1_5, C2_5, kec_5⟩, kse_5, ⟨z1_5, ksu_5⟩, ⟨z2_5, kmo_5⟩, ⟨z3_5, kok_5⟩, ⟨z4_5, kik_5⟩, kha_5, ksi_5, ken_5, ⟨z5_5, kbo_5⟩, ⟨z6_5, ksg_5⟩, ⟨z7_5, kis_5⟩⟩ := K_5
    refine va_get (v := .int ((ν a).2.2.2.1)) hx hb htb i_Certificate hown hK hP i_5 hg_5 rfl 11 (by decide) (htb _ q2_169) (fun _ h9 => h9) rfl d_Certificate_tell_83 ?_
    refine lv_if_eq (tgt := 93) hx hb d_Certificate_tell_86 (by decide) (fun c86 => ?_) (fun c86 => ?_)
    · have p86 : ((ν a).2.2.2.1) = (0 : Int32) := c86
      refine lv_lconst (v := 0) hx hb d_Certificate_tell_93 (by decide) ?_
      exact W.lret (v := 0) hx hb hr (fun t ht hW => ⟨_, rfl, by unfold tellV; rw [if_neg s1_0, if_neg s1_1, if_neg s1_2, if_neg s1_3, if_pos s1_4]; rw [if_pos p86], ht⟩) (fun q h => by cases h) d_Certificate_tell_94
    · have p86 : ¬ (((ν a).2.2.2.1) = (0 : Int32)) := c86
      refine lv_lconst (v := 1) hx hb d_Certificate_tell_89 (by decide) ?_
      refine lv_goto (tgt := 94) hx hb d_Certificate_tell_90 (by decide) ?_
      exact W.lret (v := 1) hx hb hr (fun t ht hW => ⟨_, rfl, by unfold tellV; rw [if_neg s1_0, if_neg s1_1, if_neg s1_2, if_neg s1_3, if_pos s1_4]; rw [if_neg p86], ht⟩) (fun q h => by cases h) d_Certificate_tell_94
  by_cases s1_5 : i.toInt = 5
  · refine lv_tableIn (tgt := 95) hx hb d_Certificate_tell_1 (by omega) (by omega) (by rw [s1_5]; rfl) rfl ?_
    refine lv_aload_n hx hb d_Certificate_tell_95 rfl (lv_at hl 0 rfl) ?_
    obtain ⟨i_6, nm_6, pe_6, ec_6, se_6, su_6, mo_6, ok_6, ik_6, ha_6, si_6, en_6, bo_6, sg_6, is_6, iu_6, K_6, B_6, hg_6⟩ := ty_8 hTy ka
    obtain ⟨⟨A_6, knm_6⟩, ⟨B1_6, B2_6, kpe_6⟩, ⟨C1_6, C2_6, kec_6⟩, kse_6, ⟨z1_6, ksu_6⟩, ⟨z2_6, kmo_6⟩, ⟨z3_6, kok_6⟩, ⟨z4_6, kik_6⟩, kha_6, ksi_6, ken_6, ⟨z5_6, kbo_6⟩, ⟨z6_6, ksg_6⟩, ⟨z7_6, kis_6⟩⟩ := K_6
    refine va_get (v := .int ((ν a).2.2.2.2.1)) hx hb htb i_Certificate hown hK hP i_6 hg_6 rfl 12 (by decide) (htb _ q2_172) (fun _ h9 => h9) rfl d_Certificate_tell_96 ?_
    refine lv_i2l (v := ((ν a).2.2.2.2.1).toInt64) hx hb d_Certificate_tell_99 rfl ?_
    exact W.lret (v := ((ν a).2.2.2.2.1).toInt64) hx hb hr (fun t ht hW => ⟨_, rfl, by unfold tellV; rw [if_neg s1_0, if_neg s1_1, if_neg s1_2, if_neg s1_3, if_neg s1_4, if_pos s1_5], ht⟩) (fun q h => by cases h) d_Certificate_tell_100
  by_cases s1_6 : i.toInt = 6
  · refine lv_tableIn (tgt := 101) hx hb d_Certificate_tell_1 (by omega) (by omega) (by rw [s1_6]; rfl) rfl ?_
    refine lv_aload_n hx hb d_Certificate_tell_101 rfl (lv_at hl 0 rfl) ?_
    obtain ⟨i_7, nm_7, pe_7, ec_7, se_7, su_7, mo_7, ok_7, ik_7, ha_7, si_7, en_7, bo_7, sg_7, is_7, iu_7, K_7, B_7, hg_7⟩ := ty_8 hTy ka
    obtain ⟨⟨A_7, knm_7⟩, ⟨B1_7, B2_7, kpe_7⟩, ⟨C1_7, C2_7, kec_7⟩, kse_7, ⟨z1_7, ksu_7⟩, ⟨z2_7, kmo_7⟩, ⟨z3_7, kok_7⟩, ⟨z4_7, kik_7⟩, kha_7, ksi_7, ken_7, ⟨z5_7, kbo_7⟩, ⟨z6_7, ksg_7⟩, ⟨z7_7, kis_7⟩⟩ := K_7
    refine va_get (v := .int ((ν a).2.2.2.2.2.1)) hx hb htb i_Certificate hown hK hP i_7 hg_7 rfl 13 (by decide) (htb _ q2_175) (fun _ h9 => h9) rfl d_Certificate_tell_102 ?_
    refine lv_i2l (v := ((ν a).2.2.2.2.2.1).toInt64) hx hb d_Certificate_tell_105 rfl ?_
    exact W.lret (v := ((ν a).2.2.2.2.2.1).toInt64) hx hb hr (fun t ht hW => ⟨_, rfl, by unfold tellV; rw [if_neg s1_0, if_neg s1_1, if_neg s1_2, if_neg s1_3, if_neg s1_4, if_neg s1_5, if_pos s1_6], ht⟩) (fun q h => by cases h) d_Certificate_tell_106
  by_cases s1_7 : i.toInt = 7
  · refine lv_tableIn (tgt := 107) hx hb d_Certificate_tell_1 (by omega) (by omega) (by rw [s1_7]; rfl) rfl ?_
    refine lv_aload_n hx hb d_Certificate_tell_107 rfl (lv_at hl 0 rfl) ?_
    obtain ⟨i_8, nm_8, pe_8, ec_8, se_8, su_8, mo_8, ok_8, ik_8, ha_8, si_8, en_8, bo_8, sg_8, is_8, iu_8, K_8, B_8, hg_8⟩ := ty_8 hTy ka
    obtain ⟨⟨A_8, knm_8⟩, ⟨B1_8, B2_8, kpe_8⟩, ⟨C1_8, C2_8, kec_8⟩, kse_8, ⟨z1_8, ksu_8⟩, ⟨z2_8, kmo_8⟩, ⟨z3_8, kok_8⟩, ⟨z4_8, kik_8⟩, kha_8, ksi_8, ken_8, ⟨z5_8, kbo_8⟩, ⟨z6_8, ksg_8⟩, ⟨z7_8, kis_8⟩⟩ := K_8
    refine va_get (v := .ref nm_8) hx hb htb i_Certificate hown hK hP i_8 hg_8 rfl 0 (by decide) (htb _ q2_139) (fun _ h9 => h9) rfl d_Certificate_tell_108 ?_
    obtain ⟨i_9, l_9, d_9, kl_9, kd_9, hw_9, hg_9⟩ := ty_5 hTy knm_8
    refine va_getN (v := .ref l_9) hx hb htb i_NameSet hown hK hP i_9 hg_9 rfl 0 (by decide) (va_Nw.use rfl (hN.1 _ qn2_127)) (fun _ h9 => h9) rfl d_Certificate_tell_111 ?_
    obtain ⟨i_10, q_10, m_10, hK_10, he_10, hw_10, hg_10⟩ := ty_4 hTy kl_9
    refine vp_callSi (pu_callV (As := []) (rest := []) ⟨hx, hb, hml, hown, hts⟩ tbin (c_AL_size l dC dI sb l_9 q_10 p1 m_10) q5_154 q2_54 q2_55 q1_4 q2_56 (n := 0) (by decide +kernel) rfl ⟨rfl, rfl⟩ ⟨Nat.le_of_ble_eq_true rfl, Nat.le_of_ble_eq_true rfl⟩ ⟨Nat.le_of_ble_eq_true rfl, Nat.le_of_ble_eq_true rfl⟩ hN hT0 hK hP [i_10] (by simp only [List.filterMap_cons, List.filterMap_nil, hg_10]) [] rfl i_10 11 hg_10 rfl rfl hl.1 rfl (Nat.le_of_ble_eq_true rfl) d_Certificate_tell_114) (fun r114 hr114 => ?_)
    subst hr114
    refine lv_i2l (v := (nI p1).toInt64) hx hb d_Certificate_tell_117 rfl ?_
    exact W.lret (v := (nI p1).toInt64) hx hb hr (fun t ht hW => ⟨_, rfl, by unfold tellV; rw [if_neg s1_0, if_neg s1_1, if_neg s1_2, if_neg s1_3, if_neg s1_4, if_neg s1_5, if_neg s1_6, if_pos s1_7], ht⟩) (fun q h => by cases h) d_Certificate_tell_118
  by_cases s1_8 : i.toInt = 8
  · refine lv_tableIn (tgt := 119) hx hb d_Certificate_tell_1 (by omega) (by omega) (by rw [s1_8]; rfl) rfl ?_
    refine lv_aload_n hx hb d_Certificate_tell_119 rfl (lv_at hl 0 rfl) ?_
    obtain ⟨i_11, nm_11, pe_11, ec_11, se_11, su_11, mo_11, ok_11, ik_11, ha_11, si_11, en_11, bo_11, sg_11, is_11, iu_11, K_11, B_11, hg_11⟩ := ty_8 hTy ka
    obtain ⟨⟨A_11, knm_11⟩, ⟨B1_11, B2_11, kpe_11⟩, ⟨C1_11, C2_11, kec_11⟩, kse_11, ⟨z1_11, ksu_11⟩, ⟨z2_11, kmo_11⟩, ⟨z3_11, kok_11⟩, ⟨z4_11, kik_11⟩, kha_11, ksi_11, ken_11, ⟨z5_11, kbo_11⟩, ⟨z6_11, ksg_11⟩, ⟨z7_11, kis_11⟩⟩ := K_11
    refine va_get (v := .int ((ν a).1)) hx hb htb i_Certificate hown hK hP i_11 hg_11 rfl 8 (by decide) (htb _ q2_160) (fun _ h9 => h9) rfl d_Certificate_tell_120 ?_
    refine lv_i2l (v := ((ν a).1).toInt64) hx hb d_Certificate_tell_123 rfl ?_
    exact W.lret (v := ((ν a).1).toInt64) hx hb hr (fun t ht hW => ⟨_, rfl, by unfold tellV; rw [if_neg s1_0, if_neg s1_1, if_neg s1_2, if_neg s1_3, if_neg s1_4, if_neg s1_5, if_neg s1_6, if_neg s1_7, if_pos s1_8], ht⟩) (fun q h => by cases h) d_Certificate_tell_124
  by_cases s1_9 : i.toInt = 9
  · refine lv_tableIn (tgt := 125) hx hb d_Certificate_tell_1 (by omega) (by omega) (by rw [s1_9]; rfl) rfl ?_
    refine lv_aload_n hx hb d_Certificate_tell_125 rfl (lv_at hl 0 rfl) ?_
    obtain ⟨i_12, nm_12, pe_12, ec_12, se_12, su_12, mo_12, ok_12, ik_12, ha_12, si_12, en_12, bo_12, sg_12, is_12, iu_12, K_12, B_12, hg_12⟩ := ty_8 hTy ka
    obtain ⟨⟨A_12, knm_12⟩, ⟨B1_12, B2_12, kpe_12⟩, ⟨C1_12, C2_12, kec_12⟩, kse_12, ⟨z1_12, ksu_12⟩, ⟨z2_12, kmo_12⟩, ⟨z3_12, kok_12⟩, ⟨z4_12, kik_12⟩, kha_12, ksi_12, ken_12, ⟨z5_12, kbo_12⟩, ⟨z6_12, ksg_12⟩, ⟨z7_12, kis_12⟩⟩ := K_12
    refine va_get (v := .int ((ν a).2.2.2.2.2.2.1)) hx hb htb i_Certificate hown hK hP i_12 hg_12 rfl 14 (by decide) (htb _ q2_177) (fun _ h9 => h9) rfl d_Certificate_tell_126 ?_
    refine lv_i2l (v := ((ν a).2.2.2.2.2.2.1).toInt64) hx hb d_Certificate_tell_129 rfl ?_
    exact W.lret (v := ((ν a).2.2.2.2.2.2.1).toInt64) hx hb hr (fun t ht hW => ⟨_, rfl, by unfold tellV; rw [if_neg s1_0, if_neg s1_1, if_neg s1_2, if_neg s1_3, if_neg s1_4, if_neg s1_5, if_neg s1_6, if_neg s1_7, if_neg s1_8, if_pos s1_9], ht⟩) (fun q h => by cases h) d_Certificate_tell_130
  by_cases s1_10 : i.toInt = 10
  · refine lv_tableIn (tgt := 131) hx hb d_Certificate_tell_1 (by omega) (by omega) (by rw [s1_10]; rfl) rfl ?_
    refine lv_aload_n hx hb d_Certificate_tell_131 rfl (lv_at hl 0 rfl) ?_
    obtain ⟨i_13, nm_13, pe_13, ec_13, se_13, su_13, mo_13, ok_13, ik_13, ha_13, si_13, en_13, bo_13, sg_13, is_13, iu_13, K_13, B_13, hg_13⟩ := ty_8 hTy ka
    obtain ⟨⟨A_13, knm_13⟩, ⟨B1_13, B2_13, kpe_13⟩, ⟨C1_13, C2_13, kec_13⟩, kse_13, ⟨z1_13, ksu_13⟩, ⟨z2_13, kmo_13⟩, ⟨z3_13, kok_13⟩, ⟨z4_13, kik_13⟩, kha_13, ksi_13, ken_13, ⟨z5_13, kbo_13⟩, ⟨z6_13, ksg_13⟩, ⟨z7_13, kis_13⟩⟩ := K_13
    refine va_get (v := .int ((ν a).2.2.2.2.2.2.2.2.2.2.2.1)) hx hb htb i_Certificate hown hK hP i_13 hg_13 rfl 27 (by decide) (htb _ q2_236) (fun x9 h9 => u_same (htb _ q2_232) x9 h9) rfl d_Certificate_tell_132 ?_
    refine lv_i2l (v := ((ν a).2.2.2.2.2.2.2.2.2.2.2.1).toInt64) hx hb d_Certificate_tell_135 rfl ?_
    exact W.lret (v := ((ν a).2.2.2.2.2.2.2.2.2.2.2.1).toInt64) hx hb hr (fun t ht hW => ⟨_, rfl, by unfold tellV; rw [if_neg s1_0, if_neg s1_1, if_neg s1_2, if_neg s1_3, if_neg s1_4, if_neg s1_5, if_neg s1_6, if_neg s1_7, if_neg s1_8, if_neg s1_9, if_pos s1_10], ht⟩) (fun q h => by cases h) d_Certificate_tell_136
  refine lv_tableOut (tgt := 137) hx hb d_Certificate_tell_1 (by omega) rfl ?_
  refine lv_aload_n hx hb d_Certificate_tell_137 rfl (lv_at hl 0 rfl) ?_
  obtain ⟨i_14, nm_14, pe_14, ec_14, se_14, su_14, mo_14, ok_14, ik_14, ha_14, si_14, en_14, bo_14, sg_14, is_14, iu_14, K_14, B_14, hg_14⟩ := ty_8 hTy ka
  obtain ⟨⟨A_14, knm_14⟩, ⟨B1_14, B2_14, kpe_14⟩, ⟨C1_14, C2_14, kec_14⟩, kse_14, ⟨z1_14, ksu_14⟩, ⟨z2_14, kmo_14⟩, ⟨z3_14, kok_14⟩, ⟨z4_14, kik_14⟩, kha_14, ksi_14, ken_14, ⟨z5_14, kbo_14⟩, ⟨z6_14, ksg_14⟩, ⟨z7_14, kis_14⟩⟩ := K_14
  refine va_get (v := .ref se_14) hx hb htb i_Certificate hown hK hP i_14 hg_14 rfl 3 (by decide) (htb _ q2_147) (fun _ h9 => h9) rfl d_Certificate_tell_138 ?_
  obtain ⟨i_15, t_15, n_15, f_15, gt_15, kt_15, hb_15, hm_15, hg_15⟩ := ty_2 hTy kse_14
  refine vp_callSi (pu_callV (As := []) (rest := []) ⟨hx, hb, hml, hown, hts⟩ tbin (c_Slice_length l dC dI sb se_14 t_15 f_15 (f_15 + p2) (by omega)) q5_45 q3_144 q3_145 q1_22 q3_146 (n := 0) (by decide +kernel) rfl ⟨rfl, rfl⟩ ⟨Nat.le_of_ble_eq_true rfl, Nat.le_of_ble_eq_true rfl⟩ ⟨Nat.le_of_ble_eq_true rfl, Nat.le_of_ble_eq_true rfl⟩ hN hT0 hK hP [i_15] (by simp only [List.filterMap_cons, List.filterMap_nil, hg_15]) [] rfl i_15 0 hg_15 rfl rfl hl.1 rfl (Nat.le_of_ble_eq_true rfl) d_Certificate_tell_141) (fun r141 hr141 => ?_)
  rw [show (f_15 + p2) - f_15 = p2 by omega] at hr141
  subst hr141
  refine lv_i2l (v := (nI p2).toInt64) hx hb d_Certificate_tell_144 rfl ?_
  exact W.lret (v := (nI p2).toInt64) hx hb hr (fun t ht hW => ⟨_, rfl, by unfold tellV; rw [if_neg s1_0, if_neg s1_1, if_neg s1_2, if_neg s1_3, if_neg s1_4, if_neg s1_5, if_neg s1_6, if_neg s1_7, if_neg s1_8, if_neg s1_9, if_neg s1_10], ht⟩) (fun q h => by cases h) d_Certificate_tell_145
theorem d_Trust_digest_28 : decode b_Trust_digest 28 = .ok (.aload_n 0, 1) := by decide +kernel
theorem d_Trust_digest_29 : decode b_Trust_digest 29 = .ok (.getfield 19, 3) := by decide +kernel
theorem d_Trust_digest_32 : decode b_Trust_digest 32 = .ok (.iload_n 1, 1) := by decide +kernel
theorem d_Trust_digest_33 : decode b_Trust_digest 33 = .ok (.invokevirtual 165, 3) := by decide +kernel
theorem d_Trust_digest_36 : decode b_Trust_digest 36 = .ok (.checkcast 120, 3) := by decide +kernel
theorem d_Trust_digest_39 : decode b_Trust_digest 39 = .ok (.getfield 125, 3) := by decide +kernel
theorem d_Trust_digest_42 : decode b_Trust_digest 42 = .ok (.iload_n 2, 1) := by decide +kernel
theorem d_Trust_digest_43 : decode b_Trust_digest 43 = .ok (.iaload, 1) := by decide +kernel
theorem d_Trust_digest_44 : decode b_Trust_digest 44 = .ok (.ireturn, 1) := by decide +kernel
set_option maxHeartbeats 4000000 in
set_option maxRecDepth 100000 in
theorem z_Trust_digest (l : Launch) (hl0 : l.stackTraces = false) (dC : Nat → ClassId) (dI : Nat → Nat → Nat) (sb : sB) (γ : cG) (κ : kE) (Ad : List Nat) (ν : Nat → cN) (ω : Nat → List Nat) (L : Nat) (G : va_W) (fe ho ce li sh rs se ch fo q0 pl : Nat) (o : alD) (as : List Nat) (foS chS faP feS wrP : Int32) (i j : Int32) (sz : Nat) (hC : CKx sb κ Ad ω ho ce li sh rs se ch fo q0 pl) (hW0 : CWx γ sb κ Ad ν ω fe ho ce li sh rs se ch fo q0 pl (G, L, o, as, foS, chS, faP, feS, wrP))   : vx_Met l y_Trust_digest w_Trust_digest ({ frames := 6, cells := 1, slots := 6, locals := 104 }) (mx_P [.ref q0, .int i, .int j] (dC, dI) sb G [(γ.1, .byte), (γ.2.1, .int), (γ.2.2.1, .long), (γ.2.2.2, .object "java/lang/Object")] sz) (va_Qi (fun r (u' : cU) => CWx γ sb κ Ad ν ω fe ho ce li sh rs se ch fo q0 pl u' ∧ FRq γ Ad q0 pl G u'.1 ∧ (u'.2.2.2.2 = (foS, chS, faP, feS, wrP) ∧ (¬ i < 0 ∧ i < nI (ω ce).length) ∧ ¬ j < 0 ∧ j < 8 ∧ ∃ k m, k < (ω ce).length ∧ i = nI k ∧ m < 8 ∧ j = nI m ∧ r = wN (ν ((ω ((ω ce).getD k 0)).getD 0 0)) m)) (mu_B (dC, dI) [(γ.1, .byte), (γ.2.1, .int), (γ.2.2.1, .long), (γ.2.2.2, .object "java/lang/Object")] (va_A G sz) (fun u' : cU => u'.1)) (va_A G sz)) (mx_X (fun (E : String) (u' : cU) => CWx γ sb κ Ad ν ω fe ho ce li sh rs se ch fo q0 pl u' ∧ FRq γ Ad q0 pl G u'.1 ∧ (u'.2.2.2.2 = (foS, chS, faP, feS, wrP) ∧ E = "java/lang/IndexOutOfBoundsException" ∧ ¬ ((¬ i < 0 ∧ i < nI (ω ce).length) ∧ ¬ j < 0 ∧ j < 8))) (dC, dI) [(γ.1, .byte), (γ.2.1, .int), (γ.2.2.1, .long), (γ.2.2.2, .object "java/lang/Object")] (va_A G sz) (fun u' : cU => u'.1)) 1 6 (va_A G sz) := by
  refine vx_ofW (cc := b_Trust_digest) (maxL := 3) (ret := (some FieldType.int)) (by decide) rfl ?_
  intro p e s m args below meth c s₁ B hml hnoh hv
  obtain ⟨rfl, hsz, hB0, hP, hK, hD0, hN, hT0, hTh⟩ := hv
  have hx := B.exec
  have hb := B.bytes
  have hr := B.returns
  have hts := atoms_spec (ws := w_Trust_digest) B.pre
  have tbin : ∀ w ∈ tb, w ∈ w_Trust_digest := fun w h => List.mem_cons_of_mem _ h
  have htb : ∀ w ∈ tb, w.before _ s = true := fun w h => hts w (tbin w h)
  have hown : s.vm.findClass "TrustChain" = some m.cls := findClass_of_methodNamed B.named
  have hlocks := B.notSynchronized
  subst hsz
  have hD := hD0.self (sz := s.heap.size)
  generalize hAe : va_A G s.heap.size = A at hD ⊢
  have hA : ∀ q : Nat, s.heap.size ≤ q → A q := fun q h => by rw [← hAe]; exact Or.inr h
  have hAs : ∀ q : Nat, A q → sb.1 ≤ q := fun q h => by
    rw [← hAe] at h
    rcases h with ⟨k, e, h⟩ | h
    · exact hD0.2 k _ h
    · exact Nat.le_trans hB0 h
  have hS : va_S A s.heap s.heap [] := va_S.rf
  have hFR := FRq.rf γ Ad q0 pl G
  have hcs : 1 ≤ (headSpec w_Trust_digest ({ frames := 6, cells := 1, slots := 6, locals := 104 })).room.cells ∧ 6 ≤ (headSpec w_Trust_digest ({ frames := 6, cells := 1, slots := 6, locals := 104 })).room.slots := ⟨Nat.le_refl _, Nat.le_refl _⟩
  have hP : va_P (dC, dI) classes G s.heap := hP
  have hC0 := hC
  obtain ⟨⟨kho, kce, kli, ksh, krs, kse, kch, kfo⟩, h1, hce9, hli9, hqp, hN14, hN16⟩ := hC
  obtain ⟨hTy, hL, kq0, kpl, h16⟩ := hW0
  dsimp only at hTy hL kq0 kpl h16
  have hl := lv_entry ([.ref q0, .int i, .int j]) (n := 3) (Nat.le_of_ble_eq_true rfl)
  rw [lg_entry_eq]
  generalize (lg_sl ([.ref q0, .int i, .int j]) ++ List.replicate (3 - (lg_sl ([.ref q0, .int i, .int j])).length) Slot.unset).toArray = ls at hl ⊢
  have hl : lv_has ls 3 [(0, .ref q0), (1, .int i), (2, .int j)] := hl
  refine lv_aload_n hx hb d_Trust_digest_0 rfl (lv_at hl 0 rfl) ?_
  refine lv_iload_n hx hb d_Trust_digest_1 rfl (lv_at hl 1 rfl) ?_
  obtain ⟨i_1, hg_1⟩ := List.getElem?_of_mem kq0.2
  obtain ⟨i_2, q_2, m_2, hK_2, he_2, hg_2⟩ := ty_15 hTy kce
  refine vp_callSi (pu_callV (As := [.int i]) (rest := []) ⟨hx, hb, hml, hown, hts⟩ tbin (c_Trust_isStored l dC dI sb q0 fe ho ce li sh rs se ch fo foS chS faP feS wrP q_2 (ω ce).length m_2 i) q5_137 q5_139 qp_18 q1_1 q5_140 (n := 1) (by decide +kernel) rfl ⟨rfl, rfl⟩ ⟨Nat.le_of_ble_eq_true rfl, Nat.le_of_ble_eq_true rfl⟩ ⟨Nat.le_of_ble_eq_true rfl, Nat.le_of_ble_eq_true rfl⟩ hN (hT0.keep hS hAs) hK hP [i_1, i_2] (by simp only [List.filterMap_cons, List.filterMap_nil, hg_1, hg_2]) [] rfl i_1 10 hg_1 rfl rfl hl.1 rfl (Nat.le_of_ble_eq_true rfl) d_Trust_digest_2) (fun r2 hr2 => ?_)
  obtain rfl := Eq.symm (bz_zP hr2)
  refine lv_if_eq (tgt := 18) hx hb d_Trust_digest_5 (by decide) (fun c5 => ?_) (fun c5 => ?_)
  · have p5 : ¬ (¬ i < 0 ∧ i < nI (ω ce).length) := (zP_0.mp c5)
    obtain ⟨sa, hsa⟩ := hTh.2.2.1 (199, "no such certificate or word") (by decide)
    exact vx_throwS (own := "TrustChain") (cls := "java/lang/IndexOutOfBoundsException") (text := "no such certificate or word") (names := xUp) (ik := 74) (is := 199) (ic := 78) (sa := sa) (A := A) hx hb hl0 hown (by decide) (by decide) (htb _ q1_211) (htb _ q1_14) hsa (x_hat x_ot78 x_gd78 x_nw78 htb hN) x_ot78 (hTh.1.narrow hAs) (hTh.2.1.narrow hAs) hS (hl.1.trans hml.symm) d_Trust_digest_18 d_Trust_digest_21 d_Trust_digest_22 d_Trust_digest_24 d_Trust_digest_27 (fun x h => (hnoh x h).elim) (Nat.le_of_ble_eq_true rfl) (Nat.le_of_ble_eq_true rfl) (Nat.le_of_ble_eq_true rfl) (Nat.le_of_ble_eq_true rfl) hlocks (x_end (G, L, o, as, foS, chS, faP, feS, wrP) ⟨⟨hTy, hL, kq0, kpl, h16⟩, hFR, rfl, rfl, fun q => p5 q.1⟩ hP hK hD hS) hS.2.2 (Nat.le_of_ble_eq_true rfl) (Nat.le_of_ble_eq_true rfl)
  · have p5 : ¬ i < 0 ∧ i < nI (ω ce).length := (zP_1 c5)
    refine lv_iload_n hx hb d_Trust_digest_8 rfl (lv_at hl 2 rfl) ?_
    refine lv_if_lt (tgt := 18) hx hb d_Trust_digest_9 (by decide) (fun c9 => ?_) (fun c9 => ?_)
    · have p9 : j < (0 : Int32) := c9
      obtain ⟨sa, hsa⟩ := hTh.2.2.1 (199, "no such certificate or word") (by decide)
      exact vx_throwS (own := "TrustChain") (cls := "java/lang/IndexOutOfBoundsException") (text := "no such certificate or word") (names := xUp) (ik := 74) (is := 199) (ic := 78) (sa := sa) (A := A) hx hb hl0 hown (by decide) (by decide) (htb _ q1_211) (htb _ q1_14) hsa (x_hat x_ot78 x_gd78 x_nw78 htb hN) x_ot78 (hTh.1.narrow hAs) (hTh.2.1.narrow hAs) hS (hl.1.trans hml.symm) d_Trust_digest_18 d_Trust_digest_21 d_Trust_digest_22 d_Trust_digest_24 d_Trust_digest_27 (fun x h => (hnoh x h).elim) (Nat.le_of_ble_eq_true rfl) (Nat.le_of_ble_eq_true rfl) (Nat.le_of_ble_eq_true rfl) (Nat.le_of_ble_eq_true rfl) hlocks (x_end (G, L, o, as, foS, chS, faP, feS, wrP) ⟨⟨hTy, hL, kq0, kpl, h16⟩, hFR, rfl, rfl, fun q => q.2.1 p9⟩ hP hK hD hS) hS.2.2 (Nat.le_of_ble_eq_true rfl) (Nat.le_of_ble_eq_true rfl)
    · have p9 : ¬ (j < (0 : Int32)) := c9
      refine lv_iload_n hx hb d_Trust_digest_12 rfl (lv_at hl 2 rfl) ?_
      refine lv_bipush (v := 8) hx hb d_Trust_digest_13 (by decide) ?_
      refine lv_icmp_lt (tgt := 28) hx hb d_Trust_digest_15 (by decide) (fun c15 => ?_) (fun c15 => ?_)
      · have p15 : j < (8 : Int32) := c15
        obtain ⟨k, hk, ek⟩ := nI_at9 p5.1 p5.2 (by omega)
        subst ek
        refine lv_aload_n hx hb d_Trust_digest_28 rfl (lv_at hl 0 rfl) ?_
        refine va_get (v := .ref ce) hx hb htb i_Trust hown hK hP i_1 hg_1 rfl 2 (by decide) (htb _ q1_158) (fun _ h9 => h9) rfl d_Trust_digest_29 ?_
        refine lv_iload_n hx hb d_Trust_digest_32 rfl (lv_at hl 1 rfl) ?_
        obtain ⟨cap_3, kq_3⟩ := he_2 (by omega)
        obtain ⟨i_4, f_4, hK_4, hc_4, he_4, hg_4⟩ := ty_14 hTy kq_3
        obtain ⟨hf_3, p_3, q_3, ks_3⟩ := he_4 k (by omega)
        obtain ⟨s_3, es_3⟩ : ∃ z, z = (ω ce).getD k 0 := ⟨_, rfl⟩
        rw [← es_3] at hf_3 ks_3
        refine va_csr (pu_callV (As := [.int (nI k)]) (rest := []) ⟨hx, hb, hml, hown, hts⟩ tbin (c_AL_get l dC dI sb ce q_2 ((ω ce).length) cap_3 k s_3 m_2 γ.2.2.2 f_4 (by omega) hK_4 (by omega) hf_3) q5_39 q4_210 q4_211 q1_4 q4_212 (n := 1) (by decide +kernel) rfl ⟨rfl, rfl⟩ ⟨Nat.le_of_ble_eq_true rfl, Nat.le_of_ble_eq_true rfl⟩ ⟨Nat.le_of_ble_eq_true rfl, Nat.le_of_ble_eq_true rfl⟩ hN (hT0.keep hS hAs) hK hP [i_2, i_4] (by simp only [List.filterMap_cons, List.filterMap_nil, hg_2, hg_4]) [3] rfl i_2 11 hg_2 rfl rfl hl.1 rfl (Nat.le_of_ble_eq_true rfl) d_Trust_digest_33) (fun r33 hr33 => ?_)
        obtain rfl := Eq.symm hr33
        obtain ⟨i_5, nm_5, pe_5, ec_5, se_5, su_5, mo_5, ok_5, ik_5, ha_5, si_5, en_5, bo_5, sg_5, is_5, iu_5, K_5, B_5, hg_5⟩ := ty_8 hTy ks_3
        obtain ⟨⟨A_5, knm_5⟩, ⟨B1_5, B2_5, kpe_5⟩, ⟨C1_5, C2_5, kec_5⟩, kse_5, ⟨z1_5, ksu_5⟩, ⟨z2_5, kmo_5⟩, ⟨z3_5, kok_5⟩, ⟨z4_5, kik_5⟩, kha_5, ksi_5, ken_5, ⟨z5_5, kbo_5⟩, ⟨z6_5, ksg_5⟩, ⟨z7_5, kis_5⟩⟩ := K_5
        refine va_castY (C := "TrustChain$Certificate") hx hb hown (htb _ q5_40) (hN.1 _ qn9_223) (va_recv (ci := 3) hK hP rfl hg_5) d_Trust_digest_36 ?_
        refine va_get (v := .ref ha_5) hx hb htb i_Certificate hown hK hP i_5 hg_5 rfl 19 (by decide) (htb _ q2_193) (fun x9 h9 => u_same (htb _ q2_194) x9 h9) rfl d_Trust_digest_39 ?_
        refine lv_iload_n hx hb d_Trust_digest_42 rfl (lv_at hl 2 rfl) ?_
        obtain ⟨i_6, f_6, h8_6, hg_6⟩ := ty_6h hTy kha_5
        have h43 : vp_in j 8 := vp_in_of2 p9 (show j < nI 8 from p15) (by decide)
        refine va_iald hx hb hK hP i_6 1 hg_6 rfl h43 d_Trust_digest_43 ?_
        refine lv_topi (fun e43 he43 => ?_)
        obtain ⟨m9, hm9, em9⟩ := nI_at9 p9 (show j < nI 8 from p15) (by decide)
        exact vx_ret (x_wide 1 6 (Nat.le_of_ble_eq_true rfl) (Nat.le_of_ble_eq_true rfl) (W.iret (v := e43) hx hb hr (fun t ht hW => ⟨⟨_, (G, L, o, as, foS, chS, faP, feS, wrP), rfl, ⟨⟨hTy, hL, kq0, kpl, h16⟩, hFR, rfl, p5, p9, p15, k, m9, hk, rfl, hm9, em9, by rw [← es_3, B_5.2.2.2.1, he43, em9, nI_clamp (by omega)]; exact h8_6 m9 hm9⟩, ⟨by rw [ht]; exact hP, va_K.moved hW.alike hK, hD⟩⟩, hS.F ht⟩) hS.2.2 d_Trust_digest_44))
      · have p15 : ¬ (j < (8 : Int32)) := c15
        obtain ⟨sa, hsa⟩ := hTh.2.2.1 (199, "no such certificate or word") (by decide)
        exact vx_throwS (own := "TrustChain") (cls := "java/lang/IndexOutOfBoundsException") (text := "no such certificate or word") (names := xUp) (ik := 74) (is := 199) (ic := 78) (sa := sa) (A := A) hx hb hl0 hown (by decide) (by decide) (htb _ q1_211) (htb _ q1_14) hsa (x_hat x_ot78 x_gd78 x_nw78 htb hN) x_ot78 (hTh.1.narrow hAs) (hTh.2.1.narrow hAs) hS (hl.1.trans hml.symm) d_Trust_digest_18 d_Trust_digest_21 d_Trust_digest_22 d_Trust_digest_24 d_Trust_digest_27 (fun x h => (hnoh x h).elim) (Nat.le_of_ble_eq_true rfl) (Nat.le_of_ble_eq_true rfl) (Nat.le_of_ble_eq_true rfl) (Nat.le_of_ble_eq_true rfl) hlocks (x_end (G, L, o, as, foS, chS, faP, feS, wrP) ⟨⟨hTy, hL, kq0, kpl, h16⟩, hFR, rfl, rfl, fun q => p15 q.2.2⟩ hP hK hD hS) hS.2.2 (Nat.le_of_ble_eq_true rfl) (Nat.le_of_ble_eq_true rfl)
theorem d_Trust_part_38 : decode b_Trust_part 38 = .ok (.aload_n 0, 1) := by decide +kernel
theorem d_Trust_part_39 : decode b_Trust_part 39 = .ok (.getfield 19, 3) := by decide +kernel
theorem d_Trust_part_42 : decode b_Trust_part 42 = .ok (.iload_n 1, 1) := by decide +kernel
theorem d_Trust_part_43 : decode b_Trust_part 43 = .ok (.invokevirtual 165, 3) := by decide +kernel
theorem d_Trust_part_46 : decode b_Trust_part 46 = .ok (.checkcast 120, 3) := by decide +kernel
theorem d_Trust_part_49 : decode b_Trust_part 49 = .ok (.iload_n 2, 1) := by decide +kernel
theorem d_Trust_part_50 : decode b_Trust_part 50 = .ok (.invokevirtual 171, 3) := by decide +kernel
theorem d_Trust_part_53 : decode b_Trust_part 53 = .ok (.lreturn, 1) := by decide +kernel
theorem i_gt {x y : Int32} (h : ¬ x ≤ y) : y < x := by
  rw [Int32.le_iff_toInt_le] at h
  rw [Int32.lt_iff_toInt_lt]
  omega
theorem i_ng {x y : Int32} (h : x ≤ y) : ¬ y < x := by
  rw [Int32.le_iff_toInt_le] at h
  rw [Int32.lt_iff_toInt_lt]
  omega
set_option maxHeartbeats 4000000 in
set_option maxRecDepth 100000 in
theorem z_Trust_part (l : Launch) (hl0 : l.stackTraces = false) (dC : Nat → ClassId) (dI : Nat → Nat → Nat) (sb : sB) (γ : cG) (κ : kE) (Ad : List Nat) (ν : Nat → cN) (ω : Nat → List Nat) (L : Nat) (G : va_W) (fe ho ce li sh rs se ch fo q0 pl : Nat) (o : alD) (as : List Nat) (foS chS faP feS wrP : Int32) (i j : Int32) (sz : Nat) (hC : CKx sb κ Ad ω ho ce li sh rs se ch fo q0 pl) (hW0 : CWx γ sb κ Ad ν ω fe ho ce li sh rs se ch fo q0 pl (G, L, o, as, foS, chS, faP, feS, wrP))   : vx_Met l y_Trust_part w_Trust_part ({ frames := 6, cells := 1, slots := 6, locals := 104 }) (mx_P [.ref q0, .int i, .int j] (dC, dI) sb G [(γ.1, .byte), (γ.2.1, .int), (γ.2.2.1, .long), (γ.2.2.2, .object "java/lang/Object")] sz) (va_Ql (fun r (u' : cU) => CWx γ sb κ Ad ν ω fe ho ce li sh rs se ch fo q0 pl u' ∧ FRq γ Ad q0 pl G u'.1 ∧ (u'.2.2.2.2 = (foS, chS, faP, feS, wrP) ∧ ¬ (j < 0 ∨ 11 < j) ∧ ∃ k, k < (ω ce).length ∧ i = nI k ∧ ∃ K len, κ ((ω ce).getD k 0) = (8, K, len) ∧ r = tellV (ν ((ω ce).getD k 0)) K len j)) (mu_B (dC, dI) [(γ.1, .byte), (γ.2.1, .int), (γ.2.2.1, .long), (γ.2.2.2, .object "java/lang/Object")] (va_A G sz) (fun u' : cU => u'.1)) (va_A G sz)) (mx_X (fun (E : String) (u' : cU) => CWx γ sb κ Ad ν ω fe ho ce li sh rs se ch fo q0 pl u' ∧ FRq γ Ad q0 pl G u'.1 ∧ (u'.2.2.2.2 = (foS, chS, faP, feS, wrP) ∧ ((E = "java/lang/IllegalArgumentException" ∧ (j < 0 ∨ 11 < j)) ∨ (E = "java/lang/IndexOutOfBoundsException" ∧ ¬ (j < 0 ∨ 11 < j) ∧ ¬ (¬ i < 0 ∧ i < nI (ω ce).length))))) (dC, dI) [(γ.1, .byte), (γ.2.1, .int), (γ.2.2.1, .long), (γ.2.2.2, .object "java/lang/Object")] (va_A G sz) (fun u' : cU => u'.1)) 1 6 (va_A G sz) := by
  refine vx_ofW (cc := b_Trust_part) (maxL := 3) (ret := (some FieldType.long)) (by decide) rfl ?_
  intro p e s m args below meth c s₁ B hml hnoh hv
  obtain ⟨rfl, hsz, hB0, hP, hK, hD0, hN, hT0, hTh⟩ := hv
  have hx := B.exec
  have hb := B.bytes
  have hr := B.returns
  have hts := atoms_spec (ws := w_Trust_part) B.pre
  have tbin : ∀ w ∈ tb, w ∈ w_Trust_part := fun w h => List.mem_cons_of_mem _ h
  have htb : ∀ w ∈ tb, w.before _ s = true := fun w h => hts w (tbin w h)
  have hown : s.vm.findClass "TrustChain" = some m.cls := findClass_of_methodNamed B.named
  have hlocks := B.notSynchronized
  subst hsz
  have hD := hD0.self (sz := s.heap.size)
  generalize hAe : va_A G s.heap.size = A at hD ⊢
  have hA : ∀ q : Nat, s.heap.size ≤ q → A q := fun q h => by rw [← hAe]; exact Or.inr h
  have hAs : ∀ q : Nat, A q → sb.1 ≤ q := fun q h => by
    rw [← hAe] at h
    rcases h with ⟨k, e, h⟩ | h
    · exact hD0.2 k _ h
    · exact Nat.le_trans hB0 h
  have hS : va_S A s.heap s.heap [] := va_S.rf
  have hFR := FRq.rf γ Ad q0 pl G
  have hcs : 1 ≤ (headSpec w_Trust_part ({ frames := 6, cells := 1, slots := 6, locals := 104 })).room.cells ∧ 6 ≤ (headSpec w_Trust_part ({ frames := 6, cells := 1, slots := 6, locals := 104 })).room.slots := ⟨Nat.le_refl _, Nat.le_refl _⟩
  have hP : va_P (dC, dI) classes G s.heap := hP
  have hC0 := hC
  obtain ⟨⟨kho, kce, kli, ksh, krs, kse, kch, kfo⟩, h1, hce9, hli9, hqp, hN14, hN16⟩ := hC
  obtain ⟨hTy, hL, kq0, kpl, h16⟩ := hW0
  dsimp only at hTy hL kq0 kpl h16
  have hl := lv_entry ([.ref q0, .int i, .int j]) (n := 3) (Nat.le_of_ble_eq_true rfl)
  rw [lg_entry_eq]
  generalize (lg_sl ([.ref q0, .int i, .int j]) ++ List.replicate (3 - (lg_sl ([.ref q0, .int i, .int j])).length) Slot.unset).toArray = ls at hl ⊢
  have hl : lv_has ls 3 [(0, .ref q0), (1, .int i), (2, .int j)] := hl
  refine lv_iload_n hx hb d_Trust_part_0 rfl (lv_at hl 2 rfl) ?_
  refine lv_if_lt (tgt := 10) hx hb d_Trust_part_1 (by decide) (fun c1 => ?_) (fun c1 => ?_)
  · have p1 : j < (0 : Int32) := c1
    obtain ⟨sa, hsa⟩ := hTh.2.2.1 (169, "no such part") (by decide)
    exact vx_throwS (own := "TrustChain") (cls := "java/lang/IllegalArgumentException") (text := "no such part") (names := xUp) (ik := 110) (is := 169) (ic := 114) (sa := sa) (A := A) hx hb hl0 hown (by decide) (by decide) (htb _ q4_233) (htb _ q1_27) hsa (x_hat x_ot114 x_gd114 x_nw114 htb hN) x_ot114 (hTh.1.narrow hAs) (hTh.2.1.narrow hAs) hS (hl.1.trans hml.symm) d_Trust_part_10 d_Trust_part_13 d_Trust_part_14 d_Trust_part_16 d_Trust_part_19 (fun x h => (hnoh x h).elim) (Nat.le_of_ble_eq_true rfl) (Nat.le_of_ble_eq_true rfl) (Nat.le_of_ble_eq_true rfl) (Nat.le_of_ble_eq_true rfl) hlocks (x_end (G, L, o, as, foS, chS, faP, feS, wrP) ⟨⟨hTy, hL, kq0, kpl, h16⟩, hFR, rfl, Or.inl ⟨rfl, Or.inl p1⟩⟩ hP hK hD hS) hS.2.2 (Nat.le_of_ble_eq_true rfl) (Nat.le_of_ble_eq_true rfl)
  · have p1 : ¬ (j < (0 : Int32)) := c1
    refine lv_iload_n hx hb d_Trust_part_4 rfl (lv_at hl 2 rfl) ?_
    refine lv_bipush (v := 11) hx hb d_Trust_part_5 (by decide) ?_
    refine lv_icmp_le (tgt := 20) hx hb d_Trust_part_7 (by decide) (fun c7 => ?_) (fun c7 => ?_)
    · have p7 : j ≤ (11 : Int32) := c7
      refine lv_aload_n hx hb d_Trust_part_20 rfl (lv_at hl 0 rfl) ?_
      refine lv_iload_n hx hb d_Trust_part_21 rfl (lv_at hl 1 rfl) ?_
      obtain ⟨i_1, hg_1⟩ := List.getElem?_of_mem kq0.2
      obtain ⟨i_2, q_2, m_2, hK_2, he_2, hg_2⟩ := ty_15 hTy kce
      refine vp_callSi (pu_callV (As := [.int i]) (rest := []) ⟨hx, hb, hml, hown, hts⟩ tbin (c_Trust_isStored l dC dI sb q0 fe ho ce li sh rs se ch fo foS chS faP feS wrP q_2 (ω ce).length m_2 i) q5_137 q5_139 qp_18 q1_1 q5_140 (n := 1) (by decide +kernel) rfl ⟨rfl, rfl⟩ ⟨Nat.le_of_ble_eq_true rfl, Nat.le_of_ble_eq_true rfl⟩ ⟨Nat.le_of_ble_eq_true rfl, Nat.le_of_ble_eq_true rfl⟩ hN (hT0.keep hS hAs) hK hP [i_1, i_2] (by simp only [List.filterMap_cons, List.filterMap_nil, hg_1, hg_2]) [] rfl i_1 10 hg_1 rfl rfl hl.1 rfl (Nat.le_of_ble_eq_true rfl) d_Trust_part_22) (fun r22 hr22 => ?_)
      obtain rfl := Eq.symm (bz_zP hr22)
      refine lv_if_ne (tgt := 38) hx hb d_Trust_part_25 (by decide) (fun c25 => ?_) (fun c25 => ?_)
      · have p25 : ¬ i < 0 ∧ i < nI (ω ce).length := (zP_1 c25)
        obtain ⟨k, hk, ek⟩ := nI_at9 p25.1 p25.2 (by omega)
        subst ek
        refine lv_aload_n hx hb d_Trust_part_38 rfl (lv_at hl 0 rfl) ?_
        refine va_get (v := .ref ce) hx hb htb i_Trust hown hK hP i_1 hg_1 rfl 2 (by decide) (htb _ q1_158) (fun _ h9 => h9) rfl d_Trust_part_39 ?_
        refine lv_iload_n hx hb d_Trust_part_42 rfl (lv_at hl 1 rfl) ?_
        obtain ⟨cap_3, kq_3⟩ := he_2 (by omega)
        obtain ⟨i_4, f_4, hK_4, hc_4, he_4, hg_4⟩ := ty_14 hTy kq_3
        obtain ⟨hf_3, p_3, q_3, ks_3⟩ := he_4 k (by omega)
        obtain ⟨s_3, es_3⟩ : ∃ z, z = (ω ce).getD k 0 := ⟨_, rfl⟩
        rw [← es_3] at hf_3 ks_3
        refine va_csr (pu_callV (As := [.int (nI k)]) (rest := []) ⟨hx, hb, hml, hown, hts⟩ tbin (c_AL_get l dC dI sb ce q_2 ((ω ce).length) cap_3 k s_3 m_2 γ.2.2.2 f_4 (by omega) hK_4 (by omega) hf_3) q5_39 q4_210 q4_211 q1_4 q4_212 (n := 1) (by decide +kernel) rfl ⟨rfl, rfl⟩ ⟨Nat.le_of_ble_eq_true rfl, Nat.le_of_ble_eq_true rfl⟩ ⟨Nat.le_of_ble_eq_true rfl, Nat.le_of_ble_eq_true rfl⟩ hN (hT0.keep hS hAs) hK hP [i_2, i_4] (by simp only [List.filterMap_cons, List.filterMap_nil, hg_2, hg_4]) [3] rfl i_2 11 hg_2 rfl rfl hl.1 rfl (Nat.le_of_ble_eq_true rfl) d_Trust_part_43) (fun r43 hr43 => ?_)
        obtain rfl := Eq.symm hr43
        obtain ⟨i_5, nm_5, pe_5, ec_5, se_5, su_5, mo_5, ok_5, ik_5, ha_5, si_5, en_5, bo_5, sg_5, is_5, iu_5, K_5, B_5, hg_5⟩ := ty_8 hTy ks_3
        obtain ⟨⟨A_5, knm_5⟩, ⟨B1_5, B2_5, kpe_5⟩, ⟨C1_5, C2_5, kec_5⟩, kse_5, ⟨z1_5, ksu_5⟩, ⟨z2_5, kmo_5⟩, ⟨z3_5, kok_5⟩, ⟨z4_5, kik_5⟩, kha_5, ksi_5, ken_5, ⟨z5_5, kbo_5⟩, ⟨z6_5, ksg_5⟩, ⟨z7_5, kis_5⟩⟩ := K_5
        refine va_castY (C := "TrustChain$Certificate") hx hb hown (htb _ q5_40) (hN.1 _ qn9_223) (va_recv (ci := 3) hK hP rfl hg_5) d_Trust_part_46 ?_
        refine lv_iload_n hx hb d_Trust_part_49 rfl (lv_at hl 2 rfl) ?_
        refine vp_callSl (pu_callV (As := [.int j]) (rest := []) ⟨hx, hb, hml, hown, hts⟩ tbin (p_Certificate_tell l dC dI sb γ κ Ad ν ω L G s_3 _ _ _ hTy ks_3 ) q5_150 q5_151 q5_152 q1_21 q5_153 (n := 1) (by decide +kernel) rfl ⟨rfl, rfl⟩ ⟨Nat.le_of_ble_eq_true rfl, Nat.le_of_ble_eq_true rfl⟩ ⟨Nat.le_of_ble_eq_true rfl, Nat.le_of_ble_eq_true rfl⟩ hN (hT0.keep hS hAs) hK hP (List.range G.length) (rg_all G) [0, 1, 2, 3] rfl i_5 3 hg_5 rfl rfl hl.1 rfl (Nat.le_of_ble_eq_true rfl) d_Trust_part_50) (fun r50 hr50 => ?_)
        exact vx_ret (x_wide 1 6 (Nat.le_of_ble_eq_true rfl) (Nat.le_of_ble_eq_true rfl) (W.lret (v := r50) hx hb hr (fun t ht hW => ⟨⟨_, (G, L, o, as, foS, chS, faP, feS, wrP), rfl, ⟨⟨hTy, hL, kq0, kpl, h16⟩, hFR, rfl, fun q => q.elim p1 (i_ng p7), k, hk, rfl, p_3, q_3, by rw [← es_3]; exact ks_3.2, by rw [← es_3]; exact hr50⟩, ⟨by rw [ht]; exact hP, va_K.moved hW.alike hK, hD⟩⟩, hS.F ht⟩) hS.2.2 d_Trust_part_53))
      · have p25 : ¬ (¬ i < 0 ∧ i < nI (ω ce).length) := (zP_0.mp c25)
        obtain ⟨sa, hsa⟩ := hTh.2.2.1 (163, "no such certificate") (by decide)
        exact vx_throwS (own := "TrustChain") (cls := "java/lang/IndexOutOfBoundsException") (text := "no such certificate") (names := xUp) (ik := 74) (is := 163) (ic := 78) (sa := sa) (A := A) hx hb hl0 hown (by decide) (by decide) (htb _ q1_211) (htb _ q1_14) hsa (x_hat x_ot78 x_gd78 x_nw78 htb hN) x_ot78 (hTh.1.narrow hAs) (hTh.2.1.narrow hAs) hS (hl.1.trans hml.symm) d_Trust_part_28 d_Trust_part_31 d_Trust_part_32 d_Trust_part_34 d_Trust_part_37 (fun x h => (hnoh x h).elim) (Nat.le_of_ble_eq_true rfl) (Nat.le_of_ble_eq_true rfl) (Nat.le_of_ble_eq_true rfl) (Nat.le_of_ble_eq_true rfl) hlocks (x_end (G, L, o, as, foS, chS, faP, feS, wrP) ⟨⟨hTy, hL, kq0, kpl, h16⟩, hFR, rfl, Or.inr ⟨rfl, fun q => q.elim p1 (i_ng p7), p25⟩⟩ hP hK hD hS) hS.2.2 (Nat.le_of_ble_eq_true rfl) (Nat.le_of_ble_eq_true rfl)
    · have p7 : ¬ (j ≤ (11 : Int32)) := c7
      obtain ⟨sa, hsa⟩ := hTh.2.2.1 (169, "no such part") (by decide)
      exact vx_throwS (own := "TrustChain") (cls := "java/lang/IllegalArgumentException") (text := "no such part") (names := xUp) (ik := 110) (is := 169) (ic := 114) (sa := sa) (A := A) hx hb hl0 hown (by decide) (by decide) (htb _ q4_233) (htb _ q1_27) hsa (x_hat x_ot114 x_gd114 x_nw114 htb hN) x_ot114 (hTh.1.narrow hAs) (hTh.2.1.narrow hAs) hS (hl.1.trans hml.symm) d_Trust_part_10 d_Trust_part_13 d_Trust_part_14 d_Trust_part_16 d_Trust_part_19 (fun x h => (hnoh x h).elim) (Nat.le_of_ble_eq_true rfl) (Nat.le_of_ble_eq_true rfl) (Nat.le_of_ble_eq_true rfl) (Nat.le_of_ble_eq_true rfl) hlocks (x_end (G, L, o, as, foS, chS, faP, feS, wrP) ⟨⟨hTy, hL, kq0, kpl, h16⟩, hFR, rfl, Or.inl ⟨rfl, Or.inr (i_gt p7)⟩⟩ hP hK hD hS) hS.2.2 (Nat.le_of_ble_eq_true rfl) (Nat.le_of_ble_eq_true rfl)
theorem d_Trust_listPart_37 : decode b_Trust_listPart 37 = .ok (.aload_n 0, 1) := by decide +kernel
theorem d_Trust_listPart_38 : decode b_Trust_listPart 38 = .ok (.getfield 23, 3) := by decide +kernel
theorem d_Trust_listPart_41 : decode b_Trust_listPart 41 = .ok (.iload_n 1, 1) := by decide +kernel
theorem d_Trust_listPart_42 : decode b_Trust_listPart 42 = .ok (.invokevirtual 165, 3) := by decide +kernel
theorem d_Trust_listPart_45 : decode b_Trust_listPart 45 = .ok (.checkcast 157, 3) := by decide +kernel
theorem d_Trust_listPart_48 : decode b_Trust_listPart 48 = .ok (.astore_n 3, 1) := by decide +kernel
theorem d_Trust_listPart_49 : decode b_Trust_listPart 49 = .ok (.iload_n 2, 1) := by decide +kernel
theorem d_Trust_listPart_50 : decode b_Trust_listPart 50 = .ok (.tableswitch 45 0 2 #[26, 31, 36], 26) := by decide +kernel
theorem d_Trust_listPart_76 : decode b_Trust_listPart 76 = .ok (.aload_n 3, 1) := by decide +kernel
theorem d_Trust_listPart_77 : decode b_Trust_listPart 77 = .ok (.getfield 180, 3) := by decide +kernel
theorem d_Trust_listPart_80 : decode b_Trust_listPart 80 = .ok (.lreturn, 1) := by decide +kernel
theorem d_Trust_listPart_81 : decode b_Trust_listPart 81 = .ok (.aload_n 3, 1) := by decide +kernel
theorem d_Trust_listPart_82 : decode b_Trust_listPart 82 = .ok (.getfield 184, 3) := by decide +kernel
theorem d_Trust_listPart_85 : decode b_Trust_listPart 85 = .ok (.lreturn, 1) := by decide +kernel
theorem d_Trust_listPart_86 : decode b_Trust_listPart 86 = .ok (.aload_n 3, 1) := by decide +kernel
theorem d_Trust_listPart_87 : decode b_Trust_listPart 87 = .ok (.getfield 187, 3) := by decide +kernel
theorem d_Trust_listPart_90 : decode b_Trust_listPart 90 = .ok (.invokevirtual 89, 3) := by decide +kernel
theorem d_Trust_listPart_93 : decode b_Trust_listPart 93 = .ok (.i2l, 1) := by decide +kernel
theorem d_Trust_listPart_94 : decode b_Trust_listPart 94 = .ok (.lreturn, 1) := by decide +kernel
theorem d_Trust_listPart_95 : decode b_Trust_listPart 95 = .ok (.aload_n 3, 1) := by decide +kernel
theorem d_Trust_listPart_96 : decode b_Trust_listPart 96 = .ok (.getfield 190, 3) := by decide +kernel
theorem d_Trust_listPart_99 : decode b_Trust_listPart 99 = .ok (.i2l, 1) := by decide +kernel
theorem d_Trust_listPart_100 : decode b_Trust_listPart 100 = .ok (.lreturn, 1) := by decide +kernel
set_option maxHeartbeats 4000000 in
set_option maxRecDepth 100000 in
theorem z_Trust_listPart (l : Launch) (hl0 : l.stackTraces = false) (dC : Nat → ClassId) (dI : Nat → Nat → Nat) (sb : sB) (γ : cG) (κ : kE) (Ad : List Nat) (ν : Nat → cN) (ω : Nat → List Nat) (L : Nat) (G : va_W) (fe ho ce li sh rs se ch fo q0 pl : Nat) (o : alD) (as : List Nat) (foS chS faP feS wrP : Int32) (i j : Int32) (sz : Nat) (hC : CKx sb κ Ad ω ho ce li sh rs se ch fo q0 pl) (hW0 : CWx γ sb κ Ad ν ω fe ho ce li sh rs se ch fo q0 pl (G, L, o, as, foS, chS, faP, feS, wrP))   : vx_Met l y_Trust_listPart w_Trust_listPart ({ frames := 6, cells := 1, slots := 6, locals := 104 }) (mx_P [.ref q0, .int i, .int j] (dC, dI) sb G [(γ.1, .byte), (γ.2.1, .int), (γ.2.2.1, .long), (γ.2.2.2, .object "java/lang/Object")] sz) (va_Ql (fun r (u' : cU) => CWx γ sb κ Ad ν ω fe ho ce li sh rs se ch fo q0 pl u' ∧ FRq γ Ad q0 pl G u'.1 ∧ (u'.2.2.2.2 = (foS, chS, faP, feS, wrP) ∧ ¬ (j < 0 ∨ 3 < j) ∧ ∃ k, k < (ω li).length ∧ i = nI k ∧ ∃ K, κ ((ω li).getD k 0) = (9, K, 0) ∧ r = ltellV (ν ((ω li).getD k 0)) K j)) (mu_B (dC, dI) [(γ.1, .byte), (γ.2.1, .int), (γ.2.2.1, .long), (γ.2.2.2, .object "java/lang/Object")] (va_A G sz) (fun u' : cU => u'.1)) (va_A G sz)) (mx_X (fun (E : String) (u' : cU) => CWx γ sb κ Ad ν ω fe ho ce li sh rs se ch fo q0 pl u' ∧ FRq γ Ad q0 pl G u'.1 ∧ (u'.2.2.2.2 = (foS, chS, faP, feS, wrP) ∧ ((E = "java/lang/IllegalArgumentException" ∧ (j < 0 ∨ 3 < j)) ∨ (E = "java/lang/IndexOutOfBoundsException" ∧ ¬ (j < 0 ∨ 3 < j) ∧ ¬ (¬ i < 0 ∧ i < nI (ω li).length))))) (dC, dI) [(γ.1, .byte), (γ.2.1, .int), (γ.2.2.1, .long), (γ.2.2.2, .object "java/lang/Object")] (va_A G sz) (fun u' : cU => u'.1)) 1 6 (va_A G sz) := by
  refine vx_ofW (cc := b_Trust_listPart) (maxL := 4) (ret := (some FieldType.long)) (by decide) rfl ?_
  intro p e s m args below meth c s₁ B hml hnoh hv
  obtain ⟨rfl, hsz, hB0, hP, hK, hD0, hN, hT0, hTh⟩ := hv
  have hx := B.exec
  have hb := B.bytes
  have hr := B.returns
  have hts := atoms_spec (ws := w_Trust_listPart) B.pre
  have tbin : ∀ w ∈ tb, w ∈ w_Trust_listPart := fun w h => List.mem_cons_of_mem _ h
  have htb : ∀ w ∈ tb, w.before _ s = true := fun w h => hts w (tbin w h)
  have hown : s.vm.findClass "TrustChain" = some m.cls := findClass_of_methodNamed B.named
  have hlocks := B.notSynchronized
  subst hsz
  have hD := hD0.self (sz := s.heap.size)
  generalize hAe : va_A G s.heap.size = A at hD ⊢
  have hA : ∀ q : Nat, s.heap.size ≤ q → A q := fun q h => by rw [← hAe]; exact Or.inr h
  have hAs : ∀ q : Nat, A q → sb.1 ≤ q := fun q h => by
    rw [← hAe] at h
    rcases h with ⟨k, e, h⟩ | h
    · exact hD0.2 k _ h
    · exact Nat.le_trans hB0 h
  have hS : va_S A s.heap s.heap [] := va_S.rf
  have hFR := FRq.rf γ Ad q0 pl G
  have hcs : 1 ≤ (headSpec w_Trust_listPart ({ frames := 6, cells := 1, slots := 6, locals := 104 })).room.cells ∧ 6 ≤ (headSpec w_Trust_listPart ({ frames := 6, cells := 1, slots := 6, locals := 104 })).room.slots := ⟨Nat.le_refl _, Nat.le_refl _⟩
  have hP : va_P (dC, dI) classes G s.heap := hP
  have hC0 := hC
  obtain ⟨⟨kho, kce, kli, ksh, krs, kse, kch, kfo⟩, h1, hce9, hli9, hqp, hN14, hN16⟩ := hC
  obtain ⟨hTy, hL, kq0, kpl, h16⟩ := hW0
  dsimp only at hTy hL kq0 kpl h16
  have hl := lv_entry ([.ref q0, .int i, .int j]) (n := 4) (Nat.le_of_ble_eq_true rfl)
  rw [lg_entry_eq]
  generalize (lg_sl ([.ref q0, .int i, .int j]) ++ List.replicate (4 - (lg_sl ([.ref q0, .int i, .int j])).length) Slot.unset).toArray = ls at hl ⊢
  have hl : lv_has ls 4 [(0, .ref q0), (1, .int i), (2, .int j)] := hl
  refine lv_iload_n hx hb d_Trust_listPart_0 rfl (lv_at hl 2 rfl) ?_
  refine lv_if_lt (tgt := 9) hx hb d_Trust_listPart_1 (by decide) (fun c1 => ?_) (fun c1 => ?_)
  · have p1 : j < (0 : Int32) := c1
    obtain ⟨sa, hsa⟩ := hTh.2.2.1 (169, "no such part") (by decide)
    exact vx_throwS (own := "TrustChain") (cls := "java/lang/IllegalArgumentException") (text := "no such part") (names := xUp) (ik := 110) (is := 169) (ic := 114) (sa := sa) (A := A) hx hb hl0 hown (by decide) (by decide) (htb _ q4_233) (htb _ q1_27) hsa (x_hat x_ot114 x_gd114 x_nw114 htb hN) x_ot114 (hTh.1.narrow hAs) (hTh.2.1.narrow hAs) hS (hl.1.trans hml.symm) d_Trust_listPart_9 d_Trust_listPart_12 d_Trust_listPart_13 d_Trust_listPart_15 d_Trust_listPart_18 (fun x h => (hnoh x h).elim) (Nat.le_of_ble_eq_true rfl) (Nat.le_of_ble_eq_true rfl) (Nat.le_of_ble_eq_true rfl) (Nat.le_of_ble_eq_true rfl) hlocks (x_end (G, L, o, as, foS, chS, faP, feS, wrP) ⟨⟨hTy, hL, kq0, kpl, h16⟩, hFR, rfl, Or.inl ⟨rfl, Or.inl p1⟩⟩ hP hK hD hS) hS.2.2 (Nat.le_of_ble_eq_true rfl) (Nat.le_of_ble_eq_true rfl)
  · have p1 : ¬ (j < (0 : Int32)) := c1
    refine lv_iload_n hx hb d_Trust_listPart_4 rfl (lv_at hl 2 rfl) ?_
    refine lv_iconst (v := 3) hx hb d_Trust_listPart_5 (by decide) ?_
    refine lv_icmp_le (tgt := 19) hx hb d_Trust_listPart_6 (by decide) (fun c6 => ?_) (fun c6 => ?_)
    · have p6 : j ≤ (3 : Int32) := c6
      refine lv_aload_n hx hb d_Trust_listPart_19 rfl (lv_at hl 0 rfl) ?_
      refine lv_iload_n hx hb d_Trust_listPart_20 rfl (lv_at hl 1 rfl) ?_
      obtain ⟨i_1, hg_1⟩ := List.getElem?_of_mem kq0.2
      obtain ⟨i_2, q_2, m_2, hK_2, he_2, hg_2⟩ := ty_17 hTy kli
      refine vp_callSi (pu_callV (As := [.int i]) (rest := []) ⟨hx, hb, hml, hown, hts⟩ tbin (c_Trust_isListed l dC dI sb q0 fe ho ce li sh rs se ch fo foS chS faP feS wrP q_2 (ω li).length m_2 i) q5_162 q5_164 qp_19 q1_1 q5_165 (n := 1) (by decide +kernel) rfl ⟨rfl, rfl⟩ ⟨Nat.le_of_ble_eq_true rfl, Nat.le_of_ble_eq_true rfl⟩ ⟨Nat.le_of_ble_eq_true rfl, Nat.le_of_ble_eq_true rfl⟩ hN (hT0.keep hS hAs) hK hP [i_1, i_2] (by simp only [List.filterMap_cons, List.filterMap_nil, hg_1, hg_2]) [] rfl i_1 10 hg_1 rfl rfl hl.1 rfl (Nat.le_of_ble_eq_true rfl) d_Trust_listPart_21) (fun r21 hr21 => ?_)
      obtain rfl := Eq.symm (bz_zP hr21)
      refine lv_if_ne (tgt := 37) hx hb d_Trust_listPart_24 (by decide) (fun c24 => ?_) (fun c24 => ?_)
      · have p24 : ¬ i < 0 ∧ i < nI (ω li).length := (zP_1 c24)
        obtain ⟨k, hk, ek⟩ := nI_at9 p24.1 p24.2 (by omega)
        subst ek
        refine lv_aload_n hx hb d_Trust_listPart_37 rfl (lv_at hl 0 rfl) ?_
        refine va_get (v := .ref li) hx hb htb i_Trust hown hK hP i_1 hg_1 rfl 3 (by decide) (htb _ q1_159) (fun _ h9 => h9) rfl d_Trust_listPart_38 ?_
        refine lv_iload_n hx hb d_Trust_listPart_41 rfl (lv_at hl 1 rfl) ?_
        obtain ⟨cap_3, kq_3⟩ := he_2 (by omega)
        obtain ⟨i_4, f_4, hK_4, hc_4, he_4, hg_4⟩ := ty_16 hTy kq_3
        obtain ⟨hf_3, p_3, ks_3⟩ := he_4 k (by omega)
        obtain ⟨s_3, es_3⟩ : ∃ z, z = (ω li).getD k 0 := ⟨_, rfl⟩
        rw [← es_3] at hf_3 ks_3
        refine va_csr (pu_callV (As := [.int (nI k)]) (rest := []) ⟨hx, hb, hml, hown, hts⟩ tbin (c_AL_get l dC dI sb li q_2 ((ω li).length) cap_3 k s_3 m_2 γ.2.2.2 f_4 (by omega) hK_4 (by omega) hf_3) q5_39 q4_210 q4_211 q1_4 q4_212 (n := 1) (by decide +kernel) rfl ⟨rfl, rfl⟩ ⟨Nat.le_of_ble_eq_true rfl, Nat.le_of_ble_eq_true rfl⟩ ⟨Nat.le_of_ble_eq_true rfl, Nat.le_of_ble_eq_true rfl⟩ hN (hT0.keep hS hAs) hK hP [i_2, i_4] (by simp only [List.filterMap_cons, List.filterMap_nil, hg_2, hg_4]) [3] rfl i_2 11 hg_2 rfl rfl hl.1 rfl (Nat.le_of_ble_eq_true rfl) d_Trust_listPart_42) (fun r42 hr42 => ?_)
        obtain rfl := Eq.symm hr42
        obtain ⟨i_5, ha_5, si_5, en_5, bo_5, sg_5, is_5, kha_5, ksi_5, ken_5, ⟨z5_5, kbo_5⟩, ⟨z6_5, ksg_5⟩, ⟨z7_5, kis_5⟩, hw_5, hg_5⟩ := ty_9 hTy ks_3
        refine va_castY (C := "TrustChain$Paper") hx hb hown (htb _ q5_167) (hN.1 _ qn9_225) (va_recv (ci := 2) hK hP rfl hg_5) d_Trust_listPart_45 ?_
        refine lv_astore_n (lv' := [(3, .ref s_3), (0, .ref q0), (1, .int (nI k)), (2, .int j)]) hx hb d_Trust_listPart_48 rfl hl (by decide) rfl (fun ls hl => ?_)
        refine lv_iload_n hx hb d_Trust_listPart_49 rfl (lv_at hl 3 rfl) ?_
        by_cases s50_0 : j.toInt = 0
        · refine lv_tableIn (tgt := 76) hx hb d_Trust_listPart_50 (by omega) (by omega) (by rw [s50_0]; rfl) rfl ?_
          refine lv_aload_n hx hb d_Trust_listPart_76 rfl (lv_at hl 0 rfl) ?_
          refine va_get (v := .long ((ν s_3).2.2.2.2.2.2.2.2.2.1)) hx hb htb i_Paper hown hK hP i_5 hg_5 rfl 6 (by decide) (htb _ q2_223) (fun _ h9 => h9) rfl d_Trust_listPart_77 ?_
          exact vx_ret (x_wide 1 6 (Nat.le_of_ble_eq_true rfl) (Nat.le_of_ble_eq_true rfl) (W.lret (v := (ν s_3).2.2.2.2.2.2.2.2.2.1) hx hb hr (fun t ht hW => ⟨⟨_, (G, L, o, as, foS, chS, faP, feS, wrP), rfl, ⟨⟨hTy, hL, kq0, kpl, h16⟩, hFR, rfl, fun q => q.elim p1 (i_ng p6), k, hk, rfl, p_3, by rw [← es_3]; exact ks_3.2, by rw [← es_3]; unfold ltellV; rw [if_pos s50_0]⟩, ⟨by rw [ht]; exact hP, va_K.moved hW.alike hK, hD⟩⟩, hS.F ht⟩) hS.2.2 d_Trust_listPart_80))
        by_cases s50_1 : j.toInt = 1
        · refine lv_tableIn (tgt := 81) hx hb d_Trust_listPart_50 (by omega) (by omega) (by rw [s50_1]; rfl) rfl ?_
          refine lv_aload_n hx hb d_Trust_listPart_81 rfl (lv_at hl 0 rfl) ?_
          refine va_get (v := .long ((ν s_3).2.2.2.2.2.2.2.2.2.2.1)) hx hb htb i_Paper hown hK hP i_5 hg_5 rfl 7 (by decide) (htb _ q2_229) (fun _ h9 => h9) rfl d_Trust_listPart_82 ?_
          exact vx_ret (x_wide 1 6 (Nat.le_of_ble_eq_true rfl) (Nat.le_of_ble_eq_true rfl) (W.lret (v := (ν s_3).2.2.2.2.2.2.2.2.2.2.1) hx hb hr (fun t ht hW => ⟨⟨_, (G, L, o, as, foS, chS, faP, feS, wrP), rfl, ⟨⟨hTy, hL, kq0, kpl, h16⟩, hFR, rfl, fun q => q.elim p1 (i_ng p6), k, hk, rfl, p_3, by rw [← es_3]; exact ks_3.2, by rw [← es_3]; unfold ltellV; rw [if_neg s50_0, if_pos s50_1]⟩, ⟨by rw [ht]; exact hP, va_K.moved hW.alike hK, hD⟩⟩, hS.F ht⟩) hS.2.2 d_Trust_listPart_85))
        by_cases s50_2 : j.toInt = 2
        · refine lv_tableIn (tgt := 86) hx hb d_Trust_listPart_50 (by omega) (by omega) (by rw [s50_2]; rfl) rfl ?_
          refine lv_aload_n hx hb d_Trust_listPart_86 rfl (lv_at hl 0 rfl) ?_
          refine va_get (v := .ref en_5) hx hb htb i_Paper hown hK hP i_5 hg_5 rfl 2 (by decide) (htb _ q2_201) (fun _ h9 => h9) rfl d_Trust_listPart_87 ?_
          obtain ⟨i_6, q_6, m_6, hK_6, he_6, hw_6, hg_6⟩ := ty_4 hTy ken_5
          refine vp_callSi (pu_callV (As := []) (rest := []) ⟨hx, hb, hml, hown, hts⟩ tbin (c_AL_size l dC dI sb en_5 q_6 p_3 m_6) q2_53 q2_54 q2_55 q1_4 q2_56 (n := 0) (by decide +kernel) rfl ⟨rfl, rfl⟩ ⟨Nat.le_of_ble_eq_true rfl, Nat.le_of_ble_eq_true rfl⟩ ⟨Nat.le_of_ble_eq_true rfl, Nat.le_of_ble_eq_true rfl⟩ hN (hT0.keep hS hAs) hK hP [i_6] (by simp only [List.filterMap_cons, List.filterMap_nil, hg_6]) [] rfl i_6 11 hg_6 rfl rfl hl.1 rfl (Nat.le_of_ble_eq_true rfl) d_Trust_listPart_90) (fun r90 hr90 => ?_)
          subst hr90
          refine lv_i2l (v := (nI p_3).toInt64) hx hb d_Trust_listPart_93 rfl ?_
          exact vx_ret (x_wide 1 6 (Nat.le_of_ble_eq_true rfl) (Nat.le_of_ble_eq_true rfl) (W.lret (v := (nI p_3).toInt64) hx hb hr (fun t ht hW => ⟨⟨_, (G, L, o, as, foS, chS, faP, feS, wrP), rfl, ⟨⟨hTy, hL, kq0, kpl, h16⟩, hFR, rfl, fun q => q.elim p1 (i_ng p6), k, hk, rfl, p_3, by rw [← es_3]; exact ks_3.2, by rw [← es_3]; unfold ltellV; rw [if_neg s50_0, if_neg s50_1, if_pos s50_2]⟩, ⟨by rw [ht]; exact hP, va_K.moved hW.alike hK, hD⟩⟩, hS.F ht⟩) hS.2.2 d_Trust_listPart_94))
        refine lv_tableOut (tgt := 95) hx hb d_Trust_listPart_50 (by omega) rfl ?_
        refine lv_aload_n hx hb d_Trust_listPart_95 rfl (lv_at hl 0 rfl) ?_
        refine va_get (v := .int ((ν s_3).2.2.2.2.2.2.2.2.2.2.2.1)) hx hb htb i_Paper hown hK hP i_5 hg_5 rfl 8 (by decide) (htb _ q2_237) (fun _ h9 => h9) rfl d_Trust_listPart_96 ?_
        refine lv_i2l (v := ((ν s_3).2.2.2.2.2.2.2.2.2.2.2.1).toInt64) hx hb d_Trust_listPart_99 rfl ?_
        exact vx_ret (x_wide 1 6 (Nat.le_of_ble_eq_true rfl) (Nat.le_of_ble_eq_true rfl) (W.lret (v := ((ν s_3).2.2.2.2.2.2.2.2.2.2.2.1).toInt64) hx hb hr (fun t ht hW => ⟨⟨_, (G, L, o, as, foS, chS, faP, feS, wrP), rfl, ⟨⟨hTy, hL, kq0, kpl, h16⟩, hFR, rfl, fun q => q.elim p1 (i_ng p6), k, hk, rfl, p_3, by rw [← es_3]; exact ks_3.2, by rw [← es_3]; unfold ltellV; rw [if_neg s50_0, if_neg s50_1, if_neg s50_2]⟩, ⟨by rw [ht]; exact hP, va_K.moved hW.alike hK, hD⟩⟩, hS.F ht⟩) hS.2.2 d_Trust_listPart_100))
      · have p24 : ¬ (¬ i < 0 ∧ i < nI (ω li).length) := (zP_0.mp c24)
        obtain ⟨sa, hsa⟩ := hTh.2.2.1 (178, "no such list") (by decide)
        exact vx_throwS (own := "TrustChain") (cls := "java/lang/IndexOutOfBoundsException") (text := "no such list") (names := xUp) (ik := 74) (is := 178) (ic := 78) (sa := sa) (A := A) hx hb hl0 hown (by decide) (by decide) (htb _ q1_211) (htb _ q1_14) hsa (x_hat x_ot78 x_gd78 x_nw78 htb hN) x_ot78 (hTh.1.narrow hAs) (hTh.2.1.narrow hAs) hS (hl.1.trans hml.symm) d_Trust_listPart_27 d_Trust_listPart_30 d_Trust_listPart_31 d_Trust_listPart_33 d_Trust_listPart_36 (fun x h => (hnoh x h).elim) (Nat.le_of_ble_eq_true rfl) (Nat.le_of_ble_eq_true rfl) (Nat.le_of_ble_eq_true rfl) (Nat.le_of_ble_eq_true rfl) hlocks (x_end (G, L, o, as, foS, chS, faP, feS, wrP) ⟨⟨hTy, hL, kq0, kpl, h16⟩, hFR, rfl, Or.inr ⟨rfl, fun q => q.elim p1 (i_ng p6), p24⟩⟩ hP hK hD hS) hS.2.2 (Nat.le_of_ble_eq_true rfl) (Nat.le_of_ble_eq_true rfl)
    · have p6 : ¬ (j ≤ (3 : Int32)) := c6
      obtain ⟨sa, hsa⟩ := hTh.2.2.1 (169, "no such part") (by decide)
      exact vx_throwS (own := "TrustChain") (cls := "java/lang/IllegalArgumentException") (text := "no such part") (names := xUp) (ik := 110) (is := 169) (ic := 114) (sa := sa) (A := A) hx hb hl0 hown (by decide) (by decide) (htb _ q4_233) (htb _ q1_27) hsa (x_hat x_ot114 x_gd114 x_nw114 htb hN) x_ot114 (hTh.1.narrow hAs) (hTh.2.1.narrow hAs) hS (hl.1.trans hml.symm) d_Trust_listPart_9 d_Trust_listPart_12 d_Trust_listPart_13 d_Trust_listPart_15 d_Trust_listPart_18 (fun x h => (hnoh x h).elim) (Nat.le_of_ble_eq_true rfl) (Nat.le_of_ble_eq_true rfl) (Nat.le_of_ble_eq_true rfl) (Nat.le_of_ble_eq_true rfl) hlocks (x_end (G, L, o, as, foS, chS, faP, feS, wrP) ⟨⟨hTy, hL, kq0, kpl, h16⟩, hFR, rfl, Or.inl ⟨rfl, Or.inr (i_gt p6)⟩⟩ hP hK hD hS) hS.2.2 (Nat.le_of_ble_eq_true rfl) (Nat.le_of_ble_eq_true rfl)
set_option maxHeartbeats 4000000 in
set_option maxRecDepth 100000 in
theorem z_Trust_chain (l : Launch) (hl0 : l.stackTraces = false) (dC : Nat → ClassId) (dI : Nat → Nat → Nat) (sb : sB) (γ : cG) (κ : kE) (Ad : List Nat) (ν : Nat → cN) (ω : Nat → List Nat) (L : Nat) (G : va_W) (fe ho ce li sh rs se ch fo q0 pl : Nat) (o : alD) (as : List Nat) (foS chS faP feS wrP : Int32) (i : Int32) (sz : Nat) (hC : CKx sb κ Ad ω ho ce li sh rs se ch fo q0 pl) (hW0 : CWx γ sb κ Ad ν ω fe ho ce li sh rs se ch fo q0 pl (G, L, o, as, foS, chS, faP, feS, wrP))   : vx_Met l y_Trust_chain w_Trust_chain ({ frames := 6, cells := 1, slots := 6, locals := 104 }) (mx_P [.ref q0, .int i] (dC, dI) sb G [(γ.1, .byte), (γ.2.1, .int), (γ.2.2.1, .long), (γ.2.2.2, .object "java/lang/Object")] sz) (va_Qi (fun r (u' : cU) => CWx γ sb κ Ad ν ω fe ho ce li sh rs se ch fo q0 pl u' ∧ FRq γ Ad q0 pl G u'.1 ∧ (u'.2.2.2.2 = (foS, chS, faP, feS, wrP) ∧ ((¬ i < 0 ∧ i < foS ∧ i < 16) ∧ ∃ k9, k9 < 16 ∧ i = nI k9 ∧ r = nI ((ω fo).getD k9 0)))) (mu_B (dC, dI) [(γ.1, .byte), (γ.2.1, .int), (γ.2.2.1, .long), (γ.2.2.2, .object "java/lang/Object")] (va_A G sz) (fun u' : cU => u'.1)) (va_A G sz)) (mx_X (fun (E : String) (u' : cU) => CWx γ sb κ Ad ν ω fe ho ce li sh rs se ch fo q0 pl u' ∧ FRq γ Ad q0 pl G u'.1 ∧ (u'.2.2.2.2 = (foS, chS, faP, feS, wrP) ∧ E = "java/lang/IndexOutOfBoundsException" ∧ ¬ (¬ i < 0 ∧ i < foS ∧ i < 16))) (dC, dI) [(γ.1, .byte), (γ.2.1, .int), (γ.2.2.1, .long), (γ.2.2.2, .object "java/lang/Object")] (va_A G sz) (fun u' : cU => u'.1)) 1 6 (va_A G sz) := by
  refine vx_ofW (cc := b_Trust_chain) (maxL := 2) (ret := (some FieldType.int)) (by decide) rfl ?_
  intro p e s m args below meth c s₁ B hml hnoh hv
  obtain ⟨rfl, hsz, hB0, hP, hK, hD0, hN, hT0, hTh⟩ := hv
  have hx := B.exec
  have hb := B.bytes
  have hr := B.returns
  have hts := atoms_spec (ws := w_Trust_chain) B.pre
  have tbin : ∀ w ∈ tb, w ∈ w_Trust_chain := fun w h => List.mem_cons_of_mem _ h
  have htb : ∀ w ∈ tb, w.before _ s = true := fun w h => hts w (tbin w h)
  have hown : s.vm.findClass "TrustChain" = some m.cls := findClass_of_methodNamed B.named
  have hlocks := B.notSynchronized
  subst hsz
  have hD := hD0.self (sz := s.heap.size)
  generalize hAe : va_A G s.heap.size = A at hD ⊢
  have hA : ∀ q : Nat, s.heap.size ≤ q → A q := fun q h => by rw [← hAe]; exact Or.inr h
  have hAs : ∀ q : Nat, A q → sb.1 ≤ q := fun q h => by
    rw [← hAe] at h
    rcases h with ⟨k, e, h⟩ | h
    · exact hD0.2 k _ h
    · exact Nat.le_trans hB0 h
  have hS : va_S A s.heap s.heap [] := va_S.rf
  have hFR := FRq.rf γ Ad q0 pl G
  have hcs : 1 ≤ (headSpec w_Trust_chain ({ frames := 6, cells := 1, slots := 6, locals := 104 })).room.cells ∧ 6 ≤ (headSpec w_Trust_chain ({ frames := 6, cells := 1, slots := 6, locals := 104 })).room.slots := ⟨Nat.le_refl _, Nat.le_refl _⟩
  have hP : va_P (dC, dI) classes G s.heap := hP
  have hC0 := hC
  obtain ⟨⟨kho, kce, kli, ksh, krs, kse, kch, kfo⟩, h1, hce9, hli9, hqp, hN14, hN16⟩ := hC
  obtain ⟨hTy, hL, kq0, kpl, h16⟩ := hW0
  dsimp only at hTy hL kq0 kpl h16
  have hl := lv_entry ([.ref q0, .int i]) (n := 2) (Nat.le_of_ble_eq_true rfl)
  rw [lg_entry_eq]
  generalize (lg_sl ([.ref q0, .int i]) ++ List.replicate (2 - (lg_sl ([.ref q0, .int i])).length) Slot.unset).toArray = ls at hl ⊢
  have hl : lv_has ls 2 [(0, .ref q0), (1, .int i)] := hl
  refine lv_iload_n hx hb d_Trust_chain_0 rfl (lv_at hl 1 rfl) ?_
  refine lv_if_lt (tgt := 18) hx hb d_Trust_chain_1 (by decide) (fun c1 => ?_) (fun c1 => ?_)
  · have p1 : i < (0 : Int32) := c1
    obtain ⟨sa, hsa⟩ := hTh.2.2.1 (225, "the chain has no such one") (by decide)
    exact vx_throwS (own := "TrustChain") (cls := "java/lang/IndexOutOfBoundsException") (text := "the chain has no such one") (names := xUp) (ik := 74) (is := 225) (ic := 78) (sa := sa) (A := A) hx hb hl0 hown (by decide) (by decide) (htb _ q1_211) (htb _ q1_14) hsa (x_hat x_ot78 x_gd78 x_nw78 htb hN) x_ot78 (hTh.1.narrow hAs) (hTh.2.1.narrow hAs) hS (hl.1.trans hml.symm) d_Trust_chain_18 d_Trust_chain_21 d_Trust_chain_22 d_Trust_chain_24 d_Trust_chain_27 (fun x h => (hnoh x h).elim) (Nat.le_of_ble_eq_true rfl) (Nat.le_of_ble_eq_true rfl) (Nat.le_of_ble_eq_true rfl) (Nat.le_of_ble_eq_true rfl) hlocks (x_end (G, L, o, as, foS, chS, faP, feS, wrP) ⟨⟨hTy, hL, kq0, kpl, h16⟩, hFR, rfl, rfl, fun q => q.1 p1⟩ hP hK hD hS) hS.2.2 (Nat.le_of_ble_eq_true rfl) (Nat.le_of_ble_eq_true rfl)
  · have p1 : ¬ (i < (0 : Int32)) := c1
    refine lv_iload_n hx hb d_Trust_chain_4 rfl (lv_at hl 1 rfl) ?_
    refine lv_aload_n hx hb d_Trust_chain_5 rfl (lv_at hl 0 rfl) ?_
    obtain ⟨i_1, hg_1⟩ := List.getElem?_of_mem kq0.2
    refine va_get (v := .int foS) hx hb htb i_Trust hown hK hP i_1 hg_1 rfl 9 (by decide) (htb _ q1_165) (fun _ h9 => h9) rfl d_Trust_chain_6 ?_
    refine lv_icmp_ge (tgt := 18) hx hb d_Trust_chain_9 (by decide) (fun c9 => ?_) (fun c9 => ?_)
    · have p9 : foS ≤ i := c9
      obtain ⟨sa, hsa⟩ := hTh.2.2.1 (225, "the chain has no such one") (by decide)
      exact vx_throwS (own := "TrustChain") (cls := "java/lang/IndexOutOfBoundsException") (text := "the chain has no such one") (names := xUp) (ik := 74) (is := 225) (ic := 78) (sa := sa) (A := A) hx hb hl0 hown (by decide) (by decide) (htb _ q1_211) (htb _ q1_14) hsa (x_hat x_ot78 x_gd78 x_nw78 htb hN) x_ot78 (hTh.1.narrow hAs) (hTh.2.1.narrow hAs) hS (hl.1.trans hml.symm) d_Trust_chain_18 d_Trust_chain_21 d_Trust_chain_22 d_Trust_chain_24 d_Trust_chain_27 (fun x h => (hnoh x h).elim) (Nat.le_of_ble_eq_true rfl) (Nat.le_of_ble_eq_true rfl) (Nat.le_of_ble_eq_true rfl) (Nat.le_of_ble_eq_true rfl) hlocks (x_end (G, L, o, as, foS, chS, faP, feS, wrP) ⟨⟨hTy, hL, kq0, kpl, h16⟩, hFR, rfl, rfl, fun q => i_ng p9 q.2.1⟩ hP hK hD hS) hS.2.2 (Nat.le_of_ble_eq_true rfl) (Nat.le_of_ble_eq_true rfl)
    · have p9 : ¬ (foS ≤ i) := c9
      refine lv_iload_n hx hb d_Trust_chain_12 rfl (lv_at hl 1 rfl) ?_
      refine lv_bipush (v := 16) hx hb d_Trust_chain_13 (by decide) ?_
      refine lv_icmp_lt (tgt := 28) hx hb d_Trust_chain_15 (by decide) (fun c15 => ?_) (fun c15 => ?_)
      · have p15 : i < (16 : Int32) := c15
        obtain ⟨iR, fR, hrR, hgR⟩ := ty_6r hTy kfo
        obtain ⟨k9, hk9, ek9⟩ := nI_at9 p1 (show i < nI 16 from p15) (by decide)
        refine lv_aload_n hx hb d_Trust_chain_28 rfl (lv_at hl 0 rfl) ?_
        refine va_get (v := .ref fo) hx hb htb i_Trust hown hK hP i_1 hg_1 rfl 8 (by decide) (htb _ q1_164) (fun _ h9 => h9) rfl d_Trust_chain_29 ?_
        refine lv_iload_n hx hb d_Trust_chain_32 rfl (lv_at hl 1 rfl) ?_
        have h33 : vp_in i 16 := vp_in_of2 p1 (show i < nI 16 from p15) (by decide)
        refine va_iald hx hb hK hP iR 1 hgR rfl h33 d_Trust_chain_33 ?_
        refine lv_topi (fun e33 he33 => ?_)
        exact vx_ret (x_wide 1 6 (Nat.le_of_ble_eq_true rfl) (Nat.le_of_ble_eq_true rfl) (W.iret (v := e33) hx hb hr (fun t ht hW => ⟨⟨_, (G, L, o, as, foS, chS, faP, feS, wrP), rfl, ⟨⟨hTy, hL, kq0, kpl, h16⟩, hFR, rfl, ⟨p1, i_gt p9, p15⟩, k9, hk9, ek9, by rw [he33, ek9, nI_clamp (by omega)]; exact hrR k9 hk9⟩, ⟨by rw [ht]; exact hP, va_K.moved hW.alike hK, hD⟩⟩, hS.F ht⟩) hS.2.2 d_Trust_chain_34))
      · have p15 : ¬ (i < (16 : Int32)) := c15
        obtain ⟨sa, hsa⟩ := hTh.2.2.1 (225, "the chain has no such one") (by decide)
        exact vx_throwS (own := "TrustChain") (cls := "java/lang/IndexOutOfBoundsException") (text := "the chain has no such one") (names := xUp) (ik := 74) (is := 225) (ic := 78) (sa := sa) (A := A) hx hb hl0 hown (by decide) (by decide) (htb _ q1_211) (htb _ q1_14) hsa (x_hat x_ot78 x_gd78 x_nw78 htb hN) x_ot78 (hTh.1.narrow hAs) (hTh.2.1.narrow hAs) hS (hl.1.trans hml.symm) d_Trust_chain_18 d_Trust_chain_21 d_Trust_chain_22 d_Trust_chain_24 d_Trust_chain_27 (fun x h => (hnoh x h).elim) (Nat.le_of_ble_eq_true rfl) (Nat.le_of_ble_eq_true rfl) (Nat.le_of_ble_eq_true rfl) (Nat.le_of_ble_eq_true rfl) hlocks (x_end (G, L, o, as, foS, chS, faP, feS, wrP) ⟨⟨hTy, hL, kq0, kpl, h16⟩, hFR, rfl, rfl, fun q => p15 q.2.2⟩ hP hK hD hS) hS.2.2 (Nat.le_of_ble_eq_true rfl) (Nat.le_of_ble_eq_true rfl)
set_option maxHeartbeats 4000000 in
set_option maxRecDepth 100000 in
theorem z_Trust_count (l : Launch) (hl0 : l.stackTraces = false) (dC : Nat → ClassId) (dI : Nat → Nat → Nat) (sb : sB) (γ : cG) (κ : kE) (Ad : List Nat) (ν : Nat → cN) (ω : Nat → List Nat) (L : Nat) (G : va_W) (fe ho ce li sh rs se ch fo q0 pl : Nat) (o : alD) (as : List Nat) (foS chS faP feS wrP : Int32) (i : Int32) (sz : Nat) (hC : CKx sb κ Ad ω ho ce li sh rs se ch fo q0 pl) (hW0 : CWx γ sb κ Ad ν ω fe ho ce li sh rs se ch fo q0 pl (G, L, o, as, foS, chS, faP, feS, wrP))   : vx_Met l y_Trust_count w_Trust_count ({ frames := 6, cells := 1, slots := 6, locals := 104 }) (mx_P [.ref q0, .int i] (dC, dI) sb G [(γ.1, .byte), (γ.2.1, .int), (γ.2.2.1, .long), (γ.2.2.2, .object "java/lang/Object")] sz) (va_Qi (fun r (u' : cU) => CWx γ sb κ Ad ν ω fe ho ce li sh rs se ch fo q0 pl u' ∧ FRq γ Ad q0 pl G u'.1 ∧ (u'.2.2.2.2 = (foS, chS, faP, feS, wrP) ∧ cntI (ω ce).length (ω li).length chS faP feS i = some r)) (mu_B (dC, dI) [(γ.1, .byte), (γ.2.1, .int), (γ.2.2.1, .long), (γ.2.2.2, .object "java/lang/Object")] (va_A G sz) (fun u' : cU => u'.1)) (va_A G sz)) (mx_X (fun (E : String) (u' : cU) => CWx γ sb κ Ad ν ω fe ho ce li sh rs se ch fo q0 pl u' ∧ FRq γ Ad q0 pl G u'.1 ∧ (u'.2.2.2.2 = (foS, chS, faP, feS, wrP) ∧ E = "java/lang/IllegalArgumentException" ∧ cntI (ω ce).length (ω li).length chS faP feS i = none)) (dC, dI) [(γ.1, .byte), (γ.2.1, .int), (γ.2.2.1, .long), (γ.2.2.2, .object "java/lang/Object")] (va_A G sz) (fun u' : cU => u'.1)) 1 6 (va_A G sz) := by
  refine vx_ofW (cc := b_Trust_count) (maxL := 2) (ret := (some FieldType.int)) (by decide) rfl ?_
  intro p e s m args below meth c s₁ B hml hnoh hv
  obtain ⟨rfl, hsz, hB0, hP, hK, hD0, hN, hT0, hTh⟩ := hv
  have hx := B.exec
  have hb := B.bytes
  have hr := B.returns
  have hts := atoms_spec (ws := w_Trust_count) B.pre
  have tbin : ∀ w ∈ tb, w ∈ w_Trust_count := fun w h => List.mem_cons_of_mem _ h
  have htb : ∀ w ∈ tb, w.before _ s = true := fun w h => hts w (tbin w h)
  have hown : s.vm.findClass "TrustChain" = some m.cls := findClass_of_methodNamed B.named
  have hlocks := B.notSynchronized
  subst hsz
  have hD := hD0.self (sz := s.heap.size)
  generalize hAe : va_A G s.heap.size = A at hD ⊢
  have hA : ∀ q : Nat, s.heap.size ≤ q → A q := fun q h => by rw [← hAe]; exact Or.inr h
  have hAs : ∀ q : Nat, A q → sb.1 ≤ q := fun q h => by
    rw [← hAe] at h
    rcases h with ⟨k, e, h⟩ | h
    · exact hD0.2 k _ h
    · exact Nat.le_trans hB0 h
  have hS : va_S A s.heap s.heap [] := va_S.rf
  have hFR := FRq.rf γ Ad q0 pl G
  have hcs : 1 ≤ (headSpec w_Trust_count ({ frames := 6, cells := 1, slots := 6, locals := 104 })).room.cells ∧ 6 ≤ (headSpec w_Trust_count ({ frames := 6, cells := 1, slots := 6, locals := 104 })).room.slots := ⟨Nat.le_refl _, Nat.le_refl _⟩
  have hP : va_P (dC, dI) classes G s.heap := hP
  have hC0 := hC
  obtain ⟨⟨kho, kce, kli, ksh, krs, kse, kch, kfo⟩, h1, hce9, hli9, hqp, hN14, hN16⟩ := hC
  obtain ⟨hTy, hL, kq0, kpl, h16⟩ := hW0
  dsimp only at hTy hL kq0 kpl h16
  have hl := lv_entry ([.ref q0, .int i]) (n := 2) (Nat.le_of_ble_eq_true rfl)
  rw [lg_entry_eq]
  generalize (lg_sl ([.ref q0, .int i]) ++ List.replicate (2 - (lg_sl ([.ref q0, .int i])).length) Slot.unset).toArray = ls at hl ⊢
  have hl : lv_has ls 2 [(0, .ref q0), (1, .int i)] := hl
  refine lv_iload_n hx hb d_Trust_count_0 rfl (lv_at hl 1 rfl) ?_
  by_cases s1_0 : i.toInt = 0
  · refine lv_tableIn (tgt := 36) hx hb d_Trust_count_1 (by omega) (by omega) (by rw [s1_0]; rfl) rfl ?_
    refine lv_aload_n hx hb d_Trust_count_36 rfl (lv_at hl 0 rfl) ?_
    obtain ⟨i_1, hg_1⟩ := List.getElem?_of_mem kq0.2
    refine va_get (v := .ref ce) hx hb htb i_Trust hown hK hP i_1 hg_1 rfl 2 (by decide) (htb _ q1_158) (fun _ h9 => h9) rfl d_Trust_count_37 ?_
    obtain ⟨i_2, q_2, m_2, hK_2, he_2, hg_2⟩ := ty_15 hTy kce
    refine vp_callSi (pu_callV (As := []) (rest := []) ⟨hx, hb, hml, hown, hts⟩ tbin (c_AL_size l dC dI sb ce q_2 ((ω ce).length) m_2) q2_53 q2_54 q2_55 q1_4 q2_56 (n := 0) (by decide +kernel) rfl ⟨rfl, rfl⟩ ⟨Nat.le_of_ble_eq_true rfl, Nat.le_of_ble_eq_true rfl⟩ ⟨Nat.le_of_ble_eq_true rfl, Nat.le_of_ble_eq_true rfl⟩ hN (hT0.keep hS hAs) hK hP [i_2] (by simp only [List.filterMap_cons, List.filterMap_nil, hg_2]) [] rfl i_2 11 hg_2 rfl rfl hl.1 rfl (Nat.le_of_ble_eq_true rfl) d_Trust_count_40) (fun r40 hr40 => ?_)
    subst hr40
    exact vx_ret (x_wide 1 6 (Nat.le_of_ble_eq_true rfl) (Nat.le_of_ble_eq_true rfl) (W.iret (v := nI ((ω ce).length)) hx hb hr (fun t ht hW => ⟨⟨_, (G, L, o, as, foS, chS, faP, feS, wrP), rfl, ⟨⟨hTy, hL, kq0, kpl, h16⟩, hFR, rfl, by unfold cntI; rw [if_pos s1_0]⟩, ⟨by rw [ht]; exact hP, va_K.moved hW.alike hK, hD⟩⟩, hS.F ht⟩) hS.2.2 d_Trust_count_43))
  by_cases s1_1 : i.toInt = 1
  · refine lv_tableIn (tgt := 44) hx hb d_Trust_count_1 (by omega) (by omega) (by rw [s1_1]; rfl) rfl ?_
    refine lv_aload_n hx hb d_Trust_count_44 rfl (lv_at hl 0 rfl) ?_
    obtain ⟨i_3, hg_3⟩ := List.getElem?_of_mem kq0.2
    refine va_get (v := .ref li) hx hb htb i_Trust hown hK hP i_3 hg_3 rfl 3 (by decide) (htb _ q1_159) (fun _ h9 => h9) rfl d_Trust_count_45 ?_
    obtain ⟨i_4, q_4, m_4, hK_4, he_4, hg_4⟩ := ty_17 hTy kli
    refine vp_callSi (pu_callV (As := []) (rest := []) ⟨hx, hb, hml, hown, hts⟩ tbin (c_AL_size l dC dI sb li q_4 ((ω li).length) m_4) q2_53 q2_54 q2_55 q1_4 q2_56 (n := 0) (by decide +kernel) rfl ⟨rfl, rfl⟩ ⟨Nat.le_of_ble_eq_true rfl, Nat.le_of_ble_eq_true rfl⟩ ⟨Nat.le_of_ble_eq_true rfl, Nat.le_of_ble_eq_true rfl⟩ hN (hT0.keep hS hAs) hK hP [i_4] (by simp only [List.filterMap_cons, List.filterMap_nil, hg_4]) [] rfl i_4 11 hg_4 rfl rfl hl.1 rfl (Nat.le_of_ble_eq_true rfl) d_Trust_count_48) (fun r48 hr48 => ?_)
    subst hr48
    exact vx_ret (x_wide 1 6 (Nat.le_of_ble_eq_true rfl) (Nat.le_of_ble_eq_true rfl) (W.iret (v := nI ((ω li).length)) hx hb hr (fun t ht hW => ⟨⟨_, (G, L, o, as, foS, chS, faP, feS, wrP), rfl, ⟨⟨hTy, hL, kq0, kpl, h16⟩, hFR, rfl, by unfold cntI; rw [if_neg s1_0, if_pos s1_1]⟩, ⟨by rw [ht]; exact hP, va_K.moved hW.alike hK, hD⟩⟩, hS.F ht⟩) hS.2.2 d_Trust_count_51))
  by_cases s1_2 : i.toInt = 2
  · refine lv_tableIn (tgt := 52) hx hb d_Trust_count_1 (by omega) (by omega) (by rw [s1_2]; rfl) rfl ?_
    refine lv_aload_n hx hb d_Trust_count_52 rfl (lv_at hl 0 rfl) ?_
    obtain ⟨i_5, hg_5⟩ := List.getElem?_of_mem kq0.2
    refine va_get (v := .int chS) hx hb htb i_Trust hown hK hP i_5 hg_5 rfl 10 (by decide) (htb _ q1_166) (fun _ h9 => h9) rfl d_Trust_count_53 ?_
    exact vx_ret (x_wide 1 6 (Nat.le_of_ble_eq_true rfl) (Nat.le_of_ble_eq_true rfl) (W.iret (v := chS) hx hb hr (fun t ht hW => ⟨⟨_, (G, L, o, as, foS, chS, faP, feS, wrP), rfl, ⟨⟨hTy, hL, kq0, kpl, h16⟩, hFR, rfl, by unfold cntI; rw [if_neg s1_0, if_neg s1_1, if_pos s1_2]⟩, ⟨by rw [ht]; exact hP, va_K.moved hW.alike hK, hD⟩⟩, hS.F ht⟩) hS.2.2 d_Trust_count_56))
  by_cases s1_3 : i.toInt = 3
  · refine lv_tableIn (tgt := 57) hx hb d_Trust_count_1 (by omega) (by omega) (by rw [s1_3]; rfl) rfl ?_
    refine lv_aload_n hx hb d_Trust_count_57 rfl (lv_at hl 0 rfl) ?_
    obtain ⟨i_6, hg_6⟩ := List.getElem?_of_mem kq0.2
    refine va_get (v := .int faP) hx hb htb i_Trust hown hK hP i_6 hg_6 rfl 11 (by decide) (htb _ q1_167) (fun _ h9 => h9) rfl d_Trust_count_58 ?_
    exact vx_ret (x_wide 1 6 (Nat.le_of_ble_eq_true rfl) (Nat.le_of_ble_eq_true rfl) (W.iret (v := faP) hx hb hr (fun t ht hW => ⟨⟨_, (G, L, o, as, foS, chS, faP, feS, wrP), rfl, ⟨⟨hTy, hL, kq0, kpl, h16⟩, hFR, rfl, by unfold cntI; rw [if_neg s1_0, if_neg s1_1, if_neg s1_2, if_pos s1_3]⟩, ⟨by rw [ht]; exact hP, va_K.moved hW.alike hK, hD⟩⟩, hS.F ht⟩) hS.2.2 d_Trust_count_61))
  by_cases s1_4 : i.toInt = 4
  · refine lv_tableIn (tgt := 62) hx hb d_Trust_count_1 (by omega) (by omega) (by rw [s1_4]; rfl) rfl ?_
    refine lv_aload_n hx hb d_Trust_count_62 rfl (lv_at hl 0 rfl) ?_
    obtain ⟨i_7, hg_7⟩ := List.getElem?_of_mem kq0.2
    refine va_get (v := .int feS) hx hb htb i_Trust hown hK hP i_7 hg_7 rfl 12 (by decide) (htb _ q1_168) (fun _ h9 => h9) rfl d_Trust_count_63 ?_
    exact vx_ret (x_wide 1 6 (Nat.le_of_ble_eq_true rfl) (Nat.le_of_ble_eq_true rfl) (W.iret (v := feS) hx hb hr (fun t ht hW => ⟨⟨_, (G, L, o, as, foS, chS, faP, feS, wrP), rfl, ⟨⟨hTy, hL, kq0, kpl, h16⟩, hFR, rfl, by unfold cntI; rw [if_neg s1_0, if_neg s1_1, if_neg s1_2, if_neg s1_3, if_pos s1_4]⟩, ⟨by rw [ht]; exact hP, va_K.moved hW.alike hK, hD⟩⟩, hS.F ht⟩) hS.2.2 d_Trust_count_66))
  refine lv_tableOut (tgt := 67) hx hb d_Trust_count_1 (by omega) rfl ?_
  obtain ⟨sa, hsa⟩ := hTh.2.2.1 (227, "no such count") (by decide)
  exact vx_throwS (own := "TrustChain") (cls := "java/lang/IllegalArgumentException") (text := "no such count") (names := xUp) (ik := 110) (is := 227) (ic := 114) (sa := sa) (A := A) hx hb hl0 hown (by decide) (by decide) (htb _ q4_233) (htb _ q1_27) hsa (x_hat x_ot114 x_gd114 x_nw114 htb hN) x_ot114 (hTh.1.narrow hAs) (hTh.2.1.narrow hAs) hS (hl.1.trans hml.symm) d_Trust_count_67 d_Trust_count_70 d_Trust_count_71 d_Trust_count_73 d_Trust_count_76 (fun x h => (hnoh x h).elim) (Nat.le_of_ble_eq_true rfl) (Nat.le_of_ble_eq_true rfl) (Nat.le_of_ble_eq_true rfl) (Nat.le_of_ble_eq_true rfl) hlocks (x_end (G, L, o, as, foS, chS, faP, feS, wrP) ⟨⟨hTy, hL, kq0, kpl, h16⟩, hFR, rfl, rfl, by unfold cntI; rw [if_neg s1_0, if_neg s1_1, if_neg s1_2, if_neg s1_3, if_neg s1_4]⟩ hP hK hD hS) hS.2.2 (Nat.le_of_ble_eq_true rfl) (Nat.le_of_ble_eq_true rfl)
theorem d_Trust_trust_18 : decode b_Trust_trust 18 = .ok (.aload_n 0, 1) := by decide +kernel
theorem d_Trust_trust_19 : decode b_Trust_trust 19 = .ok (.getfield 19, 3) := by decide +kernel
theorem d_Trust_trust_22 : decode b_Trust_trust 22 = .ok (.iload_n 1, 1) := by decide +kernel
theorem d_Trust_trust_23 : decode b_Trust_trust 23 = .ok (.invokevirtual 165, 3) := by decide +kernel
theorem d_Trust_trust_26 : decode b_Trust_trust 26 = .ok (.checkcast 120, 3) := by decide +kernel
theorem d_Trust_trust_29 : decode b_Trust_trust 29 = .ok (.astore_n 3, 1) := by decide +kernel
theorem d_Trust_trust_30 : decode b_Trust_trust 30 = .ok (.aload_n 3, 1) := by decide +kernel
theorem d_Trust_trust_31 : decode b_Trust_trust 31 = .ok (.getfield 131, 3) := by decide +kernel
theorem d_Trust_trust_34 : decode b_Trust_trust 34 = .ok (.istore 4, 2) := by decide +kernel
theorem d_Trust_trust_36 : decode b_Trust_trust 36 = .ok (.aload_n 3, 1) := by decide +kernel
theorem d_Trust_trust_37 : decode b_Trust_trust 37 = .ok (.iload_n 2, 1) := by decide +kernel
theorem d_Trust_trust_38 : decode b_Trust_trust 38 = .ok (.putfield 131, 3) := by decide +kernel
theorem d_Trust_trust_41 : decode b_Trust_trust 41 = .ok (.iload 4, 2) := by decide +kernel
theorem d_Trust_trust_43 : decode b_Trust_trust 43 = .ok (.ireturn, 1) := by decide +kernel
theorem b01_f {x : Int32} (h : b01 x) : fits .boolean (.int x) = true := by
  rcases h with rfl | rfl <;> rfl
set_option maxHeartbeats 4000000 in
set_option maxRecDepth 100000 in
theorem z_Trust_trust (l : Launch) (hl0 : l.stackTraces = false) (dC : Nat → ClassId) (dI : Nat → Nat → Nat) (sb : sB) (γ : cG) (κ : kE) (Ad : List Nat) (ν : Nat → cN) (ω : Nat → List Nat) (L : Nat) (G : va_W) (fe ho ce li sh rs se ch fo q0 pl : Nat) (o : alD) (as : List Nat) (foS chS faP feS wrP : Int32) (i j : Int32) (sz : Nat) (hC : CKx sb κ Ad ω ho ce li sh rs se ch fo q0 pl) (hW0 : CWx γ sb κ Ad ν ω fe ho ce li sh rs se ch fo q0 pl (G, L, o, as, foS, chS, faP, feS, wrP))  (hj : b01 j) : vx_Met l y_Trust_trust w_Trust_trust ({ frames := 6, cells := 1, slots := 6, locals := 104 }) (mx_P [.ref q0, .int i, .int j] (dC, dI) sb G [(γ.1, .byte), (γ.2.1, .int), (γ.2.2.1, .long), (γ.2.2.2, .object "java/lang/Object")] sz) (va_Qi (fun r (u' : cU) => ∃ k, k < (ω ce).length ∧ i = nI k ∧ CWx γ sb κ Ad (nuT ν ((ω ce).getD k 0) j) ω fe ho ce li sh rs se ch fo q0 pl u' ∧ FRq γ Ad q0 pl G u'.1 ∧ u'.2.2.2.2 = (foS, chS, faP, feS, wrP) ∧ r = (ν ((ω ce).getD k 0)).2.2.2.2.2.2.2.2.1) (mu_B (dC, dI) [(γ.1, .byte), (γ.2.1, .int), (γ.2.2.1, .long), (γ.2.2.2, .object "java/lang/Object")] (va_A G sz) (fun u' : cU => u'.1)) (va_A G sz)) (mx_X (fun (E : String) (u' : cU) => CWx γ sb κ Ad ν ω fe ho ce li sh rs se ch fo q0 pl u' ∧ FRq γ Ad q0 pl G u'.1 ∧ (u'.2.2.2.2 = (foS, chS, faP, feS, wrP) ∧ E = "java/lang/IndexOutOfBoundsException" ∧ ¬ (¬ i < 0 ∧ i < nI (ω ce).length))) (dC, dI) [(γ.1, .byte), (γ.2.1, .int), (γ.2.2.1, .long), (γ.2.2.2, .object "java/lang/Object")] (va_A G sz) (fun u' : cU => u'.1)) 1 6 (va_A G sz) := by
  refine vx_ofW (cc := b_Trust_trust) (maxL := 5) (ret := (some FieldType.boolean)) (by decide) rfl ?_
  intro p e s m args below meth c s₁ B hml hnoh hv
  obtain ⟨rfl, hsz, hB0, hP, hK, hD0, hN, hT0, hTh⟩ := hv
  have hx := B.exec
  have hb := B.bytes
  have hr := B.returns
  have hts := atoms_spec (ws := w_Trust_trust) B.pre
  have tbin : ∀ w ∈ tb, w ∈ w_Trust_trust := fun w h => List.mem_cons_of_mem _ h
  have htb : ∀ w ∈ tb, w.before _ s = true := fun w h => hts w (tbin w h)
  have hown : s.vm.findClass "TrustChain" = some m.cls := findClass_of_methodNamed B.named
  have hlocks := B.notSynchronized
  subst hsz
  have hD := hD0.self (sz := s.heap.size)
  generalize hAe : va_A G s.heap.size = A at hD ⊢
  have hA : ∀ q : Nat, s.heap.size ≤ q → A q := fun q h => by rw [← hAe]; exact Or.inr h
  have hAs : ∀ q : Nat, A q → sb.1 ≤ q := fun q h => by
    rw [← hAe] at h
    rcases h with ⟨k, e, h⟩ | h
    · exact hD0.2 k _ h
    · exact Nat.le_trans hB0 h
  have hS : va_S A s.heap s.heap [] := va_S.rf
  have hFR := FRq.rf γ Ad q0 pl G
  have hcs : 1 ≤ (headSpec w_Trust_trust ({ frames := 6, cells := 1, slots := 6, locals := 104 })).room.cells ∧ 6 ≤ (headSpec w_Trust_trust ({ frames := 6, cells := 1, slots := 6, locals := 104 })).room.slots := ⟨Nat.le_refl _, Nat.le_refl _⟩
  have hP : va_P (dC, dI) classes G s.heap := hP
  have hC0 := hC
  obtain ⟨⟨kho, kce, kli, ksh, krs, kse, kch, kfo⟩, h1, hce9, hli9, hqp, hN14, hN16⟩ := hC
  obtain ⟨hTy, hL, kq0, kpl, h16⟩ := hW0
  dsimp only at hTy hL kq0 kpl h16
  have hl := lv_entry ([.ref q0, .int i, .int j]) (n := 5) (Nat.le_of_ble_eq_true rfl)
  rw [lg_entry_eq]
  generalize (lg_sl ([.ref q0, .int i, .int j]) ++ List.replicate (5 - (lg_sl ([.ref q0, .int i, .int j])).length) Slot.unset).toArray = ls at hl ⊢
  have hl : lv_has ls 5 [(0, .ref q0), (1, .int i), (2, .int j)] := hl
  refine lv_aload_n hx hb d_Trust_trust_0 rfl (lv_at hl 0 rfl) ?_
  refine lv_iload_n hx hb d_Trust_trust_1 rfl (lv_at hl 1 rfl) ?_
  obtain ⟨i_1, hg_1⟩ := List.getElem?_of_mem kq0.2
  obtain ⟨i_2, q_2, m_2, hK_2, he_2, hg_2⟩ := ty_15 hTy kce
  refine vp_callSi (pu_callV (As := [.int i]) (rest := []) ⟨hx, hb, hml, hown, hts⟩ tbin (c_Trust_isStored l dC dI sb q0 fe ho ce li sh rs se ch fo foS chS faP feS wrP q_2 (ω ce).length m_2 i) q5_137 q5_139 qp_18 q1_1 q5_140 (n := 1) (by decide +kernel) rfl ⟨rfl, rfl⟩ ⟨Nat.le_of_ble_eq_true rfl, Nat.le_of_ble_eq_true rfl⟩ ⟨Nat.le_of_ble_eq_true rfl, Nat.le_of_ble_eq_true rfl⟩ hN (hT0.keep hS hAs) hK hP [i_1, i_2] (by simp only [List.filterMap_cons, List.filterMap_nil, hg_1, hg_2]) [] rfl i_1 10 hg_1 rfl rfl hl.1 rfl (Nat.le_of_ble_eq_true rfl) d_Trust_trust_2) (fun r2 hr2 => ?_)
  obtain rfl := Eq.symm (bz_zP hr2)
  refine lv_if_ne (tgt := 18) hx hb d_Trust_trust_5 (by decide) (fun c5 => ?_) (fun c5 => ?_)
  · have p5 : ¬ i < 0 ∧ i < nI (ω ce).length := (zP_1 c5)
    obtain ⟨k, hk, ek⟩ := nI_at9 p5.1 p5.2 (by omega)
    subst ek
    refine lv_aload_n hx hb d_Trust_trust_18 rfl (lv_at hl 0 rfl) ?_
    refine va_get (v := .ref ce) hx hb htb i_Trust hown hK hP i_1 hg_1 rfl 2 (by decide) (htb _ q1_158) (fun _ h9 => h9) rfl d_Trust_trust_19 ?_
    refine lv_iload_n hx hb d_Trust_trust_22 rfl (lv_at hl 1 rfl) ?_
    obtain ⟨cap_3, kq_3⟩ := he_2 (by omega)
    obtain ⟨i_4, f_4, hK_4, hc_4, he_4, hg_4⟩ := ty_14 hTy kq_3
    obtain ⟨hf_3, p_3, q_3, ks_3⟩ := he_4 k (by omega)
    obtain ⟨s_3, es_3⟩ : ∃ z, z = (ω ce).getD k 0 := ⟨_, rfl⟩
    rw [← es_3] at hf_3 ks_3
    refine va_csr (pu_callV (As := [.int (nI k)]) (rest := []) ⟨hx, hb, hml, hown, hts⟩ tbin (c_AL_get l dC dI sb ce q_2 ((ω ce).length) cap_3 k s_3 m_2 γ.2.2.2 f_4 (by omega) hK_4 (by omega) hf_3) q5_39 q4_210 q4_211 q1_4 q4_212 (n := 1) (by decide +kernel) rfl ⟨rfl, rfl⟩ ⟨Nat.le_of_ble_eq_true rfl, Nat.le_of_ble_eq_true rfl⟩ ⟨Nat.le_of_ble_eq_true rfl, Nat.le_of_ble_eq_true rfl⟩ hN (hT0.keep hS hAs) hK hP [i_2, i_4] (by simp only [List.filterMap_cons, List.filterMap_nil, hg_2, hg_4]) [3] rfl i_2 11 hg_2 rfl rfl hl.1 rfl (Nat.le_of_ble_eq_true rfl) d_Trust_trust_23) (fun r23 hr23 => ?_)
    obtain rfl := Eq.symm hr23
    obtain ⟨i_5, nm_5, pe_5, ec_5, se_5, su_5, mo_5, ok_5, ik_5, ha_5, si_5, en_5, bo_5, sg_5, is_5, iu_5, K_5, B_5, hg_5⟩ := ty_8 hTy ks_3
    have KK_5 := K_5
    obtain ⟨⟨A_5, knm_5⟩, ⟨B1_5, B2_5, kpe_5⟩, ⟨C1_5, C2_5, kec_5⟩, kse_5, ⟨z1_5, ksu_5⟩, ⟨z2_5, kmo_5⟩, ⟨z3_5, kok_5⟩, ⟨z4_5, kik_5⟩, kha_5, ksi_5, ken_5, ⟨z5_5, kbo_5⟩, ⟨z6_5, ksg_5⟩, ⟨z7_5, kis_5⟩⟩ := K_5
    refine va_castY (C := "TrustChain$Certificate") hx hb hown (htb _ q5_40) (hN.1 _ qn9_223) (va_recv (ci := 3) hK hP rfl hg_5) d_Trust_trust_26 ?_
    refine lv_astore_n (lv' := [(3, .ref s_3), (0, .ref q0), (1, .int (nI k)), (2, .int j)]) hx hb d_Trust_trust_29 rfl hl (by decide) rfl (fun ls hl => ?_)
    refine lv_aload_n hx hb d_Trust_trust_30 rfl (lv_at hl 0 rfl) ?_
    refine va_get (v := .int ((ν s_3).2.2.2.2.2.2.2.2.1)) hx hb htb i_Certificate hown hK hP i_5 hg_5 rfl 16 (by decide) (htb _ q2_184) (fun _ h9 => h9) rfl d_Trust_trust_31 ?_
    refine lv_istore (lv' := [(4, .int ((ν s_3).2.2.2.2.2.2.2.2.1)), (3, .ref s_3), (0, .ref q0), (1, .int (nI k)), (2, .int j)]) hx hb d_Trust_trust_34 hl (by decide) rfl (fun ls hl => ?_)
    refine lv_aload_n hx hb d_Trust_trust_36 rfl (lv_at hl 1 rfl) ?_
    refine lv_iload_n hx hb d_Trust_trust_37 rfl (lv_at hl 4 rfl) ?_
    refine va_put (v := .int j) (ty := .boolean) hx hb htb i_Certificate t_Certificate t_Certificate_ok n_Certificate hown hK hP hD hS i_5 hg_5 rfl 16 (by decide) (htb _ q2_184) (fun _ h9 => h9) rfl (by decide +kernel) (b01_n hj) (b01_f hj) (Nat.le_of_ble_eq_true rfl) d_Trust_trust_38 (fun H38 locs hP hD2 hS => ?_)
    have hP : va_P (dC, dI) classes (G.set i_5 (s_3, .inr (3, [.ref nm_5, .ref pe_5, .ref ec_5, .ref se_5, .ref su_5, .ref mo_5, .ref ok_5, .ref ik_5, .int ((ν s_3).1), .int ((ν s_3).2.1), .int ((ν s_3).2.2.1), .int ((ν s_3).2.2.2.1), .int ((ν s_3).2.2.2.2.1), .int ((ν s_3).2.2.2.2.2.1), .int ((ν s_3).2.2.2.2.2.2.1), .int ((ν s_3).2.2.2.2.2.2.2.1), .int j, .int ((ν s_3).2.2.2.2.2.2.2.2.2.2.2.2), .int iu_5, .ref ha_5, .ref si_5, .ref en_5, .ref bo_5, .ref sg_5, .ref is_5, .long ((ν s_3).2.2.2.2.2.2.2.2.2.1), .long ((ν s_3).2.2.2.2.2.2.2.2.2.2.1), .int ((ν s_3).2.2.2.2.2.2.2.2.2.2.2.1)]))) H38 := hP
    have hD3 : va_D A (G.set i_5 (s_3, .inr (3, [.ref nm_5, .ref pe_5, .ref ec_5, .ref se_5, .ref su_5, .ref mo_5, .ref ok_5, .ref ik_5, .int ((ν s_3).1), .int ((ν s_3).2.1), .int ((ν s_3).2.2.1), .int ((ν s_3).2.2.2.1), .int ((ν s_3).2.2.2.2.1), .int ((ν s_3).2.2.2.2.2.1), .int ((ν s_3).2.2.2.2.2.2.1), .int ((ν s_3).2.2.2.2.2.2.2.1), .int j, .int ((ν s_3).2.2.2.2.2.2.2.2.2.2.2.2), .int iu_5, .ref ha_5, .ref si_5, .ref en_5, .ref bo_5, .ref sg_5, .ref is_5, .long ((ν s_3).2.2.2.2.2.2.2.2.2.1), .long ((ν s_3).2.2.2.2.2.2.2.2.2.2.1), .int ((ν s_3).2.2.2.2.2.2.2.2.2.2.2.1)]))) := hD2
    have hF1 := FR.set (c' := .inr (3, [.ref nm_5, .ref pe_5, .ref ec_5, .ref se_5, .ref su_5, .ref mo_5, .ref ok_5, .ref ik_5, .int ((ν s_3).1), .int ((ν s_3).2.1), .int ((ν s_3).2.2.1), .int ((ν s_3).2.2.2.1), .int ((ν s_3).2.2.2.2.1), .int ((ν s_3).2.2.2.2.2.1), .int ((ν s_3).2.2.2.2.2.2.1), .int ((ν s_3).2.2.2.2.2.2.2.1), .int j, .int ((ν s_3).2.2.2.2.2.2.2.2.2.2.2.2), .int iu_5, .ref ha_5, .ref si_5, .ref en_5, .ref bo_5, .ref sg_5, .ref is_5, .long ((ν s_3).2.2.2.2.2.2.2.2.2.1), .long ((ν s_3).2.2.2.2.2.2.2.2.2.2.1), .int ((ν s_3).2.2.2.2.2.2.2.2.2.2.2.1)])) hg_5 ks_3.1
    have kpl := kpl.fr hF1
    have kq0 := kq0.fr hF1
    have hFR := hFR.tr hF1.q
    clear hF1
    have en9 : nuT ν s_3 j s_3 = _ := if_pos rfl
    have ok9 := ok_8 (γ := γ) (ω := ω) (L := L) (ν := nuT ν s_3 j) ks_3 KK_5 (by rw [en9]; exact ⟨B_5.1, B_5.2.1, hj, B_5.2.2.2⟩) (iu := iu_5)
    rw [en9] at ok9
    have hTy := TY.setnu (ν' := nuT ν s_3 j) (c' := .inr (3, [.ref nm_5, .ref pe_5, .ref ec_5, .ref se_5, .ref su_5, .ref mo_5, .ref ok_5, .ref ik_5, .int ((ν s_3).1), .int ((ν s_3).2.1), .int ((ν s_3).2.2.1), .int ((ν s_3).2.2.2.1), .int ((ν s_3).2.2.2.2.1), .int ((ν s_3).2.2.2.2.2.1), .int ((ν s_3).2.2.2.2.2.2.1), .int ((ν s_3).2.2.2.2.2.2.2.1), .int j, .int ((ν s_3).2.2.2.2.2.2.2.2.2.2.2.2), .int iu_5, .ref ha_5, .ref si_5, .ref en_5, .ref bo_5, .ref sg_5, .ref is_5, .long ((ν s_3).2.2.2.2.2.2.2.2.2.1), .long ((ν s_3).2.2.2.2.2.2.2.2.2.2.1), .int ((ν s_3).2.2.2.2.2.2.2.2.2.2.2.1)])) hTy hD hg_5 ks_3 (fun b hb => if_neg hb) ok9
    have hD := hD3
    clear hD3 hD2 ok9
    generalize G.set i_5 (s_3, .inr (3, [.ref nm_5, .ref pe_5, .ref ec_5, .ref se_5, .ref su_5, .ref mo_5, .ref ok_5, .ref ik_5, .int ((ν s_3).1), .int ((ν s_3).2.1), .int ((ν s_3).2.2.1), .int ((ν s_3).2.2.2.1), .int ((ν s_3).2.2.2.2.1), .int ((ν s_3).2.2.2.2.2.1), .int ((ν s_3).2.2.2.2.2.2.1), .int ((ν s_3).2.2.2.2.2.2.2.1), .int j, .int ((ν s_3).2.2.2.2.2.2.2.2.2.2.2.2), .int iu_5, .ref ha_5, .ref si_5, .ref en_5, .ref bo_5, .ref sg_5, .ref is_5, .long ((ν s_3).2.2.2.2.2.2.2.2.2.1), .long ((ν s_3).2.2.2.2.2.2.2.2.2.2.1), .int ((ν s_3).2.2.2.2.2.2.2.2.2.2.2.1)])) = G_6 at hP hD hTy hFR kpl kq0
    refine lv_iload hx hb d_Trust_trust_41 (lv_at hl 0 rfl) ?_
    exact vx_ret (x_wide 1 6 (Nat.le_of_ble_eq_true rfl) (Nat.le_of_ble_eq_true rfl) (W.zret (v := (ν s_3).2.2.2.2.2.2.2.2.1) hx hb hr (b01_n B_5.2.2.1) (fun t ht hW => ⟨⟨_, (G_6, L, o, as, foS, chS, faP, feS, wrP), rfl, ⟨k, hk, rfl, by rw [← es_3]; exact ⟨hTy, hL, kq0, kpl, h16⟩, hFR, rfl, by rw [← es_3]⟩, ⟨by rw [ht]; exact hP, va_K.moved hW.alike hK, hD⟩⟩, hS.F ht⟩) hS.2.2 d_Trust_trust_43))
  · have p5 : ¬ (¬ i < 0 ∧ i < nI (ω ce).length) := (zP_0.mp c5)
    obtain ⟨sa, hsa⟩ := hTh.2.2.1 (163, "no such certificate") (by decide)
    exact vx_throwS (own := "TrustChain") (cls := "java/lang/IndexOutOfBoundsException") (text := "no such certificate") (names := xUp) (ik := 74) (is := 163) (ic := 78) (sa := sa) (A := A) hx hb hl0 hown (by decide) (by decide) (htb _ q1_211) (htb _ q1_14) hsa (x_hat x_ot78 x_gd78 x_nw78 htb hN) x_ot78 (hTh.1.narrow hAs) (hTh.2.1.narrow hAs) hS (hl.1.trans hml.symm) d_Trust_trust_8 d_Trust_trust_11 d_Trust_trust_12 d_Trust_trust_14 d_Trust_trust_17 (fun x h => (hnoh x h).elim) (Nat.le_of_ble_eq_true rfl) (Nat.le_of_ble_eq_true rfl) (Nat.le_of_ble_eq_true rfl) (Nat.le_of_ble_eq_true rfl) hlocks (x_end (G, L, o, as, foS, chS, faP, feS, wrP) ⟨⟨hTy, hL, kq0, kpl, h16⟩, hFR, rfl, rfl, p5⟩ hP hK hD hS) hS.2.2 (Nat.le_of_ble_eq_true rfl) (Nat.le_of_ble_eq_true rfl)
