/-! The reference's mayFollow and namesMayBe: what they answer. -/
theorem nI_m1j {k j : Nat} (h : k = j + 1) : nI k + (-1) = nI j := by
  subst h
  rw [← nI_add, Int32.add_assoc, show nI 1 + (-1 : Int32) = 0 from by decide, Int32.add_zero]
def y_Model_mayFollow : MethodName := ⟨"TrustChainModel", "mayFollow", "(LTrustChainModel$Text;I)Z"⟩
abbrev b_Model_mayFollow : ByteArray := prog_14_method_33_code
def w_Model_mayFollow : List Cond := Cond.code y_Model_mayFollow b_Model_mayFollow 4 ((some FieldType.boolean)) :: tb
theorem d_Model_mayFollow_0 : decode b_Model_mayFollow 0 = .ok (.iconst 0, 1) := by decide +kernel
theorem d_Model_mayFollow_1 : decode b_Model_mayFollow 1 = .ok (.istore_n 3, 1) := by decide +kernel
theorem d_Model_mayFollow_2 : decode b_Model_mayFollow 2 = .ok (.iload_n 3, 1) := by decide +kernel
theorem d_Model_mayFollow_3 : decode b_Model_mayFollow 3 = .ok (.aload_n 0, 1) := by decide +kernel
theorem d_Model_mayFollow_4 : decode b_Model_mayFollow 4 = .ok (.getfield 333, 3) := by decide +kernel
theorem d_Model_mayFollow_7 : decode b_Model_mayFollow 7 = .ok (.if_icmp .ge 21, 3) := by decide +kernel
theorem d_Model_mayFollow_10 : decode b_Model_mayFollow 10 = .ok (.aload_n 0, 1) := by decide +kernel
theorem d_Model_mayFollow_11 : decode b_Model_mayFollow 11 = .ok (.getfield 136, 3) := by decide +kernel
theorem d_Model_mayFollow_14 : decode b_Model_mayFollow 14 = .ok (.iload_n 3, 1) := by decide +kernel
theorem d_Model_mayFollow_15 : decode b_Model_mayFollow 15 = .ok (.iaload, 1) := by decide +kernel
theorem d_Model_mayFollow_16 : decode b_Model_mayFollow 16 = .ok (.iload_n 2, 1) := by decide +kernel
theorem d_Model_mayFollow_17 : decode b_Model_mayFollow 17 = .ok (.if_icmp .ne 5, 3) := by decide +kernel
theorem d_Model_mayFollow_20 : decode b_Model_mayFollow 20 = .ok (.iconst 0, 1) := by decide +kernel
theorem d_Model_mayFollow_21 : decode b_Model_mayFollow 21 = .ok (.ireturn, 1) := by decide +kernel
theorem d_Model_mayFollow_22 : decode b_Model_mayFollow 22 = .ok (.iinc 3 1, 3) := by decide +kernel
theorem d_Model_mayFollow_25 : decode b_Model_mayFollow 25 = .ok (.goto (-23), 3) := by decide +kernel
theorem d_Model_mayFollow_28 : decode b_Model_mayFollow 28 = .ok (.aload_n 0, 1) := by decide +kernel
theorem d_Model_mayFollow_29 : decode b_Model_mayFollow 29 = .ok (.getfield 19, 3) := by decide +kernel
theorem d_Model_mayFollow_32 : decode b_Model_mayFollow 32 = .ok (.iload_n 2, 1) := by decide +kernel
theorem d_Model_mayFollow_33 : decode b_Model_mayFollow 33 = .ok (.aaload, 1) := by decide +kernel
theorem d_Model_mayFollow_34 : decode b_Model_mayFollow 34 = .ok (.astore_n 3, 1) := by decide +kernel
theorem d_Model_mayFollow_35 : decode b_Model_mayFollow 35 = .ok (.aload_n 3, 1) := by decide +kernel
theorem d_Model_mayFollow_36 : decode b_Model_mayFollow 36 = .ok (.aload_n 3, 1) := by decide +kernel
theorem d_Model_mayFollow_37 : decode b_Model_mayFollow 37 = .ok (.getfield 347, 3) := by decide +kernel
theorem d_Model_mayFollow_40 : decode b_Model_mayFollow 40 = .ok (.aload_n 3, 1) := by decide +kernel
theorem d_Model_mayFollow_41 : decode b_Model_mayFollow 41 = .ok (.getfield 350, 3) := by decide +kernel
theorem d_Model_mayFollow_44 : decode b_Model_mayFollow 44 = .ok (.aload_n 1, 1) := by decide +kernel
theorem d_Model_mayFollow_45 : decode b_Model_mayFollow 45 = .ok (.aload_n 1, 1) := by decide +kernel
theorem d_Model_mayFollow_46 : decode b_Model_mayFollow 46 = .ok (.getfield 353, 3) := by decide +kernel
theorem d_Model_mayFollow_49 : decode b_Model_mayFollow 49 = .ok (.aload_n 1, 1) := by decide +kernel
theorem d_Model_mayFollow_50 : decode b_Model_mayFollow 50 = .ok (.getfield 356, 3) := by decide +kernel
theorem d_Model_mayFollow_53 : decode b_Model_mayFollow 53 = .ok (.invokevirtual 359, 3) := by decide +kernel
theorem d_Model_mayFollow_56 : decode b_Model_mayFollow 56 = .ok (.ifCond .ne 5, 3) := by decide +kernel
theorem d_Model_mayFollow_59 : decode b_Model_mayFollow 59 = .ok (.iconst 0, 1) := by decide +kernel
theorem d_Model_mayFollow_60 : decode b_Model_mayFollow 60 = .ok (.ireturn, 1) := by decide +kernel
theorem d_Model_mayFollow_61 : decode b_Model_mayFollow 61 = .ok (.aload_n 3, 1) := by decide +kernel
theorem d_Model_mayFollow_62 : decode b_Model_mayFollow 62 = .ok (.getfield 363, 3) := by decide +kernel
theorem d_Model_mayFollow_65 : decode b_Model_mayFollow 65 = .ok (.ifCond .lt 34, 3) := by decide +kernel
theorem d_Model_mayFollow_68 : decode b_Model_mayFollow 68 = .ok (.aload_n 1, 1) := by decide +kernel
theorem d_Model_mayFollow_69 : decode b_Model_mayFollow 69 = .ok (.getfield 366, 3) := by decide +kernel
theorem d_Model_mayFollow_72 : decode b_Model_mayFollow 72 = .ok (.ifCond .lt 27, 3) := by decide +kernel
theorem d_Model_mayFollow_75 : decode b_Model_mayFollow 75 = .ok (.aload_n 3, 1) := by decide +kernel
theorem d_Model_mayFollow_76 : decode b_Model_mayFollow 76 = .ok (.aload_n 3, 1) := by decide +kernel
theorem d_Model_mayFollow_77 : decode b_Model_mayFollow 77 = .ok (.getfield 363, 3) := by decide +kernel
theorem d_Model_mayFollow_80 : decode b_Model_mayFollow 80 = .ok (.aload_n 3, 1) := by decide +kernel
theorem d_Model_mayFollow_81 : decode b_Model_mayFollow 81 = .ok (.getfield 369, 3) := by decide +kernel
theorem d_Model_mayFollow_84 : decode b_Model_mayFollow 84 = .ok (.aload_n 1, 1) := by decide +kernel
theorem d_Model_mayFollow_85 : decode b_Model_mayFollow 85 = .ok (.aload_n 1, 1) := by decide +kernel
theorem d_Model_mayFollow_86 : decode b_Model_mayFollow 86 = .ok (.getfield 366, 3) := by decide +kernel
theorem d_Model_mayFollow_89 : decode b_Model_mayFollow 89 = .ok (.aload_n 1, 1) := by decide +kernel
theorem d_Model_mayFollow_90 : decode b_Model_mayFollow 90 = .ok (.getfield 372, 3) := by decide +kernel
theorem d_Model_mayFollow_93 : decode b_Model_mayFollow 93 = .ok (.invokevirtual 359, 3) := by decide +kernel
theorem d_Model_mayFollow_96 : decode b_Model_mayFollow 96 = .ok (.ifCond .eq 7, 3) := by decide +kernel
theorem d_Model_mayFollow_99 : decode b_Model_mayFollow 99 = .ok (.iconst 1, 1) := by decide +kernel
theorem d_Model_mayFollow_100 : decode b_Model_mayFollow 100 = .ok (.goto 4, 3) := by decide +kernel
theorem d_Model_mayFollow_103 : decode b_Model_mayFollow 103 = .ok (.iconst 0, 1) := by decide +kernel
theorem d_Model_mayFollow_104 : decode b_Model_mayFollow 104 = .ok (.ireturn, 1) := by decide +kernel
set_option maxHeartbeats 4000000 in
set_option maxRecDepth 100000 in
theorem p_Model_mayFollow (l : Launch) (dC : Nat → ClassId) (dI : Nat → Nat → Nat) (sb : sB) (γ : cG) (κ : kE) (Ad : List Nat) (τ : Nat → TD) (gT : ClassId) (G : va_W) (mo t1 : Nat) (moc msT mrV msP mrA mbA mwA mhA mfA mpA mxA myA mmA mqA mzA mwy mfd : Nat) (mer mfed mwr mqs mch mft mpt mdp mvd mmk : Int32) (mnw : Int64) (s9 K9 KL c9 : Nat) (fw : Nat → Int32) (fS : Nat → Option Nat) (wl : List Nat) (k9 : Nat) (hTy : TR γ κ Ad τ G) (kmo : Xc Ad mo (.inr (12, (.int mer :: .int mfed :: .int mwr :: .int (nI K9) :: .int (nI KL) :: .ref moc :: .ref msT :: .ref mrV :: .ref msP :: .int mqs :: .ref mrA :: .ref mbA :: .ref mwA :: .ref mhA :: .ref mfA :: .ref mpA :: .ref mxA :: .ref myA :: .ref mmA :: .ref mqA :: .ref mzA :: .ref mwy :: .ref mfd :: .int (nI s9) :: .int (nI c9) :: .int mch :: .int mft :: .int mpt :: .int mdp :: .int mvd :: .long mnw :: .int mmk :: []))) G) (kt1 : tK κ Ad t1 (20, 0, 0)) (hc_t1 : TC (τ t1)) (kmwy : Xc Ad mwy (.inl (γ.2.1, 16, .inl fw)) G) (kmsT : Xc Ad msT (.inl (gT, 16, .inr (.inr (.inr (.inr fS))))) G) (hst : STc κ Ad τ K9 fS) (hway : wyR wl K9 fw) (hwl : wl.length = s9) (hK9 : K9 ≤ 16) (hs9 : s9 ≤ 16) (hk9 : k9 < K9) : Met l y_Model_mayFollow w_Model_mayFollow ({ frames := 1, cells := 0, slots := 0, locals := 26 }) (pu_P [.ref mo, .ref t1, .int (nI k9)] (dC, dI) sb G [(γ.1, .byte), (γ.2.1, .int), (γ.2.2.1, .long), (γ.2.2.2, .object "java/lang/Object"), (gT, .object "TrustChainModel$Text")]) (vp_Si (fun r => r = zP (k9 ∉ wl ∧ folQ (cXf τ fS k9) (cT (τ t1))))) 0 0 (fun _ => False) := by
  refine Met.ofW (cc := b_Model_mayFollow) (maxL := 4) (ret := (some FieldType.boolean)) (by decide) rfl ?_
  intro p e s m args below meth c s₁ B hml hv
  obtain ⟨rfl, hP, hK, hN, hT0⟩ := hv
  have hx := B.exec
  have hb := B.bytes
  have hr := B.returns
  have hts := atoms_spec (ws := w_Model_mayFollow) B.pre
  have tbin : ∀ w ∈ tb, w ∈ w_Model_mayFollow := fun w h => List.mem_cons_of_mem _ h
  have htb : ∀ w ∈ tb, w.before _ s = true := fun w h => hts w (tbin w h)
  have hown : s.vm.findClass "TrustChainModel" = some m.cls := findClass_of_methodNamed B.named
  have hlocks := B.notSynchronized
  have hl := lv_entry ([.ref mo, .ref t1, .int (nI k9)]) (n := 4) (Nat.le_of_ble_eq_true rfl)
  rw [lg_entry_eq]
  generalize (lg_sl ([.ref mo, .ref t1, .int (nI k9)]) ++ List.replicate (4 - (lg_sl ([.ref mo, .ref t1, .int (nI k9)])).length) Slot.unset).toArray = ls at hl ⊢
  have hl : lv_has ls 4 [(0, .ref mo), (1, .ref t1), (2, .int (nI k9))] := hl
  have b1_t1 := hc_t1.b1
  have b2_t1 := hc_t1.b2
  have b3_t1 := hc_t1.b3
  have b4_t1 := hc_t1.b4
  have b5_t1 := hc_t1.b5
  have b6_t1 := hc_t1.b6
  have b8_t1 := hc_t1.b8
  have b9_t1 := hc_t1.b9
  refine lv_iconst (v := 0) hx hb d_Model_mayFollow_0 (by decide) ?_
  refine lv_istore_n (lv' := [(3, .int 0), (0, .ref mo), (1, .ref t1), (2, .int (nI k9))]) hx hb d_Model_mayFollow_1 rfl hl (by decide) rfl (fun ls hl => ?_)
  refine w_loop (α := Nat) (fun a9 => 0 ≤ a9 ∧ a9 ≤ s9 ∧ (∀ j9, j9 < a9 → ¬ wl.getD j9 0 = k9)) (fun a9 => s9 - a9) (fun a9 => [(3, .int (nI a9)), (0, .ref mo), (1, .ref t1), (2, .int (nI k9))]) (fun _ => []) 4 2 (fun z2 ls hJ hl ih2 => ?_) (0) ls ⟨by omega, by omega, fun j9 h9 => absurd h9 (Nat.not_lt_zero j9)⟩ (lv_sub hl [0, 1, 2, 3, 4] rfl)
  skip
  obtain ⟨hy2, hz2, hJ2⟩ := hJ
  refine lv_iload_n hx hb d_Model_mayFollow_2 rfl (lv_at hl 0 rfl) ?_
  refine lv_aload_n hx hb d_Model_mayFollow_3 rfl (lv_at hl 1 rfl) ?_
  obtain ⟨i_1, hg_1⟩ := List.getElem?_of_mem kmo.2
  refine va_get (v := .int (nI s9)) hx hb htb i_Model hown hK hP i_1 hg_1 rfl 23 (by decide) (htb _ q7_237) (fun _ h9 => h9) rfl d_Model_mayFollow_4 ?_
  refine lv_icmp_ge (tgt := 28) hx hb d_Model_mayFollow_7 (by decide) (fun c7 => ?_) (fun c7 => ?_)
  · have p7 : s9 ≤ z2 := ((nI_leI (a := s9) (b := z2) (by omega) (by omega)).mp c7)
    refine lv_aload_n hx hb d_Model_mayFollow_28 rfl (lv_at hl 1 rfl) ?_
    refine va_get (v := .ref msT) hx hb htb i_Model hown hK hP i_1 hg_1 rfl 6 (by decide) (htb _ q7_220) (fun _ h9 => h9) rfl d_Model_mayFollow_29 ?_
    refine lv_iload_n hx hb d_Model_mayFollow_32 rfl (lv_at hl 3 rfl) ?_
    obtain ⟨i_2, hg_2⟩ := List.getElem?_of_mem kmsT.2
    have h33 : vp_in (nI k9) 16 := vp_in_nI (by omega) (by omega)
    refine va_aldq hx hb hK hP i_2 4 hg_2 rfl h33 d_Model_mayFollow_33 ?_
    obtain ⟨t_3, ft_3, kt_3, hc_3⟩ := hst k9 (by omega)
    obtain rfl : t_3 = ((fS k9).getD 0) := by rw [ft_3]; rfl
    rw [show va_rf (fS (nI k9).toNatClampNeg) = .ref ((fS k9).getD 0) from by rw [nI_clamp (by omega), ft_3]; rfl]
    have b1_3 := hc_3.b1
    have b2_3 := hc_3.b2
    have b3_3 := hc_3.b3
    have b4_3 := hc_3.b4
    have b5_3 := hc_3.b5
    have b6_3 := hc_3.b6
    have b8_3 := hc_3.b8
    have b9_3 := hc_3.b9
    refine lv_astore_n (lv' := [(3, .ref ((fS k9).getD 0)), (0, .ref mo), (1, .ref t1), (2, .int (nI k9))]) hx hb d_Model_mayFollow_34 rfl hl (by decide) rfl (fun ls hl => ?_)
    have hg_u := hdr_ge (τ ((fS k9).getD 0)).u (τ ((fS k9).getD 0)).su
    refine lv_aload_n hx hb d_Model_mayFollow_35 rfl (lv_at hl 0 rfl) ?_
    refine lv_aload_n hx hb d_Model_mayFollow_36 rfl (lv_at hl 0 rfl) ?_
    obtain ⟨i_4, kA_4, hg_4⟩ := tr_20 hTy kt_3
    refine va_get (v := .int ((τ ((fS k9).getD 0)).I 14)) hx hb htb i_Text hown hK hP i_4 hg_4 rfl 14 (by decide) (htb _ q6_202) (fun _ h9 => h9) rfl d_Model_mayFollow_37 ?_
    rw [hc_3.e14]
    refine lv_aload_n hx hb d_Model_mayFollow_40 rfl (lv_at hl 0 rfl) ?_
    refine va_get (v := .int ((τ ((fS k9).getD 0)).I 15)) hx hb htb i_Text hown hK hP i_4 hg_4 rfl 15 (by decide) (htb _ q6_204) (fun _ h9 => h9) rfl d_Model_mayFollow_41 ?_
    rw [hc_3.e15]
    refine lv_aload_n hx hb d_Model_mayFollow_44 rfl (lv_at hl 2 rfl) ?_
    refine lv_aload_n hx hb d_Model_mayFollow_45 rfl (lv_at hl 2 rfl) ?_
    obtain ⟨i_5, kA_5, hg_5⟩ := tr_20 hTy kt1
    refine va_get (v := .int ((τ t1).I 12)) hx hb htb i_Text hown hK hP i_5 hg_5 rfl 12 (by decide) (htb _ q6_198) (fun _ h9 => h9) rfl d_Model_mayFollow_46 ?_
    rw [hc_t1.e12]
    refine lv_aload_n hx hb d_Model_mayFollow_49 rfl (lv_at hl 2 rfl) ?_
    refine va_get (v := .int ((τ t1).I 13)) hx hb htb i_Text hown hK hP i_5 hg_5 rfl 13 (by decide) (htb _ q6_200) (fun _ h9 => h9) rfl d_Model_mayFollow_50 ?_
    rw [hc_t1.e13]
    refine vp_callSi (pu_callV (As := [.int (nI ((τ ((fS k9).getD 0)).su)), .int (nI ((τ ((fS k9).getD 0)).ue)), .ref t1, .int (nI ((τ t1).is)), .int (nI ((τ t1).ie))]) (rest := []) ⟨hx, hb, hml, hown, hts⟩ tbin (p_Text_same l dC dI sb γ κ Ad τ gT G ((fS k9).getD 0) t1 ((τ ((fS k9).getD 0)).su) ((τ ((fS k9).getD 0)).ue) ((τ t1).is) ((τ t1).ie) hTy kt_3 kt1 hc_3.toTB hc_t1.toTB (by omega) (by omega) (by omega) (by omega)) q9_145 q9_32 q9_33 q1_10 q9_34 (n := 5) (by decide +kernel) rfl ⟨rfl, rfl⟩ ⟨Nat.le_of_ble_eq_true rfl, Nat.le_of_ble_eq_true rfl⟩ ⟨Nat.le_of_ble_eq_true rfl, Nat.le_of_ble_eq_true rfl⟩ hN hT0 hK hP (List.range G.length) (rg_all G) [0, 1, 2, 3, 4] rfl i_4 13 hg_4 rfl rfl hl.1 rfl (Nat.le_of_ble_eq_true rfl) d_Model_mayFollow_53) (fun r53 hr53 => ?_)
    obtain rfl : r53 = zP (rgM (τ ((fS k9).getD 0)).u ((τ ((fS k9).getD 0)).su) (((τ ((fS k9).getD 0)).ue) - ((τ ((fS k9).getD 0)).su)) = rgM (τ t1).u ((τ t1).is) (((τ t1).ie) - ((τ t1).is))) := hr53
    refine lv_if_ne (tgt := 61) hx hb d_Model_mayFollow_56 (by decide) (fun c56 => ?_) (fun c56 => ?_)
    · have p56 : rgM (τ ((fS k9).getD 0)).u ((τ ((fS k9).getD 0)).su) (((τ ((fS k9).getD 0)).ue) - ((τ ((fS k9).getD 0)).su)) = rgM (τ t1).u ((τ t1).is) (((τ t1).ie) - ((τ t1).is)) := (zP_1 c56)
      refine lv_aload_n hx hb d_Model_mayFollow_61 rfl (lv_at hl 0 rfl) ?_
      refine va_get (v := .int ((τ ((fS k9).getD 0)).I 31)) hx hb htb i_Text hown hK hP i_4 hg_4 rfl 31 (by decide) (htb _ q6_235) (fun _ h9 => h9) rfl d_Model_mayFollow_62 ?_
      refine lv_if_lt (tgt := 99) hx hb d_Model_mayFollow_65 (by decide) (fun c65 => ?_) (fun c65 => ?_)
      · have p65 : ((τ ((fS k9).getD 0)).I 31) < (0 : Int32) := c65
        refine lv_iconst (v := 1) hx hb d_Model_mayFollow_99 (by decide) ?_
        refine lv_goto (tgt := 104) hx hb d_Model_mayFollow_100 (by decide) ?_
        exact W.zret (v := 1) hx hb hr rfl (fun t ht hW => ⟨_, rfl, zP_t ⟨(fun hm9 => by obtain ⟨j9, h8, e8⟩ := List.mem_iff_getElem.mp hm9; exact hJ2 j9 (by omega) (by rw [List.getD_eq_getElem?_getD, List.getElem?_eq_getElem h8]; exact e8)), p56, Or.inl (ky_nil.mpr p65)⟩, ht⟩) (fun q h => by cases h) d_Model_mayFollow_104
      · have p65 : ¬ (((τ ((fS k9).getD 0)).I 31) < (0 : Int32)) := c65
        refine lv_aload_n hx hb d_Model_mayFollow_68 rfl (lv_at hl 2 rfl) ?_
        refine va_get (v := .int ((τ t1).I 33)) hx hb htb i_Text hown hK hP i_5 hg_5 rfl 33 (by decide) (htb _ q6_239) (fun _ h9 => h9) rfl d_Model_mayFollow_69 ?_
        refine lv_if_lt (tgt := 99) hx hb d_Model_mayFollow_72 (by decide) (fun c72 => ?_) (fun c72 => ?_)
        · have p72 : ((τ t1).I 33) < (0 : Int32) := c72
          refine lv_iconst (v := 1) hx hb d_Model_mayFollow_99 (by decide) ?_
          refine lv_goto (tgt := 104) hx hb d_Model_mayFollow_100 (by decide) ?_
          exact W.zret (v := 1) hx hb hr rfl (fun t ht hW => ⟨_, rfl, zP_t ⟨(fun hm9 => by obtain ⟨j9, h8, e8⟩ := List.mem_iff_getElem.mp hm9; exact hJ2 j9 (by omega) (by rw [List.getD_eq_getElem?_getD, List.getElem?_eq_getElem h8]; exact e8)), p56, Or.inr (Or.inl (ky_nil.mpr p72))⟩, ht⟩) (fun q h => by cases h) d_Model_mayFollow_104
        · have p72 : ¬ (((τ t1).I 33) < (0 : Int32)) := c72
          obtain ⟨a9, b9, ea9, eb9, hab9, hb9⟩ := hc_3.k2.resolve_left p65
          obtain ⟨c8, d9, ec9, ed9, hcd9, hd9⟩ := hc_t1.k1.resolve_left p72
          refine lv_aload_n hx hb d_Model_mayFollow_75 rfl (lv_at hl 0 rfl) ?_
          refine lv_aload_n hx hb d_Model_mayFollow_76 rfl (lv_at hl 0 rfl) ?_
          refine va_get (v := .int ((τ ((fS k9).getD 0)).I 31)) hx hb htb i_Text hown hK hP i_4 hg_4 rfl 31 (by decide) (htb _ q6_235) (fun _ h9 => h9) rfl d_Model_mayFollow_77 ?_
          rw [ea9]
          refine lv_aload_n hx hb d_Model_mayFollow_80 rfl (lv_at hl 0 rfl) ?_
          refine va_get (v := .int ((τ ((fS k9).getD 0)).I 32)) hx hb htb i_Text hown hK hP i_4 hg_4 rfl 32 (by decide) (htb _ q6_237) (fun _ h9 => h9) rfl d_Model_mayFollow_81 ?_
          rw [eb9]
          refine lv_aload_n hx hb d_Model_mayFollow_84 rfl (lv_at hl 2 rfl) ?_
          refine lv_aload_n hx hb d_Model_mayFollow_85 rfl (lv_at hl 2 rfl) ?_
          refine va_get (v := .int ((τ t1).I 33)) hx hb htb i_Text hown hK hP i_5 hg_5 rfl 33 (by decide) (htb _ q6_239) (fun _ h9 => h9) rfl d_Model_mayFollow_86 ?_
          rw [ec9]
          refine lv_aload_n hx hb d_Model_mayFollow_89 rfl (lv_at hl 2 rfl) ?_
          refine va_get (v := .int ((τ t1).I 34)) hx hb htb i_Text hown hK hP i_5 hg_5 rfl 34 (by decide) (htb _ q7_1) (fun _ h9 => h9) rfl d_Model_mayFollow_90 ?_
          rw [ed9]
          refine vp_callSi (pu_callV (As := [.int (nI a9), .int (nI b9), .ref t1, .int (nI c8), .int (nI d9)]) (rest := []) ⟨hx, hb, hml, hown, hts⟩ tbin (p_Text_same l dC dI sb γ κ Ad τ gT G ((fS k9).getD 0) t1 a9 b9 c8 d9 hTy kt_3 kt1 hc_3.toTB hc_t1.toTB (by omega) (by omega) (by omega) (by omega)) q9_145 q9_32 q9_33 q1_10 q9_34 (n := 5) (by decide +kernel) rfl ⟨rfl, rfl⟩ ⟨Nat.le_of_ble_eq_true rfl, Nat.le_of_ble_eq_true rfl⟩ ⟨Nat.le_of_ble_eq_true rfl, Nat.le_of_ble_eq_true rfl⟩ hN hT0 hK hP (List.range G.length) (rg_all G) [0, 1, 2, 3, 4] rfl i_4 13 hg_4 rfl rfl hl.1 rfl (Nat.le_of_ble_eq_true rfl) d_Model_mayFollow_93) (fun r93 hr93 => ?_)
          obtain rfl : r93 = zP (rgM (τ ((fS k9).getD 0)).u a9 (b9 - a9) = rgM (τ t1).u c8 (d9 - c8)) := hr93
          refine lv_if_eq (tgt := 103) hx hb d_Model_mayFollow_96 (by decide) (fun c96 => ?_) (fun c96 => ?_)
          · have p96 : ¬ (rgM (τ ((fS k9).getD 0)).u a9 (b9 - a9) = rgM (τ t1).u c8 (d9 - c8)) := (zP_0.mp c96)
            refine lv_iconst (v := 0) hx hb d_Model_mayFollow_103 (by decide) ?_
            exact W.zret (v := 0) hx hb hr rfl (fun t ht hW => ⟨_, rfl, zP_f (fun h9 => h9.2.2.elim (fun q => p65 (ky_nil.mp q)) (fun q => q.elim (fun q => p72 (ky_nil.mp q)) (fun q => p96 (by have q8 : kyT _ _ _ = kyT _ _ _ := q; rw [ea9, eb9, ec9, ed9] at q8; exact (ky_eq (by omega) (by omega) (by omega) (by omega)).mp q8)))), ht⟩) (fun q h => by cases h) d_Model_mayFollow_104
          · have p96 : rgM (τ ((fS k9).getD 0)).u a9 (b9 - a9) = rgM (τ t1).u c8 (d9 - c8) := (zP_1 c96)
            refine lv_iconst (v := 1) hx hb d_Model_mayFollow_99 (by decide) ?_
            refine lv_goto (tgt := 104) hx hb d_Model_mayFollow_100 (by decide) ?_
            exact W.zret (v := 1) hx hb hr rfl (fun t ht hW => ⟨_, rfl, zP_t ⟨(fun hm9 => by obtain ⟨j9, h8, e8⟩ := List.mem_iff_getElem.mp hm9; exact hJ2 j9 (by omega) (by rw [List.getD_eq_getElem?_getD, List.getElem?_eq_getElem h8]; exact e8)), p56, Or.inr (Or.inr (by show kyT _ _ _ = kyT _ _ _; rw [ea9, eb9, ec9, ed9]; exact (ky_eq (by omega) (by omega) (by omega) (by omega)).mpr p96))⟩, ht⟩) (fun q h => by cases h) d_Model_mayFollow_104
    · have p56 : ¬ (rgM (τ ((fS k9).getD 0)).u ((τ ((fS k9).getD 0)).su) (((τ ((fS k9).getD 0)).ue) - ((τ ((fS k9).getD 0)).su)) = rgM (τ t1).u ((τ t1).is) (((τ t1).ie) - ((τ t1).is))) := (zP_0.mp c56)
      refine lv_iconst (v := 0) hx hb d_Model_mayFollow_59 (by decide) ?_
      exact W.zret (v := 0) hx hb hr rfl (fun t ht hW => ⟨_, rfl, zP_f (fun h9 => p56 h9.2.1), ht⟩) (fun q h => by cases h) d_Model_mayFollow_60
  · have p7 : ¬ (s9 ≤ z2) := (fun q9 => c7 ((nI_leI (a := s9) (b := z2) (by omega) (by omega)).mpr q9))
    refine lv_aload_n hx hb d_Model_mayFollow_10 rfl (lv_at hl 1 rfl) ?_
    refine va_get (v := .ref mwy) hx hb htb i_Model hown hK hP i_1 hg_1 rfl 21 (by decide) (htb _ q7_235) (fun _ h9 => h9) rfl d_Model_mayFollow_11 ?_
    refine lv_iload_n hx hb d_Model_mayFollow_14 rfl (lv_at hl 0 rfl) ?_
    obtain ⟨i_6, hg_6⟩ := List.getElem?_of_mem kmwy.2
    have h15 : vp_in (nI z2) 16 := vp_in_nI (by omega) (by omega)
    refine va_iald hx hb hK hP i_6 1 hg_6 rfl h15 d_Model_mayFollow_15 ?_
    refine lv_topi (fun e15 he15 => ?_)
    have hw15 := hway z2 (by omega)
    rw [nI_clamp (by omega), hw15.2] at he15
    have hw15 := hw15.1
    subst he15
    refine lv_iload_n hx hb d_Model_mayFollow_16 rfl (lv_at hl 3 rfl) ?_
    refine lv_icmp_ne (tgt := 22) hx hb d_Model_mayFollow_17 (by decide) (fun c17 => ?_) (fun c17 => ?_)
    · have p17 : ¬ ((wl.getD z2 0) = k9) := (fun q9 => c17 ((nI_eq (a := (wl.getD z2 0)) (b := k9) (by omega) (by omega)).mpr q9))
      refine lv_iinc (v := nI (z2 + 1)) (lv' := [(3, .int (nI (z2 + 1))), (0, .ref mo), (1, .ref t1), (2, .int (nI k9))]) hx hb d_Model_mayFollow_22 hl (k := 0) rfl (nI_1 _) (by decide) rfl (fun ls hl => ?_)
      refine lv_goto (tgt := 2) hx hb d_Model_mayFollow_25 (by decide) ?_
      exact ih2 ((z2 + 1)) ls (by omega) ⟨by omega, by omega, fun j9 h9 => (Nat.lt_succ_iff_lt_or_eq.mp h9).elim (hJ2 j9) (fun e9 => by subst e9; exact p17)⟩ (lv_sub hl [0, 1, 2, 3, 4] rfl)
    · have p17 : (wl.getD z2 0) = k9 := ((nI_eq (a := (wl.getD z2 0)) (b := k9) (by omega) (by omega)).mp c17)
      refine lv_iconst (v := 0) hx hb d_Model_mayFollow_20 (by decide) ?_
      exact W.zret (v := 0) hx hb hr rfl (fun t ht hW => ⟨_, rfl, zP_f (fun h9 => h9.1 (by rw [← p17]; exact gD_in (by omega))), ht⟩) (fun q h => by cases h) d_Model_mayFollow_21
def y_Model_namesMayBe : MethodName := ⟨"TrustChainModel", "namesMayBe", "(LTrustChainModel$Text;I)Z"⟩
abbrev b_Model_namesMayBe : ByteArray := prog_14_method_36_code
def w_Model_namesMayBe : List Cond := Cond.code y_Model_namesMayBe b_Model_namesMayBe 6 ((some FieldType.boolean)) :: tb
theorem d_Model_namesMayBe_0 : decode b_Model_namesMayBe 0 = .ok (.aload_n 0, 1) := by decide +kernel
theorem d_Model_namesMayBe_1 : decode b_Model_namesMayBe 1 = .ok (.getfield 333, 3) := by decide +kernel
theorem d_Model_namesMayBe_4 : decode b_Model_namesMayBe 4 = .ok (.iconst 2, 1) := by decide +kernel
theorem d_Model_namesMayBe_5 : decode b_Model_namesMayBe 5 = .ok (.isub, 1) := by decide +kernel
theorem d_Model_namesMayBe_6 : decode b_Model_namesMayBe 6 = .ok (.istore_n 3, 1) := by decide +kernel
theorem d_Model_namesMayBe_7 : decode b_Model_namesMayBe 7 = .ok (.iload_n 3, 1) := by decide +kernel
theorem d_Model_namesMayBe_8 : decode b_Model_namesMayBe 8 = .ok (.iload_n 2, 1) := by decide +kernel
theorem d_Model_namesMayBe_9 : decode b_Model_namesMayBe 9 = .ok (.if_icmp .le 140, 3) := by decide +kernel
theorem d_Model_namesMayBe_12 : decode b_Model_namesMayBe 12 = .ok (.aload_n 0, 1) := by decide +kernel
theorem d_Model_namesMayBe_13 : decode b_Model_namesMayBe 13 = .ok (.getfield 19, 3) := by decide +kernel
theorem d_Model_namesMayBe_16 : decode b_Model_namesMayBe 16 = .ok (.aload_n 0, 1) := by decide +kernel
theorem d_Model_namesMayBe_17 : decode b_Model_namesMayBe 17 = .ok (.getfield 136, 3) := by decide +kernel
theorem d_Model_namesMayBe_20 : decode b_Model_namesMayBe 20 = .ok (.iload_n 3, 1) := by decide +kernel
theorem d_Model_namesMayBe_21 : decode b_Model_namesMayBe 21 = .ok (.iaload, 1) := by decide +kernel
theorem d_Model_namesMayBe_22 : decode b_Model_namesMayBe 22 = .ok (.aaload, 1) := by decide +kernel
theorem d_Model_namesMayBe_23 : decode b_Model_namesMayBe 23 = .ok (.astore 4, 2) := by decide +kernel
theorem d_Model_namesMayBe_25 : decode b_Model_namesMayBe 25 = .ok (.aload_n 1, 1) := by decide +kernel
theorem d_Model_namesMayBe_26 : decode b_Model_namesMayBe 26 = .ok (.getfield 240, 3) := by decide +kernel
theorem d_Model_namesMayBe_29 : decode b_Model_namesMayBe 29 = .ok (.ifCond .le 24, 3) := by decide +kernel
theorem d_Model_namesMayBe_32 : decode b_Model_namesMayBe 32 = .ok (.aload_n 0, 1) := by decide +kernel
theorem d_Model_namesMayBe_33 : decode b_Model_namesMayBe 33 = .ok (.aload 4, 2) := by decide +kernel
theorem d_Model_namesMayBe_35 : decode b_Model_namesMayBe 35 = .ok (.aload_n 1, 1) := by decide +kernel
theorem d_Model_namesMayBe_36 : decode b_Model_namesMayBe 36 = .ok (.aload_n 1, 1) := by decide +kernel
theorem d_Model_namesMayBe_37 : decode b_Model_namesMayBe 37 = .ok (.getfield 347, 3) := by decide +kernel
theorem d_Model_namesMayBe_40 : decode b_Model_namesMayBe 40 = .ok (.aload_n 1, 1) := by decide +kernel
theorem d_Model_namesMayBe_41 : decode b_Model_namesMayBe 41 = .ok (.getfield 350, 3) := by decide +kernel
theorem d_Model_namesMayBe_44 : decode b_Model_namesMayBe 44 = .ok (.iconst 1, 1) := by decide +kernel
theorem d_Model_namesMayBe_45 : decode b_Model_namesMayBe 45 = .ok (.invokevirtual 390, 3) := by decide +kernel
theorem d_Model_namesMayBe_48 : decode b_Model_namesMayBe 48 = .ok (.ifCond .ne 5, 3) := by decide +kernel
theorem d_Model_namesMayBe_51 : decode b_Model_namesMayBe 51 = .ok (.iconst 0, 1) := by decide +kernel
theorem d_Model_namesMayBe_52 : decode b_Model_namesMayBe 52 = .ok (.ireturn, 1) := by decide +kernel
theorem d_Model_namesMayBe_53 : decode b_Model_namesMayBe 53 = .ok (.iconst 0, 1) := by decide +kernel
theorem d_Model_namesMayBe_54 : decode b_Model_namesMayBe 54 = .ok (.istore 5, 2) := by decide +kernel
theorem d_Model_namesMayBe_56 : decode b_Model_namesMayBe 56 = .ok (.iload 5, 2) := by decide +kernel
theorem d_Model_namesMayBe_58 : decode b_Model_namesMayBe 58 = .ok (.aload_n 1, 1) := by decide +kernel
theorem d_Model_namesMayBe_59 : decode b_Model_namesMayBe 59 = .ok (.getfield 394, 3) := by decide +kernel
theorem d_Model_namesMayBe_62 : decode b_Model_namesMayBe 62 = .ok (.if_icmp .ge 36, 3) := by decide +kernel
theorem d_Model_namesMayBe_65 : decode b_Model_namesMayBe 65 = .ok (.aload_n 0, 1) := by decide +kernel
theorem d_Model_namesMayBe_66 : decode b_Model_namesMayBe 66 = .ok (.aload 4, 2) := by decide +kernel
theorem d_Model_namesMayBe_68 : decode b_Model_namesMayBe 68 = .ok (.aload_n 1, 1) := by decide +kernel
theorem d_Model_namesMayBe_69 : decode b_Model_namesMayBe 69 = .ok (.aload_n 1, 1) := by decide +kernel
theorem d_Model_namesMayBe_70 : decode b_Model_namesMayBe 70 = .ok (.getfield 397, 3) := by decide +kernel
theorem d_Model_namesMayBe_73 : decode b_Model_namesMayBe 73 = .ok (.iload 5, 2) := by decide +kernel
theorem d_Model_namesMayBe_75 : decode b_Model_namesMayBe 75 = .ok (.iaload, 1) := by decide +kernel
theorem d_Model_namesMayBe_76 : decode b_Model_namesMayBe 76 = .ok (.aload_n 1, 1) := by decide +kernel
theorem d_Model_namesMayBe_77 : decode b_Model_namesMayBe 77 = .ok (.getfield 400, 3) := by decide +kernel
theorem d_Model_namesMayBe_80 : decode b_Model_namesMayBe 80 = .ok (.iload 5, 2) := by decide +kernel
theorem d_Model_namesMayBe_82 : decode b_Model_namesMayBe 82 = .ok (.iaload, 1) := by decide +kernel
theorem d_Model_namesMayBe_83 : decode b_Model_namesMayBe 83 = .ok (.iconst 1, 1) := by decide +kernel
theorem d_Model_namesMayBe_84 : decode b_Model_namesMayBe 84 = .ok (.invokevirtual 390, 3) := by decide +kernel
theorem d_Model_namesMayBe_87 : decode b_Model_namesMayBe 87 = .ok (.ifCond .ne 5, 3) := by decide +kernel
theorem d_Model_namesMayBe_90 : decode b_Model_namesMayBe 90 = .ok (.iconst 0, 1) := by decide +kernel
theorem d_Model_namesMayBe_91 : decode b_Model_namesMayBe 91 = .ok (.ireturn, 1) := by decide +kernel
theorem d_Model_namesMayBe_92 : decode b_Model_namesMayBe 92 = .ok (.iinc 5 1, 3) := by decide +kernel
theorem d_Model_namesMayBe_95 : decode b_Model_namesMayBe 95 = .ok (.goto (-39), 3) := by decide +kernel
theorem d_Model_namesMayBe_98 : decode b_Model_namesMayBe 98 = .ok (.iconst 0, 1) := by decide +kernel
theorem d_Model_namesMayBe_99 : decode b_Model_namesMayBe 99 = .ok (.istore 5, 2) := by decide +kernel
theorem d_Model_namesMayBe_101 : decode b_Model_namesMayBe 101 = .ok (.iload 5, 2) := by decide +kernel
theorem d_Model_namesMayBe_103 : decode b_Model_namesMayBe 103 = .ok (.aload_n 1, 1) := by decide +kernel
theorem d_Model_namesMayBe_104 : decode b_Model_namesMayBe 104 = .ok (.getfield 237, 3) := by decide +kernel
theorem d_Model_namesMayBe_107 : decode b_Model_namesMayBe 107 = .ok (.if_icmp .ge 36, 3) := by decide +kernel
theorem d_Model_namesMayBe_110 : decode b_Model_namesMayBe 110 = .ok (.aload_n 0, 1) := by decide +kernel
theorem d_Model_namesMayBe_111 : decode b_Model_namesMayBe 111 = .ok (.aload 4, 2) := by decide +kernel
theorem d_Model_namesMayBe_113 : decode b_Model_namesMayBe 113 = .ok (.aload_n 1, 1) := by decide +kernel
theorem d_Model_namesMayBe_114 : decode b_Model_namesMayBe 114 = .ok (.aload_n 1, 1) := by decide +kernel
theorem d_Model_namesMayBe_115 : decode b_Model_namesMayBe 115 = .ok (.getfield 403, 3) := by decide +kernel
theorem d_Model_namesMayBe_118 : decode b_Model_namesMayBe 118 = .ok (.iload 5, 2) := by decide +kernel
theorem d_Model_namesMayBe_120 : decode b_Model_namesMayBe 120 = .ok (.iaload, 1) := by decide +kernel
theorem d_Model_namesMayBe_121 : decode b_Model_namesMayBe 121 = .ok (.aload_n 1, 1) := by decide +kernel
theorem d_Model_namesMayBe_122 : decode b_Model_namesMayBe 122 = .ok (.getfield 406, 3) := by decide +kernel
theorem d_Model_namesMayBe_125 : decode b_Model_namesMayBe 125 = .ok (.iload 5, 2) := by decide +kernel
theorem d_Model_namesMayBe_127 : decode b_Model_namesMayBe 127 = .ok (.iaload, 1) := by decide +kernel
theorem d_Model_namesMayBe_128 : decode b_Model_namesMayBe 128 = .ok (.iconst 0, 1) := by decide +kernel
theorem d_Model_namesMayBe_129 : decode b_Model_namesMayBe 129 = .ok (.invokevirtual 390, 3) := by decide +kernel
theorem d_Model_namesMayBe_132 : decode b_Model_namesMayBe 132 = .ok (.ifCond .ne 5, 3) := by decide +kernel
theorem d_Model_namesMayBe_135 : decode b_Model_namesMayBe 135 = .ok (.iconst 0, 1) := by decide +kernel
theorem d_Model_namesMayBe_136 : decode b_Model_namesMayBe 136 = .ok (.ireturn, 1) := by decide +kernel
theorem d_Model_namesMayBe_137 : decode b_Model_namesMayBe 137 = .ok (.iinc 5 1, 3) := by decide +kernel
theorem d_Model_namesMayBe_140 : decode b_Model_namesMayBe 140 = .ok (.goto (-39), 3) := by decide +kernel
theorem d_Model_namesMayBe_143 : decode b_Model_namesMayBe 143 = .ok (.iinc 3 (-1), 3) := by decide +kernel
theorem d_Model_namesMayBe_146 : decode b_Model_namesMayBe 146 = .ok (.goto (-139), 3) := by decide +kernel
theorem d_Model_namesMayBe_149 : decode b_Model_namesMayBe 149 = .ok (.iconst 1, 1) := by decide +kernel
theorem d_Model_namesMayBe_150 : decode b_Model_namesMayBe 150 = .ok (.ireturn, 1) := by decide +kernel
set_option maxHeartbeats 4000000 in
set_option maxRecDepth 100000 in
theorem p_Model_namesMayBe (l : Launch) (dC : Nat → ClassId) (dI : Nat → Nat → Nat) (sb : sB) (γ : cG) (κ : kE) (Ad : List Nat) (τ : Nat → TD) (gT : ClassId) (G : va_W) (mo t1 : Nat) (moc msT mrV msP mrA mbA mwA mhA mfA mpA mxA myA mmA mqA mzA mwy mfd : Nat) (mer mfed mwr mqs mch mft mpt mdp mvd mmk : Int32) (mnw : Int64) (s9 K9 KL c9 : Nat) (fw : Nat → Int32) (fS : Nat → Option Nat) (wl : List Nat) (i9 : Nat) (hTy : TR γ κ Ad τ G) (kmo : Xc Ad mo (.inr (12, (.int mer :: .int mfed :: .int mwr :: .int (nI K9) :: .int (nI KL) :: .ref moc :: .ref msT :: .ref mrV :: .ref msP :: .int mqs :: .ref mrA :: .ref mbA :: .ref mwA :: .ref mhA :: .ref mfA :: .ref mpA :: .ref mxA :: .ref myA :: .ref mmA :: .ref mqA :: .ref mzA :: .ref mwy :: .ref mfd :: .int (nI s9) :: .int (nI c9) :: .int mch :: .int mft :: .int mpt :: .int mdp :: .int mvd :: .long mnw :: .int mmk :: []))) G) (kt1 : tK κ Ad t1 (20, 0, 0)) (hc_t1 : TC (τ t1)) (kmwy : Xc Ad mwy (.inl (γ.2.1, 16, .inl fw)) G) (kmsT : Xc Ad msT (.inl (gT, 16, .inr (.inr (.inr (.inr fS))))) G) (hst : STc κ Ad τ K9 fS) (hway : wyR wl K9 fw) (hwl : wl.length = s9) (hK9 : K9 ≤ 16) (hs9 : s9 ≤ 16) (hi9 : i9 + 2 ≤ s9) : Met l y_Model_namesMayBe w_Model_namesMayBe ({ frames := 4, cells := 0, slots := 0, locals := 99 }) (pu_P [.ref mo, .ref t1, .int (nI i9)] (dC, dI) sb G [(γ.1, .byte), (γ.2.1, .int), (γ.2.2.1, .long), (γ.2.2.2, .object "java/lang/Object"), (gT, .object "TrustChainModel$Text")]) (vp_Si (fun r => r = zP (∀ j9, i9 < j9 → j9 + 1 < wl.length → abvQ (cT (τ t1)) (cXf τ fS (wl.getD j9 0))))) 0 0 (fun _ => False) := by
  refine Met.ofW (cc := b_Model_namesMayBe) (maxL := 6) (ret := (some FieldType.boolean)) (by decide) rfl ?_
  intro p e s m args below meth c s₁ B hml hv
  obtain ⟨rfl, hP, hK, hN, hT0⟩ := hv
  have hx := B.exec
  have hb := B.bytes
  have hr := B.returns
  have hts := atoms_spec (ws := w_Model_namesMayBe) B.pre
  have tbin : ∀ w ∈ tb, w ∈ w_Model_namesMayBe := fun w h => List.mem_cons_of_mem _ h
  have htb : ∀ w ∈ tb, w.before _ s = true := fun w h => hts w (tbin w h)
  have hown : s.vm.findClass "TrustChainModel" = some m.cls := findClass_of_methodNamed B.named
  have hlocks := B.notSynchronized
  have hl := lv_entry ([.ref mo, .ref t1, .int (nI i9)]) (n := 6) (Nat.le_of_ble_eq_true rfl)
  rw [lg_entry_eq]
  generalize (lg_sl ([.ref mo, .ref t1, .int (nI i9)]) ++ List.replicate (6 - (lg_sl ([.ref mo, .ref t1, .int (nI i9)])).length) Slot.unset).toArray = ls at hl ⊢
  have hl : lv_has ls 6 [(0, .ref mo), (1, .ref t1), (2, .int (nI i9))] := hl
  have b1_t1 := hc_t1.b1
  have b2_t1 := hc_t1.b2
  have b3_t1 := hc_t1.b3
  have b4_t1 := hc_t1.b4
  have b5_t1 := hc_t1.b5
  have b6_t1 := hc_t1.b6
  have b8_t1 := hc_t1.b8
  have b9_t1 := hc_t1.b9
  have hg_t := hdr_ge (τ t1).u (τ t1).su
  refine lv_aload_n hx hb d_Model_namesMayBe_0 rfl (lv_at hl 0 rfl) ?_
  obtain ⟨i_1, hg_1⟩ := List.getElem?_of_mem kmo.2
  refine va_get (v := .int (nI s9)) hx hb htb i_Model hown hK hP i_1 hg_1 rfl 23 (by decide) (htb _ q7_237) (fun _ h9 => h9) rfl d_Model_namesMayBe_1 ?_
  refine lv_iconst (v := 2) hx hb d_Model_namesMayBe_4 (by decide) ?_
  refine lv_isub hx hb d_Model_namesMayBe_5 ?_
  rw [show ((nI s9) - 2 : Int32) = nI (s9 - 2) from pk_sub (a := s9) (b := 2) (by omega)]
  refine lv_istore_n (lv' := [(3, .int (nI (s9 - 2))), (0, .ref mo), (1, .ref t1), (2, .int (nI i9))]) hx hb d_Model_namesMayBe_6 rfl hl (by decide) rfl (fun ls hl => ?_)
  refine w_loop (α := Nat) (fun a9 => 0 ≤ a9 ∧ a9 ≤ (s9 - 2 - i9) ∧ (∀ j9, s9 - 2 - a9 < j9 → j9 + 1 < s9 → abvQ (cT (τ t1)) (cXf τ fS (wl.getD j9 0)))) (fun a9 => (s9 - 2 - i9) - a9) (fun a9 => [(3, .int (nI (s9 - 2 - a9))), (0, .ref mo), (1, .ref t1), (2, .int (nI i9))]) (fun _ => []) 6 7 (fun z7 ls hJ hl ih7 => ?_) (0) ls ⟨by omega, by omega, fun j9 h8 h9 => absurd h8 (by omega)⟩ (lv_sub hl [0, 1, 2, 3, 4] rfl)
  skip
  obtain ⟨hy7, hz7, hJ7⟩ := hJ
  refine lv_iload_n hx hb d_Model_namesMayBe_7 rfl (lv_at hl 0 rfl) ?_
  refine lv_iload_n hx hb d_Model_namesMayBe_8 rfl (lv_at hl 3 rfl) ?_
  refine lv_icmp_le (tgt := 149) hx hb d_Model_namesMayBe_9 (by decide) (fun c9 => ?_) (fun c9 => ?_)
  · have p9 : (s9 - 2 - z7) ≤ i9 := ((nI_leI (a := (s9 - 2 - z7)) (b := i9) (by omega) (by omega)).mp c9)
    refine lv_iconst (v := 1) hx hb d_Model_namesMayBe_149 (by decide) ?_
    exact W.zret (v := 1) hx hb hr rfl (fun t ht hW => ⟨_, rfl, zP_t (fun j9 h8 h9 => hJ7 j9 (by omega) (by omega)), ht⟩) (fun q h => by cases h) d_Model_namesMayBe_150
  · have p9 : ¬ ((s9 - 2 - z7) ≤ i9) := (fun q9 => c9 ((nI_leI (a := (s9 - 2 - z7)) (b := i9) (by omega) (by omega)).mpr q9))
    refine lv_aload_n hx hb d_Model_namesMayBe_12 rfl (lv_at hl 1 rfl) ?_
    refine va_get (v := .ref msT) hx hb htb i_Model hown hK hP i_1 hg_1 rfl 6 (by decide) (htb _ q7_220) (fun _ h9 => h9) rfl d_Model_namesMayBe_13 ?_
    refine lv_aload_n hx hb d_Model_namesMayBe_16 rfl (lv_at hl 1 rfl) ?_
    refine va_get (v := .ref mwy) hx hb htb i_Model hown hK hP i_1 hg_1 rfl 21 (by decide) (htb _ q7_235) (fun _ h9 => h9) rfl d_Model_namesMayBe_17 ?_
    refine lv_iload_n hx hb d_Model_namesMayBe_20 rfl (lv_at hl 0 rfl) ?_
    obtain ⟨i_2, hg_2⟩ := List.getElem?_of_mem kmwy.2
    have h21 : vp_in (nI (s9 - 2 - z7)) 16 := vp_in_nI (by omega) (by omega)
    refine va_iald hx hb hK hP i_2 1 hg_2 rfl h21 d_Model_namesMayBe_21 ?_
    refine lv_topi (fun e21 he21 => ?_)
    have hw21 := hway (s9 - 2 - z7) (by omega)
    rw [nI_clamp (by omega), hw21.2] at he21
    have hw21 := hw21.1
    subst he21
    obtain ⟨i_3, hg_3⟩ := List.getElem?_of_mem kmsT.2
    have h22 : vp_in (nI (wl.getD (s9 - 2 - z7) 0)) 16 := vp_in_nI (by omega) (by omega)
    refine va_aldq hx hb hK hP i_3 4 hg_3 rfl h22 d_Model_namesMayBe_22 ?_
    obtain ⟨t_4, ft_4, kt_4, hc_4⟩ := hst (wl.getD (s9 - 2 - z7) 0) (by omega)
    obtain rfl : t_4 = ((fS (wl.getD (s9 - 2 - z7) 0)).getD 0) := by rw [ft_4]; rfl
    rw [show va_rf (fS (nI (wl.getD (s9 - 2 - z7) 0)).toNatClampNeg) = .ref ((fS (wl.getD (s9 - 2 - z7) 0)).getD 0) from by rw [nI_clamp (by omega), ft_4]; rfl]
    have b1_4 := hc_4.b1
    have b2_4 := hc_4.b2
    have b3_4 := hc_4.b3
    have b4_4 := hc_4.b4
    have b5_4 := hc_4.b5
    have b6_4 := hc_4.b6
    have b8_4 := hc_4.b8
    have b9_4 := hc_4.b9
    refine lv_astore (lv' := [(4, .ref ((fS (wl.getD (s9 - 2 - z7) 0)).getD 0)), (3, .int (nI (s9 - 2 - z7))), (0, .ref mo), (1, .ref t1), (2, .int (nI i9))]) hx hb d_Model_namesMayBe_23 hl (by decide) rfl (fun ls hl => ?_)
    refine lv_aload_n hx hb d_Model_namesMayBe_25 rfl (lv_at hl 3 rfl) ?_
    obtain ⟨i_5, kA_5, hg_5⟩ := tr_20 hTy kt1
    refine va_get (v := .int ((τ t1).I 16)) hx hb htb i_Text hown hK hP i_5 hg_5 rfl 16 (by decide) (htb _ q6_205) (fun _ h9 => h9) rfl d_Model_namesMayBe_26 ?_
    refine lv_if_le (tgt := 53) hx hb d_Model_namesMayBe_29 (by decide) (fun c29 => ?_) (fun c29 => ?_)
    · have p29 : ((τ t1).I 16) ≤ (0 : Int32) := c29
      refine lv_iconst (v := 0) hx hb d_Model_namesMayBe_53 (by decide) ?_
      refine lv_istore (lv' := [(5, .int 0), (4, .ref ((fS (wl.getD (s9 - 2 - z7) 0)).getD 0)), (3, .int (nI (s9 - 2 - z7))), (0, .ref mo), (1, .ref t1), (2, .int (nI i9))]) hx hb d_Model_namesMayBe_54 hl (by decide) rfl (fun ls hl => ?_)
      have hps9 : 0 < (cT (τ t1)).ps → dirQ (cXf τ fS (wl.getD (s9 - 2 - z7) 0)) (cT (τ t1)).sc := fun h9 => absurd h9 (q_ng p29)
      refine w_loop (α := Nat) (fun a9 => 0 ≤ a9 ∧ a9 ≤ ((τ t1).ni) ∧ (∀ i8, i8 < a9 → dirQ (cXf τ fS (wl.getD (s9 - 2 - z7) 0)) (rgM (τ t1).u (hdr (τ t1).u ((τ t1).ia i8)) ((τ t1).ib i8 - hdr (τ t1).u ((τ t1).ia i8))))) (fun a9 => ((τ t1).ni) - a9) (fun a9 => [(5, .int (nI a9)), (4, .ref ((fS (wl.getD (s9 - 2 - z7) 0)).getD 0)), (3, .int (nI (s9 - 2 - z7))), (0, .ref mo), (1, .ref t1), (2, .int (nI i9))]) (fun _ => []) 6 56 (fun z56 ls hJ hl ih56 => ?_) (0) ls ⟨by omega, by omega, fun i8 h9 => absurd h9 (Nat.not_lt_zero i8)⟩ (lv_sub hl [0, 1, 2, 3, 4, 5] rfl)
      skip
      obtain ⟨hy56, hz56, hJ56⟩ := hJ
      refine lv_iload hx hb d_Model_namesMayBe_56 (lv_at hl 0 rfl) ?_
      refine lv_aload_n hx hb d_Model_namesMayBe_58 rfl (lv_at hl 4 rfl) ?_
      refine va_get (v := .int ((τ t1).I 28)) hx hb htb i_Text hown hK hP i_5 hg_5 rfl 28 (by decide) (htb _ q6_229) (fun _ h9 => h9) rfl d_Model_namesMayBe_59 ?_
      rw [hc_t1.e28]
      refine lv_icmp_ge (tgt := 98) hx hb d_Model_namesMayBe_62 (by decide) (fun c62 => ?_) (fun c62 => ?_)
      · have p62 : ((τ t1).ni) ≤ z56 := ((nI_leI (a := ((τ t1).ni)) (b := z56) (by omega) (by omega)).mp c62)
        refine lv_iconst (v := 0) hx hb d_Model_namesMayBe_98 (by decide) ?_
        refine lv_istore (lv' := [(5, .int 0), (4, .ref ((fS (wl.getD (s9 - 2 - z7) 0)).getD 0)), (3, .int (nI (s9 - 2 - z7))), (0, .ref mo), (1, .ref t1), (2, .int (nI i9))]) hx hb d_Model_namesMayBe_99 hl (by decide) rfl (fun ls hl => ?_)
        have hdi9 : ∀ n9, n9 ∈ (cT (τ t1)).di → dirQ (cXf τ fS (wl.getD (s9 - 2 - z7) 0)) n9 := fun n9 h9 => by
          obtain ⟨i8, h8, rfl⟩ := List.mem_map.mp h9
          exact hJ56 i8 (by have := List.mem_range.mp h8; omega)
        refine w_loop (α := Nat) (fun a9 => 0 ≤ a9 ∧ a9 ≤ ((τ t1).nd) ∧ (∀ i8, i8 < a9 → dnsQ (cXf τ fS (wl.getD (s9 - 2 - z7) 0)) (rgM (τ t1).u ((τ t1).da i8) ((τ t1).de i8 - (τ t1).da i8)))) (fun a9 => ((τ t1).nd) - a9) (fun a9 => [(5, .int (nI a9)), (4, .ref ((fS (wl.getD (s9 - 2 - z7) 0)).getD 0)), (3, .int (nI (s9 - 2 - z7))), (0, .ref mo), (1, .ref t1), (2, .int (nI i9))]) (fun _ => []) 6 101 (fun z101 ls hJ hl ih101 => ?_) (0) ls ⟨by omega, by omega, fun i8 h9 => absurd h9 (Nat.not_lt_zero i8)⟩ (lv_sub hl [0, 1, 2, 3, 4, 5] rfl)
        skip
        obtain ⟨hy101, hz101, hJ101⟩ := hJ
        refine lv_iload hx hb d_Model_namesMayBe_101 (lv_at hl 0 rfl) ?_
        refine lv_aload_n hx hb d_Model_namesMayBe_103 rfl (lv_at hl 4 rfl) ?_
        refine va_get (v := .int ((τ t1).I 27)) hx hb htb i_Text hown hK hP i_5 hg_5 rfl 27 (by decide) (htb _ q6_226) (fun _ h9 => h9) rfl d_Model_namesMayBe_104 ?_
        rw [hc_t1.e27]
        refine lv_icmp_ge (tgt := 143) hx hb d_Model_namesMayBe_107 (by decide) (fun c107 => ?_) (fun c107 => ?_)
        · have p107 : ((τ t1).nd) ≤ z101 := ((nI_leI (a := ((τ t1).nd)) (b := z101) (by omega) (by omega)).mp c107)
          have hab9 : abvQ (cT (τ t1)) (cXf τ fS (wl.getD (s9 - 2 - z7) 0)) := ⟨hps9, hdi9, fun n9 h9 => by obtain ⟨i8, h8, rfl⟩ := List.mem_map.mp h9; exact hJ101 i8 (by have := List.mem_range.mp h8; omega)⟩
          refine lv_iinc (v := nI (s9 - 2 - (z7 + 1))) (lv' := [(3, .int (nI (s9 - 2 - (z7 + 1)))), (5, .int (nI z101)), (4, .ref ((fS (wl.getD (s9 - 2 - z7) 0)).getD 0)), (0, .ref mo), (1, .ref t1), (2, .int (nI i9))]) hx hb d_Model_namesMayBe_143 hl (k := 2) rfl (nI_m1j (by omega)) (by decide) rfl (fun ls hl => ?_)
          refine lv_goto (tgt := 7) hx hb d_Model_namesMayBe_146 (by decide) ?_
          exact ih7 (z7 + 1) ls (by omega) ⟨by omega, by omega, fun j9 h8 h9 => (show j9 = s9 - 2 - z7 ∨ s9 - 2 - z7 < j9 by omega).elim (fun e9 => by rw [e9]; exact hab9) (fun q9 => hJ7 j9 q9 h9)⟩ (lv_sub hl [0, 3, 4, 5] rfl)
        · have p107 : ¬ (((τ t1).nd) ≤ z101) := (fun q9 => c107 ((nI_leI (a := ((τ t1).nd)) (b := z101) (by omega) (by omega)).mpr q9))
          refine lv_aload_n hx hb d_Model_namesMayBe_110 rfl (lv_at hl 3 rfl) ?_
          refine lv_aload hx hb d_Model_namesMayBe_111 (lv_at hl 1 rfl) ?_
          refine lv_aload_n hx hb d_Model_namesMayBe_113 rfl (lv_at hl 4 rfl) ?_
          refine lv_aload_n hx hb d_Model_namesMayBe_114 rfl (lv_at hl 4 rfl) ?_
          refine va_get (v := .ref ((τ t1).A 1)) hx hb htb i_Text hown hK hP i_5 hg_5 rfl 43 (by decide) (htb _ q7_14) (fun _ h9 => h9) rfl d_Model_namesMayBe_115 ?_
          refine lv_iload hx hb d_Model_namesMayBe_118 (lv_at hl 0 rfl) ?_
          obtain ⟨i_6, hg_6⟩ := tr_18 hTy (kA_5 1 (by decide))
          have hg_6 : G[i_6]? = some (((τ t1).A 1), .inl (γ.2.1, 700, .inl ((τ t1).D 1))) := hg_6
          have h120 : vp_in (nI z101) 700 := vp_in_nI (by omega) (by omega)
          refine va_iald hx hb hK hP i_6 1 hg_6 rfl h120 d_Model_namesMayBe_120 ?_
          refine lv_topi (fun e120 he120 => ?_)
          obtain ⟨q1_120, q2_120, q3_120, q4_120⟩ := hc_t1.l1 z101 (by omega)
          rw [nI_clamp (by omega), q1_120] at he120
          subst he120
          refine lv_aload_n hx hb d_Model_namesMayBe_121 rfl (lv_at hl 4 rfl) ?_
          refine va_get (v := .ref ((τ t1).A 2)) hx hb htb i_Text hown hK hP i_5 hg_5 rfl 44 (by decide) (htb _ q7_16) (fun _ h9 => h9) rfl d_Model_namesMayBe_122 ?_
          refine lv_iload hx hb d_Model_namesMayBe_125 (lv_at hl 0 rfl) ?_
          obtain ⟨i_7, hg_7⟩ := tr_18 hTy (kA_5 2 (by decide))
          have hg_7 : G[i_7]? = some (((τ t1).A 2), .inl (γ.2.1, 700, .inl ((τ t1).D 2))) := hg_7
          have h127 : vp_in (nI z101) 700 := vp_in_nI (by omega) (by omega)
          refine va_iald hx hb hK hP i_7 1 hg_7 rfl h127 d_Model_namesMayBe_127 ?_
          refine lv_topi (fun e127 he127 => ?_)
          obtain ⟨q1_127, q2_127, q3_127, q4_127⟩ := hc_t1.l1 z101 (by omega)
          rw [nI_clamp (by omega), q2_127] at he127
          subst he127
          refine lv_iconst (v := 0) hx hb d_Model_namesMayBe_128 (by decide) ?_
          refine vp_callSi (pu_callV (As := [.ref ((fS (wl.getD (s9 - 2 - z7) 0)).getD 0), .ref t1, .int (nI ((τ t1).da z101)), .int (nI ((τ t1).de z101)), .int 0]) (rest := []) ⟨hx, hb, hml, hown, hts⟩ tbin (p_Model_mayBe0 l dC dI sb γ κ Ad τ gT G ((fS (wl.getD (s9 - 2 - z7) 0)).getD 0) t1 mo ((τ t1).da z101) ((τ t1).de z101) hTy kt_4 kt1 hc_4 hc_t1.toTB (by omega) (by omega)) q9_154 q9_156 qp_49 q1_9 q9_157 (n := 5) (by decide +kernel) rfl ⟨rfl, rfl⟩ ⟨Nat.le_of_ble_eq_true rfl, Nat.le_of_ble_eq_true rfl⟩ ⟨Nat.le_of_ble_eq_true rfl, Nat.le_of_ble_eq_true rfl⟩ hN hT0 hK hP (List.range G.length) (rg_all G) [0, 1, 2, 3, 4] rfl i_1 12 hg_1 rfl rfl hl.1 rfl (Nat.le_of_ble_eq_true rfl) d_Model_namesMayBe_129) (fun r129 hr129 => ?_)
          obtain rfl : r129 = zP (dnsQ (cXf τ fS (wl.getD (s9 - 2 - z7) 0)) (rgM (τ t1).u ((τ t1).da z101) ((τ t1).de z101 - (τ t1).da z101))) := hr129
          refine lv_if_ne (tgt := 137) hx hb d_Model_namesMayBe_132 (by decide) (fun c132 => ?_) (fun c132 => ?_)
          · have p132 : dnsQ (cXf τ fS (wl.getD (s9 - 2 - z7) 0)) (rgM (τ t1).u ((τ t1).da z101) ((τ t1).de z101 - (τ t1).da z101)) := (zP_1 c132)
            refine lv_iinc (v := nI (z101 + 1)) (lv' := [(5, .int (nI (z101 + 1))), (4, .ref ((fS (wl.getD (s9 - 2 - z7) 0)).getD 0)), (3, .int (nI (s9 - 2 - z7))), (0, .ref mo), (1, .ref t1), (2, .int (nI i9))]) hx hb d_Model_namesMayBe_137 hl (k := 0) rfl (nI_1 _) (by decide) rfl (fun ls hl => ?_)
            refine lv_goto (tgt := 101) hx hb d_Model_namesMayBe_140 (by decide) ?_
            exact ih101 ((z101 + 1)) ls (by omega) ⟨by omega, by omega, fun i8 h9 => (Nat.lt_succ_iff_lt_or_eq.mp h9).elim (hJ101 i8) (fun e9 => by subst e9; exact p132)⟩ (lv_sub hl [0, 1, 2, 3, 4, 5] rfl)
          · have p132 : ¬ (dnsQ (cXf τ fS (wl.getD (s9 - 2 - z7) 0)) (rgM (τ t1).u ((τ t1).da z101) ((τ t1).de z101 - (τ t1).da z101))) := (zP_0.mp c132)
            refine lv_iconst (v := 0) hx hb d_Model_namesMayBe_135 (by decide) ?_
            exact W.zret (v := 0) hx hb hr rfl (fun t ht hW => ⟨_, rfl, zP_f (fun h9 => p132 ((h9 (s9 - 2 - z7) (by omega) (by omega)).2.2 _ (List.mem_map.mpr ⟨z101, List.mem_range.mpr (by omega), rfl⟩))), ht⟩) (fun q h => by cases h) d_Model_namesMayBe_136
      · have p62 : ¬ (((τ t1).ni) ≤ z56) := (fun q9 => c62 ((nI_leI (a := ((τ t1).ni)) (b := z56) (by omega) (by omega)).mpr q9))
        refine lv_aload_n hx hb d_Model_namesMayBe_65 rfl (lv_at hl 3 rfl) ?_
        refine lv_aload hx hb d_Model_namesMayBe_66 (lv_at hl 1 rfl) ?_
        refine lv_aload_n hx hb d_Model_namesMayBe_68 rfl (lv_at hl 4 rfl) ?_
        refine lv_aload_n hx hb d_Model_namesMayBe_69 rfl (lv_at hl 4 rfl) ?_
        refine va_get (v := .ref ((τ t1).A 3)) hx hb htb i_Text hown hK hP i_5 hg_5 rfl 45 (by decide) (htb _ q7_18) (fun _ h9 => h9) rfl d_Model_namesMayBe_70 ?_
        refine lv_iload hx hb d_Model_namesMayBe_73 (lv_at hl 0 rfl) ?_
        obtain ⟨i_8, hg_8⟩ := tr_18 hTy (kA_5 3 (by decide))
        have hg_8 : G[i_8]? = some (((τ t1).A 3), .inl (γ.2.1, 700, .inl ((τ t1).D 3))) := hg_8
        have h75 : vp_in (nI z56) 700 := vp_in_nI (by omega) (by omega)
        refine va_iald hx hb hK hP i_8 1 hg_8 rfl h75 d_Model_namesMayBe_75 ?_
        refine lv_topi (fun e75 he75 => ?_)
        obtain ⟨q1_75, q2_75, q3_75, q4_75⟩ := hc_t1.l2 z56 (by omega)
        rw [nI_clamp (by omega), q1_75] at he75
        subst he75
        refine lv_aload_n hx hb d_Model_namesMayBe_76 rfl (lv_at hl 4 rfl) ?_
        refine va_get (v := .ref ((τ t1).A 4)) hx hb htb i_Text hown hK hP i_5 hg_5 rfl 46 (by decide) (htb _ q7_20) (fun _ h9 => h9) rfl d_Model_namesMayBe_77 ?_
        refine lv_iload hx hb d_Model_namesMayBe_80 (lv_at hl 0 rfl) ?_
        obtain ⟨i_9, hg_9⟩ := tr_18 hTy (kA_5 4 (by decide))
        have hg_9 : G[i_9]? = some (((τ t1).A 4), .inl (γ.2.1, 700, .inl ((τ t1).D 4))) := hg_9
        have h82 : vp_in (nI z56) 700 := vp_in_nI (by omega) (by omega)
        refine va_iald hx hb hK hP i_9 1 hg_9 rfl h82 d_Model_namesMayBe_82 ?_
        refine lv_topi (fun e82 he82 => ?_)
        obtain ⟨q1_82, q2_82, q3_82, q4_82⟩ := hc_t1.l2 z56 (by omega)
        rw [nI_clamp (by omega), q2_82] at he82
        subst he82
        have hg75 := hdr_ge (τ t1).u ((τ t1).ia z56)
        refine lv_iconst (v := 1) hx hb d_Model_namesMayBe_83 (by decide) ?_
        refine vp_callSi (pu_callV (As := [.ref ((fS (wl.getD (s9 - 2 - z7) 0)).getD 0), .ref t1, .int (nI ((τ t1).ia z56)), .int (nI ((τ t1).ib z56)), .int 1]) (rest := []) ⟨hx, hb, hml, hown, hts⟩ tbin (p_Model_mayBe1 l dC dI sb γ κ Ad τ gT G ((fS (wl.getD (s9 - 2 - z7) 0)).getD 0) t1 mo ((τ t1).ia z56) ((τ t1).ib z56) hTy kt_4 kt1 hc_4 hc_t1.toTB q3_75 (by omega)) q9_154 q9_156 qp_49 q1_9 q9_157 (n := 5) (by decide +kernel) rfl ⟨rfl, rfl⟩ ⟨Nat.le_of_ble_eq_true rfl, Nat.le_of_ble_eq_true rfl⟩ ⟨Nat.le_of_ble_eq_true rfl, Nat.le_of_ble_eq_true rfl⟩ hN hT0 hK hP (List.range G.length) (rg_all G) [0, 1, 2, 3, 4] rfl i_1 12 hg_1 rfl rfl hl.1 rfl (Nat.le_of_ble_eq_true rfl) d_Model_namesMayBe_84) (fun r84 hr84 => ?_)
        obtain rfl : r84 = zP (dirQ (cXf τ fS (wl.getD (s9 - 2 - z7) 0)) (rgM (τ t1).u (hdr (τ t1).u ((τ t1).ia z56)) ((τ t1).ib z56 - hdr (τ t1).u ((τ t1).ia z56)))) := hr84
        refine lv_if_ne (tgt := 92) hx hb d_Model_namesMayBe_87 (by decide) (fun c87 => ?_) (fun c87 => ?_)
        · have p87 : dirQ (cXf τ fS (wl.getD (s9 - 2 - z7) 0)) (rgM (τ t1).u (hdr (τ t1).u ((τ t1).ia z56)) ((τ t1).ib z56 - hdr (τ t1).u ((τ t1).ia z56))) := (zP_1 c87)
          refine lv_iinc (v := nI (z56 + 1)) (lv' := [(5, .int (nI (z56 + 1))), (4, .ref ((fS (wl.getD (s9 - 2 - z7) 0)).getD 0)), (3, .int (nI (s9 - 2 - z7))), (0, .ref mo), (1, .ref t1), (2, .int (nI i9))]) hx hb d_Model_namesMayBe_92 hl (k := 0) rfl (nI_1 _) (by decide) rfl (fun ls hl => ?_)
          refine lv_goto (tgt := 56) hx hb d_Model_namesMayBe_95 (by decide) ?_
          exact ih56 ((z56 + 1)) ls (by omega) ⟨by omega, by omega, fun i8 h9 => (Nat.lt_succ_iff_lt_or_eq.mp h9).elim (hJ56 i8) (fun e9 => by subst e9; exact p87)⟩ (lv_sub hl [0, 1, 2, 3, 4, 5] rfl)
        · have p87 : ¬ (dirQ (cXf τ fS (wl.getD (s9 - 2 - z7) 0)) (rgM (τ t1).u (hdr (τ t1).u ((τ t1).ia z56)) ((τ t1).ib z56 - hdr (τ t1).u ((τ t1).ia z56)))) := (zP_0.mp c87)
          refine lv_iconst (v := 0) hx hb d_Model_namesMayBe_90 (by decide) ?_
          exact W.zret (v := 0) hx hb hr rfl (fun t ht hW => ⟨_, rfl, zP_f (fun h9 => p87 ((h9 (s9 - 2 - z7) (by omega) (by omega)).2.1 _ (List.mem_map.mpr ⟨z56, List.mem_range.mpr (by omega), rfl⟩))), ht⟩) (fun q h => by cases h) d_Model_namesMayBe_91
    · have p29 : ¬ (((τ t1).I 16) ≤ (0 : Int32)) := c29
      refine lv_aload_n hx hb d_Model_namesMayBe_32 rfl (lv_at hl 2 rfl) ?_
      refine lv_aload hx hb d_Model_namesMayBe_33 (lv_at hl 0 rfl) ?_
      refine lv_aload_n hx hb d_Model_namesMayBe_35 rfl (lv_at hl 3 rfl) ?_
      refine lv_aload_n hx hb d_Model_namesMayBe_36 rfl (lv_at hl 3 rfl) ?_
      refine va_get (v := .int ((τ t1).I 14)) hx hb htb i_Text hown hK hP i_5 hg_5 rfl 14 (by decide) (htb _ q6_202) (fun _ h9 => h9) rfl d_Model_namesMayBe_37 ?_
      rw [hc_t1.e14]
      refine lv_aload_n hx hb d_Model_namesMayBe_40 rfl (lv_at hl 3 rfl) ?_
      refine va_get (v := .int ((τ t1).I 15)) hx hb htb i_Text hown hK hP i_5 hg_5 rfl 15 (by decide) (htb _ q6_204) (fun _ h9 => h9) rfl d_Model_namesMayBe_41 ?_
      rw [hc_t1.e15]
      refine lv_iconst (v := 1) hx hb d_Model_namesMayBe_44 (by decide) ?_
      refine vp_callSi (pu_callV (As := [.ref ((fS (wl.getD (s9 - 2 - z7) 0)).getD 0), .ref t1, .int (nI ((τ t1).su)), .int (nI ((τ t1).ue)), .int 1]) (rest := []) ⟨hx, hb, hml, hown, hts⟩ tbin (p_Model_mayBe1 l dC dI sb γ κ Ad τ gT G ((fS (wl.getD (s9 - 2 - z7) 0)).getD 0) t1 mo ((τ t1).su) ((τ t1).ue) hTy kt_4 kt1 hc_4 hc_t1.toTB b5_t1.1 (by omega)) q9_154 q9_156 qp_49 q1_9 q9_157 (n := 5) (by decide +kernel) rfl ⟨rfl, rfl⟩ ⟨Nat.le_of_ble_eq_true rfl, Nat.le_of_ble_eq_true rfl⟩ ⟨Nat.le_of_ble_eq_true rfl, Nat.le_of_ble_eq_true rfl⟩ hN hT0 hK hP (List.range G.length) (rg_all G) [0, 1, 2, 3, 4] rfl i_1 12 hg_1 rfl rfl hl.1 rfl (Nat.le_of_ble_eq_true rfl) d_Model_namesMayBe_45) (fun r45 hr45 => ?_)
      obtain rfl : r45 = zP (dirQ (cXf τ fS (wl.getD (s9 - 2 - z7) 0)) (rgM (τ t1).u (hdr (τ t1).u (τ t1).su) ((τ t1).ue - hdr (τ t1).u (τ t1).su))) := hr45
      refine lv_if_ne (tgt := 53) hx hb d_Model_namesMayBe_48 (by decide) (fun c48 => ?_) (fun c48 => ?_)
      · have p48 : dirQ (cXf τ fS (wl.getD (s9 - 2 - z7) 0)) (rgM (τ t1).u (hdr (τ t1).u (τ t1).su) ((τ t1).ue - hdr (τ t1).u (τ t1).su)) := (zP_1 c48)
        refine lv_iconst (v := 0) hx hb d_Model_namesMayBe_53 (by decide) ?_
        refine lv_istore (lv' := [(5, .int 0), (4, .ref ((fS (wl.getD (s9 - 2 - z7) 0)).getD 0)), (3, .int (nI (s9 - 2 - z7))), (0, .ref mo), (1, .ref t1), (2, .int (nI i9))]) hx hb d_Model_namesMayBe_54 hl (by decide) rfl (fun ls hl => ?_)
        have hps9 : 0 < (cT (τ t1)).ps → dirQ (cXf τ fS (wl.getD (s9 - 2 - z7) 0)) (cT (τ t1)).sc := fun _ => p48
        refine w_loop (α := Nat) (fun a9 => 0 ≤ a9 ∧ a9 ≤ ((τ t1).ni) ∧ (∀ i8, i8 < a9 → dirQ (cXf τ fS (wl.getD (s9 - 2 - z7) 0)) (rgM (τ t1).u (hdr (τ t1).u ((τ t1).ia i8)) ((τ t1).ib i8 - hdr (τ t1).u ((τ t1).ia i8))))) (fun a9 => ((τ t1).ni) - a9) (fun a9 => [(5, .int (nI a9)), (4, .ref ((fS (wl.getD (s9 - 2 - z7) 0)).getD 0)), (3, .int (nI (s9 - 2 - z7))), (0, .ref mo), (1, .ref t1), (2, .int (nI i9))]) (fun _ => []) 6 56 (fun z56 ls hJ hl ih56 => ?_) (0) ls ⟨by omega, by omega, fun i8 h9 => absurd h9 (Nat.not_lt_zero i8)⟩ (lv_sub hl [0, 1, 2, 3, 4, 5] rfl)
        skip
        obtain ⟨hy56, hz56, hJ56⟩ := hJ
        refine lv_iload hx hb d_Model_namesMayBe_56 (lv_at hl 0 rfl) ?_
        refine lv_aload_n hx hb d_Model_namesMayBe_58 rfl (lv_at hl 4 rfl) ?_
        refine va_get (v := .int ((τ t1).I 28)) hx hb htb i_Text hown hK hP i_5 hg_5 rfl 28 (by decide) (htb _ q6_229) (fun _ h9 => h9) rfl d_Model_namesMayBe_59 ?_
        rw [hc_t1.e28]
        refine lv_icmp_ge (tgt := 98) hx hb d_Model_namesMayBe_62 (by decide) (fun c62 => ?_) (fun c62 => ?_)
        · have p62 : ((τ t1).ni) ≤ z56 := ((nI_leI (a := ((τ t1).ni)) (b := z56) (by omega) (by omega)).mp c62)
          refine lv_iconst (v := 0) hx hb d_Model_namesMayBe_98 (by decide) ?_
          refine lv_istore (lv' := [(5, .int 0), (4, .ref ((fS (wl.getD (s9 - 2 - z7) 0)).getD 0)), (3, .int (nI (s9 - 2 - z7))), (0, .ref mo), (1, .ref t1), (2, .int (nI i9))]) hx hb d_Model_namesMayBe_99 hl (by decide) rfl (fun ls hl => ?_)
          have hdi9 : ∀ n9, n9 ∈ (cT (τ t1)).di → dirQ (cXf τ fS (wl.getD (s9 - 2 - z7) 0)) n9 := fun n9 h9 => by
            obtain ⟨i8, h8, rfl⟩ := List.mem_map.mp h9
            exact hJ56 i8 (by have := List.mem_range.mp h8; omega)
          refine w_loop (α := Nat) (fun a9 => 0 ≤ a9 ∧ a9 ≤ ((τ t1).nd) ∧ (∀ i8, i8 < a9 → dnsQ (cXf τ fS (wl.getD (s9 - 2 - z7) 0)) (rgM (τ t1).u ((τ t1).da i8) ((τ t1).de i8 - (τ t1).da i8)))) (fun a9 => ((τ t1).nd) - a9) (fun a9 => [(5, .int (nI a9)), (4, .ref ((fS (wl.getD (s9 - 2 - z7) 0)).getD 0)), (3, .int (nI (s9 - 2 - z7))), (0, .ref mo), (1, .ref t1), (2, .int (nI i9))]) (fun _ => []) 6 101 (fun z101 ls hJ hl ih101 => ?_) (0) ls ⟨by omega, by omega, fun i8 h9 => absurd h9 (Nat.not_lt_zero i8)⟩ (lv_sub hl [0, 1, 2, 3, 4, 5] rfl)
          skip
          obtain ⟨hy101, hz101, hJ101⟩ := hJ
          refine lv_iload hx hb d_Model_namesMayBe_101 (lv_at hl 0 rfl) ?_
          refine lv_aload_n hx hb d_Model_namesMayBe_103 rfl (lv_at hl 4 rfl) ?_
          refine va_get (v := .int ((τ t1).I 27)) hx hb htb i_Text hown hK hP i_5 hg_5 rfl 27 (by decide) (htb _ q6_226) (fun _ h9 => h9) rfl d_Model_namesMayBe_104 ?_
          rw [hc_t1.e27]
          refine lv_icmp_ge (tgt := 143) hx hb d_Model_namesMayBe_107 (by decide) (fun c107 => ?_) (fun c107 => ?_)
          · have p107 : ((τ t1).nd) ≤ z101 := ((nI_leI (a := ((τ t1).nd)) (b := z101) (by omega) (by omega)).mp c107)
            have hab9 : abvQ (cT (τ t1)) (cXf τ fS (wl.getD (s9 - 2 - z7) 0)) := ⟨hps9, hdi9, fun n9 h9 => by obtain ⟨i8, h8, rfl⟩ := List.mem_map.mp h9; exact hJ101 i8 (by have := List.mem_range.mp h8; omega)⟩
            refine lv_iinc (v := nI (s9 - 2 - (z7 + 1))) (lv' := [(3, .int (nI (s9 - 2 - (z7 + 1)))), (5, .int (nI z101)), (4, .ref ((fS (wl.getD (s9 - 2 - z7) 0)).getD 0)), (0, .ref mo), (1, .ref t1), (2, .int (nI i9))]) hx hb d_Model_namesMayBe_143 hl (k := 2) rfl (nI_m1j (by omega)) (by decide) rfl (fun ls hl => ?_)
            refine lv_goto (tgt := 7) hx hb d_Model_namesMayBe_146 (by decide) ?_
            exact ih7 (z7 + 1) ls (by omega) ⟨by omega, by omega, fun j9 h8 h9 => (show j9 = s9 - 2 - z7 ∨ s9 - 2 - z7 < j9 by omega).elim (fun e9 => by rw [e9]; exact hab9) (fun q9 => hJ7 j9 q9 h9)⟩ (lv_sub hl [0, 3, 4, 5] rfl)
          · have p107 : ¬ (((τ t1).nd) ≤ z101) := (fun q9 => c107 ((nI_leI (a := ((τ t1).nd)) (b := z101) (by omega) (by omega)).mpr q9))
            refine lv_aload_n hx hb d_Model_namesMayBe_110 rfl (lv_at hl 3 rfl) ?_
            refine lv_aload hx hb d_Model_namesMayBe_111 (lv_at hl 1 rfl) ?_
            refine lv_aload_n hx hb d_Model_namesMayBe_113 rfl (lv_at hl 4 rfl) ?_
            refine lv_aload_n hx hb d_Model_namesMayBe_114 rfl (lv_at hl 4 rfl) ?_
            refine va_get (v := .ref ((τ t1).A 1)) hx hb htb i_Text hown hK hP i_5 hg_5 rfl 43 (by decide) (htb _ q7_14) (fun _ h9 => h9) rfl d_Model_namesMayBe_115 ?_
            refine lv_iload hx hb d_Model_namesMayBe_118 (lv_at hl 0 rfl) ?_
            obtain ⟨i_10, hg_10⟩ := tr_18 hTy (kA_5 1 (by decide))
            have hg_10 : G[i_10]? = some (((τ t1).A 1), .inl (γ.2.1, 700, .inl ((τ t1).D 1))) := hg_10
            have h120 : vp_in (nI z101) 700 := vp_in_nI (by omega) (by omega)
            refine va_iald hx hb hK hP i_10 1 hg_10 rfl h120 d_Model_namesMayBe_120 ?_
            refine lv_topi (fun e120 he120 => ?_)
            obtain ⟨q1_120, q2_120, q3_120, q4_120⟩ := hc_t1.l1 z101 (by omega)
            rw [nI_clamp (by omega), q1_120] at he120
            subst he120
            refine lv_aload_n hx hb d_Model_namesMayBe_121 rfl (lv_at hl 4 rfl) ?_
            refine va_get (v := .ref ((τ t1).A 2)) hx hb htb i_Text hown hK hP i_5 hg_5 rfl 44 (by decide) (htb _ q7_16) (fun _ h9 => h9) rfl d_Model_namesMayBe_122 ?_
            refine lv_iload hx hb d_Model_namesMayBe_125 (lv_at hl 0 rfl) ?_
            obtain ⟨i_11, hg_11⟩ := tr_18 hTy (kA_5 2 (by decide))
            have hg_11 : G[i_11]? = some (((τ t1).A 2), .inl (γ.2.1, 700, .inl ((τ t1).D 2))) := hg_11
            have h127 : vp_in (nI z101) 700 := vp_in_nI (by omega) (by omega)
            refine va_iald hx hb hK hP i_11 1 hg_11 rfl h127 d_Model_namesMayBe_127 ?_
            refine lv_topi (fun e127 he127 => ?_)
            obtain ⟨q1_127, q2_127, q3_127, q4_127⟩ := hc_t1.l1 z101 (by omega)
            rw [nI_clamp (by omega), q2_127] at he127
            subst he127
            refine lv_iconst (v := 0) hx hb d_Model_namesMayBe_128 (by decide) ?_
            refine vp_callSi (pu_callV (As := [.ref ((fS (wl.getD (s9 - 2 - z7) 0)).getD 0), .ref t1, .int (nI ((τ t1).da z101)), .int (nI ((τ t1).de z101)), .int 0]) (rest := []) ⟨hx, hb, hml, hown, hts⟩ tbin (p_Model_mayBe0 l dC dI sb γ κ Ad τ gT G ((fS (wl.getD (s9 - 2 - z7) 0)).getD 0) t1 mo ((τ t1).da z101) ((τ t1).de z101) hTy kt_4 kt1 hc_4 hc_t1.toTB (by omega) (by omega)) q9_154 q9_156 qp_49 q1_9 q9_157 (n := 5) (by decide +kernel) rfl ⟨rfl, rfl⟩ ⟨Nat.le_of_ble_eq_true rfl, Nat.le_of_ble_eq_true rfl⟩ ⟨Nat.le_of_ble_eq_true rfl, Nat.le_of_ble_eq_true rfl⟩ hN hT0 hK hP (List.range G.length) (rg_all G) [0, 1, 2, 3, 4] rfl i_1 12 hg_1 rfl rfl hl.1 rfl (Nat.le_of_ble_eq_true rfl) d_Model_namesMayBe_129) (fun r129 hr129 => ?_)
            obtain rfl : r129 = zP (dnsQ (cXf τ fS (wl.getD (s9 - 2 - z7) 0)) (rgM (τ t1).u ((τ t1).da z101) ((τ t1).de z101 - (τ t1).da z101))) := hr129
            refine lv_if_ne (tgt := 137) hx hb d_Model_namesMayBe_132 (by decide) (fun c132 => ?_) (fun c132 => ?_)
            · have p132 : dnsQ (cXf τ fS (wl.getD (s9 - 2 - z7) 0)) (rgM (τ t1).u ((τ t1).da z101) ((τ t1).de z101 - (τ t1).da z101)) := (zP_1 c132)
              refine lv_iinc (v := nI (z101 + 1)) (lv' := [(5, .int (nI (z101 + 1))), (4, .ref ((fS (wl.getD (s9 - 2 - z7) 0)).getD 0)), (3, .int (nI (s9 - 2 - z7))), (0, .ref mo), (1, .ref t1), (2, .int (nI i9))]) hx hb d_Model_namesMayBe_137 hl (k := 0) rfl (nI_1 _) (by decide) rfl (fun ls hl => ?_)
              refine lv_goto (tgt := 101) hx hb d_Model_namesMayBe_140 (by decide) ?_
              exact ih101 ((z101 + 1)) ls (by omega) ⟨by omega, by omega, fun i8 h9 => (Nat.lt_succ_iff_lt_or_eq.mp h9).elim (hJ101 i8) (fun e9 => by subst e9; exact p132)⟩ (lv_sub hl [0, 1, 2, 3, 4, 5] rfl)
            · have p132 : ¬ (dnsQ (cXf τ fS (wl.getD (s9 - 2 - z7) 0)) (rgM (τ t1).u ((τ t1).da z101) ((τ t1).de z101 - (τ t1).da z101))) := (zP_0.mp c132)
              refine lv_iconst (v := 0) hx hb d_Model_namesMayBe_135 (by decide) ?_
              exact W.zret (v := 0) hx hb hr rfl (fun t ht hW => ⟨_, rfl, zP_f (fun h9 => p132 ((h9 (s9 - 2 - z7) (by omega) (by omega)).2.2 _ (List.mem_map.mpr ⟨z101, List.mem_range.mpr (by omega), rfl⟩))), ht⟩) (fun q h => by cases h) d_Model_namesMayBe_136
        · have p62 : ¬ (((τ t1).ni) ≤ z56) := (fun q9 => c62 ((nI_leI (a := ((τ t1).ni)) (b := z56) (by omega) (by omega)).mpr q9))
          refine lv_aload_n hx hb d_Model_namesMayBe_65 rfl (lv_at hl 3 rfl) ?_
          refine lv_aload hx hb d_Model_namesMayBe_66 (lv_at hl 1 rfl) ?_
          refine lv_aload_n hx hb d_Model_namesMayBe_68 rfl (lv_at hl 4 rfl) ?_
          refine lv_aload_n hx hb d_Model_namesMayBe_69 rfl (lv_at hl 4 rfl) ?_
          refine va_get (v := .ref ((τ t1).A 3)) hx hb htb i_Text hown hK hP i_5 hg_5 rfl 45 (by decide) (htb _ q7_18) (fun _ h9 => h9) rfl d_Model_namesMayBe_70 ?_
          refine lv_iload hx hb d_Model_namesMayBe_73 (lv_at hl 0 rfl) ?_
          obtain ⟨i_12, hg_12⟩ := tr_18 hTy (kA_5 3 (by decide))
          have hg_12 : G[i_12]? = some (((τ t1).A 3), .inl (γ.2.1, 700, .inl ((τ t1).D 3))) := hg_12
          have h75 : vp_in (nI z56) 700 := vp_in_nI (by omega) (by omega)
          refine va_iald hx hb hK hP i_12 1 hg_12 rfl h75 d_Model_namesMayBe_75 ?_
          refine lv_topi (fun e75 he75 => ?_)
          obtain ⟨q1_75, q2_75, q3_75, q4_75⟩ := hc_t1.l2 z56 (by omega)
          rw [nI_clamp (by omega), q1_75] at he75
          subst he75
          refine lv_aload_n hx hb d_Model_namesMayBe_76 rfl (lv_at hl 4 rfl) ?_
          refine va_get (v := .ref ((τ t1).A 4)) hx hb htb i_Text hown hK hP i_5 hg_5 rfl 46 (by decide) (htb _ q7_20) (fun _ h9 => h9) rfl d_Model_namesMayBe_77 ?_
          refine lv_iload hx hb d_Model_namesMayBe_80 (lv_at hl 0 rfl) ?_
          obtain ⟨i_13, hg_13⟩ := tr_18 hTy (kA_5 4 (by decide))
          have hg_13 : G[i_13]? = some (((τ t1).A 4), .inl (γ.2.1, 700, .inl ((τ t1).D 4))) := hg_13
          have h82 : vp_in (nI z56) 700 := vp_in_nI (by omega) (by omega)
          refine va_iald hx hb hK hP i_13 1 hg_13 rfl h82 d_Model_namesMayBe_82 ?_
          refine lv_topi (fun e82 he82 => ?_)
          obtain ⟨q1_82, q2_82, q3_82, q4_82⟩ := hc_t1.l2 z56 (by omega)
          rw [nI_clamp (by omega), q2_82] at he82
          subst he82
          have hg75 := hdr_ge (τ t1).u ((τ t1).ia z56)
          refine lv_iconst (v := 1) hx hb d_Model_namesMayBe_83 (by decide) ?_
          refine vp_callSi (pu_callV (As := [.ref ((fS (wl.getD (s9 - 2 - z7) 0)).getD 0), .ref t1, .int (nI ((τ t1).ia z56)), .int (nI ((τ t1).ib z56)), .int 1]) (rest := []) ⟨hx, hb, hml, hown, hts⟩ tbin (p_Model_mayBe1 l dC dI sb γ κ Ad τ gT G ((fS (wl.getD (s9 - 2 - z7) 0)).getD 0) t1 mo ((τ t1).ia z56) ((τ t1).ib z56) hTy kt_4 kt1 hc_4 hc_t1.toTB q3_75 (by omega)) q9_154 q9_156 qp_49 q1_9 q9_157 (n := 5) (by decide +kernel) rfl ⟨rfl, rfl⟩ ⟨Nat.le_of_ble_eq_true rfl, Nat.le_of_ble_eq_true rfl⟩ ⟨Nat.le_of_ble_eq_true rfl, Nat.le_of_ble_eq_true rfl⟩ hN hT0 hK hP (List.range G.length) (rg_all G) [0, 1, 2, 3, 4] rfl i_1 12 hg_1 rfl rfl hl.1 rfl (Nat.le_of_ble_eq_true rfl) d_Model_namesMayBe_84) (fun r84 hr84 => ?_)
          obtain rfl : r84 = zP (dirQ (cXf τ fS (wl.getD (s9 - 2 - z7) 0)) (rgM (τ t1).u (hdr (τ t1).u ((τ t1).ia z56)) ((τ t1).ib z56 - hdr (τ t1).u ((τ t1).ia z56)))) := hr84
          refine lv_if_ne (tgt := 92) hx hb d_Model_namesMayBe_87 (by decide) (fun c87 => ?_) (fun c87 => ?_)
          · have p87 : dirQ (cXf τ fS (wl.getD (s9 - 2 - z7) 0)) (rgM (τ t1).u (hdr (τ t1).u ((τ t1).ia z56)) ((τ t1).ib z56 - hdr (τ t1).u ((τ t1).ia z56))) := (zP_1 c87)
            refine lv_iinc (v := nI (z56 + 1)) (lv' := [(5, .int (nI (z56 + 1))), (4, .ref ((fS (wl.getD (s9 - 2 - z7) 0)).getD 0)), (3, .int (nI (s9 - 2 - z7))), (0, .ref mo), (1, .ref t1), (2, .int (nI i9))]) hx hb d_Model_namesMayBe_92 hl (k := 0) rfl (nI_1 _) (by decide) rfl (fun ls hl => ?_)
            refine lv_goto (tgt := 56) hx hb d_Model_namesMayBe_95 (by decide) ?_
            exact ih56 ((z56 + 1)) ls (by omega) ⟨by omega, by omega, fun i8 h9 => (Nat.lt_succ_iff_lt_or_eq.mp h9).elim (hJ56 i8) (fun e9 => by subst e9; exact p87)⟩ (lv_sub hl [0, 1, 2, 3, 4, 5] rfl)
          · have p87 : ¬ (dirQ (cXf τ fS (wl.getD (s9 - 2 - z7) 0)) (rgM (τ t1).u (hdr (τ t1).u ((τ t1).ia z56)) ((τ t1).ib z56 - hdr (τ t1).u ((τ t1).ia z56)))) := (zP_0.mp c87)
            refine lv_iconst (v := 0) hx hb d_Model_namesMayBe_90 (by decide) ?_
            exact W.zret (v := 0) hx hb hr rfl (fun t ht hW => ⟨_, rfl, zP_f (fun h9 => p87 ((h9 (s9 - 2 - z7) (by omega) (by omega)).2.1 _ (List.mem_map.mpr ⟨z56, List.mem_range.mpr (by omega), rfl⟩))), ht⟩) (fun q h => by cases h) d_Model_namesMayBe_91
      · have p48 : ¬ (dirQ (cXf τ fS (wl.getD (s9 - 2 - z7) 0)) (rgM (τ t1).u (hdr (τ t1).u (τ t1).su) ((τ t1).ue - hdr (τ t1).u (τ t1).su))) := (zP_0.mp c48)
        refine lv_iconst (v := 0) hx hb d_Model_namesMayBe_51 (by decide) ?_
        exact W.zret (v := 0) hx hb hr rfl (fun t ht hW => ⟨_, rfl, zP_f (fun h9 => p48 ((h9 (s9 - 2 - z7) (by omega) (by omega)).1 (q_gt p29))), ht⟩) (fun q h => by cases h) d_Model_namesMayBe_52
