/-! The reference's small methods over Texts: what they answer. -/
set_option maxHeartbeats 4000000 in
set_option maxRecDepth 100000 in
theorem p_Text_same (l : Launch) (dC : Nat → ClassId) (dI : Nat → Nat → Nat) (sb : sB) (γ : cG) (κ : kE) (Ad : List Nat) (τ : Nat → TD) (gT : ClassId) (G : va_W) (t1 t2 : Nat) (a1 b1 c1 d1 : Nat) (hTy : TR γ κ Ad τ G) (kt1 : tK κ Ad t1 (20, 0, 0)) (kt2 : tK κ Ad t2 (20, 0, 0)) (hc_t1 : TB (τ t1)) (hc_t2 : TB (τ t2)) (h1 : a1 ≤ b1) (h2 : b1 ≤ 2048) (h3 : c1 ≤ d1) (h4 : d1 ≤ 2048) : Met l y_Text_same w_Text_same ({ frames := 0, cells := 0, slots := 0, locals := 0 }) (pu_P [.ref t1, .int (nI a1), .int (nI b1), .ref t2, .int (nI c1), .int (nI d1)] (dC, dI) sb G [(γ.1, .byte), (γ.2.1, .int), (γ.2.2.1, .long), (γ.2.2.2, .object "java/lang/Object"), (gT, .object "TrustChainModel$Text")]) (vp_Si (fun r => r = zP (rgM (τ t1).u a1 (b1 - a1) = rgM (τ t2).u c1 (d1 - c1)))) 0 0 (fun _ => False) := by
  refine Met.ofW (cc := b_Text_same) (maxL := 7) (ret := (some FieldType.boolean)) (by decide) rfl ?_
  intro p e s m args below meth c s₁ B hml hv
  obtain ⟨rfl, hP, hK, hN, hT0⟩ := hv
  have hx := B.exec
  have hb := B.bytes
  have hr := B.returns
  have hts := atoms_spec (ws := w_Text_same) B.pre
  have tbin : ∀ w ∈ tb, w ∈ w_Text_same := fun w h => List.mem_cons_of_mem _ h
  have htb : ∀ w ∈ tb, w.before _ s = true := fun w h => hts w (tbin w h)
  have hown : s.vm.findClass "TrustChainModel$Text" = some m.cls := findClass_of_methodNamed B.named
  have hlocks := B.notSynchronized
  have hl := lv_entry ([.ref t1, .int (nI a1), .int (nI b1), .ref t2, .int (nI c1), .int (nI d1)]) (n := 7) (Nat.le_of_ble_eq_true rfl)
  rw [lg_entry_eq]
  generalize (lg_sl ([.ref t1, .int (nI a1), .int (nI b1), .ref t2, .int (nI c1), .int (nI d1)]) ++ List.replicate (7 - (lg_sl ([.ref t1, .int (nI a1), .int (nI b1), .ref t2, .int (nI c1), .int (nI d1)])).length) Slot.unset).toArray = ls at hl ⊢
  have hl : lv_has ls 7 [(0, .ref t1), (1, .int (nI a1)), (2, .int (nI b1)), (3, .ref t2), (4, .int (nI c1)), (5, .int (nI d1))] := hl
  have b1_t1 := hc_t1.b1
  have b2_t1 := hc_t1.b2
  have b3_t1 := hc_t1.b3
  have b1_t2 := hc_t2.b1
  have b2_t2 := hc_t2.b2
  have b3_t2 := hc_t2.b3
  refine lv_iload_n hx hb d_Text_same_0 rfl (lv_at hl 2 rfl) ?_
  refine lv_iload_n hx hb d_Text_same_1 rfl (lv_at hl 1 rfl) ?_
  refine lv_isub hx hb d_Text_same_2 ?_
  rw [show ((nI b1) - (nI a1) : Int32) = nI (b1 - a1) from pk_sub (a := b1) (b := a1) (by omega)]
  refine lv_iload hx hb d_Text_same_3 (lv_at hl 5 rfl) ?_
  refine lv_iload hx hb d_Text_same_5 (lv_at hl 4 rfl) ?_
  refine lv_isub hx hb d_Text_same_7 ?_
  rw [show ((nI d1) - (nI c1) : Int32) = nI (d1 - c1) from pk_sub (a := d1) (b := c1) (by omega)]
  refine lv_icmp_eq (tgt := 13) hx hb d_Text_same_8 (by decide) (fun c8 => ?_) (fun c8 => ?_)
  · have p8 : (b1 - a1) = (d1 - c1) := ((nI_eq (a := (b1 - a1)) (b := (d1 - c1)) (by omega) (by omega)).mp c8)
    refine lv_iconst (v := 0) hx hb d_Text_same_13 (by decide) ?_
    refine lv_istore (lv' := [(6, .int 0), (0, .ref t1), (1, .int (nI a1)), (2, .int (nI b1)), (3, .ref t2), (4, .int (nI c1)), (5, .int (nI d1))]) hx hb d_Text_same_14 hl (by decide) rfl (fun ls hl => ?_)
    refine w_loop (α := Nat) (fun a9 => 0 ≤ a9 ∧ a9 ≤ (b1 - a1) ∧ (∀ j9, j9 < a9 → (τ t1).u (a1 + j9) = (τ t2).u (c1 + j9))) (fun a9 => (b1 - a1) - a9) (fun a9 => [(6, .int (nI a9)), (0, .ref t1), (1, .int (nI a1)), (2, .int (nI b1)), (3, .ref t2), (4, .int (nI c1)), (5, .int (nI d1))]) (fun _ => []) 7 16 (fun z16 ls hJ hl ih16 => ?_) (0) ls ⟨by omega, by omega, fun j9 h9 => absurd h9 (Nat.not_lt_zero j9)⟩ (lv_sub hl [0, 1, 2, 3, 4, 5, 6] rfl)
    skip
    obtain ⟨hy16, hz16, hJ16⟩ := hJ
    refine lv_iload hx hb d_Text_same_16 (lv_at hl 0 rfl) ?_
    refine lv_iload_n hx hb d_Text_same_18 rfl (lv_at hl 3 rfl) ?_
    refine lv_iload_n hx hb d_Text_same_19 rfl (lv_at hl 2 rfl) ?_
    refine lv_isub hx hb d_Text_same_20 ?_
    rw [show ((nI b1) - (nI a1) : Int32) = nI (b1 - a1) from pk_sub (a := b1) (b := a1) (by omega)]
    refine lv_icmp_ge (tgt := 54) hx hb d_Text_same_21 (by decide) (fun c21 => ?_) (fun c21 => ?_)
    · have p21 : (b1 - a1) ≤ z16 := ((nI_leI (a := (b1 - a1)) (b := z16) (by omega) (by omega)).mp c21)
      refine lv_iconst (v := 1) hx hb d_Text_same_54 (by decide) ?_
      exact W.zret (v := 1) hx hb hr rfl (fun t ht hW => ⟨_, rfl, zP_t (rgM_eq.mpr ⟨p8, fun j9 h9 => hJ16 j9 (by omega)⟩), ht⟩) (fun q h => by cases h) d_Text_same_55
    · have p21 : ¬ ((b1 - a1) ≤ z16) := (fun q9 => c21 ((nI_leI (a := (b1 - a1)) (b := z16) (by omega) (by omega)).mpr q9))
      refine lv_aload_n hx hb d_Text_same_24 rfl (lv_at hl 1 rfl) ?_
      obtain ⟨i_1, kA_1, hg_1⟩ := tr_20 hTy kt1
      refine va_get (v := .ref ((τ t1).A 0)) hx hb htb i_Text hown hK hP i_1 hg_1 rfl 0 (by decide) (htb _ q6_178) (fun _ h9 => h9) rfl d_Text_same_25 ?_
      refine lv_iload_n hx hb d_Text_same_28 rfl (lv_at hl 2 rfl) ?_
      refine lv_iload hx hb d_Text_same_29 (lv_at hl 0 rfl) ?_
      refine lv_iadd hx hb d_Text_same_31 ?_
      rw [show ((nI a1) + (nI z16) : Int32) = nI (a1 + z16) from nI_add a1 z16]
      obtain ⟨i_2, hg_2⟩ := tr_18 hTy (kA_1 0 (by decide))
      have hg_2 : G[i_2]? = some (((τ t1).A 0), .inl (γ.2.1, 2048, .inl ((τ t1).D 0))) := hg_2
      have h32 : vp_in (nI (a1 + z16)) 2048 := vp_in_nI (by omega) (by omega)
      refine va_iald hx hb hK hP i_2 1 hg_2 rfl h32 d_Text_same_32 ?_
      refine lv_topi (fun e32 he32 => ?_)
      rw [hc_t1.d, nI_clamp (by omega)] at he32
      have he32 : e32 = nI ((τ t1).u (a1 + z16)) := he32
      subst he32
      have hub32 := hc_t1.hu (a1 + z16)
      refine lv_aload_n hx hb d_Text_same_33 rfl (lv_at hl 4 rfl) ?_
      obtain ⟨i_3, kA_3, hg_3⟩ := tr_20 hTy kt2
      refine va_get (v := .ref ((τ t2).A 0)) hx hb htb i_Text hown hK hP i_3 hg_3 rfl 0 (by decide) (htb _ q6_178) (fun _ h9 => h9) rfl d_Text_same_34 ?_
      refine lv_iload hx hb d_Text_same_37 (lv_at hl 5 rfl) ?_
      refine lv_iload hx hb d_Text_same_39 (lv_at hl 0 rfl) ?_
      refine lv_iadd hx hb d_Text_same_41 ?_
      rw [show ((nI c1) + (nI z16) : Int32) = nI (c1 + z16) from nI_add c1 z16]
      obtain ⟨i_4, hg_4⟩ := tr_18 hTy (kA_3 0 (by decide))
      have hg_4 : G[i_4]? = some (((τ t2).A 0), .inl (γ.2.1, 2048, .inl ((τ t2).D 0))) := hg_4
      have h42 : vp_in (nI (c1 + z16)) 2048 := vp_in_nI (by omega) (by omega)
      refine va_iald hx hb hK hP i_4 1 hg_4 rfl h42 d_Text_same_42 ?_
      refine lv_topi (fun e42 he42 => ?_)
      rw [hc_t2.d, nI_clamp (by omega)] at he42
      have he42 : e42 = nI ((τ t2).u (c1 + z16)) := he42
      subst he42
      have hub42 := hc_t2.hu (c1 + z16)
      refine lv_icmp_eq (tgt := 48) hx hb d_Text_same_43 (by decide) (fun c43 => ?_) (fun c43 => ?_)
      · have p43 : ((τ t1).u (a1 + z16)) = ((τ t2).u (c1 + z16)) := ((nI_eq (a := ((τ t1).u (a1 + z16))) (b := ((τ t2).u (c1 + z16))) (by omega) (by omega)).mp c43)
        refine lv_iinc (v := nI (z16 + 1)) (lv' := [(6, .int (nI (z16 + 1))), (0, .ref t1), (1, .int (nI a1)), (2, .int (nI b1)), (3, .ref t2), (4, .int (nI c1)), (5, .int (nI d1))]) hx hb d_Text_same_48 hl (k := 0) rfl (nI_1 _) (by decide) rfl (fun ls hl => ?_)
        refine lv_goto (tgt := 16) hx hb d_Text_same_51 (by decide) ?_
        exact ih16 ((z16 + 1)) ls (by omega) ⟨by omega, by omega, fun j9 h9 => (Nat.lt_succ_iff_lt_or_eq.mp h9).elim (hJ16 j9) (fun e9 => by subst e9; exact p43)⟩ (lv_sub hl [0, 1, 2, 3, 4, 5, 6] rfl)
      · have p43 : ¬ (((τ t1).u (a1 + z16)) = ((τ t2).u (c1 + z16))) := (fun q9 => c43 ((nI_eq (a := ((τ t1).u (a1 + z16))) (b := ((τ t2).u (c1 + z16))) (by omega) (by omega)).mpr q9))
        refine lv_iconst (v := 0) hx hb d_Text_same_46 (by decide) ?_
        exact W.zret (v := 0) hx hb hr rfl (fun t ht hW => ⟨_, rfl, zP_f (fun h9 => p43 ((rgM_eq.mp h9).2 z16 (by omega))), ht⟩) (fun q h => by cases h) d_Text_same_47
  · have p8 : ¬ ((b1 - a1) = (d1 - c1)) := (fun q9 => c8 ((nI_eq (a := (b1 - a1)) (b := (d1 - c1)) (by omega) (by omega)).mpr q9))
    refine lv_iconst (v := 0) hx hb d_Text_same_11 (by decide) ?_
    exact W.zret (v := 0) hx hb hr rfl (fun t ht hW => ⟨_, rfl, zP_f (fun h9 => p8 (rgM_eq.mp h9).1), ht⟩) (fun q h => by cases h) d_Text_same_12
def y_Text_isOwn : MethodName := ⟨"TrustChainModel$Text", "isOwn", "()Z"⟩
abbrev b_Text_isOwn : ByteArray := prog_15_method_33_code
def w_Text_isOwn : List Cond := Cond.code y_Text_isOwn b_Text_isOwn 1 ((some FieldType.boolean)) :: tb
theorem d_Text_isOwn_0 : decode b_Text_isOwn 0 = .ok (.aload_n 0, 1) := by decide +kernel
theorem d_Text_isOwn_1 : decode b_Text_isOwn 1 = .ok (.aload_n 0, 1) := by decide +kernel
theorem d_Text_isOwn_2 : decode b_Text_isOwn 2 = .ok (.getfield 298, 3) := by decide +kernel
theorem d_Text_isOwn_5 : decode b_Text_isOwn 5 = .ok (.aload_n 0, 1) := by decide +kernel
theorem d_Text_isOwn_6 : decode b_Text_isOwn 6 = .ok (.getfield 301, 3) := by decide +kernel
theorem d_Text_isOwn_9 : decode b_Text_isOwn 9 = .ok (.aload_n 0, 1) := by decide +kernel
theorem d_Text_isOwn_10 : decode b_Text_isOwn 10 = .ok (.aload_n 0, 1) := by decide +kernel
theorem d_Text_isOwn_11 : decode b_Text_isOwn 11 = .ok (.getfield 314, 3) := by decide +kernel
theorem d_Text_isOwn_14 : decode b_Text_isOwn 14 = .ok (.aload_n 0, 1) := by decide +kernel
theorem d_Text_isOwn_15 : decode b_Text_isOwn 15 = .ok (.getfield 316, 3) := by decide +kernel
theorem d_Text_isOwn_18 : decode b_Text_isOwn 18 = .ok (.invokevirtual 185, 3) := by decide +kernel
theorem d_Text_isOwn_21 : decode b_Text_isOwn 21 = .ok (.ireturn, 1) := by decide +kernel
set_option maxHeartbeats 4000000 in
set_option maxRecDepth 100000 in
theorem p_Text_isOwn (l : Launch) (dC : Nat → ClassId) (dI : Nat → Nat → Nat) (sb : sB) (γ : cG) (κ : kE) (Ad : List Nat) (τ : Nat → TD) (gT : ClassId) (G : va_W) (t1 : Nat)  (hTy : TR γ κ Ad τ G) (kt1 : tK κ Ad t1 (20, 0, 0)) (hc_t1 : TC (τ t1)) : Met l y_Text_isOwn w_Text_isOwn ({ frames := 1, cells := 0, slots := 0, locals := 26 }) (pu_P [.ref t1] (dC, dI) sb G [(γ.1, .byte), (γ.2.1, .int), (γ.2.2.1, .long), (γ.2.2.2, .object "java/lang/Object"), (gT, .object "TrustChainModel$Text")]) (vp_Si (fun r => r = zP (rgM (τ t1).u (τ t1).su ((τ t1).ue - (τ t1).su) = rgM (τ t1).u (τ t1).is ((τ t1).ie - (τ t1).is)))) 0 0 (fun _ => False) := by
  refine Met.ofW (cc := b_Text_isOwn) (maxL := 1) (ret := (some FieldType.boolean)) (by decide) rfl ?_
  intro p e s m args below meth c s₁ B hml hv
  obtain ⟨rfl, hP, hK, hN, hT0⟩ := hv
  have hx := B.exec
  have hb := B.bytes
  have hr := B.returns
  have hts := atoms_spec (ws := w_Text_isOwn) B.pre
  have tbin : ∀ w ∈ tb, w ∈ w_Text_isOwn := fun w h => List.mem_cons_of_mem _ h
  have htb : ∀ w ∈ tb, w.before _ s = true := fun w h => hts w (tbin w h)
  have hown : s.vm.findClass "TrustChainModel$Text" = some m.cls := findClass_of_methodNamed B.named
  have hlocks := B.notSynchronized
  have hl := lv_entry ([.ref t1]) (n := 1) (Nat.le_of_ble_eq_true rfl)
  rw [lg_entry_eq]
  generalize (lg_sl ([.ref t1]) ++ List.replicate (1 - (lg_sl ([.ref t1])).length) Slot.unset).toArray = ls at hl ⊢
  have hl : lv_has ls 1 [(0, .ref t1)] := hl
  have b1_t1 := hc_t1.b1
  have b2_t1 := hc_t1.b2
  have b3_t1 := hc_t1.b3
  have b4_t1 := hc_t1.b4
  have b5_t1 := hc_t1.b5
  have b6_t1 := hc_t1.b6
  have b8_t1 := hc_t1.b8
  have b9_t1 := hc_t1.b9
  have h9 := hdr_ge (τ t1).u (τ t1).su
  refine lv_aload_n hx hb d_Text_isOwn_0 rfl (lv_at hl 0 rfl) ?_
  refine lv_aload_n hx hb d_Text_isOwn_1 rfl (lv_at hl 0 rfl) ?_
  obtain ⟨i_1, kA_1, hg_1⟩ := tr_20 hTy kt1
  refine va_get (v := .int ((τ t1).I 14)) hx hb htb i_Text hown hK hP i_1 hg_1 rfl 14 (by decide) (htb _ q6_201) (fun _ h9 => h9) rfl d_Text_isOwn_2 ?_
  rw [hc_t1.e14]
  refine lv_aload_n hx hb d_Text_isOwn_5 rfl (lv_at hl 0 rfl) ?_
  refine va_get (v := .int ((τ t1).I 15)) hx hb htb i_Text hown hK hP i_1 hg_1 rfl 15 (by decide) (htb _ q6_203) (fun _ h9 => h9) rfl d_Text_isOwn_6 ?_
  rw [hc_t1.e15]
  refine lv_aload_n hx hb d_Text_isOwn_9 rfl (lv_at hl 0 rfl) ?_
  refine lv_aload_n hx hb d_Text_isOwn_10 rfl (lv_at hl 0 rfl) ?_
  refine va_get (v := .int ((τ t1).I 12)) hx hb htb i_Text hown hK hP i_1 hg_1 rfl 12 (by decide) (htb _ q6_197) (fun _ h9 => h9) rfl d_Text_isOwn_11 ?_
  rw [hc_t1.e12]
  refine lv_aload_n hx hb d_Text_isOwn_14 rfl (lv_at hl 0 rfl) ?_
  refine va_get (v := .int ((τ t1).I 13)) hx hb htb i_Text hown hK hP i_1 hg_1 rfl 13 (by decide) (htb _ q6_199) (fun _ h9 => h9) rfl d_Text_isOwn_15 ?_
  rw [hc_t1.e13]
  refine vp_callSi (pu_callV (As := [.int (nI ((τ t1).su)), .int (nI ((τ t1).ue)), .ref t1, .int (nI ((τ t1).is)), .int (nI ((τ t1).ie))]) (rest := []) ⟨hx, hb, hml, hown, hts⟩ tbin (p_Text_same l dC dI sb γ κ Ad τ gT G t1 t1 ((τ t1).su) ((τ t1).ue) ((τ t1).is) ((τ t1).ie) hTy kt1 kt1 hc_t1.toTB hc_t1.toTB (by omega) (by omega) (by omega) (by omega)) q9_31 q9_32 q9_33 q1_10 q9_34 (n := 5) (by decide +kernel) rfl ⟨rfl, rfl⟩ ⟨Nat.le_of_ble_eq_true rfl, Nat.le_of_ble_eq_true rfl⟩ ⟨Nat.le_of_ble_eq_true rfl, Nat.le_of_ble_eq_true rfl⟩ hN hT0 hK hP (List.range G.length) (rg_all G) [0, 1, 2, 3, 4] rfl i_1 13 hg_1 rfl rfl hl.1 rfl (Nat.le_of_ble_eq_true rfl) d_Text_isOwn_18) (fun r18 hr18 => ?_)
  obtain rfl : r18 = zP (rgM (τ t1).u ((τ t1).su) (((τ t1).ue) - ((τ t1).su)) = rgM (τ t1).u ((τ t1).is) (((τ t1).ie) - ((τ t1).is))) := hr18
  exact W.zret (v := zP (rgM (τ t1).u ((τ t1).su) (((τ t1).ue) - ((τ t1).su)) = rgM (τ t1).u ((τ t1).is) (((τ t1).ie) - ((τ t1).is)))) hx hb hr (zP_n _) (fun t ht hW => ⟨_, rfl, rfl, ht⟩) (fun q h => by cases h) d_Text_isOwn_21
def y_Model_inside : MethodName := ⟨"TrustChainModel", "inside", "(LTrustChainModel$Text;I)I"⟩
abbrev b_Model_inside : ByteArray := prog_14_method_38_code
def w_Model_inside : List Cond := Cond.code y_Model_inside b_Model_inside 2 ((some FieldType.int)) :: tb
theorem d_Model_inside_0 : decode b_Model_inside 0 = .ok (.aload_n 0, 1) := by decide +kernel
theorem d_Model_inside_1 : decode b_Model_inside 1 = .ok (.getfield 189, 3) := by decide +kernel
theorem d_Model_inside_4 : decode b_Model_inside 4 = .ok (.iload_n 1, 1) := by decide +kernel
theorem d_Model_inside_5 : decode b_Model_inside 5 = .ok (.iconst 1, 1) := by decide +kernel
theorem d_Model_inside_6 : decode b_Model_inside 6 = .ok (.iadd, 1) := by decide +kernel
theorem d_Model_inside_7 : decode b_Model_inside 7 = .ok (.iaload, 1) := by decide +kernel
theorem d_Model_inside_8 : decode b_Model_inside 8 = .ok (.sipush 130, 3) := by decide +kernel
theorem d_Model_inside_11 : decode b_Model_inside 11 = .ok (.if_icmp .ne 9, 3) := by decide +kernel
theorem d_Model_inside_14 : decode b_Model_inside 14 = .ok (.iload_n 1, 1) := by decide +kernel
theorem d_Model_inside_15 : decode b_Model_inside 15 = .ok (.iconst 4, 1) := by decide +kernel
theorem d_Model_inside_16 : decode b_Model_inside 16 = .ok (.iadd, 1) := by decide +kernel
theorem d_Model_inside_17 : decode b_Model_inside 17 = .ok (.goto 26, 3) := by decide +kernel
theorem d_Model_inside_20 : decode b_Model_inside 20 = .ok (.aload_n 0, 1) := by decide +kernel
theorem d_Model_inside_21 : decode b_Model_inside 21 = .ok (.getfield 189, 3) := by decide +kernel
theorem d_Model_inside_24 : decode b_Model_inside 24 = .ok (.iload_n 1, 1) := by decide +kernel
theorem d_Model_inside_25 : decode b_Model_inside 25 = .ok (.iconst 1, 1) := by decide +kernel
theorem d_Model_inside_26 : decode b_Model_inside 26 = .ok (.iadd, 1) := by decide +kernel
theorem d_Model_inside_27 : decode b_Model_inside 27 = .ok (.iaload, 1) := by decide +kernel
theorem d_Model_inside_28 : decode b_Model_inside 28 = .ok (.sipush 129, 3) := by decide +kernel
theorem d_Model_inside_31 : decode b_Model_inside 31 = .ok (.if_icmp .ne 9, 3) := by decide +kernel
theorem d_Model_inside_34 : decode b_Model_inside 34 = .ok (.iload_n 1, 1) := by decide +kernel
theorem d_Model_inside_35 : decode b_Model_inside 35 = .ok (.iconst 3, 1) := by decide +kernel
theorem d_Model_inside_36 : decode b_Model_inside 36 = .ok (.iadd, 1) := by decide +kernel
theorem d_Model_inside_37 : decode b_Model_inside 37 = .ok (.goto 6, 3) := by decide +kernel
theorem d_Model_inside_40 : decode b_Model_inside 40 = .ok (.iload_n 1, 1) := by decide +kernel
theorem d_Model_inside_41 : decode b_Model_inside 41 = .ok (.iconst 2, 1) := by decide +kernel
theorem d_Model_inside_42 : decode b_Model_inside 42 = .ok (.iadd, 1) := by decide +kernel
theorem d_Model_inside_43 : decode b_Model_inside 43 = .ok (.ireturn, 1) := by decide +kernel
set_option maxHeartbeats 4000000 in
set_option maxRecDepth 100000 in
theorem p_Model_inside (l : Launch) (dC : Nat → ClassId) (dI : Nat → Nat → Nat) (sb : sB) (γ : cG) (κ : kE) (Ad : List Nat) (τ : Nat → TD) (gT : ClassId) (G : va_W) (t1 : Nat) (a1 : Nat) (hTy : TR γ κ Ad τ G) (kt1 : tK κ Ad t1 (20, 0, 0)) (hc_t1 : TB (τ t1)) (h1 : a1 + 1 < 2048) : Met l y_Model_inside w_Model_inside ({ frames := 0, cells := 0, slots := 0, locals := 0 }) (pu_P [.ref t1, .int (nI a1)] (dC, dI) sb G [(γ.1, .byte), (γ.2.1, .int), (γ.2.2.1, .long), (γ.2.2.2, .object "java/lang/Object"), (gT, .object "TrustChainModel$Text")]) (vp_Si (fun r => r = nI (hdr (τ t1).u a1))) 0 0 (fun _ => False) := by
  refine Met.ofW (cc := b_Model_inside) (maxL := 2) (ret := (some FieldType.int)) (by decide) rfl ?_
  intro p e s m args below meth c s₁ B hml hv
  obtain ⟨rfl, hP, hK, hN, hT0⟩ := hv
  have hx := B.exec
  have hb := B.bytes
  have hr := B.returns
  have hts := atoms_spec (ws := w_Model_inside) B.pre
  have tbin : ∀ w ∈ tb, w ∈ w_Model_inside := fun w h => List.mem_cons_of_mem _ h
  have htb : ∀ w ∈ tb, w.before _ s = true := fun w h => hts w (tbin w h)
  have hown : s.vm.findClass "TrustChainModel" = some m.cls := findClass_of_methodNamed B.named
  have hlocks := B.notSynchronized
  have hl := lv_entry ([.ref t1, .int (nI a1)]) (n := 2) (Nat.le_of_ble_eq_true rfl)
  rw [lg_entry_eq]
  generalize (lg_sl ([.ref t1, .int (nI a1)]) ++ List.replicate (2 - (lg_sl ([.ref t1, .int (nI a1)])).length) Slot.unset).toArray = ls at hl ⊢
  have hl : lv_has ls 2 [(0, .ref t1), (1, .int (nI a1))] := hl
  have b1_t1 := hc_t1.b1
  have b2_t1 := hc_t1.b2
  have b3_t1 := hc_t1.b3
  refine lv_aload_n hx hb d_Model_inside_0 rfl (lv_at hl 0 rfl) ?_
  obtain ⟨i_1, kA_1, hg_1⟩ := tr_20 hTy kt1
  refine va_get (v := .ref ((τ t1).A 0)) hx hb htb i_Text hown hK hP i_1 hg_1 rfl 0 (by decide) (htb _ q6_179) (fun _ h9 => h9) rfl d_Model_inside_1 ?_
  refine lv_iload_n hx hb d_Model_inside_4 rfl (lv_at hl 1 rfl) ?_
  refine lv_iconst (v := 1) hx hb d_Model_inside_5 (by decide) ?_
  refine lv_iadd hx hb d_Model_inside_6 ?_
  rw [show ((nI a1) + 1 : Int32) = nI (a1 + 1) from nI_add a1 1]
  obtain ⟨i_2, hg_2⟩ := tr_18 hTy (kA_1 0 (by decide))
  have hg_2 : G[i_2]? = some (((τ t1).A 0), .inl (γ.2.1, 2048, .inl ((τ t1).D 0))) := hg_2
  have h7 : vp_in (nI (a1 + 1)) 2048 := vp_in_nI (by omega) (by omega)
  refine va_iald hx hb hK hP i_2 1 hg_2 rfl h7 d_Model_inside_7 ?_
  refine lv_topi (fun e7 he7 => ?_)
  rw [hc_t1.d, nI_clamp (by omega)] at he7
  obtain ⟨b7, hb7, hv7⟩ : ∃ b, b < 256 ∧ b = (τ t1).u (a1 + 1) := ⟨_, hc_t1.hu _, rfl⟩
  have he7 : e7 = nI b7 := by rw [he7, hv7]; rfl
  subst he7
  refine lv_sipush (v := 130) hx hb d_Model_inside_8 (by decide) ?_
  refine lv_icmp_ne (tgt := 20) hx hb d_Model_inside_11 (by decide) (fun c11 => ?_) (fun c11 => ?_)
  · have p11 : ¬ (b7 = 130) := (fun q9 => c11 ((nI_eq (a := b7) (b := 130) (by omega) (by omega)).mpr q9))
    refine lv_aload_n hx hb d_Model_inside_20 rfl (lv_at hl 0 rfl) ?_
    refine va_get (v := .ref ((τ t1).A 0)) hx hb htb i_Text hown hK hP i_1 hg_1 rfl 0 (by decide) (htb _ q6_179) (fun _ h9 => h9) rfl d_Model_inside_21 ?_
    refine lv_iload_n hx hb d_Model_inside_24 rfl (lv_at hl 1 rfl) ?_
    refine lv_iconst (v := 1) hx hb d_Model_inside_25 (by decide) ?_
    refine lv_iadd hx hb d_Model_inside_26 ?_
    rw [show ((nI a1) + 1 : Int32) = nI (a1 + 1) from nI_add a1 1]
    have h27 : vp_in (nI (a1 + 1)) 2048 := vp_in_nI (by omega) (by omega)
    refine va_iald hx hb hK hP i_2 1 hg_2 rfl h27 d_Model_inside_27 ?_
    refine lv_topi (fun e27 he27 => ?_)
    rw [hc_t1.d, nI_clamp (by omega)] at he27
    obtain ⟨b27, hb27, hv27⟩ : ∃ b, b < 256 ∧ b = (τ t1).u (a1 + 1) := ⟨_, hc_t1.hu _, rfl⟩
    have he27 : e27 = nI b27 := by rw [he27, hv27]; rfl
    subst he27
    refine lv_sipush (v := 129) hx hb d_Model_inside_28 (by decide) ?_
    refine lv_icmp_ne (tgt := 40) hx hb d_Model_inside_31 (by decide) (fun c31 => ?_) (fun c31 => ?_)
    · have p31 : ¬ (b27 = 129) := (fun q9 => c31 ((nI_eq (a := b27) (b := 129) (by omega) (by omega)).mpr q9))
      refine lv_iload_n hx hb d_Model_inside_40 rfl (lv_at hl 1 rfl) ?_
      refine lv_iconst (v := 2) hx hb d_Model_inside_41 (by decide) ?_
      refine lv_iadd hx hb d_Model_inside_42 ?_
      rw [show ((nI a1) + 2 : Int32) = nI (a1 + 2) from nI_add a1 2]
      exact W.iret (v := nI (a1 + 2)) hx hb hr (fun t ht hW => ⟨_, rfl, by unfold hdr; rw [if_neg (by omega), if_neg (by omega)], ht⟩) (fun q h => by cases h) d_Model_inside_43
    · have p31 : b27 = 129 := ((nI_eq (a := b27) (b := 129) (by omega) (by omega)).mp c31)
      refine lv_iload_n hx hb d_Model_inside_34 rfl (lv_at hl 1 rfl) ?_
      refine lv_iconst (v := 3) hx hb d_Model_inside_35 (by decide) ?_
      refine lv_iadd hx hb d_Model_inside_36 ?_
      rw [show ((nI a1) + 3 : Int32) = nI (a1 + 3) from nI_add a1 3]
      refine lv_goto (tgt := 43) hx hb d_Model_inside_37 (by decide) ?_
      exact W.iret (v := nI (a1 + 3)) hx hb hr (fun t ht hW => ⟨_, rfl, by unfold hdr; rw [if_neg (by omega), if_pos (by omega)], ht⟩) (fun q h => by cases h) d_Model_inside_43
  · have p11 : b7 = 130 := ((nI_eq (a := b7) (b := 130) (by omega) (by omega)).mp c11)
    refine lv_iload_n hx hb d_Model_inside_14 rfl (lv_at hl 1 rfl) ?_
    refine lv_iconst (v := 4) hx hb d_Model_inside_15 (by decide) ?_
    refine lv_iadd hx hb d_Model_inside_16 ?_
    rw [show ((nI a1) + 4 : Int32) = nI (a1 + 4) from nI_add a1 4]
    refine lv_goto (tgt := 43) hx hb d_Model_inside_17 (by decide) ?_
    exact W.iret (v := nI (a1 + 4)) hx hb hr (fun t ht hW => ⟨_, rfl, by unfold hdr; rw [if_pos (by omega)], ht⟩) (fun q h => by cases h) d_Model_inside_43
def y_Model_begins : MethodName := ⟨"TrustChainModel", "begins", "(LTrustChainModel$Text;IILTrustChainModel$Text;II)Z"⟩
abbrev b_Model_begins : ByteArray := prog_14_method_39_code
def w_Model_begins : List Cond := Cond.code y_Model_begins b_Model_begins 9 ((some FieldType.boolean)) :: tb
theorem d_Model_begins_0 : decode b_Model_begins 0 = .ok (.aload_n 0, 1) := by decide +kernel
theorem d_Model_begins_1 : decode b_Model_begins 1 = .ok (.iload_n 1, 1) := by decide +kernel
theorem d_Model_begins_2 : decode b_Model_begins 2 = .ok (.invokestatic 428, 3) := by decide +kernel
theorem d_Model_begins_5 : decode b_Model_begins 5 = .ok (.istore 6, 2) := by decide +kernel
theorem d_Model_begins_7 : decode b_Model_begins 7 = .ok (.aload_n 3, 1) := by decide +kernel
theorem d_Model_begins_8 : decode b_Model_begins 8 = .ok (.iload 4, 2) := by decide +kernel
theorem d_Model_begins_10 : decode b_Model_begins 10 = .ok (.invokestatic 428, 3) := by decide +kernel
theorem d_Model_begins_13 : decode b_Model_begins 13 = .ok (.istore 7, 2) := by decide +kernel
theorem d_Model_begins_15 : decode b_Model_begins 15 = .ok (.iload_n 2, 1) := by decide +kernel
theorem d_Model_begins_16 : decode b_Model_begins 16 = .ok (.iload 6, 2) := by decide +kernel
theorem d_Model_begins_18 : decode b_Model_begins 18 = .ok (.isub, 1) := by decide +kernel
theorem d_Model_begins_19 : decode b_Model_begins 19 = .ok (.iload 5, 2) := by decide +kernel
theorem d_Model_begins_21 : decode b_Model_begins 21 = .ok (.iload 7, 2) := by decide +kernel
theorem d_Model_begins_23 : decode b_Model_begins 23 = .ok (.isub, 1) := by decide +kernel
theorem d_Model_begins_24 : decode b_Model_begins 24 = .ok (.if_icmp .le 5, 3) := by decide +kernel
theorem d_Model_begins_27 : decode b_Model_begins 27 = .ok (.iconst 0, 1) := by decide +kernel
theorem d_Model_begins_28 : decode b_Model_begins 28 = .ok (.ireturn, 1) := by decide +kernel
theorem d_Model_begins_29 : decode b_Model_begins 29 = .ok (.iconst 0, 1) := by decide +kernel
theorem d_Model_begins_30 : decode b_Model_begins 30 = .ok (.istore 8, 2) := by decide +kernel
theorem d_Model_begins_32 : decode b_Model_begins 32 = .ok (.iload 8, 2) := by decide +kernel
theorem d_Model_begins_34 : decode b_Model_begins 34 = .ok (.iload_n 2, 1) := by decide +kernel
theorem d_Model_begins_35 : decode b_Model_begins 35 = .ok (.iload 6, 2) := by decide +kernel
theorem d_Model_begins_37 : decode b_Model_begins 37 = .ok (.isub, 1) := by decide +kernel
theorem d_Model_begins_38 : decode b_Model_begins 38 = .ok (.if_icmp .ge 34, 3) := by decide +kernel
theorem d_Model_begins_41 : decode b_Model_begins 41 = .ok (.aload_n 0, 1) := by decide +kernel
theorem d_Model_begins_42 : decode b_Model_begins 42 = .ok (.getfield 189, 3) := by decide +kernel
theorem d_Model_begins_45 : decode b_Model_begins 45 = .ok (.iload 6, 2) := by decide +kernel
theorem d_Model_begins_47 : decode b_Model_begins 47 = .ok (.iload 8, 2) := by decide +kernel
theorem d_Model_begins_49 : decode b_Model_begins 49 = .ok (.iadd, 1) := by decide +kernel
theorem d_Model_begins_50 : decode b_Model_begins 50 = .ok (.iaload, 1) := by decide +kernel
theorem d_Model_begins_51 : decode b_Model_begins 51 = .ok (.aload_n 3, 1) := by decide +kernel
theorem d_Model_begins_52 : decode b_Model_begins 52 = .ok (.getfield 189, 3) := by decide +kernel
theorem d_Model_begins_55 : decode b_Model_begins 55 = .ok (.iload 7, 2) := by decide +kernel
theorem d_Model_begins_57 : decode b_Model_begins 57 = .ok (.iload 8, 2) := by decide +kernel
theorem d_Model_begins_59 : decode b_Model_begins 59 = .ok (.iadd, 1) := by decide +kernel
theorem d_Model_begins_60 : decode b_Model_begins 60 = .ok (.iaload, 1) := by decide +kernel
theorem d_Model_begins_61 : decode b_Model_begins 61 = .ok (.if_icmp .eq 5, 3) := by decide +kernel
theorem d_Model_begins_64 : decode b_Model_begins 64 = .ok (.iconst 0, 1) := by decide +kernel
theorem d_Model_begins_65 : decode b_Model_begins 65 = .ok (.ireturn, 1) := by decide +kernel
theorem d_Model_begins_66 : decode b_Model_begins 66 = .ok (.iinc 8 1, 3) := by decide +kernel
theorem d_Model_begins_69 : decode b_Model_begins 69 = .ok (.goto (-37), 3) := by decide +kernel
theorem d_Model_begins_72 : decode b_Model_begins 72 = .ok (.iconst 1, 1) := by decide +kernel
theorem d_Model_begins_73 : decode b_Model_begins 73 = .ok (.ireturn, 1) := by decide +kernel
set_option maxHeartbeats 4000000 in
set_option maxRecDepth 100000 in
theorem p_Model_begins (l : Launch) (dC : Nat → ClassId) (dI : Nat → Nat → Nat) (sb : sB) (γ : cG) (κ : kE) (Ad : List Nat) (τ : Nat → TD) (gT : ClassId) (G : va_W) (t1 t2 : Nat) (a1 b1 c1 d1 : Nat) (hTy : TR γ κ Ad τ G) (kt1 : tK κ Ad t1 (20, 0, 0)) (kt2 : tK κ Ad t2 (20, 0, 0)) (hc_t1 : TB (τ t1)) (hc_t2 : TB (τ t2)) (h1 : hdr (τ t1).u a1 ≤ b1) (h2 : b1 ≤ 2048) (h3 : hdr (τ t2).u c1 ≤ d1) (h4 : d1 ≤ 2048) : Met l y_Model_begins w_Model_begins ({ frames := 1, cells := 0, slots := 0, locals := 21 }) (pu_P [.ref t1, .int (nI a1), .int (nI b1), .ref t2, .int (nI c1), .int (nI d1)] (dC, dI) sb G [(γ.1, .byte), (γ.2.1, .int), (γ.2.2.1, .long), (γ.2.2.2, .object "java/lang/Object"), (gT, .object "TrustChainModel$Text")]) (vp_Si (fun r => r = zP (rgM (τ t1).u (hdr (τ t1).u a1) (b1 - (hdr (τ t1).u a1)) <+: rgM (τ t2).u (hdr (τ t2).u c1) (d1 - (hdr (τ t2).u c1))))) 0 0 (fun _ => False) := by
  refine Met.ofW (cc := b_Model_begins) (maxL := 9) (ret := (some FieldType.boolean)) (by decide) rfl ?_
  intro p e s m args below meth c s₁ B hml hv
  obtain ⟨rfl, hP, hK, hN, hT0⟩ := hv
  have hx := B.exec
  have hb := B.bytes
  have hr := B.returns
  have hts := atoms_spec (ws := w_Model_begins) B.pre
  have tbin : ∀ w ∈ tb, w ∈ w_Model_begins := fun w h => List.mem_cons_of_mem _ h
  have htb : ∀ w ∈ tb, w.before _ s = true := fun w h => hts w (tbin w h)
  have hown : s.vm.findClass "TrustChainModel" = some m.cls := findClass_of_methodNamed B.named
  have hlocks := B.notSynchronized
  have hl := lv_entry ([.ref t1, .int (nI a1), .int (nI b1), .ref t2, .int (nI c1), .int (nI d1)]) (n := 9) (Nat.le_of_ble_eq_true rfl)
  rw [lg_entry_eq]
  generalize (lg_sl ([.ref t1, .int (nI a1), .int (nI b1), .ref t2, .int (nI c1), .int (nI d1)]) ++ List.replicate (9 - (lg_sl ([.ref t1, .int (nI a1), .int (nI b1), .ref t2, .int (nI c1), .int (nI d1)])).length) Slot.unset).toArray = ls at hl ⊢
  have hl : lv_has ls 9 [(0, .ref t1), (1, .int (nI a1)), (2, .int (nI b1)), (3, .ref t2), (4, .int (nI c1)), (5, .int (nI d1))] := hl
  have b1_t1 := hc_t1.b1
  have b2_t1 := hc_t1.b2
  have b3_t1 := hc_t1.b3
  have b1_t2 := hc_t2.b1
  have b2_t2 := hc_t2.b2
  have b3_t2 := hc_t2.b3
  have h9 := hdr_ge (τ t1).u a1
  have h8 := hdr_ge (τ t2).u c1
  refine lv_aload_n hx hb d_Model_begins_0 rfl (lv_at hl 0 rfl) ?_
  refine lv_iload_n hx hb d_Model_begins_1 rfl (lv_at hl 1 rfl) ?_
  refine vp_callSi (pu_callS (As := [.ref t1, .int (nI a1)]) (rest := []) ⟨hx, hb, hml, hown, hts⟩ tbin (p_Model_inside l dC dI sb γ κ Ad τ gT G t1 a1 hTy kt1 hc_t1 (by omega)) q9_161 q9_162 q1_9 q9_163 (n := 2) (by decide +kernel) rfl ⟨rfl, rfl⟩ ⟨Nat.le_of_ble_eq_true rfl, Nat.le_of_ble_eq_true rfl⟩ ⟨Nat.le_of_ble_eq_true rfl, Nat.le_of_ble_eq_true rfl⟩ hN hT0 hK hP (List.range G.length) (rg_all G) [0, 1, 2, 3, 4] rfl hl.1 rfl (Nat.le_of_ble_eq_true rfl) d_Model_begins_2) (fun r2 hr2 => ?_)
  subst hr2
  refine lv_istore (lv' := [(6, .int (nI (hdr (τ t1).u a1))), (0, .ref t1), (1, .int (nI a1)), (2, .int (nI b1)), (3, .ref t2), (4, .int (nI c1)), (5, .int (nI d1))]) hx hb d_Model_begins_5 hl (by decide) rfl (fun ls hl => ?_)
  refine lv_aload_n hx hb d_Model_begins_7 rfl (lv_at hl 4 rfl) ?_
  refine lv_iload hx hb d_Model_begins_8 (lv_at hl 5 rfl) ?_
  refine vp_callSi (pu_callS (As := [.ref t2, .int (nI c1)]) (rest := []) ⟨hx, hb, hml, hown, hts⟩ tbin (p_Model_inside l dC dI sb γ κ Ad τ gT G t2 c1 hTy kt2 hc_t2 (by omega)) q9_161 q9_162 q1_9 q9_163 (n := 2) (by decide +kernel) rfl ⟨rfl, rfl⟩ ⟨Nat.le_of_ble_eq_true rfl, Nat.le_of_ble_eq_true rfl⟩ ⟨Nat.le_of_ble_eq_true rfl, Nat.le_of_ble_eq_true rfl⟩ hN hT0 hK hP (List.range G.length) (rg_all G) [0, 1, 2, 3, 4] rfl hl.1 rfl (Nat.le_of_ble_eq_true rfl) d_Model_begins_10) (fun r10 hr10 => ?_)
  subst hr10
  refine lv_istore (lv' := [(7, .int (nI (hdr (τ t2).u c1))), (6, .int (nI (hdr (τ t1).u a1))), (0, .ref t1), (1, .int (nI a1)), (2, .int (nI b1)), (3, .ref t2), (4, .int (nI c1)), (5, .int (nI d1))]) hx hb d_Model_begins_13 hl (by decide) rfl (fun ls hl => ?_)
  refine lv_iload_n hx hb d_Model_begins_15 rfl (lv_at hl 4 rfl) ?_
  refine lv_iload hx hb d_Model_begins_16 (lv_at hl 1 rfl) ?_
  refine lv_isub hx hb d_Model_begins_18 ?_
  rw [show ((nI b1) - (nI (hdr (τ t1).u a1)) : Int32) = nI (b1 - (hdr (τ t1).u a1)) from pk_sub (a := b1) (b := (hdr (τ t1).u a1)) (by omega)]
  refine lv_iload hx hb d_Model_begins_19 (lv_at hl 7 rfl) ?_
  refine lv_iload hx hb d_Model_begins_21 (lv_at hl 0 rfl) ?_
  refine lv_isub hx hb d_Model_begins_23 ?_
  rw [show ((nI d1) - (nI (hdr (τ t2).u c1)) : Int32) = nI (d1 - (hdr (τ t2).u c1)) from pk_sub (a := d1) (b := (hdr (τ t2).u c1)) (by omega)]
  refine lv_icmp_le (tgt := 29) hx hb d_Model_begins_24 (by decide) (fun c24 => ?_) (fun c24 => ?_)
  · have p24 : (b1 - (hdr (τ t1).u a1)) ≤ (d1 - (hdr (τ t2).u c1)) := ((nI_leI (a := (b1 - (hdr (τ t1).u a1))) (b := (d1 - (hdr (τ t2).u c1))) (by omega) (by omega)).mp c24)
    refine lv_iconst (v := 0) hx hb d_Model_begins_29 (by decide) ?_
    refine lv_istore (lv' := [(8, .int 0), (7, .int (nI (hdr (τ t2).u c1))), (6, .int (nI (hdr (τ t1).u a1))), (0, .ref t1), (1, .int (nI a1)), (2, .int (nI b1)), (3, .ref t2), (4, .int (nI c1)), (5, .int (nI d1))]) hx hb d_Model_begins_30 hl (by decide) rfl (fun ls hl => ?_)
    refine w_loop (α := Nat) (fun a9 => 0 ≤ a9 ∧ a9 ≤ (b1 - hdr (τ t1).u a1) ∧ (∀ j9, j9 < a9 → (τ t2).u ((hdr (τ t2).u c1) + j9) = (τ t1).u ((hdr (τ t1).u a1) + j9))) (fun a9 => (b1 - hdr (τ t1).u a1) - a9) (fun a9 => [(8, .int (nI a9)), (7, .int (nI (hdr (τ t2).u c1))), (6, .int (nI (hdr (τ t1).u a1))), (0, .ref t1), (1, .int (nI a1)), (2, .int (nI b1)), (3, .ref t2), (4, .int (nI c1)), (5, .int (nI d1))]) (fun _ => []) 9 32 (fun z32 ls hJ hl ih32 => ?_) (0) ls ⟨by omega, by omega, fun j9 h9 => absurd h9 (Nat.not_lt_zero j9)⟩ (lv_sub hl [0, 1, 2, 3, 4, 5, 6, 7, 8] rfl)
    skip
    obtain ⟨hy32, hz32, hJ32⟩ := hJ
    refine lv_iload hx hb d_Model_begins_32 (lv_at hl 0 rfl) ?_
    refine lv_iload_n hx hb d_Model_begins_34 rfl (lv_at hl 5 rfl) ?_
    refine lv_iload hx hb d_Model_begins_35 (lv_at hl 2 rfl) ?_
    refine lv_isub hx hb d_Model_begins_37 ?_
    rw [show ((nI b1) - (nI (hdr (τ t1).u a1)) : Int32) = nI (b1 - (hdr (τ t1).u a1)) from pk_sub (a := b1) (b := (hdr (τ t1).u a1)) (by omega)]
    refine lv_icmp_ge (tgt := 72) hx hb d_Model_begins_38 (by decide) (fun c38 => ?_) (fun c38 => ?_)
    · have p38 : (b1 - (hdr (τ t1).u a1)) ≤ z32 := ((nI_leI (a := (b1 - (hdr (τ t1).u a1))) (b := z32) (by omega) (by omega)).mp c38)
      refine lv_iconst (v := 1) hx hb d_Model_begins_72 (by decide) ?_
      exact W.zret (v := 1) hx hb hr rfl (fun t ht hW => ⟨_, rfl, zP_t (rgM_pf.mpr ⟨p24, fun j9 h9 => hJ32 j9 (by omega)⟩), ht⟩) (fun q h => by cases h) d_Model_begins_73
    · have p38 : ¬ ((b1 - (hdr (τ t1).u a1)) ≤ z32) := (fun q9 => c38 ((nI_leI (a := (b1 - (hdr (τ t1).u a1))) (b := z32) (by omega) (by omega)).mpr q9))
      refine lv_aload_n hx hb d_Model_begins_41 rfl (lv_at hl 3 rfl) ?_
      obtain ⟨i_1, kA_1, hg_1⟩ := tr_20 hTy kt1
      refine va_get (v := .ref ((τ t1).A 0)) hx hb htb i_Text hown hK hP i_1 hg_1 rfl 0 (by decide) (htb _ q6_179) (fun _ h9 => h9) rfl d_Model_begins_42 ?_
      refine lv_iload hx hb d_Model_begins_45 (lv_at hl 2 rfl) ?_
      refine lv_iload hx hb d_Model_begins_47 (lv_at hl 0 rfl) ?_
      refine lv_iadd hx hb d_Model_begins_49 ?_
      rw [show ((nI (hdr (τ t1).u a1)) + (nI z32) : Int32) = nI ((hdr (τ t1).u a1) + z32) from nI_add (hdr (τ t1).u a1) z32]
      obtain ⟨i_2, hg_2⟩ := tr_18 hTy (kA_1 0 (by decide))
      have hg_2 : G[i_2]? = some (((τ t1).A 0), .inl (γ.2.1, 2048, .inl ((τ t1).D 0))) := hg_2
      have h50 : vp_in (nI ((hdr (τ t1).u a1) + z32)) 2048 := vp_in_nI (by omega) (by omega)
      refine va_iald hx hb hK hP i_2 1 hg_2 rfl h50 d_Model_begins_50 ?_
      refine lv_topi (fun e50 he50 => ?_)
      rw [hc_t1.d, nI_clamp (by omega)] at he50
      have he50 : e50 = nI ((τ t1).u ((hdr (τ t1).u a1) + z32)) := he50
      subst he50
      have hub50 := hc_t1.hu ((hdr (τ t1).u a1) + z32)
      refine lv_aload_n hx hb d_Model_begins_51 rfl (lv_at hl 6 rfl) ?_
      obtain ⟨i_3, kA_3, hg_3⟩ := tr_20 hTy kt2
      refine va_get (v := .ref ((τ t2).A 0)) hx hb htb i_Text hown hK hP i_3 hg_3 rfl 0 (by decide) (htb _ q6_179) (fun _ h9 => h9) rfl d_Model_begins_52 ?_
      refine lv_iload hx hb d_Model_begins_55 (lv_at hl 1 rfl) ?_
      refine lv_iload hx hb d_Model_begins_57 (lv_at hl 0 rfl) ?_
      refine lv_iadd hx hb d_Model_begins_59 ?_
      rw [show ((nI (hdr (τ t2).u c1)) + (nI z32) : Int32) = nI ((hdr (τ t2).u c1) + z32) from nI_add (hdr (τ t2).u c1) z32]
      obtain ⟨i_4, hg_4⟩ := tr_18 hTy (kA_3 0 (by decide))
      have hg_4 : G[i_4]? = some (((τ t2).A 0), .inl (γ.2.1, 2048, .inl ((τ t2).D 0))) := hg_4
      have h60 : vp_in (nI ((hdr (τ t2).u c1) + z32)) 2048 := vp_in_nI (by omega) (by omega)
      refine va_iald hx hb hK hP i_4 1 hg_4 rfl h60 d_Model_begins_60 ?_
      refine lv_topi (fun e60 he60 => ?_)
      rw [hc_t2.d, nI_clamp (by omega)] at he60
      have he60 : e60 = nI ((τ t2).u ((hdr (τ t2).u c1) + z32)) := he60
      subst he60
      have hub60 := hc_t2.hu ((hdr (τ t2).u c1) + z32)
      refine lv_icmp_eq (tgt := 66) hx hb d_Model_begins_61 (by decide) (fun c61 => ?_) (fun c61 => ?_)
      · have p61 : ((τ t1).u ((hdr (τ t1).u a1) + z32)) = ((τ t2).u ((hdr (τ t2).u c1) + z32)) := ((nI_eq (a := ((τ t1).u ((hdr (τ t1).u a1) + z32))) (b := ((τ t2).u ((hdr (τ t2).u c1) + z32))) (by omega) (by omega)).mp c61)
        refine lv_iinc (v := nI (z32 + 1)) (lv' := [(8, .int (nI (z32 + 1))), (7, .int (nI (hdr (τ t2).u c1))), (6, .int (nI (hdr (τ t1).u a1))), (0, .ref t1), (1, .int (nI a1)), (2, .int (nI b1)), (3, .ref t2), (4, .int (nI c1)), (5, .int (nI d1))]) hx hb d_Model_begins_66 hl (k := 0) rfl (nI_1 _) (by decide) rfl (fun ls hl => ?_)
        refine lv_goto (tgt := 32) hx hb d_Model_begins_69 (by decide) ?_
        exact ih32 ((z32 + 1)) ls (by omega) ⟨by omega, by omega, fun j9 h9 => (Nat.lt_succ_iff_lt_or_eq.mp h9).elim (hJ32 j9) (fun e9 => by subst e9; exact p61.symm)⟩ (lv_sub hl [0, 1, 2, 3, 4, 5, 6, 7, 8] rfl)
      · have p61 : ¬ (((τ t1).u ((hdr (τ t1).u a1) + z32)) = ((τ t2).u ((hdr (τ t2).u c1) + z32))) := (fun q9 => c61 ((nI_eq (a := ((τ t1).u ((hdr (τ t1).u a1) + z32))) (b := ((τ t2).u ((hdr (τ t2).u c1) + z32))) (by omega) (by omega)).mpr q9))
        refine lv_iconst (v := 0) hx hb d_Model_begins_64 (by decide) ?_
        exact W.zret (v := 0) hx hb hr rfl (fun t ht hW => ⟨_, rfl, zP_f (fun h9 => p61 ((rgM_pf.mp h9).2 z32 (by omega)).symm), ht⟩) (fun q h => by cases h) d_Model_begins_65
  · have p24 : ¬ ((b1 - (hdr (τ t1).u a1)) ≤ (d1 - (hdr (τ t2).u c1))) := (fun q9 => c24 ((nI_leI (a := (b1 - (hdr (τ t1).u a1))) (b := (d1 - (hdr (τ t2).u c1))) (by omega) (by omega)).mpr q9))
    refine lv_iconst (v := 0) hx hb d_Model_begins_27 (by decide) ?_
    exact W.zret (v := 0) hx hb hr rfl (fun t ht hW => ⟨_, rfl, zP_f (fun h9 => p24 (rgM_pf.mp h9).1), ht⟩) (fun q h => by cases h) d_Model_begins_28
def y_Model_ends : MethodName := ⟨"TrustChainModel", "ends", "(LTrustChainModel$Text;IILTrustChainModel$Text;II)Z"⟩
abbrev b_Model_ends : ByteArray := prog_14_method_41_code
def w_Model_ends : List Cond := Cond.code y_Model_ends b_Model_ends 9 ((some FieldType.boolean)) :: tb
theorem d_Model_ends_0 : decode b_Model_ends 0 = .ok (.iload_n 2, 1) := by decide +kernel
theorem d_Model_ends_1 : decode b_Model_ends 1 = .ok (.iload_n 1, 1) := by decide +kernel
theorem d_Model_ends_2 : decode b_Model_ends 2 = .ok (.isub, 1) := by decide +kernel
theorem d_Model_ends_3 : decode b_Model_ends 3 = .ok (.istore 6, 2) := by decide +kernel
theorem d_Model_ends_5 : decode b_Model_ends 5 = .ok (.iload 5, 2) := by decide +kernel
theorem d_Model_ends_7 : decode b_Model_ends 7 = .ok (.iload 4, 2) := by decide +kernel
theorem d_Model_ends_9 : decode b_Model_ends 9 = .ok (.isub, 1) := by decide +kernel
theorem d_Model_ends_10 : decode b_Model_ends 10 = .ok (.istore 7, 2) := by decide +kernel
theorem d_Model_ends_12 : decode b_Model_ends 12 = .ok (.iload 6, 2) := by decide +kernel
theorem d_Model_ends_14 : decode b_Model_ends 14 = .ok (.iload 7, 2) := by decide +kernel
theorem d_Model_ends_16 : decode b_Model_ends 16 = .ok (.if_icmp .le 5, 3) := by decide +kernel
theorem d_Model_ends_19 : decode b_Model_ends 19 = .ok (.iconst 0, 1) := by decide +kernel
theorem d_Model_ends_20 : decode b_Model_ends 20 = .ok (.ireturn, 1) := by decide +kernel
theorem d_Model_ends_21 : decode b_Model_ends 21 = .ok (.iconst 1, 1) := by decide +kernel
theorem d_Model_ends_22 : decode b_Model_ends 22 = .ok (.istore 8, 2) := by decide +kernel
theorem d_Model_ends_24 : decode b_Model_ends 24 = .ok (.iload 8, 2) := by decide +kernel
theorem d_Model_ends_26 : decode b_Model_ends 26 = .ok (.iload 6, 2) := by decide +kernel
theorem d_Model_ends_28 : decode b_Model_ends 28 = .ok (.if_icmp .gt 39, 3) := by decide +kernel
theorem d_Model_ends_31 : decode b_Model_ends 31 = .ok (.aload_n 0, 1) := by decide +kernel
theorem d_Model_ends_32 : decode b_Model_ends 32 = .ok (.getfield 189, 3) := by decide +kernel
theorem d_Model_ends_35 : decode b_Model_ends 35 = .ok (.iload_n 2, 1) := by decide +kernel
theorem d_Model_ends_36 : decode b_Model_ends 36 = .ok (.iload 8, 2) := by decide +kernel
theorem d_Model_ends_38 : decode b_Model_ends 38 = .ok (.isub, 1) := by decide +kernel
theorem d_Model_ends_39 : decode b_Model_ends 39 = .ok (.iaload, 1) := by decide +kernel
theorem d_Model_ends_40 : decode b_Model_ends 40 = .ok (.invokestatic 432, 3) := by decide +kernel
theorem d_Model_ends_43 : decode b_Model_ends 43 = .ok (.aload_n 3, 1) := by decide +kernel
theorem d_Model_ends_44 : decode b_Model_ends 44 = .ok (.getfield 189, 3) := by decide +kernel
theorem d_Model_ends_47 : decode b_Model_ends 47 = .ok (.iload 5, 2) := by decide +kernel
theorem d_Model_ends_49 : decode b_Model_ends 49 = .ok (.iload 8, 2) := by decide +kernel
theorem d_Model_ends_51 : decode b_Model_ends 51 = .ok (.isub, 1) := by decide +kernel
theorem d_Model_ends_52 : decode b_Model_ends 52 = .ok (.iaload, 1) := by decide +kernel
theorem d_Model_ends_53 : decode b_Model_ends 53 = .ok (.invokestatic 432, 3) := by decide +kernel
theorem d_Model_ends_56 : decode b_Model_ends 56 = .ok (.if_icmp .eq 5, 3) := by decide +kernel
theorem d_Model_ends_59 : decode b_Model_ends 59 = .ok (.iconst 0, 1) := by decide +kernel
theorem d_Model_ends_60 : decode b_Model_ends 60 = .ok (.ireturn, 1) := by decide +kernel
theorem d_Model_ends_61 : decode b_Model_ends 61 = .ok (.iinc 8 1, 3) := by decide +kernel
theorem d_Model_ends_64 : decode b_Model_ends 64 = .ok (.goto (-40), 3) := by decide +kernel
theorem d_Model_ends_67 : decode b_Model_ends 67 = .ok (.iload 6, 2) := by decide +kernel
theorem d_Model_ends_69 : decode b_Model_ends 69 = .ok (.ifCond .eq 27, 3) := by decide +kernel
theorem d_Model_ends_72 : decode b_Model_ends 72 = .ok (.iload 6, 2) := by decide +kernel
theorem d_Model_ends_74 : decode b_Model_ends 74 = .ok (.iload 7, 2) := by decide +kernel
theorem d_Model_ends_76 : decode b_Model_ends 76 = .ok (.if_icmp .eq 20, 3) := by decide +kernel
theorem d_Model_ends_79 : decode b_Model_ends 79 = .ok (.aload_n 3, 1) := by decide +kernel
theorem d_Model_ends_80 : decode b_Model_ends 80 = .ok (.getfield 189, 3) := by decide +kernel
theorem d_Model_ends_83 : decode b_Model_ends 83 = .ok (.iload 5, 2) := by decide +kernel
theorem d_Model_ends_85 : decode b_Model_ends 85 = .ok (.iload 6, 2) := by decide +kernel
theorem d_Model_ends_87 : decode b_Model_ends 87 = .ok (.isub, 1) := by decide +kernel
theorem d_Model_ends_88 : decode b_Model_ends 88 = .ok (.iconst 1, 1) := by decide +kernel
theorem d_Model_ends_89 : decode b_Model_ends 89 = .ok (.isub, 1) := by decide +kernel
theorem d_Model_ends_90 : decode b_Model_ends 90 = .ok (.iaload, 1) := by decide +kernel
theorem d_Model_ends_91 : decode b_Model_ends 91 = .ok (.bipush 46, 2) := by decide +kernel
theorem d_Model_ends_93 : decode b_Model_ends 93 = .ok (.if_icmp .ne 7, 3) := by decide +kernel
theorem d_Model_ends_96 : decode b_Model_ends 96 = .ok (.iconst 1, 1) := by decide +kernel
theorem d_Model_ends_97 : decode b_Model_ends 97 = .ok (.goto 4, 3) := by decide +kernel
theorem d_Model_ends_100 : decode b_Model_ends 100 = .ok (.iconst 0, 1) := by decide +kernel
theorem d_Model_ends_101 : decode b_Model_ends 101 = .ok (.ireturn, 1) := by decide +kernel
set_option maxHeartbeats 4000000 in
set_option maxRecDepth 100000 in
theorem p_Model_ends (l : Launch) (dC : Nat → ClassId) (dI : Nat → Nat → Nat) (sb : sB) (γ : cG) (κ : kE) (Ad : List Nat) (τ : Nat → TD) (gT : ClassId) (G : va_W) (t1 t2 : Nat) (a1 b1 c1 d1 : Nat) (hTy : TR γ κ Ad τ G) (kt1 : tK κ Ad t1 (20, 0, 0)) (kt2 : tK κ Ad t2 (20, 0, 0)) (hc_t1 : TB (τ t1)) (hc_t2 : TB (τ t2)) (h1 : a1 ≤ b1) (h2 : b1 ≤ 2048) (h3 : c1 ≤ d1) (h4 : d1 ≤ 2048) : Met l y_Model_ends w_Model_ends ({ frames := 2, cells := 0, slots := 0, locals := 42 }) (pu_P [.ref t1, .int (nI a1), .int (nI b1), .ref t2, .int (nI c1), .int (nI d1)] (dC, dI) sb G [(γ.1, .byte), (γ.2.1, .int), (γ.2.2.1, .long), (γ.2.2.2, .object "java/lang/Object"), (gT, .object "TrustChainModel$Text")]) (vp_Si (fun r => r = zP (dtQ (rgM (τ t1).u a1 (b1 - a1)) (rgM (τ t2).u c1 (d1 - c1))))) 0 0 (fun _ => False) := by
  refine Met.ofW (cc := b_Model_ends) (maxL := 9) (ret := (some FieldType.boolean)) (by decide) rfl ?_
  intro p e s m args below meth c s₁ B hml hv
  obtain ⟨rfl, hP, hK, hN, hT0⟩ := hv
  have hx := B.exec
  have hb := B.bytes
  have hr := B.returns
  have hts := atoms_spec (ws := w_Model_ends) B.pre
  have tbin : ∀ w ∈ tb, w ∈ w_Model_ends := fun w h => List.mem_cons_of_mem _ h
  have htb : ∀ w ∈ tb, w.before _ s = true := fun w h => hts w (tbin w h)
  have hown : s.vm.findClass "TrustChainModel" = some m.cls := findClass_of_methodNamed B.named
  have hlocks := B.notSynchronized
  have hl := lv_entry ([.ref t1, .int (nI a1), .int (nI b1), .ref t2, .int (nI c1), .int (nI d1)]) (n := 9) (Nat.le_of_ble_eq_true rfl)
  rw [lg_entry_eq]
  generalize (lg_sl ([.ref t1, .int (nI a1), .int (nI b1), .ref t2, .int (nI c1), .int (nI d1)]) ++ List.replicate (9 - (lg_sl ([.ref t1, .int (nI a1), .int (nI b1), .ref t2, .int (nI c1), .int (nI d1)])).length) Slot.unset).toArray = ls at hl ⊢
  have hl : lv_has ls 9 [(0, .ref t1), (1, .int (nI a1)), (2, .int (nI b1)), (3, .ref t2), (4, .int (nI c1)), (5, .int (nI d1))] := hl
  have b1_t1 := hc_t1.b1
  have b2_t1 := hc_t1.b2
  have b3_t1 := hc_t1.b3
  have b1_t2 := hc_t2.b1
  have b2_t2 := hc_t2.b2
  have b3_t2 := hc_t2.b3
  refine lv_iload_n hx hb d_Model_ends_0 rfl (lv_at hl 2 rfl) ?_
  refine lv_iload_n hx hb d_Model_ends_1 rfl (lv_at hl 1 rfl) ?_
  refine lv_isub hx hb d_Model_ends_2 ?_
  rw [show ((nI b1) - (nI a1) : Int32) = nI (b1 - a1) from pk_sub (a := b1) (b := a1) (by omega)]
  refine lv_istore (lv' := [(6, .int (nI (b1 - a1))), (0, .ref t1), (1, .int (nI a1)), (2, .int (nI b1)), (3, .ref t2), (4, .int (nI c1)), (5, .int (nI d1))]) hx hb d_Model_ends_3 hl (by decide) rfl (fun ls hl => ?_)
  refine lv_iload hx hb d_Model_ends_5 (lv_at hl 6 rfl) ?_
  refine lv_iload hx hb d_Model_ends_7 (lv_at hl 5 rfl) ?_
  refine lv_isub hx hb d_Model_ends_9 ?_
  rw [show ((nI d1) - (nI c1) : Int32) = nI (d1 - c1) from pk_sub (a := d1) (b := c1) (by omega)]
  refine lv_istore (lv' := [(7, .int (nI (d1 - c1))), (6, .int (nI (b1 - a1))), (0, .ref t1), (1, .int (nI a1)), (2, .int (nI b1)), (3, .ref t2), (4, .int (nI c1)), (5, .int (nI d1))]) hx hb d_Model_ends_10 hl (by decide) rfl (fun ls hl => ?_)
  refine lv_iload hx hb d_Model_ends_12 (lv_at hl 1 rfl) ?_
  refine lv_iload hx hb d_Model_ends_14 (lv_at hl 0 rfl) ?_
  refine lv_icmp_le (tgt := 21) hx hb d_Model_ends_16 (by decide) (fun c16 => ?_) (fun c16 => ?_)
  · have p16 : (b1 - a1) ≤ (d1 - c1) := ((nI_leI (a := (b1 - a1)) (b := (d1 - c1)) (by omega) (by omega)).mp c16)
    refine lv_iconst (v := 1) hx hb d_Model_ends_21 (by decide) ?_
    refine lv_istore (lv' := [(8, .int 1), (7, .int (nI (d1 - c1))), (6, .int (nI (b1 - a1))), (0, .ref t1), (1, .int (nI a1)), (2, .int (nI b1)), (3, .ref t2), (4, .int (nI c1)), (5, .int (nI d1))]) hx hb d_Model_ends_22 hl (by decide) rfl (fun ls hl => ?_)
    refine w_loop (α := Nat) (fun a9 => 1 ≤ a9 ∧ a9 ≤ (b1 - a1 + 1) ∧ (∀ j9, 1 ≤ j9 → j9 < a9 → lowN ((τ t1).u (b1 - j9)) = lowN ((τ t2).u (d1 - j9)))) (fun a9 => (b1 - a1 + 1) - a9) (fun a9 => [(8, .int (nI a9)), (7, .int (nI (d1 - c1))), (6, .int (nI (b1 - a1))), (0, .ref t1), (1, .int (nI a1)), (2, .int (nI b1)), (3, .ref t2), (4, .int (nI c1)), (5, .int (nI d1))]) (fun _ => []) 9 24 (fun z24 ls hJ hl ih24 => ?_) (1) ls ⟨by omega, by omega, fun j9 h8 h9 => absurd h9 (by omega)⟩ (lv_sub hl [0, 1, 2, 3, 4, 5, 6, 7, 8] rfl)
    skip
    obtain ⟨hy24, hz24, hJ24⟩ := hJ
    refine lv_iload hx hb d_Model_ends_24 (lv_at hl 0 rfl) ?_
    refine lv_iload hx hb d_Model_ends_26 (lv_at hl 2 rfl) ?_
    refine lv_icmp_gt (tgt := 67) hx hb d_Model_ends_28 (by decide) (fun c28 => ?_) (fun c28 => ?_)
    · have p28 : (b1 - a1) < z24 := ((nI_ltI (a := (b1 - a1)) (b := z24) (by omega) (by omega)).mp c28)
      refine lv_iload hx hb d_Model_ends_67 (lv_at hl 2 rfl) ?_
      refine w_join (J := fun v9 => v9 = zP (((b1 - a1) = 0) ∨ (((b1 - a1) = (d1 - c1)) ∨ (((τ t2).u ((d1 - (b1 - a1)) - 1)) = 46)))) (pc := 101) (ls := ls) (rest := []) (fun v9 hv9 => ?_) (fun k101 => ?_)
      · subst hv9
        exact W.zret (v := zP (((b1 - a1) = 0) ∨ (((b1 - a1) = (d1 - c1)) ∨ (((τ t2).u ((d1 - (b1 - a1)) - 1)) = 46)))) hx hb hr (zP_n _) (fun t ht hW => ⟨_, rfl, zP_g (Iff.trans ⟨fun h9 => ⟨p16, fun j9 h7 h8 => hJ24 j9 h7 (by omega), h9⟩, fun h9 => h9.2.2⟩ (en_y (u := (τ t1).u) (v := (τ t2).u) h1 h3).symm), ht⟩) (fun q h => by cases h) d_Model_ends_101
      · skip
        refine lv_if_eq (tgt := 96) hx hb d_Model_ends_69 (by decide) (fun c69 => ?_) (fun c69 => ?_)
        · have p69 : (b1 - a1) = 0 := ((nI_eq (a := (b1 - a1)) (b := 0) (by omega) (by omega)).mp c69)
          refine lv_iconst (v := 1) hx hb d_Model_ends_96 (by decide) ?_
          refine lv_goto (tgt := 101) hx hb d_Model_ends_97 (by decide) ?_
          exact k101 _ (zP_t (Or.inl p69))
        · have p69 : ¬ ((b1 - a1) = 0) := (fun q9 => c69 ((nI_eq (a := (b1 - a1)) (b := 0) (by omega) (by omega)).mpr q9))
          refine lv_iload hx hb d_Model_ends_72 (lv_at hl 2 rfl) ?_
          refine lv_iload hx hb d_Model_ends_74 (lv_at hl 1 rfl) ?_
          refine lv_icmp_eq (tgt := 96) hx hb d_Model_ends_76 (by decide) (fun c76 => ?_) (fun c76 => ?_)
          · have p76 : (b1 - a1) = (d1 - c1) := ((nI_eq (a := (b1 - a1)) (b := (d1 - c1)) (by omega) (by omega)).mp c76)
            refine lv_iconst (v := 1) hx hb d_Model_ends_96 (by decide) ?_
            refine lv_goto (tgt := 101) hx hb d_Model_ends_97 (by decide) ?_
            exact k101 _ (zP_t (Or.inr (Or.inl p76)))
          · have p76 : ¬ ((b1 - a1) = (d1 - c1)) := (fun q9 => c76 ((nI_eq (a := (b1 - a1)) (b := (d1 - c1)) (by omega) (by omega)).mpr q9))
            refine lv_aload_n hx hb d_Model_ends_79 rfl (lv_at hl 6 rfl) ?_
            obtain ⟨i_1, kA_1, hg_1⟩ := tr_20 hTy kt2
            refine va_get (v := .ref ((τ t2).A 0)) hx hb htb i_Text hown hK hP i_1 hg_1 rfl 0 (by decide) (htb _ q6_179) (fun _ h9 => h9) rfl d_Model_ends_80 ?_
            refine lv_iload hx hb d_Model_ends_83 (lv_at hl 8 rfl) ?_
            refine lv_iload hx hb d_Model_ends_85 (lv_at hl 2 rfl) ?_
            refine lv_isub hx hb d_Model_ends_87 ?_
            rw [show ((nI d1) - (nI (b1 - a1)) : Int32) = nI (d1 - (b1 - a1)) from pk_sub (a := d1) (b := (b1 - a1)) (by omega)]
            refine lv_iconst (v := 1) hx hb d_Model_ends_88 (by decide) ?_
            refine lv_isub hx hb d_Model_ends_89 ?_
            rw [show ((nI (d1 - (b1 - a1))) - 1 : Int32) = nI ((d1 - (b1 - a1)) - 1) from pk_sub (a := (d1 - (b1 - a1))) (b := 1) (by omega)]
            obtain ⟨i_2, hg_2⟩ := tr_18 hTy (kA_1 0 (by decide))
            have hg_2 : G[i_2]? = some (((τ t2).A 0), .inl (γ.2.1, 2048, .inl ((τ t2).D 0))) := hg_2
            have h90 : vp_in (nI ((d1 - (b1 - a1)) - 1)) 2048 := vp_in_nI (by omega) (by omega)
            refine va_iald hx hb hK hP i_2 1 hg_2 rfl h90 d_Model_ends_90 ?_
            refine lv_topi (fun e90 he90 => ?_)
            rw [hc_t2.d, nI_clamp (by omega)] at he90
            have he90 : e90 = nI ((τ t2).u ((d1 - (b1 - a1)) - 1)) := he90
            subst he90
            have hub90 := hc_t2.hu ((d1 - (b1 - a1)) - 1)
            refine lv_bipush (v := 46) hx hb d_Model_ends_91 (by decide) ?_
            refine lv_icmp_ne (tgt := 100) hx hb d_Model_ends_93 (by decide) (fun c93 => ?_) (fun c93 => ?_)
            · have p93 : ¬ (((τ t2).u ((d1 - (b1 - a1)) - 1)) = 46) := (fun q9 => c93 ((nI_eq (a := ((τ t2).u ((d1 - (b1 - a1)) - 1))) (b := 46) (by omega) (by omega)).mpr q9))
              refine lv_iconst (v := 0) hx hb d_Model_ends_100 (by decide) ?_
              exact k101 _ (zP_f (fun z => z.elim p69 (fun z => z.elim p76 p93)))
            · have p93 : ((τ t2).u ((d1 - (b1 - a1)) - 1)) = 46 := ((nI_eq (a := ((τ t2).u ((d1 - (b1 - a1)) - 1))) (b := 46) (by omega) (by omega)).mp c93)
              refine lv_iconst (v := 1) hx hb d_Model_ends_96 (by decide) ?_
              refine lv_goto (tgt := 101) hx hb d_Model_ends_97 (by decide) ?_
              exact k101 _ (zP_t (Or.inr (Or.inr p93)))
    · have p28 : ¬ ((b1 - a1) < z24) := (fun q9 => c28 ((nI_ltI (a := (b1 - a1)) (b := z24) (by omega) (by omega)).mpr q9))
      refine lv_aload_n hx hb d_Model_ends_31 rfl (lv_at hl 3 rfl) ?_
      obtain ⟨i_3, kA_3, hg_3⟩ := tr_20 hTy kt1
      refine va_get (v := .ref ((τ t1).A 0)) hx hb htb i_Text hown hK hP i_3 hg_3 rfl 0 (by decide) (htb _ q6_179) (fun _ h9 => h9) rfl d_Model_ends_32 ?_
      refine lv_iload_n hx hb d_Model_ends_35 rfl (lv_at hl 5 rfl) ?_
      refine lv_iload hx hb d_Model_ends_36 (lv_at hl 0 rfl) ?_
      refine lv_isub hx hb d_Model_ends_38 ?_
      rw [show ((nI b1) - (nI z24) : Int32) = nI (b1 - z24) from pk_sub (a := b1) (b := z24) (by omega)]
      obtain ⟨i_4, hg_4⟩ := tr_18 hTy (kA_3 0 (by decide))
      have hg_4 : G[i_4]? = some (((τ t1).A 0), .inl (γ.2.1, 2048, .inl ((τ t1).D 0))) := hg_4
      have h39 : vp_in (nI (b1 - z24)) 2048 := vp_in_nI (by omega) (by omega)
      refine va_iald hx hb hK hP i_4 1 hg_4 rfl h39 d_Model_ends_39 ?_
      refine lv_topi (fun e39 he39 => ?_)
      rw [hc_t1.d, nI_clamp (by omega)] at he39
      have he39 : e39 = nI ((τ t1).u (b1 - z24)) := he39
      subst he39
      have hub39 := hc_t1.hu (b1 - z24)
      refine vp_callSi (pu_callS (As := [.int (nI ((τ t1).u (b1 - z24)))]) (rest := []) ⟨hx, hb, hml, hown, hts⟩ tbin (c_Model_small l dC dI sb (nI ((τ t1).u (b1 - z24)))) q9_167 q9_168 q1_9 q9_169 (n := 1) (by decide +kernel) rfl ⟨rfl, rfl⟩ ⟨Nat.le_of_ble_eq_true rfl, Nat.le_of_ble_eq_true rfl⟩ ⟨Nat.le_of_ble_eq_true rfl, Nat.le_of_ble_eq_true rfl⟩ hN hT0 hK hP [] (by simp only [List.filterMap_cons, List.filterMap_nil]) [] rfl hl.1 rfl (Nat.le_of_ble_eq_true rfl) d_Model_ends_40) (fun r40 hr40 => ?_)
      rw [low_n (by omega)] at hr40
      subst hr40
      have hlw40 := low_lt (k := ((τ t1).u (b1 - z24))) (by omega)
      refine lv_aload_n hx hb d_Model_ends_43 rfl (lv_at hl 6 rfl) ?_
      obtain ⟨i_5, kA_5, hg_5⟩ := tr_20 hTy kt2
      refine va_get (v := .ref ((τ t2).A 0)) hx hb htb i_Text hown hK hP i_5 hg_5 rfl 0 (by decide) (htb _ q6_179) (fun _ h9 => h9) rfl d_Model_ends_44 ?_
      refine lv_iload hx hb d_Model_ends_47 (lv_at hl 8 rfl) ?_
      refine lv_iload hx hb d_Model_ends_49 (lv_at hl 0 rfl) ?_
      refine lv_isub hx hb d_Model_ends_51 ?_
      rw [show ((nI d1) - (nI z24) : Int32) = nI (d1 - z24) from pk_sub (a := d1) (b := z24) (by omega)]
      obtain ⟨i_6, hg_6⟩ := tr_18 hTy (kA_5 0 (by decide))
      have hg_6 : G[i_6]? = some (((τ t2).A 0), .inl (γ.2.1, 2048, .inl ((τ t2).D 0))) := hg_6
      have h52 : vp_in (nI (d1 - z24)) 2048 := vp_in_nI (by omega) (by omega)
      refine va_iald hx hb hK hP i_6 1 hg_6 rfl h52 d_Model_ends_52 ?_
      refine lv_topi (fun e52 he52 => ?_)
      rw [hc_t2.d, nI_clamp (by omega)] at he52
      have he52 : e52 = nI ((τ t2).u (d1 - z24)) := he52
      subst he52
      have hub52 := hc_t2.hu (d1 - z24)
      refine vp_callSi (pu_callS (As := [.int (nI ((τ t2).u (d1 - z24)))]) (rest := [.int (nI (lowN ((τ t1).u (b1 - z24))))]) ⟨hx, hb, hml, hown, hts⟩ tbin (c_Model_small l dC dI sb (nI ((τ t2).u (d1 - z24)))) q9_167 q9_168 q1_9 q9_169 (n := 1) (by decide +kernel) rfl ⟨rfl, rfl⟩ ⟨Nat.le_of_ble_eq_true rfl, Nat.le_of_ble_eq_true rfl⟩ ⟨Nat.le_of_ble_eq_true rfl, Nat.le_of_ble_eq_true rfl⟩ hN hT0 hK hP [] (by simp only [List.filterMap_cons, List.filterMap_nil]) [] rfl hl.1 rfl (Nat.le_of_ble_eq_true rfl) d_Model_ends_53) (fun r53 hr53 => ?_)
      rw [low_n (by omega)] at hr53
      subst hr53
      have hlw53 := low_lt (k := ((τ t2).u (d1 - z24))) (by omega)
      refine lv_icmp_eq (tgt := 61) hx hb d_Model_ends_56 (by decide) (fun c56 => ?_) (fun c56 => ?_)
      · have p56 : (lowN ((τ t1).u (b1 - z24))) = (lowN ((τ t2).u (d1 - z24))) := ((nI_eq (a := (lowN ((τ t1).u (b1 - z24)))) (b := (lowN ((τ t2).u (d1 - z24)))) (by omega) (by omega)).mp c56)
        refine lv_iinc (v := nI (z24 + 1)) (lv' := [(8, .int (nI (z24 + 1))), (7, .int (nI (d1 - c1))), (6, .int (nI (b1 - a1))), (0, .ref t1), (1, .int (nI a1)), (2, .int (nI b1)), (3, .ref t2), (4, .int (nI c1)), (5, .int (nI d1))]) hx hb d_Model_ends_61 hl (k := 0) rfl (nI_1 _) (by decide) rfl (fun ls hl => ?_)
        refine lv_goto (tgt := 24) hx hb d_Model_ends_64 (by decide) ?_
        exact ih24 ((z24 + 1)) ls (by omega) ⟨by omega, by omega, fun j9 h8 h9 => (Nat.lt_succ_iff_lt_or_eq.mp h9).elim (hJ24 j9 h8) (fun e9 => by subst e9; exact p56)⟩ (lv_sub hl [0, 1, 2, 3, 4, 5, 6, 7, 8] rfl)
      · have p56 : ¬ ((lowN ((τ t1).u (b1 - z24))) = (lowN ((τ t2).u (d1 - z24)))) := (fun q9 => c56 ((nI_eq (a := (lowN ((τ t1).u (b1 - z24)))) (b := (lowN ((τ t2).u (d1 - z24)))) (by omega) (by omega)).mpr q9))
        refine lv_iconst (v := 0) hx hb d_Model_ends_59 (by decide) ?_
        exact W.zret (v := 0) hx hb hr rfl (fun t ht hW => ⟨_, rfl, zP_f (fun h9 => p56 (((en_y (u := (τ t1).u) (v := (τ t2).u) h1 h3).mp h9).2.1 z24 (by omega) (by omega))), ht⟩) (fun q h => by cases h) d_Model_ends_60
  · have p16 : ¬ ((b1 - a1) ≤ (d1 - c1)) := (fun q9 => c16 ((nI_leI (a := (b1 - a1)) (b := (d1 - c1)) (by omega) (by omega)).mpr q9))
    refine lv_iconst (v := 0) hx hb d_Model_ends_19 (by decide) ?_
    exact W.zret (v := 0) hx hb hr rfl (fun t ht hW => ⟨_, rfl, zP_f (fun h9 => p16 ((en_y (u := (τ t1).u) (v := (τ t2).u) h1 h3).mp h9).1), ht⟩) (fun q h => by cases h) d_Model_ends_20
def y_Model_mayBe : MethodName := ⟨"TrustChainModel", "mayBe", "(LTrustChainModel$Text;LTrustChainModel$Text;III)Z"⟩
abbrev b_Model_mayBe : ByteArray := prog_14_method_37_code
def w_Model_mayBe : List Cond := Cond.code y_Model_mayBe b_Model_mayBe 10 ((some FieldType.boolean)) :: tb
theorem d_Model_mayBe_0 : decode b_Model_mayBe 0 = .ok (.iconst 0, 1) := by decide +kernel
theorem d_Model_mayBe_1 : decode b_Model_mayBe 1 = .ok (.istore 6, 2) := by decide +kernel
theorem d_Model_mayBe_3 : decode b_Model_mayBe 3 = .ok (.iconst 0, 1) := by decide +kernel
theorem d_Model_mayBe_4 : decode b_Model_mayBe 4 = .ok (.istore 7, 2) := by decide +kernel
theorem d_Model_mayBe_6 : decode b_Model_mayBe 6 = .ok (.iconst 0, 1) := by decide +kernel
theorem d_Model_mayBe_7 : decode b_Model_mayBe 7 = .ok (.istore 8, 2) := by decide +kernel
theorem d_Model_mayBe_9 : decode b_Model_mayBe 9 = .ok (.iload 8, 2) := by decide +kernel
theorem d_Model_mayBe_11 : decode b_Model_mayBe 11 = .ok (.aload_n 1, 1) := by decide +kernel
theorem d_Model_mayBe_12 : decode b_Model_mayBe 12 = .ok (.getfield 409, 3) := by decide +kernel
theorem d_Model_mayBe_15 : decode b_Model_mayBe 15 = .ok (.if_icmp .ge 109, 3) := by decide +kernel
theorem d_Model_mayBe_18 : decode b_Model_mayBe 18 = .ok (.aload_n 1, 1) := by decide +kernel
theorem d_Model_mayBe_19 : decode b_Model_mayBe 19 = .ok (.getfield 412, 3) := by decide +kernel
theorem d_Model_mayBe_22 : decode b_Model_mayBe 22 = .ok (.iload 8, 2) := by decide +kernel
theorem d_Model_mayBe_24 : decode b_Model_mayBe 24 = .ok (.iaload, 1) := by decide +kernel
theorem d_Model_mayBe_25 : decode b_Model_mayBe 25 = .ok (.iconst 1, 1) := by decide +kernel
theorem d_Model_mayBe_26 : decode b_Model_mayBe 26 = .ok (.iand, 1) := by decide +kernel
theorem d_Model_mayBe_27 : decode b_Model_mayBe 27 = .ok (.iload 5, 2) := by decide +kernel
theorem d_Model_mayBe_29 : decode b_Model_mayBe 29 = .ok (.if_icmp .eq 6, 3) := by decide +kernel
theorem d_Model_mayBe_32 : decode b_Model_mayBe 32 = .ok (.goto 86, 3) := by decide +kernel
theorem d_Model_mayBe_35 : decode b_Model_mayBe 35 = .ok (.iload 5, 2) := by decide +kernel
theorem d_Model_mayBe_37 : decode b_Model_mayBe 37 = .ok (.iconst 1, 1) := by decide +kernel
theorem d_Model_mayBe_38 : decode b_Model_mayBe 38 = .ok (.if_icmp .ne 28, 3) := by decide +kernel
theorem d_Model_mayBe_41 : decode b_Model_mayBe 41 = .ok (.aload_n 1, 1) := by decide +kernel
theorem d_Model_mayBe_42 : decode b_Model_mayBe 42 = .ok (.aload_n 1, 1) := by decide +kernel
theorem d_Model_mayBe_43 : decode b_Model_mayBe 43 = .ok (.getfield 415, 3) := by decide +kernel
theorem d_Model_mayBe_46 : decode b_Model_mayBe 46 = .ok (.iload 8, 2) := by decide +kernel
theorem d_Model_mayBe_48 : decode b_Model_mayBe 48 = .ok (.iaload, 1) := by decide +kernel
theorem d_Model_mayBe_49 : decode b_Model_mayBe 49 = .ok (.aload_n 1, 1) := by decide +kernel
theorem d_Model_mayBe_50 : decode b_Model_mayBe 50 = .ok (.getfield 418, 3) := by decide +kernel
theorem d_Model_mayBe_53 : decode b_Model_mayBe 53 = .ok (.iload 8, 2) := by decide +kernel
theorem d_Model_mayBe_55 : decode b_Model_mayBe 55 = .ok (.iaload, 1) := by decide +kernel
theorem d_Model_mayBe_56 : decode b_Model_mayBe 56 = .ok (.aload_n 2, 1) := by decide +kernel
theorem d_Model_mayBe_57 : decode b_Model_mayBe 57 = .ok (.iload_n 3, 1) := by decide +kernel
theorem d_Model_mayBe_58 : decode b_Model_mayBe 58 = .ok (.iload 4, 2) := by decide +kernel
theorem d_Model_mayBe_60 : decode b_Model_mayBe 60 = .ok (.invokestatic 421, 3) := by decide +kernel
theorem d_Model_mayBe_63 : decode b_Model_mayBe 63 = .ok (.goto 25, 3) := by decide +kernel
theorem d_Model_mayBe_66 : decode b_Model_mayBe 66 = .ok (.aload_n 1, 1) := by decide +kernel
theorem d_Model_mayBe_67 : decode b_Model_mayBe 67 = .ok (.aload_n 1, 1) := by decide +kernel
theorem d_Model_mayBe_68 : decode b_Model_mayBe 68 = .ok (.getfield 415, 3) := by decide +kernel
theorem d_Model_mayBe_71 : decode b_Model_mayBe 71 = .ok (.iload 8, 2) := by decide +kernel
theorem d_Model_mayBe_73 : decode b_Model_mayBe 73 = .ok (.iaload, 1) := by decide +kernel
theorem d_Model_mayBe_74 : decode b_Model_mayBe 74 = .ok (.aload_n 1, 1) := by decide +kernel
theorem d_Model_mayBe_75 : decode b_Model_mayBe 75 = .ok (.getfield 418, 3) := by decide +kernel
theorem d_Model_mayBe_78 : decode b_Model_mayBe 78 = .ok (.iload 8, 2) := by decide +kernel
theorem d_Model_mayBe_80 : decode b_Model_mayBe 80 = .ok (.iaload, 1) := by decide +kernel
theorem d_Model_mayBe_81 : decode b_Model_mayBe 81 = .ok (.aload_n 2, 1) := by decide +kernel
theorem d_Model_mayBe_82 : decode b_Model_mayBe 82 = .ok (.iload_n 3, 1) := by decide +kernel
theorem d_Model_mayBe_83 : decode b_Model_mayBe 83 = .ok (.iload 4, 2) := by decide +kernel
theorem d_Model_mayBe_85 : decode b_Model_mayBe 85 = .ok (.invokestatic 425, 3) := by decide +kernel
theorem d_Model_mayBe_88 : decode b_Model_mayBe 88 = .ok (.istore 9, 2) := by decide +kernel
theorem d_Model_mayBe_90 : decode b_Model_mayBe 90 = .ok (.aload_n 1, 1) := by decide +kernel
theorem d_Model_mayBe_91 : decode b_Model_mayBe 91 = .ok (.getfield 412, 3) := by decide +kernel
theorem d_Model_mayBe_94 : decode b_Model_mayBe 94 = .ok (.iload 8, 2) := by decide +kernel
theorem d_Model_mayBe_96 : decode b_Model_mayBe 96 = .ok (.iaload, 1) := by decide +kernel
theorem d_Model_mayBe_97 : decode b_Model_mayBe 97 = .ok (.iconst 1, 1) := by decide +kernel
theorem d_Model_mayBe_98 : decode b_Model_mayBe 98 = .ok (.if_icmp .le 10, 3) := by decide +kernel
theorem d_Model_mayBe_101 : decode b_Model_mayBe 101 = .ok (.iload 9, 2) := by decide +kernel
theorem d_Model_mayBe_103 : decode b_Model_mayBe 103 = .ok (.ifCond .eq 15, 3) := by decide +kernel
theorem d_Model_mayBe_106 : decode b_Model_mayBe 106 = .ok (.iconst 0, 1) := by decide +kernel
theorem d_Model_mayBe_107 : decode b_Model_mayBe 107 = .ok (.ireturn, 1) := by decide +kernel
theorem d_Model_mayBe_108 : decode b_Model_mayBe 108 = .ok (.iconst 1, 1) := by decide +kernel
theorem d_Model_mayBe_109 : decode b_Model_mayBe 109 = .ok (.istore 6, 2) := by decide +kernel
theorem d_Model_mayBe_111 : decode b_Model_mayBe 111 = .ok (.iload 7, 2) := by decide +kernel
theorem d_Model_mayBe_113 : decode b_Model_mayBe 113 = .ok (.iload 9, 2) := by decide +kernel
theorem d_Model_mayBe_115 : decode b_Model_mayBe 115 = .ok (.ior, 1) := by decide +kernel
theorem d_Model_mayBe_116 : decode b_Model_mayBe 116 = .ok (.istore 7, 2) := by decide +kernel
theorem d_Model_mayBe_118 : decode b_Model_mayBe 118 = .ok (.iinc 8 1, 3) := by decide +kernel
theorem d_Model_mayBe_121 : decode b_Model_mayBe 121 = .ok (.goto (-112), 3) := by decide +kernel
theorem d_Model_mayBe_124 : decode b_Model_mayBe 124 = .ok (.iload 7, 2) := by decide +kernel
theorem d_Model_mayBe_126 : decode b_Model_mayBe 126 = .ok (.ifCond .ne 8, 3) := by decide +kernel
theorem d_Model_mayBe_129 : decode b_Model_mayBe 129 = .ok (.iload 6, 2) := by decide +kernel
theorem d_Model_mayBe_131 : decode b_Model_mayBe 131 = .ok (.ifCond .ne 7, 3) := by decide +kernel
theorem d_Model_mayBe_134 : decode b_Model_mayBe 134 = .ok (.iconst 1, 1) := by decide +kernel
theorem d_Model_mayBe_135 : decode b_Model_mayBe 135 = .ok (.goto 4, 3) := by decide +kernel
theorem d_Model_mayBe_138 : decode b_Model_mayBe 138 = .ok (.iconst 0, 1) := by decide +kernel
theorem d_Model_mayBe_139 : decode b_Model_mayBe 139 = .ok (.ireturn, 1) := by decide +kernel
set_option maxHeartbeats 4000000 in
set_option maxRecDepth 100000 in
theorem p_Model_mayBe1 (l : Launch) (dC : Nat → ClassId) (dI : Nat → Nat → Nat) (sb : sB) (γ : cG) (κ : kE) (Ad : List Nat) (τ : Nat → TD) (gT : ClassId) (G : va_W) (t1 t2 : Nat) (mo a1 b1 : Nat) (hTy : TR γ κ Ad τ G) (kt1 : tK κ Ad t1 (20, 0, 0)) (kt2 : tK κ Ad t2 (20, 0, 0)) (hc_t1 : TC (τ t1)) (hc_t2 : TB (τ t2)) (h1 : (hdr (τ t2).u a1) ≤ b1) (h2 : b1 ≤ 2048) : Met l y_Model_mayBe w_Model_mayBe ({ frames := 3, cells := 0, slots := 0, locals := 70 }) (pu_P [.ref mo, .ref t1, .ref t2, .int (nI a1), .int (nI b1), .int 1] (dC, dI) sb G [(γ.1, .byte), (γ.2.1, .int), (γ.2.2.1, .long), (γ.2.2.2, .object "java/lang/Object"), (gT, .object "TrustChainModel$Text")]) (vp_Si (fun r => r = zP (dirQ (cT (τ t1)) (rgM (τ t2).u (hdr (τ t2).u a1) (b1 - (hdr (τ t2).u a1)))))) 0 0 (fun _ => False) := by
  refine Met.ofW (cc := b_Model_mayBe) (maxL := 10) (ret := (some FieldType.boolean)) (by decide) rfl ?_
  intro p e s m args below meth c s₁ B hml hv
  obtain ⟨rfl, hP, hK, hN, hT0⟩ := hv
  have hx := B.exec
  have hb := B.bytes
  have hr := B.returns
  have hts := atoms_spec (ws := w_Model_mayBe) B.pre
  have tbin : ∀ w ∈ tb, w ∈ w_Model_mayBe := fun w h => List.mem_cons_of_mem _ h
  have htb : ∀ w ∈ tb, w.before _ s = true := fun w h => hts w (tbin w h)
  have hown : s.vm.findClass "TrustChainModel" = some m.cls := findClass_of_methodNamed B.named
  have hlocks := B.notSynchronized
  have hl := lv_entry ([.ref mo, .ref t1, .ref t2, .int (nI a1), .int (nI b1), .int 1]) (n := 10) (Nat.le_of_ble_eq_true rfl)
  rw [lg_entry_eq]
  generalize (lg_sl ([.ref mo, .ref t1, .ref t2, .int (nI a1), .int (nI b1), .int 1]) ++ List.replicate (10 - (lg_sl ([.ref mo, .ref t1, .ref t2, .int (nI a1), .int (nI b1), .int 1])).length) Slot.unset).toArray = ls at hl ⊢
  have hl : lv_has ls 10 [(0, .ref mo), (1, .ref t1), (2, .ref t2), (3, .int (nI a1)), (4, .int (nI b1)), (5, .int 1)] := hl
  have b1_t1 := hc_t1.b1
  have b2_t1 := hc_t1.b2
  have b3_t1 := hc_t1.b3
  have b4_t1 := hc_t1.b4
  have b5_t1 := hc_t1.b5
  have b6_t1 := hc_t1.b6
  have b8_t1 := hc_t1.b8
  have b9_t1 := hc_t1.b9
  have b1_t2 := hc_t2.b1
  have b2_t2 := hc_t2.b2
  have b3_t2 := hc_t2.b3
  have hg2 := hdr_ge (τ t2).u a1
  refine lv_iconst (v := 0) hx hb d_Model_mayBe_0 (by decide) ?_
  refine lv_istore (lv' := [(6, .int 0), (0, .ref mo), (1, .ref t1), (2, .ref t2), (3, .int (nI a1)), (4, .int (nI b1)), (5, .int 1)]) hx hb d_Model_mayBe_1 hl (by decide) rfl (fun ls hl => ?_)
  refine lv_iconst (v := 0) hx hb d_Model_mayBe_3 (by decide) ?_
  refine lv_istore (lv' := [(7, .int 0), (6, .int 0), (0, .ref mo), (1, .ref t1), (2, .ref t2), (3, .int (nI a1)), (4, .int (nI b1)), (5, .int 1)]) hx hb d_Model_mayBe_4 hl (by decide) rfl (fun ls hl => ?_)
  refine lv_iconst (v := 0) hx hb d_Model_mayBe_6 (by decide) ?_
  refine lv_istore (lv' := [(8, .int 0), (7, .int 0), (6, .int 0), (0, .ref mo), (1, .ref t1), (2, .ref t2), (3, .int (nI a1)), (4, .int (nI b1)), (5, .int 1)]) hx hb d_Model_mayBe_7 hl (by decide) rfl (fun ls hl => ?_)
  have e6 : (0 : Int32) = zP (∃ i8, i8 < 0 ∧ (τ t1).D 7 i8 &&& 1 = 1 ∧ ¬ 1 < (τ t1).D 7 i8) := zP_f (fun ⟨_, h9, _⟩ => absurd h9 (Nat.not_lt_zero _))
  have e7 : (0 : Int32) = zP (∃ i8, i8 < 0 ∧ (τ t1).D 7 i8 &&& 1 = 1 ∧ ¬ 1 < (τ t1).D 7 i8 ∧ rgM (τ t1).u (hdr (τ t1).u ((τ t1).ta i8)) (((τ t1).tz i8) - (hdr (τ t1).u ((τ t1).ta i8))) <+: rgM (τ t2).u (hdr (τ t2).u a1) (b1 - (hdr (τ t2).u a1))) := zP_f (fun ⟨_, h9, _⟩ => absurd h9 (Nat.not_lt_zero _))
  have hl : lv_has ls 10 [(8, .int (nI 0)), (7, .int (zP (∃ i8, i8 < 0 ∧ (τ t1).D 7 i8 &&& 1 = 1 ∧ ¬ 1 < (τ t1).D 7 i8 ∧ rgM (τ t1).u (hdr (τ t1).u ((τ t1).ta i8)) (((τ t1).tz i8) - (hdr (τ t1).u ((τ t1).ta i8))) <+: rgM (τ t2).u (hdr (τ t2).u a1) (b1 - (hdr (τ t2).u a1))))), (6, .int (zP (∃ i8, i8 < 0 ∧ (τ t1).D 7 i8 &&& 1 = 1 ∧ ¬ 1 < (τ t1).D 7 i8))), (0, .ref mo), (1, .ref t1), (2, .ref t2), (3, .int (nI a1)), (4, .int (nI b1)), (5, .int 1)] := by rw [← e6, ← e7]; exact hl
  refine w_loop (α := Nat) (fun a9 => a9 ≤ (τ t1).nt ∧ ∀ i8, i8 < a9 → (τ t1).D 7 i8 &&& 1 = 1 → 1 < (τ t1).D 7 i8 → ¬ rgM (τ t1).u (hdr (τ t1).u ((τ t1).ta i8)) (((τ t1).tz i8) - (hdr (τ t1).u ((τ t1).ta i8))) <+: rgM (τ t2).u (hdr (τ t2).u a1) (b1 - (hdr (τ t2).u a1))) (fun a9 => (τ t1).nt - a9) (fun a9 => [(8, .int (nI a9)), (7, .int (zP (∃ i8, i8 < a9 ∧ (τ t1).D 7 i8 &&& 1 = 1 ∧ ¬ 1 < (τ t1).D 7 i8 ∧ rgM (τ t1).u (hdr (τ t1).u ((τ t1).ta i8)) (((τ t1).tz i8) - (hdr (τ t1).u ((τ t1).ta i8))) <+: rgM (τ t2).u (hdr (τ t2).u a1) (b1 - (hdr (τ t2).u a1))))), (6, .int (zP (∃ i8, i8 < a9 ∧ (τ t1).D 7 i8 &&& 1 = 1 ∧ ¬ 1 < (τ t1).D 7 i8))), (0, .ref mo), (1, .ref t1), (2, .ref t2), (3, .int (nI a1)), (4, .int (nI b1)), (5, .int 1)]) (fun _ => []) 10 9 (fun z9 ls hJ hl ih => ?_) 0 ls ⟨Nat.zero_le _, fun i8 h9 => absurd h9 (Nat.not_lt_zero i8)⟩ (lv_sub hl [0, 1, 2, 3, 4, 5, 6, 7, 8] rfl)
  have hz9 := hJ.1
  refine lv_iload hx hb d_Model_mayBe_9 (lv_at hl 0 rfl) ?_
  refine lv_aload_n hx hb d_Model_mayBe_11 rfl (lv_at hl 4 rfl) ?_
  obtain ⟨i_1, kA_1, hg_1⟩ := tr_20 hTy kt1
  refine va_get (v := .int ((τ t1).I 35)) hx hb htb i_Text hown hK hP i_1 hg_1 rfl 35 (by decide) (htb _ q7_3) (fun _ h9 => h9) rfl d_Model_mayBe_12 ?_
  rw [hc_t1.e35]
  refine lv_icmp_ge (tgt := 124) hx hb d_Model_mayBe_15 (by decide) (fun c15 => ?_) (fun c15 => ?_)
  · have p15 : ((τ t1).nt) ≤ z9 := ((nI_leI (a := ((τ t1).nt)) (b := z9) (by omega) (by omega)).mp c15)
    refine lv_iload hx hb d_Model_mayBe_124 (lv_at hl 1 rfl) ?_
    refine w_join (J := fun v9 => v9 = zP ((∃ i8, i8 < z9 ∧ (τ t1).D 7 i8 &&& 1 = 1 ∧ ¬ 1 < (τ t1).D 7 i8 ∧ rgM (τ t1).u (hdr (τ t1).u ((τ t1).ta i8)) (((τ t1).tz i8) - (hdr (τ t1).u ((τ t1).ta i8))) <+: rgM (τ t2).u (hdr (τ t2).u a1) (b1 - (hdr (τ t2).u a1))) ∨ (¬ (∃ i8, i8 < z9 ∧ (τ t1).D 7 i8 &&& 1 = 1 ∧ ¬ 1 < (τ t1).D 7 i8)))) (pc := 139) (ls := ls) (rest := []) (fun v9 hv9 => ?_) (fun k139 => ?_)
    · subst hv9
      exact W.zret (v := zP ((∃ i8, i8 < z9 ∧ (τ t1).D 7 i8 &&& 1 = 1 ∧ ¬ 1 < (τ t1).D 7 i8 ∧ rgM (τ t1).u (hdr (τ t1).u ((τ t1).ta i8)) (((τ t1).tz i8) - (hdr (τ t1).u ((τ t1).ta i8))) <+: rgM (τ t2).u (hdr (τ t2).u a1) (b1 - (hdr (τ t2).u a1))) ∨ (¬ (∃ i8, i8 < z9 ∧ (τ t1).D 7 i8 &&& 1 = 1 ∧ ¬ 1 < (τ t1).D 7 i8)))) hx hb hr (zP_n _) (fun t ht hW => ⟨_, rfl, zP_g (by have ez9 : z9 = (τ t1).nt := (by omega); rw [ez9]; exact may_fin (f := (fun i => rgM (τ t1).u (hdr (τ t1).u ((τ t1).ta i)) ((τ t1).tz i - hdr (τ t1).u ((τ t1).ta i)))) (P := (fun t9 => t9 <+: rgM (τ t2).u (hdr (τ t2).u a1) (b1 - (hdr (τ t2).u a1)))) (fun i8 h8 => hJ.2 i8 (by omega))), ht⟩) (fun q h => by cases h) d_Model_mayBe_139
    · skip
      refine lv_if_ne (tgt := 134) hx hb d_Model_mayBe_126 (by decide) (fun c126 => ?_) (fun c126 => ?_)
      · have p126 : ∃ i8, i8 < z9 ∧ (τ t1).D 7 i8 &&& 1 = 1 ∧ ¬ 1 < (τ t1).D 7 i8 ∧ rgM (τ t1).u (hdr (τ t1).u ((τ t1).ta i8)) (((τ t1).tz i8) - (hdr (τ t1).u ((τ t1).ta i8))) <+: rgM (τ t2).u (hdr (τ t2).u a1) (b1 - (hdr (τ t2).u a1)) := (zP_1 c126)
        refine lv_iconst (v := 1) hx hb d_Model_mayBe_134 (by decide) ?_
        refine lv_goto (tgt := 139) hx hb d_Model_mayBe_135 (by decide) ?_
        exact k139 _ (zP_t (Or.inl p126))
      · have p126 : ¬ (∃ i8, i8 < z9 ∧ (τ t1).D 7 i8 &&& 1 = 1 ∧ ¬ 1 < (τ t1).D 7 i8 ∧ rgM (τ t1).u (hdr (τ t1).u ((τ t1).ta i8)) (((τ t1).tz i8) - (hdr (τ t1).u ((τ t1).ta i8))) <+: rgM (τ t2).u (hdr (τ t2).u a1) (b1 - (hdr (τ t2).u a1))) := (zP_0.mp c126)
        refine lv_iload hx hb d_Model_mayBe_129 (lv_at hl 2 rfl) ?_
        refine lv_if_ne (tgt := 138) hx hb d_Model_mayBe_131 (by decide) (fun c131 => ?_) (fun c131 => ?_)
        · have p131 : ∃ i8, i8 < z9 ∧ (τ t1).D 7 i8 &&& 1 = 1 ∧ ¬ 1 < (τ t1).D 7 i8 := (zP_1 c131)
          refine lv_iconst (v := 0) hx hb d_Model_mayBe_138 (by decide) ?_
          exact k139 _ (zP_f (fun z => z.elim p126 (fun z => z p131)))
        · have p131 : ¬ (∃ i8, i8 < z9 ∧ (τ t1).D 7 i8 &&& 1 = 1 ∧ ¬ 1 < (τ t1).D 7 i8) := (zP_0.mp c131)
          refine lv_iconst (v := 1) hx hb d_Model_mayBe_134 (by decide) ?_
          refine lv_goto (tgt := 139) hx hb d_Model_mayBe_135 (by decide) ?_
          exact k139 _ (zP_t (Or.inr p131))
  · have p15 : ¬ (((τ t1).nt) ≤ z9) := (fun q9 => c15 ((nI_leI (a := ((τ t1).nt)) (b := z9) (by omega) (by omega)).mpr q9))
    refine lv_aload_n hx hb d_Model_mayBe_18 rfl (lv_at hl 4 rfl) ?_
    refine va_get (v := .ref ((τ t1).A 7)) hx hb htb i_Text hown hK hP i_1 hg_1 rfl 49 (by decide) (htb _ q7_26) (fun _ h9 => h9) rfl d_Model_mayBe_19 ?_
    refine lv_iload hx hb d_Model_mayBe_22 (lv_at hl 0 rfl) ?_
    obtain ⟨i_2, hg_2⟩ := tr_18 hTy (kA_1 7 (by decide))
    have hg_2 : G[i_2]? = some (((τ t1).A 7), .inl (γ.2.1, 700, .inl ((τ t1).D 7))) := hg_2
    have h24 : vp_in (nI z9) 700 := vp_in_nI (by omega) (by omega)
    refine va_iald hx hb hK hP i_2 1 hg_2 rfl h24 d_Model_mayBe_24 ?_
    refine lv_topi (fun e24 he24 => ?_)
    rw [nI_clamp (by omega)] at he24
    have he24 : e24 = (τ t1).D 7 z9 := he24
    subst he24
    refine lv_iconst (v := 1) hx hb d_Model_mayBe_25 (by decide) ?_
    refine lv_iand hx hb d_Model_mayBe_26 ?_
    refine lv_iload hx hb d_Model_mayBe_27 (lv_at hl 8 rfl) ?_
    refine lv_icmp_eq (tgt := 35) hx hb d_Model_mayBe_29 (by decide) (fun c29 => ?_) (fun c29 => ?_)
    · have p29 : (((τ t1).D 7 z9) &&& 1) = (1 : Int32) := c29
      refine lv_iload hx hb d_Model_mayBe_35 (lv_at hl 8 rfl) ?_
      refine lv_iconst (v := 1) hx hb d_Model_mayBe_37 (by decide) ?_
      refine lv_icmp_ne (tgt := 66) hx hb d_Model_mayBe_38 (by decide) (fun c38 => ?_) (fun c38 => ?_)
      · exact absurd c38 (fun q9 => q9 rfl)
      refine lv_aload_n hx hb d_Model_mayBe_41 rfl (lv_at hl 4 rfl) ?_
      refine lv_aload_n hx hb d_Model_mayBe_42 rfl (lv_at hl 4 rfl) ?_
      refine va_get (v := .ref ((τ t1).A 5)) hx hb htb i_Text hown hK hP i_1 hg_1 rfl 47 (by decide) (htb _ q7_22) (fun _ h9 => h9) rfl d_Model_mayBe_43 ?_
      refine lv_iload hx hb d_Model_mayBe_46 (lv_at hl 0 rfl) ?_
      obtain ⟨i_3, hg_3⟩ := tr_18 hTy (kA_1 5 (by decide))
      have hg_3 : G[i_3]? = some (((τ t1).A 5), .inl (γ.2.1, 700, .inl ((τ t1).D 5))) := hg_3
      have h48 : vp_in (nI z9) 700 := vp_in_nI (by omega) (by omega)
      refine va_iald hx hb hK hP i_3 1 hg_3 rfl h48 d_Model_mayBe_48 ?_
      refine lv_topi (fun e48 he48 => ?_)
      obtain ⟨q1_48, q2_48, q3_48, q4_48, q5_48⟩ := hc_t1.l3 z9 (by omega)
      rw [nI_clamp (by omega), q1_48] at he48
      subst he48
      refine lv_aload_n hx hb d_Model_mayBe_49 rfl (lv_at hl 4 rfl) ?_
      refine va_get (v := .ref ((τ t1).A 6)) hx hb htb i_Text hown hK hP i_1 hg_1 rfl 48 (by decide) (htb _ q7_24) (fun _ h9 => h9) rfl d_Model_mayBe_50 ?_
      refine lv_iload hx hb d_Model_mayBe_53 (lv_at hl 0 rfl) ?_
      obtain ⟨i_4, hg_4⟩ := tr_18 hTy (kA_1 6 (by decide))
      have hg_4 : G[i_4]? = some (((τ t1).A 6), .inl (γ.2.1, 700, .inl ((τ t1).D 6))) := hg_4
      have h55 : vp_in (nI z9) 700 := vp_in_nI (by omega) (by omega)
      refine va_iald hx hb hK hP i_4 1 hg_4 rfl h55 d_Model_mayBe_55 ?_
      refine lv_topi (fun e55 he55 => ?_)
      obtain ⟨q1_55, q2_55, q3_55, q4_55, q5_55⟩ := hc_t1.l3 z9 (by omega)
      rw [nI_clamp (by omega), q2_55] at he55
      subst he55
      refine lv_aload_n hx hb d_Model_mayBe_56 rfl (lv_at hl 5 rfl) ?_
      refine lv_iload_n hx hb d_Model_mayBe_57 rfl (lv_at hl 6 rfl) ?_
      refine lv_iload hx hb d_Model_mayBe_58 (lv_at hl 7 rfl) ?_
      refine vp_callSi (pu_callS (As := [.ref t1, .int (nI ((τ t1).ta z9)), .int (nI ((τ t1).tz z9)), .ref t2, .int (nI a1), .int (nI b1)]) (rest := []) ⟨hx, hb, hml, hown, hts⟩ tbin (p_Model_begins l dC dI sb γ κ Ad τ gT G t1 t2 ((τ t1).ta z9) ((τ t1).tz z9) a1 b1 hTy kt1 kt2 hc_t1.toTB hc_t2 (q5_48 p29) (by omega) h1 (by omega)) q9_158 q9_159 q1_9 q9_160 (n := 6) (by decide +kernel) rfl ⟨rfl, rfl⟩ ⟨Nat.le_of_ble_eq_true rfl, Nat.le_of_ble_eq_true rfl⟩ ⟨Nat.le_of_ble_eq_true rfl, Nat.le_of_ble_eq_true rfl⟩ hN hT0 hK hP (List.range G.length) (rg_all G) [0, 1, 2, 3, 4] rfl hl.1 rfl (Nat.le_of_ble_eq_true rfl) d_Model_mayBe_60) (fun r60 hr60 => ?_)
      obtain rfl : r60 = zP (rgM (τ t1).u (hdr (τ t1).u ((τ t1).ta z9)) (((τ t1).tz z9) - (hdr (τ t1).u ((τ t1).ta z9))) <+: rgM (τ t2).u (hdr (τ t2).u a1) (b1 - (hdr (τ t2).u a1))) := hr60
      refine lv_goto (tgt := 88) hx hb d_Model_mayBe_63 (by decide) ?_
      refine lv_istore (lv' := [(9, .int (zP (rgM (τ t1).u (hdr (τ t1).u ((τ t1).ta z9)) (((τ t1).tz z9) - (hdr (τ t1).u ((τ t1).ta z9))) <+: rgM (τ t2).u (hdr (τ t2).u a1) (b1 - (hdr (τ t2).u a1))))), (8, .int (nI z9)), (7, .int (zP (∃ i8, i8 < z9 ∧ (τ t1).D 7 i8 &&& 1 = 1 ∧ ¬ 1 < (τ t1).D 7 i8 ∧ rgM (τ t1).u (hdr (τ t1).u ((τ t1).ta i8)) (((τ t1).tz i8) - (hdr (τ t1).u ((τ t1).ta i8))) <+: rgM (τ t2).u (hdr (τ t2).u a1) (b1 - (hdr (τ t2).u a1))))), (6, .int (zP (∃ i8, i8 < z9 ∧ (τ t1).D 7 i8 &&& 1 = 1 ∧ ¬ 1 < (τ t1).D 7 i8))), (0, .ref mo), (1, .ref t1), (2, .ref t2), (3, .int (nI a1)), (4, .int (nI b1)), (5, .int 1)]) hx hb d_Model_mayBe_88 hl (by decide) rfl (fun ls hl => ?_)
      refine lv_aload_n hx hb d_Model_mayBe_90 rfl (lv_at hl 5 rfl) ?_
      refine va_get (v := .ref ((τ t1).A 7)) hx hb htb i_Text hown hK hP i_1 hg_1 rfl 49 (by decide) (htb _ q7_26) (fun _ h9 => h9) rfl d_Model_mayBe_91 ?_
      refine lv_iload hx hb d_Model_mayBe_94 (lv_at hl 1 rfl) ?_
      have h96 : vp_in (nI z9) 700 := vp_in_nI (by omega) (by omega)
      refine va_iald hx hb hK hP i_2 1 hg_2 rfl h96 d_Model_mayBe_96 ?_
      refine lv_topi (fun e96 he96 => ?_)
      rw [nI_clamp (by omega)] at he96
      have he96 : e96 = (τ t1).D 7 z9 := he96
      subst he96
      refine lv_iconst (v := 1) hx hb d_Model_mayBe_97 (by decide) ?_
      refine lv_icmp_le (tgt := 108) hx hb d_Model_mayBe_98 (by decide) (fun c98 => ?_) (fun c98 => ?_)
      · have p98 : ((τ t1).D 7 z9) ≤ (1 : Int32) := c98
        refine lv_iconst (v := 1) hx hb d_Model_mayBe_108 (by decide) ?_
        refine lv_istore (lv' := [(6, .int 1), (9, .int (zP (rgM (τ t1).u (hdr (τ t1).u ((τ t1).ta z9)) (((τ t1).tz z9) - (hdr (τ t1).u ((τ t1).ta z9))) <+: rgM (τ t2).u (hdr (τ t2).u a1) (b1 - (hdr (τ t2).u a1))))), (8, .int (nI z9)), (7, .int (zP (∃ i8, i8 < z9 ∧ (τ t1).D 7 i8 &&& 1 = 1 ∧ ¬ 1 < (τ t1).D 7 i8 ∧ rgM (τ t1).u (hdr (τ t1).u ((τ t1).ta i8)) (((τ t1).tz i8) - (hdr (τ t1).u ((τ t1).ta i8))) <+: rgM (τ t2).u (hdr (τ t2).u a1) (b1 - (hdr (τ t2).u a1))))), (0, .ref mo), (1, .ref t1), (2, .ref t2), (3, .int (nI a1)), (4, .int (nI b1)), (5, .int 1)]) hx hb d_Model_mayBe_109 hl (by decide) rfl (fun ls hl => ?_)
        refine lv_iload hx hb d_Model_mayBe_111 (lv_at hl 3 rfl) ?_
        refine lv_iload hx hb d_Model_mayBe_113 (lv_at hl 1 rfl) ?_
        refine lv_ior hx hb d_Model_mayBe_115 ?_
        refine lv_topi (fun v116 ev116 => ?_)
        refine lv_istore (lv' := [(7, .int v116), (6, .int 1), (9, .int (zP (rgM (τ t1).u (hdr (τ t1).u ((τ t1).ta z9)) (((τ t1).tz z9) - (hdr (τ t1).u ((τ t1).ta z9))) <+: rgM (τ t2).u (hdr (τ t2).u a1) (b1 - (hdr (τ t2).u a1))))), (8, .int (nI z9)), (0, .ref mo), (1, .ref t1), (2, .ref t2), (3, .int (nI a1)), (4, .int (nI b1)), (5, .int 1)]) hx hb d_Model_mayBe_116 hl (by decide) rfl (fun ls hl => ?_)
        refine lv_iinc (v := nI (z9 + 1)) (lv' := [(8, .int (nI (z9 + 1))), (7, .int v116), (6, .int 1), (9, .int (zP (rgM (τ t1).u (hdr (τ t1).u ((τ t1).ta z9)) (((τ t1).tz z9) - (hdr (τ t1).u ((τ t1).ta z9))) <+: rgM (τ t2).u (hdr (τ t2).u a1) (b1 - (hdr (τ t2).u a1))))), (0, .ref mo), (1, .ref t1), (2, .ref t2), (3, .int (nI a1)), (4, .int (nI b1)), (5, .int 1)]) hx hb d_Model_mayBe_118 hl (k := 3) rfl (nI_1 _) (by decide) rfl (fun ls hl => ?_)
        refine lv_goto (tgt := 9) hx hb d_Model_mayBe_121 (by decide) ?_
        have e6 : (1 : Int32) = zP (∃ i8, i8 < (z9 + 1) ∧ (τ t1).D 7 i8 &&& 1 = 1 ∧ ¬ 1 < (τ t1).D 7 i8) := zP_t ⟨z9, Nat.lt_succ_self _, p29, q_ng p98⟩
        have e7 : (v116 : Int32) = zP (∃ i8, i8 < (z9 + 1) ∧ (τ t1).D 7 i8 &&& 1 = 1 ∧ ¬ 1 < (τ t1).D 7 i8 ∧ rgM (τ t1).u (hdr (τ t1).u ((τ t1).ta i8)) (((τ t1).tz i8) - (hdr (τ t1).u ((τ t1).ta i8))) <+: rgM (τ t2).u (hdr (τ t2).u a1) (b1 - (hdr (τ t2).u a1))) := by rw [ev116, zP_or]; exact zP_g ⟨fun q => ex_s.mpr (q.imp_right (fun f => ⟨p29, q_ng p98, f⟩)), fun q => (ex_s.mp q).imp_right (fun f => f.2.2)⟩
        have hl : lv_has ls 10 [(8, .int (nI (z9 + 1))), (7, .int (zP (∃ i8, i8 < (z9 + 1) ∧ (τ t1).D 7 i8 &&& 1 = 1 ∧ ¬ 1 < (τ t1).D 7 i8 ∧ rgM (τ t1).u (hdr (τ t1).u ((τ t1).ta i8)) (((τ t1).tz i8) - (hdr (τ t1).u ((τ t1).ta i8))) <+: rgM (τ t2).u (hdr (τ t2).u a1) (b1 - (hdr (τ t2).u a1))))), (6, .int (zP (∃ i8, i8 < (z9 + 1) ∧ (τ t1).D 7 i8 &&& 1 = 1 ∧ ¬ 1 < (τ t1).D 7 i8))), (9, .int (zP (rgM (τ t1).u (hdr (τ t1).u ((τ t1).ta z9)) (((τ t1).tz z9) - (hdr (τ t1).u ((τ t1).ta z9))) <+: rgM (τ t2).u (hdr (τ t2).u a1) (b1 - (hdr (τ t2).u a1))))), (0, .ref mo), (1, .ref t1), (2, .ref t2), (3, .int (nI a1)), (4, .int (nI b1)), (5, .int 1)] := by rw [← e6, ← e7]; exact hl
        exact ih (z9 + 1) ls (by omega) ⟨by omega, fun i8 h9 => (Nat.lt_succ_iff_lt_or_eq.mp h9).elim (hJ.2 i8) (fun e8 => by subst e8; exact fun _ q => absurd q (q_ng p98))⟩ (lv_sub hl [0, 1, 2, 4, 5, 6, 7, 8, 9] rfl)
      · have p98 : ¬ (((τ t1).D 7 z9) ≤ (1 : Int32)) := c98
        refine lv_iload hx hb d_Model_mayBe_101 (lv_at hl 0 rfl) ?_
        refine lv_if_eq (tgt := 118) hx hb d_Model_mayBe_103 (by decide) (fun c103 => ?_) (fun c103 => ?_)
        · have p103 : ¬ (rgM (τ t1).u (hdr (τ t1).u ((τ t1).ta z9)) (((τ t1).tz z9) - (hdr (τ t1).u ((τ t1).ta z9))) <+: rgM (τ t2).u (hdr (τ t2).u a1) (b1 - (hdr (τ t2).u a1))) := (zP_0.mp c103)
          refine lv_iinc (v := nI (z9 + 1)) (lv' := [(8, .int (nI (z9 + 1))), (9, .int (zP (rgM (τ t1).u (hdr (τ t1).u ((τ t1).ta z9)) (((τ t1).tz z9) - (hdr (τ t1).u ((τ t1).ta z9))) <+: rgM (τ t2).u (hdr (τ t2).u a1) (b1 - (hdr (τ t2).u a1))))), (7, .int (zP (∃ i8, i8 < z9 ∧ (τ t1).D 7 i8 &&& 1 = 1 ∧ ¬ 1 < (τ t1).D 7 i8 ∧ rgM (τ t1).u (hdr (τ t1).u ((τ t1).ta i8)) (((τ t1).tz i8) - (hdr (τ t1).u ((τ t1).ta i8))) <+: rgM (τ t2).u (hdr (τ t2).u a1) (b1 - (hdr (τ t2).u a1))))), (6, .int (zP (∃ i8, i8 < z9 ∧ (τ t1).D 7 i8 &&& 1 = 1 ∧ ¬ 1 < (τ t1).D 7 i8))), (0, .ref mo), (1, .ref t1), (2, .ref t2), (3, .int (nI a1)), (4, .int (nI b1)), (5, .int 1)]) hx hb d_Model_mayBe_118 hl (k := 1) rfl (nI_1 _) (by decide) rfl (fun ls hl => ?_)
          refine lv_goto (tgt := 9) hx hb d_Model_mayBe_121 (by decide) ?_
          have e6 : (zP (∃ i8, i8 < z9 ∧ (τ t1).D 7 i8 &&& 1 = 1 ∧ ¬ 1 < (τ t1).D 7 i8) : Int32) = zP (∃ i8, i8 < (z9 + 1) ∧ (τ t1).D 7 i8 &&& 1 = 1 ∧ ¬ 1 < (τ t1).D 7 i8) := zP_g (ex_s0 (fun q => q.2 (q_gt p98)))
          have e7 : (zP (∃ i8, i8 < z9 ∧ (τ t1).D 7 i8 &&& 1 = 1 ∧ ¬ 1 < (τ t1).D 7 i8 ∧ rgM (τ t1).u (hdr (τ t1).u ((τ t1).ta i8)) (((τ t1).tz i8) - (hdr (τ t1).u ((τ t1).ta i8))) <+: rgM (τ t2).u (hdr (τ t2).u a1) (b1 - (hdr (τ t2).u a1))) : Int32) = zP (∃ i8, i8 < (z9 + 1) ∧ (τ t1).D 7 i8 &&& 1 = 1 ∧ ¬ 1 < (τ t1).D 7 i8 ∧ rgM (τ t1).u (hdr (τ t1).u ((τ t1).ta i8)) (((τ t1).tz i8) - (hdr (τ t1).u ((τ t1).ta i8))) <+: rgM (τ t2).u (hdr (τ t2).u a1) (b1 - (hdr (τ t2).u a1))) := zP_g (ex_s0 (fun q => q.2.1 (q_gt p98)))
          have hl : lv_has ls 10 [(8, .int (nI (z9 + 1))), (9, .int (zP (rgM (τ t1).u (hdr (τ t1).u ((τ t1).ta z9)) (((τ t1).tz z9) - (hdr (τ t1).u ((τ t1).ta z9))) <+: rgM (τ t2).u (hdr (τ t2).u a1) (b1 - (hdr (τ t2).u a1))))), (7, .int (zP (∃ i8, i8 < (z9 + 1) ∧ (τ t1).D 7 i8 &&& 1 = 1 ∧ ¬ 1 < (τ t1).D 7 i8 ∧ rgM (τ t1).u (hdr (τ t1).u ((τ t1).ta i8)) (((τ t1).tz i8) - (hdr (τ t1).u ((τ t1).ta i8))) <+: rgM (τ t2).u (hdr (τ t2).u a1) (b1 - (hdr (τ t2).u a1))))), (6, .int (zP (∃ i8, i8 < (z9 + 1) ∧ (τ t1).D 7 i8 &&& 1 = 1 ∧ ¬ 1 < (τ t1).D 7 i8))), (0, .ref mo), (1, .ref t1), (2, .ref t2), (3, .int (nI a1)), (4, .int (nI b1)), (5, .int 1)] := by rw [← e6, ← e7]; exact hl
          exact ih (z9 + 1) ls (by omega) ⟨by omega, fun i8 h9 => (Nat.lt_succ_iff_lt_or_eq.mp h9).elim (hJ.2 i8) (fun e8 => by subst e8; exact fun _ _ => p103)⟩ (lv_sub hl [0, 2, 3, 4, 5, 6, 7, 8, 9] rfl)
        · have p103 : rgM (τ t1).u (hdr (τ t1).u ((τ t1).ta z9)) (((τ t1).tz z9) - (hdr (τ t1).u ((τ t1).ta z9))) <+: rgM (τ t2).u (hdr (τ t2).u a1) (b1 - (hdr (τ t2).u a1)) := (zP_1 c103)
          refine lv_iconst (v := 0) hx hb d_Model_mayBe_106 (by decide) ?_
          exact W.zret (v := 0) hx hb hr rfl (fun t ht hW => ⟨_, rfl, zP_f (show ¬ dirQ (cT (τ t1)) _ from may_no (f := (fun i => rgM (τ t1).u (hdr (τ t1).u ((τ t1).ta i)) ((τ t1).tz i - hdr (τ t1).u ((τ t1).ta i)))) (P := (fun t9 => t9 <+: rgM (τ t2).u (hdr (τ t2).u a1) (b1 - (hdr (τ t2).u a1)))) (show z9 < (τ t1).nt by omega) p29 (q_gt p98) p103), ht⟩) (fun q h => by cases h) d_Model_mayBe_107
    · have p29 : ¬ ((((τ t1).D 7 z9) &&& 1) = (1 : Int32)) := c29
      refine lv_goto (tgt := 118) hx hb d_Model_mayBe_32 (by decide) ?_
      refine lv_iinc (v := nI (z9 + 1)) (lv' := [(8, .int (nI (z9 + 1))), (7, .int (zP (∃ i8, i8 < z9 ∧ (τ t1).D 7 i8 &&& 1 = 1 ∧ ¬ 1 < (τ t1).D 7 i8 ∧ rgM (τ t1).u (hdr (τ t1).u ((τ t1).ta i8)) (((τ t1).tz i8) - (hdr (τ t1).u ((τ t1).ta i8))) <+: rgM (τ t2).u (hdr (τ t2).u a1) (b1 - (hdr (τ t2).u a1))))), (6, .int (zP (∃ i8, i8 < z9 ∧ (τ t1).D 7 i8 &&& 1 = 1 ∧ ¬ 1 < (τ t1).D 7 i8))), (0, .ref mo), (1, .ref t1), (2, .ref t2), (3, .int (nI a1)), (4, .int (nI b1)), (5, .int 1)]) hx hb d_Model_mayBe_118 hl (k := 0) rfl (nI_1 _) (by decide) rfl (fun ls hl => ?_)
      refine lv_goto (tgt := 9) hx hb d_Model_mayBe_121 (by decide) ?_
      have e6 : (zP (∃ i8, i8 < z9 ∧ (τ t1).D 7 i8 &&& 1 = 1 ∧ ¬ 1 < (τ t1).D 7 i8) : Int32) = zP (∃ i8, i8 < (z9 + 1) ∧ (τ t1).D 7 i8 &&& 1 = 1 ∧ ¬ 1 < (τ t1).D 7 i8) := zP_g (ex_s0 (fun q => p29 q.1))
      have e7 : (zP (∃ i8, i8 < z9 ∧ (τ t1).D 7 i8 &&& 1 = 1 ∧ ¬ 1 < (τ t1).D 7 i8 ∧ rgM (τ t1).u (hdr (τ t1).u ((τ t1).ta i8)) (((τ t1).tz i8) - (hdr (τ t1).u ((τ t1).ta i8))) <+: rgM (τ t2).u (hdr (τ t2).u a1) (b1 - (hdr (τ t2).u a1))) : Int32) = zP (∃ i8, i8 < (z9 + 1) ∧ (τ t1).D 7 i8 &&& 1 = 1 ∧ ¬ 1 < (τ t1).D 7 i8 ∧ rgM (τ t1).u (hdr (τ t1).u ((τ t1).ta i8)) (((τ t1).tz i8) - (hdr (τ t1).u ((τ t1).ta i8))) <+: rgM (τ t2).u (hdr (τ t2).u a1) (b1 - (hdr (τ t2).u a1))) := zP_g (ex_s0 (fun q => p29 q.1))
      have hl : lv_has ls 10 [(8, .int (nI (z9 + 1))), (7, .int (zP (∃ i8, i8 < (z9 + 1) ∧ (τ t1).D 7 i8 &&& 1 = 1 ∧ ¬ 1 < (τ t1).D 7 i8 ∧ rgM (τ t1).u (hdr (τ t1).u ((τ t1).ta i8)) (((τ t1).tz i8) - (hdr (τ t1).u ((τ t1).ta i8))) <+: rgM (τ t2).u (hdr (τ t2).u a1) (b1 - (hdr (τ t2).u a1))))), (6, .int (zP (∃ i8, i8 < (z9 + 1) ∧ (τ t1).D 7 i8 &&& 1 = 1 ∧ ¬ 1 < (τ t1).D 7 i8))), (0, .ref mo), (1, .ref t1), (2, .ref t2), (3, .int (nI a1)), (4, .int (nI b1)), (5, .int 1)] := by rw [← e6, ← e7]; exact hl
      exact ih (z9 + 1) ls (by omega) ⟨by omega, fun i8 h9 => (Nat.lt_succ_iff_lt_or_eq.mp h9).elim (hJ.2 i8) (fun e8 => by subst e8; exact fun q => absurd q p29)⟩ (lv_sub hl [0, 1, 2, 3, 4, 5, 6, 7, 8] rfl)
set_option maxHeartbeats 4000000 in
set_option maxRecDepth 100000 in
theorem p_Model_mayBe0 (l : Launch) (dC : Nat → ClassId) (dI : Nat → Nat → Nat) (sb : sB) (γ : cG) (κ : kE) (Ad : List Nat) (τ : Nat → TD) (gT : ClassId) (G : va_W) (t1 t2 : Nat) (mo a1 b1 : Nat) (hTy : TR γ κ Ad τ G) (kt1 : tK κ Ad t1 (20, 0, 0)) (kt2 : tK κ Ad t2 (20, 0, 0)) (hc_t1 : TC (τ t1)) (hc_t2 : TB (τ t2)) (h1 : a1 ≤ b1) (h2 : b1 ≤ 2048) : Met l y_Model_mayBe w_Model_mayBe ({ frames := 3, cells := 0, slots := 0, locals := 70 }) (pu_P [.ref mo, .ref t1, .ref t2, .int (nI a1), .int (nI b1), .int 0] (dC, dI) sb G [(γ.1, .byte), (γ.2.1, .int), (γ.2.2.1, .long), (γ.2.2.2, .object "java/lang/Object"), (gT, .object "TrustChainModel$Text")]) (vp_Si (fun r => r = zP (dnsQ (cT (τ t1)) (rgM (τ t2).u a1 (b1 - a1))))) 0 0 (fun _ => False) := by
  refine Met.ofW (cc := b_Model_mayBe) (maxL := 10) (ret := (some FieldType.boolean)) (by decide) rfl ?_
  intro p e s m args below meth c s₁ B hml hv
  obtain ⟨rfl, hP, hK, hN, hT0⟩ := hv
  have hx := B.exec
  have hb := B.bytes
  have hr := B.returns
  have hts := atoms_spec (ws := w_Model_mayBe) B.pre
  have tbin : ∀ w ∈ tb, w ∈ w_Model_mayBe := fun w h => List.mem_cons_of_mem _ h
  have htb : ∀ w ∈ tb, w.before _ s = true := fun w h => hts w (tbin w h)
  have hown : s.vm.findClass "TrustChainModel" = some m.cls := findClass_of_methodNamed B.named
  have hlocks := B.notSynchronized
  have hl := lv_entry ([.ref mo, .ref t1, .ref t2, .int (nI a1), .int (nI b1), .int 0]) (n := 10) (Nat.le_of_ble_eq_true rfl)
  rw [lg_entry_eq]
  generalize (lg_sl ([.ref mo, .ref t1, .ref t2, .int (nI a1), .int (nI b1), .int 0]) ++ List.replicate (10 - (lg_sl ([.ref mo, .ref t1, .ref t2, .int (nI a1), .int (nI b1), .int 0])).length) Slot.unset).toArray = ls at hl ⊢
  have hl : lv_has ls 10 [(0, .ref mo), (1, .ref t1), (2, .ref t2), (3, .int (nI a1)), (4, .int (nI b1)), (5, .int 0)] := hl
  have b1_t1 := hc_t1.b1
  have b2_t1 := hc_t1.b2
  have b3_t1 := hc_t1.b3
  have b4_t1 := hc_t1.b4
  have b5_t1 := hc_t1.b5
  have b6_t1 := hc_t1.b6
  have b8_t1 := hc_t1.b8
  have b9_t1 := hc_t1.b9
  have b1_t2 := hc_t2.b1
  have b2_t2 := hc_t2.b2
  have b3_t2 := hc_t2.b3
  have hg2 := hdr_ge (τ t2).u a1
  refine lv_iconst (v := 0) hx hb d_Model_mayBe_0 (by decide) ?_
  refine lv_istore (lv' := [(6, .int 0), (0, .ref mo), (1, .ref t1), (2, .ref t2), (3, .int (nI a1)), (4, .int (nI b1)), (5, .int 0)]) hx hb d_Model_mayBe_1 hl (by decide) rfl (fun ls hl => ?_)
  refine lv_iconst (v := 0) hx hb d_Model_mayBe_3 (by decide) ?_
  refine lv_istore (lv' := [(7, .int 0), (6, .int 0), (0, .ref mo), (1, .ref t1), (2, .ref t2), (3, .int (nI a1)), (4, .int (nI b1)), (5, .int 0)]) hx hb d_Model_mayBe_4 hl (by decide) rfl (fun ls hl => ?_)
  refine lv_iconst (v := 0) hx hb d_Model_mayBe_6 (by decide) ?_
  refine lv_istore (lv' := [(8, .int 0), (7, .int 0), (6, .int 0), (0, .ref mo), (1, .ref t1), (2, .ref t2), (3, .int (nI a1)), (4, .int (nI b1)), (5, .int 0)]) hx hb d_Model_mayBe_7 hl (by decide) rfl (fun ls hl => ?_)
  have e6 : (0 : Int32) = zP (∃ i8, i8 < 0 ∧ (τ t1).D 7 i8 &&& 1 = 0 ∧ ¬ 1 < (τ t1).D 7 i8) := zP_f (fun ⟨_, h9, _⟩ => absurd h9 (Nat.not_lt_zero _))
  have e7 : (0 : Int32) = zP (∃ i8, i8 < 0 ∧ (τ t1).D 7 i8 &&& 1 = 0 ∧ ¬ 1 < (τ t1).D 7 i8 ∧ dtQ (rgM (τ t1).u ((τ t1).ta i8) (((τ t1).tz i8) - ((τ t1).ta i8))) (rgM (τ t2).u a1 (b1 - a1))) := zP_f (fun ⟨_, h9, _⟩ => absurd h9 (Nat.not_lt_zero _))
  have hl : lv_has ls 10 [(8, .int (nI 0)), (7, .int (zP (∃ i8, i8 < 0 ∧ (τ t1).D 7 i8 &&& 1 = 0 ∧ ¬ 1 < (τ t1).D 7 i8 ∧ dtQ (rgM (τ t1).u ((τ t1).ta i8) (((τ t1).tz i8) - ((τ t1).ta i8))) (rgM (τ t2).u a1 (b1 - a1))))), (6, .int (zP (∃ i8, i8 < 0 ∧ (τ t1).D 7 i8 &&& 1 = 0 ∧ ¬ 1 < (τ t1).D 7 i8))), (0, .ref mo), (1, .ref t1), (2, .ref t2), (3, .int (nI a1)), (4, .int (nI b1)), (5, .int 0)] := by rw [← e6, ← e7]; exact hl
  refine w_loop (α := Nat) (fun a9 => a9 ≤ (τ t1).nt ∧ ∀ i8, i8 < a9 → (τ t1).D 7 i8 &&& 1 = 0 → 1 < (τ t1).D 7 i8 → ¬ dtQ (rgM (τ t1).u ((τ t1).ta i8) (((τ t1).tz i8) - ((τ t1).ta i8))) (rgM (τ t2).u a1 (b1 - a1))) (fun a9 => (τ t1).nt - a9) (fun a9 => [(8, .int (nI a9)), (7, .int (zP (∃ i8, i8 < a9 ∧ (τ t1).D 7 i8 &&& 1 = 0 ∧ ¬ 1 < (τ t1).D 7 i8 ∧ dtQ (rgM (τ t1).u ((τ t1).ta i8) (((τ t1).tz i8) - ((τ t1).ta i8))) (rgM (τ t2).u a1 (b1 - a1))))), (6, .int (zP (∃ i8, i8 < a9 ∧ (τ t1).D 7 i8 &&& 1 = 0 ∧ ¬ 1 < (τ t1).D 7 i8))), (0, .ref mo), (1, .ref t1), (2, .ref t2), (3, .int (nI a1)), (4, .int (nI b1)), (5, .int 0)]) (fun _ => []) 10 9 (fun z9 ls hJ hl ih => ?_) 0 ls ⟨Nat.zero_le _, fun i8 h9 => absurd h9 (Nat.not_lt_zero i8)⟩ (lv_sub hl [0, 1, 2, 3, 4, 5, 6, 7, 8] rfl)
  have hz9 := hJ.1
  refine lv_iload hx hb d_Model_mayBe_9 (lv_at hl 0 rfl) ?_
  refine lv_aload_n hx hb d_Model_mayBe_11 rfl (lv_at hl 4 rfl) ?_
  obtain ⟨i_1, kA_1, hg_1⟩ := tr_20 hTy kt1
  refine va_get (v := .int ((τ t1).I 35)) hx hb htb i_Text hown hK hP i_1 hg_1 rfl 35 (by decide) (htb _ q7_3) (fun _ h9 => h9) rfl d_Model_mayBe_12 ?_
  rw [hc_t1.e35]
  refine lv_icmp_ge (tgt := 124) hx hb d_Model_mayBe_15 (by decide) (fun c15 => ?_) (fun c15 => ?_)
  · have p15 : ((τ t1).nt) ≤ z9 := ((nI_leI (a := ((τ t1).nt)) (b := z9) (by omega) (by omega)).mp c15)
    refine lv_iload hx hb d_Model_mayBe_124 (lv_at hl 1 rfl) ?_
    refine w_join (J := fun v9 => v9 = zP ((∃ i8, i8 < z9 ∧ (τ t1).D 7 i8 &&& 1 = 0 ∧ ¬ 1 < (τ t1).D 7 i8 ∧ dtQ (rgM (τ t1).u ((τ t1).ta i8) (((τ t1).tz i8) - ((τ t1).ta i8))) (rgM (τ t2).u a1 (b1 - a1))) ∨ (¬ (∃ i8, i8 < z9 ∧ (τ t1).D 7 i8 &&& 1 = 0 ∧ ¬ 1 < (τ t1).D 7 i8)))) (pc := 139) (ls := ls) (rest := []) (fun v9 hv9 => ?_) (fun k139 => ?_)
    · subst hv9
      exact W.zret (v := zP ((∃ i8, i8 < z9 ∧ (τ t1).D 7 i8 &&& 1 = 0 ∧ ¬ 1 < (τ t1).D 7 i8 ∧ dtQ (rgM (τ t1).u ((τ t1).ta i8) (((τ t1).tz i8) - ((τ t1).ta i8))) (rgM (τ t2).u a1 (b1 - a1))) ∨ (¬ (∃ i8, i8 < z9 ∧ (τ t1).D 7 i8 &&& 1 = 0 ∧ ¬ 1 < (τ t1).D 7 i8)))) hx hb hr (zP_n _) (fun t ht hW => ⟨_, rfl, zP_g (by have ez9 : z9 = (τ t1).nt := (by omega); rw [ez9]; exact may_fin (f := (fun i => rgM (τ t1).u ((τ t1).ta i) ((τ t1).tz i - (τ t1).ta i))) (P := (fun t9 => dtQ t9 (rgM (τ t2).u a1 (b1 - a1)))) (fun i8 h8 => hJ.2 i8 (by omega))), ht⟩) (fun q h => by cases h) d_Model_mayBe_139
    · skip
      refine lv_if_ne (tgt := 134) hx hb d_Model_mayBe_126 (by decide) (fun c126 => ?_) (fun c126 => ?_)
      · have p126 : ∃ i8, i8 < z9 ∧ (τ t1).D 7 i8 &&& 1 = 0 ∧ ¬ 1 < (τ t1).D 7 i8 ∧ dtQ (rgM (τ t1).u ((τ t1).ta i8) (((τ t1).tz i8) - ((τ t1).ta i8))) (rgM (τ t2).u a1 (b1 - a1)) := (zP_1 c126)
        refine lv_iconst (v := 1) hx hb d_Model_mayBe_134 (by decide) ?_
        refine lv_goto (tgt := 139) hx hb d_Model_mayBe_135 (by decide) ?_
        exact k139 _ (zP_t (Or.inl p126))
      · have p126 : ¬ (∃ i8, i8 < z9 ∧ (τ t1).D 7 i8 &&& 1 = 0 ∧ ¬ 1 < (τ t1).D 7 i8 ∧ dtQ (rgM (τ t1).u ((τ t1).ta i8) (((τ t1).tz i8) - ((τ t1).ta i8))) (rgM (τ t2).u a1 (b1 - a1))) := (zP_0.mp c126)
        refine lv_iload hx hb d_Model_mayBe_129 (lv_at hl 2 rfl) ?_
        refine lv_if_ne (tgt := 138) hx hb d_Model_mayBe_131 (by decide) (fun c131 => ?_) (fun c131 => ?_)
        · have p131 : ∃ i8, i8 < z9 ∧ (τ t1).D 7 i8 &&& 1 = 0 ∧ ¬ 1 < (τ t1).D 7 i8 := (zP_1 c131)
          refine lv_iconst (v := 0) hx hb d_Model_mayBe_138 (by decide) ?_
          exact k139 _ (zP_f (fun z => z.elim p126 (fun z => z p131)))
        · have p131 : ¬ (∃ i8, i8 < z9 ∧ (τ t1).D 7 i8 &&& 1 = 0 ∧ ¬ 1 < (τ t1).D 7 i8) := (zP_0.mp c131)
          refine lv_iconst (v := 1) hx hb d_Model_mayBe_134 (by decide) ?_
          refine lv_goto (tgt := 139) hx hb d_Model_mayBe_135 (by decide) ?_
          exact k139 _ (zP_t (Or.inr p131))
  · have p15 : ¬ (((τ t1).nt) ≤ z9) := (fun q9 => c15 ((nI_leI (a := ((τ t1).nt)) (b := z9) (by omega) (by omega)).mpr q9))
    refine lv_aload_n hx hb d_Model_mayBe_18 rfl (lv_at hl 4 rfl) ?_
    refine va_get (v := .ref ((τ t1).A 7)) hx hb htb i_Text hown hK hP i_1 hg_1 rfl 49 (by decide) (htb _ q7_26) (fun _ h9 => h9) rfl d_Model_mayBe_19 ?_
    refine lv_iload hx hb d_Model_mayBe_22 (lv_at hl 0 rfl) ?_
    obtain ⟨i_2, hg_2⟩ := tr_18 hTy (kA_1 7 (by decide))
    have hg_2 : G[i_2]? = some (((τ t1).A 7), .inl (γ.2.1, 700, .inl ((τ t1).D 7))) := hg_2
    have h24 : vp_in (nI z9) 700 := vp_in_nI (by omega) (by omega)
    refine va_iald hx hb hK hP i_2 1 hg_2 rfl h24 d_Model_mayBe_24 ?_
    refine lv_topi (fun e24 he24 => ?_)
    rw [nI_clamp (by omega)] at he24
    have he24 : e24 = (τ t1).D 7 z9 := he24
    subst he24
    refine lv_iconst (v := 1) hx hb d_Model_mayBe_25 (by decide) ?_
    refine lv_iand hx hb d_Model_mayBe_26 ?_
    refine lv_iload hx hb d_Model_mayBe_27 (lv_at hl 8 rfl) ?_
    refine lv_icmp_eq (tgt := 35) hx hb d_Model_mayBe_29 (by decide) (fun c29 => ?_) (fun c29 => ?_)
    · have p29 : (((τ t1).D 7 z9) &&& 1) = (0 : Int32) := c29
      refine lv_iload hx hb d_Model_mayBe_35 (lv_at hl 8 rfl) ?_
      refine lv_iconst (v := 1) hx hb d_Model_mayBe_37 (by decide) ?_
      refine lv_icmp_ne (tgt := 66) hx hb d_Model_mayBe_38 (by decide) (fun c38 => ?_) (fun c38 => ?_)
      rotate_left
      · exact absurd c38 (by decide)
      refine lv_aload_n hx hb d_Model_mayBe_66 rfl (lv_at hl 4 rfl) ?_
      refine lv_aload_n hx hb d_Model_mayBe_67 rfl (lv_at hl 4 rfl) ?_
      refine va_get (v := .ref ((τ t1).A 5)) hx hb htb i_Text hown hK hP i_1 hg_1 rfl 47 (by decide) (htb _ q7_22) (fun _ h9 => h9) rfl d_Model_mayBe_68 ?_
      refine lv_iload hx hb d_Model_mayBe_71 (lv_at hl 0 rfl) ?_
      obtain ⟨i_3, hg_3⟩ := tr_18 hTy (kA_1 5 (by decide))
      have hg_3 : G[i_3]? = some (((τ t1).A 5), .inl (γ.2.1, 700, .inl ((τ t1).D 5))) := hg_3
      have h73 : vp_in (nI z9) 700 := vp_in_nI (by omega) (by omega)
      refine va_iald hx hb hK hP i_3 1 hg_3 rfl h73 d_Model_mayBe_73 ?_
      refine lv_topi (fun e73 he73 => ?_)
      obtain ⟨q1_73, q2_73, q3_73, q4_73, q5_73⟩ := hc_t1.l3 z9 (by omega)
      rw [nI_clamp (by omega), q1_73] at he73
      subst he73
      refine lv_aload_n hx hb d_Model_mayBe_74 rfl (lv_at hl 4 rfl) ?_
      refine va_get (v := .ref ((τ t1).A 6)) hx hb htb i_Text hown hK hP i_1 hg_1 rfl 48 (by decide) (htb _ q7_24) (fun _ h9 => h9) rfl d_Model_mayBe_75 ?_
      refine lv_iload hx hb d_Model_mayBe_78 (lv_at hl 0 rfl) ?_
      obtain ⟨i_4, hg_4⟩ := tr_18 hTy (kA_1 6 (by decide))
      have hg_4 : G[i_4]? = some (((τ t1).A 6), .inl (γ.2.1, 700, .inl ((τ t1).D 6))) := hg_4
      have h80 : vp_in (nI z9) 700 := vp_in_nI (by omega) (by omega)
      refine va_iald hx hb hK hP i_4 1 hg_4 rfl h80 d_Model_mayBe_80 ?_
      refine lv_topi (fun e80 he80 => ?_)
      obtain ⟨q1_80, q2_80, q3_80, q4_80, q5_80⟩ := hc_t1.l3 z9 (by omega)
      rw [nI_clamp (by omega), q2_80] at he80
      subst he80
      refine lv_aload_n hx hb d_Model_mayBe_81 rfl (lv_at hl 5 rfl) ?_
      refine lv_iload_n hx hb d_Model_mayBe_82 rfl (lv_at hl 6 rfl) ?_
      refine lv_iload hx hb d_Model_mayBe_83 (lv_at hl 7 rfl) ?_
      refine vp_callSi (pu_callS (As := [.ref t1, .int (nI ((τ t1).ta z9)), .int (nI ((τ t1).tz z9)), .ref t2, .int (nI a1), .int (nI b1)]) (rest := []) ⟨hx, hb, hml, hown, hts⟩ tbin (p_Model_ends l dC dI sb γ κ Ad τ gT G t1 t2 ((τ t1).ta z9) ((τ t1).tz z9) a1 b1 hTy kt1 kt2 hc_t1.toTB hc_t2 (by omega) (by omega) (by omega) (by omega)) q9_164 q9_165 q1_9 q9_166 (n := 6) (by decide +kernel) rfl ⟨rfl, rfl⟩ ⟨Nat.le_of_ble_eq_true rfl, Nat.le_of_ble_eq_true rfl⟩ ⟨Nat.le_of_ble_eq_true rfl, Nat.le_of_ble_eq_true rfl⟩ hN hT0 hK hP (List.range G.length) (rg_all G) [0, 1, 2, 3, 4] rfl hl.1 rfl (Nat.le_of_ble_eq_true rfl) d_Model_mayBe_85) (fun r85 hr85 => ?_)
      obtain rfl : r85 = zP (dtQ (rgM (τ t1).u ((τ t1).ta z9) (((τ t1).tz z9) - ((τ t1).ta z9))) (rgM (τ t2).u a1 (b1 - a1))) := hr85
      refine lv_istore (lv' := [(9, .int (zP (dtQ (rgM (τ t1).u ((τ t1).ta z9) (((τ t1).tz z9) - ((τ t1).ta z9))) (rgM (τ t2).u a1 (b1 - a1))))), (8, .int (nI z9)), (7, .int (zP (∃ i8, i8 < z9 ∧ (τ t1).D 7 i8 &&& 1 = 0 ∧ ¬ 1 < (τ t1).D 7 i8 ∧ dtQ (rgM (τ t1).u ((τ t1).ta i8) (((τ t1).tz i8) - ((τ t1).ta i8))) (rgM (τ t2).u a1 (b1 - a1))))), (6, .int (zP (∃ i8, i8 < z9 ∧ (τ t1).D 7 i8 &&& 1 = 0 ∧ ¬ 1 < (τ t1).D 7 i8))), (0, .ref mo), (1, .ref t1), (2, .ref t2), (3, .int (nI a1)), (4, .int (nI b1)), (5, .int 0)]) hx hb d_Model_mayBe_88 hl (by decide) rfl (fun ls hl => ?_)
      refine lv_aload_n hx hb d_Model_mayBe_90 rfl (lv_at hl 5 rfl) ?_
      refine va_get (v := .ref ((τ t1).A 7)) hx hb htb i_Text hown hK hP i_1 hg_1 rfl 49 (by decide) (htb _ q7_26) (fun _ h9 => h9) rfl d_Model_mayBe_91 ?_
      refine lv_iload hx hb d_Model_mayBe_94 (lv_at hl 1 rfl) ?_
      have h96 : vp_in (nI z9) 700 := vp_in_nI (by omega) (by omega)
      refine va_iald hx hb hK hP i_2 1 hg_2 rfl h96 d_Model_mayBe_96 ?_
      refine lv_topi (fun e96 he96 => ?_)
      rw [nI_clamp (by omega)] at he96
      have he96 : e96 = (τ t1).D 7 z9 := he96
      subst he96
      refine lv_iconst (v := 1) hx hb d_Model_mayBe_97 (by decide) ?_
      refine lv_icmp_le (tgt := 108) hx hb d_Model_mayBe_98 (by decide) (fun c98 => ?_) (fun c98 => ?_)
      · have p98 : ((τ t1).D 7 z9) ≤ (1 : Int32) := c98
        refine lv_iconst (v := 1) hx hb d_Model_mayBe_108 (by decide) ?_
        refine lv_istore (lv' := [(6, .int 1), (9, .int (zP (dtQ (rgM (τ t1).u ((τ t1).ta z9) (((τ t1).tz z9) - ((τ t1).ta z9))) (rgM (τ t2).u a1 (b1 - a1))))), (8, .int (nI z9)), (7, .int (zP (∃ i8, i8 < z9 ∧ (τ t1).D 7 i8 &&& 1 = 0 ∧ ¬ 1 < (τ t1).D 7 i8 ∧ dtQ (rgM (τ t1).u ((τ t1).ta i8) (((τ t1).tz i8) - ((τ t1).ta i8))) (rgM (τ t2).u a1 (b1 - a1))))), (0, .ref mo), (1, .ref t1), (2, .ref t2), (3, .int (nI a1)), (4, .int (nI b1)), (5, .int 0)]) hx hb d_Model_mayBe_109 hl (by decide) rfl (fun ls hl => ?_)
        refine lv_iload hx hb d_Model_mayBe_111 (lv_at hl 3 rfl) ?_
        refine lv_iload hx hb d_Model_mayBe_113 (lv_at hl 1 rfl) ?_
        refine lv_ior hx hb d_Model_mayBe_115 ?_
        refine lv_topi (fun v116 ev116 => ?_)
        refine lv_istore (lv' := [(7, .int v116), (6, .int 1), (9, .int (zP (dtQ (rgM (τ t1).u ((τ t1).ta z9) (((τ t1).tz z9) - ((τ t1).ta z9))) (rgM (τ t2).u a1 (b1 - a1))))), (8, .int (nI z9)), (0, .ref mo), (1, .ref t1), (2, .ref t2), (3, .int (nI a1)), (4, .int (nI b1)), (5, .int 0)]) hx hb d_Model_mayBe_116 hl (by decide) rfl (fun ls hl => ?_)
        refine lv_iinc (v := nI (z9 + 1)) (lv' := [(8, .int (nI (z9 + 1))), (7, .int v116), (6, .int 1), (9, .int (zP (dtQ (rgM (τ t1).u ((τ t1).ta z9) (((τ t1).tz z9) - ((τ t1).ta z9))) (rgM (τ t2).u a1 (b1 - a1))))), (0, .ref mo), (1, .ref t1), (2, .ref t2), (3, .int (nI a1)), (4, .int (nI b1)), (5, .int 0)]) hx hb d_Model_mayBe_118 hl (k := 3) rfl (nI_1 _) (by decide) rfl (fun ls hl => ?_)
        refine lv_goto (tgt := 9) hx hb d_Model_mayBe_121 (by decide) ?_
        have e6 : (1 : Int32) = zP (∃ i8, i8 < (z9 + 1) ∧ (τ t1).D 7 i8 &&& 1 = 0 ∧ ¬ 1 < (τ t1).D 7 i8) := zP_t ⟨z9, Nat.lt_succ_self _, p29, q_ng p98⟩
        have e7 : (v116 : Int32) = zP (∃ i8, i8 < (z9 + 1) ∧ (τ t1).D 7 i8 &&& 1 = 0 ∧ ¬ 1 < (τ t1).D 7 i8 ∧ dtQ (rgM (τ t1).u ((τ t1).ta i8) (((τ t1).tz i8) - ((τ t1).ta i8))) (rgM (τ t2).u a1 (b1 - a1))) := by rw [ev116, zP_or]; exact zP_g ⟨fun q => ex_s.mpr (q.imp_right (fun f => ⟨p29, q_ng p98, f⟩)), fun q => (ex_s.mp q).imp_right (fun f => f.2.2)⟩
        have hl : lv_has ls 10 [(8, .int (nI (z9 + 1))), (7, .int (zP (∃ i8, i8 < (z9 + 1) ∧ (τ t1).D 7 i8 &&& 1 = 0 ∧ ¬ 1 < (τ t1).D 7 i8 ∧ dtQ (rgM (τ t1).u ((τ t1).ta i8) (((τ t1).tz i8) - ((τ t1).ta i8))) (rgM (τ t2).u a1 (b1 - a1))))), (6, .int (zP (∃ i8, i8 < (z9 + 1) ∧ (τ t1).D 7 i8 &&& 1 = 0 ∧ ¬ 1 < (τ t1).D 7 i8))), (9, .int (zP (dtQ (rgM (τ t1).u ((τ t1).ta z9) (((τ t1).tz z9) - ((τ t1).ta z9))) (rgM (τ t2).u a1 (b1 - a1))))), (0, .ref mo), (1, .ref t1), (2, .ref t2), (3, .int (nI a1)), (4, .int (nI b1)), (5, .int 0)] := by rw [← e6, ← e7]; exact hl
        exact ih (z9 + 1) ls (by omega) ⟨by omega, fun i8 h9 => (Nat.lt_succ_iff_lt_or_eq.mp h9).elim (hJ.2 i8) (fun e8 => by subst e8; exact fun _ q => absurd q (q_ng p98))⟩ (lv_sub hl [0, 1, 2, 4, 5, 6, 7, 8, 9] rfl)
      · have p98 : ¬ (((τ t1).D 7 z9) ≤ (1 : Int32)) := c98
        refine lv_iload hx hb d_Model_mayBe_101 (lv_at hl 0 rfl) ?_
        refine lv_if_eq (tgt := 118) hx hb d_Model_mayBe_103 (by decide) (fun c103 => ?_) (fun c103 => ?_)
        · have p103 : ¬ (dtQ (rgM (τ t1).u ((τ t1).ta z9) (((τ t1).tz z9) - ((τ t1).ta z9))) (rgM (τ t2).u a1 (b1 - a1))) := (zP_0.mp c103)
          refine lv_iinc (v := nI (z9 + 1)) (lv' := [(8, .int (nI (z9 + 1))), (9, .int (zP (dtQ (rgM (τ t1).u ((τ t1).ta z9) (((τ t1).tz z9) - ((τ t1).ta z9))) (rgM (τ t2).u a1 (b1 - a1))))), (7, .int (zP (∃ i8, i8 < z9 ∧ (τ t1).D 7 i8 &&& 1 = 0 ∧ ¬ 1 < (τ t1).D 7 i8 ∧ dtQ (rgM (τ t1).u ((τ t1).ta i8) (((τ t1).tz i8) - ((τ t1).ta i8))) (rgM (τ t2).u a1 (b1 - a1))))), (6, .int (zP (∃ i8, i8 < z9 ∧ (τ t1).D 7 i8 &&& 1 = 0 ∧ ¬ 1 < (τ t1).D 7 i8))), (0, .ref mo), (1, .ref t1), (2, .ref t2), (3, .int (nI a1)), (4, .int (nI b1)), (5, .int 0)]) hx hb d_Model_mayBe_118 hl (k := 1) rfl (nI_1 _) (by decide) rfl (fun ls hl => ?_)
          refine lv_goto (tgt := 9) hx hb d_Model_mayBe_121 (by decide) ?_
          have e6 : (zP (∃ i8, i8 < z9 ∧ (τ t1).D 7 i8 &&& 1 = 0 ∧ ¬ 1 < (τ t1).D 7 i8) : Int32) = zP (∃ i8, i8 < (z9 + 1) ∧ (τ t1).D 7 i8 &&& 1 = 0 ∧ ¬ 1 < (τ t1).D 7 i8) := zP_g (ex_s0 (fun q => q.2 (q_gt p98)))
          have e7 : (zP (∃ i8, i8 < z9 ∧ (τ t1).D 7 i8 &&& 1 = 0 ∧ ¬ 1 < (τ t1).D 7 i8 ∧ dtQ (rgM (τ t1).u ((τ t1).ta i8) (((τ t1).tz i8) - ((τ t1).ta i8))) (rgM (τ t2).u a1 (b1 - a1))) : Int32) = zP (∃ i8, i8 < (z9 + 1) ∧ (τ t1).D 7 i8 &&& 1 = 0 ∧ ¬ 1 < (τ t1).D 7 i8 ∧ dtQ (rgM (τ t1).u ((τ t1).ta i8) (((τ t1).tz i8) - ((τ t1).ta i8))) (rgM (τ t2).u a1 (b1 - a1))) := zP_g (ex_s0 (fun q => q.2.1 (q_gt p98)))
          have hl : lv_has ls 10 [(8, .int (nI (z9 + 1))), (9, .int (zP (dtQ (rgM (τ t1).u ((τ t1).ta z9) (((τ t1).tz z9) - ((τ t1).ta z9))) (rgM (τ t2).u a1 (b1 - a1))))), (7, .int (zP (∃ i8, i8 < (z9 + 1) ∧ (τ t1).D 7 i8 &&& 1 = 0 ∧ ¬ 1 < (τ t1).D 7 i8 ∧ dtQ (rgM (τ t1).u ((τ t1).ta i8) (((τ t1).tz i8) - ((τ t1).ta i8))) (rgM (τ t2).u a1 (b1 - a1))))), (6, .int (zP (∃ i8, i8 < (z9 + 1) ∧ (τ t1).D 7 i8 &&& 1 = 0 ∧ ¬ 1 < (τ t1).D 7 i8))), (0, .ref mo), (1, .ref t1), (2, .ref t2), (3, .int (nI a1)), (4, .int (nI b1)), (5, .int 0)] := by rw [← e6, ← e7]; exact hl
          exact ih (z9 + 1) ls (by omega) ⟨by omega, fun i8 h9 => (Nat.lt_succ_iff_lt_or_eq.mp h9).elim (hJ.2 i8) (fun e8 => by subst e8; exact fun _ _ => p103)⟩ (lv_sub hl [0, 2, 3, 4, 5, 6, 7, 8, 9] rfl)
        · have p103 : dtQ (rgM (τ t1).u ((τ t1).ta z9) (((τ t1).tz z9) - ((τ t1).ta z9))) (rgM (τ t2).u a1 (b1 - a1)) := (zP_1 c103)
          refine lv_iconst (v := 0) hx hb d_Model_mayBe_106 (by decide) ?_
          exact W.zret (v := 0) hx hb hr rfl (fun t ht hW => ⟨_, rfl, zP_f (show ¬ dnsQ (cT (τ t1)) _ from may_no (f := (fun i => rgM (τ t1).u ((τ t1).ta i) ((τ t1).tz i - (τ t1).ta i))) (P := (fun t9 => dtQ t9 (rgM (τ t2).u a1 (b1 - a1)))) (show z9 < (τ t1).nt by omega) p29 (q_gt p98) p103), ht⟩) (fun q h => by cases h) d_Model_mayBe_107
    · have p29 : ¬ ((((τ t1).D 7 z9) &&& 1) = (0 : Int32)) := c29
      refine lv_goto (tgt := 118) hx hb d_Model_mayBe_32 (by decide) ?_
      refine lv_iinc (v := nI (z9 + 1)) (lv' := [(8, .int (nI (z9 + 1))), (7, .int (zP (∃ i8, i8 < z9 ∧ (τ t1).D 7 i8 &&& 1 = 0 ∧ ¬ 1 < (τ t1).D 7 i8 ∧ dtQ (rgM (τ t1).u ((τ t1).ta i8) (((τ t1).tz i8) - ((τ t1).ta i8))) (rgM (τ t2).u a1 (b1 - a1))))), (6, .int (zP (∃ i8, i8 < z9 ∧ (τ t1).D 7 i8 &&& 1 = 0 ∧ ¬ 1 < (τ t1).D 7 i8))), (0, .ref mo), (1, .ref t1), (2, .ref t2), (3, .int (nI a1)), (4, .int (nI b1)), (5, .int 0)]) hx hb d_Model_mayBe_118 hl (k := 0) rfl (nI_1 _) (by decide) rfl (fun ls hl => ?_)
      refine lv_goto (tgt := 9) hx hb d_Model_mayBe_121 (by decide) ?_
      have e6 : (zP (∃ i8, i8 < z9 ∧ (τ t1).D 7 i8 &&& 1 = 0 ∧ ¬ 1 < (τ t1).D 7 i8) : Int32) = zP (∃ i8, i8 < (z9 + 1) ∧ (τ t1).D 7 i8 &&& 1 = 0 ∧ ¬ 1 < (τ t1).D 7 i8) := zP_g (ex_s0 (fun q => p29 q.1))
      have e7 : (zP (∃ i8, i8 < z9 ∧ (τ t1).D 7 i8 &&& 1 = 0 ∧ ¬ 1 < (τ t1).D 7 i8 ∧ dtQ (rgM (τ t1).u ((τ t1).ta i8) (((τ t1).tz i8) - ((τ t1).ta i8))) (rgM (τ t2).u a1 (b1 - a1))) : Int32) = zP (∃ i8, i8 < (z9 + 1) ∧ (τ t1).D 7 i8 &&& 1 = 0 ∧ ¬ 1 < (τ t1).D 7 i8 ∧ dtQ (rgM (τ t1).u ((τ t1).ta i8) (((τ t1).tz i8) - ((τ t1).ta i8))) (rgM (τ t2).u a1 (b1 - a1))) := zP_g (ex_s0 (fun q => p29 q.1))
      have hl : lv_has ls 10 [(8, .int (nI (z9 + 1))), (7, .int (zP (∃ i8, i8 < (z9 + 1) ∧ (τ t1).D 7 i8 &&& 1 = 0 ∧ ¬ 1 < (τ t1).D 7 i8 ∧ dtQ (rgM (τ t1).u ((τ t1).ta i8) (((τ t1).tz i8) - ((τ t1).ta i8))) (rgM (τ t2).u a1 (b1 - a1))))), (6, .int (zP (∃ i8, i8 < (z9 + 1) ∧ (τ t1).D 7 i8 &&& 1 = 0 ∧ ¬ 1 < (τ t1).D 7 i8))), (0, .ref mo), (1, .ref t1), (2, .ref t2), (3, .int (nI a1)), (4, .int (nI b1)), (5, .int 0)] := by rw [← e6, ← e7]; exact hl
      exact ih (z9 + 1) ls (by omega) ⟨by omega, fun i8 h9 => (Nat.lt_succ_iff_lt_or_eq.mp h9).elim (hJ.2 i8) (fun e8 => by subst e8; exact fun q => absurd q p29)⟩ (lv_sub hl [0, 1, 2, 3, 4, 5, 6, 7, 8] rfl)
def y_Model_alike : MethodName := ⟨"TrustChainModel", "alike", "(LTrustChainModel$Text;IIII)Z"⟩
abbrev b_Model_alike : ByteArray := prog_14_method_45_code
def w_Model_alike : List Cond := Cond.code y_Model_alike b_Model_alike 7 ((some FieldType.boolean)) :: tb
theorem d_Model_alike_0 : decode b_Model_alike 0 = .ok (.iload_n 3, 1) := by decide +kernel
theorem d_Model_alike_1 : decode b_Model_alike 1 = .ok (.iload 5, 2) := by decide +kernel
theorem d_Model_alike_3 : decode b_Model_alike 3 = .ok (.if_icmp .eq 5, 3) := by decide +kernel
theorem d_Model_alike_6 : decode b_Model_alike 6 = .ok (.iconst 0, 1) := by decide +kernel
theorem d_Model_alike_7 : decode b_Model_alike 7 = .ok (.ireturn, 1) := by decide +kernel
theorem d_Model_alike_8 : decode b_Model_alike 8 = .ok (.iconst 0, 1) := by decide +kernel
theorem d_Model_alike_9 : decode b_Model_alike 9 = .ok (.istore 6, 2) := by decide +kernel
theorem d_Model_alike_11 : decode b_Model_alike 11 = .ok (.iload 6, 2) := by decide +kernel
theorem d_Model_alike_13 : decode b_Model_alike 13 = .ok (.iload 5, 2) := by decide +kernel
theorem d_Model_alike_15 : decode b_Model_alike 15 = .ok (.if_icmp .ge 39, 3) := by decide +kernel
theorem d_Model_alike_18 : decode b_Model_alike 18 = .ok (.aload_n 1, 1) := by decide +kernel
theorem d_Model_alike_19 : decode b_Model_alike 19 = .ok (.getfield 189, 3) := by decide +kernel
theorem d_Model_alike_22 : decode b_Model_alike 22 = .ok (.iload_n 2, 1) := by decide +kernel
theorem d_Model_alike_23 : decode b_Model_alike 23 = .ok (.iload 6, 2) := by decide +kernel
theorem d_Model_alike_25 : decode b_Model_alike 25 = .ok (.iadd, 1) := by decide +kernel
theorem d_Model_alike_26 : decode b_Model_alike 26 = .ok (.iaload, 1) := by decide +kernel
theorem d_Model_alike_27 : decode b_Model_alike 27 = .ok (.invokestatic 432, 3) := by decide +kernel
theorem d_Model_alike_30 : decode b_Model_alike 30 = .ok (.aload_n 0, 1) := by decide +kernel
theorem d_Model_alike_31 : decode b_Model_alike 31 = .ok (.getfield 121, 3) := by decide +kernel
theorem d_Model_alike_34 : decode b_Model_alike 34 = .ok (.iload 4, 2) := by decide +kernel
theorem d_Model_alike_36 : decode b_Model_alike 36 = .ok (.iload 6, 2) := by decide +kernel
theorem d_Model_alike_38 : decode b_Model_alike 38 = .ok (.iadd, 1) := by decide +kernel
theorem d_Model_alike_39 : decode b_Model_alike 39 = .ok (.iaload, 1) := by decide +kernel
theorem d_Model_alike_40 : decode b_Model_alike 40 = .ok (.invokestatic 432, 3) := by decide +kernel
theorem d_Model_alike_43 : decode b_Model_alike 43 = .ok (.if_icmp .eq 5, 3) := by decide +kernel
theorem d_Model_alike_46 : decode b_Model_alike 46 = .ok (.iconst 0, 1) := by decide +kernel
theorem d_Model_alike_47 : decode b_Model_alike 47 = .ok (.ireturn, 1) := by decide +kernel
theorem d_Model_alike_48 : decode b_Model_alike 48 = .ok (.iinc 6 1, 3) := by decide +kernel
theorem d_Model_alike_51 : decode b_Model_alike 51 = .ok (.goto (-40), 3) := by decide +kernel
theorem d_Model_alike_54 : decode b_Model_alike 54 = .ok (.iconst 1, 1) := by decide +kernel
theorem d_Model_alike_55 : decode b_Model_alike 55 = .ok (.ireturn, 1) := by decide +kernel
set_option maxHeartbeats 4000000 in
set_option maxRecDepth 100000 in
theorem p_Model_alike (l : Launch) (dC : Nat → ClassId) (dI : Nat → Nat → Nat) (sb : sB) (γ : cG) (κ : kE) (Ad : List Nat) (τ : Nat → TD) (gT : ClassId) (G : va_W) (mo t : Nat) (moc msT mrV msP mrA mbA mwA mhA mfA mpA mxA myA mmA mqA mzA mwy mfd : Nat) (mer mfed mwr mct mls mqs msz mcz mch mft mpt mdp mvd mmk : Int32) (mnw : Int64) (a1 k1 b1 k2 : Nat) (hTy : TR γ κ Ad τ G) (kmo : Xc Ad mo (.inr (12, (.int mer :: .int mfed :: .int mwr :: .int mct :: .int mls :: .ref moc :: .ref msT :: .ref mrV :: .ref msP :: .int mqs :: .ref mrA :: .ref mbA :: .ref mwA :: .ref mhA :: .ref mfA :: .ref mpA :: .ref mxA :: .ref myA :: .ref mmA :: .ref mqA :: .ref mzA :: .ref mwy :: .ref mfd :: .int msz :: .int mcz :: .int mch :: .int mft :: .int mpt :: .int mdp :: .int mvd :: .long mnw :: .int mmk :: []))) G) (kt : tK κ Ad t (20, 0, 0)) (kmxA : tK κ Ad mxA (6, 600, 3)) (h1 : a1 + k1 ≤ 2048) (h2 : b1 + k2 ≤ 600) : Met l y_Model_alike w_Model_alike ({ frames := 2, cells := 0, slots := 0, locals := 42 }) (pu_P [.ref mo, .ref t, .int (nI a1), .int (nI k1), .int (nI b1), .int (nI k2)] (dC, dI) sb G [(γ.1, .byte), (γ.2.1, .int), (γ.2.2.1, .long), (γ.2.2.2, .object "java/lang/Object"), (gT, .object "TrustChainModel$Text")]) (vp_Si (fun r => bz r (r = 1))) 0 0 (fun _ => False) := by
  refine Met.ofW (cc := b_Model_alike) (maxL := 7) (ret := (some FieldType.boolean)) (by decide) rfl ?_
  intro p e s m args below meth c s₁ B hml hv
  obtain ⟨rfl, hP, hK, hN, hT0⟩ := hv
  have hx := B.exec
  have hb := B.bytes
  have hr := B.returns
  have hts := atoms_spec (ws := w_Model_alike) B.pre
  have tbin : ∀ w ∈ tb, w ∈ w_Model_alike := fun w h => List.mem_cons_of_mem _ h
  have htb : ∀ w ∈ tb, w.before _ s = true := fun w h => hts w (tbin w h)
  have hown : s.vm.findClass "TrustChainModel" = some m.cls := findClass_of_methodNamed B.named
  have hlocks := B.notSynchronized
  have hl := lv_entry ([.ref mo, .ref t, .int (nI a1), .int (nI k1), .int (nI b1), .int (nI k2)]) (n := 7) (Nat.le_of_ble_eq_true rfl)
  rw [lg_entry_eq]
  generalize (lg_sl ([.ref mo, .ref t, .int (nI a1), .int (nI k1), .int (nI b1), .int (nI k2)]) ++ List.replicate (7 - (lg_sl ([.ref mo, .ref t, .int (nI a1), .int (nI k1), .int (nI b1), .int (nI k2)])).length) Slot.unset).toArray = ls at hl ⊢
  have hl : lv_has ls 7 [(0, .ref mo), (1, .ref t), (2, .int (nI a1)), (3, .int (nI k1)), (4, .int (nI b1)), (5, .int (nI k2))] := hl
  refine lv_iload_n hx hb d_Model_alike_0 rfl (lv_at hl 3 rfl) ?_
  refine lv_iload hx hb d_Model_alike_1 (lv_at hl 5 rfl) ?_
  refine lv_icmp_eq (tgt := 8) hx hb d_Model_alike_3 (by decide) (fun c3 => ?_) (fun c3 => ?_)
  · have p3 : k1 = k2 := ((nI_eq (a := k1) (b := k2) (by omega) (by omega)).mp c3)
    refine lv_iconst (v := 0) hx hb d_Model_alike_8 (by decide) ?_
    refine lv_istore (lv' := [(6, .int 0), (0, .ref mo), (1, .ref t), (2, .int (nI a1)), (3, .int (nI k1)), (4, .int (nI b1)), (5, .int (nI k2))]) hx hb d_Model_alike_9 hl (by decide) rfl (fun ls hl => ?_)
    refine w_loop (α := Nat) (fun a9 => 0 ≤ a9 ∧ a9 ≤ k2) (fun a9 => k2 - a9) (fun a9 => [(6, .int (nI a9)), (0, .ref mo), (1, .ref t), (2, .int (nI a1)), (3, .int (nI k1)), (4, .int (nI b1)), (5, .int (nI k2))]) (fun _ => []) 7 11 (fun z11 ls hJ hl ih11 => ?_) (0) ls ⟨by omega, by omega⟩ (lv_sub hl [0, 1, 2, 3, 4, 5, 6] rfl)
    skip
    obtain ⟨hy11, hz11⟩ := hJ
    refine lv_iload hx hb d_Model_alike_11 (lv_at hl 0 rfl) ?_
    refine lv_iload hx hb d_Model_alike_13 (lv_at hl 6 rfl) ?_
    refine lv_icmp_ge (tgt := 54) hx hb d_Model_alike_15 (by decide) (fun c15 => ?_) (fun c15 => ?_)
    · have p15 : k2 ≤ z11 := ((nI_leI (a := k2) (b := z11) (by omega) (by omega)).mp c15)
      refine lv_iconst (v := 1) hx hb d_Model_alike_54 (by decide) ?_
      exact W.zret (v := 1) hx hb hr rfl (fun t ht hW => ⟨_, rfl, bz_t rfl, ht⟩) (fun q h => by cases h) d_Model_alike_55
    · have p15 : ¬ (k2 ≤ z11) := (fun q9 => c15 ((nI_leI (a := k2) (b := z11) (by omega) (by omega)).mpr q9))
      refine lv_aload_n hx hb d_Model_alike_18 rfl (lv_at hl 2 rfl) ?_
      obtain ⟨i_1, kA_1, hg_1⟩ := tr_20 hTy kt
      refine va_get (v := .ref ((τ t).A 0)) hx hb htb i_Text hown hK hP i_1 hg_1 rfl 0 (by decide) (htb _ q6_179) (fun _ h9 => h9) rfl d_Model_alike_19 ?_
      refine lv_iload_n hx hb d_Model_alike_22 rfl (lv_at hl 3 rfl) ?_
      refine lv_iload hx hb d_Model_alike_23 (lv_at hl 0 rfl) ?_
      refine lv_iadd hx hb d_Model_alike_25 ?_
      rw [show ((nI a1) + (nI z11) : Int32) = nI (a1 + z11) from nI_add a1 z11]
      obtain ⟨i_2, hg_2⟩ := tr_18 hTy (kA_1 0 (by decide))
      have hg_2 : G[i_2]? = some (((τ t).A 0), .inl (γ.2.1, 2048, .inl ((τ t).D 0))) := hg_2
      have h26 : vp_in (nI (a1 + z11)) 2048 := vp_in_nI (by omega) (by omega)
      refine va_iald hx hb hK hP i_2 1 hg_2 rfl h26 d_Model_alike_26 ?_
      refine lv_topi (fun e26 he26 => ?_)
      refine vp_callSi (pu_callS (As := [.int e26]) (rest := []) ⟨hx, hb, hml, hown, hts⟩ tbin (c_Model_small l dC dI sb e26) q9_167 q9_168 q1_9 q9_169 (n := 1) (by decide +kernel) rfl ⟨rfl, rfl⟩ ⟨Nat.le_of_ble_eq_true rfl, Nat.le_of_ble_eq_true rfl⟩ ⟨Nat.le_of_ble_eq_true rfl, Nat.le_of_ble_eq_true rfl⟩ hN hT0 hK hP [] (by simp only [List.filterMap_cons, List.filterMap_nil]) [] rfl hl.1 rfl (Nat.le_of_ble_eq_true rfl) d_Model_alike_27) (fun r27 hr27 => ?_)
      refine lv_aload_n hx hb d_Model_alike_30 rfl (lv_at hl 1 rfl) ?_
      obtain ⟨i_3, hg_3⟩ := List.getElem?_of_mem kmo.2
      refine va_get (v := .ref mxA) hx hb htb i_Model hown hK hP i_3 hg_3 rfl 16 (by decide) (htb _ q7_230) (fun _ h9 => h9) rfl d_Model_alike_31 ?_
      refine lv_iload hx hb d_Model_alike_34 (lv_at hl 5 rfl) ?_
      refine lv_iload hx hb d_Model_alike_36 (lv_at hl 0 rfl) ?_
      refine lv_iadd hx hb d_Model_alike_38 ?_
      rw [show ((nI b1) + (nI z11) : Int32) = nI (b1 + z11) from nI_add b1 z11]
      obtain ⟨i_4, f_4, hb_4, hn_4, hg_4⟩ := tr_63x hTy kmxA (by decide)
      have h39 : vp_in (nI (b1 + z11)) 600 := vp_in_nI (by omega) (by omega)
      refine va_iald hx hb hK hP i_4 1 hg_4 rfl h39 d_Model_alike_39 ?_
      refine lv_topi (fun e39 he39 => ?_)
      refine vp_callSi (pu_callS (As := [.int e39]) (rest := [.int r27]) ⟨hx, hb, hml, hown, hts⟩ tbin (c_Model_small l dC dI sb e39) q9_167 q9_168 q1_9 q9_169 (n := 1) (by decide +kernel) rfl ⟨rfl, rfl⟩ ⟨Nat.le_of_ble_eq_true rfl, Nat.le_of_ble_eq_true rfl⟩ ⟨Nat.le_of_ble_eq_true rfl, Nat.le_of_ble_eq_true rfl⟩ hN hT0 hK hP [] (by simp only [List.filterMap_cons, List.filterMap_nil]) [] rfl hl.1 rfl (Nat.le_of_ble_eq_true rfl) d_Model_alike_40) (fun r40 hr40 => ?_)
      refine lv_icmp_eq (tgt := 48) hx hb d_Model_alike_43 (by decide) (fun c43 => ?_) (fun c43 => ?_)
      · have p43 : r27 = r40 := c43
        refine lv_iinc (v := nI (z11 + 1)) (lv' := [(6, .int (nI (z11 + 1))), (0, .ref mo), (1, .ref t), (2, .int (nI a1)), (3, .int (nI k1)), (4, .int (nI b1)), (5, .int (nI k2))]) hx hb d_Model_alike_48 hl (k := 0) rfl (nI_1 _) (by decide) rfl (fun ls hl => ?_)
        refine lv_goto (tgt := 11) hx hb d_Model_alike_51 (by decide) ?_
        exact ih11 ((z11 + 1)) ls (by omega) ⟨by omega, by omega⟩ (lv_sub hl [0, 1, 2, 3, 4, 5, 6] rfl)
      · have p43 : ¬ (r27 = r40) := c43
        refine lv_iconst (v := 0) hx hb d_Model_alike_46 (by decide) ?_
        exact W.zret (v := 0) hx hb hr rfl (fun t ht hW => ⟨_, rfl, bz_f (by decide), ht⟩) (fun q h => by cases h) d_Model_alike_47
  · have p3 : ¬ (k1 = k2) := (fun q9 => c3 ((nI_eq (a := k1) (b := k2) (by omega) (by omega)).mpr q9))
    refine lv_iconst (v := 0) hx hb d_Model_alike_6 (by decide) ?_
    exact W.zret (v := 0) hx hb hr rfl (fun t ht hW => ⟨_, rfl, bz_f (by decide), ht⟩) (fun q h => by cases h) d_Model_alike_7
