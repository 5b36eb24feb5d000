/-! Rsa.isBelowModulus, exactly. -/
set_option maxHeartbeats 4000000 in
set_option maxRecDepth 100000 in
theorem x_Rsa_below (l : Launch) (dC : Nat → ClassId) (dI : Nat → Nat → Nat) (sb : sB) (q0 mo sq ba po un su L : Nat) (iv : Int64) (cJ : ClassId) (t : Nat) (nd td : Nat → Nat) (hL1 : 1 ≤ L) (hL2 : L ≤ 64) (hn : ∀ j, nd j < 4294967296) (ht9 : ∀ j, td j < 4294967296) : Met l y_Rsa_isBelowModulus w_Rsa_isBelowModulus ({ frames := 0, cells := 0, slots := 0, locals := 0 }) (pu_P [.ref q0, .ref t] (dC, dI) sb [(q0, .inr (7, [.ref mo, .ref sq, .ref ba, .ref po, .ref un, .ref su, .int (nI L), .long iv])), (mo, .inl (cJ, 64, .inr (.inl (lR nd)))), (t, .inl (cJ, 64, .inr (.inl (lR td))))] [(cJ, .long)]) (vp_Si (fun r => bz r (vB 4294967296 td L < vB 4294967296 nd L))) 0 0 (fun _ => False) := by
  refine Met.ofW (cc := b_Rsa_isBelowModulus) (maxL := 3) (ret := (some FieldType.boolean)) (by decide) rfl ?_
  intro p e s m args below meth c s₁ B hml hv
  obtain ⟨rfl, hP, hK, hN, hT0⟩ := hv
  have hx := B.exec
  have hb := B.bytes
  have hr := B.returns
  have hts := atoms_spec (ws := w_Rsa_isBelowModulus) B.pre
  have tbin : ∀ w ∈ tb, w ∈ w_Rsa_isBelowModulus := fun w h => List.mem_cons_of_mem _ h
  have htb : ∀ w ∈ tb, w.before _ s = true := fun w h => hts w (tbin w h)
  have hown : s.vm.findClass "TrustChain$Rsa" = some m.cls := findClass_of_methodNamed B.named
  have hlocks := B.notSynchronized
  have hcs : 0 ≤ (headSpec w_Rsa_isBelowModulus ({ frames := 0, cells := 0, slots := 0, locals := 0 })).room.cells ∧ 0 ≤ (headSpec w_Rsa_isBelowModulus ({ frames := 0, cells := 0, slots := 0, locals := 0 })).room.slots := ⟨Nat.zero_le _, Nat.zero_le _⟩
  have hP : va_P (dC, dI) classes [(q0, .inr (7, [.ref mo, .ref sq, .ref ba, .ref po, .ref un, .ref su, .int (nI L), .long iv])), (mo, .inl (cJ, 64, .inr (.inl (lR nd)))), (t, .inl (cJ, 64, .inr (.inl (lR td))))] s.heap := hP
  have hl := lv_entry ([.ref q0, .ref t]) (n := 3) (Nat.le_of_ble_eq_true rfl)
  rw [lg_entry_eq]
  generalize (lg_sl ([.ref q0, .ref t]) ++ List.replicate (3 - (lg_sl ([.ref q0, .ref t])).length) Slot.unset).toArray = ls at hl ⊢
  have hl : lv_has ls 3 [(0, .ref q0), (1, .ref t)] := hl
  refine lv_aload_n hx hb d_Rsa_isBelowModulus_0 rfl (lv_at hl 0 rfl) ?_
  refine va_get (v := .int (nI L)) hx hb htb i_Rsa hown hK hP 0 rfl rfl 6 (by decide) (htb _ q1_91) (fun _ h9 => h9) rfl d_Rsa_isBelowModulus_1 ?_
  refine lv_iconst (v := 1) hx hb d_Rsa_isBelowModulus_4 (by decide) ?_
  refine lv_isub hx hb d_Rsa_isBelowModulus_5 ?_
  rw [show ((nI L) - 1 : Int32) = nI (L - 1) from pk_sub (a := L) (b := 1) (by omega)]
  refine lv_istore_n (lv' := [(2, .int (nI (L - 1))), (0, .ref q0), (1, .ref t)]) hx hb d_Rsa_isBelowModulus_6 rfl hl (by decide) rfl (fun ls hl => ?_)
  have hl : lv_has ls 3 [(2, .int (jD L)), (0, .ref q0), (1, .ref t)] := by rw [jD_pos (k := L) hL1]; exact hl
  refine w_loop (α := Nat) (fun k => k ≤ L ∧ ∀ j, k ≤ j → j < L → td j = nd j) (fun k => k) (fun k => [(0, .ref q0), (1, .ref t), (2, .int (jD k))]) (fun _ => []) 3 7 (fun k ls hJ hl ih => ?_) L ls ⟨Nat.le_refl _, fun j h1 h2 => absurd h1 (by omega)⟩ (lv_sub hl [1, 2, 0] rfl)
  obtain ⟨hk, heq⟩ := hJ
  obtain _ | k := k
  · have hl : lv_has ls 3 [(0, .ref q0), (1, .ref t), (2, .int (-1))] := hl
    refine lv_iload_n hx hb d_Rsa_isBelowModulus_7 rfl (lv_at hl 2 rfl) ?_
    refine lv_if_lt (tgt := 49) hx hb d_Rsa_isBelowModulus_8 (by decide) (fun c8 => ?_) (fun c8 => ?_)
    rotate_left
    · exact absurd (by decide) c8
    refine lv_iconst (v := 0) hx hb d_Rsa_isBelowModulus_49 (by decide) ?_
    exact W.zret (v := 0) hx hb hr (by decide) (fun t ht hW => ⟨_, rfl, bz_f (fun h9 => absurd h9 (by rw [vB_congr L (fun j hj => heq j (Nat.zero_le _) hj)]; exact Nat.lt_irrefl _)), ht⟩) (fun q h => by cases h) d_Rsa_isBelowModulus_50
  · have hl : lv_has ls 3 [(0, .ref q0), (1, .ref t), (2, .int (nI k))] := hl
    refine lv_iload_n hx hb d_Rsa_isBelowModulus_7 rfl (lv_at hl 2 rfl) ?_
    refine lv_if_lt (tgt := 49) hx hb d_Rsa_isBelowModulus_8 (by decide) (fun c8 => ?_) (fun c8 => ?_)
    · exact absurd c8 (nI_nn (by omega))
    refine lv_aload_n hx hb d_Rsa_isBelowModulus_11 rfl (lv_at hl 1 rfl) ?_
    refine lv_iload_n hx hb d_Rsa_isBelowModulus_12 rfl (lv_at hl 2 rfl) ?_
    have h13 : vp_in (nI k) 64 := vp_in_nI (by omega) (by omega)
    refine va_lald hx hb hK hP 2 0 rfl rfl h13 d_Rsa_isBelowModulus_13 ?_
    rw [show lR td (nI k).toNatClampNeg = lN (td k) from by rw [nI_clamp (by omega)]; rfl]
    refine lv_aload_n hx hb d_Rsa_isBelowModulus_14 rfl (lv_at hl 0 rfl) ?_
    refine va_get (v := .ref mo) hx hb htb i_Rsa hown hK hP 0 rfl rfl 0 (by decide) (htb _ q1_85) (fun _ h9 => h9) rfl d_Rsa_isBelowModulus_15 ?_
    refine lv_iload_n hx hb d_Rsa_isBelowModulus_18 rfl (lv_at hl 2 rfl) ?_
    have h19 : vp_in (nI k) 64 := vp_in_nI (by omega) (by omega)
    refine va_lald hx hb hK hP 1 0 rfl rfl h19 d_Rsa_isBelowModulus_19 ?_
    rw [show lR nd (nI k).toNatClampNeg = lN (nd k) from by rw [nI_clamp (by omega)]; rfl]
    refine W.lcmp hx hb d_Rsa_isBelowModulus_20 ?_
    refine lv_if_eq (tgt := 43) hx hb d_Rsa_isBelowModulus_21 (by decide) (fun c21 => ?_) (fun c21 => ?_)
    · have p21 : (lg_cmp (lN (td k)) (lN (nd k))) = (0 : Int32) := c21
      refine lv_iinc (v := jD k) (lv' := [(2, .int (jD k)), (0, .ref q0), (1, .ref t)]) hx hb d_Rsa_isBelowModulus_43 hl (k := 2) rfl (jD_dec k) (by decide) rfl (fun ls hl => ?_)
      refine lv_goto (tgt := 7) hx hb d_Rsa_isBelowModulus_46 (by decide) ?_
      exact ih k ls (Nat.lt_succ_self k) ⟨by omega, be_down heq ((c_eq (ht9 _) (hn _)).mp p21)⟩ (lv_sub hl [1, 2, 0] rfl)
    · have p21 : ¬ ((lg_cmp (lN (td k)) (lN (nd k))) = (0 : Int32)) := c21
      refine lv_aload_n hx hb d_Rsa_isBelowModulus_24 rfl (lv_at hl 1 rfl) ?_
      refine lv_iload_n hx hb d_Rsa_isBelowModulus_25 rfl (lv_at hl 2 rfl) ?_
      have h26 : vp_in (nI k) 64 := vp_in_nI (by omega) (by omega)
      refine va_lald hx hb hK hP 2 0 rfl rfl h26 d_Rsa_isBelowModulus_26 ?_
      rw [show lR td (nI k).toNatClampNeg = lN (td k) from by rw [nI_clamp (by omega)]; rfl]
      refine lv_aload_n hx hb d_Rsa_isBelowModulus_27 rfl (lv_at hl 0 rfl) ?_
      refine va_get (v := .ref mo) hx hb htb i_Rsa hown hK hP 0 rfl rfl 0 (by decide) (htb _ q1_85) (fun _ h9 => h9) rfl d_Rsa_isBelowModulus_28 ?_
      refine lv_iload_n hx hb d_Rsa_isBelowModulus_31 rfl (lv_at hl 2 rfl) ?_
      have h32 : vp_in (nI k) 64 := vp_in_nI (by omega) (by omega)
      refine va_lald hx hb hK hP 1 0 rfl rfl h32 d_Rsa_isBelowModulus_32 ?_
      rw [show lR nd (nI k).toNatClampNeg = lN (nd k) from by rw [nI_clamp (by omega)]; rfl]
      refine W.lcmp hx hb d_Rsa_isBelowModulus_33 ?_
      refine lv_if_ge (tgt := 41) hx hb d_Rsa_isBelowModulus_34 (by decide) (fun c34 => ?_) (fun c34 => ?_)
      · have p34 : (0 : Int32) ≤ (lg_cmp (lN (td k)) (lN (nd k))) := c34
        refine lv_iconst (v := 0) hx hb d_Rsa_isBelowModulus_41 (by decide) ?_
        exact W.zret (v := 0) hx hb hr (by decide) (fun t ht hW => ⟨_, rfl, bz_f (fun h9 => absurd ((vB_top (W := 4294967296) L (by omega) (fun j _ => ht9 j) (fun j _ => hn j) (fun j h1 h2 => heq j (by omega) h2)).2 (be_gt (fun e9 => p21 ((c_eq (ht9 _) (hn _)).mpr e9)) (fun e9 => Int32.not_lt.mpr p34 ((c_lt (ht9 _) (hn _)).mpr e9)))) (by omega)), ht⟩) (fun q h => by cases h) d_Rsa_isBelowModulus_42
      · have p34 : ¬ ((0 : Int32) ≤ (lg_cmp (lN (td k)) (lN (nd k)))) := c34
        refine lv_iconst (v := 1) hx hb d_Rsa_isBelowModulus_37 (by decide) ?_
        refine lv_goto (tgt := 42) hx hb d_Rsa_isBelowModulus_38 (by decide) ?_
        exact W.zret (v := 1) hx hb hr (by decide) (fun t ht hW => ⟨_, rfl, bz_t ((vB_top (W := 4294967296) L (by omega) (fun j _ => ht9 j) (fun j _ => hn j) (fun j h1 h2 => heq j (by omega) h2)).1 ((c_lt (ht9 _) (hn _)).mp (Int32.not_le.mp p34))), ht⟩) (fun q h => by cases h) d_Rsa_isBelowModulus_42
