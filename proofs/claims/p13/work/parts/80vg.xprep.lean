/-! Rsa.prepare, exactly. -/
set_option maxHeartbeats 4000000 in
set_option maxRecDepth 100000 in
theorem x_Rsa_prepare (l : Launch) (dC : Nat → ClassId) (dI : Nat → Nat → Nat) (sb : sB) (q0 mo sq ba po un su L : Nat) (iv0 : Int64) (cJ : ClassId) (bz : Nat) (nd sd sqd : Nat → Nat) (sz : Nat) (hL1 : 1 ≤ L) (hL2 : L ≤ 64) (hn : ∀ j, nd j < 4294967296) (hs : ∀ j, sd j < 4294967296) (hsq : ∀ j, sqd j < 4294967296) (hodd : nd 0 % 2 = 1) (hbz : 1 ≤ bz) (hbz2 : bz ≤ 32 * L) (hN2 : 2 ^ (bz - 1) < vB 4294967296 nd L) : Met l y_Rsa_prepare w_Rsa_prepare ({ frames := 1, cells := 0, slots := 0, locals := 28 }) (mu_P [.ref q0, .int (nI bz)] (dC, dI) sb [(q0, .inr (7, [.ref mo, .ref sq, .ref ba, .ref po, .ref un, .ref su, .int (nI L), .long iv0])), (mo, .inl (cJ, 64, .inr (.inl (lR nd)))), (sq, .inl (cJ, 64, .inr (.inl (lR sqd)))), (su, .inl (cJ, 66, .inr (.inl (lR sd))))] [(cJ, .long)] sz) (va_Qv (fun (r : Nat × (Nat → Nat) × (Nat → Nat)) => r.1 < 4294967296 ∧ (r.1 * nd 0 + 1) % 4294967296 = 0 ∧ (∀ j, r.2.1 j < 4294967296) ∧ (∀ j, r.2.2 j < 4294967296) ∧ vB 4294967296 r.2.1 L < vB 4294967296 nd L ∧ vB 4294967296 r.2.1 L % vB 4294967296 nd L = 2 ^ (33 * L) % vB 4294967296 nd L) (mu_B (dC, dI) [(cJ, .long)] (va_A [(q0, .inr (7, [.ref mo, .ref sq, .ref ba, .ref po, .ref un, .ref su, .int (nI L), .long iv0])), (mo, .inl (cJ, 64, .inr (.inl (lR nd)))), (sq, .inl (cJ, 64, .inr (.inl (lR sqd)))), (su, .inl (cJ, 66, .inr (.inl (lR sd))))] sz) (fun r : Nat × (Nat → Nat) × (Nat → Nat) => [(q0, .inr (7, [.ref mo, .ref sq, .ref ba, .ref po, .ref un, .ref su, .int (nI L), .long (lN r.1)])), (mo, .inl (cJ, 64, .inr (.inl (lR nd)))), (sq, .inl (cJ, 64, .inr (.inl (lR r.2.1)))), (su, .inl (cJ, 66, .inr (.inl (lR r.2.2))))])) (va_A [(q0, .inr (7, [.ref mo, .ref sq, .ref ba, .ref po, .ref un, .ref su, .int (nI L), .long iv0])), (mo, .inl (cJ, 64, .inr (.inl (lR nd)))), (sq, .inl (cJ, 64, .inr (.inl (lR sqd)))), (su, .inl (cJ, 66, .inr (.inl (lR sd))))] sz)) 0 0 (va_A [(q0, .inr (7, [.ref mo, .ref sq, .ref ba, .ref po, .ref un, .ref su, .int (nI L), .long iv0])), (mo, .inl (cJ, 64, .inr (.inl (lR nd)))), (sq, .inl (cJ, 64, .inr (.inl (lR sqd)))), (su, .inl (cJ, 66, .inr (.inl (lR sd))))] sz) := by
  refine Met.ofW (cc := b_Rsa_prepare) (maxL := 11) (ret := none) (by decide) rfl ?_
  intro p e s m args below meth c s₁ B hml hv
  obtain ⟨rfl, hsz, hB0, hP, hK, hD0, hN, hT0⟩ := hv
  have hx := B.exec
  have hb := B.bytes
  have hr := B.returns
  have hts := atoms_spec (ws := w_Rsa_prepare) B.pre
  have tbin : ∀ w ∈ tb, w ∈ w_Rsa_prepare := fun w h => List.mem_cons_of_mem _ h
  have htb : ∀ w ∈ tb, w.before _ s = true := fun w h => hts w (tbin w h)
  have hown : s.vm.findClass "TrustChain$Rsa" = some m.cls := findClass_of_methodNamed B.named
  have hlocks := B.notSynchronized
  subst hsz
  have hD := hD0.self (sz := s.heap.size)
  generalize hAe : va_A [(q0, .inr (7, [.ref mo, .ref sq, .ref ba, .ref po, .ref un, .ref su, .int (nI L), .long iv0])), (mo, .inl (cJ, 64, .inr (.inl (lR nd)))), (sq, .inl (cJ, 64, .inr (.inl (lR sqd)))), (su, .inl (cJ, 66, .inr (.inl (lR sd))))] s.heap.size = A at hD ⊢
  have hA : ∀ q : Nat, s.heap.size ≤ q → A q := fun q h => by rw [← hAe]; exact Or.inr h
  have hAs : ∀ q : Nat, A q → sb.1 ≤ q := fun q h => by
    rw [← hAe] at h
    rcases h with ⟨k, e, h⟩ | h
    · exact hD0.2 k _ h
    · exact Nat.le_trans hB0 h
  have hS : va_S A s.heap s.heap [] := va_S.rf
  have hcs : 0 ≤ (headSpec w_Rsa_prepare ({ frames := 1, cells := 0, slots := 0, locals := 28 })).room.cells ∧ 0 ≤ (headSpec w_Rsa_prepare ({ frames := 1, cells := 0, slots := 0, locals := 28 })).room.slots := ⟨Nat.le_refl _, Nat.le_refl _⟩
  have hP : va_P (dC, dI) classes [(q0, .inr (7, [.ref mo, .ref sq, .ref ba, .ref po, .ref un, .ref su, .int (nI L), .long iv0])), (mo, .inl (cJ, 64, .inr (.inl (lR nd)))), (sq, .inl (cJ, 64, .inr (.inl (lR sqd)))), (su, .inl (cJ, 66, .inr (.inl (lR sd))))] s.heap := hP
  have hl := lv_entry ([.ref q0, .int (nI bz)]) (n := 11) (Nat.le_of_ble_eq_true rfl)
  rw [lg_entry_eq]
  generalize (lg_sl ([.ref q0, .int (nI bz)]) ++ List.replicate (11 - (lg_sl ([.ref q0, .int (nI bz)])).length) Slot.unset).toArray = ls at hl ⊢
  have hl : lv_has ls 11 [(0, .ref q0), (1, .int (nI bz))] := hl
  refine lv_aload_n hx hb d_Rsa_prepare_0 rfl (lv_at hl 0 rfl) ?_
  refine va_get (v := .ref mo) hx hb htb i_Rsa hown hK hP 0 rfl rfl 0 (by decide) (htb _ q1_85) (fun _ h9 => h9) rfl d_Rsa_prepare_1 ?_
  refine lv_iconst (v := 0) hx hb d_Rsa_prepare_4 (by decide) ?_
  have h5 : vp_in (0 : Int32) 64 := by unfold vp_in; decide
  refine va_lald hx hb hK hP 1 0 rfl rfl h5 d_Rsa_prepare_5 ?_
  rw [show lR nd (0 : Int32).toNatClampNeg = lN (nd 0) from rfl]
  refine lv_lstore_n (lv' := [(2, .long (lN (nd 0))), (0, .ref q0), (1, .int (nI bz))]) hx hb d_Rsa_prepare_6 rfl hl (by decide) rfl (fun ls hl => ?_)
  refine lv_aload_n hx hb d_Rsa_prepare_7 rfl (lv_at hl 1 rfl) ?_
  refine lv_lload_n hx hb d_Rsa_prepare_8 rfl (lv_at hl 0 rfl) ?_
  refine va_put (v := .long (lN (nd 0))) (ty := .long) hx hb htb i_Rsa t_Rsa t_Rsa_ok n_Rsa hown hK hP hD hS 0 rfl rfl 7 (by decide) (htb _ q1_92) (fun _ h9 => h9) rfl (by decide +kernel) rfl rfl (Nat.le_of_ble_eq_true rfl) d_Rsa_prepare_9 (fun H9 locs hP hD hS => ?_)
  have hP : va_P (dC, dI) classes [(q0, .inr (7, [.ref mo, .ref sq, .ref ba, .ref po, .ref un, .ref su, .int (nI L), .long (lN (nd 0))])), (mo, .inl (cJ, 64, .inr (.inl (lR nd)))), (sq, .inl (cJ, 64, .inr (.inl (lR sqd)))), (su, .inl (cJ, 66, .inr (.inl (lR sd))))] H9 := hP
  have hD : va_D A [(q0, .inr (7, [.ref mo, .ref sq, .ref ba, .ref po, .ref un, .ref su, .int (nI L), .long (lN (nd 0))])), (mo, .inl (cJ, 64, .inr (.inl (lR nd)))), (sq, .inl (cJ, 64, .inr (.inl (lR sqd)))), (su, .inl (cJ, 66, .inr (.inl (lR sd))))] := hD
  refine lv_iconst (v := 0) hx hb d_Rsa_prepare_12 (by decide) ?_
  refine lv_istore (lv' := [(4, .int 0), (2, .long (lN (nd 0))), (0, .ref q0), (1, .int (nI bz))]) hx hb d_Rsa_prepare_13 hl (by decide) rfl (fun ls hl => ?_)
  refine w_loopW (α := Nat × Int64) (fun z => z.1 ≤ 5 ∧ (2 ^ nwk z.1 : Int) ∣ 1 - (lN (nd 0)).toInt * z.2.toInt) (fun z => 5 - z.1) (fun z => [(0, .ref q0), (1, .int (nI bz)), (2, .long (lN (nd 0))), (4, .int (nI z.1))]) (fun _ => []) (fun z => [(q0, .inr (7, [.ref mo, .ref sq, .ref ba, .ref po, .ref un, .ref su, .int (nI L), .long z.2])), (mo, .inl (cJ, 64, .inr (.inl (lR nd)))), (sq, .inl (cJ, 64, .inr (.inl (lR sqd)))), (su, .inl (cJ, 66, .inr (.inl (lR sd))))]) 11 15 (fun z HL15 locs ls hJ hP hD hS hl ih => ?_) (0, lN (nd 0)) _ _ ls (⟨Nat.zero_le _, (show (2 ^ nwk 0 : Int) ∣ 1 - (lN (nd 0)).toInt * (lN (nd 0)).toInt from nw_0 hodd (hn 0))⟩) hP hD hS (lv_sub hl [2, 3, 1, 0] rfl)
  have hP : va_P (dC, dI) classes [(q0, .inr (7, [.ref mo, .ref sq, .ref ba, .ref po, .ref un, .ref su, .int (nI L), .long z.2])), (mo, .inl (cJ, 64, .inr (.inl (lR nd)))), (sq, .inl (cJ, 64, .inr (.inl (lR sqd)))), (su, .inl (cJ, 66, .inr (.inl (lR sd))))] HL15 := hP
  have hD : va_D A [(q0, .inr (7, [.ref mo, .ref sq, .ref ba, .ref po, .ref un, .ref su, .int (nI L), .long z.2])), (mo, .inl (cJ, 64, .inr (.inl (lR nd)))), (sq, .inl (cJ, 64, .inr (.inl (lR sqd)))), (su, .inl (cJ, 66, .inr (.inl (lR sd))))] := hD
  refine lv_iload hx hb d_Rsa_prepare_15 (lv_at hl 3 rfl) ?_
  refine lv_iconst (v := 5) hx hb d_Rsa_prepare_17 (by decide) ?_
  refine lv_icmp_ge (tgt := 46) hx hb d_Rsa_prepare_18 (by decide) (fun c18 => ?_) (fun c18 => ?_)
  · have p18 : 5 ≤ z.1 := ((nI_leI (a := 5) (b := z.1) (by omega) (by omega)).mp c18)
    refine lv_aload_n hx hb d_Rsa_prepare_46 rfl (lv_at hl 0 rfl) ?_
    refine lv_aload_n hx hb d_Rsa_prepare_47 rfl (lv_at hl 0 rfl) ?_
    refine va_get (v := .long z.2) hx hb htb i_Rsa hown hK hP 0 rfl rfl 7 (by decide) (htb _ q1_92) (fun _ h9 => h9) rfl d_Rsa_prepare_48 ?_
    refine lv_lneg hx hb d_Rsa_prepare_51 ?_
    refine lv_ldc2 (v := 4294967295) hx hb hown (htb _ q5_202) d_Rsa_prepare_52 ?_
    refine lv_land hx hb d_Rsa_prepare_55 ?_
    have hz5 : z.1 = 5 := Nat.le_antisymm hJ.1 p18
    have hz6 := hJ.2
    rw [hz5] at hz6
    obtain ⟨iv, hiv, hiv1, hiv2⟩ := nw_end (hn 0) (show (2 ^ 32 : Int) ∣ 1 - (lN (nd 0)).toInt * z.2.toInt from hz6)
    rw [show ((-z.2) &&& 4294967295 : Int64) = lN iv from hiv]
    refine va_put (v := .long (lN iv)) (ty := .long) hx hb htb i_Rsa t_Rsa t_Rsa_ok n_Rsa hown hK hP hD hS 0 rfl rfl 7 (by decide) (htb _ q1_92) (fun _ h9 => h9) rfl (by decide +kernel) rfl rfl (Nat.le_of_ble_eq_true rfl) d_Rsa_prepare_56 (fun H56 locs hP hD hS => ?_)
    have hP : va_P (dC, dI) classes [(q0, .inr (7, [.ref mo, .ref sq, .ref ba, .ref po, .ref un, .ref su, .int (nI L), .long (lN iv)])), (mo, .inl (cJ, 64, .inr (.inl (lR nd)))), (sq, .inl (cJ, 64, .inr (.inl (lR sqd)))), (su, .inl (cJ, 66, .inr (.inl (lR sd))))] H56 := hP
    have hD : va_D A [(q0, .inr (7, [.ref mo, .ref sq, .ref ba, .ref po, .ref un, .ref su, .int (nI L), .long (lN iv)])), (mo, .inl (cJ, 64, .inr (.inl (lR nd)))), (sq, .inl (cJ, 64, .inr (.inl (lR sqd)))), (su, .inl (cJ, 66, .inr (.inl (lR sd))))] := hD
    refine lv_aload_n hx hb d_Rsa_prepare_59 rfl (lv_at hl 0 rfl) ?_
    refine va_get (v := .ref sq) hx hb htb i_Rsa hown hK hP 0 rfl rfl 1 (by decide) (htb _ q1_86) (fun _ h9 => h9) rfl d_Rsa_prepare_60 ?_
    refine lv_lconst (v := 0) hx hb d_Rsa_prepare_63 (by decide) ?_
    have hFc := va_free (wc := [(sq, .inl (cJ, 64, .inr (.inl (lR sqd))))]) hD hS hA [2] rfl
    refine va_callv (mu_runS (As := [.ref sq, .long 0]) (rest := []) ⟨hx, hb, hml, hown, hts⟩ tbin (x_fill l dC dI sb sq 64 cJ (lR sqd) 0 H56.size (by decide)) q5_189 q5_190 q1_17 q5_191 (n := 2) (by decide +kernel) rfl ⟨rfl, rfl⟩ ⟨Nat.le_of_ble_eq_true rfl, Nat.le_of_ble_eq_true rfl⟩ ⟨Nat.le_of_ble_eq_true rfl, Nat.le_of_ble_eq_true rfl⟩ hN (hT0.keep hS hAs) hAs (Nat.le_trans hB0 hS.1) hK hP hD [2] (by decide) rfl [0] rfl hl.1 rfl (Nat.le_of_ble_eq_true rfl) d_Rsa_prepare_64) hS (fun q _ h => hFc q h) hFc (fun u64 tS H64 locs ht hvm hw64 hB hz1 hk1 hS => ?_)
    obtain ⟨_, rfl⟩ : ∃ z, z = u64 := ⟨_, rfl⟩
    obtain ⟨hP1, hK1, hD1⟩ := hB
    rw [ht] at hP1
    obtain ⟨hP, hD⟩ := va_join (wr := [(q0, .inr (7, [.ref mo, .ref sq, .ref ba, .ref po, .ref un, .ref su, .int (nI L), .long (lN iv)])), (mo, .inl (cJ, 64, .inr (.inl (lR nd)))), (su, .inl (cJ, 66, .inr (.inl (lR sd))))]) (w1 := [(sq, .inl (cJ, 64, .inr (.inl (flL (lR sqd) 0 64))))]) hP hD [2] [0, 1, 3] rfl rfl (by decide) (by decide) hk1 hFc hP1 hD1
    have hP : va_P (dC, dI) classes [(q0, .inr (7, [.ref mo, .ref sq, .ref ba, .ref po, .ref un, .ref su, .int (nI L), .long (lN iv)])), (mo, .inl (cJ, 64, .inr (.inl (lR nd)))), (su, .inl (cJ, 66, .inr (.inl (lR sd)))), (sq, .inl (cJ, 64, .inr (.inl (flL (lR sqd) 0 64))))] H64 := hP
    have hD : va_D A [(q0, .inr (7, [.ref mo, .ref sq, .ref ba, .ref po, .ref un, .ref su, .int (nI L), .long (lN iv)])), (mo, .inl (cJ, 64, .inr (.inl (lR nd)))), (su, .inl (cJ, 66, .inr (.inl (lR sd)))), (sq, .inl (cJ, 64, .inr (.inl (flL (lR sqd) 0 64))))] := hD
    rw [flL_z] at hP hD
    have hP : va_P (dC, dI) classes [(q0, .inr (7, [.ref mo, .ref sq, .ref ba, .ref po, .ref un, .ref su, .int (nI L), .long (lN iv)])), (mo, .inl (cJ, 64, .inr (.inl (lR nd)))), (su, .inl (cJ, 66, .inr (.inl (lR sd)))), (sq, .inl (cJ, 64, .inr (.inl (lR (zG sqd 64)))))] H64 := hP
    have hD : va_D A [(q0, .inr (7, [.ref mo, .ref sq, .ref ba, .ref po, .ref un, .ref su, .int (nI L), .long (lN iv)])), (mo, .inl (cJ, 64, .inr (.inl (lR nd)))), (su, .inl (cJ, 66, .inr (.inl (lR sd)))), (sq, .inl (cJ, 64, .inr (.inl (lR (zG sqd 64)))))] := hD
    refine lv_iconst (v := 0) hx hb d_Rsa_prepare_67 (by decide) ?_
    refine lv_iload_n hx hb d_Rsa_prepare_68 rfl (lv_at hl 1 rfl) ?_
    refine lv_iconst (v := 1) hx hb d_Rsa_prepare_69 (by decide) ?_
    refine lv_isub hx hb d_Rsa_prepare_70 ?_
    rw [show ((nI bz) - 1 : Int32) = nI (bz - 1) from pk_sub (a := bz) (b := 1) (by omega)]
    refine lv_bipush (v := 32) hx hb d_Rsa_prepare_71 (by decide) ?_
    refine lv_aload_n hx hb d_Rsa_prepare_73 rfl (lv_at hl 0 rfl) ?_
    refine va_get (v := .int (nI L)) hx hb htb i_Rsa hown hK hP 0 rfl rfl 6 (by decide) (htb _ q1_91) (fun _ h9 => h9) rfl d_Rsa_prepare_74 ?_
    refine lv_imul hx hb d_Rsa_prepare_77 ?_
    rw [show (32 * (nI L) : Int32) = nI (32 * L) from nI_mul 32 L]
    refine lv_iconst (v := 1) hx hb d_Rsa_prepare_78 (by decide) ?_
    refine lv_isub hx hb d_Rsa_prepare_79 ?_
    rw [show ((nI (32 * L)) - 1 : Int32) = nI ((32 * L) - 1) from pk_sub (a := (32 * L)) (b := 1) (by omega)]
    refine va_mmin hx hb (by rw [hml]; exact hl.1.symm) hown (htb _ q5_203) (htb _ q2_75) (htb _ q1_18) (htb _ q2_76) (Nat.le_of_ble_eq_true rfl) (Nat.le_of_ble_eq_true rfl) (Nat.le_of_ble_eq_true rfl) (Nat.le_of_ble_eq_true rfl) d_Rsa_prepare_80 ?_
    rw [show (if (nI ((32 * L) - 1)) < (nI (bz - 1)) then (nI ((32 * L) - 1)) else (nI (bz - 1))) = nI (bz - 1) from (mn_nI (by omega) (by omega)).trans (congrArg nI (by omega))]
    refine va_mmax hx hb (by rw [hml]; exact hl.1.symm) hown (htb _ q5_204) (htb _ q4_127) (htb _ q1_18) (htb _ q4_128) (Nat.le_of_ble_eq_true rfl) (Nat.le_of_ble_eq_true rfl) (Nat.le_of_ble_eq_true rfl) (Nat.le_of_ble_eq_true rfl) d_Rsa_prepare_83 ?_
    rw [show (if (0 : Int32) < (nI (bz - 1)) then (nI (bz - 1)) else (0 : Int32)) = nI (bz - 1) from (mx_nI (a := 0) (b := bz - 1) (by omega) (by omega)).trans (congrArg nI (by omega))]
    refine lv_istore (lv' := [(4, .int (nI (bz - 1))), (0, .ref q0), (1, .int (nI bz)), (2, .long (lN (nd 0)))]) hx hb d_Rsa_prepare_86 hl (by decide) rfl (fun ls hl => ?_)
    refine lv_aload_n hx hb d_Rsa_prepare_88 rfl (lv_at hl 1 rfl) ?_
    refine va_get (v := .ref sq) hx hb htb i_Rsa hown hK hP 0 rfl rfl 1 (by decide) (htb _ q1_86) (fun _ h9 => h9) rfl d_Rsa_prepare_89 ?_
    refine lv_iload hx hb d_Rsa_prepare_92 (lv_at hl 0 rfl) ?_
    refine lv_bipush (v := 32) hx hb d_Rsa_prepare_94 (by decide) ?_
    refine lv_idiv hx hb d_Rsa_prepare_96 (by decide) ?_
    rw [show ((nI (bz - 1)) / 32 : Int32) = nI ((bz - 1) / 32) from nI_idiv (a := (bz - 1)) (b := 32) (by omega) (by omega) (by omega)]
    refine lv_lconst (v := 1) hx hb d_Rsa_prepare_97 (by decide) ?_
    refine lv_iload hx hb d_Rsa_prepare_98 (lv_at hl 0 rfl) ?_
    refine lv_bipush (v := 32) hx hb d_Rsa_prepare_100 (by decide) ?_
    refine lv_irem hx hb d_Rsa_prepare_102 (by decide) ?_
    rw [show ((nI (bz - 1)) - (nI (bz - 1)) / 32 * 32 : Int32) = nI ((bz - 1) % 32) from nI_irem (a := (bz - 1)) (b := 32) (by omega) (by omega) (by omega)]
    refine lv_lshl (v := 1 <<< ((nI ((bz - 1) % 32)).toInt64 &&& 63)) hx hb d_Rsa_prepare_103 rfl ?_
    rw [show (1 <<< ((nI ((bz - 1) % 32)).toInt64 &&& 63) : Int64) = lN (2 ^ ((bz - 1) % 32)) from l_sh1 (by omega)]
    have h104 : vp_in (nI ((bz - 1) / 32)) 64 := vp_in_nI (by omega) (by omega)
    refine va_last hx hb hK hP hD hS 3 0 rfl rfl h104 d_Rsa_prepare_104 (fun H104 locs hP hD hS => ?_)
    rw [nI_clamp (by omega), lR_up] at hP hD
    have hP : va_P (dC, dI) classes [(q0, .inr (7, [.ref mo, .ref sq, .ref ba, .ref po, .ref un, .ref su, .int (nI L), .long (lN iv)])), (mo, .inl (cJ, 64, .inr (.inl (lR nd)))), (su, .inl (cJ, 66, .inr (.inl (lR sd)))), (sq, .inl (cJ, 64, .inr (.inl (lR (updN (zG sqd 64) ((bz - 1) / 32) (2 ^ ((bz - 1) % 32)))))))] H104 := hP
    have hD : va_D A [(q0, .inr (7, [.ref mo, .ref sq, .ref ba, .ref po, .ref un, .ref su, .int (nI L), .long (lN iv)])), (mo, .inl (cJ, 64, .inr (.inl (lR nd)))), (su, .inl (cJ, 66, .inr (.inl (lR sd)))), (sq, .inl (cJ, 64, .inr (.inl (lR (updN (zG sqd 64) ((bz - 1) / 32) (2 ^ ((bz - 1) % 32)))))))] := hD
    refine lv_iload hx hb d_Rsa_prepare_105 (lv_at hl 0 rfl) ?_
    refine lv_istore (lv' := [(5, .int (nI (bz - 1))), (4, .int (nI (bz - 1))), (0, .ref q0), (1, .int (nI bz)), (2, .long (lN (nd 0)))]) hx hb d_Rsa_prepare_107 hl (by decide) rfl (fun ls hl => ?_)
    refine w_loopW (α := Nat × (Nat → Nat) × (Nat → Nat)) (fun y => bz - 1 ≤ y.1 ∧ y.1 ≤ 33 * L ∧ (∀ j, y.2.1 j < 4294967296) ∧ (∀ j, y.2.2 j < 4294967296) ∧ vB 4294967296 y.2.1 L < vB 4294967296 nd L ∧ vB 4294967296 y.2.1 L % vB 4294967296 nd L = 2 ^ y.1 % vB 4294967296 nd L) (fun y => 33 * L - y.1) (fun y => [(0, .ref q0), (5, .int (nI y.1))]) (fun _ => []) (fun y => [(q0, .inr (7, [.ref mo, .ref sq, .ref ba, .ref po, .ref un, .ref su, .int (nI L), .long (lN iv)])), (mo, .inl (cJ, 64, .inr (.inl (lR nd)))), (sq, .inl (cJ, 64, .inr (.inl (lR y.2.1)))), (su, .inl (cJ, 66, .inr (.inl (lR y.2.2))))]) 11 109 (fun y HL109 locs ls hJy hP hD hS hl ihy => ?_) (bz - 1, updN (zG sqd 64) ((bz - 1) / 32) (2 ^ ((bz - 1) % 32)), sd) _ _ ls (⟨Nat.le_refl _, by show bz - 1 ≤ 33 * L; omega, up_lt (zG_lt hsq) (p2_lt (Nat.mod_lt _ (by decide))), hs, by show vB 4294967296 (updN (zG sqd 64) ((bz - 1) / 32) (2 ^ ((bz - 1) % 32))) L < vB 4294967296 nd L; rw [vB_pow2 (by omega) hL2]; exact hN2, by show vB 4294967296 (updN (zG sqd 64) ((bz - 1) / 32) (2 ^ ((bz - 1) % 32))) L % vB 4294967296 nd L = 2 ^ (bz - 1) % vB 4294967296 nd L; rw [vB_pow2 (by omega) hL2]⟩) (hP.sub [0, 1, 3, 2] rfl) (hD.sub [0, 1, 3, 2] (by decide) rfl) hS (lv_sub hl [2, 0] rfl)
    have hP : va_P (dC, dI) classes [(q0, .inr (7, [.ref mo, .ref sq, .ref ba, .ref po, .ref un, .ref su, .int (nI L), .long (lN iv)])), (mo, .inl (cJ, 64, .inr (.inl (lR nd)))), (sq, .inl (cJ, 64, .inr (.inl (lR y.2.1)))), (su, .inl (cJ, 66, .inr (.inl (lR y.2.2))))] HL109 := hP
    have hD : va_D A [(q0, .inr (7, [.ref mo, .ref sq, .ref ba, .ref po, .ref un, .ref su, .int (nI L), .long (lN iv)])), (mo, .inl (cJ, 64, .inr (.inl (lR nd)))), (sq, .inl (cJ, 64, .inr (.inl (lR y.2.1)))), (su, .inl (cJ, 66, .inr (.inl (lR y.2.2))))] := hD
    refine lv_iload hx hb d_Rsa_prepare_109 (lv_at hl 1 rfl) ?_
    refine lv_bipush (v := 33) hx hb d_Rsa_prepare_111 (by decide) ?_
    refine lv_aload_n hx hb d_Rsa_prepare_113 rfl (lv_at hl 0 rfl) ?_
    refine va_get (v := .int (nI L)) hx hb htb i_Rsa hown hK hP 0 rfl rfl 6 (by decide) (htb _ q1_91) (fun _ h9 => h9) rfl d_Rsa_prepare_114 ?_
    refine lv_imul hx hb d_Rsa_prepare_117 ?_
    rw [show (33 * (nI L) : Int32) = nI (33 * L) from nI_mul 33 L]
    refine lv_icmp_ge (tgt := 201) hx hb d_Rsa_prepare_118 (by decide) (fun c118 => ?_) (fun c118 => ?_)
    · have p118 : (33 * L) ≤ y.1 := ((nI_leI (a := (33 * L)) (b := y.1) (by omega) (by omega)).mp c118)
      exact W.vret hx hb hr (fun t ht hW => ⟨⟨(iv, y.2.1, y.2.2), rfl, ⟨hiv1, hiv2, hJy.2.2.1, hJy.2.2.2.1, hJy.2.2.2.2.1, pr_end hJy.2.2.2.2.2 (Nat.le_antisymm hJy.2.1 p118)⟩, by rw [ht]; exact hP, va_K.moved hW.alike hK, hD⟩, hS.F ht⟩) hS.2.2 d_Rsa_prepare_201
    · have p118 : ¬ ((33 * L) ≤ y.1) := (fun q9 => c118 ((nI_leI (a := (33 * L)) (b := y.1) (by omega) (by omega)).mpr q9))
      refine lv_lconst (v := 0) hx hb d_Rsa_prepare_121 (by decide) ?_
      refine lv_lstore (lv' := [(6, .long 0), (0, .ref q0), (5, .int (nI y.1))]) hx hb d_Rsa_prepare_122 hl (by decide) rfl (fun ls hl => ?_)
      refine lv_iconst (v := 0) hx hb d_Rsa_prepare_124 (by decide) ?_
      refine lv_istore (lv' := [(8, .int 0), (6, .long 0), (0, .ref q0), (5, .int (nI y.1))]) hx hb d_Rsa_prepare_125 hl (by decide) rfl (fun ls hl => ?_)
      refine w_loopW (α := Nat × (Nat → Nat) × Nat) (fun u => u.1 ≤ L ∧ (∀ j, u.2.1 j < 4294967296) ∧ u.2.2 ≤ 1 ∧ vB 4294967296 u.2.1 u.1 + u.2.2 * 4294967296 ^ u.1 = 2 * vB 4294967296 y.2.1 u.1) (fun u => L - u.1) (fun u => [(0, .ref q0), (5, .int (nI y.1)), (6, .long (lN u.2.2)), (8, .int (nI u.1))]) (fun _ => []) (fun u => [(q0, .inr (7, [.ref mo, .ref sq, .ref ba, .ref po, .ref un, .ref su, .int (nI L), .long (lN iv)])), (mo, .inl (cJ, 64, .inr (.inl (lR nd)))), (sq, .inl (cJ, 64, .inr (.inl (lR y.2.1)))), (su, .inl (cJ, 66, .inr (.inl (lR u.2.1))))]) 11 127 (fun u HL127 locs ls hJ1 hP hD hS hl ih1 => ?_) (0, y.2.2, 0) _ _ ls (⟨Nat.zero_le _, hJy.2.2.2.1, Nat.zero_le _, rfl⟩) hP hD hS (lv_sub hl [2, 3, 1, 0] rfl)
      have hP : va_P (dC, dI) classes [(q0, .inr (7, [.ref mo, .ref sq, .ref ba, .ref po, .ref un, .ref su, .int (nI L), .long (lN iv)])), (mo, .inl (cJ, 64, .inr (.inl (lR nd)))), (sq, .inl (cJ, 64, .inr (.inl (lR y.2.1)))), (su, .inl (cJ, 66, .inr (.inl (lR u.2.1))))] HL127 := hP
      have hD : va_D A [(q0, .inr (7, [.ref mo, .ref sq, .ref ba, .ref po, .ref un, .ref su, .int (nI L), .long (lN iv)])), (mo, .inl (cJ, 64, .inr (.inl (lR nd)))), (sq, .inl (cJ, 64, .inr (.inl (lR y.2.1)))), (su, .inl (cJ, 66, .inr (.inl (lR u.2.1))))] := hD
      refine lv_iload hx hb d_Rsa_prepare_127 (lv_at hl 3 rfl) ?_
      refine lv_aload_n hx hb d_Rsa_prepare_129 rfl (lv_at hl 0 rfl) ?_
      refine va_get (v := .int (nI L)) hx hb htb i_Rsa hown hK hP 0 rfl rfl 6 (by decide) (htb _ q1_91) (fun _ h9 => h9) rfl d_Rsa_prepare_130 ?_
      refine lv_icmp_ge (tgt := 176) hx hb d_Rsa_prepare_133 (by decide) (fun c133 => ?_) (fun c133 => ?_)
      · have p133 : L ≤ u.1 := ((nI_leI (a := L) (b := u.1) (by omega) (by omega)).mp c133)
        have hc9 := hJ1.2.2.1
        refine lv_aload_n hx hb d_Rsa_prepare_176 rfl (lv_at hl 0 rfl) ?_
        refine va_get (v := .ref su) hx hb htb i_Rsa hown hK hP 0 rfl rfl 5 (by decide) (htb _ q1_90) (fun _ h9 => h9) rfl d_Rsa_prepare_177 ?_
        refine lv_aload_n hx hb d_Rsa_prepare_180 rfl (lv_at hl 0 rfl) ?_
        refine va_get (v := .int (nI L)) hx hb htb i_Rsa hown hK hP 0 rfl rfl 6 (by decide) (htb _ q1_91) (fun _ h9 => h9) rfl d_Rsa_prepare_181 ?_
        refine lv_lload hx hb d_Rsa_prepare_184 (lv_at hl 2 rfl) ?_
        have h186 : vp_in (nI L) 66 := vp_in_nI (by omega) (by omega)
        refine va_last hx hb hK hP hD hS 3 0 rfl rfl h186 d_Rsa_prepare_186 (fun H186 locs hP hD hS => ?_)
        rw [nI_clamp (by omega), lR_up] at hP hD
        have hP : va_P (dC, dI) classes [(q0, .inr (7, [.ref mo, .ref sq, .ref ba, .ref po, .ref un, .ref su, .int (nI L), .long (lN iv)])), (mo, .inl (cJ, 64, .inr (.inl (lR nd)))), (sq, .inl (cJ, 64, .inr (.inl (lR y.2.1)))), (su, .inl (cJ, 66, .inr (.inl (lR (updN u.2.1 L u.2.2)))))] H186 := hP
        have hD : va_D A [(q0, .inr (7, [.ref mo, .ref sq, .ref ba, .ref po, .ref un, .ref su, .int (nI L), .long (lN iv)])), (mo, .inl (cJ, 64, .inr (.inl (lR nd)))), (sq, .inl (cJ, 64, .inr (.inl (lR y.2.1)))), (su, .inl (cJ, 66, .inr (.inl (lR (updN u.2.1 L u.2.2)))))] := hD
        have hT9 : vB 4294967296 (updN u.2.1 L u.2.2) (L + 1) = 2 * vB 4294967296 y.2.1 L := pr_T hJ1 (by omega)
        have hN9 := hJy.2.2.2.2.1
        refine lv_aload_n hx hb d_Rsa_prepare_187 rfl (lv_at hl 0 rfl) ?_
        refine lv_aload_n hx hb d_Rsa_prepare_188 rfl (lv_at hl 0 rfl) ?_
        refine va_get (v := .ref sq) hx hb htb i_Rsa hown hK hP 0 rfl rfl 1 (by decide) (htb _ q1_86) (fun _ h9 => h9) rfl d_Rsa_prepare_189 ?_
        have hFc := va_free (wc := [(q0, .inr (7, [.ref mo, .ref sq, .ref ba, .ref po, .ref un, .ref su, .int (nI L), .long (lN iv)])), (mo, .inl (cJ, 64, .inr (.inl (lR nd)))), (su, .inl (cJ, 66, .inr (.inl (lR (updN u.2.1 L u.2.2))))), (sq, .inl (cJ, 64, .inr (.inl (lR y.2.1))))]) hD hS hA [0, 1, 3, 2] rfl
        refine va_callv (mu_runV (As := [.ref sq]) (rest := []) ⟨hx, hb, hml, hown, hts⟩ tbin (x_Rsa_settle l dC dI sb q0 mo sq ba po un su L (lN iv) cJ sq nd (updN u.2.1 L u.2.2) y.2.1 H186.size hL1 hL2 hn (up_lt hJ1.2.1 (by omega)) hJy.2.2.1 (by rw [hT9]; omega)) q5_205 q5_207 qp_24 q1_6 q5_208 (n := 1) (by decide +kernel) rfl ⟨rfl, rfl⟩ ⟨Nat.le_of_ble_eq_true rfl, Nat.le_of_ble_eq_true rfl⟩ ⟨Nat.le_of_ble_eq_true rfl, Nat.le_of_ble_eq_true rfl⟩ hN (hT0.keep hS hAs) hAs (Nat.le_trans hB0 hS.1) hK hP hD [0, 1, 3, 2] (by decide) rfl [0] rfl 0 7 rfl rfl rfl hl.1 rfl (Nat.le_of_ble_eq_true rfl) d_Rsa_prepare_192) hS (fun q _ h => hFc q h) hFc (fun u192 tS H192 locs ht hvm hw192 hB hz1 hk1 hS => ?_)
        obtain ⟨r192, rfl⟩ : ∃ z, z = u192 := ⟨_, rfl⟩
        obtain ⟨hP1, hK1, hD1⟩ := hB
        rw [ht] at hP1
        obtain ⟨hP, hD⟩ := va_join (wr := []) (w1 := [(q0, .inr (7, [.ref mo, .ref sq, .ref ba, .ref po, .ref un, .ref su, .int (nI L), .long (lN iv)])), (mo, .inl (cJ, 64, .inr (.inl (lR nd)))), (su, .inl (cJ, 66, .inr (.inl (lR (updN u.2.1 L u.2.2))))), (sq, .inl (cJ, 64, .inr (.inl (lR r192))))]) hP hD [0, 1, 3, 2] [] rfl rfl (by decide) (by decide) hk1 hFc hP1 hD1
        have hP : va_P (dC, dI) classes [(q0, .inr (7, [.ref mo, .ref sq, .ref ba, .ref po, .ref un, .ref su, .int (nI L), .long (lN iv)])), (mo, .inl (cJ, 64, .inr (.inl (lR nd)))), (su, .inl (cJ, 66, .inr (.inl (lR (updN u.2.1 L u.2.2))))), (sq, .inl (cJ, 64, .inr (.inl (lR r192))))] H192 := hP
        have hD : va_D A [(q0, .inr (7, [.ref mo, .ref sq, .ref ba, .ref po, .ref un, .ref su, .int (nI L), .long (lN iv)])), (mo, .inl (cJ, 64, .inr (.inl (lR nd)))), (su, .inl (cJ, 66, .inr (.inl (lR (updN u.2.1 L u.2.2))))), (sq, .inl (cJ, 64, .inr (.inl (lR r192))))] := hD
        refine lv_iinc (v := nI (y.1 + 1)) (lv' := [(5, .int (nI (y.1 + 1))), (0, .ref q0), (6, .long (lN u.2.2)), (8, .int (nI u.1))]) hx hb d_Rsa_prepare_195 hl (k := 1) rfl (nI_1 _) (by decide) rfl (fun ls hl => ?_)
        refine lv_goto (tgt := 109) hx hb d_Rsa_prepare_198 (by decide) ?_
        exact ihy (y.1 + 1, r192, updN u.2.1 L u.2.2) _ _ ls (by show 33 * L - (y.1 + 1) < 33 * L - y.1; omega) (⟨by show bz - 1 ≤ y.1 + 1; have h8 := hJy.1; omega, by show y.1 + 1 ≤ 33 * L; omega, hw192.1, up_lt hJ1.2.1 (by omega), hw192.2.2.1, pr_mod hT9 hJy.2.2.2.2.2 hw192.2.2.2⟩) (hP.sub [0, 1, 3, 2] rfl) (hD.sub [0, 1, 3, 2] (by decide) rfl) hS (lv_sub hl [1, 0] rfl)
      · have p133 : ¬ (L ≤ u.1) := (fun q9 => c133 ((nI_leI (a := L) (b := u.1) (by omega) (by omega)).mpr q9))
        refine lv_aload_n hx hb d_Rsa_prepare_136 rfl (lv_at hl 0 rfl) ?_
        refine va_get (v := .ref sq) hx hb htb i_Rsa hown hK hP 0 rfl rfl 1 (by decide) (htb _ q1_86) (fun _ h9 => h9) rfl d_Rsa_prepare_137 ?_
        refine lv_iload hx hb d_Rsa_prepare_140 (lv_at hl 3 rfl) ?_
        have h142 : vp_in (nI u.1) 64 := vp_in_nI (by omega) (by omega)
        refine va_lald hx hb hK hP 2 0 rfl rfl h142 d_Rsa_prepare_142 ?_
        rw [show lR y.2.1 (nI u.1).toNatClampNeg = lN (y.2.1 u.1) from by rw [nI_clamp (by omega)]; rfl]
        refine lv_iconst (v := 1) hx hb d_Rsa_prepare_143 (by decide) ?_
        refine lv_lshl (v := (lN (y.2.1 u.1)) <<< ((1 : Int32).toInt64 &&& 63)) hx hb d_Rsa_prepare_144 rfl ?_
        refine lv_lload hx hb d_Rsa_prepare_145 (lv_at hl 2 rfl) ?_
        refine lv_lor hx hb d_Rsa_prepare_147 ?_
        rw [show (((lN (y.2.1 u.1)) <<< ((1 : Int32).toInt64 &&& 63)) ||| (lN u.2.2) : Int64) = lN (2 * y.2.1 u.1 + u.2.2) from l_dbl (hJy.2.2.1 _) hJ1.2.2.1]
        refine lv_lstore (lv' := [(9, .long (lN (2 * y.2.1 u.1 + u.2.2))), (0, .ref q0), (5, .int (nI y.1)), (6, .long (lN u.2.2)), (8, .int (nI u.1))]) hx hb d_Rsa_prepare_148 hl (by decide) rfl (fun ls hl => ?_)
        refine lv_aload_n hx hb d_Rsa_prepare_150 rfl (lv_at hl 1 rfl) ?_
        refine va_get (v := .ref su) hx hb htb i_Rsa hown hK hP 0 rfl rfl 5 (by decide) (htb _ q1_90) (fun _ h9 => h9) rfl d_Rsa_prepare_151 ?_
        refine lv_iload hx hb d_Rsa_prepare_154 (lv_at hl 4 rfl) ?_
        refine lv_lload hx hb d_Rsa_prepare_156 (lv_at hl 0 rfl) ?_
        refine lv_ldc2 (v := 4294967295) hx hb hown (htb _ q5_202) d_Rsa_prepare_158 ?_
        refine lv_land hx hb d_Rsa_prepare_161 ?_
        rw [show (lN (2 * y.2.1 u.1 + u.2.2) &&& 4294967295 : Int64) = lN ((2 * y.2.1 u.1 + u.2.2) % 4294967296) from l_low (by have h1 := hJy.2.2.1 u.1; have h2 := hJ1.2.2.1; omega)]
        have h162 : vp_in (nI u.1) 66 := vp_in_nI (by omega) (by omega)
        refine va_last hx hb hK hP hD hS 3 0 rfl rfl h162 d_Rsa_prepare_162 (fun H162 locs hP hD hS => ?_)
        rw [nI_clamp (by omega), lR_up] at hP hD
        have hP : va_P (dC, dI) classes [(q0, .inr (7, [.ref mo, .ref sq, .ref ba, .ref po, .ref un, .ref su, .int (nI L), .long (lN iv)])), (mo, .inl (cJ, 64, .inr (.inl (lR nd)))), (sq, .inl (cJ, 64, .inr (.inl (lR y.2.1)))), (su, .inl (cJ, 66, .inr (.inl (lR (updN u.2.1 u.1 ((2 * y.2.1 u.1 + u.2.2) % 4294967296))))))] H162 := hP
        have hD : va_D A [(q0, .inr (7, [.ref mo, .ref sq, .ref ba, .ref po, .ref un, .ref su, .int (nI L), .long (lN iv)])), (mo, .inl (cJ, 64, .inr (.inl (lR nd)))), (sq, .inl (cJ, 64, .inr (.inl (lR y.2.1)))), (su, .inl (cJ, 66, .inr (.inl (lR (updN u.2.1 u.1 ((2 * y.2.1 u.1 + u.2.2) % 4294967296))))))] := hD
        refine lv_lload hx hb d_Rsa_prepare_163 (lv_at hl 0 rfl) ?_
        refine lv_bipush (v := 32) hx hb d_Rsa_prepare_165 (by decide) ?_
        refine lv_lushr (v := ((lN (2 * y.2.1 u.1 + u.2.2)).toUInt64 >>> ((32 : Int32).toInt64.toUInt64 &&& Int64.toUInt64 63)).toInt64) hx hb d_Rsa_prepare_167 rfl ?_
        rw [show (((lN (2 * y.2.1 u.1 + u.2.2)).toUInt64 >>> ((32 : Int32).toInt64.toUInt64 &&& Int64.toUInt64 63)).toInt64 : Int64) = lN ((2 * y.2.1 u.1 + u.2.2) / 4294967296) from l_hi (by have h1 := hJy.2.2.1 u.1; have h2 := hJ1.2.2.1; omega)]
        refine lv_lstore (lv' := [(6, .long (lN ((2 * y.2.1 u.1 + u.2.2) / 4294967296))), (9, .long (lN (2 * y.2.1 u.1 + u.2.2))), (0, .ref q0), (5, .int (nI y.1)), (8, .int (nI u.1))]) hx hb d_Rsa_prepare_168 hl (by decide) rfl (fun ls hl => ?_)
        refine lv_iinc (v := nI (u.1 + 1)) (lv' := [(8, .int (nI (u.1 + 1))), (6, .long (lN ((2 * y.2.1 u.1 + u.2.2) / 4294967296))), (9, .long (lN (2 * y.2.1 u.1 + u.2.2))), (0, .ref q0), (5, .int (nI y.1))]) hx hb d_Rsa_prepare_170 hl (k := 4) rfl (nI_1 _) (by decide) rfl (fun ls hl => ?_)
        refine lv_goto (tgt := 127) hx hb d_Rsa_prepare_173 (by decide) ?_
        exact ih1 (u.1 + 1, updN u.2.1 u.1 ((2 * y.2.1 u.1 + u.2.2) % 4294967296), (2 * y.2.1 u.1 + u.2.2) / 4294967296) _ _ ls (by show L - (u.1 + 1) < L - u.1; omega) (db_next (s := y.2.1) hJy.2.2.1 hJ1 (by omega) rfl) hP hD hS (lv_sub hl [3, 4, 1, 0] rfl)
  · have p18 : ¬ (5 ≤ z.1) := (fun q9 => c18 ((nI_leI (a := 5) (b := z.1) (by omega) (by omega)).mpr q9))
    refine lv_aload_n hx hb d_Rsa_prepare_21 rfl (lv_at hl 0 rfl) ?_
    refine lv_aload_n hx hb d_Rsa_prepare_22 rfl (lv_at hl 0 rfl) ?_
    refine va_get (v := .long z.2) hx hb htb i_Rsa hown hK hP 0 rfl rfl 7 (by decide) (htb _ q1_92) (fun _ h9 => h9) rfl d_Rsa_prepare_23 ?_
    refine lv_ldc2 (v := 2) hx hb hown (htb _ q5_201) d_Rsa_prepare_26 ?_
    refine lv_lload_n hx hb d_Rsa_prepare_29 rfl (lv_at hl 2 rfl) ?_
    refine lv_aload_n hx hb d_Rsa_prepare_30 rfl (lv_at hl 0 rfl) ?_
    refine va_get (v := .long z.2) hx hb htb i_Rsa hown hK hP 0 rfl rfl 7 (by decide) (htb _ q1_92) (fun _ h9 => h9) rfl d_Rsa_prepare_31 ?_
    refine lv_lmul hx hb d_Rsa_prepare_34 ?_
    refine lv_lsub hx hb d_Rsa_prepare_35 ?_
    refine lv_lmul hx hb d_Rsa_prepare_36 ?_
    refine va_put (v := .long (z.2 * (2 - ((lN (nd 0)) * z.2)))) (ty := .long) hx hb htb i_Rsa t_Rsa t_Rsa_ok n_Rsa hown hK hP hD hS 0 rfl rfl 7 (by decide) (htb _ q1_92) (fun _ h9 => h9) rfl (by decide +kernel) rfl rfl (Nat.le_of_ble_eq_true rfl) d_Rsa_prepare_37 (fun H37 locs hP hD hS => ?_)
    have hP : va_P (dC, dI) classes [(q0, .inr (7, [.ref mo, .ref sq, .ref ba, .ref po, .ref un, .ref su, .int (nI L), .long (z.2 * (2 - ((lN (nd 0)) * z.2)))])), (mo, .inl (cJ, 64, .inr (.inl (lR nd)))), (sq, .inl (cJ, 64, .inr (.inl (lR sqd)))), (su, .inl (cJ, 66, .inr (.inl (lR sd))))] H37 := hP
    have hD : va_D A [(q0, .inr (7, [.ref mo, .ref sq, .ref ba, .ref po, .ref un, .ref su, .int (nI L), .long (z.2 * (2 - ((lN (nd 0)) * z.2)))])), (mo, .inl (cJ, 64, .inr (.inl (lR nd)))), (sq, .inl (cJ, 64, .inr (.inl (lR sqd)))), (su, .inl (cJ, 66, .inr (.inl (lR sd))))] := hD
    refine lv_iinc (v := nI (z.1 + 1)) (lv' := [(4, .int (nI (z.1 + 1))), (0, .ref q0), (1, .int (nI bz)), (2, .long (lN (nd 0)))]) hx hb d_Rsa_prepare_40 hl (k := 3) rfl (nI_1 _) (by decide) rfl (fun ls hl => ?_)
    refine lv_goto (tgt := 15) hx hb d_Rsa_prepare_43 (by decide) ?_
    exact ih (z.1 + 1, z.2 * (2 - ((lN (nd 0)) * z.2))) _ _ ls (by show 5 - (z.1 + 1) < 5 - z.1; omega) (⟨by show z.1 + 1 ≤ 5; omega, nw_step hJ.2 (nwk_le z.1).1 (nwk_le z.1).2⟩) hP hD hS (lv_sub hl [1, 2, 3, 0] rfl)
