/-! The reference's limbs and reduced return. -/
theorem or_hi {a b : Nat} (ha : a < 256) (hb : b < 256) : (nI a ||| (nI b <<< ((8 : Int32) &&& 31))) = nI (a + 256 * b) := by
  have e0 : BitVec.smod ((8 : Int32) &&& 31).toBitVec 32 = BitVec.ofNat 32 8 := by decide
  apply Int32.toBitVec_inj.mp
  apply BitVec.eq_of_toNat_eq
  show ((nI a).toBitVec ||| ((nI b).toBitVec <<< (BitVec.smod ((8 : Int32) &&& 31).toBitVec 32))).toNat = (nI (a + 256 * b)).toBitVec.toNat
  have e1 : (nI a).toBitVec = BitVec.ofNat 32 a := rfl
  have e2 : (nI b).toBitVec = BitVec.ofNat 32 b := rfl
  have e3 : (nI (a + 256 * b)).toBitVec = BitVec.ofNat 32 (a + 256 * b) := rfl
  rw [e0, e1, e2, e3, BitVec.toNat_or, BitVec.shiftLeft_eq', BitVec.toNat_shiftLeft, BitVec.toNat_ofNat, BitVec.toNat_ofNat, BitVec.toNat_ofNat, BitVec.toNat_ofNat, Nat.mod_eq_of_lt (show 8 < 2 ^ 32 by omega), Nat.mod_eq_of_lt (show a < 2 ^ 32 by omega), Nat.mod_eq_of_lt (show b < 2 ^ 32 by omega), Nat.shiftLeft_eq, Nat.mod_eq_of_lt (show a + 256 * b < 2 ^ 32 by omega), Nat.mod_eq_of_lt (show b * 2 ^ 8 < 2 ^ 32 by omega)]
  rw [Nat.or_comm, Nat.mul_comm b]
  rw [← Nat.two_pow_add_eq_or_of_lt (show a < 2 ^ 8 by omega)]
  omega
theorem or_zero {a : Nat} : (nI a ||| (0 : Int32)) = nI a := by
  apply Int32.toBitVec_inj.mp
  show (nI a).toBitVec ||| 0#32 = (nI a).toBitVec
  simp
theorem nI_m2 {k j : Nat} (h : k = j + 2) : nI k + (-2) = nI j := by
  subst h
  rw [← nI_add]
  rw [Int32.add_assoc]
  rw [show nI 2 + (-2 : Int32) = 0 from by decide, Int32.add_zero]
def limA (f : Nat → Int32) (z N : Nat) : Prop := (∀ i, i < z → ∃ v, v < 65536 ∧ f i = nI v) ∧ (z = N → ∃ v, 1 ≤ v ∧ v < 65536 ∧ f (N - 1) = nI v)
theorem limA0 {f : Nat → Int32} {N : Nat} (h : 0 < N) : limA f 0 N := ⟨fun i h => absurd h (Nat.not_lt_zero _), fun e => absurd h (by rw [← e]; exact Nat.lt_irrefl _)⟩
theorem lim_step {f f' : Nat → Int32} {z v N : Nat} {X : Int32} (ef : f' = upd f (nI z).toNatClampNeg X) (hX : X = nI v) (hv : v < 65536) (hz : z < 2 ^ 20) (hJ : limA f z N) (hN : z + 1 = N → 1 ≤ v) : limA f' (z + 1) N := by
  have hJ := hJ.1
  rw [nI_clamp (by omega)] at ef
  have e0 : f' z = nI v := by rw [ef]; unfold upd; rw [if_pos rfl]; exact hX
  refine ⟨fun i hi => ?_, fun hN' => ⟨v, hN hN', hv, by rw [show N - 1 = z by omega]; exact e0⟩⟩
  by_cases h : i = z
  · rw [h]; exact ⟨v, hv, e0⟩
  · obtain ⟨w, h1, h2⟩ := hJ i (by omega)
    exact ⟨w, h1, by rw [ef]; unfold upd; rw [if_neg h]; exact h2⟩
theorem lim_top {f : Nat → Int32} {N k : Nat} (h1 : ∀ i, i < N → ∃ v, v < 65536 ∧ f i = nI v) (h2 : ∃ v, 1 ≤ v ∧ v < 65536 ∧ f (N - 1) = nI v) (h3 : k ≤ N) (h0 : 1 ≤ N) (h4 : 0 < k → f (k - 1) ≠ 0) (h5 : ∀ i, k ≤ i → i < N → f i = 0) : 1 ≤ k ∧ ∃ t, 1 ≤ t ∧ t < 65536 ∧ f (k - 1) = nI t := by
  have hk : 1 ≤ k := Classical.byContradiction (fun h => by
    obtain ⟨v, a1, a2, a3⟩ := h2
    have := h5 (N - 1) (by omega) (by omega)
    rw [this] at a3
    have := (nI_eq (a := 0) (b := v) (by omega) (by omega)).mp a3
    omega)
  refine ⟨hk, ?_⟩
  obtain ⟨v, a1, a2⟩ := h1 (k - 1) (by omega)
  refine ⟨v, Classical.byContradiction (fun h => ?_), a1, a2⟩
  have hv : v = 0 := by omega
  exact h4 hk (by rw [a2, hv]; rfl)
def y_Model_limbs : MethodName := ⟨"TrustChainModel", "limbs", "(LTrustChainModel$Text;II[I)I"⟩
abbrev b_Model_limbs : ByteArray := prog_14_method_27_code
def w_Model_limbs : List Cond := Cond.code y_Model_limbs b_Model_limbs 6 ((some FieldType.int)) :: tb
theorem d_Model_limbs_0 : decode b_Model_limbs 0 = .ok (.iconst 0, 1) := by decide +kernel
theorem d_Model_limbs_1 : decode b_Model_limbs 1 = .ok (.istore 4, 2) := by decide +kernel
theorem d_Model_limbs_3 : decode b_Model_limbs 3 = .ok (.iload_n 2, 1) := by decide +kernel
theorem d_Model_limbs_4 : decode b_Model_limbs 4 = .ok (.iconst 1, 1) := by decide +kernel
theorem d_Model_limbs_5 : decode b_Model_limbs 5 = .ok (.isub, 1) := by decide +kernel
theorem d_Model_limbs_6 : decode b_Model_limbs 6 = .ok (.istore 5, 2) := by decide +kernel
theorem d_Model_limbs_8 : decode b_Model_limbs 8 = .ok (.iload 5, 2) := by decide +kernel
theorem d_Model_limbs_10 : decode b_Model_limbs 10 = .ok (.iload_n 1, 1) := by decide +kernel
theorem d_Model_limbs_11 : decode b_Model_limbs 11 = .ok (.if_icmp .lt 46, 3) := by decide +kernel
theorem d_Model_limbs_14 : decode b_Model_limbs 14 = .ok (.aload_n 3, 1) := by decide +kernel
theorem d_Model_limbs_15 : decode b_Model_limbs 15 = .ok (.iload 4, 2) := by decide +kernel
theorem d_Model_limbs_17 : decode b_Model_limbs 17 = .ok (.iinc 4 1, 3) := by decide +kernel
theorem d_Model_limbs_20 : decode b_Model_limbs 20 = .ok (.aload_n 0, 1) := by decide +kernel
theorem d_Model_limbs_21 : decode b_Model_limbs 21 = .ok (.getfield 189, 3) := by decide +kernel
theorem d_Model_limbs_24 : decode b_Model_limbs 24 = .ok (.iload 5, 2) := by decide +kernel
theorem d_Model_limbs_26 : decode b_Model_limbs 26 = .ok (.iaload, 1) := by decide +kernel
theorem d_Model_limbs_27 : decode b_Model_limbs 27 = .ok (.iload 5, 2) := by decide +kernel
theorem d_Model_limbs_29 : decode b_Model_limbs 29 = .ok (.iload_n 1, 1) := by decide +kernel
theorem d_Model_limbs_30 : decode b_Model_limbs 30 = .ok (.if_icmp .le 18, 3) := by decide +kernel
theorem d_Model_limbs_33 : decode b_Model_limbs 33 = .ok (.aload_n 0, 1) := by decide +kernel
theorem d_Model_limbs_34 : decode b_Model_limbs 34 = .ok (.getfield 189, 3) := by decide +kernel
theorem d_Model_limbs_37 : decode b_Model_limbs 37 = .ok (.iload 5, 2) := by decide +kernel
theorem d_Model_limbs_39 : decode b_Model_limbs 39 = .ok (.iconst 1, 1) := by decide +kernel
theorem d_Model_limbs_40 : decode b_Model_limbs 40 = .ok (.isub, 1) := by decide +kernel
theorem d_Model_limbs_41 : decode b_Model_limbs 41 = .ok (.iaload, 1) := by decide +kernel
theorem d_Model_limbs_42 : decode b_Model_limbs 42 = .ok (.bipush 8, 2) := by decide +kernel
theorem d_Model_limbs_44 : decode b_Model_limbs 44 = .ok (.ishl, 1) := by decide +kernel
theorem d_Model_limbs_45 : decode b_Model_limbs 45 = .ok (.goto 4, 3) := by decide +kernel
theorem d_Model_limbs_48 : decode b_Model_limbs 48 = .ok (.iconst 0, 1) := by decide +kernel
theorem d_Model_limbs_49 : decode b_Model_limbs 49 = .ok (.ior, 1) := by decide +kernel
theorem d_Model_limbs_50 : decode b_Model_limbs 50 = .ok (.iastore, 1) := by decide +kernel
theorem d_Model_limbs_51 : decode b_Model_limbs 51 = .ok (.iinc 5 (-2), 3) := by decide +kernel
theorem d_Model_limbs_54 : decode b_Model_limbs 54 = .ok (.goto (-46), 3) := by decide +kernel
theorem d_Model_limbs_57 : decode b_Model_limbs 57 = .ok (.aload_n 3, 1) := by decide +kernel
theorem d_Model_limbs_58 : decode b_Model_limbs 58 = .ok (.iload 4, 2) := by decide +kernel
theorem d_Model_limbs_60 : decode b_Model_limbs 60 = .ok (.invokestatic 149, 3) := by decide +kernel
theorem d_Model_limbs_63 : decode b_Model_limbs 63 = .ok (.ireturn, 1) := by decide +kernel
set_option maxHeartbeats 4000000 in
set_option maxRecDepth 100000 in
theorem m_Model_limbs (l : Launch) (dC : Nat → ClassId) (dI : Nat → Nat → Nat) (sb : sB) (γ : cG) (κ : kE) (Ad : List Nat) (τ : Nat → TD) (gT : ClassId) (G : va_W) (t to : Nat) (a1 b1 : Nat) (sz : Nat) (hTy : TR γ κ Ad τ G) (kt : tK κ Ad t (20, 0, 0)) (kto : tK κ Ad to (6, 600, 0)) (hc_t : TB (τ t)) (h1 : 2 ≤ a1) (h2 : a1 < b1) (h3 : b1 ≤ 2048) (h4 : b1 ≤ a1 + 1000) : Met l y_Model_limbs w_Model_limbs ({ frames := 1, cells := 0, slots := 0, locals := 22 }) (mu_P [.ref t, .int (nI a1), .int (nI b1), .ref to] (dC, dI) sb G [(γ.1, .byte), (γ.2.1, .int), (γ.2.2.1, .long), (γ.2.2.2, .object "java/lang/Object"), (gT, .object "TrustChainModel$Text")] sz) (va_Qi (fun r (G' : va_W) => TR γ κ Ad τ G' ∧ FL Ad [] G G' ∧ (∃ k, k ≤ (b1 - a1 + 1) / 2 ∧ r = nI k)) (mu_B (dC, dI) [(γ.1, .byte), (γ.2.1, .int), (γ.2.2.1, .long), (γ.2.2.2, .object "java/lang/Object"), (gT, .object "TrustChainModel$Text")] (va_A G sz) (fun G' : va_W => G')) (va_A G sz)) 0 0 (va_A G sz) := by
  refine Met.ofW (cc := b_Model_limbs) (maxL := 6) (ret := (some FieldType.int)) (by decide) rfl ?_
  intro p e s m args below meth c s₁ B hml hv
  obtain ⟨rfl, hsz, hB0, hP, hK, hD0, hN, hT0⟩ := hv
  have hx := B.exec
  have hb := B.bytes
  have hr := B.returns
  have hts := atoms_spec (ws := w_Model_limbs) B.pre
  have tbin : ∀ w ∈ tb, w ∈ w_Model_limbs := fun w h => List.mem_cons_of_mem _ h
  have htb : ∀ w ∈ tb, w.before _ s = true := fun w h => hts w (tbin w h)
  have hown : s.vm.findClass "TrustChainModel" = some m.cls := findClass_of_methodNamed B.named
  have hlocks := B.notSynchronized
  subst hsz
  have hD := hD0.self (sz := s.heap.size)
  generalize hAe : va_A G s.heap.size = A at hD ⊢
  have hA : ∀ q : Nat, s.heap.size ≤ q → A q := fun q h => by rw [← hAe]; exact Or.inr h
  have hAs : ∀ q : Nat, A q → sb.1 ≤ q := fun q h => by
    rw [← hAe] at h
    rcases h with ⟨k, e, h⟩ | h
    · exact hD0.2 k _ h
    · exact Nat.le_trans hB0 h
  have hS : va_S A s.heap s.heap [] := va_S.rf
  have hFR := FL.rf Ad [] G
  have hcs : 0 ≤ (headSpec w_Model_limbs ({ frames := 1, cells := 0, slots := 0, locals := 22 })).room.cells ∧ 0 ≤ (headSpec w_Model_limbs ({ frames := 1, cells := 0, slots := 0, locals := 22 })).room.slots := ⟨Nat.le_refl _, Nat.le_refl _⟩
  have hP : va_P (dC, dI) classes G s.heap := hP
  have hl := lv_entry ([.ref t, .int (nI a1), .int (nI b1), .ref to]) (n := 6) (Nat.le_of_ble_eq_true rfl)
  rw [lg_entry_eq]
  generalize (lg_sl ([.ref t, .int (nI a1), .int (nI b1), .ref to]) ++ List.replicate (6 - (lg_sl ([.ref t, .int (nI a1), .int (nI b1), .ref to])).length) Slot.unset).toArray = ls at hl ⊢
  have hl : lv_has ls 6 [(0, .ref t), (1, .int (nI a1)), (2, .int (nI b1)), (3, .ref to)] := hl
  have b1_t := hc_t.b1
  have b2_t := hc_t.b2
  have b3_t := hc_t.b3
  refine lv_iconst (v := 0) hx hb d_Model_limbs_0 (by decide) ?_
  refine lv_istore (lv' := [(4, .int 0), (0, .ref t), (1, .int (nI a1)), (2, .int (nI b1)), (3, .ref to)]) hx hb d_Model_limbs_1 hl (by decide) rfl (fun ls hl => ?_)
  refine lv_iload_n hx hb d_Model_limbs_3 rfl (lv_at hl 3 rfl) ?_
  refine lv_iconst (v := 1) hx hb d_Model_limbs_4 (by decide) ?_
  refine lv_isub hx hb d_Model_limbs_5 ?_
  rw [show ((nI b1) - 1 : Int32) = nI (b1 - 1) from pk_sub (a := b1) (b := 1) (by omega)]
  refine lv_istore (lv' := [(5, .int (nI (b1 - 1))), (4, .int 0), (0, .ref t), (1, .int (nI a1)), (2, .int (nI b1)), (3, .ref to)]) hx hb d_Model_limbs_6 hl (by decide) rfl (fun ls hl => ?_)
  refine w_loopW (α := Nat × va_W) (fun a9 => 0 ≤ a9.1 ∧ a9.1 ≤ ((b1 - a1 + 1) / 2) ∧ TR γ κ Ad τ a9.2 ∧ FL Ad [] G a9.2) (fun a9 => ((b1 - a1 + 1) / 2) - a9.1) (fun a9 => [(5, .int (nI (b1 - 1 - 2 * a9.1))), (4, .int (nI a9.1)), (0, .ref t), (1, .int (nI a1)), (2, .int (nI b1)), (3, .ref to)]) (fun _ => []) (fun a9 => a9.2) 6 8 (fun a9 HL8 locs ls hJ hP hD hS hl ih8 => ?_) (0, G) _ _ ls ⟨by omega, by omega, hTy, hFR⟩ hP hD hS (lv_sub hl [0, 1, 2, 3, 4, 5] rfl)
  obtain ⟨z8, G8⟩ := a9
  obtain ⟨hy8, hz8, hTy, hFR⟩ := hJ
  dsimp only at hy8 hz8 hTy hFR  hP hD hl ih8
  refine lv_iload hx hb d_Model_limbs_8 (lv_at hl 0 rfl) ?_
  refine lv_iload_n hx hb d_Model_limbs_10 rfl (lv_at hl 3 rfl) ?_
  refine lv_icmp_lt (tgt := 57) hx hb d_Model_limbs_11 (by decide) (fun c11 => ?_) (fun c11 => ?_)
  · have p11 : (b1 - 1 - 2 * z8) < a1 := ((nI_ltI (a := (b1 - 1 - 2 * z8)) (b := a1) (by omega) (by omega)).mp c11)
    refine lv_aload_n hx hb d_Model_limbs_57 rfl (lv_at hl 5 rfl) ?_
    refine lv_iload hx hb d_Model_limbs_58 (lv_at hl 1 rfl) ?_
    refine vp_callSi (pu_callS (As := [.ref to, .int (nI z8)]) (rest := []) ⟨hx, hb, hml, hown, hts⟩ tbin (p_Model_trim l dC dI sb γ κ Ad τ gT G8 to _ _ hTy kto (by omega) (by omega)) q9_103 q9_104 q1_9 q9_105 (n := 2) (by decide +kernel) rfl ⟨rfl, rfl⟩ ⟨Nat.le_of_ble_eq_true rfl, Nat.le_of_ble_eq_true rfl⟩ ⟨Nat.le_of_ble_eq_true rfl, Nat.le_of_ble_eq_true rfl⟩ hN (hT0.keep hS hAs) hK hP (List.range G8.length) (rg_all G8) [0, 1, 2, 3, 4] rfl hl.1 rfl (Nat.le_of_ble_eq_true rfl) d_Model_limbs_60) (fun r60 hr60 => ?_)
    obtain ⟨k9, x9, y9⟩ := hr60
    exact W.iret (v := r60) hx hb hr (fun t ht hW => ⟨⟨_, G8, rfl, ⟨hTy, hFR, ⟨k9, by omega, y9⟩⟩, by rw [ht]; exact hP, va_K.moved hW.alike hK, hD⟩, hS.F ht⟩) hS.2.2 d_Model_limbs_63
  · have p11 : ¬ ((b1 - 1 - 2 * z8) < a1) := (fun q9 => c11 ((nI_ltI (a := (b1 - 1 - 2 * z8)) (b := a1) (by omega) (by omega)).mpr q9))
    refine lv_aload_n hx hb d_Model_limbs_14 rfl (lv_at hl 5 rfl) ?_
    refine lv_iload hx hb d_Model_limbs_15 (lv_at hl 1 rfl) ?_
    refine lv_iinc (v := nI (z8 + 1)) (lv' := [(4, .int (nI (z8 + 1))), (5, .int (nI (b1 - 1 - 2 * z8))), (0, .ref t), (1, .int (nI a1)), (2, .int (nI b1)), (3, .ref to)]) hx hb d_Model_limbs_17 hl (k := 1) rfl (nI_1 _) (by decide) rfl (fun ls hl => ?_)
    refine lv_aload_n hx hb d_Model_limbs_20 rfl (lv_at hl 2 rfl) ?_
    obtain ⟨i_1, kA_1, hg_1⟩ := tr_20 hTy kt
    refine va_get (v := .ref ((τ t).A 0)) hx hb htb i_Text hown hK hP i_1 hg_1 rfl 0 (by decide) (htb _ q6_179) (fun _ h9 => h9) rfl d_Model_limbs_21 ?_
    refine lv_iload hx hb d_Model_limbs_24 (lv_at hl 1 rfl) ?_
    obtain ⟨i_2, hg_2⟩ := tr_18 hTy (kA_1 0 (by decide))
    have hg_2 : G8[i_2]? = some (((τ t).A 0), .inl (γ.2.1, 2048, .inl ((τ t).D 0))) := hg_2
    have h26 : vp_in (nI (b1 - 1 - 2 * z8)) 2048 := vp_in_nI (by omega) (by omega)
    refine va_iald hx hb hK hP i_2 1 hg_2 rfl h26 d_Model_limbs_26 ?_
    refine lv_topi (fun e26 he26 => ?_)
    rw [hc_t.d, nI_clamp (by omega)] at he26
    obtain ⟨b26, hb26, hv26⟩ : ∃ b, b < 256 ∧ b = (τ t).u (b1 - 1 - 2 * z8) := ⟨_, hc_t.hu _, rfl⟩
    have he26 : e26 = nI b26 := by rw [he26, hv26]; rfl
    subst he26
    refine lv_iload hx hb d_Model_limbs_27 (lv_at hl 1 rfl) ?_
    refine lv_iload_n hx hb d_Model_limbs_29 rfl (lv_at hl 3 rfl) ?_
    refine lv_icmp_le (tgt := 48) hx hb d_Model_limbs_30 (by decide) (fun c30 => ?_) (fun c30 => ?_)
    · have p30 : (b1 - 1 - 2 * z8) ≤ a1 := ((nI_leI (a := (b1 - 1 - 2 * z8)) (b := a1) (by omega) (by omega)).mp c30)
      refine lv_iconst (v := 0) hx hb d_Model_limbs_48 (by decide) ?_
      refine lv_ior hx hb d_Model_limbs_49 ?_
      rw [show ((nI b26) ||| 0 : Int32) = nI b26 from or_zero]
      obtain ⟨i_3, f_3, hn_3, hg_3⟩ := tr_6 hTy kto
      have h50 : vp_in (nI z8) 600 := vp_in_nI (by omega) (by omega)
      refine va_iast hx hb hK hP hD hS i_3 1 hg_3 rfl h50 d_Model_limbs_50 (fun H50 locs hP hD2 hS => ?_)
      have hP : va_P (dC, dI) classes (G8.set i_3 (to, .inl (γ.2.1, 600, .inl (upd f_3 (nI z8).toNatClampNeg (nI b26))))) H50 := hP
      have hD3 : va_D A (G8.set i_3 (to, .inl (γ.2.1, 600, .inl (upd f_3 (nI z8).toNatClampNeg (nI b26))))) := hD2
      have hF1 := FR.set (c' := .inl (γ.2.1, 600, .inl (upd f_3 (nI z8).toNatClampNeg (nI b26)))) hg_3 kto.1
      have hFR := hFR.tr hF1.l
      clear hF1
      have hTy := TR.set (c' := .inl (γ.2.1, 600, .inl (upd f_3 (nI z8).toNatClampNeg (nI b26)))) hTy hg_3 (okr_6 kto hn_3 _)
      have hD := hD3
      have hg_1 := set_keep (c' := .inl (γ.2.1, 600, .inl (upd f_3 (nI z8).toNatClampNeg (nI b26)))) hg_3 hg_1 (tK.ne kto kt (show (6 : Nat) ≠ 20 by decide))
      have hg_2 := set_keep (c' := .inl (γ.2.1, 600, .inl (upd f_3 (nI z8).toNatClampNeg (nI b26)))) hg_3 hg_2 (tK.ne kto (kA_1 0 (by decide)) (show (6 : Nat) ≠ 18 by decide))
      clear hD3 hD2
      generalize G8.set i_3 (to, .inl (γ.2.1, 600, .inl (upd f_3 (nI z8).toNatClampNeg (nI b26)))) = G_4 at hP hD hTy hFR  hg_1 hg_2
      refine lv_iinc (v := nI (b1 - 1 - 2 * (z8 + 1))) (lv' := [(5, .int (nI (b1 - 1 - 2 * (z8 + 1)))), (4, .int (nI (z8 + 1))), (0, .ref t), (1, .int (nI a1)), (2, .int (nI b1)), (3, .ref to)]) hx hb d_Model_limbs_51 hl (k := 1) rfl (nI_m2 (by omega)) (by decide) rfl (fun ls hl => ?_)
      refine lv_goto (tgt := 8) hx hb d_Model_limbs_54 (by decide) ?_
      exact ih8 (z8 + 1, G_4) _ _ ls (by dsimp only; omega) ⟨by dsimp only; omega, by dsimp only; omega, hTy, hFR⟩ hP hD hS (lv_sub hl [0, 1, 2, 3, 4, 5] rfl)
    · have p30 : ¬ ((b1 - 1 - 2 * z8) ≤ a1) := (fun q9 => c30 ((nI_leI (a := (b1 - 1 - 2 * z8)) (b := a1) (by omega) (by omega)).mpr q9))
      refine lv_aload_n hx hb d_Model_limbs_33 rfl (lv_at hl 2 rfl) ?_
      refine va_get (v := .ref ((τ t).A 0)) hx hb htb i_Text hown hK hP i_1 hg_1 rfl 0 (by decide) (htb _ q6_179) (fun _ h9 => h9) rfl d_Model_limbs_34 ?_
      refine lv_iload hx hb d_Model_limbs_37 (lv_at hl 1 rfl) ?_
      refine lv_iconst (v := 1) hx hb d_Model_limbs_39 (by decide) ?_
      refine lv_isub hx hb d_Model_limbs_40 ?_
      rw [show ((nI (b1 - 1 - 2 * z8)) - 1 : Int32) = nI ((b1 - 1 - 2 * z8) - 1) from pk_sub (a := (b1 - 1 - 2 * z8)) (b := 1) (by omega)]
      have h41 : vp_in (nI ((b1 - 1 - 2 * z8) - 1)) 2048 := vp_in_nI (by omega) (by omega)
      refine va_iald hx hb hK hP i_2 1 hg_2 rfl h41 d_Model_limbs_41 ?_
      refine lv_topi (fun e41 he41 => ?_)
      rw [hc_t.d, nI_clamp (by omega)] at he41
      obtain ⟨b41, hb41, hv41⟩ : ∃ b, b < 256 ∧ b = (τ t).u ((b1 - 1 - 2 * z8) - 1) := ⟨_, hc_t.hu _, rfl⟩
      have he41 : e41 = nI b41 := by rw [he41, hv41]; rfl
      subst he41
      refine lv_bipush (v := 8) hx hb d_Model_limbs_42 (by decide) ?_
      refine lv_ishl hx hb d_Model_limbs_44 ?_
      refine lv_goto (tgt := 49) hx hb d_Model_limbs_45 (by decide) ?_
      refine lv_ior hx hb d_Model_limbs_49 ?_
      rw [show ((nI b26) ||| ((nI b41) <<< (8 &&& 31)) : Int32) = nI (b26 + 256 * b41) from or_hi hb26 hb41]
      obtain ⟨i_5, f_5, hn_5, hg_5⟩ := tr_6 hTy kto
      have h50 : vp_in (nI z8) 600 := vp_in_nI (by omega) (by omega)
      refine va_iast hx hb hK hP hD hS i_5 1 hg_5 rfl h50 d_Model_limbs_50 (fun H50 locs hP hD2 hS => ?_)
      have hP : va_P (dC, dI) classes (G8.set i_5 (to, .inl (γ.2.1, 600, .inl (upd f_5 (nI z8).toNatClampNeg (nI (b26 + 256 * b41)))))) H50 := hP
      have hD3 : va_D A (G8.set i_5 (to, .inl (γ.2.1, 600, .inl (upd f_5 (nI z8).toNatClampNeg (nI (b26 + 256 * b41)))))) := hD2
      have hF1 := FR.set (c' := .inl (γ.2.1, 600, .inl (upd f_5 (nI z8).toNatClampNeg (nI (b26 + 256 * b41))))) hg_5 kto.1
      have hFR := hFR.tr hF1.l
      clear hF1
      have hTy := TR.set (c' := .inl (γ.2.1, 600, .inl (upd f_5 (nI z8).toNatClampNeg (nI (b26 + 256 * b41))))) hTy hg_5 (okr_6 kto hn_5 _)
      have hD := hD3
      have hg_1 := set_keep (c' := .inl (γ.2.1, 600, .inl (upd f_5 (nI z8).toNatClampNeg (nI (b26 + 256 * b41))))) hg_5 hg_1 (tK.ne kto kt (show (6 : Nat) ≠ 20 by decide))
      have hg_2 := set_keep (c' := .inl (γ.2.1, 600, .inl (upd f_5 (nI z8).toNatClampNeg (nI (b26 + 256 * b41))))) hg_5 hg_2 (tK.ne kto (kA_1 0 (by decide)) (show (6 : Nat) ≠ 18 by decide))
      clear hD3 hD2
      generalize G8.set i_5 (to, .inl (γ.2.1, 600, .inl (upd f_5 (nI z8).toNatClampNeg (nI (b26 + 256 * b41))))) = G_6 at hP hD hTy hFR  hg_1 hg_2
      refine lv_iinc (v := nI (b1 - 1 - 2 * (z8 + 1))) (lv' := [(5, .int (nI (b1 - 1 - 2 * (z8 + 1)))), (4, .int (nI (z8 + 1))), (0, .ref t), (1, .int (nI a1)), (2, .int (nI b1)), (3, .ref to)]) hx hb d_Model_limbs_51 hl (k := 1) rfl (nI_m2 (by omega)) (by decide) rfl (fun ls hl => ?_)
      refine lv_goto (tgt := 8) hx hb d_Model_limbs_54 (by decide) ?_
      exact ih8 (z8 + 1, G_6) _ _ ls (by dsimp only; omega) ⟨by dsimp only; omega, by dsimp only; omega, hTy, hFR⟩ hP hD hS (lv_sub hl [0, 1, 2, 3, 4, 5] rfl)
set_option maxHeartbeats 4000000 in
set_option maxRecDepth 100000 in
theorem mx_Model_limbs (l : Launch) (dC : Nat → ClassId) (dI : Nat → Nat → Nat) (sb : sB) (γ : cG) (κ : kE) (Ad : List Nat) (τ : Nat → TD) (gT : ClassId) (G : va_W) (t mmA : Nat) (a1 b1 : Nat) (fm : Nat → Int32) (sz : Nat) (hTy : TR γ κ Ad τ G) (kt : tK κ Ad t (20, 0, 0)) (kmmA : Xc Ad mmA (.inl (γ.2.1, 600, .inl fm)) G) (hc_t : TB (τ t)) (h1 : 2 ≤ a1) (h2 : a1 < b1) (h3 : b1 ≤ 2048) (h4 : b1 ≤ a1 + 1000) (htop : 1 ≤ (τ t).u a1) : Met l y_Model_limbs w_Model_limbs ({ frames := 1, cells := 0, slots := 0, locals := 22 }) (mu_P [.ref t, .int (nI a1), .int (nI b1), .ref mmA] (dC, dI) sb G [(γ.1, .byte), (γ.2.1, .int), (γ.2.2.1, .long), (γ.2.2.2, .object "java/lang/Object"), (gT, .object "TrustChainModel$Text")] sz) (va_Qi (fun r (G' : va_W) => TR γ κ Ad τ G' ∧ FL Ad [mmA] G G' ∧ (∃ (k : Nat) (f9 : Nat → Int32), r = nI k ∧ 1 ≤ k ∧ k ≤ (b1 - a1 + 1) / 2 ∧ (∃ t, 1 ≤ t ∧ t < 65536 ∧ f9 (k - 1) = nI t) ∧ Xc Ad mmA (.inl (γ.2.1, 600, .inl f9)) G')) (mu_B (dC, dI) [(γ.1, .byte), (γ.2.1, .int), (γ.2.2.1, .long), (γ.2.2.2, .object "java/lang/Object"), (gT, .object "TrustChainModel$Text")] (va_A G sz) (fun G' : va_W => G')) (va_A G sz)) 0 0 (va_A G sz) := by
  refine Met.ofW (cc := b_Model_limbs) (maxL := 6) (ret := (some FieldType.int)) (by decide) rfl ?_
  intro p e s m args below meth c s₁ B hml hv
  obtain ⟨rfl, hsz, hB0, hP, hK, hD0, hN, hT0⟩ := hv
  have hx := B.exec
  have hb := B.bytes
  have hr := B.returns
  have hts := atoms_spec (ws := w_Model_limbs) B.pre
  have tbin : ∀ w ∈ tb, w ∈ w_Model_limbs := fun w h => List.mem_cons_of_mem _ h
  have htb : ∀ w ∈ tb, w.before _ s = true := fun w h => hts w (tbin w h)
  have hown : s.vm.findClass "TrustChainModel" = some m.cls := findClass_of_methodNamed B.named
  have hlocks := B.notSynchronized
  subst hsz
  have hD := hD0.self (sz := s.heap.size)
  generalize hAe : va_A G s.heap.size = A at hD ⊢
  have hA : ∀ q : Nat, s.heap.size ≤ q → A q := fun q h => by rw [← hAe]; exact Or.inr h
  have hAs : ∀ q : Nat, A q → sb.1 ≤ q := fun q h => by
    rw [← hAe] at h
    rcases h with ⟨k, e, h⟩ | h
    · exact hD0.2 k _ h
    · exact Nat.le_trans hB0 h
  have hS : va_S A s.heap s.heap [] := va_S.rf
  have hFR := FL.rf Ad [mmA] G
  have hcs : 0 ≤ (headSpec w_Model_limbs ({ frames := 1, cells := 0, slots := 0, locals := 22 })).room.cells ∧ 0 ≤ (headSpec w_Model_limbs ({ frames := 1, cells := 0, slots := 0, locals := 22 })).room.slots := ⟨Nat.le_refl _, Nat.le_refl _⟩
  have hP : va_P (dC, dI) classes G s.heap := hP
  have hl := lv_entry ([.ref t, .int (nI a1), .int (nI b1), .ref mmA]) (n := 6) (Nat.le_of_ble_eq_true rfl)
  rw [lg_entry_eq]
  generalize (lg_sl ([.ref t, .int (nI a1), .int (nI b1), .ref mmA]) ++ List.replicate (6 - (lg_sl ([.ref t, .int (nI a1), .int (nI b1), .ref mmA])).length) Slot.unset).toArray = ls at hl ⊢
  have hl : lv_has ls 6 [(0, .ref t), (1, .int (nI a1)), (2, .int (nI b1)), (3, .ref mmA)] := hl
  have b1_t := hc_t.b1
  have b2_t := hc_t.b2
  have b3_t := hc_t.b3
  refine lv_iconst (v := 0) hx hb d_Model_limbs_0 (by decide) ?_
  refine lv_istore (lv' := [(4, .int 0), (0, .ref t), (1, .int (nI a1)), (2, .int (nI b1)), (3, .ref mmA)]) hx hb d_Model_limbs_1 hl (by decide) rfl (fun ls hl => ?_)
  refine lv_iload_n hx hb d_Model_limbs_3 rfl (lv_at hl 3 rfl) ?_
  refine lv_iconst (v := 1) hx hb d_Model_limbs_4 (by decide) ?_
  refine lv_isub hx hb d_Model_limbs_5 ?_
  rw [show ((nI b1) - 1 : Int32) = nI (b1 - 1) from pk_sub (a := b1) (b := 1) (by omega)]
  refine lv_istore (lv' := [(5, .int (nI (b1 - 1))), (4, .int 0), (0, .ref t), (1, .int (nI a1)), (2, .int (nI b1)), (3, .ref mmA)]) hx hb d_Model_limbs_6 hl (by decide) rfl (fun ls hl => ?_)
  refine w_loopW (α := Nat × (Nat → Int32) × va_W) (fun a9 => 0 ≤ a9.1 ∧ a9.1 ≤ ((b1 - a1 + 1) / 2) ∧ TR γ κ Ad τ a9.2.2 ∧ FL Ad [mmA] G a9.2.2 ∧ Xc Ad mmA (.inl (γ.2.1, 600, .inl a9.2.1)) a9.2.2 ∧ (limA a9.2.1 a9.1 ((b1 - a1 + 1) / 2))) (fun a9 => ((b1 - a1 + 1) / 2) - a9.1) (fun a9 => [(5, .int (nI (b1 - 1 - 2 * a9.1))), (4, .int (nI a9.1)), (0, .ref t), (1, .int (nI a1)), (2, .int (nI b1)), (3, .ref mmA)]) (fun _ => []) (fun a9 => a9.2.2) 6 8 (fun a9 HL8 locs ls hJ hP hD hS hl ih8 => ?_) (0, fm, G) _ _ ls ⟨by omega, by omega, hTy, hFR, kmmA, limA0 (by omega)⟩ hP hD hS (lv_sub hl [0, 1, 2, 3, 4, 5] rfl)
  obtain ⟨z8, f8_mmA, G8⟩ := a9
  obtain ⟨hy8, hz8, hTy, hFR, kmmA, hJ8⟩ := hJ
  dsimp only at hy8 hz8 hTy hFR kmmA hP hD hl ih8 hJ8
  refine lv_iload hx hb d_Model_limbs_8 (lv_at hl 0 rfl) ?_
  refine lv_iload_n hx hb d_Model_limbs_10 rfl (lv_at hl 3 rfl) ?_
  refine lv_icmp_lt (tgt := 57) hx hb d_Model_limbs_11 (by decide) (fun c11 => ?_) (fun c11 => ?_)
  · have p11 : (b1 - 1 - 2 * z8) < a1 := ((nI_ltI (a := (b1 - 1 - 2 * z8)) (b := a1) (by omega) (by omega)).mp c11)
    refine lv_aload_n hx hb d_Model_limbs_57 rfl (lv_at hl 5 rfl) ?_
    refine lv_iload hx hb d_Model_limbs_58 (lv_at hl 1 rfl) ?_
    refine vp_callSi (pu_callS (As := [.ref mmA, .int (nI z8)]) (rest := []) ⟨hx, hb, hml, hown, hts⟩ tbin (px_Model_trim l dC dI sb γ κ Ad τ gT G8 mmA _ _ _ hTy kmmA (by omega) (by omega)) q9_103 q9_104 q1_9 q9_105 (n := 2) (by decide +kernel) rfl ⟨rfl, rfl⟩ ⟨Nat.le_of_ble_eq_true rfl, Nat.le_of_ble_eq_true rfl⟩ ⟨Nat.le_of_ble_eq_true rfl, Nat.le_of_ble_eq_true rfl⟩ hN (hT0.keep hS hAs) hK hP (List.range G8.length) (rg_all G8) [0, 1, 2, 3, 4] rfl hl.1 rfl (Nat.le_of_ble_eq_true rfl) d_Model_limbs_60) (fun r60 hr60 => ?_)
    obtain ⟨k9, x9, y9, x2, x3⟩ := hr60
    have eN : z8 = (b1 - a1 + 1) / 2 := by omega
    have hA9 := hJ8.1
    have hB9 := hJ8.2 eN
    rw [eN] at hA9 x9 x3
    have hN9 : 1 ≤ (b1 - a1 + 1) / 2 := by clear hA9 hB9; omega
    have q9 := lim_top hA9 hB9 x9 hN9 x2 x3
    exact W.iret (v := r60) hx hb hr (fun t ht hW => ⟨⟨_, G8, rfl, ⟨hTy, hFR, ⟨k9, _, y9, q9.1, x9, q9.2, kmmA⟩⟩, by rw [ht]; exact hP, va_K.moved hW.alike hK, hD⟩, hS.F ht⟩) hS.2.2 d_Model_limbs_63
  · have p11 : ¬ ((b1 - 1 - 2 * z8) < a1) := (fun q9 => c11 ((nI_ltI (a := (b1 - 1 - 2 * z8)) (b := a1) (by omega) (by omega)).mpr q9))
    refine lv_aload_n hx hb d_Model_limbs_14 rfl (lv_at hl 5 rfl) ?_
    refine lv_iload hx hb d_Model_limbs_15 (lv_at hl 1 rfl) ?_
    refine lv_iinc (v := nI (z8 + 1)) (lv' := [(4, .int (nI (z8 + 1))), (5, .int (nI (b1 - 1 - 2 * z8))), (0, .ref t), (1, .int (nI a1)), (2, .int (nI b1)), (3, .ref mmA)]) hx hb d_Model_limbs_17 hl (k := 1) rfl (nI_1 _) (by decide) rfl (fun ls hl => ?_)
    refine lv_aload_n hx hb d_Model_limbs_20 rfl (lv_at hl 2 rfl) ?_
    obtain ⟨i_1, kA_1, hg_1⟩ := tr_20 hTy kt
    refine va_get (v := .ref ((τ t).A 0)) hx hb htb i_Text hown hK hP i_1 hg_1 rfl 0 (by decide) (htb _ q6_179) (fun _ h9 => h9) rfl d_Model_limbs_21 ?_
    refine lv_iload hx hb d_Model_limbs_24 (lv_at hl 1 rfl) ?_
    obtain ⟨i_2, hg_2⟩ := tr_18 hTy (kA_1 0 (by decide))
    have hg_2 : G8[i_2]? = some (((τ t).A 0), .inl (γ.2.1, 2048, .inl ((τ t).D 0))) := hg_2
    have h26 : vp_in (nI (b1 - 1 - 2 * z8)) 2048 := vp_in_nI (by omega) (by omega)
    refine va_iald hx hb hK hP i_2 1 hg_2 rfl h26 d_Model_limbs_26 ?_
    refine lv_topi (fun e26 he26 => ?_)
    rw [hc_t.d, nI_clamp (by omega)] at he26
    obtain ⟨b26, hb26, hv26⟩ : ∃ b, b < 256 ∧ b = (τ t).u (b1 - 1 - 2 * z8) := ⟨_, hc_t.hu _, rfl⟩
    have he26 : e26 = nI b26 := by rw [he26, hv26]; rfl
    subst he26
    refine lv_iload hx hb d_Model_limbs_27 (lv_at hl 1 rfl) ?_
    refine lv_iload_n hx hb d_Model_limbs_29 rfl (lv_at hl 3 rfl) ?_
    refine lv_icmp_le (tgt := 48) hx hb d_Model_limbs_30 (by decide) (fun c30 => ?_) (fun c30 => ?_)
    · have p30 : (b1 - 1 - 2 * z8) ≤ a1 := ((nI_leI (a := (b1 - 1 - 2 * z8)) (b := a1) (by omega) (by omega)).mp c30)
      refine lv_iconst (v := 0) hx hb d_Model_limbs_48 (by decide) ?_
      refine lv_ior hx hb d_Model_limbs_49 ?_
      rw [show ((nI b26) ||| 0 : Int32) = nI b26 from or_zero]
      obtain ⟨i_3, hg_3⟩ := List.getElem?_of_mem kmmA.2
      have h50 : vp_in (nI z8) 600 := vp_in_nI (by omega) (by omega)
      refine va_iast hx hb hK hP hD hS i_3 1 hg_3 rfl h50 d_Model_limbs_50 (fun H50 locs hP hD2 hS => ?_)
      obtain ⟨f50, ef50⟩ : ∃ z : Nat → Int32, z = upd f8_mmA (nI z8).toNatClampNeg (nI b26) := ⟨_, rfl⟩
      rw [← ef50] at hP hD2
      have hP : va_P (dC, dI) classes (G8.set i_3 (mmA, .inl (γ.2.1, 600, .inl f50))) H50 := hP
      have hD3 : va_D A (G8.set i_3 (mmA, .inl (γ.2.1, 600, .inl f50))) := hD2
      have hTy := TR.setX (c' := .inl (γ.2.1, 600, .inl f50)) hTy hg_3 kmmA.1
      have hFR := hFR.tr (FL.set (Ad := Ad) (X := [mmA]) (c' := .inl (γ.2.1, 600, .inl f50)) hg_3 (by simp))
      have hg_3 := set_here (c' := .inl (γ.2.1, 600, .inl f50)) hg_3
      have kmmA : Xc Ad mmA (.inl (γ.2.1, 600, .inl f50)) (G8.set i_3 (mmA, .inl (γ.2.1, 600, .inl f50))) := ⟨kmmA.1, List.mem_of_getElem? hg_3⟩
      have hD := hD3
      clear hD3 hD2
      generalize G8.set i_3 (mmA, .inl (γ.2.1, 600, .inl f50)) = G_4 at hP hD hTy hFR kmmA hg_3
      refine lv_iinc (v := nI (b1 - 1 - 2 * (z8 + 1))) (lv' := [(5, .int (nI (b1 - 1 - 2 * (z8 + 1)))), (4, .int (nI (z8 + 1))), (0, .ref t), (1, .int (nI a1)), (2, .int (nI b1)), (3, .ref mmA)]) hx hb d_Model_limbs_51 hl (k := 1) rfl (nI_m2 (by omega)) (by decide) rfl (fun ls hl => ?_)
      refine lv_goto (tgt := 8) hx hb d_Model_limbs_54 (by decide) ?_
      exact ih8 (z8 + 1, f50, G_4) _ _ ls (by dsimp only; omega) ⟨by dsimp only; omega, by dsimp only; omega, hTy, hFR, kmmA, lim_step (v := b26) ef50 rfl (by omega) (by omega) hJ8 (fun hN => by rw [show b1 - 1 - 2 * z8 = a1 by omega] at hv26; rw [← hv26] at htop; omega)⟩ hP hD hS (lv_sub hl [0, 1, 2, 3, 4, 5] rfl)
    · have p30 : ¬ ((b1 - 1 - 2 * z8) ≤ a1) := (fun q9 => c30 ((nI_leI (a := (b1 - 1 - 2 * z8)) (b := a1) (by omega) (by omega)).mpr q9))
      refine lv_aload_n hx hb d_Model_limbs_33 rfl (lv_at hl 2 rfl) ?_
      refine va_get (v := .ref ((τ t).A 0)) hx hb htb i_Text hown hK hP i_1 hg_1 rfl 0 (by decide) (htb _ q6_179) (fun _ h9 => h9) rfl d_Model_limbs_34 ?_
      refine lv_iload hx hb d_Model_limbs_37 (lv_at hl 1 rfl) ?_
      refine lv_iconst (v := 1) hx hb d_Model_limbs_39 (by decide) ?_
      refine lv_isub hx hb d_Model_limbs_40 ?_
      rw [show ((nI (b1 - 1 - 2 * z8)) - 1 : Int32) = nI ((b1 - 1 - 2 * z8) - 1) from pk_sub (a := (b1 - 1 - 2 * z8)) (b := 1) (by omega)]
      have h41 : vp_in (nI ((b1 - 1 - 2 * z8) - 1)) 2048 := vp_in_nI (by omega) (by omega)
      refine va_iald hx hb hK hP i_2 1 hg_2 rfl h41 d_Model_limbs_41 ?_
      refine lv_topi (fun e41 he41 => ?_)
      rw [hc_t.d, nI_clamp (by omega)] at he41
      obtain ⟨b41, hb41, hv41⟩ : ∃ b, b < 256 ∧ b = (τ t).u ((b1 - 1 - 2 * z8) - 1) := ⟨_, hc_t.hu _, rfl⟩
      have he41 : e41 = nI b41 := by rw [he41, hv41]; rfl
      subst he41
      refine lv_bipush (v := 8) hx hb d_Model_limbs_42 (by decide) ?_
      refine lv_ishl hx hb d_Model_limbs_44 ?_
      refine lv_goto (tgt := 49) hx hb d_Model_limbs_45 (by decide) ?_
      refine lv_ior hx hb d_Model_limbs_49 ?_
      rw [show ((nI b26) ||| ((nI b41) <<< (8 &&& 31)) : Int32) = nI (b26 + 256 * b41) from or_hi hb26 hb41]
      obtain ⟨i_5, hg_5⟩ := List.getElem?_of_mem kmmA.2
      have h50 : vp_in (nI z8) 600 := vp_in_nI (by omega) (by omega)
      refine va_iast hx hb hK hP hD hS i_5 1 hg_5 rfl h50 d_Model_limbs_50 (fun H50 locs hP hD2 hS => ?_)
      obtain ⟨f50, ef50⟩ : ∃ z : Nat → Int32, z = upd f8_mmA (nI z8).toNatClampNeg (nI (b26 + 256 * b41)) := ⟨_, rfl⟩
      rw [← ef50] at hP hD2
      have hP : va_P (dC, dI) classes (G8.set i_5 (mmA, .inl (γ.2.1, 600, .inl f50))) H50 := hP
      have hD3 : va_D A (G8.set i_5 (mmA, .inl (γ.2.1, 600, .inl f50))) := hD2
      have hTy := TR.setX (c' := .inl (γ.2.1, 600, .inl f50)) hTy hg_5 kmmA.1
      have hFR := hFR.tr (FL.set (Ad := Ad) (X := [mmA]) (c' := .inl (γ.2.1, 600, .inl f50)) hg_5 (by simp))
      have hg_5 := set_here (c' := .inl (γ.2.1, 600, .inl f50)) hg_5
      have kmmA : Xc Ad mmA (.inl (γ.2.1, 600, .inl f50)) (G8.set i_5 (mmA, .inl (γ.2.1, 600, .inl f50))) := ⟨kmmA.1, List.mem_of_getElem? hg_5⟩
      have hD := hD3
      clear hD3 hD2
      generalize G8.set i_5 (mmA, .inl (γ.2.1, 600, .inl f50)) = G_6 at hP hD hTy hFR kmmA hg_5
      refine lv_iinc (v := nI (b1 - 1 - 2 * (z8 + 1))) (lv' := [(5, .int (nI (b1 - 1 - 2 * (z8 + 1)))), (4, .int (nI (z8 + 1))), (0, .ref t), (1, .int (nI a1)), (2, .int (nI b1)), (3, .ref mmA)]) hx hb d_Model_limbs_51 hl (k := 1) rfl (nI_m2 (by omega)) (by decide) rfl (fun ls hl => ?_)
      refine lv_goto (tgt := 8) hx hb d_Model_limbs_54 (by decide) ?_
      exact ih8 (z8 + 1, f50, G_6) _ _ ls (by dsimp only; omega) ⟨by dsimp only; omega, by dsimp only; omega, hTy, hFR, kmmA, lim_step (v := b26 + 256 * b41) ef50 rfl (by omega) (by omega) hJ8 (fun hN => by rw [show b1 - 1 - 2 * z8 - 1 = a1 by omega] at hv41; rw [← hv41] at htop; omega)⟩ hP hD hS (lv_sub hl [0, 1, 2, 3, 4, 5] rfl)
