/-! Reader.readSignature. -/
theorem bits_inv {u : Nat → Nat} {n en : Nat} {x : rS} (h : rdInv n x) (he : en ≤ n) : rdInv n (rd_bits u n x en).1 ∧ (rd_bits u n x en).1.1 ≤ (rd_bits u n x en).2 ∧ (rd_bits u n x en).2 ≤ n := by
  have h1 := opn_inv (u := u) (tg := 3) h he
  unfold rd_bits
  generalize rd_opn u n x 3 en = o at h1 ⊢
  obtain ⟨⟨p, s, w⟩, e⟩ := o
  obtain ⟨⟨a1, a2, a3⟩, b1, b2, -⟩ := h1
  dsimp only at a1 a2 a3 b1 b2 ⊢
  cases w with
  | some j => exact ⟨⟨a1, a2, a3⟩, b1, b2⟩
  | none =>
    by_cases h9 : p < e ∧ oc u n p = 0
    · rw [zI, if_pos h9]
      have e1 : rd_lea (p, s, none) (p + 1) 1 = (p + 1, s, none) := by simp [rd_lea]
      rw [e1]
      exact ⟨⟨by show p + 1 ≤ n; omega, a2, fun k hk => by cases hk⟩, by show p + 1 ≤ e; omega, b2⟩
    · rw [zI, if_neg h9]
      have e1 : rd_lea (p, s, none) (p + 1) 0 = (p, s, some s) := by simp [rd_lea]
      rw [e1]
      exact ⟨⟨a1, a2, fun k hk => by cases hk; exact a2⟩, b1, b2⟩
/-- what stands behind the body, to the text's end -/
noncomputable def rd_sig (u : Nat → Nat) (n : Nat) (x : rS) (en : Nat) : rS :=
  let b := rd_bits u n (rd_alg u n x 11 en) en
  rd_fin (rd_fin (rd_lea b.1 b.2 1) en) n
theorem sig_inv {u : Nat → Nat} {n en : Nat} {x : rS} (h : rdInv n x) (he : en ≤ n) : rdInv n (rd_sig u n x en) := by
  have h1 := bits_inv (u := u) (alg_inv (u := u) (la := 11) h he) he
  exact fin_inv (fin_inv (lea_inv h1.1 h1.2.2))
set_option maxHeartbeats 4000000 in
set_option maxRecDepth 100000 in
theorem cC_readSignature (l : Launch) (dC : Nat → ClassId) (dI : Nat → Nat → Nat) (sb : sB) (h res t ki n : Nat) (x : rS) (pa ma ex ie : Int32) (cB : ClassId) (u : Nat → Nat) (en : Nat) (k0 k1 k2 k3 k4 k5 k6 k7 k19 k20 k21 k22 k23 k24 : Nat) (k8 k9 k10 k11 k12 k13 k14 k15 k16 k17 k18 k27 : Int32) (k25 k26 : Int64) (sz : Nat) (hu : ∀ j, u j < 256) (hn : n < 2 ^ 30) (hi : rdInv n x) (he : en ≤ n) : Met l y_Reader_readSignature w_Reader_readSignature ({ frames := 3, cells := 1, slots := 3, locals := 72 }) (mu_P [.ref h, .ref res, .int (nI en)] (dC, dI) sb [(h, .inr (4, [.ref res, .ref t, .int (nI x.1), .int (nI x.2.1), .int (wI x.2.2), .int pa, .int ma, .int ex, .ref ki])), (t, .inl (cB, n, .inl (tx u))), (res, .inr (3, [.ref k0, .ref k1, .ref k2, .ref k3, .ref k4, .ref k5, .ref k6, .ref k7, .int k8, .int k9, .int k10, .int k11, .int k12, .int k13, .int k14, .int k15, .int k16, .int k17, .int k18, .ref k19, .ref k20, .ref k21, .ref k22, .ref k23, .ref k24, .long k25, .long k26, .int k27]))] [(cB, .byte)] sz) (va_Qv (fun (u' : rS × Nat) => u'.1 = rd_sig u n x en) (mu_B (dC, dI) [(cB, .byte)] (va_A [(h, .inr (4, [.ref res, .ref t, .int (nI x.1), .int (nI x.2.1), .int (wI x.2.2), .int pa, .int ma, .int ex, .ref ki])), (t, .inl (cB, n, .inl (tx u))), (res, .inr (3, [.ref k0, .ref k1, .ref k2, .ref k3, .ref k4, .ref k5, .ref k6, .ref k7, .int k8, .int k9, .int k10, .int k11, .int k12, .int k13, .int k14, .int k15, .int k16, .int k17, .int k18, .ref k19, .ref k20, .ref k21, .ref k22, .ref k23, .ref k24, .long k25, .long k26, .int k27]))] sz) (fun u' : rS × Nat => [(h, .inr (4, [.ref res, .ref t, .int (nI u'.1.1), .int (nI u'.1.2.1), .int (wI u'.1.2.2), .int pa, .int ma, .int ex, .ref ki])), (t, .inl (cB, n, .inl (tx u))), (res, .inr (3, [.ref k0, .ref k1, .ref k2, .ref k3, .ref k4, .ref k5, .ref k6, .ref k7, .int k8, .int k9, .int k10, .int k11, .int k12, .int k13, .int k14, .int k15, .int k16, .int k17, .int k18, .ref k19, .ref k20, .ref k21, .ref k22, .ref u'.2, .ref k24, .long k25, .long k26, .int k27])), (u'.2, .inr (0, [.ref t, .int (nI (rd_bits u n (rd_alg u n x 11 en) en).1.1), .int (nI (rd_bits u n (rd_alg u n x 11 en) en).2)]))])) (va_A [(h, .inr (4, [.ref res, .ref t, .int (nI x.1), .int (nI x.2.1), .int (wI x.2.2), .int pa, .int ma, .int ex, .ref ki])), (t, .inl (cB, n, .inl (tx u))), (res, .inr (3, [.ref k0, .ref k1, .ref k2, .ref k3, .ref k4, .ref k5, .ref k6, .ref k7, .int k8, .int k9, .int k10, .int k11, .int k12, .int k13, .int k14, .int k15, .int k16, .int k17, .int k18, .ref k19, .ref k20, .ref k21, .ref k22, .ref k23, .ref k24, .long k25, .long k26, .int k27]))] sz)) 1 3 (va_A [(h, .inr (4, [.ref res, .ref t, .int (nI x.1), .int (nI x.2.1), .int (wI x.2.2), .int pa, .int ma, .int ex, .ref ki])), (t, .inl (cB, n, .inl (tx u))), (res, .inr (3, [.ref k0, .ref k1, .ref k2, .ref k3, .ref k4, .ref k5, .ref k6, .ref k7, .int k8, .int k9, .int k10, .int k11, .int k12, .int k13, .int k14, .int k15, .int k16, .int k17, .int k18, .ref k19, .ref k20, .ref k21, .ref k22, .ref k23, .ref k24, .long k25, .long k26, .int k27]))] sz) := by
  refine Met.ofW (cc := b_Reader_readSignature) (maxL := 4) (ret := none) (by decide) rfl ?_
  intro p e s m args below meth c s₁ B hml hv
  obtain ⟨rfl, hsz, hB0, hP, hK, hD0, hN, hT0⟩ := hv
  have hx := B.exec
  have hb := B.bytes
  have hr := B.returns
  have hts := atoms_spec (ws := w_Reader_readSignature) B.pre
  have tbin : ∀ w ∈ tb, w ∈ w_Reader_readSignature := fun w h => List.mem_cons_of_mem _ h
  have htb : ∀ w ∈ tb, w.before _ s = true := fun w h => hts w (tbin w h)
  have hown : s.vm.findClass "TrustChain$Reader" = some m.cls := findClass_of_methodNamed B.named
  have hlocks := B.notSynchronized
  subst hsz
  have hD := hD0.self (sz := s.heap.size)
  generalize hAe : va_A [(h, .inr (4, [.ref res, .ref t, .int (nI x.1), .int (nI x.2.1), .int (wI x.2.2), .int pa, .int ma, .int ex, .ref ki])), (t, .inl (cB, n, .inl (tx u))), (res, .inr (3, [.ref k0, .ref k1, .ref k2, .ref k3, .ref k4, .ref k5, .ref k6, .ref k7, .int k8, .int k9, .int k10, .int k11, .int k12, .int k13, .int k14, .int k15, .int k16, .int k17, .int k18, .ref k19, .ref k20, .ref k21, .ref k22, .ref k23, .ref k24, .long k25, .long k26, .int k27]))] s.heap.size = A at hD ⊢
  have hA : ∀ q : Nat, s.heap.size ≤ q → A q := fun q h => by rw [← hAe]; exact Or.inr h
  have hAs : ∀ q : Nat, A q → sb.1 ≤ q := fun q h => by
    rw [← hAe] at h
    rcases h with ⟨k, e, h⟩ | h
    · exact hD0.2 k _ h
    · exact Nat.le_trans hB0 h
  have hS : va_S A s.heap s.heap [] := va_S.rf
  have hcs : 1 ≤ (headSpec w_Reader_readSignature ({ frames := 3, cells := 1, slots := 3, locals := 72 })).room.cells ∧ 3 ≤ (headSpec w_Reader_readSignature ({ frames := 3, cells := 1, slots := 3, locals := 72 })).room.slots := ⟨Nat.le_refl _, Nat.le_refl _⟩
  have hP : va_P (dC, dI) classes [(h, .inr (4, [.ref res, .ref t, .int (nI x.1), .int (nI x.2.1), .int (wI x.2.2), .int pa, .int ma, .int ex, .ref ki])), (t, .inl (cB, n, .inl (tx u))), (res, .inr (3, [.ref k0, .ref k1, .ref k2, .ref k3, .ref k4, .ref k5, .ref k6, .ref k7, .int k8, .int k9, .int k10, .int k11, .int k12, .int k13, .int k14, .int k15, .int k16, .int k17, .int k18, .ref k19, .ref k20, .ref k21, .ref k22, .ref k23, .ref k24, .long k25, .long k26, .int k27]))] s.heap := hP
  have hl := lv_entry ([.ref h, .ref res, .int (nI en)]) (n := 4) (Nat.le_of_ble_eq_true rfl)
  rw [lg_entry_eq]
  generalize (lg_sl ([.ref h, .ref res, .int (nI en)]) ++ List.replicate (4 - (lg_sl ([.ref h, .ref res, .int (nI en)])).length) Slot.unset).toArray = ls at hl ⊢
  have hl : lv_has ls 4 [(0, .ref h), (1, .ref res), (2, .int (nI en))] := hl
  refine lv_aload_n hx hb d_Reader_readSignature_0 rfl (lv_at hl 0 rfl) ?_
  refine lv_bipush (v := 11) hx hb d_Reader_readSignature_1 (by decide) ?_
  refine lv_iload_n hx hb d_Reader_readSignature_3 rfl (lv_at hl 2 rfl) ?_
  have hFc := va_free (wc := [(h, .inr (4, [.ref res, .ref t, .int (nI x.1), .int (nI x.2.1), .int (wI x.2.2), .int pa, .int ma, .int ex, .ref ki])), (t, .inl (cB, n, .inl (tx u)))]) hD hS hA [0, 1] rfl
  refine va_callv (mu_runU (As := [.int 11, .int (nI en)]) (rest := []) ⟨hx, hb, hml, hown, hts⟩ (cC_algorithm l dC dI sb h res t ki n x pa ma ex ie cB u 11 en s.heap.size hu hn hi he (by decide)) (cu_of (n := 2) hts tbin q4_231 q9_213 q3_179 q9_214 q1_15 q3_180 rfl (by decide +kernel) ⟨rfl, rfl⟩ ⟨Nat.le_of_ble_eq_true rfl, Nat.le_of_ble_eq_true rfl⟩) rfl ⟨Nat.le_of_ble_eq_true rfl, Nat.le_of_ble_eq_true rfl⟩ hN (hT0.keep hS hAs) hAs (Nat.le_trans hB0 hS.1) hK hP hD [0, 1] (by decide) rfl [0] rfl 0 4 rfl rfl rfl hl.1 rfl (Nat.le_of_ble_eq_true rfl) d_Reader_readSignature_4) hS (fun q _ h => hFc q h) hFc (fun u4 tS H4 locs ht hvm hw4 hB hz1 hk1 hS => ?_)
  obtain ⟨x4, rfl⟩ : ∃ z, z = u4 := ⟨_, rfl⟩
  obtain ⟨hP1, hK1, hD1⟩ := hB
  rw [ht] at hP1
  obtain ⟨hP, hD⟩ := va_join (wr := [(res, .inr (3, [.ref k0, .ref k1, .ref k2, .ref k3, .ref k4, .ref k5, .ref k6, .ref k7, .int k8, .int k9, .int k10, .int k11, .int k12, .int k13, .int k14, .int k15, .int k16, .int k17, .int k18, .ref k19, .ref k20, .ref k21, .ref k22, .ref k23, .ref k24, .long k25, .long k26, .int k27]))]) (w1 := [(h, .inr (4, [.ref res, .ref t, .int (nI x4.1), .int (nI x4.2.1), .int (wI x4.2.2), .int pa, .int ma, .int ex, .ref ki])), (t, .inl (cB, n, .inl (tx u)))]) hP hD [0, 1] [2] rfl rfl (by decide) (by decide) hk1 hFc hP1 hD1
  have hP : va_P (dC, dI) classes [(res, .inr (3, [.ref k0, .ref k1, .ref k2, .ref k3, .ref k4, .ref k5, .ref k6, .ref k7, .int k8, .int k9, .int k10, .int k11, .int k12, .int k13, .int k14, .int k15, .int k16, .int k17, .int k18, .ref k19, .ref k20, .ref k21, .ref k22, .ref k23, .ref k24, .long k25, .long k26, .int k27])), (h, .inr (4, [.ref res, .ref t, .int (nI x4.1), .int (nI x4.2.1), .int (wI x4.2.2), .int pa, .int ma, .int ex, .ref ki])), (t, .inl (cB, n, .inl (tx u)))] H4 := hP
  have hD : va_D A [(res, .inr (3, [.ref k0, .ref k1, .ref k2, .ref k3, .ref k4, .ref k5, .ref k6, .ref k7, .int k8, .int k9, .int k10, .int k11, .int k12, .int k13, .int k14, .int k15, .int k16, .int k17, .int k18, .ref k19, .ref k20, .ref k21, .ref k22, .ref k23, .ref k24, .long k25, .long k26, .int k27])), (h, .inr (4, [.ref res, .ref t, .int (nI x4.1), .int (nI x4.2.1), .int (wI x4.2.2), .int pa, .int ma, .int ex, .ref ki])), (t, .inl (cB, n, .inl (tx u)))] := hD
  have hw4 : x4 = rd_alg u n x 11 en := hw4
  have hi4 : rdInv n x4 := by rw [hw4]; exact alg_inv hi he
  refine lv_aload_n hx hb d_Reader_readSignature_7 rfl (lv_at hl 0 rfl) ?_
  refine lv_iload_n hx hb d_Reader_readSignature_8 rfl (lv_at hl 2 rfl) ?_
  have hFc := va_free (wc := [(h, .inr (4, [.ref res, .ref t, .int (nI x4.1), .int (nI x4.2.1), .int (wI x4.2.2), .int pa, .int ma, .int ex, .ref ki])), (t, .inl (cB, n, .inl (tx u)))]) hD hS hA [1, 2] rfl
  refine va_calli (mu_runU (As := [.int (nI en)]) (rest := []) ⟨hx, hb, hml, hown, hts⟩ (cC_openBits l dC dI sb h res t ki n x4 pa ma ex ie cB u en H4.size hu hn hi4 he) (cu_of (n := 1) hts tbin q4_232 q9_216 q4_42 q9_217 q1_15 q4_43 rfl (by decide +kernel) ⟨rfl, rfl⟩ ⟨Nat.le_of_ble_eq_true rfl, Nat.le_of_ble_eq_true rfl⟩) rfl ⟨Nat.le_of_ble_eq_true rfl, Nat.le_of_ble_eq_true rfl⟩ hN (hT0.keep hS hAs) hAs (Nat.le_trans hB0 hS.1) hK hP hD [1, 2] (by decide) rfl [0] rfl 1 4 rfl rfl rfl hl.1 rfl (Nat.le_of_ble_eq_true rfl) d_Reader_readSignature_9) hS (fun q _ h => hFc q h) hFc (fun r9 u9 tS H9 locs ht hvm hw9 hB hz1 hk1 hS => ?_)
  obtain ⟨x9, rfl⟩ : ∃ z, z = u9 := ⟨_, rfl⟩
  obtain ⟨hP1, hK1, hD1⟩ := hB
  rw [ht] at hP1
  obtain ⟨hP, hD⟩ := va_join (wr := [(res, .inr (3, [.ref k0, .ref k1, .ref k2, .ref k3, .ref k4, .ref k5, .ref k6, .ref k7, .int k8, .int k9, .int k10, .int k11, .int k12, .int k13, .int k14, .int k15, .int k16, .int k17, .int k18, .ref k19, .ref k20, .ref k21, .ref k22, .ref k23, .ref k24, .long k25, .long k26, .int k27]))]) (w1 := [(h, .inr (4, [.ref res, .ref t, .int (nI x9.1), .int (nI x9.2.1), .int (wI x9.2.2), .int pa, .int ma, .int ex, .ref ki])), (t, .inl (cB, n, .inl (tx u)))]) hP hD [1, 2] [0] rfl rfl (by decide) (by decide) hk1 hFc hP1 hD1
  have hP : va_P (dC, dI) classes [(res, .inr (3, [.ref k0, .ref k1, .ref k2, .ref k3, .ref k4, .ref k5, .ref k6, .ref k7, .int k8, .int k9, .int k10, .int k11, .int k12, .int k13, .int k14, .int k15, .int k16, .int k17, .int k18, .ref k19, .ref k20, .ref k21, .ref k22, .ref k23, .ref k24, .long k25, .long k26, .int k27])), (h, .inr (4, [.ref res, .ref t, .int (nI x9.1), .int (nI x9.2.1), .int (wI x9.2.2), .int pa, .int ma, .int ex, .ref ki])), (t, .inl (cB, n, .inl (tx u)))] H9 := hP
  have hD : va_D A [(res, .inr (3, [.ref k0, .ref k1, .ref k2, .ref k3, .ref k4, .ref k5, .ref k6, .ref k7, .int k8, .int k9, .int k10, .int k11, .int k12, .int k13, .int k14, .int k15, .int k16, .int k17, .int k18, .ref k19, .ref k20, .ref k21, .ref k22, .ref k23, .ref k24, .long k25, .long k26, .int k27])), (h, .inr (4, [.ref res, .ref t, .int (nI x9.1), .int (nI x9.2.1), .int (wI x9.2.2), .int pa, .int ma, .int ex, .ref ki])), (t, .inl (cB, n, .inl (tx u)))] := hD
  have hb9 := bits_inv (u := u) hi4 he
  obtain ⟨b9, hb9e⟩ : ∃ b9, b9 = rd_bits u n x4 en := ⟨_, rfl⟩
  have hw9 : x9 = (rd_bits u n x4 en).1 ∧ r9 = nI (rd_bits u n x4 en).2 := hw9
  rw [← hb9e] at hb9 hw9
  obtain ⟨rfl, rfl⟩ := hw9
  have hP : va_P (dC, dI) classes [(res, .inr (3, [.ref k0, .ref k1, .ref k2, .ref k3, .ref k4, .ref k5, .ref k6, .ref k7, .int k8, .int k9, .int k10, .int k11, .int k12, .int k13, .int k14, .int k15, .int k16, .int k17, .int k18, .ref k19, .ref k20, .ref k21, .ref k22, .ref k23, .ref k24, .long k25, .long k26, .int k27])), (h, .inr (4, [.ref res, .ref t, .int (nI b9.1.1), .int (nI b9.1.2.1), .int (wI b9.1.2.2), .int pa, .int ma, .int ex, .ref ki])), (t, .inl (cB, n, .inl (tx u)))] H9 := hP
  have hD : va_D A [(res, .inr (3, [.ref k0, .ref k1, .ref k2, .ref k3, .ref k4, .ref k5, .ref k6, .ref k7, .int k8, .int k9, .int k10, .int k11, .int k12, .int k13, .int k14, .int k15, .int k16, .int k17, .int k18, .ref k19, .ref k20, .ref k21, .ref k22, .ref k23, .ref k24, .long k25, .long k26, .int k27])), (h, .inr (4, [.ref res, .ref t, .int (nI b9.1.1), .int (nI b9.1.2.1), .int (wI b9.1.2.2), .int pa, .int ma, .int ex, .ref ki])), (t, .inl (cB, n, .inl (tx u)))] := hD
  refine lv_istore_n (lv' := [(3, .int (nI b9.2)), (0, .ref h), (1, .ref res), (2, .int (nI en))]) hx hb d_Reader_readSignature_12 rfl hl (by decide) rfl (fun ls hl => ?_)
  refine lv_aload_n hx hb d_Reader_readSignature_13 rfl (lv_at hl 2 rfl) ?_
  refine va_new (ci := 0) (fs := [.null, .int 0, .int 0]) hx hb htb i_Slice t_Slice t_Slice_ok hown (htb _ q3_137) (htb _ q2_92) (htb _ q1_22) hK hP hD hS hA rfl (fun j hj => by rcases (show j = 0 ∨ j = 1 ∨ j = 2 by omega) with rfl | rfl | rfl <;> rfl) (Nat.le_of_ble_eq_true rfl) (Nat.le_of_ble_eq_true rfl) d_Reader_readSignature_14 (fun q14 H14 hP hD hS => ?_)
  have hP : va_P (dC, dI) classes [(res, .inr (3, [.ref k0, .ref k1, .ref k2, .ref k3, .ref k4, .ref k5, .ref k6, .ref k7, .int k8, .int k9, .int k10, .int k11, .int k12, .int k13, .int k14, .int k15, .int k16, .int k17, .int k18, .ref k19, .ref k20, .ref k21, .ref k22, .ref k23, .ref k24, .long k25, .long k26, .int k27])), (h, .inr (4, [.ref res, .ref t, .int (nI b9.1.1), .int (nI b9.1.2.1), .int (wI b9.1.2.2), .int pa, .int ma, .int ex, .ref ki])), (t, .inl (cB, n, .inl (tx u))), (q14, .inr (0, [.null, .int 0, .int 0]))] H14 := hP
  have hD : va_D A [(res, .inr (3, [.ref k0, .ref k1, .ref k2, .ref k3, .ref k4, .ref k5, .ref k6, .ref k7, .int k8, .int k9, .int k10, .int k11, .int k12, .int k13, .int k14, .int k15, .int k16, .int k17, .int k18, .ref k19, .ref k20, .ref k21, .ref k22, .ref k23, .ref k24, .long k25, .long k26, .int k27])), (h, .inr (4, [.ref res, .ref t, .int (nI b9.1.1), .int (nI b9.1.2.1), .int (wI b9.1.2.2), .int pa, .int ma, .int ex, .ref ki])), (t, .inl (cB, n, .inl (tx u))), (q14, .inr (0, [.null, .int 0, .int 0]))] := hD
  refine lv_dup hx hb d_Reader_readSignature_17 rfl ?_
  refine lv_aload_n hx hb d_Reader_readSignature_18 rfl (lv_at hl 1 rfl) ?_
  refine va_get (v := .ref t) hx hb htb i_CertificateReader hown hK hP 1 rfl rfl 1 (by decide) (htb _ q3_57) (fun _ h9 => h9) rfl d_Reader_readSignature_19 ?_
  refine lv_aload_n hx hb d_Reader_readSignature_22 rfl (lv_at hl 1 rfl) ?_
  refine va_get (v := .int (nI b9.1.1)) hx hb htb i_CertificateReader hown hK hP 1 rfl rfl 2 (by decide) (htb _ q3_62) (fun _ h9 => h9) rfl d_Reader_readSignature_23 ?_
  refine lv_iload_n hx hb d_Reader_readSignature_26 rfl (lv_at hl 0 rfl) ?_
  have hFc := va_free (wc := [(q14, .inr (0, [.null, .int 0, .int 0]))]) hD hS hA [3] rfl
  refine va_callv (mu_runI (As := [.ref t, .int (nI b9.1.1), .int (nI b9.2)]) (rest := [.ref q14, .ref res]) ⟨hx, hb, hml, hown, hts⟩ tbin (c_Slice_init l dC dI sb q14 t (nI b9.1.1) (nI b9.2) H14.size) q3_138 q2_94 q1_22 q2_95 rfl (n := 3) (by decide +kernel) rfl ⟨rfl, rfl⟩ ⟨Nat.le_of_ble_eq_true rfl, Nat.le_of_ble_eq_true rfl⟩ ⟨Nat.le_of_ble_eq_true rfl, Nat.le_of_ble_eq_true rfl⟩ hN (hT0.keep hS hAs) hAs (Nat.le_trans hB0 hS.1) hK hP hD [3] (by decide) rfl [] rfl hl.1 rfl (Nat.le_of_ble_eq_true rfl) d_Reader_readSignature_27) hS (fun q _ h => hFc q h) hFc (fun u27 tS H27 locs ht hvm hw27 hB hz1 hk1 hS => ?_)
  skip
  obtain ⟨hP1, hK1, hD1⟩ := hB
  rw [ht] at hP1
  obtain ⟨hP, hD⟩ := va_join (wr := [(res, .inr (3, [.ref k0, .ref k1, .ref k2, .ref k3, .ref k4, .ref k5, .ref k6, .ref k7, .int k8, .int k9, .int k10, .int k11, .int k12, .int k13, .int k14, .int k15, .int k16, .int k17, .int k18, .ref k19, .ref k20, .ref k21, .ref k22, .ref k23, .ref k24, .long k25, .long k26, .int k27])), (h, .inr (4, [.ref res, .ref t, .int (nI b9.1.1), .int (nI b9.1.2.1), .int (wI b9.1.2.2), .int pa, .int ma, .int ex, .ref ki])), (t, .inl (cB, n, .inl (tx u)))]) (w1 := [(q14, .inr (0, [.ref t, .int (nI b9.1.1), .int (nI b9.2)]))]) hP hD [3] [0, 1, 2] rfl rfl (by decide) (by decide) hk1 hFc hP1 hD1
  have hP : va_P (dC, dI) classes [(res, .inr (3, [.ref k0, .ref k1, .ref k2, .ref k3, .ref k4, .ref k5, .ref k6, .ref k7, .int k8, .int k9, .int k10, .int k11, .int k12, .int k13, .int k14, .int k15, .int k16, .int k17, .int k18, .ref k19, .ref k20, .ref k21, .ref k22, .ref k23, .ref k24, .long k25, .long k26, .int k27])), (h, .inr (4, [.ref res, .ref t, .int (nI b9.1.1), .int (nI b9.1.2.1), .int (wI b9.1.2.2), .int pa, .int ma, .int ex, .ref ki])), (t, .inl (cB, n, .inl (tx u))), (q14, .inr (0, [.ref t, .int (nI b9.1.1), .int (nI b9.2)]))] H27 := hP
  have hD : va_D A [(res, .inr (3, [.ref k0, .ref k1, .ref k2, .ref k3, .ref k4, .ref k5, .ref k6, .ref k7, .int k8, .int k9, .int k10, .int k11, .int k12, .int k13, .int k14, .int k15, .int k16, .int k17, .int k18, .ref k19, .ref k20, .ref k21, .ref k22, .ref k23, .ref k24, .long k25, .long k26, .int k27])), (h, .inr (4, [.ref res, .ref t, .int (nI b9.1.1), .int (nI b9.1.2.1), .int (wI b9.1.2.2), .int pa, .int ma, .int ex, .ref ki])), (t, .inl (cB, n, .inl (tx u))), (q14, .inr (0, [.ref t, .int (nI b9.1.1), .int (nI b9.2)]))] := hD
  refine va_put (v := .ref q14) (ty := (.object "TrustChain$Slice")) hx hb htb i_Certificate t_Certificate t_Certificate_ok n_Certificate hown hK hP hD hS 0 rfl rfl 23 (by decide) (htb _ q2_210) (fun _ h9 => h9) rfl (by decide +kernel) rfl rfl (Nat.le_of_ble_eq_true rfl) d_Reader_readSignature_30 (fun H30 locs hP hD hS => ?_)
  have hP : va_P (dC, dI) classes [(res, .inr (3, [.ref k0, .ref k1, .ref k2, .ref k3, .ref k4, .ref k5, .ref k6, .ref k7, .int k8, .int k9, .int k10, .int k11, .int k12, .int k13, .int k14, .int k15, .int k16, .int k17, .int k18, .ref k19, .ref k20, .ref k21, .ref k22, .ref q14, .ref k24, .long k25, .long k26, .int k27])), (h, .inr (4, [.ref res, .ref t, .int (nI b9.1.1), .int (nI b9.1.2.1), .int (wI b9.1.2.2), .int pa, .int ma, .int ex, .ref ki])), (t, .inl (cB, n, .inl (tx u))), (q14, .inr (0, [.ref t, .int (nI b9.1.1), .int (nI b9.2)]))] H30 := hP
  have hD : va_D A [(res, .inr (3, [.ref k0, .ref k1, .ref k2, .ref k3, .ref k4, .ref k5, .ref k6, .ref k7, .int k8, .int k9, .int k10, .int k11, .int k12, .int k13, .int k14, .int k15, .int k16, .int k17, .int k18, .ref k19, .ref k20, .ref k21, .ref k22, .ref q14, .ref k24, .long k25, .long k26, .int k27])), (h, .inr (4, [.ref res, .ref t, .int (nI b9.1.1), .int (nI b9.1.2.1), .int (wI b9.1.2.2), .int pa, .int ma, .int ex, .ref ki])), (t, .inl (cB, n, .inl (tx u))), (q14, .inr (0, [.ref t, .int (nI b9.1.1), .int (nI b9.2)]))] := hD
  refine lv_aload_n hx hb d_Reader_readSignature_33 rfl (lv_at hl 1 rfl) ?_
  refine lv_iload_n hx hb d_Reader_readSignature_34 rfl (lv_at hl 0 rfl) ?_
  refine lv_iconst (v := 1) hx hb d_Reader_readSignature_35 (by decide) ?_
  have hFc := va_free (wc := [(h, .inr (4, [.ref res, .ref t, .int (nI b9.1.1), .int (nI b9.1.2.1), .int (wI b9.1.2.2), .int pa, .int ma, .int ex, .ref ki]))]) hD hS hA [1] rfl
  refine va_callv (mu_runU (As := [.int (nI b9.2), .int 1]) (rest := []) ⟨hx, hb, hml, hown, hts⟩ (cC_leave l dC dI sb h res t ki b9.1.1 b9.1.2.1 n b9.1.2.2 pa ma ex ie cB u b9.2 1 H30.size ((hb9.1).w hn)) (cu_of (n := 2) hts tbin q3_131 q3_133 q3_132 q3_134 q1_15 q3_136 rfl (by decide +kernel) ⟨rfl, rfl⟩ ⟨Nat.le_of_ble_eq_true rfl, Nat.le_of_ble_eq_true rfl⟩) rfl ⟨Nat.le_of_ble_eq_true rfl, Nat.le_of_ble_eq_true rfl⟩ hN (hT0.keep hS hAs) hAs (Nat.le_trans hB0 hS.1) hK hP hD [1] (by decide) rfl [] rfl 1 4 rfl rfl rfl hl.1 rfl (Nat.le_of_ble_eq_true rfl) d_Reader_readSignature_36) hS (fun q _ h => hFc q h) hFc (fun u36 tS H36 locs ht hvm hw36 hB hz1 hk1 hS => ?_)
  obtain ⟨x36, rfl⟩ : ∃ z, z = u36 := ⟨_, rfl⟩
  obtain ⟨hP1, hK1, hD1⟩ := hB
  rw [ht] at hP1
  obtain ⟨hP, hD⟩ := va_join (wr := [(res, .inr (3, [.ref k0, .ref k1, .ref k2, .ref k3, .ref k4, .ref k5, .ref k6, .ref k7, .int k8, .int k9, .int k10, .int k11, .int k12, .int k13, .int k14, .int k15, .int k16, .int k17, .int k18, .ref k19, .ref k20, .ref k21, .ref k22, .ref q14, .ref k24, .long k25, .long k26, .int k27])), (t, .inl (cB, n, .inl (tx u))), (q14, .inr (0, [.ref t, .int (nI b9.1.1), .int (nI b9.2)]))]) (w1 := [(h, .inr (4, [.ref res, .ref t, .int (nI x36.1), .int (nI x36.2.1), .int (wI x36.2.2), .int pa, .int ma, .int ex, .ref ki]))]) hP hD [1] [0, 2, 3] rfl rfl (by decide) (by decide) hk1 hFc hP1 hD1
  have hP : va_P (dC, dI) classes [(res, .inr (3, [.ref k0, .ref k1, .ref k2, .ref k3, .ref k4, .ref k5, .ref k6, .ref k7, .int k8, .int k9, .int k10, .int k11, .int k12, .int k13, .int k14, .int k15, .int k16, .int k17, .int k18, .ref k19, .ref k20, .ref k21, .ref k22, .ref q14, .ref k24, .long k25, .long k26, .int k27])), (t, .inl (cB, n, .inl (tx u))), (q14, .inr (0, [.ref t, .int (nI b9.1.1), .int (nI b9.2)])), (h, .inr (4, [.ref res, .ref t, .int (nI x36.1), .int (nI x36.2.1), .int (wI x36.2.2), .int pa, .int ma, .int ex, .ref ki]))] H36 := hP
  have hD : va_D A [(res, .inr (3, [.ref k0, .ref k1, .ref k2, .ref k3, .ref k4, .ref k5, .ref k6, .ref k7, .int k8, .int k9, .int k10, .int k11, .int k12, .int k13, .int k14, .int k15, .int k16, .int k17, .int k18, .ref k19, .ref k20, .ref k21, .ref k22, .ref q14, .ref k24, .long k25, .long k26, .int k27])), (t, .inl (cB, n, .inl (tx u))), (q14, .inr (0, [.ref t, .int (nI b9.1.1), .int (nI b9.2)])), (h, .inr (4, [.ref res, .ref t, .int (nI x36.1), .int (nI x36.2.1), .int (wI x36.2.2), .int pa, .int ma, .int ex, .ref ki]))] := hD
  have hw36 : x36 = rd_lea b9.1 b9.2 1 := hw36
  have hi36 : rdInv n x36 := by rw [hw36]; exact lea_inv hb9.1 hb9.2.2
  refine lv_aload_n hx hb d_Reader_readSignature_39 rfl (lv_at hl 1 rfl) ?_
  refine lv_iload_n hx hb d_Reader_readSignature_40 rfl (lv_at hl 3 rfl) ?_
  have hFc := va_free (wc := [(h, .inr (4, [.ref res, .ref t, .int (nI x36.1), .int (nI x36.2.1), .int (wI x36.2.2), .int pa, .int ma, .int ex, .ref ki]))]) hD hS hA [3] rfl
  refine va_callv (mu_runU (As := [.int (nI en)]) (rest := []) ⟨hx, hb, hml, hown, hts⟩ (cC_finish l dC dI sb h res t ki x36.1 x36.2.1 n x36.2.2 pa ma ex ie cB u en H36.size ((hi36).w hn) (by have := (hi36).1; omega) (by have := he; omega)) (cu_of (n := 1) hts tbin q3_183 q9_201 q3_163 q9_202 q1_15 q3_164 rfl (by decide +kernel) ⟨rfl, rfl⟩ ⟨Nat.le_of_ble_eq_true rfl, Nat.le_of_ble_eq_true rfl⟩) rfl ⟨Nat.le_of_ble_eq_true rfl, Nat.le_of_ble_eq_true rfl⟩ hN (hT0.keep hS hAs) hAs (Nat.le_trans hB0 hS.1) hK hP hD [3] (by decide) rfl [] rfl 3 4 rfl rfl rfl hl.1 rfl (Nat.le_of_ble_eq_true rfl) d_Reader_readSignature_41) hS (fun q _ h => hFc q h) hFc (fun u41 tS H41 locs ht hvm hw41 hB hz1 hk1 hS => ?_)
  obtain ⟨x41, rfl⟩ : ∃ z, z = u41 := ⟨_, rfl⟩
  obtain ⟨hP1, hK1, hD1⟩ := hB
  rw [ht] at hP1
  obtain ⟨hP, hD⟩ := va_join (wr := [(res, .inr (3, [.ref k0, .ref k1, .ref k2, .ref k3, .ref k4, .ref k5, .ref k6, .ref k7, .int k8, .int k9, .int k10, .int k11, .int k12, .int k13, .int k14, .int k15, .int k16, .int k17, .int k18, .ref k19, .ref k20, .ref k21, .ref k22, .ref q14, .ref k24, .long k25, .long k26, .int k27])), (t, .inl (cB, n, .inl (tx u))), (q14, .inr (0, [.ref t, .int (nI b9.1.1), .int (nI b9.2)]))]) (w1 := [(h, .inr (4, [.ref res, .ref t, .int (nI x41.1), .int (nI x41.2.1), .int (wI x41.2.2), .int pa, .int ma, .int ex, .ref ki]))]) hP hD [3] [0, 1, 2] rfl rfl (by decide) (by decide) hk1 hFc hP1 hD1
  have hP : va_P (dC, dI) classes [(res, .inr (3, [.ref k0, .ref k1, .ref k2, .ref k3, .ref k4, .ref k5, .ref k6, .ref k7, .int k8, .int k9, .int k10, .int k11, .int k12, .int k13, .int k14, .int k15, .int k16, .int k17, .int k18, .ref k19, .ref k20, .ref k21, .ref k22, .ref q14, .ref k24, .long k25, .long k26, .int k27])), (t, .inl (cB, n, .inl (tx u))), (q14, .inr (0, [.ref t, .int (nI b9.1.1), .int (nI b9.2)])), (h, .inr (4, [.ref res, .ref t, .int (nI x41.1), .int (nI x41.2.1), .int (wI x41.2.2), .int pa, .int ma, .int ex, .ref ki]))] H41 := hP
  have hD : va_D A [(res, .inr (3, [.ref k0, .ref k1, .ref k2, .ref k3, .ref k4, .ref k5, .ref k6, .ref k7, .int k8, .int k9, .int k10, .int k11, .int k12, .int k13, .int k14, .int k15, .int k16, .int k17, .int k18, .ref k19, .ref k20, .ref k21, .ref k22, .ref q14, .ref k24, .long k25, .long k26, .int k27])), (t, .inl (cB, n, .inl (tx u))), (q14, .inr (0, [.ref t, .int (nI b9.1.1), .int (nI b9.2)])), (h, .inr (4, [.ref res, .ref t, .int (nI x41.1), .int (nI x41.2.1), .int (wI x41.2.2), .int pa, .int ma, .int ex, .ref ki]))] := hD
  have hw41 : x41 = rd_fin x36 en := hw41
  have hi41 : rdInv n x41 := by rw [hw41]; exact fin_inv hi36
  refine lv_aload_n hx hb d_Reader_readSignature_44 rfl (lv_at hl 1 rfl) ?_
  refine lv_aload_n hx hb d_Reader_readSignature_45 rfl (lv_at hl 1 rfl) ?_
  refine va_get (v := .ref t) hx hb htb i_CertificateReader hown hK hP 3 rfl rfl 1 (by decide) (htb _ q3_57) (fun _ h9 => h9) rfl d_Reader_readSignature_46 ?_
  refine va_alen (v := nI n) hx hb hK hP 1 0 rfl rfl rfl d_Reader_readSignature_49 ?_
  have hFc := va_free (wc := [(h, .inr (4, [.ref res, .ref t, .int (nI x41.1), .int (nI x41.2.1), .int (wI x41.2.2), .int pa, .int ma, .int ex, .ref ki]))]) hD hS hA [3] rfl
  refine va_callv (mu_runU (As := [.int (nI n)]) (rest := []) ⟨hx, hb, hml, hown, hts⟩ (cC_finish l dC dI sb h res t ki x41.1 x41.2.1 n x41.2.2 pa ma ex ie cB u n H41.size ((hi41).w hn) (by have := (hi41).1; omega) (by have := (Nat.le_refl n); omega)) (cu_of (n := 1) hts tbin q3_183 q9_201 q3_163 q9_202 q1_15 q3_164 rfl (by decide +kernel) ⟨rfl, rfl⟩ ⟨Nat.le_of_ble_eq_true rfl, Nat.le_of_ble_eq_true rfl⟩) rfl ⟨Nat.le_of_ble_eq_true rfl, Nat.le_of_ble_eq_true rfl⟩ hN (hT0.keep hS hAs) hAs (Nat.le_trans hB0 hS.1) hK hP hD [3] (by decide) rfl [] rfl 3 4 rfl rfl rfl hl.1 rfl (Nat.le_of_ble_eq_true rfl) d_Reader_readSignature_50) hS (fun q _ h => hFc q h) hFc (fun u50 tS H50 locs ht hvm hw50 hB hz1 hk1 hS => ?_)
  obtain ⟨x50, rfl⟩ : ∃ z, z = u50 := ⟨_, rfl⟩
  obtain ⟨hP1, hK1, hD1⟩ := hB
  rw [ht] at hP1
  obtain ⟨hP, hD⟩ := va_join (wr := [(res, .inr (3, [.ref k0, .ref k1, .ref k2, .ref k3, .ref k4, .ref k5, .ref k6, .ref k7, .int k8, .int k9, .int k10, .int k11, .int k12, .int k13, .int k14, .int k15, .int k16, .int k17, .int k18, .ref k19, .ref k20, .ref k21, .ref k22, .ref q14, .ref k24, .long k25, .long k26, .int k27])), (t, .inl (cB, n, .inl (tx u))), (q14, .inr (0, [.ref t, .int (nI b9.1.1), .int (nI b9.2)]))]) (w1 := [(h, .inr (4, [.ref res, .ref t, .int (nI x50.1), .int (nI x50.2.1), .int (wI x50.2.2), .int pa, .int ma, .int ex, .ref ki]))]) hP hD [3] [0, 1, 2] rfl rfl (by decide) (by decide) hk1 hFc hP1 hD1
  have hP : va_P (dC, dI) classes [(res, .inr (3, [.ref k0, .ref k1, .ref k2, .ref k3, .ref k4, .ref k5, .ref k6, .ref k7, .int k8, .int k9, .int k10, .int k11, .int k12, .int k13, .int k14, .int k15, .int k16, .int k17, .int k18, .ref k19, .ref k20, .ref k21, .ref k22, .ref q14, .ref k24, .long k25, .long k26, .int k27])), (t, .inl (cB, n, .inl (tx u))), (q14, .inr (0, [.ref t, .int (nI b9.1.1), .int (nI b9.2)])), (h, .inr (4, [.ref res, .ref t, .int (nI x50.1), .int (nI x50.2.1), .int (wI x50.2.2), .int pa, .int ma, .int ex, .ref ki]))] H50 := hP
  have hD : va_D A [(res, .inr (3, [.ref k0, .ref k1, .ref k2, .ref k3, .ref k4, .ref k5, .ref k6, .ref k7, .int k8, .int k9, .int k10, .int k11, .int k12, .int k13, .int k14, .int k15, .int k16, .int k17, .int k18, .ref k19, .ref k20, .ref k21, .ref k22, .ref q14, .ref k24, .long k25, .long k26, .int k27])), (t, .inl (cB, n, .inl (tx u))), (q14, .inr (0, [.ref t, .int (nI b9.1.1), .int (nI b9.2)])), (h, .inr (4, [.ref res, .ref t, .int (nI x50.1), .int (nI x50.2.1), .int (wI x50.2.2), .int pa, .int ma, .int ex, .ref ki]))] := hD
  have hw50 : x50 = rd_fin x41 n := hw50
  have hi50 : rdInv n x50 := by rw [hw50]; exact fin_inv hi41
  subst hb9e
  subst hw4
  exact W.vret hx hb hr (fun t ht hW => ⟨⟨(x50, q14), rfl, hw50.trans (by rw [hw41, hw36]; rfl), by rw [ht]; exact hP.sub [3, 1, 0, 2] rfl, va_K.moved hW.alike hK, hD.sub [3, 1, 0, 2] (by decide) rfl⟩, hS.F ht⟩) hS.2.2 d_Reader_readSignature_53
set_option maxHeartbeats 4000000 in
set_option maxRecDepth 100000 in
theorem cL_readSignature (l : Launch) (dC : Nat → ClassId) (dI : Nat → Nat → Nat) (sb : sB) (h res t ki n : Nat) (x : rS) (pa ma ex ie : Int32) (cB : ClassId) (u : Nat → Nat) (en : Nat) (k0 k1 k2 k3 k4 k5 : Nat) (k8 : Int32) (k6 k7 : Int64) (sz : Nat) (hu : ∀ j, u j < 256) (hn : n < 2 ^ 30) (hi : rdInv n x) (he : en ≤ n) : Met l y_Reader_readSignature w_Reader_readSignature ({ frames := 3, cells := 1, slots := 3, locals := 72 }) (mu_P [.ref h, .ref res, .int (nI en)] (dC, dI) sb [(h, .inr (5, [.ref res, .int ie, .ref t, .int (nI x.1), .int (nI x.2.1), .int (wI x.2.2), .int pa, .int ma, .int ex, .ref ki])), (t, .inl (cB, n, .inl (tx u))), (res, .inr (2, [.ref k0, .ref k1, .ref k2, .ref k3, .ref k4, .ref k5, .long k6, .long k7, .int k8]))] [(cB, .byte)] sz) (va_Qv (fun (u' : rS × Nat) => u'.1 = rd_sig u n x en) (mu_B (dC, dI) [(cB, .byte)] (va_A [(h, .inr (5, [.ref res, .int ie, .ref t, .int (nI x.1), .int (nI x.2.1), .int (wI x.2.2), .int pa, .int ma, .int ex, .ref ki])), (t, .inl (cB, n, .inl (tx u))), (res, .inr (2, [.ref k0, .ref k1, .ref k2, .ref k3, .ref k4, .ref k5, .long k6, .long k7, .int k8]))] sz) (fun u' : rS × Nat => [(h, .inr (5, [.ref res, .int ie, .ref t, .int (nI u'.1.1), .int (nI u'.1.2.1), .int (wI u'.1.2.2), .int pa, .int ma, .int ex, .ref ki])), (t, .inl (cB, n, .inl (tx u))), (res, .inr (2, [.ref k0, .ref k1, .ref k2, .ref k3, .ref u'.2, .ref k5, .long k6, .long k7, .int k8])), (u'.2, .inr (0, [.ref t, .int (nI (rd_bits u n (rd_alg u n x 11 en) en).1.1), .int (nI (rd_bits u n (rd_alg u n x 11 en) en).2)]))])) (va_A [(h, .inr (5, [.ref res, .int ie, .ref t, .int (nI x.1), .int (nI x.2.1), .int (wI x.2.2), .int pa, .int ma, .int ex, .ref ki])), (t, .inl (cB, n, .inl (tx u))), (res, .inr (2, [.ref k0, .ref k1, .ref k2, .ref k3, .ref k4, .ref k5, .long k6, .long k7, .int k8]))] sz)) 1 3 (va_A [(h, .inr (5, [.ref res, .int ie, .ref t, .int (nI x.1), .int (nI x.2.1), .int (wI x.2.2), .int pa, .int ma, .int ex, .ref ki])), (t, .inl (cB, n, .inl (tx u))), (res, .inr (2, [.ref k0, .ref k1, .ref k2, .ref k3, .ref k4, .ref k5, .long k6, .long k7, .int k8]))] sz) := by
  refine Met.ofW (cc := b_Reader_readSignature) (maxL := 4) (ret := none) (by decide) rfl ?_
  intro p e s m args below meth c s₁ B hml hv
  obtain ⟨rfl, hsz, hB0, hP, hK, hD0, hN, hT0⟩ := hv
  have hx := B.exec
  have hb := B.bytes
  have hr := B.returns
  have hts := atoms_spec (ws := w_Reader_readSignature) B.pre
  have tbin : ∀ w ∈ tb, w ∈ w_Reader_readSignature := fun w h => List.mem_cons_of_mem _ h
  have htb : ∀ w ∈ tb, w.before _ s = true := fun w h => hts w (tbin w h)
  have hown : s.vm.findClass "TrustChain$Reader" = some m.cls := findClass_of_methodNamed B.named
  have hlocks := B.notSynchronized
  subst hsz
  have hD := hD0.self (sz := s.heap.size)
  generalize hAe : va_A [(h, .inr (5, [.ref res, .int ie, .ref t, .int (nI x.1), .int (nI x.2.1), .int (wI x.2.2), .int pa, .int ma, .int ex, .ref ki])), (t, .inl (cB, n, .inl (tx u))), (res, .inr (2, [.ref k0, .ref k1, .ref k2, .ref k3, .ref k4, .ref k5, .long k6, .long k7, .int k8]))] s.heap.size = A at hD ⊢
  have hA : ∀ q : Nat, s.heap.size ≤ q → A q := fun q h => by rw [← hAe]; exact Or.inr h
  have hAs : ∀ q : Nat, A q → sb.1 ≤ q := fun q h => by
    rw [← hAe] at h
    rcases h with ⟨k, e, h⟩ | h
    · exact hD0.2 k _ h
    · exact Nat.le_trans hB0 h
  have hS : va_S A s.heap s.heap [] := va_S.rf
  have hcs : 1 ≤ (headSpec w_Reader_readSignature ({ frames := 3, cells := 1, slots := 3, locals := 72 })).room.cells ∧ 3 ≤ (headSpec w_Reader_readSignature ({ frames := 3, cells := 1, slots := 3, locals := 72 })).room.slots := ⟨Nat.le_refl _, Nat.le_refl _⟩
  have hP : va_P (dC, dI) classes [(h, .inr (5, [.ref res, .int ie, .ref t, .int (nI x.1), .int (nI x.2.1), .int (wI x.2.2), .int pa, .int ma, .int ex, .ref ki])), (t, .inl (cB, n, .inl (tx u))), (res, .inr (2, [.ref k0, .ref k1, .ref k2, .ref k3, .ref k4, .ref k5, .long k6, .long k7, .int k8]))] s.heap := hP
  have hl := lv_entry ([.ref h, .ref res, .int (nI en)]) (n := 4) (Nat.le_of_ble_eq_true rfl)
  rw [lg_entry_eq]
  generalize (lg_sl ([.ref h, .ref res, .int (nI en)]) ++ List.replicate (4 - (lg_sl ([.ref h, .ref res, .int (nI en)])).length) Slot.unset).toArray = ls at hl ⊢
  have hl : lv_has ls 4 [(0, .ref h), (1, .ref res), (2, .int (nI en))] := hl
  refine lv_aload_n hx hb d_Reader_readSignature_0 rfl (lv_at hl 0 rfl) ?_
  refine lv_bipush (v := 11) hx hb d_Reader_readSignature_1 (by decide) ?_
  refine lv_iload_n hx hb d_Reader_readSignature_3 rfl (lv_at hl 2 rfl) ?_
  have hFc := va_free (wc := [(h, .inr (5, [.ref res, .int ie, .ref t, .int (nI x.1), .int (nI x.2.1), .int (wI x.2.2), .int pa, .int ma, .int ex, .ref ki])), (t, .inl (cB, n, .inl (tx u)))]) hD hS hA [0, 1] rfl
  refine va_callv (mu_runU (As := [.int 11, .int (nI en)]) (rest := []) ⟨hx, hb, hml, hown, hts⟩ (cL_algorithm l dC dI sb h res t ki n x pa ma ex ie cB u 11 en s.heap.size hu hn hi he (by decide)) (cu_of (n := 2) hts tbin q4_231 q9_213 q3_179 q9_215 q1_15 q3_180 rfl (by decide +kernel) ⟨rfl, rfl⟩ ⟨Nat.le_of_ble_eq_true rfl, Nat.le_of_ble_eq_true rfl⟩) rfl ⟨Nat.le_of_ble_eq_true rfl, Nat.le_of_ble_eq_true rfl⟩ hN (hT0.keep hS hAs) hAs (Nat.le_trans hB0 hS.1) hK hP hD [0, 1] (by decide) rfl [0] rfl 0 5 rfl rfl rfl hl.1 rfl (Nat.le_of_ble_eq_true rfl) d_Reader_readSignature_4) hS (fun q _ h => hFc q h) hFc (fun u4 tS H4 locs ht hvm hw4 hB hz1 hk1 hS => ?_)
  obtain ⟨x4, rfl⟩ : ∃ z, z = u4 := ⟨_, rfl⟩
  obtain ⟨hP1, hK1, hD1⟩ := hB
  rw [ht] at hP1
  obtain ⟨hP, hD⟩ := va_join (wr := [(res, .inr (2, [.ref k0, .ref k1, .ref k2, .ref k3, .ref k4, .ref k5, .long k6, .long k7, .int k8]))]) (w1 := [(h, .inr (5, [.ref res, .int ie, .ref t, .int (nI x4.1), .int (nI x4.2.1), .int (wI x4.2.2), .int pa, .int ma, .int ex, .ref ki])), (t, .inl (cB, n, .inl (tx u)))]) hP hD [0, 1] [2] rfl rfl (by decide) (by decide) hk1 hFc hP1 hD1
  have hP : va_P (dC, dI) classes [(res, .inr (2, [.ref k0, .ref k1, .ref k2, .ref k3, .ref k4, .ref k5, .long k6, .long k7, .int k8])), (h, .inr (5, [.ref res, .int ie, .ref t, .int (nI x4.1), .int (nI x4.2.1), .int (wI x4.2.2), .int pa, .int ma, .int ex, .ref ki])), (t, .inl (cB, n, .inl (tx u)))] H4 := hP
  have hD : va_D A [(res, .inr (2, [.ref k0, .ref k1, .ref k2, .ref k3, .ref k4, .ref k5, .long k6, .long k7, .int k8])), (h, .inr (5, [.ref res, .int ie, .ref t, .int (nI x4.1), .int (nI x4.2.1), .int (wI x4.2.2), .int pa, .int ma, .int ex, .ref ki])), (t, .inl (cB, n, .inl (tx u)))] := hD
  have hw4 : x4 = rd_alg u n x 11 en := hw4
  have hi4 : rdInv n x4 := by rw [hw4]; exact alg_inv hi he
  refine lv_aload_n hx hb d_Reader_readSignature_7 rfl (lv_at hl 0 rfl) ?_
  refine lv_iload_n hx hb d_Reader_readSignature_8 rfl (lv_at hl 2 rfl) ?_
  have hFc := va_free (wc := [(h, .inr (5, [.ref res, .int ie, .ref t, .int (nI x4.1), .int (nI x4.2.1), .int (wI x4.2.2), .int pa, .int ma, .int ex, .ref ki])), (t, .inl (cB, n, .inl (tx u)))]) hD hS hA [1, 2] rfl
  refine va_calli (mu_runU (As := [.int (nI en)]) (rest := []) ⟨hx, hb, hml, hown, hts⟩ (cL_openBits l dC dI sb h res t ki n x4 pa ma ex ie cB u en H4.size hu hn hi4 he) (cu_of (n := 1) hts tbin q4_232 q9_216 q4_42 q9_218 q1_15 q4_43 rfl (by decide +kernel) ⟨rfl, rfl⟩ ⟨Nat.le_of_ble_eq_true rfl, Nat.le_of_ble_eq_true rfl⟩) rfl ⟨Nat.le_of_ble_eq_true rfl, Nat.le_of_ble_eq_true rfl⟩ hN (hT0.keep hS hAs) hAs (Nat.le_trans hB0 hS.1) hK hP hD [1, 2] (by decide) rfl [0] rfl 1 5 rfl rfl rfl hl.1 rfl (Nat.le_of_ble_eq_true rfl) d_Reader_readSignature_9) hS (fun q _ h => hFc q h) hFc (fun r9 u9 tS H9 locs ht hvm hw9 hB hz1 hk1 hS => ?_)
  obtain ⟨x9, rfl⟩ : ∃ z, z = u9 := ⟨_, rfl⟩
  obtain ⟨hP1, hK1, hD1⟩ := hB
  rw [ht] at hP1
  obtain ⟨hP, hD⟩ := va_join (wr := [(res, .inr (2, [.ref k0, .ref k1, .ref k2, .ref k3, .ref k4, .ref k5, .long k6, .long k7, .int k8]))]) (w1 := [(h, .inr (5, [.ref res, .int ie, .ref t, .int (nI x9.1), .int (nI x9.2.1), .int (wI x9.2.2), .int pa, .int ma, .int ex, .ref ki])), (t, .inl (cB, n, .inl (tx u)))]) hP hD [1, 2] [0] rfl rfl (by decide) (by decide) hk1 hFc hP1 hD1
  have hP : va_P (dC, dI) classes [(res, .inr (2, [.ref k0, .ref k1, .ref k2, .ref k3, .ref k4, .ref k5, .long k6, .long k7, .int k8])), (h, .inr (5, [.ref res, .int ie, .ref t, .int (nI x9.1), .int (nI x9.2.1), .int (wI x9.2.2), .int pa, .int ma, .int ex, .ref ki])), (t, .inl (cB, n, .inl (tx u)))] H9 := hP
  have hD : va_D A [(res, .inr (2, [.ref k0, .ref k1, .ref k2, .ref k3, .ref k4, .ref k5, .long k6, .long k7, .int k8])), (h, .inr (5, [.ref res, .int ie, .ref t, .int (nI x9.1), .int (nI x9.2.1), .int (wI x9.2.2), .int pa, .int ma, .int ex, .ref ki])), (t, .inl (cB, n, .inl (tx u)))] := hD
  have hb9 := bits_inv (u := u) hi4 he
  obtain ⟨b9, hb9e⟩ : ∃ b9, b9 = rd_bits u n x4 en := ⟨_, rfl⟩
  have hw9 : x9 = (rd_bits u n x4 en).1 ∧ r9 = nI (rd_bits u n x4 en).2 := hw9
  rw [← hb9e] at hb9 hw9
  obtain ⟨rfl, rfl⟩ := hw9
  have hP : va_P (dC, dI) classes [(res, .inr (2, [.ref k0, .ref k1, .ref k2, .ref k3, .ref k4, .ref k5, .long k6, .long k7, .int k8])), (h, .inr (5, [.ref res, .int ie, .ref t, .int (nI b9.1.1), .int (nI b9.1.2.1), .int (wI b9.1.2.2), .int pa, .int ma, .int ex, .ref ki])), (t, .inl (cB, n, .inl (tx u)))] H9 := hP
  have hD : va_D A [(res, .inr (2, [.ref k0, .ref k1, .ref k2, .ref k3, .ref k4, .ref k5, .long k6, .long k7, .int k8])), (h, .inr (5, [.ref res, .int ie, .ref t, .int (nI b9.1.1), .int (nI b9.1.2.1), .int (wI b9.1.2.2), .int pa, .int ma, .int ex, .ref ki])), (t, .inl (cB, n, .inl (tx u)))] := hD
  refine lv_istore_n (lv' := [(3, .int (nI b9.2)), (0, .ref h), (1, .ref res), (2, .int (nI en))]) hx hb d_Reader_readSignature_12 rfl hl (by decide) rfl (fun ls hl => ?_)
  refine lv_aload_n hx hb d_Reader_readSignature_13 rfl (lv_at hl 2 rfl) ?_
  refine va_new (ci := 0) (fs := [.null, .int 0, .int 0]) hx hb htb i_Slice t_Slice t_Slice_ok hown (htb _ q3_137) (htb _ q2_92) (htb _ q1_22) hK hP hD hS hA rfl (fun j hj => by rcases (show j = 0 ∨ j = 1 ∨ j = 2 by omega) with rfl | rfl | rfl <;> rfl) (Nat.le_of_ble_eq_true rfl) (Nat.le_of_ble_eq_true rfl) d_Reader_readSignature_14 (fun q14 H14 hP hD hS => ?_)
  have hP : va_P (dC, dI) classes [(res, .inr (2, [.ref k0, .ref k1, .ref k2, .ref k3, .ref k4, .ref k5, .long k6, .long k7, .int k8])), (h, .inr (5, [.ref res, .int ie, .ref t, .int (nI b9.1.1), .int (nI b9.1.2.1), .int (wI b9.1.2.2), .int pa, .int ma, .int ex, .ref ki])), (t, .inl (cB, n, .inl (tx u))), (q14, .inr (0, [.null, .int 0, .int 0]))] H14 := hP
  have hD : va_D A [(res, .inr (2, [.ref k0, .ref k1, .ref k2, .ref k3, .ref k4, .ref k5, .long k6, .long k7, .int k8])), (h, .inr (5, [.ref res, .int ie, .ref t, .int (nI b9.1.1), .int (nI b9.1.2.1), .int (wI b9.1.2.2), .int pa, .int ma, .int ex, .ref ki])), (t, .inl (cB, n, .inl (tx u))), (q14, .inr (0, [.null, .int 0, .int 0]))] := hD
  refine lv_dup hx hb d_Reader_readSignature_17 rfl ?_
  refine lv_aload_n hx hb d_Reader_readSignature_18 rfl (lv_at hl 1 rfl) ?_
  refine va_get (v := .ref t) hx hb htb i_ListReader hown hK hP 1 rfl rfl 2 (by decide) (htb _ q3_57) (fun _ h9 => h9) rfl d_Reader_readSignature_19 ?_
  refine lv_aload_n hx hb d_Reader_readSignature_22 rfl (lv_at hl 1 rfl) ?_
  refine va_get (v := .int (nI b9.1.1)) hx hb htb i_ListReader hown hK hP 1 rfl rfl 3 (by decide) (htb _ q3_62) (fun _ h9 => h9) rfl d_Reader_readSignature_23 ?_
  refine lv_iload_n hx hb d_Reader_readSignature_26 rfl (lv_at hl 0 rfl) ?_
  have hFc := va_free (wc := [(q14, .inr (0, [.null, .int 0, .int 0]))]) hD hS hA [3] rfl
  refine va_callv (mu_runI (As := [.ref t, .int (nI b9.1.1), .int (nI b9.2)]) (rest := [.ref q14, .ref res]) ⟨hx, hb, hml, hown, hts⟩ tbin (c_Slice_init l dC dI sb q14 t (nI b9.1.1) (nI b9.2) H14.size) q3_138 q2_94 q1_22 q2_95 rfl (n := 3) (by decide +kernel) rfl ⟨rfl, rfl⟩ ⟨Nat.le_of_ble_eq_true rfl, Nat.le_of_ble_eq_true rfl⟩ ⟨Nat.le_of_ble_eq_true rfl, Nat.le_of_ble_eq_true rfl⟩ hN (hT0.keep hS hAs) hAs (Nat.le_trans hB0 hS.1) hK hP hD [3] (by decide) rfl [] rfl hl.1 rfl (Nat.le_of_ble_eq_true rfl) d_Reader_readSignature_27) hS (fun q _ h => hFc q h) hFc (fun u27 tS H27 locs ht hvm hw27 hB hz1 hk1 hS => ?_)
  skip
  obtain ⟨hP1, hK1, hD1⟩ := hB
  rw [ht] at hP1
  obtain ⟨hP, hD⟩ := va_join (wr := [(res, .inr (2, [.ref k0, .ref k1, .ref k2, .ref k3, .ref k4, .ref k5, .long k6, .long k7, .int k8])), (h, .inr (5, [.ref res, .int ie, .ref t, .int (nI b9.1.1), .int (nI b9.1.2.1), .int (wI b9.1.2.2), .int pa, .int ma, .int ex, .ref ki])), (t, .inl (cB, n, .inl (tx u)))]) (w1 := [(q14, .inr (0, [.ref t, .int (nI b9.1.1), .int (nI b9.2)]))]) hP hD [3] [0, 1, 2] rfl rfl (by decide) (by decide) hk1 hFc hP1 hD1
  have hP : va_P (dC, dI) classes [(res, .inr (2, [.ref k0, .ref k1, .ref k2, .ref k3, .ref k4, .ref k5, .long k6, .long k7, .int k8])), (h, .inr (5, [.ref res, .int ie, .ref t, .int (nI b9.1.1), .int (nI b9.1.2.1), .int (wI b9.1.2.2), .int pa, .int ma, .int ex, .ref ki])), (t, .inl (cB, n, .inl (tx u))), (q14, .inr (0, [.ref t, .int (nI b9.1.1), .int (nI b9.2)]))] H27 := hP
  have hD : va_D A [(res, .inr (2, [.ref k0, .ref k1, .ref k2, .ref k3, .ref k4, .ref k5, .long k6, .long k7, .int k8])), (h, .inr (5, [.ref res, .int ie, .ref t, .int (nI b9.1.1), .int (nI b9.1.2.1), .int (wI b9.1.2.2), .int pa, .int ma, .int ex, .ref ki])), (t, .inl (cB, n, .inl (tx u))), (q14, .inr (0, [.ref t, .int (nI b9.1.1), .int (nI b9.2)]))] := hD
  refine va_put (v := .ref q14) (ty := (.object "TrustChain$Slice")) hx hb htb i_Paper t_Paper t_Paper_ok n_Paper hown hK hP hD hS 0 rfl rfl 4 (by decide) (htb _ q2_210) (fun _ h9 => h9) rfl (by decide +kernel) rfl rfl (Nat.le_of_ble_eq_true rfl) d_Reader_readSignature_30 (fun H30 locs hP hD hS => ?_)
  have hP : va_P (dC, dI) classes [(res, .inr (2, [.ref k0, .ref k1, .ref k2, .ref k3, .ref q14, .ref k5, .long k6, .long k7, .int k8])), (h, .inr (5, [.ref res, .int ie, .ref t, .int (nI b9.1.1), .int (nI b9.1.2.1), .int (wI b9.1.2.2), .int pa, .int ma, .int ex, .ref ki])), (t, .inl (cB, n, .inl (tx u))), (q14, .inr (0, [.ref t, .int (nI b9.1.1), .int (nI b9.2)]))] H30 := hP
  have hD : va_D A [(res, .inr (2, [.ref k0, .ref k1, .ref k2, .ref k3, .ref q14, .ref k5, .long k6, .long k7, .int k8])), (h, .inr (5, [.ref res, .int ie, .ref t, .int (nI b9.1.1), .int (nI b9.1.2.1), .int (wI b9.1.2.2), .int pa, .int ma, .int ex, .ref ki])), (t, .inl (cB, n, .inl (tx u))), (q14, .inr (0, [.ref t, .int (nI b9.1.1), .int (nI b9.2)]))] := hD
  refine lv_aload_n hx hb d_Reader_readSignature_33 rfl (lv_at hl 1 rfl) ?_
  refine lv_iload_n hx hb d_Reader_readSignature_34 rfl (lv_at hl 0 rfl) ?_
  refine lv_iconst (v := 1) hx hb d_Reader_readSignature_35 (by decide) ?_
  have hFc := va_free (wc := [(h, .inr (5, [.ref res, .int ie, .ref t, .int (nI b9.1.1), .int (nI b9.1.2.1), .int (wI b9.1.2.2), .int pa, .int ma, .int ex, .ref ki]))]) hD hS hA [1] rfl
  refine va_callv (mu_runU (As := [.int (nI b9.2), .int 1]) (rest := []) ⟨hx, hb, hml, hown, hts⟩ (cL_leave l dC dI sb h res t ki b9.1.1 b9.1.2.1 n b9.1.2.2 pa ma ex ie cB u b9.2 1 H30.size ((hb9.1).w hn)) (cu_of (n := 2) hts tbin q3_131 q3_133 q3_132 q3_135 q1_15 q3_136 rfl (by decide +kernel) ⟨rfl, rfl⟩ ⟨Nat.le_of_ble_eq_true rfl, Nat.le_of_ble_eq_true rfl⟩) rfl ⟨Nat.le_of_ble_eq_true rfl, Nat.le_of_ble_eq_true rfl⟩ hN (hT0.keep hS hAs) hAs (Nat.le_trans hB0 hS.1) hK hP hD [1] (by decide) rfl [] rfl 1 5 rfl rfl rfl hl.1 rfl (Nat.le_of_ble_eq_true rfl) d_Reader_readSignature_36) hS (fun q _ h => hFc q h) hFc (fun u36 tS H36 locs ht hvm hw36 hB hz1 hk1 hS => ?_)
  obtain ⟨x36, rfl⟩ : ∃ z, z = u36 := ⟨_, rfl⟩
  obtain ⟨hP1, hK1, hD1⟩ := hB
  rw [ht] at hP1
  obtain ⟨hP, hD⟩ := va_join (wr := [(res, .inr (2, [.ref k0, .ref k1, .ref k2, .ref k3, .ref q14, .ref k5, .long k6, .long k7, .int k8])), (t, .inl (cB, n, .inl (tx u))), (q14, .inr (0, [.ref t, .int (nI b9.1.1), .int (nI b9.2)]))]) (w1 := [(h, .inr (5, [.ref res, .int ie, .ref t, .int (nI x36.1), .int (nI x36.2.1), .int (wI x36.2.2), .int pa, .int ma, .int ex, .ref ki]))]) hP hD [1] [0, 2, 3] rfl rfl (by decide) (by decide) hk1 hFc hP1 hD1
  have hP : va_P (dC, dI) classes [(res, .inr (2, [.ref k0, .ref k1, .ref k2, .ref k3, .ref q14, .ref k5, .long k6, .long k7, .int k8])), (t, .inl (cB, n, .inl (tx u))), (q14, .inr (0, [.ref t, .int (nI b9.1.1), .int (nI b9.2)])), (h, .inr (5, [.ref res, .int ie, .ref t, .int (nI x36.1), .int (nI x36.2.1), .int (wI x36.2.2), .int pa, .int ma, .int ex, .ref ki]))] H36 := hP
  have hD : va_D A [(res, .inr (2, [.ref k0, .ref k1, .ref k2, .ref k3, .ref q14, .ref k5, .long k6, .long k7, .int k8])), (t, .inl (cB, n, .inl (tx u))), (q14, .inr (0, [.ref t, .int (nI b9.1.1), .int (nI b9.2)])), (h, .inr (5, [.ref res, .int ie, .ref t, .int (nI x36.1), .int (nI x36.2.1), .int (wI x36.2.2), .int pa, .int ma, .int ex, .ref ki]))] := hD
  have hw36 : x36 = rd_lea b9.1 b9.2 1 := hw36
  have hi36 : rdInv n x36 := by rw [hw36]; exact lea_inv hb9.1 hb9.2.2
  refine lv_aload_n hx hb d_Reader_readSignature_39 rfl (lv_at hl 1 rfl) ?_
  refine lv_iload_n hx hb d_Reader_readSignature_40 rfl (lv_at hl 3 rfl) ?_
  have hFc := va_free (wc := [(h, .inr (5, [.ref res, .int ie, .ref t, .int (nI x36.1), .int (nI x36.2.1), .int (wI x36.2.2), .int pa, .int ma, .int ex, .ref ki]))]) hD hS hA [3] rfl
  refine va_callv (mu_runU (As := [.int (nI en)]) (rest := []) ⟨hx, hb, hml, hown, hts⟩ (cL_finish l dC dI sb h res t ki x36.1 x36.2.1 n x36.2.2 pa ma ex ie cB u en H36.size ((hi36).w hn) (by have := (hi36).1; omega) (by have := he; omega)) (cu_of (n := 1) hts tbin q3_183 q9_201 q3_163 q9_203 q1_15 q3_164 rfl (by decide +kernel) ⟨rfl, rfl⟩ ⟨Nat.le_of_ble_eq_true rfl, Nat.le_of_ble_eq_true rfl⟩) rfl ⟨Nat.le_of_ble_eq_true rfl, Nat.le_of_ble_eq_true rfl⟩ hN (hT0.keep hS hAs) hAs (Nat.le_trans hB0 hS.1) hK hP hD [3] (by decide) rfl [] rfl 3 5 rfl rfl rfl hl.1 rfl (Nat.le_of_ble_eq_true rfl) d_Reader_readSignature_41) hS (fun q _ h => hFc q h) hFc (fun u41 tS H41 locs ht hvm hw41 hB hz1 hk1 hS => ?_)
  obtain ⟨x41, rfl⟩ : ∃ z, z = u41 := ⟨_, rfl⟩
  obtain ⟨hP1, hK1, hD1⟩ := hB
  rw [ht] at hP1
  obtain ⟨hP, hD⟩ := va_join (wr := [(res, .inr (2, [.ref k0, .ref k1, .ref k2, .ref k3, .ref q14, .ref k5, .long k6, .long k7, .int k8])), (t, .inl (cB, n, .inl (tx u))), (q14, .inr (0, [.ref t, .int (nI b9.1.1), .int (nI b9.2)]))]) (w1 := [(h, .inr (5, [.ref res, .int ie, .ref t, .int (nI x41.1), .int (nI x41.2.1), .int (wI x41.2.2), .int pa, .int ma, .int ex, .ref ki]))]) hP hD [3] [0, 1, 2] rfl rfl (by decide) (by decide) hk1 hFc hP1 hD1
  have hP : va_P (dC, dI) classes [(res, .inr (2, [.ref k0, .ref k1, .ref k2, .ref k3, .ref q14, .ref k5, .long k6, .long k7, .int k8])), (t, .inl (cB, n, .inl (tx u))), (q14, .inr (0, [.ref t, .int (nI b9.1.1), .int (nI b9.2)])), (h, .inr (5, [.ref res, .int ie, .ref t, .int (nI x41.1), .int (nI x41.2.1), .int (wI x41.2.2), .int pa, .int ma, .int ex, .ref ki]))] H41 := hP
  have hD : va_D A [(res, .inr (2, [.ref k0, .ref k1, .ref k2, .ref k3, .ref q14, .ref k5, .long k6, .long k7, .int k8])), (t, .inl (cB, n, .inl (tx u))), (q14, .inr (0, [.ref t, .int (nI b9.1.1), .int (nI b9.2)])), (h, .inr (5, [.ref res, .int ie, .ref t, .int (nI x41.1), .int (nI x41.2.1), .int (wI x41.2.2), .int pa, .int ma, .int ex, .ref ki]))] := hD
  have hw41 : x41 = rd_fin x36 en := hw41
  have hi41 : rdInv n x41 := by rw [hw41]; exact fin_inv hi36
  refine lv_aload_n hx hb d_Reader_readSignature_44 rfl (lv_at hl 1 rfl) ?_
  refine lv_aload_n hx hb d_Reader_readSignature_45 rfl (lv_at hl 1 rfl) ?_
  refine va_get (v := .ref t) hx hb htb i_ListReader hown hK hP 3 rfl rfl 2 (by decide) (htb _ q3_57) (fun _ h9 => h9) rfl d_Reader_readSignature_46 ?_
  refine va_alen (v := nI n) hx hb hK hP 1 0 rfl rfl rfl d_Reader_readSignature_49 ?_
  have hFc := va_free (wc := [(h, .inr (5, [.ref res, .int ie, .ref t, .int (nI x41.1), .int (nI x41.2.1), .int (wI x41.2.2), .int pa, .int ma, .int ex, .ref ki]))]) hD hS hA [3] rfl
  refine va_callv (mu_runU (As := [.int (nI n)]) (rest := []) ⟨hx, hb, hml, hown, hts⟩ (cL_finish l dC dI sb h res t ki x41.1 x41.2.1 n x41.2.2 pa ma ex ie cB u n H41.size ((hi41).w hn) (by have := (hi41).1; omega) (by have := (Nat.le_refl n); omega)) (cu_of (n := 1) hts tbin q3_183 q9_201 q3_163 q9_203 q1_15 q3_164 rfl (by decide +kernel) ⟨rfl, rfl⟩ ⟨Nat.le_of_ble_eq_true rfl, Nat.le_of_ble_eq_true rfl⟩) rfl ⟨Nat.le_of_ble_eq_true rfl, Nat.le_of_ble_eq_true rfl⟩ hN (hT0.keep hS hAs) hAs (Nat.le_trans hB0 hS.1) hK hP hD [3] (by decide) rfl [] rfl 3 5 rfl rfl rfl hl.1 rfl (Nat.le_of_ble_eq_true rfl) d_Reader_readSignature_50) hS (fun q _ h => hFc q h) hFc (fun u50 tS H50 locs ht hvm hw50 hB hz1 hk1 hS => ?_)
  obtain ⟨x50, rfl⟩ : ∃ z, z = u50 := ⟨_, rfl⟩
  obtain ⟨hP1, hK1, hD1⟩ := hB
  rw [ht] at hP1
  obtain ⟨hP, hD⟩ := va_join (wr := [(res, .inr (2, [.ref k0, .ref k1, .ref k2, .ref k3, .ref q14, .ref k5, .long k6, .long k7, .int k8])), (t, .inl (cB, n, .inl (tx u))), (q14, .inr (0, [.ref t, .int (nI b9.1.1), .int (nI b9.2)]))]) (w1 := [(h, .inr (5, [.ref res, .int ie, .ref t, .int (nI x50.1), .int (nI x50.2.1), .int (wI x50.2.2), .int pa, .int ma, .int ex, .ref ki]))]) hP hD [3] [0, 1, 2] rfl rfl (by decide) (by decide) hk1 hFc hP1 hD1
  have hP : va_P (dC, dI) classes [(res, .inr (2, [.ref k0, .ref k1, .ref k2, .ref k3, .ref q14, .ref k5, .long k6, .long k7, .int k8])), (t, .inl (cB, n, .inl (tx u))), (q14, .inr (0, [.ref t, .int (nI b9.1.1), .int (nI b9.2)])), (h, .inr (5, [.ref res, .int ie, .ref t, .int (nI x50.1), .int (nI x50.2.1), .int (wI x50.2.2), .int pa, .int ma, .int ex, .ref ki]))] H50 := hP
  have hD : va_D A [(res, .inr (2, [.ref k0, .ref k1, .ref k2, .ref k3, .ref q14, .ref k5, .long k6, .long k7, .int k8])), (t, .inl (cB, n, .inl (tx u))), (q14, .inr (0, [.ref t, .int (nI b9.1.1), .int (nI b9.2)])), (h, .inr (5, [.ref res, .int ie, .ref t, .int (nI x50.1), .int (nI x50.2.1), .int (wI x50.2.2), .int pa, .int ma, .int ex, .ref ki]))] := hD
  have hw50 : x50 = rd_fin x41 n := hw50
  have hi50 : rdInv n x50 := by rw [hw50]; exact fin_inv hi41
  subst hb9e
  subst hw4
  exact W.vret hx hb hr (fun t ht hW => ⟨⟨(x50, q14), rfl, hw50.trans (by rw [hw41, hw36]; rfl), by rw [ht]; exact hP.sub [3, 1, 0, 2] rfl, va_K.moved hW.alike hK, hD.sub [3, 1, 0, 2] (by decide) rfl⟩, hS.F ht⟩) hS.2.2 d_Reader_readSignature_53
