/-! ListReader.readHead. -/
noncomputable def lh_1 (u : Nat → Nat) (n : Nat) (x : rS) (en : Nat) : rS :=
  let z := rd_nm u n x 2 en
  rd_alg u n (rd_req z.1 (zP (sl_num u z.2.1 z.2.2 = 1))) 11 en
/-- the head of a LIST: y, c: the row of its NAME; x3: behind its NAME -/
def lhdP (u : Nat → Nat) (n : Nat) (x : rS) (en : Nat) (xe : rS) (c : Nat) (a b : Int64) : Prop :=
  ∃ y x3 : rS, rowP u n (rd_opn u n (lh_1 u n x en) 48 en).2 (rd_opn u n (lh_1 u n x en) 48 en).1 y c ∧ x3 = (if (rd_opn u n (lh_1 u n x en) 48 en).2 - (rd_opn u n (lh_1 u n x en) 48 en).1.1 = 0 then rd_ref y (lh_1 u n x en).1 else y) ∧
    a = (rd_time u n x3 en).2 ∧ b = (rd_time u n (rd_time u n x3 en).1 en).2 ∧ xe = (rd_time u n (rd_time u n x3 en).1 en).1
theorem lg_eq {x y : Int64} : lg_cmp x y = 0 ↔ x = y := by
  unfold lg_cmp
  by_cases h1 : y < x
  · simp only [h1, if_true]
    exact ⟨fun q => absurd q (by decide), fun q => by rw [q] at h1; exact absurd h1 Int64.lt_irrefl⟩
  · by_cases h2 : x = y
    · simp [h1, h2]
    · simp [h1, h2]
set_option maxHeartbeats 4000000 in
set_option maxRecDepth 100000 in
theorem cL_readHead (l : Launch) (dC : Nat → ClassId) (dI : Nat → Nat → Nat) (sb : sB) (h res t ki n : Nat) (x : rS) (pa ma ex ie : Int32) (cB : ClassId) (u : Nat → Nat) (en : Nat) (k0 k1 k2 k3 k4 k5 : Nat) (k8 : Int32) (k6 k7 : Int64) (sz : Nat) (hu : ∀ j, u j < 256) (hn : n < 2 ^ 30) (hi : rdInv n x) (he : en ≤ n) : Met l y_ListReader_readHead w_ListReader_readHead ({ frames := 8, cells := 2, slots := 6, locals := 240 }) (mu_P [.ref h, .int (nI en)] (dC, dI) sb [(h, .inr (5, [.ref res, .int ie, .ref t, .int (nI x.1), .int (nI x.2.1), .int (wI x.2.2), .int pa, .int ma, .int ex, .ref ki])), (t, .inl (cB, n, .inl (tx u))), (res, .inr (2, [.ref k0, .ref k1, .ref k2, .ref k3, .ref k4, .ref k5, .long k6, .long k7, .int k8]))] [(cB, .byte)] sz) (va_Qv (fun (u' : rS × Nat × Nat × Int64 × Int64) => lhdP u n x en u'.1 u'.2.1 u'.2.2.2.1 u'.2.2.2.2) (mu_B (dC, dI) [(cB, .byte)] (va_A [(h, .inr (5, [.ref res, .int ie, .ref t, .int (nI x.1), .int (nI x.2.1), .int (wI x.2.2), .int pa, .int ma, .int ex, .ref ki])), (t, .inl (cB, n, .inl (tx u))), (res, .inr (2, [.ref k0, .ref k1, .ref k2, .ref k3, .ref k4, .ref k5, .long k6, .long k7, .int k8]))] sz) (fun u' : rS × Nat × Nat × Int64 × Int64 => [(h, .inr (5, [.ref res, .int ie, .ref t, .int (nI u'.1.1), .int (nI u'.1.2.1), .int (wI u'.1.2.2), .int (nI u'.2.1), .int ma, .int ex, .ref ki])), (t, .inl (cB, n, .inl (tx u))), (res, .inr (2, [.ref k0, .ref k1, .ref k2, .ref k3, .ref k4, .ref u'.2.2.1, .long u'.2.2.2.1, .long u'.2.2.2.2, .int k8])), (u'.2.2.1, .inr (0, [.ref t, .int (nI (rd_opn u n (lh_1 u n x en) 48 en).1.1), .int (nI (rd_opn u n (lh_1 u n x en) 48 en).2)]))])) (va_A [(h, .inr (5, [.ref res, .int ie, .ref t, .int (nI x.1), .int (nI x.2.1), .int (wI x.2.2), .int pa, .int ma, .int ex, .ref ki])), (t, .inl (cB, n, .inl (tx u))), (res, .inr (2, [.ref k0, .ref k1, .ref k2, .ref k3, .ref k4, .ref k5, .long k6, .long k7, .int k8]))] sz)) 2 6 (va_A [(h, .inr (5, [.ref res, .int ie, .ref t, .int (nI x.1), .int (nI x.2.1), .int (wI x.2.2), .int pa, .int ma, .int ex, .ref ki])), (t, .inl (cB, n, .inl (tx u))), (res, .inr (2, [.ref k0, .ref k1, .ref k2, .ref k3, .ref k4, .ref k5, .long k6, .long k7, .int k8]))] sz) := by
  refine Met.ofW (cc := b_ListReader_readHead) (maxL := 2) (ret := none) (by decide) rfl ?_
  intro p e s m args below meth c s₁ B hml hv
  obtain ⟨rfl, hsz, hB0, hP, hK, hD0, hN, hT0⟩ := hv
  have hx := B.exec
  have hb := B.bytes
  have hr := B.returns
  have hts := atoms_spec (ws := w_ListReader_readHead) B.pre
  have tbin : ∀ w ∈ tb, w ∈ w_ListReader_readHead := fun w h => List.mem_cons_of_mem _ h
  have htb : ∀ w ∈ tb, w.before _ s = true := fun w h => hts w (tbin w h)
  have hown : s.vm.findClass "TrustChain$ListReader" = some m.cls := findClass_of_methodNamed B.named
  have hlocks := B.notSynchronized
  subst hsz
  have hD := hD0.self (sz := s.heap.size)
  generalize hAe : va_A [(h, .inr (5, [.ref res, .int ie, .ref t, .int (nI x.1), .int (nI x.2.1), .int (wI x.2.2), .int pa, .int ma, .int ex, .ref ki])), (t, .inl (cB, n, .inl (tx u))), (res, .inr (2, [.ref k0, .ref k1, .ref k2, .ref k3, .ref k4, .ref k5, .long k6, .long k7, .int k8]))] s.heap.size = A at hD ⊢
  have hA : ∀ q : Nat, s.heap.size ≤ q → A q := fun q h => by rw [← hAe]; exact Or.inr h
  have hAs : ∀ q : Nat, A q → sb.1 ≤ q := fun q h => by
    rw [← hAe] at h
    rcases h with ⟨k, e, h⟩ | h
    · exact hD0.2 k _ h
    · exact Nat.le_trans hB0 h
  have hS : va_S A s.heap s.heap [] := va_S.rf
  have hcs : 2 ≤ (headSpec w_ListReader_readHead ({ frames := 8, cells := 2, slots := 6, locals := 240 })).room.cells ∧ 6 ≤ (headSpec w_ListReader_readHead ({ frames := 8, cells := 2, slots := 6, locals := 240 })).room.slots := ⟨Nat.le_refl _, Nat.le_refl _⟩
  have hP : va_P (dC, dI) classes [(h, .inr (5, [.ref res, .int ie, .ref t, .int (nI x.1), .int (nI x.2.1), .int (wI x.2.2), .int pa, .int ma, .int ex, .ref ki])), (t, .inl (cB, n, .inl (tx u))), (res, .inr (2, [.ref k0, .ref k1, .ref k2, .ref k3, .ref k4, .ref k5, .long k6, .long k7, .int k8]))] s.heap := hP
  have hl := lv_entry ([.ref h, .int (nI en)]) (n := 2) (Nat.le_of_ble_eq_true rfl)
  rw [lg_entry_eq]
  generalize (lg_sl ([.ref h, .int (nI en)]) ++ List.replicate (2 - (lg_sl ([.ref h, .int (nI en)])).length) Slot.unset).toArray = ls at hl ⊢
  have hl : lv_has ls 2 [(0, .ref h), (1, .int (nI en))] := hl
  refine lv_aload_n hx hb d_ListReader_readHead_0 rfl (lv_at hl 0 rfl) ?_
  refine lv_aload_n hx hb d_ListReader_readHead_1 rfl (lv_at hl 0 rfl) ?_
  refine lv_iconst (v := 2) hx hb d_ListReader_readHead_2 (by decide) ?_
  refine lv_iload_n hx hb d_ListReader_readHead_3 rfl (lv_at hl 1 rfl) ?_
  have hFc := va_free (wc := [(h, .inr (5, [.ref res, .int ie, .ref t, .int (nI x.1), .int (nI x.2.1), .int (wI x.2.2), .int pa, .int ma, .int ex, .ref ki])), (t, .inl (cB, n, .inl (tx u)))]) hD hS hA [0, 1] rfl
  refine va_callr (mu_runU (As := [.int 2, .int (nI en)]) (rest := [.ref h]) ⟨hx, hb, hml, hown, hts⟩ (cL_number l dC dI sb h res t ki n x pa ma ex ie cB u 2 en s.heap.size hu hn hi he (by decide)) (cu_of (n := 2) hts tbin q4_190 q4_191 q3_128 q4_192 q1_15 q3_129 rfl (by decide +kernel) ⟨rfl, rfl⟩ ⟨Nat.le_of_ble_eq_true rfl, Nat.le_of_ble_eq_true rfl⟩) rfl ⟨Nat.le_of_ble_eq_true rfl, Nat.le_of_ble_eq_true rfl⟩ hN (hT0.keep hS hAs) hAs (Nat.le_trans hB0 hS.1) hK hP hD [0, 1] (by decide) rfl [0] rfl 0 5 rfl rfl rfl hl.1 rfl (Nat.le_of_ble_eq_true rfl) d_ListReader_readHead_4) hS (fun q _ h => hFc q h) hFc (fun u4 q4 tS H4 locs ht hvm hw4 hB hz1 hk1 hS => ?_)
  obtain ⟨x4, rfl⟩ : ∃ z, z = u4 := ⟨_, rfl⟩
  obtain ⟨hP1, hK1, hD1⟩ := hB
  rw [ht] at hP1
  obtain ⟨hP, hD⟩ := va_join (wr := [(res, .inr (2, [.ref k0, .ref k1, .ref k2, .ref k3, .ref k4, .ref k5, .long k6, .long k7, .int k8]))]) (w1 := [(h, .inr (5, [.ref res, .int ie, .ref t, .int (nI x4.1), .int (nI x4.2.1), .int (wI x4.2.2), .int pa, .int ma, .int ex, .ref ki])), (t, .inl (cB, n, .inl (tx u))), (q4, .inr (0, [.ref t, .int (nI (rd_nm u n x 2 en).2.1), .int (nI (rd_nm u n x 2 en).2.2)]))]) hP hD [0, 1] [2] rfl rfl (by decide) (by decide) hk1 hFc hP1 hD1
  have hP : va_P (dC, dI) classes [(res, .inr (2, [.ref k0, .ref k1, .ref k2, .ref k3, .ref k4, .ref k5, .long k6, .long k7, .int k8])), (h, .inr (5, [.ref res, .int ie, .ref t, .int (nI x4.1), .int (nI x4.2.1), .int (wI x4.2.2), .int pa, .int ma, .int ex, .ref ki])), (t, .inl (cB, n, .inl (tx u))), (q4, .inr (0, [.ref t, .int (nI (rd_nm u n x 2 en).2.1), .int (nI (rd_nm u n x 2 en).2.2)]))] H4 := hP
  have hD : va_D A [(res, .inr (2, [.ref k0, .ref k1, .ref k2, .ref k3, .ref k4, .ref k5, .long k6, .long k7, .int k8])), (h, .inr (5, [.ref res, .int ie, .ref t, .int (nI x4.1), .int (nI x4.2.1), .int (wI x4.2.2), .int pa, .int ma, .int ex, .ref ki])), (t, .inl (cB, n, .inl (tx u))), (q4, .inr (0, [.ref t, .int (nI (rd_nm u n x 2 en).2.1), .int (nI (rd_nm u n x 2 en).2.2)]))] := hD
  have hn9 := nm_inv (u := u) (tg := 2) hi he
  obtain ⟨z9, hz9⟩ : ∃ z9, z9 = rd_nm u n x 2 en := ⟨_, rfl⟩
  rw [← hz9] at hn9 hw4 hP hD
  subst hw4
  have hP : va_P (dC, dI) classes [(res, .inr (2, [.ref k0, .ref k1, .ref k2, .ref k3, .ref k4, .ref k5, .long k6, .long k7, .int k8])), (h, .inr (5, [.ref res, .int ie, .ref t, .int (nI z9.1.1), .int (nI z9.1.2.1), .int (wI z9.1.2.2), .int pa, .int ma, .int ex, .ref ki])), (t, .inl (cB, n, .inl (tx u))), (q4, .inr (0, [.ref t, .int (nI z9.2.1), .int (nI z9.2.2)]))] H4 := hP
  have hD : va_D A [(res, .inr (2, [.ref k0, .ref k1, .ref k2, .ref k3, .ref k4, .ref k5, .long k6, .long k7, .int k8])), (h, .inr (5, [.ref res, .int ie, .ref t, .int (nI z9.1.1), .int (nI z9.1.2.1), .int (wI z9.1.2.2), .int pa, .int ma, .int ex, .ref ki])), (t, .inl (cB, n, .inl (tx u))), (q4, .inr (0, [.ref t, .int (nI z9.2.1), .int (nI z9.2.2)]))] := hD
  refine vp_callSl (pu_callV (As := []) (rest := [.ref h]) ⟨hx, hb, hml, hown, hts⟩ tbin (c_Slice_number l dC dI sb q4 t z9.2.1 z9.2.2 n cB u hu hn9.2.1 hn9.2.2 (by omega)) q4_193 q3_140 q3_141 q1_22 q3_142 (n := 0) (by decide +kernel) rfl ⟨rfl, rfl⟩ ⟨Nat.le_of_ble_eq_true rfl, Nat.le_of_ble_eq_true rfl⟩ ⟨Nat.le_of_ble_eq_true rfl, Nat.le_of_ble_eq_true rfl⟩ hN (hT0.keep hS hAs) hK hP [3, 2] rfl [0] rfl 3 0 rfl rfl rfl hl.1 rfl (Nat.le_of_ble_eq_true rfl) d_ListReader_readHead_7) (fun r7 hr7 => ?_)
  have hr7 : r7 = sl_num u z9.2.1 z9.2.2 := hr7
  refine w_join (J := fun v => bz v (sl_num u z9.2.1 z9.2.2 = 1)) (pc := 20) (ls := ls) (rest := [.ref h]) (fun v hv => ?_) (fun k20 => ?_)
  · skip
    have hFc := va_free (wc := [(h, .inr (5, [.ref res, .int ie, .ref t, .int (nI z9.1.1), .int (nI z9.1.2.1), .int (wI z9.1.2.2), .int pa, .int ma, .int ex, .ref ki]))]) hD hS hA [1] rfl
    refine va_callv (mu_runU (As := [.int v]) (rest := []) ⟨hx, hb, hml, hown, hts⟩ (cL_require l dC dI sb h res t ki z9.1.1 z9.1.2.1 n z9.1.2.2 pa ma ex ie cB u v H4.size ((hn9.1).w hn)) (cu_of (n := 1) hts tbin q4_196 q4_197 q3_157 q4_198 q1_15 q3_158 rfl (by decide +kernel) ⟨rfl, rfl⟩ ⟨Nat.le_of_ble_eq_true rfl, Nat.le_of_ble_eq_true rfl⟩) rfl ⟨Nat.le_of_ble_eq_true rfl, Nat.le_of_ble_eq_true rfl⟩ hN (hT0.keep hS hAs) hAs (Nat.le_trans hB0 hS.1) hK hP hD [1] (by decide) rfl [] rfl 1 5 rfl rfl rfl hl.1 rfl (Nat.le_of_ble_eq_true rfl) d_ListReader_readHead_20) hS (fun q _ h => hFc q h) hFc (fun u20 tS H20 locs ht hvm hw20 hB hz1 hk1 hS => ?_)
    obtain ⟨x20, rfl⟩ : ∃ z, z = u20 := ⟨_, rfl⟩
    obtain ⟨hP1, hK1, hD1⟩ := hB
    rw [ht] at hP1
    obtain ⟨hP, hD⟩ := va_join (wr := [(res, .inr (2, [.ref k0, .ref k1, .ref k2, .ref k3, .ref k4, .ref k5, .long k6, .long k7, .int k8])), (t, .inl (cB, n, .inl (tx u))), (q4, .inr (0, [.ref t, .int (nI z9.2.1), .int (nI z9.2.2)]))]) (w1 := [(h, .inr (5, [.ref res, .int ie, .ref t, .int (nI x20.1), .int (nI x20.2.1), .int (wI x20.2.2), .int pa, .int ma, .int ex, .ref ki]))]) hP hD [1] [0, 2, 3] rfl rfl (by decide) (by decide) hk1 hFc hP1 hD1
    have hP : va_P (dC, dI) classes [(res, .inr (2, [.ref k0, .ref k1, .ref k2, .ref k3, .ref k4, .ref k5, .long k6, .long k7, .int k8])), (t, .inl (cB, n, .inl (tx u))), (q4, .inr (0, [.ref t, .int (nI z9.2.1), .int (nI z9.2.2)])), (h, .inr (5, [.ref res, .int ie, .ref t, .int (nI x20.1), .int (nI x20.2.1), .int (wI x20.2.2), .int pa, .int ma, .int ex, .ref ki]))] H20 := hP
    have hD : va_D A [(res, .inr (2, [.ref k0, .ref k1, .ref k2, .ref k3, .ref k4, .ref k5, .long k6, .long k7, .int k8])), (t, .inl (cB, n, .inl (tx u))), (q4, .inr (0, [.ref t, .int (nI z9.2.1), .int (nI z9.2.2)])), (h, .inr (5, [.ref res, .int ie, .ref t, .int (nI x20.1), .int (nI x20.2.1), .int (wI x20.2.2), .int pa, .int ma, .int ex, .ref ki]))] := hD
    have hw20 : x20 = rd_req z9.1 v := hw20
    have hi20 : rdInv n x20 := by rw [hw20]; exact req_inv hn9.1
    refine lv_aload_n hx hb d_ListReader_readHead_23 rfl (lv_at hl 0 rfl) ?_
    refine lv_bipush (v := 11) hx hb d_ListReader_readHead_24 (by decide) ?_
    refine lv_iload_n hx hb d_ListReader_readHead_26 rfl (lv_at hl 1 rfl) ?_
    have hFc := va_free (wc := [(h, .inr (5, [.ref res, .int ie, .ref t, .int (nI x20.1), .int (nI x20.2.1), .int (wI x20.2.2), .int pa, .int ma, .int ex, .ref ki])), (t, .inl (cB, n, .inl (tx u)))]) hD hS hA [3, 1] rfl
    refine va_callv (mu_runU (As := [.int 11, .int (nI en)]) (rest := []) ⟨hx, hb, hml, hown, hts⟩ (cL_algorithm l dC dI sb h res t ki n x20 pa ma ex ie cB u 11 en H20.size hu hn hi20 he (by decide)) (cu_of (n := 2) hts tbin q5_102 q5_103 q3_179 q5_104 q1_15 q3_180 rfl (by decide +kernel) ⟨rfl, rfl⟩ ⟨Nat.le_of_ble_eq_true rfl, Nat.le_of_ble_eq_true rfl⟩) rfl ⟨Nat.le_of_ble_eq_true rfl, Nat.le_of_ble_eq_true rfl⟩ hN (hT0.keep hS hAs) hAs (Nat.le_trans hB0 hS.1) hK hP hD [3, 1] (by decide) rfl [0] rfl 3 5 rfl rfl rfl hl.1 rfl (Nat.le_of_ble_eq_true rfl) d_ListReader_readHead_27) hS (fun q _ h => hFc q h) hFc (fun u27 tS H27 locs ht hvm hw27 hB hz1 hk1 hS => ?_)
    obtain ⟨x27, rfl⟩ : ∃ z, z = u27 := ⟨_, rfl⟩
    obtain ⟨hP1, hK1, hD1⟩ := hB
    rw [ht] at hP1
    obtain ⟨hP, hD⟩ := va_join (wr := [(res, .inr (2, [.ref k0, .ref k1, .ref k2, .ref k3, .ref k4, .ref k5, .long k6, .long k7, .int k8])), (q4, .inr (0, [.ref t, .int (nI z9.2.1), .int (nI z9.2.2)]))]) (w1 := [(h, .inr (5, [.ref res, .int ie, .ref t, .int (nI x27.1), .int (nI x27.2.1), .int (wI x27.2.2), .int pa, .int ma, .int ex, .ref ki])), (t, .inl (cB, n, .inl (tx u)))]) hP hD [3, 1] [0, 2] rfl rfl (by decide) (by decide) hk1 hFc hP1 hD1
    have hP : va_P (dC, dI) classes [(res, .inr (2, [.ref k0, .ref k1, .ref k2, .ref k3, .ref k4, .ref k5, .long k6, .long k7, .int k8])), (q4, .inr (0, [.ref t, .int (nI z9.2.1), .int (nI z9.2.2)])), (h, .inr (5, [.ref res, .int ie, .ref t, .int (nI x27.1), .int (nI x27.2.1), .int (wI x27.2.2), .int pa, .int ma, .int ex, .ref ki])), (t, .inl (cB, n, .inl (tx u)))] H27 := hP
    have hD : va_D A [(res, .inr (2, [.ref k0, .ref k1, .ref k2, .ref k3, .ref k4, .ref k5, .long k6, .long k7, .int k8])), (q4, .inr (0, [.ref t, .int (nI z9.2.1), .int (nI z9.2.2)])), (h, .inr (5, [.ref res, .int ie, .ref t, .int (nI x27.1), .int (nI x27.2.1), .int (wI x27.2.2), .int pa, .int ma, .int ex, .ref ki])), (t, .inl (cB, n, .inl (tx u)))] := hD
    have hw27 : x27 = rd_alg u n x20 11 en := hw27
    have hi27 : rdInv n x27 := by rw [hw27]; exact alg_inv hi20 he
    refine lv_aload_n hx hb d_ListReader_readHead_30 rfl (lv_at hl 0 rfl) ?_
    refine va_get (v := .ref res) hx hb htb i_ListReader hown hK hP 2 rfl rfl 0 (by decide) (htb _ q5_75) (fun _ h9 => h9) rfl d_ListReader_readHead_31 ?_
    refine lv_aload_n hx hb d_ListReader_readHead_34 rfl (lv_at hl 0 rfl) ?_
    refine lv_iload_n hx hb d_ListReader_readHead_35 rfl (lv_at hl 1 rfl) ?_
    have hFc := va_free (wc := [(h, .inr (5, [.ref res, .int ie, .ref t, .int (nI x27.1), .int (nI x27.2.1), .int (wI x27.2.2), .int pa, .int ma, .int ex, .ref ki])), (t, .inl (cB, n, .inl (tx u)))]) hD hS hA [2, 3] rfl
    refine va_callr (mu_runU (As := [.int (nI en)]) (rest := [.ref res]) ⟨hx, hb, hml, hown, hts⟩ (cL_fullName l dC dI sb h res t ki n x27 pa ma ex ie cB u en H27.size hu hn hi27 he) (cu_of (n := 1) hts tbin q5_105 q5_106 q3_188 q5_107 q1_15 q3_189 rfl (by decide +kernel) ⟨rfl, rfl⟩ ⟨Nat.le_of_ble_eq_true rfl, Nat.le_of_ble_eq_true rfl⟩) rfl ⟨Nat.le_of_ble_eq_true rfl, Nat.le_of_ble_eq_true rfl⟩ hN (hT0.keep hS hAs) hAs (Nat.le_trans hB0 hS.1) hK hP hD [2, 3] (by decide) rfl [0] rfl 2 5 rfl rfl rfl hl.1 rfl (Nat.le_of_ble_eq_true rfl) d_ListReader_readHead_36) hS (fun q _ h => hFc q h) hFc (fun u36 q36 tS H36 locs ht hvm hw36 hB hz1 hk1 hS => ?_)
    obtain ⟨x36, n36⟩ := u36
    obtain ⟨hP1, hK1, hD1⟩ := hB
    rw [ht] at hP1
    obtain ⟨hP, hD⟩ := va_join (wr := [(res, .inr (2, [.ref k0, .ref k1, .ref k2, .ref k3, .ref k4, .ref k5, .long k6, .long k7, .int k8])), (q4, .inr (0, [.ref t, .int (nI z9.2.1), .int (nI z9.2.2)]))]) (w1 := [(h, .inr (5, [.ref res, .int ie, .ref t, .int (nI x36.1), .int (nI x36.2.1), .int (wI x36.2.2), .int (nI n36), .int ma, .int ex, .ref ki])), (t, .inl (cB, n, .inl (tx u))), (q36, .inr (0, [.ref t, .int (nI (rd_opn u n x27 48 en).1.1), .int (nI (rd_opn u n x27 48 en).2)]))]) hP hD [2, 3] [0, 1] rfl rfl (by decide) (by decide) hk1 hFc hP1 hD1
    have hP : va_P (dC, dI) classes [(res, .inr (2, [.ref k0, .ref k1, .ref k2, .ref k3, .ref k4, .ref k5, .long k6, .long k7, .int k8])), (q4, .inr (0, [.ref t, .int (nI z9.2.1), .int (nI z9.2.2)])), (h, .inr (5, [.ref res, .int ie, .ref t, .int (nI x36.1), .int (nI x36.2.1), .int (wI x36.2.2), .int (nI n36), .int ma, .int ex, .ref ki])), (t, .inl (cB, n, .inl (tx u))), (q36, .inr (0, [.ref t, .int (nI (rd_opn u n x27 48 en).1.1), .int (nI (rd_opn u n x27 48 en).2)]))] H36 := hP
    have hD : va_D A [(res, .inr (2, [.ref k0, .ref k1, .ref k2, .ref k3, .ref k4, .ref k5, .long k6, .long k7, .int k8])), (q4, .inr (0, [.ref t, .int (nI z9.2.1), .int (nI z9.2.2)])), (h, .inr (5, [.ref res, .int ie, .ref t, .int (nI x36.1), .int (nI x36.2.1), .int (wI x36.2.2), .int (nI n36), .int ma, .int ex, .ref ki])), (t, .inl (cB, n, .inl (tx u))), (q36, .inr (0, [.ref t, .int (nI (rd_opn u n x27 48 en).1.1), .int (nI (rd_opn u n x27 48 en).2)]))] := hD
    obtain ⟨y9, hr9, hx9⟩ : ∃ y : rS, rowP u n (rd_opn u n x27 48 en).2 (rd_opn u n x27 48 en).1 y n36 ∧ x36 = (if (rd_opn u n x27 48 en).2 - (rd_opn u n x27 48 en).1.1 = 0 then rd_ref y x27.1 else y) := hw36
    have hq := opn_inv (u := u) (tg := 48) hi27 he
    have hiy : rdInv n y9 := by rw [hr9.1]; exact it_inv hq.1 hq.2.2.1 _
    have hi36 : rdInv n x36 := by rw [hx9]; split; exact ref_inv hiy hi27.1; exact hiy
    refine va_put (v := .ref q36) (ty := (.object "TrustChain$Slice")) hx hb htb i_Paper t_Paper t_Paper_ok n_Paper hown hK hP hD hS 0 rfl rfl 5 (by decide) (htb _ q2_214) (fun _ h9 => h9) rfl (by decide +kernel) rfl rfl (Nat.le_of_ble_eq_true rfl) d_ListReader_readHead_39 (fun H39 locs hP hD hS => ?_)
    have hP : va_P (dC, dI) classes [(res, .inr (2, [.ref k0, .ref k1, .ref k2, .ref k3, .ref k4, .ref q36, .long k6, .long k7, .int k8])), (q4, .inr (0, [.ref t, .int (nI z9.2.1), .int (nI z9.2.2)])), (h, .inr (5, [.ref res, .int ie, .ref t, .int (nI x36.1), .int (nI x36.2.1), .int (wI x36.2.2), .int (nI n36), .int ma, .int ex, .ref ki])), (t, .inl (cB, n, .inl (tx u))), (q36, .inr (0, [.ref t, .int (nI (rd_opn u n x27 48 en).1.1), .int (nI (rd_opn u n x27 48 en).2)]))] H39 := hP
    have hD : va_D A [(res, .inr (2, [.ref k0, .ref k1, .ref k2, .ref k3, .ref k4, .ref q36, .long k6, .long k7, .int k8])), (q4, .inr (0, [.ref t, .int (nI z9.2.1), .int (nI z9.2.2)])), (h, .inr (5, [.ref res, .int ie, .ref t, .int (nI x36.1), .int (nI x36.2.1), .int (wI x36.2.2), .int (nI n36), .int ma, .int ex, .ref ki])), (t, .inl (cB, n, .inl (tx u))), (q36, .inr (0, [.ref t, .int (nI (rd_opn u n x27 48 en).1.1), .int (nI (rd_opn u n x27 48 en).2)]))] := hD
    refine lv_aload_n hx hb d_ListReader_readHead_42 rfl (lv_at hl 0 rfl) ?_
    refine va_get (v := .ref res) hx hb htb i_ListReader hown hK hP 2 rfl rfl 0 (by decide) (htb _ q5_75) (fun _ h9 => h9) rfl d_ListReader_readHead_43 ?_
    refine lv_aload_n hx hb d_ListReader_readHead_46 rfl (lv_at hl 0 rfl) ?_
    refine lv_iload_n hx hb d_ListReader_readHead_47 rfl (lv_at hl 1 rfl) ?_
    have hFc := va_free (wc := [(h, .inr (5, [.ref res, .int ie, .ref t, .int (nI x36.1), .int (nI x36.2.1), .int (wI x36.2.2), .int (nI n36), .int ma, .int ex, .ref ki])), (t, .inl (cB, n, .inl (tx u)))]) hD hS hA [2, 3] rfl
    refine va_calll (mu_runU (As := [.int (nI en)]) (rest := [.ref res]) ⟨hx, hb, hml, hown, hts⟩ (cL_time l dC dI sb h res t ki n x36 (nI n36) ma ex ie cB u en H39.size hu hn hi36 he) (cu_of (n := 1) hts tbin q5_108 q5_109 q3_237 q5_110 q1_15 q3_238 rfl (by decide +kernel) ⟨rfl, rfl⟩ ⟨Nat.le_of_ble_eq_true rfl, Nat.le_of_ble_eq_true rfl⟩) rfl ⟨Nat.le_of_ble_eq_true rfl, Nat.le_of_ble_eq_true rfl⟩ hN (hT0.keep hS hAs) hAs (Nat.le_trans hB0 hS.1) hK hP hD [2, 3] (by decide) rfl [0] rfl 2 5 rfl rfl rfl hl.1 rfl (Nat.le_of_ble_eq_true rfl) d_ListReader_readHead_48) hS (fun q _ h => hFc q h) hFc (fun r48 u48 tS H48 locs ht hvm hw48 hB hz1 hk1 hS => ?_)
    obtain ⟨x48, rfl⟩ : ∃ z, z = u48 := ⟨_, rfl⟩
    obtain ⟨hP1, hK1, hD1⟩ := hB
    rw [ht] at hP1
    obtain ⟨hP, hD⟩ := va_join (wr := [(res, .inr (2, [.ref k0, .ref k1, .ref k2, .ref k3, .ref k4, .ref q36, .long k6, .long k7, .int k8])), (q4, .inr (0, [.ref t, .int (nI z9.2.1), .int (nI z9.2.2)])), (q36, .inr (0, [.ref t, .int (nI (rd_opn u n x27 48 en).1.1), .int (nI (rd_opn u n x27 48 en).2)]))]) (w1 := [(h, .inr (5, [.ref res, .int ie, .ref t, .int (nI x48.1), .int (nI x48.2.1), .int (wI x48.2.2), .int (nI n36), .int ma, .int ex, .ref ki])), (t, .inl (cB, n, .inl (tx u)))]) hP hD [2, 3] [0, 1, 4] rfl rfl (by decide) (by decide) hk1 hFc hP1 hD1
    have hP : va_P (dC, dI) classes [(res, .inr (2, [.ref k0, .ref k1, .ref k2, .ref k3, .ref k4, .ref q36, .long k6, .long k7, .int k8])), (q4, .inr (0, [.ref t, .int (nI z9.2.1), .int (nI z9.2.2)])), (q36, .inr (0, [.ref t, .int (nI (rd_opn u n x27 48 en).1.1), .int (nI (rd_opn u n x27 48 en).2)])), (h, .inr (5, [.ref res, .int ie, .ref t, .int (nI x48.1), .int (nI x48.2.1), .int (wI x48.2.2), .int (nI n36), .int ma, .int ex, .ref ki])), (t, .inl (cB, n, .inl (tx u)))] H48 := hP
    have hD : va_D A [(res, .inr (2, [.ref k0, .ref k1, .ref k2, .ref k3, .ref k4, .ref q36, .long k6, .long k7, .int k8])), (q4, .inr (0, [.ref t, .int (nI z9.2.1), .int (nI z9.2.2)])), (q36, .inr (0, [.ref t, .int (nI (rd_opn u n x27 48 en).1.1), .int (nI (rd_opn u n x27 48 en).2)])), (h, .inr (5, [.ref res, .int ie, .ref t, .int (nI x48.1), .int (nI x48.2.1), .int (wI x48.2.2), .int (nI n36), .int ma, .int ex, .ref ki])), (t, .inl (cB, n, .inl (tx u)))] := hD
    have hw48 : x48 = (rd_time u n x36 en).1 ∧ r48 = (rd_time u n x36 en).2 := hw48
    have hi48 : rdInv n x48 := by rw [hw48.1]; exact time_inv hi36 he
    refine va_put (v := .long r48) (ty := .long) hx hb htb i_Paper t_Paper t_Paper_ok n_Paper hown hK hP hD hS 0 rfl rfl 6 (by decide) (htb _ q2_219) (fun _ h9 => h9) rfl (by decide +kernel) rfl rfl (Nat.le_of_ble_eq_true rfl) d_ListReader_readHead_51 (fun H51 locs hP hD hS => ?_)
    have hP : va_P (dC, dI) classes [(res, .inr (2, [.ref k0, .ref k1, .ref k2, .ref k3, .ref k4, .ref q36, .long r48, .long k7, .int k8])), (q4, .inr (0, [.ref t, .int (nI z9.2.1), .int (nI z9.2.2)])), (q36, .inr (0, [.ref t, .int (nI (rd_opn u n x27 48 en).1.1), .int (nI (rd_opn u n x27 48 en).2)])), (h, .inr (5, [.ref res, .int ie, .ref t, .int (nI x48.1), .int (nI x48.2.1), .int (wI x48.2.2), .int (nI n36), .int ma, .int ex, .ref ki])), (t, .inl (cB, n, .inl (tx u)))] H51 := hP
    have hD : va_D A [(res, .inr (2, [.ref k0, .ref k1, .ref k2, .ref k3, .ref k4, .ref q36, .long r48, .long k7, .int k8])), (q4, .inr (0, [.ref t, .int (nI z9.2.1), .int (nI z9.2.2)])), (q36, .inr (0, [.ref t, .int (nI (rd_opn u n x27 48 en).1.1), .int (nI (rd_opn u n x27 48 en).2)])), (h, .inr (5, [.ref res, .int ie, .ref t, .int (nI x48.1), .int (nI x48.2.1), .int (wI x48.2.2), .int (nI n36), .int ma, .int ex, .ref ki])), (t, .inl (cB, n, .inl (tx u)))] := hD
    refine lv_aload_n hx hb d_ListReader_readHead_54 rfl (lv_at hl 0 rfl) ?_
    refine va_get (v := .ref res) hx hb htb i_ListReader hown hK hP 3 rfl rfl 0 (by decide) (htb _ q5_75) (fun _ h9 => h9) rfl d_ListReader_readHead_55 ?_
    refine lv_aload_n hx hb d_ListReader_readHead_58 rfl (lv_at hl 0 rfl) ?_
    refine lv_iload_n hx hb d_ListReader_readHead_59 rfl (lv_at hl 1 rfl) ?_
    have hFc := va_free (wc := [(h, .inr (5, [.ref res, .int ie, .ref t, .int (nI x48.1), .int (nI x48.2.1), .int (wI x48.2.2), .int (nI n36), .int ma, .int ex, .ref ki])), (t, .inl (cB, n, .inl (tx u)))]) hD hS hA [3, 4] rfl
    refine va_calll (mu_runU (As := [.int (nI en)]) (rest := [.ref res]) ⟨hx, hb, hml, hown, hts⟩ (cL_time l dC dI sb h res t ki n x48 (nI n36) ma ex ie cB u en H51.size hu hn hi48 he) (cu_of (n := 1) hts tbin q5_108 q5_109 q3_237 q5_110 q1_15 q3_238 rfl (by decide +kernel) ⟨rfl, rfl⟩ ⟨Nat.le_of_ble_eq_true rfl, Nat.le_of_ble_eq_true rfl⟩) rfl ⟨Nat.le_of_ble_eq_true rfl, Nat.le_of_ble_eq_true rfl⟩ hN (hT0.keep hS hAs) hAs (Nat.le_trans hB0 hS.1) hK hP hD [3, 4] (by decide) rfl [0] rfl 3 5 rfl rfl rfl hl.1 rfl (Nat.le_of_ble_eq_true rfl) d_ListReader_readHead_60) hS (fun q _ h => hFc q h) hFc (fun r60 u60 tS H60 locs ht hvm hw60 hB hz1 hk1 hS => ?_)
    obtain ⟨x60, rfl⟩ : ∃ z, z = u60 := ⟨_, rfl⟩
    obtain ⟨hP1, hK1, hD1⟩ := hB
    rw [ht] at hP1
    obtain ⟨hP, hD⟩ := va_join (wr := [(res, .inr (2, [.ref k0, .ref k1, .ref k2, .ref k3, .ref k4, .ref q36, .long r48, .long k7, .int k8])), (q4, .inr (0, [.ref t, .int (nI z9.2.1), .int (nI z9.2.2)])), (q36, .inr (0, [.ref t, .int (nI (rd_opn u n x27 48 en).1.1), .int (nI (rd_opn u n x27 48 en).2)]))]) (w1 := [(h, .inr (5, [.ref res, .int ie, .ref t, .int (nI x60.1), .int (nI x60.2.1), .int (wI x60.2.2), .int (nI n36), .int ma, .int ex, .ref ki])), (t, .inl (cB, n, .inl (tx u)))]) hP hD [3, 4] [0, 1, 2] rfl rfl (by decide) (by decide) hk1 hFc hP1 hD1
    have hP : va_P (dC, dI) classes [(res, .inr (2, [.ref k0, .ref k1, .ref k2, .ref k3, .ref k4, .ref q36, .long r48, .long k7, .int k8])), (q4, .inr (0, [.ref t, .int (nI z9.2.1), .int (nI z9.2.2)])), (q36, .inr (0, [.ref t, .int (nI (rd_opn u n x27 48 en).1.1), .int (nI (rd_opn u n x27 48 en).2)])), (h, .inr (5, [.ref res, .int ie, .ref t, .int (nI x60.1), .int (nI x60.2.1), .int (wI x60.2.2), .int (nI n36), .int ma, .int ex, .ref ki])), (t, .inl (cB, n, .inl (tx u)))] H60 := hP
    have hD : va_D A [(res, .inr (2, [.ref k0, .ref k1, .ref k2, .ref k3, .ref k4, .ref q36, .long r48, .long k7, .int k8])), (q4, .inr (0, [.ref t, .int (nI z9.2.1), .int (nI z9.2.2)])), (q36, .inr (0, [.ref t, .int (nI (rd_opn u n x27 48 en).1.1), .int (nI (rd_opn u n x27 48 en).2)])), (h, .inr (5, [.ref res, .int ie, .ref t, .int (nI x60.1), .int (nI x60.2.1), .int (wI x60.2.2), .int (nI n36), .int ma, .int ex, .ref ki])), (t, .inl (cB, n, .inl (tx u)))] := hD
    have hw60 : x60 = (rd_time u n x48 en).1 ∧ r60 = (rd_time u n x48 en).2 := hw60
    have hi60 : rdInv n x60 := by rw [hw60.1]; exact time_inv hi48 he
    refine va_put (v := .long r60) (ty := .long) hx hb htb i_Paper t_Paper t_Paper_ok n_Paper hown hK hP hD hS 0 rfl rfl 7 (by decide) (htb _ q2_225) (fun _ h9 => h9) rfl (by decide +kernel) rfl rfl (Nat.le_of_ble_eq_true rfl) d_ListReader_readHead_63 (fun H63 locs hP hD hS => ?_)
    have hP : va_P (dC, dI) classes [(res, .inr (2, [.ref k0, .ref k1, .ref k2, .ref k3, .ref k4, .ref q36, .long r48, .long r60, .int k8])), (q4, .inr (0, [.ref t, .int (nI z9.2.1), .int (nI z9.2.2)])), (q36, .inr (0, [.ref t, .int (nI (rd_opn u n x27 48 en).1.1), .int (nI (rd_opn u n x27 48 en).2)])), (h, .inr (5, [.ref res, .int ie, .ref t, .int (nI x60.1), .int (nI x60.2.1), .int (wI x60.2.2), .int (nI n36), .int ma, .int ex, .ref ki])), (t, .inl (cB, n, .inl (tx u)))] H63 := hP
    have hD : va_D A [(res, .inr (2, [.ref k0, .ref k1, .ref k2, .ref k3, .ref k4, .ref q36, .long r48, .long r60, .int k8])), (q4, .inr (0, [.ref t, .int (nI z9.2.1), .int (nI z9.2.2)])), (q36, .inr (0, [.ref t, .int (nI (rd_opn u n x27 48 en).1.1), .int (nI (rd_opn u n x27 48 en).2)])), (h, .inr (5, [.ref res, .int ie, .ref t, .int (nI x60.1), .int (nI x60.2.1), .int (wI x60.2.2), .int (nI n36), .int ma, .int ex, .ref ki])), (t, .inl (cB, n, .inl (tx u)))] := hD
    rw [bz_zP hv] at hw20
    subst hz9
    subst hw20
    subst hw27
    exact W.vret hx hb hr (fun t ht hW => ⟨⟨(x60, n36, q36, r48, r60), rfl, ⟨y9, x36, hr9, hx9, hw48.2, by rw [hw60.2, hw48.1], by rw [hw60.1, hw48.1]⟩, by rw [ht]; exact hP.sub [3, 4, 0, 2] rfl, va_K.moved hW.alike hK, hD.sub [3, 4, 0, 2] (by decide) rfl⟩, hS.F ht⟩) hS.2.2 d_ListReader_readHead_66
  · skip
    have hr7 : r7 = sl_num u z9.2.1 z9.2.2 := hr7
    refine lv_lconst (v := 1) hx hb d_ListReader_readHead_10 (by decide) ?_
    refine W.lcmp hx hb d_ListReader_readHead_11 ?_
    refine lv_if_ne (tgt := 19) hx hb d_ListReader_readHead_12 (by decide) (fun c12 => ?_) (fun c12 => ?_)
    · refine lv_iconst (v := 0) hx hb d_ListReader_readHead_19 (by decide) ?_
      exact k20 _ (bz_f (fun q => c12 (lg_eq.mpr (hr7.trans q))))
    · refine lv_iconst (v := 1) hx hb d_ListReader_readHead_15 (by decide) ?_
      refine lv_goto (tgt := 20) hx hb d_ListReader_readHead_16 (by decide) ?_
      exact k20 _ (bz_t (by rw [← hr7]; exact lg_eq.mp (by first | exact c12 | exact Classical.not_not.mp c12)))
