/-! CertificateReader's straight methods, ListReader.readHead. -/
theorem nI_mul (a b : Nat) : nI a * nI b = nI (a * b) := (Int32.ofNat_mul a b).symm
section WCUT
variable {p : Program} {l : Launch} {e : Env} {R : Room} {s : State} {m : MethodId} {args : Array Value} {below : List Frame} {meth : Method} {c : Code} {H : Heap} {locs : List Loc} {cells slots : Nat} {Q : State → Prop}
theorem w_cut {lv : List (Nat × Value)} {nL pcJ : Nat} {st : List Value} {g : JFrame} (kk : ∀ ls : Array Slot, lv_has ls nL lv → W p l e R s m args below meth c H locs cells slots Q (F0 m pcJ ls st)) (go : (∀ ls : Array Slot, lv_has ls nL lv → W p l e R s m args below meth c H locs cells slots Q (F0 m pcJ ls st)) → W p l e R s m args below meth c H locs cells slots Q g) : W p l e R s m args below meth c H locs cells slots Q g := go kk
end WCUT
/-- the first k from k on with P, after f steps at most -/
noncomputable def fstN (P : Nat → Prop) : Nat → Nat → Nat
  | 0, k => k
  | f + 1, k => @ite _ (P k) (Classical.propDecidable _) k (fstN P f (k + 1))
theorem fst_go {P : Nat → Prop} {N k r : Nat} (h : fstN P (N - k) k = r) (hk : k < N) (hp : ¬ P k) : fstN P (N - (k + 1)) (k + 1) = r := by
  rw [← h, show N - k = (N - (k + 1)) + 1 by omega]
  exact (if_neg hp).symm
theorem fst_at {P : Nat → Prop} {N k r : Nat} (h : fstN P (N - k) k = r) (hk : k < N) (hp : P k) : k = r := by
  rw [← h, show N - k = (N - (k + 1)) + 1 by omega]
  exact (if_pos hp).symm
theorem fst_end {P : Nat → Prop} {N k r : Nat} (h : fstN P (N - k) k = r) (hk : k = N) : k = r := by
  rw [← h, hk, Nat.sub_self]
  rfl
theorem sl_lt {u : Nat → Nat} {a b : Nat} (h : sl_at u a b 0 = 0) : a < b := by
  unfold sl_at at h
  split at h
  · rename_i q
    have : ((0 : Int32).toInt).toNat = 0 := by decide
    omega
  · exact absurd h (by decide)
theorem dec_sub (x : Int32) (k : Nat) : x - nI k + -1 = x - nI (k + 1) := by
  rw [← nI_1]
  simp [Int32.sub_eq_add_neg, Int32.neg_add, Int32.add_assoc]
theorem mk_shr : ∀ k, k < 8 → nI (128 / 2 ^ k) >>> ((1 : Int32) &&& 31) = nI (128 / 2 ^ (k + 1)) := by decide
theorem mk_le : ∀ k, k ≤ 8 → 128 / 2 ^ k ≤ 0 → k = 8 := by decide
theorem mk_lt (k : Nat) : 128 / 2 ^ k < 2 ^ 31 := Nat.lt_of_le_of_lt (Nat.div_le_self _ _) (by decide)
/-- high bits of an octet that are 0 -/
noncomputable def lzN (c : Int32) : Nat := fstN (fun k => ¬ c &&& nI (128 / 2 ^ k) = 0) 8 0
/-- the bits of a key usage, k of them -/
def usG (u : Nat → Nat) (n : Nat) (en : Nat) (sz : Int32) : Nat → Int32
  | 0 => 0
  | k + 1 => usG u n en sz k ||| ((sl_at u 0 n (nI en - sz + nI (k / 8)) >>> ((7 - nI (k % 8)) &&& 31) &&& 1) <<< (nI k &&& 31))
noncomputable def usK (s8 : Int32) : Nat := fstN (fun k => s8 ≤ nI k) 16 0
theorem div8 : ∀ k, k < 16 → nI k / 8 = nI (k / 8) ∧ nI k - nI k / 8 * 8 = nI (k % 8) := by decide

noncomputable def rd_mod (u : Nat → Nat) (n : Nat) (x : rS) (en : Nat) : rS × Nat × Nat × Int32 :=
  (let z3 := rd_nm u n x 2 en; (@ite _ ((sl_at u z3.2.1 z3.2.2 (0 : Int32)) = (0 : Int32)) (Classical.propDecidable _) (let z150 := rd_req z3.1 (zP ((¬ ((128 : Int32) ≤ (sl_at u z3.2.1 z3.2.2 (0 : Int32)))) ∧ ((((sl_at u (z3.2.1 + 1) z3.2.2 ((nI (z3.2.2 - (z3.2.1 + 1))) - 1)) &&& 1) = (1 : Int32)) ∧ (¬ ((nI ((z3.2.2 - (z3.2.1 + 1)) * 8) - nI (lzN (sl_at u (z3.2.1 + 1) z3.2.2 (0 : Int32)))) < (496 : Int32)) ∧ (¬ ((2048 : Int32) < (nI ((z3.2.2 - (z3.2.1 + 1)) * 8) - nI (lzN (sl_at u (z3.2.1 + 1) z3.2.2 (0 : Int32)))))))))); (z150, (z3.2.1 + 1), z3.2.2, nI ((z3.2.2 - (z3.2.1 + 1)) * 8) - nI (lzN (sl_at u (z3.2.1 + 1) z3.2.2 (0 : Int32))))) (let z150 := rd_req z3.1 (zP ((¬ ((128 : Int32) ≤ (sl_at u z3.2.1 z3.2.2 (0 : Int32)))) ∧ ((((sl_at u z3.2.1 z3.2.2 ((nI (z3.2.2 - z3.2.1)) - 1)) &&& 1) = (1 : Int32)) ∧ (¬ ((nI ((z3.2.2 - z3.2.1) * 8) - nI (lzN (sl_at u z3.2.1 z3.2.2 (0 : Int32)))) < (496 : Int32)) ∧ (¬ ((2048 : Int32) < (nI ((z3.2.2 - z3.2.1) * 8) - nI (lzN (sl_at u z3.2.1 z3.2.2 (0 : Int32)))))))))); (z150, z3.2.1, z3.2.2, nI ((z3.2.2 - z3.2.1) * 8) - nI (lzN (sl_at u z3.2.1 z3.2.2 (0 : Int32)))))))
set_option maxHeartbeats 4000000 in
set_option maxRecDepth 100000 in
theorem cC_readModulus (l : Launch) (dC : Nat → ClassId) (dI : Nat → Nat → Nat) (sb : sB) (h res t ki n : Nat) (x : rS) (pa ma ex ie : Int32) (cB : ClassId) (u : Nat → Nat) (en : Nat) (k0 k1 k2 k3 k4 k5 k6 k7 k19 k20 k21 k22 k23 k24 : Nat) (k8 k9 k10 k11 k12 k13 k14 k15 k16 k17 k18 k27 : Int32) (k25 k26 : Int64) (sz : Nat) (hu : ∀ j, u j < 256) (hn : n < 2 ^ 30) (hi : rdInv n x) (he : en ≤ n) : Met l y_CertificateReader_readModulus w_CertificateReader_readModulus ({ frames := 3, cells := 2, slots := 6, locals := 72 }) (mu_P [.ref h, .int (nI en)] (dC, dI) sb [(h, .inr (4, [.ref res, .ref t, .int (nI x.1), .int (nI x.2.1), .int (wI x.2.2), .int pa, .int ma, .int ex, .ref ki])), (t, .inl (cB, n, .inl (tx u))), (res, .inr (3, [.ref k0, .ref k1, .ref k2, .ref k3, .ref k4, .ref k5, .ref k6, .ref k7, .int k8, .int k9, .int k10, .int k11, .int k12, .int k13, .int k14, .int k15, .int k16, .int k17, .int k18, .ref k19, .ref k20, .ref k21, .ref k22, .ref k23, .ref k24, .long k25, .long k26, .int k27]))] [(cB, .byte)] sz) (va_Qv (fun (u' : Nat × rS × Nat × Nat × Int32) => u'.2 = rd_mod u n x en ∧ rdInv n u'.2.1 ∧ u'.2.2.1 ≤ u'.2.2.2.1 ∧ u'.2.2.2.1 ≤ n) (mu_B (dC, dI) [(cB, .byte)] (va_A [(h, .inr (4, [.ref res, .ref t, .int (nI x.1), .int (nI x.2.1), .int (wI x.2.2), .int pa, .int ma, .int ex, .ref ki])), (t, .inl (cB, n, .inl (tx u))), (res, .inr (3, [.ref k0, .ref k1, .ref k2, .ref k3, .ref k4, .ref k5, .ref k6, .ref k7, .int k8, .int k9, .int k10, .int k11, .int k12, .int k13, .int k14, .int k15, .int k16, .int k17, .int k18, .ref k19, .ref k20, .ref k21, .ref k22, .ref k23, .ref k24, .long k25, .long k26, .int k27]))] sz) (fun u' : Nat × rS × Nat × Nat × Int32 => [(h, .inr (4, [.ref res, .ref t, .int (nI u'.2.1.1), .int (nI u'.2.1.2.1), .int (wI u'.2.1.2.2), .int pa, .int ma, .int ex, .ref ki])), (t, .inl (cB, n, .inl (tx u))), (res, .inr (3, [.ref k0, .ref k1, .ref k2, .ref k3, .ref k4, .ref u'.1, .ref k6, .ref k7, .int k8, .int u'.2.2.2.2, .int k10, .int k11, .int k12, .int k13, .int k14, .int k15, .int k16, .int k17, .int k18, .ref k19, .ref k20, .ref k21, .ref k22, .ref k23, .ref k24, .long k25, .long k26, .int k27])), (u'.1, .inr (0, [.ref t, .int (nI u'.2.2.1), .int (nI u'.2.2.2.1)]))])) (va_A [(h, .inr (4, [.ref res, .ref t, .int (nI x.1), .int (nI x.2.1), .int (wI x.2.2), .int pa, .int ma, .int ex, .ref ki])), (t, .inl (cB, n, .inl (tx u))), (res, .inr (3, [.ref k0, .ref k1, .ref k2, .ref k3, .ref k4, .ref k5, .ref k6, .ref k7, .int k8, .int k9, .int k10, .int k11, .int k12, .int k13, .int k14, .int k15, .int k16, .int k17, .int k18, .ref k19, .ref k20, .ref k21, .ref k22, .ref k23, .ref k24, .long k25, .long k26, .int k27]))] sz)) 2 6 (va_A [(h, .inr (4, [.ref res, .ref t, .int (nI x.1), .int (nI x.2.1), .int (wI x.2.2), .int pa, .int ma, .int ex, .ref ki])), (t, .inl (cB, n, .inl (tx u))), (res, .inr (3, [.ref k0, .ref k1, .ref k2, .ref k3, .ref k4, .ref k5, .ref k6, .ref k7, .int k8, .int k9, .int k10, .int k11, .int k12, .int k13, .int k14, .int k15, .int k16, .int k17, .int k18, .ref k19, .ref k20, .ref k21, .ref k22, .ref k23, .ref k24, .long k25, .long k26, .int k27]))] sz) := by
  refine Met.ofW (cc := b_CertificateReader_readModulus) (maxL := 6) (ret := none) (by decide) rfl ?_
  intro p e s m args below meth c s₁ B hml hv
  obtain ⟨rfl, hsz, hB0, hP, hK, hD0, hN, hT0⟩ := hv
  have hx := B.exec
  have hb := B.bytes
  have hr := B.returns
  have hts := atoms_spec (ws := w_CertificateReader_readModulus) B.pre
  have tbin : ∀ w ∈ tb, w ∈ w_CertificateReader_readModulus := fun w h => List.mem_cons_of_mem _ h
  have htb : ∀ w ∈ tb, w.before _ s = true := fun w h => hts w (tbin w h)
  have hown : s.vm.findClass "TrustChain$CertificateReader" = some m.cls := findClass_of_methodNamed B.named
  have hlocks := B.notSynchronized
  subst hsz
  have hD := hD0.self (sz := s.heap.size)
  generalize hAe : va_A [(h, .inr (4, [.ref res, .ref t, .int (nI x.1), .int (nI x.2.1), .int (wI x.2.2), .int pa, .int ma, .int ex, .ref ki])), (t, .inl (cB, n, .inl (tx u))), (res, .inr (3, [.ref k0, .ref k1, .ref k2, .ref k3, .ref k4, .ref k5, .ref k6, .ref k7, .int k8, .int k9, .int k10, .int k11, .int k12, .int k13, .int k14, .int k15, .int k16, .int k17, .int k18, .ref k19, .ref k20, .ref k21, .ref k22, .ref k23, .ref k24, .long k25, .long k26, .int k27]))] s.heap.size = A at hD ⊢
  have hA : ∀ q : Nat, s.heap.size ≤ q → A q := fun q h => by rw [← hAe]; exact Or.inr h
  have hAs : ∀ q : Nat, A q → sb.1 ≤ q := fun q h => by
    rw [← hAe] at h
    rcases h with ⟨k, e, h⟩ | h
    · exact hD0.2 k _ h
    · exact Nat.le_trans hB0 h
  have hS : va_S A s.heap s.heap [] := va_S.rf
  have hcs : 2 ≤ (headSpec w_CertificateReader_readModulus ({ frames := 3, cells := 2, slots := 6, locals := 72 })).room.cells ∧ 6 ≤ (headSpec w_CertificateReader_readModulus ({ frames := 3, cells := 2, slots := 6, locals := 72 })).room.slots := ⟨Nat.le_refl _, Nat.le_refl _⟩
  have hP : va_P (dC, dI) classes [(h, .inr (4, [.ref res, .ref t, .int (nI x.1), .int (nI x.2.1), .int (wI x.2.2), .int pa, .int ma, .int ex, .ref ki])), (t, .inl (cB, n, .inl (tx u))), (res, .inr (3, [.ref k0, .ref k1, .ref k2, .ref k3, .ref k4, .ref k5, .ref k6, .ref k7, .int k8, .int k9, .int k10, .int k11, .int k12, .int k13, .int k14, .int k15, .int k16, .int k17, .int k18, .ref k19, .ref k20, .ref k21, .ref k22, .ref k23, .ref k24, .long k25, .long k26, .int k27]))] s.heap := hP
  have hl := lv_entry ([.ref h, .int (nI en)]) (n := 6) (Nat.le_of_ble_eq_true rfl)
  rw [lg_entry_eq]
  generalize (lg_sl ([.ref h, .int (nI en)]) ++ List.replicate (6 - (lg_sl ([.ref h, .int (nI en)])).length) Slot.unset).toArray = ls at hl ⊢
  have hl : lv_has ls 6 [(0, .ref h), (1, .int (nI en))] := hl
  refine lv_aload_n hx hb d_CertificateReader_readModulus_0 rfl (lv_at hl 0 rfl) ?_
  refine lv_iconst (v := 2) hx hb d_CertificateReader_readModulus_1 (by decide) ?_
  refine lv_iload_n hx hb d_CertificateReader_readModulus_2 rfl (lv_at hl 1 rfl) ?_
  have hFc := va_free (wc := [(h, .inr (4, [.ref res, .ref t, .int (nI x.1), .int (nI x.2.1), .int (wI x.2.2), .int pa, .int ma, .int ex, .ref ki])), (t, .inl (cB, n, .inl (tx u)))]) hD hS hA [0, 1] rfl
  refine va_callr (mu_runU (As := [.int 2, .int (nI en)]) (rest := []) ⟨hx, hb, hml, hown, hts⟩ (cC_number l dC dI sb h res t ki n x pa ma ex ie cB u 2 en s.heap.size hu hn hi (by omega) (by decide)) (cu_of (n := 2) hts tbin q3_124 q3_125 q3_128 q3_127 q1_15 q3_129 rfl (by decide +kernel) ⟨rfl, rfl⟩ ⟨Nat.le_of_ble_eq_true rfl, Nat.le_of_ble_eq_true rfl⟩) rfl ⟨Nat.le_of_ble_eq_true rfl, Nat.le_of_ble_eq_true rfl⟩ hN (hT0.keep hS hAs) hAs (Nat.le_trans hB0 hS.1) hK hP hD [0, 1] (by decide) rfl [0] rfl 0 4 rfl rfl rfl hl.1 rfl (Nat.le_of_ble_eq_true rfl) d_CertificateReader_readModulus_3) hS (fun q _ h => hFc q h) hFc (fun u3 q3 tS H3 locs ht hvm hw3 hB hz1 hk1 hS => ?_)
  obtain ⟨x3, rfl⟩ : ∃ z, z = u3 := ⟨_, rfl⟩
  obtain ⟨hP1, hK1, hD1⟩ := hB
  rw [ht] at hP1
  obtain ⟨hP, hD⟩ := va_join (wr := [(res, .inr (3, [.ref k0, .ref k1, .ref k2, .ref k3, .ref k4, .ref k5, .ref k6, .ref k7, .int k8, .int k9, .int k10, .int k11, .int k12, .int k13, .int k14, .int k15, .int k16, .int k17, .int k18, .ref k19, .ref k20, .ref k21, .ref k22, .ref k23, .ref k24, .long k25, .long k26, .int k27]))]) (w1 := [(h, .inr (4, [.ref res, .ref t, .int (nI x3.1), .int (nI x3.2.1), .int (wI x3.2.2), .int pa, .int ma, .int ex, .ref ki])), (t, .inl (cB, n, .inl (tx u))), (q3, .inr (0, [.ref t, .int (nI ((rd_nm u n x 2 en).2.1)), .int (nI ((rd_nm u n x 2 en).2.2))]))]) hP hD [0, 1] [2] rfl rfl (by decide) (by decide) hk1 hFc hP1 hD1
  have hP : va_P (dC, dI) classes [(res, .inr (3, [.ref k0, .ref k1, .ref k2, .ref k3, .ref k4, .ref k5, .ref k6, .ref k7, .int k8, .int k9, .int k10, .int k11, .int k12, .int k13, .int k14, .int k15, .int k16, .int k17, .int k18, .ref k19, .ref k20, .ref k21, .ref k22, .ref k23, .ref k24, .long k25, .long k26, .int k27])), (h, .inr (4, [.ref res, .ref t, .int (nI x3.1), .int (nI x3.2.1), .int (wI x3.2.2), .int pa, .int ma, .int ex, .ref ki])), (t, .inl (cB, n, .inl (tx u))), (q3, .inr (0, [.ref t, .int (nI ((rd_nm u n x 2 en).2.1)), .int (nI ((rd_nm u n x 2 en).2.2))]))] H3 := hP
  have hD : va_D A [(res, .inr (3, [.ref k0, .ref k1, .ref k2, .ref k3, .ref k4, .ref k5, .ref k6, .ref k7, .int k8, .int k9, .int k10, .int k11, .int k12, .int k13, .int k14, .int k15, .int k16, .int k17, .int k18, .ref k19, .ref k20, .ref k21, .ref k22, .ref k23, .ref k24, .long k25, .long k26, .int k27])), (h, .inr (4, [.ref res, .ref t, .int (nI x3.1), .int (nI x3.2.1), .int (wI x3.2.2), .int pa, .int ma, .int ex, .ref ki])), (t, .inl (cB, n, .inl (tx u))), (q3, .inr (0, [.ref t, .int (nI ((rd_nm u n x 2 en).2.1)), .int (nI ((rd_nm u n x 2 en).2.2))]))] := hD
  have hi3 := nm_inv (u := u) (tg := 2) hi (show en ≤ n by omega)
  obtain ⟨z3, hz3⟩ : ∃ o, o = rd_nm u n x 2 en := ⟨_, rfl⟩
  rw [← hz3] at hw3 hi3 hP hD
  subst hw3
  have hb3 : z3.1.1 ≤ n := hi3.1.1
  have hc3 := hi3.2.1
  have hd3 := hi3.2.2
  have hP : va_P (dC, dI) classes [(res, .inr (3, [.ref k0, .ref k1, .ref k2, .ref k3, .ref k4, .ref k5, .ref k6, .ref k7, .int k8, .int k9, .int k10, .int k11, .int k12, .int k13, .int k14, .int k15, .int k16, .int k17, .int k18, .ref k19, .ref k20, .ref k21, .ref k22, .ref k23, .ref k24, .long k25, .long k26, .int k27])), (h, .inr (4, [.ref res, .ref t, .int (nI z3.1.1), .int (nI z3.1.2.1), .int (wI z3.1.2.2), .int pa, .int ma, .int ex, .ref ki])), (t, .inl (cB, n, .inl (tx u))), (q3, .inr (0, [.ref t, .int (nI z3.2.1), .int (nI z3.2.2)]))] H3 := hP
  have hD : va_D A [(res, .inr (3, [.ref k0, .ref k1, .ref k2, .ref k3, .ref k4, .ref k5, .ref k6, .ref k7, .int k8, .int k9, .int k10, .int k11, .int k12, .int k13, .int k14, .int k15, .int k16, .int k17, .int k18, .ref k19, .ref k20, .ref k21, .ref k22, .ref k23, .ref k24, .long k25, .long k26, .int k27])), (h, .inr (4, [.ref res, .ref t, .int (nI z3.1.1), .int (nI z3.1.2.1), .int (wI z3.1.2.2), .int pa, .int ma, .int ex, .ref ki])), (t, .inl (cB, n, .inl (tx u))), (q3, .inr (0, [.ref t, .int (nI z3.2.1), .int (nI z3.2.2)]))] := hD
  refine lv_astore_n (lv' := [(2, .ref q3), (0, .ref h), (1, .int (nI en))]) hx hb d_CertificateReader_readModulus_6 rfl hl (by decide) rfl (fun ls hl => ?_)
  refine lv_aload_n hx hb d_CertificateReader_readModulus_7 rfl (lv_at hl 0 rfl) ?_
  refine lv_iconst (v := 0) hx hb d_CertificateReader_readModulus_8 (by decide) ?_
  refine vp_callSi (pu_callV (As := [.int 0]) (rest := []) ⟨hx, hb, hml, hown, hts⟩ tbin (c_Slice_at l dC dI sb q3 t z3.2.1 z3.2.2 n cB u 0 hu (by omega) (by omega) (by omega)) q4_48 q3_149 q3_150 q1_22 q3_151 (n := 1) (by decide +kernel) rfl ⟨rfl, rfl⟩ ⟨Nat.le_of_ble_eq_true rfl, Nat.le_of_ble_eq_true rfl⟩ ⟨Nat.le_of_ble_eq_true rfl, Nat.le_of_ble_eq_true rfl⟩ hN (hT0.keep hS hAs) hK hP [3, 2] rfl [0] rfl 3 0 rfl rfl rfl hl.1 rfl (Nat.le_of_ble_eq_true rfl) d_CertificateReader_readModulus_9) (fun r9 hr9 => ?_)
  subst hr9
  refine lv_sipush (v := 128) hx hb d_CertificateReader_readModulus_12 (by decide) ?_
  refine w_join (J := fun v9 => v9 = zP (¬ ((128 : Int32) ≤ (sl_at u z3.2.1 z3.2.2 (0 : Int32))))) (pc := 23) (ls := ls) (rest := []) (fun v9 hv9 => ?_) (fun k23 => ?_)
  · subst hv9
    refine lv_istore_n (lv' := [(3, .int (zP (¬ ((128 : Int32) ≤ (sl_at u z3.2.1 z3.2.2 (0 : Int32)))))), (2, .ref q3), (0, .ref h), (1, .int (nI en))]) hx hb d_CertificateReader_readModulus_23 rfl hl (by decide) rfl (fun ls hl => ?_)
    refine lv_aload_n hx hb d_CertificateReader_readModulus_24 rfl (lv_at hl 1 rfl) ?_
    refine lv_iconst (v := 0) hx hb d_CertificateReader_readModulus_25 (by decide) ?_
    refine vp_callSi (pu_callV (As := [.int 0]) (rest := []) ⟨hx, hb, hml, hown, hts⟩ tbin (c_Slice_at l dC dI sb q3 t z3.2.1 z3.2.2 n cB u 0 hu (by omega) (by omega) (by omega)) q4_48 q3_149 q3_150 q1_22 q3_151 (n := 1) (by decide +kernel) rfl ⟨rfl, rfl⟩ ⟨Nat.le_of_ble_eq_true rfl, Nat.le_of_ble_eq_true rfl⟩ ⟨Nat.le_of_ble_eq_true rfl, Nat.le_of_ble_eq_true rfl⟩ hN (hT0.keep hS hAs) hK hP [3, 2] rfl [0] rfl 3 0 rfl rfl rfl hl.1 rfl (Nat.le_of_ble_eq_true rfl) d_CertificateReader_readModulus_26) (fun r26 hr26 => ?_)
    subst hr26
    refine lv_if_ne (tgt := 54) hx hb d_CertificateReader_readModulus_29 (by decide) (fun c29 => ?_) (fun c29 => ?_)
    · have p29 : ¬ ((sl_at u z3.2.1 z3.2.2 (0 : Int32)) = (0 : Int32)) := c29
      refine lv_aload_n hx hb d_CertificateReader_readModulus_54 rfl (lv_at hl 1 rfl) ?_
      refine vp_callSi (pu_callV (As := []) (rest := []) ⟨hx, hb, hml, hown, hts⟩ tbin (c_Slice_length l dC dI sb q3 t z3.2.1 z3.2.2 (by omega)) q4_49 q3_144 q3_145 q1_22 q3_146 (n := 0) (by decide +kernel) rfl ⟨rfl, rfl⟩ ⟨Nat.le_of_ble_eq_true rfl, Nat.le_of_ble_eq_true rfl⟩ ⟨Nat.le_of_ble_eq_true rfl, Nat.le_of_ble_eq_true rfl⟩ hN (hT0.keep hS hAs) hK hP [3] rfl [] rfl 3 0 rfl rfl rfl hl.1 rfl (Nat.le_of_ble_eq_true rfl) d_CertificateReader_readModulus_55) (fun r55 hr55 => ?_)
      subst hr55
      refine lv_bipush (v := 8) hx hb d_CertificateReader_readModulus_58 (by decide) ?_
      refine lv_imul hx hb d_CertificateReader_readModulus_60 ?_
      rw [show ((nI (z3.2.2 - z3.2.1)) * 8 : Int32) = nI ((z3.2.2 - z3.2.1) * 8) from nI_mul (z3.2.2 - z3.2.1) 8]
      refine lv_istore (lv' := [(4, .int (nI ((z3.2.2 - z3.2.1) * 8))), (3, .int (zP (¬ ((128 : Int32) ≤ (sl_at u z3.2.1 z3.2.2 (0 : Int32)))))), (2, .ref q3), (0, .ref h), (1, .int (nI en))]) hx hb d_CertificateReader_readModulus_61 hl (by decide) rfl (fun ls hl => ?_)
      refine lv_sipush (v := 128) hx hb d_CertificateReader_readModulus_63 (by decide) ?_
      refine lv_istore (lv' := [(5, .int 128), (4, .int (nI ((z3.2.2 - z3.2.1) * 8))), (3, .int (zP (¬ ((128 : Int32) ≤ (sl_at u z3.2.1 z3.2.2 (0 : Int32)))))), (2, .ref q3), (0, .ref h), (1, .int (nI en))]) hx hb d_CertificateReader_readModulus_66 hl (by decide) rfl (fun ls hl => ?_)
      have hl : lv_has ls 6 [(0, .ref h), (1, .int (nI en)), (2, .ref q3), (3, .int (zP (¬ ((128 : Int32) ≤ (sl_at u z3.2.1 z3.2.2 (0 : Int32)))))), (4, .int (nI ((z3.2.2 - z3.2.1) * 8) - nI 0)), (5, .int (nI (128 / 2 ^ 0)))] := by
        rw [show (nI ((z3.2.2 - z3.2.1) * 8) : Int32) - nI 0 = nI ((z3.2.2 - z3.2.1) * 8) from by simp [nI_0]]
        exact lv_sub hl [4, 5, 3, 2, 1, 0] rfl
      refine w_cut (nL := 6) (lv := [(0, .ref h), (1, .int (nI en)), (2, .ref q3), (3, .int (zP (¬ ((128 : Int32) ≤ (sl_at u z3.2.1 z3.2.2 (0 : Int32)))))), (4, .int (nI ((z3.2.2 - z3.2.1) * 8) - nI (lzN (sl_at u z3.2.1 z3.2.2 (0 : Int32)))))]) (pcJ := 96) (st := []) (fun ls hl => ?_) (fun k96 => ?_)
      · skip
        refine lv_aload_n hx hb d_CertificateReader_readModulus_96 rfl (lv_at hl 2 rfl) ?_
        refine lv_aload_n hx hb d_CertificateReader_readModulus_97 rfl (lv_at hl 2 rfl) ?_
        refine vp_callSi (pu_callV (As := []) (rest := [.ref q3]) ⟨hx, hb, hml, hown, hts⟩ tbin (c_Slice_length l dC dI sb q3 t z3.2.1 z3.2.2 (by omega)) q4_49 q3_144 q3_145 q1_22 q3_146 (n := 0) (by decide +kernel) rfl ⟨rfl, rfl⟩ ⟨Nat.le_of_ble_eq_true rfl, Nat.le_of_ble_eq_true rfl⟩ ⟨Nat.le_of_ble_eq_true rfl, Nat.le_of_ble_eq_true rfl⟩ hN (hT0.keep hS hAs) hK hP [3] rfl [] rfl 3 0 rfl rfl rfl hl.1 rfl (Nat.le_of_ble_eq_true rfl) d_CertificateReader_readModulus_98) (fun r98 hr98 => ?_)
        subst hr98
        refine lv_iconst (v := 1) hx hb d_CertificateReader_readModulus_101 (by decide) ?_
        refine lv_isub hx hb d_CertificateReader_readModulus_102 ?_
        refine vp_callSi (pu_callV (As := [.int ((nI (z3.2.2 - z3.2.1)) - 1)]) (rest := []) ⟨hx, hb, hml, hown, hts⟩ tbin (c_Slice_at l dC dI sb q3 t z3.2.1 z3.2.2 n cB u ((nI (z3.2.2 - z3.2.1)) - 1) hu (by omega) (by omega) (by omega)) q4_48 q3_149 q3_150 q1_22 q3_151 (n := 1) (by decide +kernel) rfl ⟨rfl, rfl⟩ ⟨Nat.le_of_ble_eq_true rfl, Nat.le_of_ble_eq_true rfl⟩ ⟨Nat.le_of_ble_eq_true rfl, Nat.le_of_ble_eq_true rfl⟩ hN (hT0.keep hS hAs) hK hP [3, 2] rfl [0] rfl 3 0 rfl rfl rfl hl.1 rfl (Nat.le_of_ble_eq_true rfl) d_CertificateReader_readModulus_103) (fun r103 hr103 => ?_)
        subst hr103
        refine lv_iconst (v := 1) hx hb d_CertificateReader_readModulus_106 (by decide) ?_
        refine lv_iand hx hb d_CertificateReader_readModulus_107 ?_
        refine lv_iconst (v := 1) hx hb d_CertificateReader_readModulus_108 (by decide) ?_
        refine w_join (J := fun v9 => v9 = zP (((sl_at u z3.2.1 z3.2.2 ((nI (z3.2.2 - z3.2.1)) - 1)) &&& 1) = (1 : Int32))) (pc := 117) (ls := ls) (rest := []) (fun v9 hv9 => ?_) (fun k117 => ?_)
        · subst hv9
          refine lv_istore (lv' := [(5, .int (zP (((sl_at u z3.2.1 z3.2.2 ((nI (z3.2.2 - z3.2.1)) - 1)) &&& 1) = (1 : Int32)))), (0, .ref h), (1, .int (nI en)), (2, .ref q3), (3, .int (zP (¬ ((128 : Int32) ≤ (sl_at u z3.2.1 z3.2.2 (0 : Int32)))))), (4, .int (nI ((z3.2.2 - z3.2.1) * 8) - nI (lzN (sl_at u z3.2.1 z3.2.2 (0 : Int32)))))]) hx hb d_CertificateReader_readModulus_117 hl (by decide) rfl (fun ls hl => ?_)
          refine lv_aload_n hx hb d_CertificateReader_readModulus_119 rfl (lv_at hl 1 rfl) ?_
          refine lv_iload_n hx hb d_CertificateReader_readModulus_120 rfl (lv_at hl 4 rfl) ?_
          refine w_join (J := fun v9 => v9 = zP ((¬ ((128 : Int32) ≤ (sl_at u z3.2.1 z3.2.2 (0 : Int32)))) ∧ ((((sl_at u z3.2.1 z3.2.2 ((nI (z3.2.2 - z3.2.1)) - 1)) &&& 1) = (1 : Int32)) ∧ (¬ ((nI ((z3.2.2 - z3.2.1) * 8) - nI (lzN (sl_at u z3.2.1 z3.2.2 (0 : Int32)))) < (496 : Int32)) ∧ (¬ ((2048 : Int32) < (nI ((z3.2.2 - z3.2.1) * 8) - nI (lzN (sl_at u z3.2.1 z3.2.2 (0 : Int32)))))))))) (pc := 150) (ls := ls) (rest := [.ref h]) (fun v9 hv9 => ?_) (fun k150 => ?_)
          · subst hv9
            have hFc := va_free (wc := [(h, .inr (4, [.ref res, .ref t, .int (nI z3.1.1), .int (nI z3.1.2.1), .int (wI z3.1.2.2), .int pa, .int ma, .int ex, .ref ki]))]) hD hS hA [1] rfl
            refine va_callv (mu_runU (As := [.int (zP ((¬ ((128 : Int32) ≤ (sl_at u z3.2.1 z3.2.2 (0 : Int32)))) ∧ ((((sl_at u z3.2.1 z3.2.2 ((nI (z3.2.2 - z3.2.1)) - 1)) &&& 1) = (1 : Int32)) ∧ (¬ ((nI ((z3.2.2 - z3.2.1) * 8) - nI (lzN (sl_at u z3.2.1 z3.2.2 (0 : Int32)))) < (496 : Int32)) ∧ (¬ ((2048 : Int32) < (nI ((z3.2.2 - z3.2.1) * 8) - nI (lzN (sl_at u z3.2.1 z3.2.2 (0 : Int32))))))))))]) (rest := []) ⟨hx, hb, hml, hown, hts⟩ (cC_require l dC dI sb h res t ki z3.1.1 z3.1.2.1 n z3.1.2.2 pa ma ex ie cB u (zP ((¬ ((128 : Int32) ≤ (sl_at u z3.2.1 z3.2.2 (0 : Int32)))) ∧ ((((sl_at u z3.2.1 z3.2.2 ((nI (z3.2.2 - z3.2.1)) - 1)) &&& 1) = (1 : Int32)) ∧ (¬ ((nI ((z3.2.2 - z3.2.1) * 8) - nI (lzN (sl_at u z3.2.1 z3.2.2 (0 : Int32)))) < (496 : Int32)) ∧ (¬ ((2048 : Int32) < (nI ((z3.2.2 - z3.2.1) * 8) - nI (lzN (sl_at u z3.2.1 z3.2.2 (0 : Int32)))))))))) H3.size ((hi3.1).w hn)) (cu_of (n := 1) hts tbin q3_153 q3_154 q3_157 q3_156 q1_15 q3_158 rfl (by decide +kernel) ⟨rfl, rfl⟩ ⟨Nat.le_of_ble_eq_true rfl, Nat.le_of_ble_eq_true rfl⟩) rfl ⟨Nat.le_of_ble_eq_true rfl, Nat.le_of_ble_eq_true rfl⟩ hN (hT0.keep hS hAs) hAs (Nat.le_trans hB0 hS.1) hK hP hD [1] (by decide) rfl [] rfl 1 4 rfl rfl rfl hl.1 rfl (Nat.le_of_ble_eq_true rfl) d_CertificateReader_readModulus_150) hS (fun q _ h => hFc q h) hFc (fun u150 tS H150 locs ht hvm hw150 hB hz1 hk1 hS => ?_)
            obtain ⟨z150, rfl⟩ : ∃ z, z = u150 := ⟨_, rfl⟩
            obtain ⟨hP1, hK1, hD1⟩ := hB
            rw [ht] at hP1
            obtain ⟨hP, hD⟩ := va_join (wr := [(res, .inr (3, [.ref k0, .ref k1, .ref k2, .ref k3, .ref k4, .ref k5, .ref k6, .ref k7, .int k8, .int k9, .int k10, .int k11, .int k12, .int k13, .int k14, .int k15, .int k16, .int k17, .int k18, .ref k19, .ref k20, .ref k21, .ref k22, .ref k23, .ref k24, .long k25, .long k26, .int k27])), (t, .inl (cB, n, .inl (tx u))), (q3, .inr (0, [.ref t, .int (nI z3.2.1), .int (nI z3.2.2)]))]) (w1 := [(h, .inr (4, [.ref res, .ref t, .int (nI z150.1), .int (nI z150.2.1), .int (wI z150.2.2), .int pa, .int ma, .int ex, .ref ki]))]) hP hD [1] [0, 2, 3] rfl rfl (by decide) (by decide) hk1 hFc hP1 hD1
            have hP : va_P (dC, dI) classes [(res, .inr (3, [.ref k0, .ref k1, .ref k2, .ref k3, .ref k4, .ref k5, .ref k6, .ref k7, .int k8, .int k9, .int k10, .int k11, .int k12, .int k13, .int k14, .int k15, .int k16, .int k17, .int k18, .ref k19, .ref k20, .ref k21, .ref k22, .ref k23, .ref k24, .long k25, .long k26, .int k27])), (t, .inl (cB, n, .inl (tx u))), (q3, .inr (0, [.ref t, .int (nI z3.2.1), .int (nI z3.2.2)])), (h, .inr (4, [.ref res, .ref t, .int (nI z150.1), .int (nI z150.2.1), .int (wI z150.2.2), .int pa, .int ma, .int ex, .ref ki]))] H150 := hP
            have hD : va_D A [(res, .inr (3, [.ref k0, .ref k1, .ref k2, .ref k3, .ref k4, .ref k5, .ref k6, .ref k7, .int k8, .int k9, .int k10, .int k11, .int k12, .int k13, .int k14, .int k15, .int k16, .int k17, .int k18, .ref k19, .ref k20, .ref k21, .ref k22, .ref k23, .ref k24, .long k25, .long k26, .int k27])), (t, .inl (cB, n, .inl (tx u))), (q3, .inr (0, [.ref t, .int (nI z3.2.1), .int (nI z3.2.2)])), (h, .inr (4, [.ref res, .ref t, .int (nI z150.1), .int (nI z150.2.1), .int (wI z150.2.2), .int pa, .int ma, .int ex, .ref ki]))] := hD
            have hz150 : z150 = rd_req z3.1 (zP ((¬ ((128 : Int32) ≤ (sl_at u z3.2.1 z3.2.2 (0 : Int32)))) ∧ ((((sl_at u z3.2.1 z3.2.2 ((nI (z3.2.2 - z3.2.1)) - 1)) &&& 1) = (1 : Int32)) ∧ (¬ ((nI ((z3.2.2 - z3.2.1) * 8) - nI (lzN (sl_at u z3.2.1 z3.2.2 (0 : Int32)))) < (496 : Int32)) ∧ (¬ ((2048 : Int32) < (nI ((z3.2.2 - z3.2.1) * 8) - nI (lzN (sl_at u z3.2.1 z3.2.2 (0 : Int32)))))))))) := hw150
            have hi150 : rdInv n z150 := by rw [hz150]; exact req_inv hi3.1
            have hb150 : z150.1 ≤ n := hi150.1
            refine lv_aload_n hx hb d_CertificateReader_readModulus_153 rfl (lv_at hl 1 rfl) ?_
            refine va_get (v := .ref res) hx hb htb i_CertificateReader hown hK hP 3 rfl rfl 0 (by decide) (htb _ q3_55) (fun _ h9 => h9) rfl d_CertificateReader_readModulus_154 ?_
            refine lv_aload_n hx hb d_CertificateReader_readModulus_157 rfl (lv_at hl 3 rfl) ?_
            refine va_put (v := .ref q3) (ty := (.object "TrustChain$Slice")) hx hb htb i_Certificate t_Certificate t_Certificate_ok n_Certificate hown hK hP hD hS 0 rfl rfl 5 (by decide) (htb _ q2_155) (fun _ h9 => h9) rfl (by decide +kernel) rfl rfl (Nat.le_of_ble_eq_true rfl) d_CertificateReader_readModulus_158 (fun H158 locs hP hD hS => ?_)
            have hP : va_P (dC, dI) classes [(res, .inr (3, [.ref k0, .ref k1, .ref k2, .ref k3, .ref k4, .ref q3, .ref k6, .ref k7, .int k8, .int k9, .int k10, .int k11, .int k12, .int k13, .int k14, .int k15, .int k16, .int k17, .int k18, .ref k19, .ref k20, .ref k21, .ref k22, .ref k23, .ref k24, .long k25, .long k26, .int k27])), (t, .inl (cB, n, .inl (tx u))), (q3, .inr (0, [.ref t, .int (nI z3.2.1), .int (nI z3.2.2)])), (h, .inr (4, [.ref res, .ref t, .int (nI z150.1), .int (nI z150.2.1), .int (wI z150.2.2), .int pa, .int ma, .int ex, .ref ki]))] H158 := hP
            have hD : va_D A [(res, .inr (3, [.ref k0, .ref k1, .ref k2, .ref k3, .ref k4, .ref q3, .ref k6, .ref k7, .int k8, .int k9, .int k10, .int k11, .int k12, .int k13, .int k14, .int k15, .int k16, .int k17, .int k18, .ref k19, .ref k20, .ref k21, .ref k22, .ref k23, .ref k24, .long k25, .long k26, .int k27])), (t, .inl (cB, n, .inl (tx u))), (q3, .inr (0, [.ref t, .int (nI z3.2.1), .int (nI z3.2.2)])), (h, .inr (4, [.ref res, .ref t, .int (nI z150.1), .int (nI z150.2.1), .int (wI z150.2.2), .int pa, .int ma, .int ex, .ref ki]))] := hD
            refine lv_aload_n hx hb d_CertificateReader_readModulus_161 rfl (lv_at hl 1 rfl) ?_
            refine va_get (v := .ref res) hx hb htb i_CertificateReader hown hK hP 3 rfl rfl 0 (by decide) (htb _ q3_55) (fun _ h9 => h9) rfl d_CertificateReader_readModulus_162 ?_
            refine lv_iload hx hb d_CertificateReader_readModulus_165 (lv_at hl 5 rfl) ?_
            refine va_put (v := .int (nI ((z3.2.2 - z3.2.1) * 8) - nI (lzN (sl_at u z3.2.1 z3.2.2 (0 : Int32))))) (ty := .int) hx hb htb i_Certificate t_Certificate t_Certificate_ok n_Certificate hown hK hP hD hS 0 rfl rfl 9 (by decide) (htb _ q2_165) (fun _ h9 => h9) rfl (by decide +kernel) rfl rfl (Nat.le_of_ble_eq_true rfl) d_CertificateReader_readModulus_167 (fun H167 locs hP hD hS => ?_)
            have hP : va_P (dC, dI) classes [(res, .inr (3, [.ref k0, .ref k1, .ref k2, .ref k3, .ref k4, .ref q3, .ref k6, .ref k7, .int k8, .int (nI ((z3.2.2 - z3.2.1) * 8) - nI (lzN (sl_at u z3.2.1 z3.2.2 (0 : Int32)))), .int k10, .int k11, .int k12, .int k13, .int k14, .int k15, .int k16, .int k17, .int k18, .ref k19, .ref k20, .ref k21, .ref k22, .ref k23, .ref k24, .long k25, .long k26, .int k27])), (t, .inl (cB, n, .inl (tx u))), (q3, .inr (0, [.ref t, .int (nI z3.2.1), .int (nI z3.2.2)])), (h, .inr (4, [.ref res, .ref t, .int (nI z150.1), .int (nI z150.2.1), .int (wI z150.2.2), .int pa, .int ma, .int ex, .ref ki]))] H167 := hP
            have hD : va_D A [(res, .inr (3, [.ref k0, .ref k1, .ref k2, .ref k3, .ref k4, .ref q3, .ref k6, .ref k7, .int k8, .int (nI ((z3.2.2 - z3.2.1) * 8) - nI (lzN (sl_at u z3.2.1 z3.2.2 (0 : Int32)))), .int k10, .int k11, .int k12, .int k13, .int k14, .int k15, .int k16, .int k17, .int k18, .ref k19, .ref k20, .ref k21, .ref k22, .ref k23, .ref k24, .long k25, .long k26, .int k27])), (t, .inl (cB, n, .inl (tx u))), (q3, .inr (0, [.ref t, .int (nI z3.2.1), .int (nI z3.2.2)])), (h, .inr (4, [.ref res, .ref t, .int (nI z150.1), .int (nI z150.2.1), .int (wI z150.2.2), .int pa, .int ma, .int ex, .ref ki]))] := hD
            have e9 : rd_mod u n x en = (z150, z3.2.1, z3.2.2, nI ((z3.2.2 - z3.2.1) * 8) - nI (lzN (sl_at u z3.2.1 z3.2.2 (0 : Int32)))) := by
              subst hz150
              subst hz3
              exact ((if_neg p29).trans rfl)
            refine W.widen (k := 2) (n := 6) (Nat.le_of_ble_eq_true rfl) (Nat.le_of_ble_eq_true rfl) ?_
            exact W.vret hx hb hr (fun t ht hW => ⟨⟨(q3, z150, z3.2.1, z3.2.2, nI ((z3.2.2 - z3.2.1) * 8) - nI (lzN (sl_at u z3.2.1 z3.2.2 (0 : Int32)))), rfl, ⟨e9.symm, hi150, by show z3.2.1 ≤ z3.2.2; omega, by show z3.2.2 ≤ n; omega⟩, by rw [ht]; exact hP.sub [3, 1, 0, 2] rfl, va_K.moved hW.alike hK, hD.sub [3, 1, 0, 2] (by decide) rfl⟩, hS.F ht⟩) hS.2.2 d_CertificateReader_readModulus_170
          · skip
            refine lv_if_eq (tgt := 149) hx hb d_CertificateReader_readModulus_121 (by decide) (fun c121 => ?_) (fun c121 => ?_)
            · have p121 : ¬ (¬ ((128 : Int32) ≤ (sl_at u z3.2.1 z3.2.2 (0 : Int32)))) := (zP_0.mp c121)
              refine lv_iconst (v := 0) hx hb d_CertificateReader_readModulus_149 (by decide) ?_
              exact k150 _ (zP_f (fun z => p121 z.1))
            · have p121 : ¬ ((128 : Int32) ≤ (sl_at u z3.2.1 z3.2.2 (0 : Int32))) := (zP_1 c121)
              refine lv_iload hx hb d_CertificateReader_readModulus_124 (lv_at hl 0 rfl) ?_
              refine lv_if_eq (tgt := 149) hx hb d_CertificateReader_readModulus_126 (by decide) (fun c126 => ?_) (fun c126 => ?_)
              · have p126 : ¬ (((sl_at u z3.2.1 z3.2.2 ((nI (z3.2.2 - z3.2.1)) - 1)) &&& 1) = (1 : Int32)) := (zP_0.mp c126)
                refine lv_iconst (v := 0) hx hb d_CertificateReader_readModulus_149 (by decide) ?_
                exact k150 _ (zP_f (fun z => (fun z => p126 z.1) z.2))
              · have p126 : ((sl_at u z3.2.1 z3.2.2 ((nI (z3.2.2 - z3.2.1)) - 1)) &&& 1) = (1 : Int32) := (zP_1 c126)
                refine lv_iload hx hb d_CertificateReader_readModulus_129 (lv_at hl 5 rfl) ?_
                refine lv_sipush (v := 496) hx hb d_CertificateReader_readModulus_131 (by decide) ?_
                refine lv_icmp_lt (tgt := 149) hx hb d_CertificateReader_readModulus_134 (by decide) (fun c134 => ?_) (fun c134 => ?_)
                · have p134 : (nI ((z3.2.2 - z3.2.1) * 8) - nI (lzN (sl_at u z3.2.1 z3.2.2 (0 : Int32)))) < (496 : Int32) := c134
                  refine lv_iconst (v := 0) hx hb d_CertificateReader_readModulus_149 (by decide) ?_
                  exact k150 _ (zP_f (fun z => (fun z => (fun z => z.1 p134) z.2) z.2))
                · have p134 : ¬ ((nI ((z3.2.2 - z3.2.1) * 8) - nI (lzN (sl_at u z3.2.1 z3.2.2 (0 : Int32)))) < (496 : Int32)) := c134
                  refine lv_iload hx hb d_CertificateReader_readModulus_137 (lv_at hl 5 rfl) ?_
                  refine lv_sipush (v := 2048) hx hb d_CertificateReader_readModulus_139 (by decide) ?_
                  refine lv_icmp_gt (tgt := 149) hx hb d_CertificateReader_readModulus_142 (by decide) (fun c142 => ?_) (fun c142 => ?_)
                  · have p142 : (2048 : Int32) < (nI ((z3.2.2 - z3.2.1) * 8) - nI (lzN (sl_at u z3.2.1 z3.2.2 (0 : Int32)))) := c142
                    refine lv_iconst (v := 0) hx hb d_CertificateReader_readModulus_149 (by decide) ?_
                    exact k150 _ (zP_f (fun z => (fun z => (fun z => (fun z => z p142) z.2) z.2) z.2))
                  · have p142 : ¬ ((2048 : Int32) < (nI ((z3.2.2 - z3.2.1) * 8) - nI (lzN (sl_at u z3.2.1 z3.2.2 (0 : Int32))))) := c142
                    refine lv_iconst (v := 1) hx hb d_CertificateReader_readModulus_145 (by decide) ?_
                    refine lv_goto (tgt := 150) hx hb d_CertificateReader_readModulus_146 (by decide) ?_
                    exact k150 _ (zP_t ⟨p121, ⟨p126, ⟨p134, p142⟩⟩⟩)
        · skip
          refine lv_icmp_ne (tgt := 116) hx hb d_CertificateReader_readModulus_109 (by decide) (fun c109 => ?_) (fun c109 => ?_)
          · have p109 : ¬ (((sl_at u z3.2.1 z3.2.2 ((nI (z3.2.2 - z3.2.1)) - 1)) &&& 1) = (1 : Int32)) := c109
            refine lv_iconst (v := 0) hx hb d_CertificateReader_readModulus_116 (by decide) ?_
            exact k117 _ (zP_f p109)
          · have p109 : ((sl_at u z3.2.1 z3.2.2 ((nI (z3.2.2 - z3.2.1)) - 1)) &&& 1) = (1 : Int32) := c109
            refine lv_iconst (v := 1) hx hb d_CertificateReader_readModulus_112 (by decide) ?_
            refine lv_goto (tgt := 117) hx hb d_CertificateReader_readModulus_113 (by decide) ?_
            exact k117 _ (zP_t p109)
      · skip
        refine w_loop (α := Nat) (fun k => k ≤ 8 ∧ fstN (fun k => ¬ sl_at u z3.2.1 z3.2.2 (0 : Int32) &&& nI (128 / 2 ^ k) = 0) (8 - k) k = lzN (sl_at u z3.2.1 z3.2.2 (0 : Int32))) (fun k => 8 - k) (fun k => [(0, .ref h), (1, .int (nI en)), (2, .ref q3), (3, .int (zP (¬ ((128 : Int32) ≤ (sl_at u z3.2.1 z3.2.2 (0 : Int32)))))), (4, .int (nI ((z3.2.2 - z3.2.1) * 8) - nI k)), (5, .int (nI (128 / 2 ^ k)))]) (fun _ => []) 6 68 (fun k ls hJ hl ih => ?_) 0 ls (⟨Nat.zero_le _, rfl⟩) (lv_sub hl [0, 1, 2, 3, 4, 5] rfl)
        have hml8 := mk_lt k
        refine lv_iload hx hb d_CertificateReader_readModulus_68 (lv_at hl 5 rfl) ?_
        refine lv_if_le (tgt := 96) hx hb d_CertificateReader_readModulus_70 (by decide) (fun c70 => ?_) (fun c70 => ?_)
        · have p70 : (128 / 2 ^ k) ≤ 0 := ((nI_leI (a := (128 / 2 ^ k)) (b := 0) (by omega) (by omega)).mp c70)
          obtain rfl := fst_end hJ.2 (mk_le k hJ.1 p70)
          exact k96 ls (lv_sub hl [0, 1, 2, 3, 4] rfl)
        · have p70 : ¬ ((128 / 2 ^ k) ≤ 0) := (fun q9 => c70 ((nI_leI (a := (128 / 2 ^ k)) (b := 0) (by omega) (by omega)).mpr q9))
          have hk8 : k < 8 := by
            rcases Nat.lt_or_ge k 8 with h9 | h9
            · exact h9
            · exact absurd (by obtain rfl : k = 8 := (by have := hJ.1; omega)
                               decide) p70
          refine lv_aload_n hx hb d_CertificateReader_readModulus_73 rfl (lv_at hl 2 rfl) ?_
          refine lv_iconst (v := 0) hx hb d_CertificateReader_readModulus_74 (by decide) ?_
          refine vp_callSi (pu_callV (As := [.int 0]) (rest := []) ⟨hx, hb, hml, hown, hts⟩ tbin (c_Slice_at l dC dI sb q3 t z3.2.1 z3.2.2 n cB u 0 hu (by omega) (by omega) (by omega)) q4_48 q3_149 q3_150 q1_22 q3_151 (n := 1) (by decide +kernel) rfl ⟨rfl, rfl⟩ ⟨Nat.le_of_ble_eq_true rfl, Nat.le_of_ble_eq_true rfl⟩ ⟨Nat.le_of_ble_eq_true rfl, Nat.le_of_ble_eq_true rfl⟩ hN (hT0.keep hS hAs) hK hP [3, 2] rfl [0] rfl 3 0 rfl rfl rfl hl.1 rfl (Nat.le_of_ble_eq_true rfl) d_CertificateReader_readModulus_75) (fun r75 hr75 => ?_)
          subst hr75
          refine lv_iload hx hb d_CertificateReader_readModulus_78 (lv_at hl 5 rfl) ?_
          refine lv_iand hx hb d_CertificateReader_readModulus_80 ?_
          refine lv_if_ne (tgt := 96) hx hb d_CertificateReader_readModulus_81 (by decide) (fun c81 => ?_) (fun c81 => ?_)
          · have p81 : ¬ (((sl_at u z3.2.1 z3.2.2 (0 : Int32)) &&& (nI (128 / 2 ^ k))) = (0 : Int32)) := c81
            obtain rfl := fst_at (P := fun k => ¬ sl_at u z3.2.1 z3.2.2 (0 : Int32) &&& nI (128 / 2 ^ k) = 0) hJ.2 hk8 p81
            exact k96 ls (lv_sub hl [0, 1, 2, 3, 4] rfl)
          · have p81 : ((sl_at u z3.2.1 z3.2.2 (0 : Int32)) &&& (nI (128 / 2 ^ k))) = (0 : Int32) := c81
            refine lv_iinc (v := nI ((z3.2.2 - z3.2.1) * 8) - nI (k + 1)) (lv' := [(4, .int (nI ((z3.2.2 - z3.2.1) * 8) - nI (k + 1))), (0, .ref h), (1, .int (nI en)), (2, .ref q3), (3, .int (zP (¬ ((128 : Int32) ≤ (sl_at u z3.2.1 z3.2.2 (0 : Int32)))))), (5, .int (nI (128 / 2 ^ k)))]) hx hb d_CertificateReader_readModulus_84 hl (k := 4) rfl (dec_sub _ _) (by decide) rfl (fun ls hl => ?_)
            refine lv_iload hx hb d_CertificateReader_readModulus_87 (lv_at hl 5 rfl) ?_
            refine lv_iconst (v := 1) hx hb d_CertificateReader_readModulus_89 (by decide) ?_
            refine lv_ishr hx hb d_CertificateReader_readModulus_90 ?_
            rw [show ((nI (128 / 2 ^ k)) >>> (1 &&& 31) : Int32) = nI (128 / 2 ^ (k + 1)) from mk_shr k hk8]
            refine lv_istore (lv' := [(5, .int (nI (128 / 2 ^ (k + 1)))), (4, .int (nI ((z3.2.2 - z3.2.1) * 8) - nI (k + 1))), (0, .ref h), (1, .int (nI en)), (2, .ref q3), (3, .int (zP (¬ ((128 : Int32) ≤ (sl_at u z3.2.1 z3.2.2 (0 : Int32))))))]) hx hb d_CertificateReader_readModulus_91 hl (by decide) rfl (fun ls hl => ?_)
            refine lv_goto (tgt := 68) hx hb d_CertificateReader_readModulus_93 (by decide) ?_
            exact ih (k + 1) ls (by omega) (⟨by omega, fst_go hJ.2 (by omega) (fun q9 => q9 p81)⟩) (lv_sub hl [2, 3, 4, 5, 1, 0] rfl)
    · have p29 : (sl_at u z3.2.1 z3.2.2 (0 : Int32)) = (0 : Int32) := c29
      have hlt := sl_lt p29
      refine va_new (ci := 0) (fs := [.null, .int 0, .int 0]) hx hb htb i_Slice t_Slice t_Slice_ok hown (htb _ q2_91) (htb _ q2_92) (htb _ q1_22) hK hP hD hS hA rfl (fun j hj => by rcases (show j = 0 ∨ j = 1 ∨ j = 2 by omega) with rfl | rfl | rfl <;> rfl) (Nat.le_of_ble_eq_true rfl) (Nat.le_of_ble_eq_true rfl) d_CertificateReader_readModulus_32 (fun q32 H32 hP hD hS => ?_)
      have hP : va_P (dC, dI) classes [(res, .inr (3, [.ref k0, .ref k1, .ref k2, .ref k3, .ref k4, .ref k5, .ref k6, .ref k7, .int k8, .int k9, .int k10, .int k11, .int k12, .int k13, .int k14, .int k15, .int k16, .int k17, .int k18, .ref k19, .ref k20, .ref k21, .ref k22, .ref k23, .ref k24, .long k25, .long k26, .int k27])), (h, .inr (4, [.ref res, .ref t, .int (nI z3.1.1), .int (nI z3.1.2.1), .int (wI z3.1.2.2), .int pa, .int ma, .int ex, .ref ki])), (t, .inl (cB, n, .inl (tx u))), (q3, .inr (0, [.ref t, .int (nI z3.2.1), .int (nI z3.2.2)])), (q32, .inr (0, [.null, .int 0, .int 0]))] H32 := hP
      have hD : va_D A [(res, .inr (3, [.ref k0, .ref k1, .ref k2, .ref k3, .ref k4, .ref k5, .ref k6, .ref k7, .int k8, .int k9, .int k10, .int k11, .int k12, .int k13, .int k14, .int k15, .int k16, .int k17, .int k18, .ref k19, .ref k20, .ref k21, .ref k22, .ref k23, .ref k24, .long k25, .long k26, .int k27])), (h, .inr (4, [.ref res, .ref t, .int (nI z3.1.1), .int (nI z3.1.2.1), .int (wI z3.1.2.2), .int pa, .int ma, .int ex, .ref ki])), (t, .inl (cB, n, .inl (tx u))), (q3, .inr (0, [.ref t, .int (nI z3.2.1), .int (nI z3.2.2)])), (q32, .inr (0, [.null, .int 0, .int 0]))] := hD
      refine lv_dup hx hb d_CertificateReader_readModulus_35 rfl ?_
      refine lv_aload_n hx hb d_CertificateReader_readModulus_36 rfl (lv_at hl 2 rfl) ?_
      refine va_get (v := .ref t) hx hb htb i_CertificateReader hown hK hP 1 rfl rfl 1 (by decide) (htb _ q3_58) (fun x9 h9 => u_same (htb _ q3_59) x9 h9) rfl d_CertificateReader_readModulus_37 ?_
      refine lv_aload_n hx hb d_CertificateReader_readModulus_40 rfl (lv_at hl 1 rfl) ?_
      refine va_getN (v := .int (nI z3.2.1)) hx hb htb i_Slice hown hK hP 3 rfl rfl 1 (by decide) (va_Nw.use rfl (hN.1 _ qn2_99)) (fun _ h9 => h9) rfl d_CertificateReader_readModulus_41 ?_
      refine lv_iconst (v := 1) hx hb d_CertificateReader_readModulus_44 (by decide) ?_
      refine lv_iadd hx hb d_CertificateReader_readModulus_45 ?_
      rw [show ((nI z3.2.1) + 1 : Int32) = nI (z3.2.1 + 1) from nI_add z3.2.1 1]
      refine lv_aload_n hx hb d_CertificateReader_readModulus_46 rfl (lv_at hl 1 rfl) ?_
      refine va_getN (v := .int (nI z3.2.2)) hx hb htb i_Slice hown hK hP 3 rfl rfl 2 (by decide) (va_Nw.use rfl (hN.1 _ qn2_101)) (fun _ h9 => h9) rfl d_CertificateReader_readModulus_47 ?_
      have hFc := va_free (wc := [(q32, .inr (0, [.null, .int 0, .int 0]))]) hD hS hA [4] rfl
      refine va_callv (mu_runI (As := [.ref t, .int (nI (z3.2.1 + 1)), .int (nI z3.2.2)]) (rest := [.ref q32]) ⟨hx, hb, hml, hown, hts⟩ tbin (c_Slice_init l dC dI sb q32 t (nI (z3.2.1 + 1)) (nI z3.2.2) H32.size) q2_93 q2_94 q1_22 q2_95 rfl (n := 3) (by decide +kernel) rfl ⟨rfl, rfl⟩ ⟨Nat.le_of_ble_eq_true rfl, Nat.le_of_ble_eq_true rfl⟩ ⟨Nat.le_of_ble_eq_true rfl, Nat.le_of_ble_eq_true rfl⟩ hN (hT0.keep hS hAs) hAs (Nat.le_trans hB0 hS.1) hK hP hD [4] (by decide) rfl [] rfl hl.1 rfl (Nat.le_of_ble_eq_true rfl) d_CertificateReader_readModulus_50) hS (fun q _ h => hFc q h) hFc (fun u50 tS H50 locs ht hvm hw50 hB hz1 hk1 hS => ?_)
      skip
      obtain ⟨hP1, hK1, hD1⟩ := hB
      rw [ht] at hP1
      obtain ⟨hP, hD⟩ := va_join (wr := [(res, .inr (3, [.ref k0, .ref k1, .ref k2, .ref k3, .ref k4, .ref k5, .ref k6, .ref k7, .int k8, .int k9, .int k10, .int k11, .int k12, .int k13, .int k14, .int k15, .int k16, .int k17, .int k18, .ref k19, .ref k20, .ref k21, .ref k22, .ref k23, .ref k24, .long k25, .long k26, .int k27])), (h, .inr (4, [.ref res, .ref t, .int (nI z3.1.1), .int (nI z3.1.2.1), .int (wI z3.1.2.2), .int pa, .int ma, .int ex, .ref ki])), (t, .inl (cB, n, .inl (tx u))), (q3, .inr (0, [.ref t, .int (nI z3.2.1), .int (nI z3.2.2)]))]) (w1 := [(q32, .inr (0, [.ref t, .int (nI (z3.2.1 + 1)), .int (nI z3.2.2)]))]) hP hD [4] [0, 1, 2, 3] rfl rfl (by decide) (by decide) hk1 hFc hP1 hD1
      have hP : va_P (dC, dI) classes [(res, .inr (3, [.ref k0, .ref k1, .ref k2, .ref k3, .ref k4, .ref k5, .ref k6, .ref k7, .int k8, .int k9, .int k10, .int k11, .int k12, .int k13, .int k14, .int k15, .int k16, .int k17, .int k18, .ref k19, .ref k20, .ref k21, .ref k22, .ref k23, .ref k24, .long k25, .long k26, .int k27])), (h, .inr (4, [.ref res, .ref t, .int (nI z3.1.1), .int (nI z3.1.2.1), .int (wI z3.1.2.2), .int pa, .int ma, .int ex, .ref ki])), (t, .inl (cB, n, .inl (tx u))), (q3, .inr (0, [.ref t, .int (nI z3.2.1), .int (nI z3.2.2)])), (q32, .inr (0, [.ref t, .int (nI (z3.2.1 + 1)), .int (nI z3.2.2)]))] H50 := hP
      have hD : va_D A [(res, .inr (3, [.ref k0, .ref k1, .ref k2, .ref k3, .ref k4, .ref k5, .ref k6, .ref k7, .int k8, .int k9, .int k10, .int k11, .int k12, .int k13, .int k14, .int k15, .int k16, .int k17, .int k18, .ref k19, .ref k20, .ref k21, .ref k22, .ref k23, .ref k24, .long k25, .long k26, .int k27])), (h, .inr (4, [.ref res, .ref t, .int (nI z3.1.1), .int (nI z3.1.2.1), .int (wI z3.1.2.2), .int pa, .int ma, .int ex, .ref ki])), (t, .inl (cB, n, .inl (tx u))), (q3, .inr (0, [.ref t, .int (nI z3.2.1), .int (nI z3.2.2)])), (q32, .inr (0, [.ref t, .int (nI (z3.2.1 + 1)), .int (nI z3.2.2)]))] := hD
      refine lv_astore_n (lv' := [(2, .ref q32), (3, .int (zP (¬ ((128 : Int32) ≤ (sl_at u z3.2.1 z3.2.2 (0 : Int32)))))), (0, .ref h), (1, .int (nI en))]) hx hb d_CertificateReader_readModulus_53 rfl hl (by decide) rfl (fun ls hl => ?_)
      refine lv_aload_n hx hb d_CertificateReader_readModulus_54 rfl (lv_at hl 0 rfl) ?_
      refine vp_callSi (pu_callV (As := []) (rest := []) ⟨hx, hb, hml, hown, hts⟩ tbin (c_Slice_length l dC dI sb q32 t (z3.2.1 + 1) z3.2.2 (by omega)) q4_49 q3_144 q3_145 q1_22 q3_146 (n := 0) (by decide +kernel) rfl ⟨rfl, rfl⟩ ⟨Nat.le_of_ble_eq_true rfl, Nat.le_of_ble_eq_true rfl⟩ ⟨Nat.le_of_ble_eq_true rfl, Nat.le_of_ble_eq_true rfl⟩ hN (hT0.keep hS hAs) hK hP [4] rfl [] rfl 4 0 rfl rfl rfl hl.1 rfl (Nat.le_of_ble_eq_true rfl) d_CertificateReader_readModulus_55) (fun r55 hr55 => ?_)
      subst hr55
      refine lv_bipush (v := 8) hx hb d_CertificateReader_readModulus_58 (by decide) ?_
      refine lv_imul hx hb d_CertificateReader_readModulus_60 ?_
      rw [show ((nI (z3.2.2 - (z3.2.1 + 1))) * 8 : Int32) = nI ((z3.2.2 - (z3.2.1 + 1)) * 8) from nI_mul (z3.2.2 - (z3.2.1 + 1)) 8]
      refine lv_istore (lv' := [(4, .int (nI ((z3.2.2 - (z3.2.1 + 1)) * 8))), (2, .ref q32), (3, .int (zP (¬ ((128 : Int32) ≤ (sl_at u z3.2.1 z3.2.2 (0 : Int32)))))), (0, .ref h), (1, .int (nI en))]) hx hb d_CertificateReader_readModulus_61 hl (by decide) rfl (fun ls hl => ?_)
      refine lv_sipush (v := 128) hx hb d_CertificateReader_readModulus_63 (by decide) ?_
      refine lv_istore (lv' := [(5, .int 128), (4, .int (nI ((z3.2.2 - (z3.2.1 + 1)) * 8))), (2, .ref q32), (3, .int (zP (¬ ((128 : Int32) ≤ (sl_at u z3.2.1 z3.2.2 (0 : Int32)))))), (0, .ref h), (1, .int (nI en))]) hx hb d_CertificateReader_readModulus_66 hl (by decide) rfl (fun ls hl => ?_)
      have hl : lv_has ls 6 [(0, .ref h), (1, .int (nI en)), (2, .ref q32), (3, .int (zP (¬ ((128 : Int32) ≤ (sl_at u z3.2.1 z3.2.2 (0 : Int32)))))), (4, .int (nI ((z3.2.2 - (z3.2.1 + 1)) * 8) - nI 0)), (5, .int (nI (128 / 2 ^ 0)))] := by
        rw [show (nI ((z3.2.2 - (z3.2.1 + 1)) * 8) : Int32) - nI 0 = nI ((z3.2.2 - (z3.2.1 + 1)) * 8) from by simp [nI_0]]
        exact lv_sub hl [4, 5, 2, 3, 1, 0] rfl
      refine w_cut (nL := 6) (lv := [(0, .ref h), (1, .int (nI en)), (2, .ref q32), (3, .int (zP (¬ ((128 : Int32) ≤ (sl_at u z3.2.1 z3.2.2 (0 : Int32)))))), (4, .int (nI ((z3.2.2 - (z3.2.1 + 1)) * 8) - nI (lzN (sl_at u (z3.2.1 + 1) z3.2.2 (0 : Int32)))))]) (pcJ := 96) (st := []) (fun ls hl => ?_) (fun k96 => ?_)
      · skip
        refine lv_aload_n hx hb d_CertificateReader_readModulus_96 rfl (lv_at hl 2 rfl) ?_
        refine lv_aload_n hx hb d_CertificateReader_readModulus_97 rfl (lv_at hl 2 rfl) ?_
        refine vp_callSi (pu_callV (As := []) (rest := [.ref q32]) ⟨hx, hb, hml, hown, hts⟩ tbin (c_Slice_length l dC dI sb q32 t (z3.2.1 + 1) z3.2.2 (by omega)) q4_49 q3_144 q3_145 q1_22 q3_146 (n := 0) (by decide +kernel) rfl ⟨rfl, rfl⟩ ⟨Nat.le_of_ble_eq_true rfl, Nat.le_of_ble_eq_true rfl⟩ ⟨Nat.le_of_ble_eq_true rfl, Nat.le_of_ble_eq_true rfl⟩ hN (hT0.keep hS hAs) hK hP [4] rfl [] rfl 4 0 rfl rfl rfl hl.1 rfl (Nat.le_of_ble_eq_true rfl) d_CertificateReader_readModulus_98) (fun r98 hr98 => ?_)
        subst hr98
        refine lv_iconst (v := 1) hx hb d_CertificateReader_readModulus_101 (by decide) ?_
        refine lv_isub hx hb d_CertificateReader_readModulus_102 ?_
        refine vp_callSi (pu_callV (As := [.int ((nI (z3.2.2 - (z3.2.1 + 1))) - 1)]) (rest := []) ⟨hx, hb, hml, hown, hts⟩ tbin (c_Slice_at l dC dI sb q32 t (z3.2.1 + 1) z3.2.2 n cB u ((nI (z3.2.2 - (z3.2.1 + 1))) - 1) hu (by omega) (by omega) (by omega)) q4_48 q3_149 q3_150 q1_22 q3_151 (n := 1) (by decide +kernel) rfl ⟨rfl, rfl⟩ ⟨Nat.le_of_ble_eq_true rfl, Nat.le_of_ble_eq_true rfl⟩ ⟨Nat.le_of_ble_eq_true rfl, Nat.le_of_ble_eq_true rfl⟩ hN (hT0.keep hS hAs) hK hP [4, 2] rfl [0] rfl 4 0 rfl rfl rfl hl.1 rfl (Nat.le_of_ble_eq_true rfl) d_CertificateReader_readModulus_103) (fun r103 hr103 => ?_)
        subst hr103
        refine lv_iconst (v := 1) hx hb d_CertificateReader_readModulus_106 (by decide) ?_
        refine lv_iand hx hb d_CertificateReader_readModulus_107 ?_
        refine lv_iconst (v := 1) hx hb d_CertificateReader_readModulus_108 (by decide) ?_
        refine w_join (J := fun v9 => v9 = zP (((sl_at u (z3.2.1 + 1) z3.2.2 ((nI (z3.2.2 - (z3.2.1 + 1))) - 1)) &&& 1) = (1 : Int32))) (pc := 117) (ls := ls) (rest := []) (fun v9 hv9 => ?_) (fun k117 => ?_)
        · subst hv9
          refine lv_istore (lv' := [(5, .int (zP (((sl_at u (z3.2.1 + 1) z3.2.2 ((nI (z3.2.2 - (z3.2.1 + 1))) - 1)) &&& 1) = (1 : Int32)))), (0, .ref h), (1, .int (nI en)), (2, .ref q32), (3, .int (zP (¬ ((128 : Int32) ≤ (sl_at u z3.2.1 z3.2.2 (0 : Int32)))))), (4, .int (nI ((z3.2.2 - (z3.2.1 + 1)) * 8) - nI (lzN (sl_at u (z3.2.1 + 1) z3.2.2 (0 : Int32)))))]) hx hb d_CertificateReader_readModulus_117 hl (by decide) rfl (fun ls hl => ?_)
          refine lv_aload_n hx hb d_CertificateReader_readModulus_119 rfl (lv_at hl 1 rfl) ?_
          refine lv_iload_n hx hb d_CertificateReader_readModulus_120 rfl (lv_at hl 4 rfl) ?_
          refine w_join (J := fun v9 => v9 = zP ((¬ ((128 : Int32) ≤ (sl_at u z3.2.1 z3.2.2 (0 : Int32)))) ∧ ((((sl_at u (z3.2.1 + 1) z3.2.2 ((nI (z3.2.2 - (z3.2.1 + 1))) - 1)) &&& 1) = (1 : Int32)) ∧ (¬ ((nI ((z3.2.2 - (z3.2.1 + 1)) * 8) - nI (lzN (sl_at u (z3.2.1 + 1) z3.2.2 (0 : Int32)))) < (496 : Int32)) ∧ (¬ ((2048 : Int32) < (nI ((z3.2.2 - (z3.2.1 + 1)) * 8) - nI (lzN (sl_at u (z3.2.1 + 1) z3.2.2 (0 : Int32)))))))))) (pc := 150) (ls := ls) (rest := [.ref h]) (fun v9 hv9 => ?_) (fun k150 => ?_)
          · subst hv9
            have hFc := va_free (wc := [(h, .inr (4, [.ref res, .ref t, .int (nI z3.1.1), .int (nI z3.1.2.1), .int (wI z3.1.2.2), .int pa, .int ma, .int ex, .ref ki]))]) hD hS hA [1] rfl
            refine va_callv (mu_runU (As := [.int (zP ((¬ ((128 : Int32) ≤ (sl_at u z3.2.1 z3.2.2 (0 : Int32)))) ∧ ((((sl_at u (z3.2.1 + 1) z3.2.2 ((nI (z3.2.2 - (z3.2.1 + 1))) - 1)) &&& 1) = (1 : Int32)) ∧ (¬ ((nI ((z3.2.2 - (z3.2.1 + 1)) * 8) - nI (lzN (sl_at u (z3.2.1 + 1) z3.2.2 (0 : Int32)))) < (496 : Int32)) ∧ (¬ ((2048 : Int32) < (nI ((z3.2.2 - (z3.2.1 + 1)) * 8) - nI (lzN (sl_at u (z3.2.1 + 1) z3.2.2 (0 : Int32))))))))))]) (rest := []) ⟨hx, hb, hml, hown, hts⟩ (cC_require l dC dI sb h res t ki z3.1.1 z3.1.2.1 n z3.1.2.2 pa ma ex ie cB u (zP ((¬ ((128 : Int32) ≤ (sl_at u z3.2.1 z3.2.2 (0 : Int32)))) ∧ ((((sl_at u (z3.2.1 + 1) z3.2.2 ((nI (z3.2.2 - (z3.2.1 + 1))) - 1)) &&& 1) = (1 : Int32)) ∧ (¬ ((nI ((z3.2.2 - (z3.2.1 + 1)) * 8) - nI (lzN (sl_at u (z3.2.1 + 1) z3.2.2 (0 : Int32)))) < (496 : Int32)) ∧ (¬ ((2048 : Int32) < (nI ((z3.2.2 - (z3.2.1 + 1)) * 8) - nI (lzN (sl_at u (z3.2.1 + 1) z3.2.2 (0 : Int32)))))))))) H50.size ((hi3.1).w hn)) (cu_of (n := 1) hts tbin q3_153 q3_154 q3_157 q3_156 q1_15 q3_158 rfl (by decide +kernel) ⟨rfl, rfl⟩ ⟨Nat.le_of_ble_eq_true rfl, Nat.le_of_ble_eq_true rfl⟩) rfl ⟨Nat.le_of_ble_eq_true rfl, Nat.le_of_ble_eq_true rfl⟩ hN (hT0.keep hS hAs) hAs (Nat.le_trans hB0 hS.1) hK hP hD [1] (by decide) rfl [] rfl 1 4 rfl rfl rfl hl.1 rfl (Nat.le_of_ble_eq_true rfl) d_CertificateReader_readModulus_150) hS (fun q _ h => hFc q h) hFc (fun u150 tS H150 locs ht hvm hw150 hB hz1 hk1 hS => ?_)
            obtain ⟨z150, rfl⟩ : ∃ z, z = u150 := ⟨_, rfl⟩
            obtain ⟨hP1, hK1, hD1⟩ := hB
            rw [ht] at hP1
            obtain ⟨hP, hD⟩ := va_join (wr := [(res, .inr (3, [.ref k0, .ref k1, .ref k2, .ref k3, .ref k4, .ref k5, .ref k6, .ref k7, .int k8, .int k9, .int k10, .int k11, .int k12, .int k13, .int k14, .int k15, .int k16, .int k17, .int k18, .ref k19, .ref k20, .ref k21, .ref k22, .ref k23, .ref k24, .long k25, .long k26, .int k27])), (t, .inl (cB, n, .inl (tx u))), (q3, .inr (0, [.ref t, .int (nI z3.2.1), .int (nI z3.2.2)])), (q32, .inr (0, [.ref t, .int (nI (z3.2.1 + 1)), .int (nI z3.2.2)]))]) (w1 := [(h, .inr (4, [.ref res, .ref t, .int (nI z150.1), .int (nI z150.2.1), .int (wI z150.2.2), .int pa, .int ma, .int ex, .ref ki]))]) hP hD [1] [0, 2, 3, 4] rfl rfl (by decide) (by decide) hk1 hFc hP1 hD1
            have hP : va_P (dC, dI) classes [(res, .inr (3, [.ref k0, .ref k1, .ref k2, .ref k3, .ref k4, .ref k5, .ref k6, .ref k7, .int k8, .int k9, .int k10, .int k11, .int k12, .int k13, .int k14, .int k15, .int k16, .int k17, .int k18, .ref k19, .ref k20, .ref k21, .ref k22, .ref k23, .ref k24, .long k25, .long k26, .int k27])), (t, .inl (cB, n, .inl (tx u))), (q3, .inr (0, [.ref t, .int (nI z3.2.1), .int (nI z3.2.2)])), (q32, .inr (0, [.ref t, .int (nI (z3.2.1 + 1)), .int (nI z3.2.2)])), (h, .inr (4, [.ref res, .ref t, .int (nI z150.1), .int (nI z150.2.1), .int (wI z150.2.2), .int pa, .int ma, .int ex, .ref ki]))] H150 := hP
            have hD : va_D A [(res, .inr (3, [.ref k0, .ref k1, .ref k2, .ref k3, .ref k4, .ref k5, .ref k6, .ref k7, .int k8, .int k9, .int k10, .int k11, .int k12, .int k13, .int k14, .int k15, .int k16, .int k17, .int k18, .ref k19, .ref k20, .ref k21, .ref k22, .ref k23, .ref k24, .long k25, .long k26, .int k27])), (t, .inl (cB, n, .inl (tx u))), (q3, .inr (0, [.ref t, .int (nI z3.2.1), .int (nI z3.2.2)])), (q32, .inr (0, [.ref t, .int (nI (z3.2.1 + 1)), .int (nI z3.2.2)])), (h, .inr (4, [.ref res, .ref t, .int (nI z150.1), .int (nI z150.2.1), .int (wI z150.2.2), .int pa, .int ma, .int ex, .ref ki]))] := hD
            have hz150 : z150 = rd_req z3.1 (zP ((¬ ((128 : Int32) ≤ (sl_at u z3.2.1 z3.2.2 (0 : Int32)))) ∧ ((((sl_at u (z3.2.1 + 1) z3.2.2 ((nI (z3.2.2 - (z3.2.1 + 1))) - 1)) &&& 1) = (1 : Int32)) ∧ (¬ ((nI ((z3.2.2 - (z3.2.1 + 1)) * 8) - nI (lzN (sl_at u (z3.2.1 + 1) z3.2.2 (0 : Int32)))) < (496 : Int32)) ∧ (¬ ((2048 : Int32) < (nI ((z3.2.2 - (z3.2.1 + 1)) * 8) - nI (lzN (sl_at u (z3.2.1 + 1) z3.2.2 (0 : Int32)))))))))) := hw150
            have hi150 : rdInv n z150 := by rw [hz150]; exact req_inv hi3.1
            have hb150 : z150.1 ≤ n := hi150.1
            refine lv_aload_n hx hb d_CertificateReader_readModulus_153 rfl (lv_at hl 1 rfl) ?_
            refine va_get (v := .ref res) hx hb htb i_CertificateReader hown hK hP 4 rfl rfl 0 (by decide) (htb _ q3_55) (fun _ h9 => h9) rfl d_CertificateReader_readModulus_154 ?_
            refine lv_aload_n hx hb d_CertificateReader_readModulus_157 rfl (lv_at hl 3 rfl) ?_
            refine va_put (v := .ref q32) (ty := (.object "TrustChain$Slice")) hx hb htb i_Certificate t_Certificate t_Certificate_ok n_Certificate hown hK hP hD hS 0 rfl rfl 5 (by decide) (htb _ q2_155) (fun _ h9 => h9) rfl (by decide +kernel) rfl rfl (Nat.le_of_ble_eq_true rfl) d_CertificateReader_readModulus_158 (fun H158 locs hP hD hS => ?_)
            have hP : va_P (dC, dI) classes [(res, .inr (3, [.ref k0, .ref k1, .ref k2, .ref k3, .ref k4, .ref q32, .ref k6, .ref k7, .int k8, .int k9, .int k10, .int k11, .int k12, .int k13, .int k14, .int k15, .int k16, .int k17, .int k18, .ref k19, .ref k20, .ref k21, .ref k22, .ref k23, .ref k24, .long k25, .long k26, .int k27])), (t, .inl (cB, n, .inl (tx u))), (q3, .inr (0, [.ref t, .int (nI z3.2.1), .int (nI z3.2.2)])), (q32, .inr (0, [.ref t, .int (nI (z3.2.1 + 1)), .int (nI z3.2.2)])), (h, .inr (4, [.ref res, .ref t, .int (nI z150.1), .int (nI z150.2.1), .int (wI z150.2.2), .int pa, .int ma, .int ex, .ref ki]))] H158 := hP
            have hD : va_D A [(res, .inr (3, [.ref k0, .ref k1, .ref k2, .ref k3, .ref k4, .ref q32, .ref k6, .ref k7, .int k8, .int k9, .int k10, .int k11, .int k12, .int k13, .int k14, .int k15, .int k16, .int k17, .int k18, .ref k19, .ref k20, .ref k21, .ref k22, .ref k23, .ref k24, .long k25, .long k26, .int k27])), (t, .inl (cB, n, .inl (tx u))), (q3, .inr (0, [.ref t, .int (nI z3.2.1), .int (nI z3.2.2)])), (q32, .inr (0, [.ref t, .int (nI (z3.2.1 + 1)), .int (nI z3.2.2)])), (h, .inr (4, [.ref res, .ref t, .int (nI z150.1), .int (nI z150.2.1), .int (wI z150.2.2), .int pa, .int ma, .int ex, .ref ki]))] := hD
            refine lv_aload_n hx hb d_CertificateReader_readModulus_161 rfl (lv_at hl 1 rfl) ?_
            refine va_get (v := .ref res) hx hb htb i_CertificateReader hown hK hP 4 rfl rfl 0 (by decide) (htb _ q3_55) (fun _ h9 => h9) rfl d_CertificateReader_readModulus_162 ?_
            refine lv_iload hx hb d_CertificateReader_readModulus_165 (lv_at hl 5 rfl) ?_
            refine va_put (v := .int (nI ((z3.2.2 - (z3.2.1 + 1)) * 8) - nI (lzN (sl_at u (z3.2.1 + 1) z3.2.2 (0 : Int32))))) (ty := .int) hx hb htb i_Certificate t_Certificate t_Certificate_ok n_Certificate hown hK hP hD hS 0 rfl rfl 9 (by decide) (htb _ q2_165) (fun _ h9 => h9) rfl (by decide +kernel) rfl rfl (Nat.le_of_ble_eq_true rfl) d_CertificateReader_readModulus_167 (fun H167 locs hP hD hS => ?_)
            have hP : va_P (dC, dI) classes [(res, .inr (3, [.ref k0, .ref k1, .ref k2, .ref k3, .ref k4, .ref q32, .ref k6, .ref k7, .int k8, .int (nI ((z3.2.2 - (z3.2.1 + 1)) * 8) - nI (lzN (sl_at u (z3.2.1 + 1) z3.2.2 (0 : Int32)))), .int k10, .int k11, .int k12, .int k13, .int k14, .int k15, .int k16, .int k17, .int k18, .ref k19, .ref k20, .ref k21, .ref k22, .ref k23, .ref k24, .long k25, .long k26, .int k27])), (t, .inl (cB, n, .inl (tx u))), (q3, .inr (0, [.ref t, .int (nI z3.2.1), .int (nI z3.2.2)])), (q32, .inr (0, [.ref t, .int (nI (z3.2.1 + 1)), .int (nI z3.2.2)])), (h, .inr (4, [.ref res, .ref t, .int (nI z150.1), .int (nI z150.2.1), .int (wI z150.2.2), .int pa, .int ma, .int ex, .ref ki]))] H167 := hP
            have hD : va_D A [(res, .inr (3, [.ref k0, .ref k1, .ref k2, .ref k3, .ref k4, .ref q32, .ref k6, .ref k7, .int k8, .int (nI ((z3.2.2 - (z3.2.1 + 1)) * 8) - nI (lzN (sl_at u (z3.2.1 + 1) z3.2.2 (0 : Int32)))), .int k10, .int k11, .int k12, .int k13, .int k14, .int k15, .int k16, .int k17, .int k18, .ref k19, .ref k20, .ref k21, .ref k22, .ref k23, .ref k24, .long k25, .long k26, .int k27])), (t, .inl (cB, n, .inl (tx u))), (q3, .inr (0, [.ref t, .int (nI z3.2.1), .int (nI z3.2.2)])), (q32, .inr (0, [.ref t, .int (nI (z3.2.1 + 1)), .int (nI z3.2.2)])), (h, .inr (4, [.ref res, .ref t, .int (nI z150.1), .int (nI z150.2.1), .int (wI z150.2.2), .int pa, .int ma, .int ex, .ref ki]))] := hD
            have e9 : rd_mod u n x en = (z150, (z3.2.1 + 1), z3.2.2, nI ((z3.2.2 - (z3.2.1 + 1)) * 8) - nI (lzN (sl_at u (z3.2.1 + 1) z3.2.2 (0 : Int32)))) := by
              subst hz150
              subst hz3
              exact ((if_pos p29).trans rfl)
            refine W.widen (k := 2) (n := 6) (Nat.le_of_ble_eq_true rfl) (Nat.le_of_ble_eq_true rfl) ?_
            exact W.vret hx hb hr (fun t ht hW => ⟨⟨(q32, z150, (z3.2.1 + 1), z3.2.2, nI ((z3.2.2 - (z3.2.1 + 1)) * 8) - nI (lzN (sl_at u (z3.2.1 + 1) z3.2.2 (0 : Int32)))), rfl, ⟨e9.symm, hi150, by show (z3.2.1 + 1) ≤ z3.2.2; omega, by show z3.2.2 ≤ n; omega⟩, by rw [ht]; exact hP.sub [4, 1, 0, 3] rfl, va_K.moved hW.alike hK, hD.sub [4, 1, 0, 3] (by decide) rfl⟩, hS.F ht⟩) hS.2.2 d_CertificateReader_readModulus_170
          · skip
            refine lv_if_eq (tgt := 149) hx hb d_CertificateReader_readModulus_121 (by decide) (fun c121 => ?_) (fun c121 => ?_)
            · have p121 : ¬ (¬ ((128 : Int32) ≤ (sl_at u z3.2.1 z3.2.2 (0 : Int32)))) := (zP_0.mp c121)
              refine lv_iconst (v := 0) hx hb d_CertificateReader_readModulus_149 (by decide) ?_
              exact k150 _ (zP_f (fun z => p121 z.1))
            · have p121 : ¬ ((128 : Int32) ≤ (sl_at u z3.2.1 z3.2.2 (0 : Int32))) := (zP_1 c121)
              refine lv_iload hx hb d_CertificateReader_readModulus_124 (lv_at hl 0 rfl) ?_
              refine lv_if_eq (tgt := 149) hx hb d_CertificateReader_readModulus_126 (by decide) (fun c126 => ?_) (fun c126 => ?_)
              · have p126 : ¬ (((sl_at u (z3.2.1 + 1) z3.2.2 ((nI (z3.2.2 - (z3.2.1 + 1))) - 1)) &&& 1) = (1 : Int32)) := (zP_0.mp c126)
                refine lv_iconst (v := 0) hx hb d_CertificateReader_readModulus_149 (by decide) ?_
                exact k150 _ (zP_f (fun z => (fun z => p126 z.1) z.2))
              · have p126 : ((sl_at u (z3.2.1 + 1) z3.2.2 ((nI (z3.2.2 - (z3.2.1 + 1))) - 1)) &&& 1) = (1 : Int32) := (zP_1 c126)
                refine lv_iload hx hb d_CertificateReader_readModulus_129 (lv_at hl 5 rfl) ?_
                refine lv_sipush (v := 496) hx hb d_CertificateReader_readModulus_131 (by decide) ?_
                refine lv_icmp_lt (tgt := 149) hx hb d_CertificateReader_readModulus_134 (by decide) (fun c134 => ?_) (fun c134 => ?_)
                · have p134 : (nI ((z3.2.2 - (z3.2.1 + 1)) * 8) - nI (lzN (sl_at u (z3.2.1 + 1) z3.2.2 (0 : Int32)))) < (496 : Int32) := c134
                  refine lv_iconst (v := 0) hx hb d_CertificateReader_readModulus_149 (by decide) ?_
                  exact k150 _ (zP_f (fun z => (fun z => (fun z => z.1 p134) z.2) z.2))
                · have p134 : ¬ ((nI ((z3.2.2 - (z3.2.1 + 1)) * 8) - nI (lzN (sl_at u (z3.2.1 + 1) z3.2.2 (0 : Int32)))) < (496 : Int32)) := c134
                  refine lv_iload hx hb d_CertificateReader_readModulus_137 (lv_at hl 5 rfl) ?_
                  refine lv_sipush (v := 2048) hx hb d_CertificateReader_readModulus_139 (by decide) ?_
                  refine lv_icmp_gt (tgt := 149) hx hb d_CertificateReader_readModulus_142 (by decide) (fun c142 => ?_) (fun c142 => ?_)
                  · have p142 : (2048 : Int32) < (nI ((z3.2.2 - (z3.2.1 + 1)) * 8) - nI (lzN (sl_at u (z3.2.1 + 1) z3.2.2 (0 : Int32)))) := c142
                    refine lv_iconst (v := 0) hx hb d_CertificateReader_readModulus_149 (by decide) ?_
                    exact k150 _ (zP_f (fun z => (fun z => (fun z => (fun z => z p142) z.2) z.2) z.2))
                  · have p142 : ¬ ((2048 : Int32) < (nI ((z3.2.2 - (z3.2.1 + 1)) * 8) - nI (lzN (sl_at u (z3.2.1 + 1) z3.2.2 (0 : Int32))))) := c142
                    refine lv_iconst (v := 1) hx hb d_CertificateReader_readModulus_145 (by decide) ?_
                    refine lv_goto (tgt := 150) hx hb d_CertificateReader_readModulus_146 (by decide) ?_
                    exact k150 _ (zP_t ⟨p121, ⟨p126, ⟨p134, p142⟩⟩⟩)
        · skip
          refine lv_icmp_ne (tgt := 116) hx hb d_CertificateReader_readModulus_109 (by decide) (fun c109 => ?_) (fun c109 => ?_)
          · have p109 : ¬ (((sl_at u (z3.2.1 + 1) z3.2.2 ((nI (z3.2.2 - (z3.2.1 + 1))) - 1)) &&& 1) = (1 : Int32)) := c109
            refine lv_iconst (v := 0) hx hb d_CertificateReader_readModulus_116 (by decide) ?_
            exact k117 _ (zP_f p109)
          · have p109 : ((sl_at u (z3.2.1 + 1) z3.2.2 ((nI (z3.2.2 - (z3.2.1 + 1))) - 1)) &&& 1) = (1 : Int32) := c109
            refine lv_iconst (v := 1) hx hb d_CertificateReader_readModulus_112 (by decide) ?_
            refine lv_goto (tgt := 117) hx hb d_CertificateReader_readModulus_113 (by decide) ?_
            exact k117 _ (zP_t p109)
      · skip
        refine w_loop (α := Nat) (fun k => k ≤ 8 ∧ fstN (fun k => ¬ sl_at u (z3.2.1 + 1) z3.2.2 (0 : Int32) &&& nI (128 / 2 ^ k) = 0) (8 - k) k = lzN (sl_at u (z3.2.1 + 1) z3.2.2 (0 : Int32))) (fun k => 8 - k) (fun k => [(0, .ref h), (1, .int (nI en)), (2, .ref q32), (3, .int (zP (¬ ((128 : Int32) ≤ (sl_at u z3.2.1 z3.2.2 (0 : Int32)))))), (4, .int (nI ((z3.2.2 - (z3.2.1 + 1)) * 8) - nI k)), (5, .int (nI (128 / 2 ^ k)))]) (fun _ => []) 6 68 (fun k ls hJ hl ih => ?_) 0 ls (⟨Nat.zero_le _, rfl⟩) (lv_sub hl [0, 1, 2, 3, 4, 5] rfl)
        have hml8 := mk_lt k
        refine lv_iload hx hb d_CertificateReader_readModulus_68 (lv_at hl 5 rfl) ?_
        refine lv_if_le (tgt := 96) hx hb d_CertificateReader_readModulus_70 (by decide) (fun c70 => ?_) (fun c70 => ?_)
        · have p70 : (128 / 2 ^ k) ≤ 0 := ((nI_leI (a := (128 / 2 ^ k)) (b := 0) (by omega) (by omega)).mp c70)
          obtain rfl := fst_end hJ.2 (mk_le k hJ.1 p70)
          exact k96 ls (lv_sub hl [0, 1, 2, 3, 4] rfl)
        · have p70 : ¬ ((128 / 2 ^ k) ≤ 0) := (fun q9 => c70 ((nI_leI (a := (128 / 2 ^ k)) (b := 0) (by omega) (by omega)).mpr q9))
          have hk8 : k < 8 := by
            rcases Nat.lt_or_ge k 8 with h9 | h9
            · exact h9
            · exact absurd (by obtain rfl : k = 8 := (by have := hJ.1; omega)
                               decide) p70
          refine lv_aload_n hx hb d_CertificateReader_readModulus_73 rfl (lv_at hl 2 rfl) ?_
          refine lv_iconst (v := 0) hx hb d_CertificateReader_readModulus_74 (by decide) ?_
          refine vp_callSi (pu_callV (As := [.int 0]) (rest := []) ⟨hx, hb, hml, hown, hts⟩ tbin (c_Slice_at l dC dI sb q32 t (z3.2.1 + 1) z3.2.2 n cB u 0 hu (by omega) (by omega) (by omega)) q4_48 q3_149 q3_150 q1_22 q3_151 (n := 1) (by decide +kernel) rfl ⟨rfl, rfl⟩ ⟨Nat.le_of_ble_eq_true rfl, Nat.le_of_ble_eq_true rfl⟩ ⟨Nat.le_of_ble_eq_true rfl, Nat.le_of_ble_eq_true rfl⟩ hN (hT0.keep hS hAs) hK hP [4, 2] rfl [0] rfl 4 0 rfl rfl rfl hl.1 rfl (Nat.le_of_ble_eq_true rfl) d_CertificateReader_readModulus_75) (fun r75 hr75 => ?_)
          subst hr75
          refine lv_iload hx hb d_CertificateReader_readModulus_78 (lv_at hl 5 rfl) ?_
          refine lv_iand hx hb d_CertificateReader_readModulus_80 ?_
          refine lv_if_ne (tgt := 96) hx hb d_CertificateReader_readModulus_81 (by decide) (fun c81 => ?_) (fun c81 => ?_)
          · have p81 : ¬ (((sl_at u (z3.2.1 + 1) z3.2.2 (0 : Int32)) &&& (nI (128 / 2 ^ k))) = (0 : Int32)) := c81
            obtain rfl := fst_at (P := fun k => ¬ sl_at u (z3.2.1 + 1) z3.2.2 (0 : Int32) &&& nI (128 / 2 ^ k) = 0) hJ.2 hk8 p81
            exact k96 ls (lv_sub hl [0, 1, 2, 3, 4] rfl)
          · have p81 : ((sl_at u (z3.2.1 + 1) z3.2.2 (0 : Int32)) &&& (nI (128 / 2 ^ k))) = (0 : Int32) := c81
            refine lv_iinc (v := nI ((z3.2.2 - (z3.2.1 + 1)) * 8) - nI (k + 1)) (lv' := [(4, .int (nI ((z3.2.2 - (z3.2.1 + 1)) * 8) - nI (k + 1))), (0, .ref h), (1, .int (nI en)), (2, .ref q32), (3, .int (zP (¬ ((128 : Int32) ≤ (sl_at u z3.2.1 z3.2.2 (0 : Int32)))))), (5, .int (nI (128 / 2 ^ k)))]) hx hb d_CertificateReader_readModulus_84 hl (k := 4) rfl (dec_sub _ _) (by decide) rfl (fun ls hl => ?_)
            refine lv_iload hx hb d_CertificateReader_readModulus_87 (lv_at hl 5 rfl) ?_
            refine lv_iconst (v := 1) hx hb d_CertificateReader_readModulus_89 (by decide) ?_
            refine lv_ishr hx hb d_CertificateReader_readModulus_90 ?_
            rw [show ((nI (128 / 2 ^ k)) >>> (1 &&& 31) : Int32) = nI (128 / 2 ^ (k + 1)) from mk_shr k hk8]
            refine lv_istore (lv' := [(5, .int (nI (128 / 2 ^ (k + 1)))), (4, .int (nI ((z3.2.2 - (z3.2.1 + 1)) * 8) - nI (k + 1))), (0, .ref h), (1, .int (nI en)), (2, .ref q32), (3, .int (zP (¬ ((128 : Int32) ≤ (sl_at u z3.2.1 z3.2.2 (0 : Int32))))))]) hx hb d_CertificateReader_readModulus_91 hl (by decide) rfl (fun ls hl => ?_)
            refine lv_goto (tgt := 68) hx hb d_CertificateReader_readModulus_93 (by decide) ?_
            exact ih (k + 1) ls (by omega) (⟨by omega, fst_go hJ.2 (by omega) (fun q9 => q9 p81)⟩) (lv_sub hl [2, 3, 4, 5, 1, 0] rfl)
  · skip
    refine lv_icmp_ge (tgt := 22) hx hb d_CertificateReader_readModulus_15 (by decide) (fun c15 => ?_) (fun c15 => ?_)
    · have p15 : (128 : Int32) ≤ (sl_at u z3.2.1 z3.2.2 (0 : Int32)) := c15
      refine lv_iconst (v := 0) hx hb d_CertificateReader_readModulus_22 (by decide) ?_
      exact k23 _ (zP_f (fun z => z p15))
    · have p15 : ¬ ((128 : Int32) ≤ (sl_at u z3.2.1 z3.2.2 (0 : Int32))) := c15
      refine lv_iconst (v := 1) hx hb d_CertificateReader_readModulus_18 (by decide) ?_
      refine lv_goto (tgt := 23) hx hb d_CertificateReader_readModulus_19 (by decide) ?_
      exact k23 _ (zP_t p15)
noncomputable def rd_key (u : Nat → Nat) (n : Nat) (x : rS) (en : Nat) : rS × Nat × Nat × Int32 × Int32 :=
  (let z4 := rd_opn u n x 48 en; (let z11 := rd_alg u n z4.1 1 z4.2; (let z16 := rd_bits u n z11 z4.2; (let z24 := rd_opn u n z16.1 48 z16.2; (let z32 := rd_mod u n z24.1 z24.2; (let z39 := rd_nm u n z32.1 2 z24.2; (let z80 := rd_req z39.1 (zP (¬ ((lg_cmp (sl_num u z39.2.1 z39.2.2) 3) < (0 : Int32)) ∧ (¬ ((0 : Int32) < (lg_cmp (sl_num u z39.2.1 z39.2.2) 2147483647)) ∧ ((lg_cmp ((sl_num u z39.2.1 z39.2.2) &&& 1) 1) = (0 : Int32))))); (let z96 := rd_fin z80 z24.2; (let z101 := rd_fin z96 z16.2; (let z106 := rd_fin z101 z4.2; (z106, z32.2.1, z32.2.2.1, z32.2.2.2, (sl_num u z39.2.1 z39.2.2).toInt32)))))))))))
set_option maxHeartbeats 4000000 in
set_option maxRecDepth 100000 in
theorem cC_readKey (l : Launch) (dC : Nat → ClassId) (dI : Nat → Nat → Nat) (sb : sB) (h res t ki n : Nat) (x : rS) (pa ma ex ie : Int32) (cB : ClassId) (u : Nat → Nat) (en : Nat) (k0 k1 k2 k3 k4 k5 k6 k7 k19 k20 k21 k22 k23 k24 : Nat) (k8 k9 k10 k11 k12 k13 k14 k15 k16 k17 k18 k27 : Int32) (k25 k26 : Int64) (sz : Nat) (hu : ∀ j, u j < 256) (hn : n < 2 ^ 30) (hi : rdInv n x) (he : en ≤ n) : Met l y_CertificateReader_readKey w_CertificateReader_readKey ({ frames := 4, cells := 3, slots := 9, locals := 97 }) (mu_P [.ref h, .int (nI en)] (dC, dI) sb [(h, .inr (4, [.ref res, .ref t, .int (nI x.1), .int (nI x.2.1), .int (wI x.2.2), .int pa, .int ma, .int ex, .ref ki])), (t, .inl (cB, n, .inl (tx u))), (res, .inr (3, [.ref k0, .ref k1, .ref k2, .ref k3, .ref k4, .ref k5, .ref k6, .ref k7, .int k8, .int k9, .int k10, .int k11, .int k12, .int k13, .int k14, .int k15, .int k16, .int k17, .int k18, .ref k19, .ref k20, .ref k21, .ref k22, .ref k23, .ref k24, .long k25, .long k26, .int k27]))] [(cB, .byte)] sz) (va_Qv (fun (u' : Nat × rS × Nat × Nat × Int32 × Int32) => u'.2 = rd_key u n x en ∧ rdInv n u'.2.1 ∧ u'.2.2.1 ≤ u'.2.2.2.1 ∧ u'.2.2.2.1 ≤ n) (mu_B (dC, dI) [(cB, .byte)] (va_A [(h, .inr (4, [.ref res, .ref t, .int (nI x.1), .int (nI x.2.1), .int (wI x.2.2), .int pa, .int ma, .int ex, .ref ki])), (t, .inl (cB, n, .inl (tx u))), (res, .inr (3, [.ref k0, .ref k1, .ref k2, .ref k3, .ref k4, .ref k5, .ref k6, .ref k7, .int k8, .int k9, .int k10, .int k11, .int k12, .int k13, .int k14, .int k15, .int k16, .int k17, .int k18, .ref k19, .ref k20, .ref k21, .ref k22, .ref k23, .ref k24, .long k25, .long k26, .int k27]))] sz) (fun u' : Nat × rS × Nat × Nat × Int32 × Int32 => [(h, .inr (4, [.ref res, .ref t, .int (nI u'.2.1.1), .int (nI u'.2.1.2.1), .int (wI u'.2.1.2.2), .int pa, .int ma, .int ex, .ref ki])), (t, .inl (cB, n, .inl (tx u))), (res, .inr (3, [.ref k0, .ref k1, .ref k2, .ref k3, .ref k4, .ref u'.1, .ref k6, .ref k7, .int k8, .int u'.2.2.2.2.1, .int u'.2.2.2.2.2, .int k11, .int k12, .int k13, .int k14, .int k15, .int k16, .int k17, .int k18, .ref k19, .ref k20, .ref k21, .ref k22, .ref k23, .ref k24, .long k25, .long k26, .int k27])), (u'.1, .inr (0, [.ref t, .int (nI u'.2.2.1), .int (nI u'.2.2.2.1)]))])) (va_A [(h, .inr (4, [.ref res, .ref t, .int (nI x.1), .int (nI x.2.1), .int (wI x.2.2), .int pa, .int ma, .int ex, .ref ki])), (t, .inl (cB, n, .inl (tx u))), (res, .inr (3, [.ref k0, .ref k1, .ref k2, .ref k3, .ref k4, .ref k5, .ref k6, .ref k7, .int k8, .int k9, .int k10, .int k11, .int k12, .int k13, .int k14, .int k15, .int k16, .int k17, .int k18, .ref k19, .ref k20, .ref k21, .ref k22, .ref k23, .ref k24, .long k25, .long k26, .int k27]))] sz)) 3 9 (va_A [(h, .inr (4, [.ref res, .ref t, .int (nI x.1), .int (nI x.2.1), .int (wI x.2.2), .int pa, .int ma, .int ex, .ref ki])), (t, .inl (cB, n, .inl (tx u))), (res, .inr (3, [.ref k0, .ref k1, .ref k2, .ref k3, .ref k4, .ref k5, .ref k6, .ref k7, .int k8, .int k9, .int k10, .int k11, .int k12, .int k13, .int k14, .int k15, .int k16, .int k17, .int k18, .ref k19, .ref k20, .ref k21, .ref k22, .ref k23, .ref k24, .long k25, .long k26, .int k27]))] sz) := by
  refine Met.ofW (cc := b_CertificateReader_readKey) (maxL := 7) (ret := none) (by decide) rfl ?_
  intro p e s m args below meth c s₁ B hml hv
  obtain ⟨rfl, hsz, hB0, hP, hK, hD0, hN, hT0⟩ := hv
  have hx := B.exec
  have hb := B.bytes
  have hr := B.returns
  have hts := atoms_spec (ws := w_CertificateReader_readKey) B.pre
  have tbin : ∀ w ∈ tb, w ∈ w_CertificateReader_readKey := fun w h => List.mem_cons_of_mem _ h
  have htb : ∀ w ∈ tb, w.before _ s = true := fun w h => hts w (tbin w h)
  have hown : s.vm.findClass "TrustChain$CertificateReader" = some m.cls := findClass_of_methodNamed B.named
  have hlocks := B.notSynchronized
  subst hsz
  have hD := hD0.self (sz := s.heap.size)
  generalize hAe : va_A [(h, .inr (4, [.ref res, .ref t, .int (nI x.1), .int (nI x.2.1), .int (wI x.2.2), .int pa, .int ma, .int ex, .ref ki])), (t, .inl (cB, n, .inl (tx u))), (res, .inr (3, [.ref k0, .ref k1, .ref k2, .ref k3, .ref k4, .ref k5, .ref k6, .ref k7, .int k8, .int k9, .int k10, .int k11, .int k12, .int k13, .int k14, .int k15, .int k16, .int k17, .int k18, .ref k19, .ref k20, .ref k21, .ref k22, .ref k23, .ref k24, .long k25, .long k26, .int k27]))] s.heap.size = A at hD ⊢
  have hA : ∀ q : Nat, s.heap.size ≤ q → A q := fun q h => by rw [← hAe]; exact Or.inr h
  have hAs : ∀ q : Nat, A q → sb.1 ≤ q := fun q h => by
    rw [← hAe] at h
    rcases h with ⟨k, e, h⟩ | h
    · exact hD0.2 k _ h
    · exact Nat.le_trans hB0 h
  have hS : va_S A s.heap s.heap [] := va_S.rf
  have hcs : 3 ≤ (headSpec w_CertificateReader_readKey ({ frames := 4, cells := 3, slots := 9, locals := 97 })).room.cells ∧ 9 ≤ (headSpec w_CertificateReader_readKey ({ frames := 4, cells := 3, slots := 9, locals := 97 })).room.slots := ⟨Nat.le_refl _, Nat.le_refl _⟩
  have hP : va_P (dC, dI) classes [(h, .inr (4, [.ref res, .ref t, .int (nI x.1), .int (nI x.2.1), .int (wI x.2.2), .int pa, .int ma, .int ex, .ref ki])), (t, .inl (cB, n, .inl (tx u))), (res, .inr (3, [.ref k0, .ref k1, .ref k2, .ref k3, .ref k4, .ref k5, .ref k6, .ref k7, .int k8, .int k9, .int k10, .int k11, .int k12, .int k13, .int k14, .int k15, .int k16, .int k17, .int k18, .ref k19, .ref k20, .ref k21, .ref k22, .ref k23, .ref k24, .long k25, .long k26, .int k27]))] s.heap := hP
  have hl := lv_entry ([.ref h, .int (nI en)]) (n := 7) (Nat.le_of_ble_eq_true rfl)
  rw [lg_entry_eq]
  generalize (lg_sl ([.ref h, .int (nI en)]) ++ List.replicate (7 - (lg_sl ([.ref h, .int (nI en)])).length) Slot.unset).toArray = ls at hl ⊢
  have hl : lv_has ls 7 [(0, .ref h), (1, .int (nI en))] := hl
  refine lv_aload_n hx hb d_CertificateReader_readKey_0 rfl (lv_at hl 0 rfl) ?_
  refine lv_bipush (v := 48) hx hb d_CertificateReader_readKey_1 (by decide) ?_
  refine lv_iload_n hx hb d_CertificateReader_readKey_3 rfl (lv_at hl 1 rfl) ?_
  have hFc := va_free (wc := [(h, .inr (4, [.ref res, .ref t, .int (nI x.1), .int (nI x.2.1), .int (wI x.2.2), .int pa, .int ma, .int ex, .ref ki])), (t, .inl (cB, n, .inl (tx u)))]) hD hS hA [0, 1] rfl
  refine va_calli (mu_runU (As := [.int 48, .int (nI en)]) (rest := []) ⟨hx, hb, hml, hown, hts⟩ (cC_open l dC dI sb h res t ki x.1 x.2.1 n x.2.2 pa ma ex ie cB u 48 en s.heap.size hu hn ((hi).w hn) (by omega) (hi).1 (by decide)) (cu_of (n := 2) hts tbin q3_108 q3_109 q3_112 q3_111 q1_15 q3_113 rfl (by decide +kernel) ⟨rfl, rfl⟩ ⟨Nat.le_of_ble_eq_true rfl, Nat.le_of_ble_eq_true rfl⟩) rfl ⟨Nat.le_of_ble_eq_true rfl, Nat.le_of_ble_eq_true rfl⟩ hN (hT0.keep hS hAs) hAs (Nat.le_trans hB0 hS.1) hK hP hD [0, 1] (by decide) rfl [0] rfl 0 4 rfl rfl rfl hl.1 rfl (Nat.le_of_ble_eq_true rfl) d_CertificateReader_readKey_4) hS (fun q _ h => hFc q h) hFc (fun r4 u4 tS H4 locs ht hvm hw4 hB hz1 hk1 hS => ?_)
  obtain ⟨x4, rfl⟩ : ∃ z, z = u4 := ⟨_, rfl⟩
  obtain ⟨hP1, hK1, hD1⟩ := hB
  rw [ht] at hP1
  obtain ⟨hP, hD⟩ := va_join (wr := [(res, .inr (3, [.ref k0, .ref k1, .ref k2, .ref k3, .ref k4, .ref k5, .ref k6, .ref k7, .int k8, .int k9, .int k10, .int k11, .int k12, .int k13, .int k14, .int k15, .int k16, .int k17, .int k18, .ref k19, .ref k20, .ref k21, .ref k22, .ref k23, .ref k24, .long k25, .long k26, .int k27]))]) (w1 := [(h, .inr (4, [.ref res, .ref t, .int (nI x4.1), .int (nI x4.2.1), .int (wI x4.2.2), .int pa, .int ma, .int ex, .ref ki])), (t, .inl (cB, n, .inl (tx u)))]) hP hD [0, 1] [2] rfl rfl (by decide) (by decide) hk1 hFc hP1 hD1
  have hP : va_P (dC, dI) classes [(res, .inr (3, [.ref k0, .ref k1, .ref k2, .ref k3, .ref k4, .ref k5, .ref k6, .ref k7, .int k8, .int k9, .int k10, .int k11, .int k12, .int k13, .int k14, .int k15, .int k16, .int k17, .int k18, .ref k19, .ref k20, .ref k21, .ref k22, .ref k23, .ref k24, .long k25, .long k26, .int k27])), (h, .inr (4, [.ref res, .ref t, .int (nI x4.1), .int (nI x4.2.1), .int (wI x4.2.2), .int pa, .int ma, .int ex, .ref ki])), (t, .inl (cB, n, .inl (tx u)))] H4 := hP
  have hD : va_D A [(res, .inr (3, [.ref k0, .ref k1, .ref k2, .ref k3, .ref k4, .ref k5, .ref k6, .ref k7, .int k8, .int k9, .int k10, .int k11, .int k12, .int k13, .int k14, .int k15, .int k16, .int k17, .int k18, .ref k19, .ref k20, .ref k21, .ref k22, .ref k23, .ref k24, .long k25, .long k26, .int k27])), (h, .inr (4, [.ref res, .ref t, .int (nI x4.1), .int (nI x4.2.1), .int (wI x4.2.2), .int pa, .int ma, .int ex, .ref ki])), (t, .inl (cB, n, .inl (tx u)))] := hD
  have hw4 : x4 = (rd_opn u n x 48 en).1 ∧ r4 = nI (rd_opn u n x 48 en).2 := hw4
  have hi4 := opn_inv (u := u) (tg := 48) hi (show en ≤ n by omega)
  obtain ⟨z4, hz4⟩ : ∃ o, o = rd_opn u n x 48 en := ⟨_, rfl⟩
  rw [← hz4] at hw4 hi4
  obtain ⟨rfl, rfl⟩ := hw4
  have hb4 : z4.1.1 ≤ n := hi4.1.1
  have hc4 : z4.1.1 ≤ z4.2 := hi4.2.1
  have hd4 : z4.2 ≤ n := hi4.2.2.1
  have hP : va_P (dC, dI) classes [(res, .inr (3, [.ref k0, .ref k1, .ref k2, .ref k3, .ref k4, .ref k5, .ref k6, .ref k7, .int k8, .int k9, .int k10, .int k11, .int k12, .int k13, .int k14, .int k15, .int k16, .int k17, .int k18, .ref k19, .ref k20, .ref k21, .ref k22, .ref k23, .ref k24, .long k25, .long k26, .int k27])), (h, .inr (4, [.ref res, .ref t, .int (nI z4.1.1), .int (nI z4.1.2.1), .int (wI z4.1.2.2), .int pa, .int ma, .int ex, .ref ki])), (t, .inl (cB, n, .inl (tx u)))] H4 := hP
  have hD : va_D A [(res, .inr (3, [.ref k0, .ref k1, .ref k2, .ref k3, .ref k4, .ref k5, .ref k6, .ref k7, .int k8, .int k9, .int k10, .int k11, .int k12, .int k13, .int k14, .int k15, .int k16, .int k17, .int k18, .ref k19, .ref k20, .ref k21, .ref k22, .ref k23, .ref k24, .long k25, .long k26, .int k27])), (h, .inr (4, [.ref res, .ref t, .int (nI z4.1.1), .int (nI z4.1.2.1), .int (wI z4.1.2.2), .int pa, .int ma, .int ex, .ref ki])), (t, .inl (cB, n, .inl (tx u)))] := hD
  refine lv_istore_n (lv' := [(2, .int (nI z4.2)), (0, .ref h), (1, .int (nI en))]) hx hb d_CertificateReader_readKey_7 rfl hl (by decide) rfl (fun ls hl => ?_)
  refine lv_aload_n hx hb d_CertificateReader_readKey_8 rfl (lv_at hl 1 rfl) ?_
  refine lv_iconst (v := 1) hx hb d_CertificateReader_readKey_9 (by decide) ?_
  refine lv_iload_n hx hb d_CertificateReader_readKey_10 rfl (lv_at hl 0 rfl) ?_
  have hFc := va_free (wc := [(h, .inr (4, [.ref res, .ref t, .int (nI z4.1.1), .int (nI z4.1.2.1), .int (wI z4.1.2.2), .int pa, .int ma, .int ex, .ref ki])), (t, .inl (cB, n, .inl (tx u)))]) hD hS hA [1, 2] rfl
  refine va_callv (mu_runU (As := [.int 1, .int (nI z4.2)]) (rest := []) ⟨hx, hb, hml, hown, hts⟩ (cC_algorithm l dC dI sb h res t ki n z4.1 pa ma ex ie cB u 1 z4.2 H4.size hu hn hi4.1 (by omega) (by decide)) (cu_of (n := 2) hts tbin q3_175 q3_176 q3_179 q3_178 q1_15 q3_180 rfl (by decide +kernel) ⟨rfl, rfl⟩ ⟨Nat.le_of_ble_eq_true rfl, Nat.le_of_ble_eq_true rfl⟩) rfl ⟨Nat.le_of_ble_eq_true rfl, Nat.le_of_ble_eq_true rfl⟩ hN (hT0.keep hS hAs) hAs (Nat.le_trans hB0 hS.1) hK hP hD [1, 2] (by decide) rfl [0] rfl 1 4 rfl rfl rfl hl.1 rfl (Nat.le_of_ble_eq_true rfl) d_CertificateReader_readKey_11) hS (fun q _ h => hFc q h) hFc (fun u11 tS H11 locs ht hvm hw11 hB hz1 hk1 hS => ?_)
  obtain ⟨x11, rfl⟩ : ∃ z, z = u11 := ⟨_, rfl⟩
  obtain ⟨hP1, hK1, hD1⟩ := hB
  rw [ht] at hP1
  obtain ⟨hP, hD⟩ := va_join (wr := [(res, .inr (3, [.ref k0, .ref k1, .ref k2, .ref k3, .ref k4, .ref k5, .ref k6, .ref k7, .int k8, .int k9, .int k10, .int k11, .int k12, .int k13, .int k14, .int k15, .int k16, .int k17, .int k18, .ref k19, .ref k20, .ref k21, .ref k22, .ref k23, .ref k24, .long k25, .long k26, .int k27]))]) (w1 := [(h, .inr (4, [.ref res, .ref t, .int (nI x11.1), .int (nI x11.2.1), .int (wI x11.2.2), .int pa, .int ma, .int ex, .ref ki])), (t, .inl (cB, n, .inl (tx u)))]) hP hD [1, 2] [0] rfl rfl (by decide) (by decide) hk1 hFc hP1 hD1
  have hP : va_P (dC, dI) classes [(res, .inr (3, [.ref k0, .ref k1, .ref k2, .ref k3, .ref k4, .ref k5, .ref k6, .ref k7, .int k8, .int k9, .int k10, .int k11, .int k12, .int k13, .int k14, .int k15, .int k16, .int k17, .int k18, .ref k19, .ref k20, .ref k21, .ref k22, .ref k23, .ref k24, .long k25, .long k26, .int k27])), (h, .inr (4, [.ref res, .ref t, .int (nI x11.1), .int (nI x11.2.1), .int (wI x11.2.2), .int pa, .int ma, .int ex, .ref ki])), (t, .inl (cB, n, .inl (tx u)))] H11 := hP
  have hD : va_D A [(res, .inr (3, [.ref k0, .ref k1, .ref k2, .ref k3, .ref k4, .ref k5, .ref k6, .ref k7, .int k8, .int k9, .int k10, .int k11, .int k12, .int k13, .int k14, .int k15, .int k16, .int k17, .int k18, .ref k19, .ref k20, .ref k21, .ref k22, .ref k23, .ref k24, .long k25, .long k26, .int k27])), (h, .inr (4, [.ref res, .ref t, .int (nI x11.1), .int (nI x11.2.1), .int (wI x11.2.2), .int pa, .int ma, .int ex, .ref ki])), (t, .inl (cB, n, .inl (tx u)))] := hD
  have hi11 := alg_inv (u := u) (la := 1) hi4.1 (show z4.2 ≤ n by omega)
  obtain ⟨z11, hz11⟩ : ∃ o, o = rd_alg u n z4.1 1 z4.2 := ⟨_, rfl⟩
  rw [← hz11] at hi11
  obtain rfl : z11 = x11 := hz11.trans hw11.symm
  have hb11 : z11.1 ≤ n := hi11.1
  have hP : va_P (dC, dI) classes [(res, .inr (3, [.ref k0, .ref k1, .ref k2, .ref k3, .ref k4, .ref k5, .ref k6, .ref k7, .int k8, .int k9, .int k10, .int k11, .int k12, .int k13, .int k14, .int k15, .int k16, .int k17, .int k18, .ref k19, .ref k20, .ref k21, .ref k22, .ref k23, .ref k24, .long k25, .long k26, .int k27])), (h, .inr (4, [.ref res, .ref t, .int (nI z11.1), .int (nI z11.2.1), .int (wI z11.2.2), .int pa, .int ma, .int ex, .ref ki])), (t, .inl (cB, n, .inl (tx u)))] H11 := hP
  have hD : va_D A [(res, .inr (3, [.ref k0, .ref k1, .ref k2, .ref k3, .ref k4, .ref k5, .ref k6, .ref k7, .int k8, .int k9, .int k10, .int k11, .int k12, .int k13, .int k14, .int k15, .int k16, .int k17, .int k18, .ref k19, .ref k20, .ref k21, .ref k22, .ref k23, .ref k24, .long k25, .long k26, .int k27])), (h, .inr (4, [.ref res, .ref t, .int (nI z11.1), .int (nI z11.2.1), .int (wI z11.2.2), .int pa, .int ma, .int ex, .ref ki])), (t, .inl (cB, n, .inl (tx u)))] := hD
  refine lv_aload_n hx hb d_CertificateReader_readKey_14 rfl (lv_at hl 1 rfl) ?_
  refine lv_iload_n hx hb d_CertificateReader_readKey_15 rfl (lv_at hl 0 rfl) ?_
  have hFc := va_free (wc := [(h, .inr (4, [.ref res, .ref t, .int (nI z11.1), .int (nI z11.2.1), .int (wI z11.2.2), .int pa, .int ma, .int ex, .ref ki])), (t, .inl (cB, n, .inl (tx u)))]) hD hS hA [1, 2] rfl
  refine va_calli (mu_runU (As := [.int (nI z4.2)]) (rest := []) ⟨hx, hb, hml, hown, hts⟩ (cC_openBits l dC dI sb h res t ki n z11 pa ma ex ie cB u z4.2 H11.size hu hn hi11 (by omega)) (cu_of (n := 1) hts tbin q4_38 q4_39 q4_42 q4_41 q1_15 q4_43 rfl (by decide +kernel) ⟨rfl, rfl⟩ ⟨Nat.le_of_ble_eq_true rfl, Nat.le_of_ble_eq_true rfl⟩) rfl ⟨Nat.le_of_ble_eq_true rfl, Nat.le_of_ble_eq_true rfl⟩ hN (hT0.keep hS hAs) hAs (Nat.le_trans hB0 hS.1) hK hP hD [1, 2] (by decide) rfl [0] rfl 1 4 rfl rfl rfl hl.1 rfl (Nat.le_of_ble_eq_true rfl) d_CertificateReader_readKey_16) hS (fun q _ h => hFc q h) hFc (fun r16 u16 tS H16 locs ht hvm hw16 hB hz1 hk1 hS => ?_)
  obtain ⟨x16, rfl⟩ : ∃ z, z = u16 := ⟨_, rfl⟩
  obtain ⟨hP1, hK1, hD1⟩ := hB
  rw [ht] at hP1
  obtain ⟨hP, hD⟩ := va_join (wr := [(res, .inr (3, [.ref k0, .ref k1, .ref k2, .ref k3, .ref k4, .ref k5, .ref k6, .ref k7, .int k8, .int k9, .int k10, .int k11, .int k12, .int k13, .int k14, .int k15, .int k16, .int k17, .int k18, .ref k19, .ref k20, .ref k21, .ref k22, .ref k23, .ref k24, .long k25, .long k26, .int k27]))]) (w1 := [(h, .inr (4, [.ref res, .ref t, .int (nI x16.1), .int (nI x16.2.1), .int (wI x16.2.2), .int pa, .int ma, .int ex, .ref ki])), (t, .inl (cB, n, .inl (tx u)))]) hP hD [1, 2] [0] rfl rfl (by decide) (by decide) hk1 hFc hP1 hD1
  have hP : va_P (dC, dI) classes [(res, .inr (3, [.ref k0, .ref k1, .ref k2, .ref k3, .ref k4, .ref k5, .ref k6, .ref k7, .int k8, .int k9, .int k10, .int k11, .int k12, .int k13, .int k14, .int k15, .int k16, .int k17, .int k18, .ref k19, .ref k20, .ref k21, .ref k22, .ref k23, .ref k24, .long k25, .long k26, .int k27])), (h, .inr (4, [.ref res, .ref t, .int (nI x16.1), .int (nI x16.2.1), .int (wI x16.2.2), .int pa, .int ma, .int ex, .ref ki])), (t, .inl (cB, n, .inl (tx u)))] H16 := hP
  have hD : va_D A [(res, .inr (3, [.ref k0, .ref k1, .ref k2, .ref k3, .ref k4, .ref k5, .ref k6, .ref k7, .int k8, .int k9, .int k10, .int k11, .int k12, .int k13, .int k14, .int k15, .int k16, .int k17, .int k18, .ref k19, .ref k20, .ref k21, .ref k22, .ref k23, .ref k24, .long k25, .long k26, .int k27])), (h, .inr (4, [.ref res, .ref t, .int (nI x16.1), .int (nI x16.2.1), .int (wI x16.2.2), .int pa, .int ma, .int ex, .ref ki])), (t, .inl (cB, n, .inl (tx u)))] := hD
  have hi16 := bits_inv (u := u) hi11 (show z4.2 ≤ n by omega)
  obtain ⟨z16, hz16⟩ : ∃ o, o = rd_bits u n z11 z4.2 := ⟨_, rfl⟩
  have hw16 : x16 = (rd_bits u n z11 z4.2).1 ∧ r16 = nI (rd_bits u n z11 z4.2).2 := hw16
  rw [← hz16] at hw16 hi16
  obtain ⟨rfl, rfl⟩ := hw16
  have hb16 : z16.1.1 ≤ n := hi16.1.1
  have hc16 : z16.1.1 ≤ z16.2 := hi16.2.1
  have hd16 : z16.2 ≤ n := hi16.2.2
  have hP : va_P (dC, dI) classes [(res, .inr (3, [.ref k0, .ref k1, .ref k2, .ref k3, .ref k4, .ref k5, .ref k6, .ref k7, .int k8, .int k9, .int k10, .int k11, .int k12, .int k13, .int k14, .int k15, .int k16, .int k17, .int k18, .ref k19, .ref k20, .ref k21, .ref k22, .ref k23, .ref k24, .long k25, .long k26, .int k27])), (h, .inr (4, [.ref res, .ref t, .int (nI z16.1.1), .int (nI z16.1.2.1), .int (wI z16.1.2.2), .int pa, .int ma, .int ex, .ref ki])), (t, .inl (cB, n, .inl (tx u)))] H16 := hP
  have hD : va_D A [(res, .inr (3, [.ref k0, .ref k1, .ref k2, .ref k3, .ref k4, .ref k5, .ref k6, .ref k7, .int k8, .int k9, .int k10, .int k11, .int k12, .int k13, .int k14, .int k15, .int k16, .int k17, .int k18, .ref k19, .ref k20, .ref k21, .ref k22, .ref k23, .ref k24, .long k25, .long k26, .int k27])), (h, .inr (4, [.ref res, .ref t, .int (nI z16.1.1), .int (nI z16.1.2.1), .int (wI z16.1.2.2), .int pa, .int ma, .int ex, .ref ki])), (t, .inl (cB, n, .inl (tx u)))] := hD
  refine lv_istore_n (lv' := [(3, .int (nI z16.2)), (2, .int (nI z4.2)), (0, .ref h), (1, .int (nI en))]) hx hb d_CertificateReader_readKey_19 rfl hl (by decide) rfl (fun ls hl => ?_)
  refine lv_aload_n hx hb d_CertificateReader_readKey_20 rfl (lv_at hl 2 rfl) ?_
  refine lv_bipush (v := 48) hx hb d_CertificateReader_readKey_21 (by decide) ?_
  refine lv_iload_n hx hb d_CertificateReader_readKey_23 rfl (lv_at hl 0 rfl) ?_
  have hFc := va_free (wc := [(h, .inr (4, [.ref res, .ref t, .int (nI z16.1.1), .int (nI z16.1.2.1), .int (wI z16.1.2.2), .int pa, .int ma, .int ex, .ref ki])), (t, .inl (cB, n, .inl (tx u)))]) hD hS hA [1, 2] rfl
  refine va_calli (mu_runU (As := [.int 48, .int (nI z16.2)]) (rest := []) ⟨hx, hb, hml, hown, hts⟩ (cC_open l dC dI sb h res t ki z16.1.1 z16.1.2.1 n z16.1.2.2 pa ma ex ie cB u 48 z16.2 H16.size hu hn ((hi16.1).w hn) (by omega) (hi16.1).1 (by decide)) (cu_of (n := 2) hts tbin q3_108 q3_109 q3_112 q3_111 q1_15 q3_113 rfl (by decide +kernel) ⟨rfl, rfl⟩ ⟨Nat.le_of_ble_eq_true rfl, Nat.le_of_ble_eq_true rfl⟩) rfl ⟨Nat.le_of_ble_eq_true rfl, Nat.le_of_ble_eq_true rfl⟩ hN (hT0.keep hS hAs) hAs (Nat.le_trans hB0 hS.1) hK hP hD [1, 2] (by decide) rfl [0] rfl 1 4 rfl rfl rfl hl.1 rfl (Nat.le_of_ble_eq_true rfl) d_CertificateReader_readKey_24) hS (fun q _ h => hFc q h) hFc (fun r24 u24 tS H24 locs ht hvm hw24 hB hz1 hk1 hS => ?_)
  obtain ⟨x24, rfl⟩ : ∃ z, z = u24 := ⟨_, rfl⟩
  obtain ⟨hP1, hK1, hD1⟩ := hB
  rw [ht] at hP1
  obtain ⟨hP, hD⟩ := va_join (wr := [(res, .inr (3, [.ref k0, .ref k1, .ref k2, .ref k3, .ref k4, .ref k5, .ref k6, .ref k7, .int k8, .int k9, .int k10, .int k11, .int k12, .int k13, .int k14, .int k15, .int k16, .int k17, .int k18, .ref k19, .ref k20, .ref k21, .ref k22, .ref k23, .ref k24, .long k25, .long k26, .int k27]))]) (w1 := [(h, .inr (4, [.ref res, .ref t, .int (nI x24.1), .int (nI x24.2.1), .int (wI x24.2.2), .int pa, .int ma, .int ex, .ref ki])), (t, .inl (cB, n, .inl (tx u)))]) hP hD [1, 2] [0] rfl rfl (by decide) (by decide) hk1 hFc hP1 hD1
  have hP : va_P (dC, dI) classes [(res, .inr (3, [.ref k0, .ref k1, .ref k2, .ref k3, .ref k4, .ref k5, .ref k6, .ref k7, .int k8, .int k9, .int k10, .int k11, .int k12, .int k13, .int k14, .int k15, .int k16, .int k17, .int k18, .ref k19, .ref k20, .ref k21, .ref k22, .ref k23, .ref k24, .long k25, .long k26, .int k27])), (h, .inr (4, [.ref res, .ref t, .int (nI x24.1), .int (nI x24.2.1), .int (wI x24.2.2), .int pa, .int ma, .int ex, .ref ki])), (t, .inl (cB, n, .inl (tx u)))] H24 := hP
  have hD : va_D A [(res, .inr (3, [.ref k0, .ref k1, .ref k2, .ref k3, .ref k4, .ref k5, .ref k6, .ref k7, .int k8, .int k9, .int k10, .int k11, .int k12, .int k13, .int k14, .int k15, .int k16, .int k17, .int k18, .ref k19, .ref k20, .ref k21, .ref k22, .ref k23, .ref k24, .long k25, .long k26, .int k27])), (h, .inr (4, [.ref res, .ref t, .int (nI x24.1), .int (nI x24.2.1), .int (wI x24.2.2), .int pa, .int ma, .int ex, .ref ki])), (t, .inl (cB, n, .inl (tx u)))] := hD
  have hw24 : x24 = (rd_opn u n z16.1 48 z16.2).1 ∧ r24 = nI (rd_opn u n z16.1 48 z16.2).2 := hw24
  have hi24 := opn_inv (u := u) (tg := 48) hi16.1 (show z16.2 ≤ n by omega)
  obtain ⟨z24, hz24⟩ : ∃ o, o = rd_opn u n z16.1 48 z16.2 := ⟨_, rfl⟩
  rw [← hz24] at hw24 hi24
  obtain ⟨rfl, rfl⟩ := hw24
  have hb24 : z24.1.1 ≤ n := hi24.1.1
  have hc24 : z24.1.1 ≤ z24.2 := hi24.2.1
  have hd24 : z24.2 ≤ n := hi24.2.2.1
  have hP : va_P (dC, dI) classes [(res, .inr (3, [.ref k0, .ref k1, .ref k2, .ref k3, .ref k4, .ref k5, .ref k6, .ref k7, .int k8, .int k9, .int k10, .int k11, .int k12, .int k13, .int k14, .int k15, .int k16, .int k17, .int k18, .ref k19, .ref k20, .ref k21, .ref k22, .ref k23, .ref k24, .long k25, .long k26, .int k27])), (h, .inr (4, [.ref res, .ref t, .int (nI z24.1.1), .int (nI z24.1.2.1), .int (wI z24.1.2.2), .int pa, .int ma, .int ex, .ref ki])), (t, .inl (cB, n, .inl (tx u)))] H24 := hP
  have hD : va_D A [(res, .inr (3, [.ref k0, .ref k1, .ref k2, .ref k3, .ref k4, .ref k5, .ref k6, .ref k7, .int k8, .int k9, .int k10, .int k11, .int k12, .int k13, .int k14, .int k15, .int k16, .int k17, .int k18, .ref k19, .ref k20, .ref k21, .ref k22, .ref k23, .ref k24, .long k25, .long k26, .int k27])), (h, .inr (4, [.ref res, .ref t, .int (nI z24.1.1), .int (nI z24.1.2.1), .int (wI z24.1.2.2), .int pa, .int ma, .int ex, .ref ki])), (t, .inl (cB, n, .inl (tx u)))] := hD
  refine lv_istore (lv' := [(4, .int (nI z24.2)), (3, .int (nI z16.2)), (2, .int (nI z4.2)), (0, .ref h), (1, .int (nI en))]) hx hb d_CertificateReader_readKey_27 hl (by decide) rfl (fun ls hl => ?_)
  refine lv_aload_n hx hb d_CertificateReader_readKey_29 rfl (lv_at hl 3 rfl) ?_
  refine lv_iload hx hb d_CertificateReader_readKey_30 (lv_at hl 0 rfl) ?_
  have hFc := va_free (wc := [(h, .inr (4, [.ref res, .ref t, .int (nI z24.1.1), .int (nI z24.1.2.1), .int (wI z24.1.2.2), .int pa, .int ma, .int ex, .ref ki])), (t, .inl (cB, n, .inl (tx u))), (res, .inr (3, [.ref k0, .ref k1, .ref k2, .ref k3, .ref k4, .ref k5, .ref k6, .ref k7, .int k8, .int k9, .int k10, .int k11, .int k12, .int k13, .int k14, .int k15, .int k16, .int k17, .int k18, .ref k19, .ref k20, .ref k21, .ref k22, .ref k23, .ref k24, .long k25, .long k26, .int k27]))]) hD hS hA [1, 2, 0] rfl
  refine va_callv (mu_runV (As := [.int (nI z24.2)]) (rest := []) ⟨hx, hb, hml, hown, hts⟩ tbin (cC_readModulus l dC dI sb h res t ki n z24.1 pa ma ex ie cB u z24.2 k0 k1 k2 k3 k4 k5 k6 k7 k19 k20 k21 k22 k23 k24 k8 k9 k10 k11 k12 k13 k14 k15 k16 k17 k18 k27 k25 k26 H24.size hu hn hi24.1 (by omega)) q4_44 q4_46 qp_6 q1_16 q4_47 (n := 1) (by decide +kernel) rfl ⟨rfl, rfl⟩ ⟨Nat.le_of_ble_eq_true rfl, Nat.le_of_ble_eq_true rfl⟩ ⟨Nat.le_of_ble_eq_true rfl, Nat.le_of_ble_eq_true rfl⟩ hN (hT0.keep hS hAs) hAs (Nat.le_trans hB0 hS.1) hK hP hD [1, 2, 0] (by decide) rfl [0] rfl 1 4 rfl rfl rfl hl.1 rfl (Nat.le_of_ble_eq_true rfl) d_CertificateReader_readKey_32) hS (fun q _ h => hFc q h) hFc (fun u32 tS H32 locs ht hvm hw32 hB hz1 hk1 hS => ?_)
  obtain ⟨a32_0, y32_0, y32_1, y32_2, y32_3⟩ := u32
  obtain ⟨hP1, hK1, hD1⟩ := hB
  rw [ht] at hP1
  obtain ⟨hP, hD⟩ := va_join (wr := []) (w1 := [(h, .inr (4, [.ref res, .ref t, .int (nI y32_0.1), .int (nI y32_0.2.1), .int (wI y32_0.2.2), .int pa, .int ma, .int ex, .ref ki])), (t, .inl (cB, n, .inl (tx u))), (res, .inr (3, [.ref k0, .ref k1, .ref k2, .ref k3, .ref k4, .ref a32_0, .ref k6, .ref k7, .int k8, .int y32_3, .int k10, .int k11, .int k12, .int k13, .int k14, .int k15, .int k16, .int k17, .int k18, .ref k19, .ref k20, .ref k21, .ref k22, .ref k23, .ref k24, .long k25, .long k26, .int k27])), (a32_0, .inr (0, [.ref t, .int (nI y32_1), .int (nI y32_2)]))]) hP hD [1, 2, 0] [] rfl rfl (by decide) (by decide) hk1 hFc hP1 hD1
  have hP : va_P (dC, dI) classes [(h, .inr (4, [.ref res, .ref t, .int (nI y32_0.1), .int (nI y32_0.2.1), .int (wI y32_0.2.2), .int pa, .int ma, .int ex, .ref ki])), (t, .inl (cB, n, .inl (tx u))), (res, .inr (3, [.ref k0, .ref k1, .ref k2, .ref k3, .ref k4, .ref a32_0, .ref k6, .ref k7, .int k8, .int y32_3, .int k10, .int k11, .int k12, .int k13, .int k14, .int k15, .int k16, .int k17, .int k18, .ref k19, .ref k20, .ref k21, .ref k22, .ref k23, .ref k24, .long k25, .long k26, .int k27])), (a32_0, .inr (0, [.ref t, .int (nI y32_1), .int (nI y32_2)]))] H32 := hP
  have hD : va_D A [(h, .inr (4, [.ref res, .ref t, .int (nI y32_0.1), .int (nI y32_0.2.1), .int (wI y32_0.2.2), .int pa, .int ma, .int ex, .ref ki])), (t, .inl (cB, n, .inl (tx u))), (res, .inr (3, [.ref k0, .ref k1, .ref k2, .ref k3, .ref k4, .ref a32_0, .ref k6, .ref k7, .int k8, .int y32_3, .int k10, .int k11, .int k12, .int k13, .int k14, .int k15, .int k16, .int k17, .int k18, .ref k19, .ref k20, .ref k21, .ref k22, .ref k23, .ref k24, .long k25, .long k26, .int k27])), (a32_0, .inr (0, [.ref t, .int (nI y32_1), .int (nI y32_2)]))] := hD
  obtain ⟨hw32, hv32⟩ : (y32_0, y32_1, y32_2, y32_3) = rd_mod u n z24.1 z24.2 ∧ rdInv n y32_0 ∧ y32_1 ≤ y32_2 ∧ y32_2 ≤ n := hw32
  obtain ⟨z32, hz32⟩ : ∃ o, o = rd_mod u n z24.1 z24.2 := ⟨_, rfl⟩
  rw [← hz32] at hw32
  obtain ⟨rfl, rfl, rfl, rfl⟩ : y32_0 = z32.1 ∧ y32_1 = z32.2.1 ∧ y32_2 = z32.2.2.1 ∧ y32_3 = z32.2.2.2 := by rw [← hw32]; exact ⟨rfl, rfl, rfl, rfl⟩
  have hb32 : z32.1.1 ≤ n := hv32.1.1
  have hc32_0 : z32.2.1 ≤ z32.2.2.1 := hv32.2.1
  have hd32_0 : z32.2.2.1 ≤ n := hv32.2.2
  have hP : va_P (dC, dI) classes [(h, .inr (4, [.ref res, .ref t, .int (nI z32.1.1), .int (nI z32.1.2.1), .int (wI z32.1.2.2), .int pa, .int ma, .int ex, .ref ki])), (t, .inl (cB, n, .inl (tx u))), (res, .inr (3, [.ref k0, .ref k1, .ref k2, .ref k3, .ref k4, .ref a32_0, .ref k6, .ref k7, .int k8, .int z32.2.2.2, .int k10, .int k11, .int k12, .int k13, .int k14, .int k15, .int k16, .int k17, .int k18, .ref k19, .ref k20, .ref k21, .ref k22, .ref k23, .ref k24, .long k25, .long k26, .int k27])), (a32_0, .inr (0, [.ref t, .int (nI z32.2.1), .int (nI z32.2.2.1)]))] H32 := hP
  have hD : va_D A [(h, .inr (4, [.ref res, .ref t, .int (nI z32.1.1), .int (nI z32.1.2.1), .int (wI z32.1.2.2), .int pa, .int ma, .int ex, .ref ki])), (t, .inl (cB, n, .inl (tx u))), (res, .inr (3, [.ref k0, .ref k1, .ref k2, .ref k3, .ref k4, .ref a32_0, .ref k6, .ref k7, .int k8, .int z32.2.2.2, .int k10, .int k11, .int k12, .int k13, .int k14, .int k15, .int k16, .int k17, .int k18, .ref k19, .ref k20, .ref k21, .ref k22, .ref k23, .ref k24, .long k25, .long k26, .int k27])), (a32_0, .inr (0, [.ref t, .int (nI z32.2.1), .int (nI z32.2.2.1)]))] := hD
  refine lv_aload_n hx hb d_CertificateReader_readKey_35 rfl (lv_at hl 3 rfl) ?_
  refine lv_iconst (v := 2) hx hb d_CertificateReader_readKey_36 (by decide) ?_
  refine lv_iload hx hb d_CertificateReader_readKey_37 (lv_at hl 0 rfl) ?_
  have hFc := va_free (wc := [(h, .inr (4, [.ref res, .ref t, .int (nI z32.1.1), .int (nI z32.1.2.1), .int (wI z32.1.2.2), .int pa, .int ma, .int ex, .ref ki])), (t, .inl (cB, n, .inl (tx u)))]) hD hS hA [0, 1] rfl
  refine va_callr (mu_runU (As := [.int 2, .int (nI z24.2)]) (rest := []) ⟨hx, hb, hml, hown, hts⟩ (cC_number l dC dI sb h res t ki n z32.1 pa ma ex ie cB u 2 z24.2 H32.size hu hn hv32.1 (by omega) (by decide)) (cu_of (n := 2) hts tbin q3_124 q3_125 q3_128 q3_127 q1_15 q3_129 rfl (by decide +kernel) ⟨rfl, rfl⟩ ⟨Nat.le_of_ble_eq_true rfl, Nat.le_of_ble_eq_true rfl⟩) rfl ⟨Nat.le_of_ble_eq_true rfl, Nat.le_of_ble_eq_true rfl⟩ hN (hT0.keep hS hAs) hAs (Nat.le_trans hB0 hS.1) hK hP hD [0, 1] (by decide) rfl [0] rfl 0 4 rfl rfl rfl hl.1 rfl (Nat.le_of_ble_eq_true rfl) d_CertificateReader_readKey_39) hS (fun q _ h => hFc q h) hFc (fun u39 q39 tS H39 locs ht hvm hw39 hB hz1 hk1 hS => ?_)
  obtain ⟨x39, rfl⟩ : ∃ z, z = u39 := ⟨_, rfl⟩
  obtain ⟨hP1, hK1, hD1⟩ := hB
  rw [ht] at hP1
  obtain ⟨hP, hD⟩ := va_join (wr := [(res, .inr (3, [.ref k0, .ref k1, .ref k2, .ref k3, .ref k4, .ref a32_0, .ref k6, .ref k7, .int k8, .int z32.2.2.2, .int k10, .int k11, .int k12, .int k13, .int k14, .int k15, .int k16, .int k17, .int k18, .ref k19, .ref k20, .ref k21, .ref k22, .ref k23, .ref k24, .long k25, .long k26, .int k27])), (a32_0, .inr (0, [.ref t, .int (nI z32.2.1), .int (nI z32.2.2.1)]))]) (w1 := [(h, .inr (4, [.ref res, .ref t, .int (nI x39.1), .int (nI x39.2.1), .int (wI x39.2.2), .int pa, .int ma, .int ex, .ref ki])), (t, .inl (cB, n, .inl (tx u))), (q39, .inr (0, [.ref t, .int (nI ((rd_nm u n z32.1 2 z24.2).2.1)), .int (nI ((rd_nm u n z32.1 2 z24.2).2.2))]))]) hP hD [0, 1] [2, 3] rfl rfl (by decide) (by decide) hk1 hFc hP1 hD1
  have hP : va_P (dC, dI) classes [(res, .inr (3, [.ref k0, .ref k1, .ref k2, .ref k3, .ref k4, .ref a32_0, .ref k6, .ref k7, .int k8, .int z32.2.2.2, .int k10, .int k11, .int k12, .int k13, .int k14, .int k15, .int k16, .int k17, .int k18, .ref k19, .ref k20, .ref k21, .ref k22, .ref k23, .ref k24, .long k25, .long k26, .int k27])), (a32_0, .inr (0, [.ref t, .int (nI z32.2.1), .int (nI z32.2.2.1)])), (h, .inr (4, [.ref res, .ref t, .int (nI x39.1), .int (nI x39.2.1), .int (wI x39.2.2), .int pa, .int ma, .int ex, .ref ki])), (t, .inl (cB, n, .inl (tx u))), (q39, .inr (0, [.ref t, .int (nI ((rd_nm u n z32.1 2 z24.2).2.1)), .int (nI ((rd_nm u n z32.1 2 z24.2).2.2))]))] H39 := hP
  have hD : va_D A [(res, .inr (3, [.ref k0, .ref k1, .ref k2, .ref k3, .ref k4, .ref a32_0, .ref k6, .ref k7, .int k8, .int z32.2.2.2, .int k10, .int k11, .int k12, .int k13, .int k14, .int k15, .int k16, .int k17, .int k18, .ref k19, .ref k20, .ref k21, .ref k22, .ref k23, .ref k24, .long k25, .long k26, .int k27])), (a32_0, .inr (0, [.ref t, .int (nI z32.2.1), .int (nI z32.2.2.1)])), (h, .inr (4, [.ref res, .ref t, .int (nI x39.1), .int (nI x39.2.1), .int (wI x39.2.2), .int pa, .int ma, .int ex, .ref ki])), (t, .inl (cB, n, .inl (tx u))), (q39, .inr (0, [.ref t, .int (nI ((rd_nm u n z32.1 2 z24.2).2.1)), .int (nI ((rd_nm u n z32.1 2 z24.2).2.2))]))] := hD
  have hi39 := nm_inv (u := u) (tg := 2) hv32.1 (show z24.2 ≤ n by omega)
  obtain ⟨z39, hz39⟩ : ∃ o, o = rd_nm u n z32.1 2 z24.2 := ⟨_, rfl⟩
  rw [← hz39] at hw39 hi39 hP hD
  subst hw39
  have hb39 : z39.1.1 ≤ n := hi39.1.1
  have hc39 := hi39.2.1
  have hd39 := hi39.2.2
  have hP : va_P (dC, dI) classes [(res, .inr (3, [.ref k0, .ref k1, .ref k2, .ref k3, .ref k4, .ref a32_0, .ref k6, .ref k7, .int k8, .int z32.2.2.2, .int k10, .int k11, .int k12, .int k13, .int k14, .int k15, .int k16, .int k17, .int k18, .ref k19, .ref k20, .ref k21, .ref k22, .ref k23, .ref k24, .long k25, .long k26, .int k27])), (a32_0, .inr (0, [.ref t, .int (nI z32.2.1), .int (nI z32.2.2.1)])), (h, .inr (4, [.ref res, .ref t, .int (nI z39.1.1), .int (nI z39.1.2.1), .int (wI z39.1.2.2), .int pa, .int ma, .int ex, .ref ki])), (t, .inl (cB, n, .inl (tx u))), (q39, .inr (0, [.ref t, .int (nI z39.2.1), .int (nI z39.2.2)]))] H39 := hP
  have hD : va_D A [(res, .inr (3, [.ref k0, .ref k1, .ref k2, .ref k3, .ref k4, .ref a32_0, .ref k6, .ref k7, .int k8, .int z32.2.2.2, .int k10, .int k11, .int k12, .int k13, .int k14, .int k15, .int k16, .int k17, .int k18, .ref k19, .ref k20, .ref k21, .ref k22, .ref k23, .ref k24, .long k25, .long k26, .int k27])), (a32_0, .inr (0, [.ref t, .int (nI z32.2.1), .int (nI z32.2.2.1)])), (h, .inr (4, [.ref res, .ref t, .int (nI z39.1.1), .int (nI z39.1.2.1), .int (wI z39.1.2.2), .int pa, .int ma, .int ex, .ref ki])), (t, .inl (cB, n, .inl (tx u))), (q39, .inr (0, [.ref t, .int (nI z39.2.1), .int (nI z39.2.2)]))] := hD
  refine vp_callSl (pu_callV (As := []) (rest := []) ⟨hx, hb, hml, hown, hts⟩ tbin (c_Slice_number l dC dI sb q39 t z39.2.1 z39.2.2 n cB u hu (by omega) (by omega) (by omega)) q3_139 q3_140 q3_141 q1_22 q3_142 (n := 0) (by decide +kernel) rfl ⟨rfl, rfl⟩ ⟨Nat.le_of_ble_eq_true rfl, Nat.le_of_ble_eq_true rfl⟩ ⟨Nat.le_of_ble_eq_true rfl, Nat.le_of_ble_eq_true rfl⟩ hN (hT0.keep hS hAs) hK hP [4, 3] rfl [0] rfl 4 0 rfl rfl rfl hl.1 rfl (Nat.le_of_ble_eq_true rfl) d_CertificateReader_readKey_42) (fun r42 hr42 => ?_)
  subst hr42
  refine lv_lstore (lv' := [(5, .long (sl_num u z39.2.1 z39.2.2)), (4, .int (nI z24.2)), (3, .int (nI z16.2)), (2, .int (nI z4.2)), (0, .ref h), (1, .int (nI en))]) hx hb d_CertificateReader_readKey_45 hl (by decide) rfl (fun ls hl => ?_)
  refine lv_aload_n hx hb d_CertificateReader_readKey_47 rfl (lv_at hl 4 rfl) ?_
  refine lv_lload hx hb d_CertificateReader_readKey_48 (lv_at hl 0 rfl) ?_
  refine lv_ldc2 (v := 3) hx hb hown (htb _ q4_50) d_CertificateReader_readKey_50 ?_
  refine W.lcmp hx hb d_CertificateReader_readKey_53 ?_
  refine w_join (J := fun v9 => v9 = zP (¬ ((lg_cmp (sl_num u z39.2.1 z39.2.2) 3) < (0 : Int32)) ∧ (¬ ((0 : Int32) < (lg_cmp (sl_num u z39.2.1 z39.2.2) 2147483647)) ∧ ((lg_cmp ((sl_num u z39.2.1 z39.2.2) &&& 1) 1) = (0 : Int32))))) (pc := 80) (ls := ls) (rest := [.ref h]) (fun v9 hv9 => ?_) (fun k80 => ?_)
  · subst hv9
    have hFc := va_free (wc := [(h, .inr (4, [.ref res, .ref t, .int (nI z39.1.1), .int (nI z39.1.2.1), .int (wI z39.1.2.2), .int pa, .int ma, .int ex, .ref ki]))]) hD hS hA [2] rfl
    refine va_callv (mu_runU (As := [.int (zP (¬ ((lg_cmp (sl_num u z39.2.1 z39.2.2) 3) < (0 : Int32)) ∧ (¬ ((0 : Int32) < (lg_cmp (sl_num u z39.2.1 z39.2.2) 2147483647)) ∧ ((lg_cmp ((sl_num u z39.2.1 z39.2.2) &&& 1) 1) = (0 : Int32)))))]) (rest := []) ⟨hx, hb, hml, hown, hts⟩ (cC_require l dC dI sb h res t ki z39.1.1 z39.1.2.1 n z39.1.2.2 pa ma ex ie cB u (zP (¬ ((lg_cmp (sl_num u z39.2.1 z39.2.2) 3) < (0 : Int32)) ∧ (¬ ((0 : Int32) < (lg_cmp (sl_num u z39.2.1 z39.2.2) 2147483647)) ∧ ((lg_cmp ((sl_num u z39.2.1 z39.2.2) &&& 1) 1) = (0 : Int32))))) H39.size ((hi39.1).w hn)) (cu_of (n := 1) hts tbin q3_153 q3_154 q3_157 q3_156 q1_15 q3_158 rfl (by decide +kernel) ⟨rfl, rfl⟩ ⟨Nat.le_of_ble_eq_true rfl, Nat.le_of_ble_eq_true rfl⟩) rfl ⟨Nat.le_of_ble_eq_true rfl, Nat.le_of_ble_eq_true rfl⟩ hN (hT0.keep hS hAs) hAs (Nat.le_trans hB0 hS.1) hK hP hD [2] (by decide) rfl [] rfl 2 4 rfl rfl rfl hl.1 rfl (Nat.le_of_ble_eq_true rfl) d_CertificateReader_readKey_80) hS (fun q _ h => hFc q h) hFc (fun u80 tS H80 locs ht hvm hw80 hB hz1 hk1 hS => ?_)
    obtain ⟨z80, rfl⟩ : ∃ z, z = u80 := ⟨_, rfl⟩
    obtain ⟨hP1, hK1, hD1⟩ := hB
    rw [ht] at hP1
    obtain ⟨hP, hD⟩ := va_join (wr := [(res, .inr (3, [.ref k0, .ref k1, .ref k2, .ref k3, .ref k4, .ref a32_0, .ref k6, .ref k7, .int k8, .int z32.2.2.2, .int k10, .int k11, .int k12, .int k13, .int k14, .int k15, .int k16, .int k17, .int k18, .ref k19, .ref k20, .ref k21, .ref k22, .ref k23, .ref k24, .long k25, .long k26, .int k27])), (a32_0, .inr (0, [.ref t, .int (nI z32.2.1), .int (nI z32.2.2.1)])), (t, .inl (cB, n, .inl (tx u))), (q39, .inr (0, [.ref t, .int (nI z39.2.1), .int (nI z39.2.2)]))]) (w1 := [(h, .inr (4, [.ref res, .ref t, .int (nI z80.1), .int (nI z80.2.1), .int (wI z80.2.2), .int pa, .int ma, .int ex, .ref ki]))]) hP hD [2] [0, 1, 3, 4] rfl rfl (by decide) (by decide) hk1 hFc hP1 hD1
    have hP : va_P (dC, dI) classes [(res, .inr (3, [.ref k0, .ref k1, .ref k2, .ref k3, .ref k4, .ref a32_0, .ref k6, .ref k7, .int k8, .int z32.2.2.2, .int k10, .int k11, .int k12, .int k13, .int k14, .int k15, .int k16, .int k17, .int k18, .ref k19, .ref k20, .ref k21, .ref k22, .ref k23, .ref k24, .long k25, .long k26, .int k27])), (a32_0, .inr (0, [.ref t, .int (nI z32.2.1), .int (nI z32.2.2.1)])), (t, .inl (cB, n, .inl (tx u))), (q39, .inr (0, [.ref t, .int (nI z39.2.1), .int (nI z39.2.2)])), (h, .inr (4, [.ref res, .ref t, .int (nI z80.1), .int (nI z80.2.1), .int (wI z80.2.2), .int pa, .int ma, .int ex, .ref ki]))] H80 := hP
    have hD : va_D A [(res, .inr (3, [.ref k0, .ref k1, .ref k2, .ref k3, .ref k4, .ref a32_0, .ref k6, .ref k7, .int k8, .int z32.2.2.2, .int k10, .int k11, .int k12, .int k13, .int k14, .int k15, .int k16, .int k17, .int k18, .ref k19, .ref k20, .ref k21, .ref k22, .ref k23, .ref k24, .long k25, .long k26, .int k27])), (a32_0, .inr (0, [.ref t, .int (nI z32.2.1), .int (nI z32.2.2.1)])), (t, .inl (cB, n, .inl (tx u))), (q39, .inr (0, [.ref t, .int (nI z39.2.1), .int (nI z39.2.2)])), (h, .inr (4, [.ref res, .ref t, .int (nI z80.1), .int (nI z80.2.1), .int (wI z80.2.2), .int pa, .int ma, .int ex, .ref ki]))] := hD
    have hz80 : z80 = rd_req z39.1 (zP (¬ ((lg_cmp (sl_num u z39.2.1 z39.2.2) 3) < (0 : Int32)) ∧ (¬ ((0 : Int32) < (lg_cmp (sl_num u z39.2.1 z39.2.2) 2147483647)) ∧ ((lg_cmp ((sl_num u z39.2.1 z39.2.2) &&& 1) 1) = (0 : Int32))))) := hw80
    have hi80 : rdInv n z80 := by rw [hz80]; exact req_inv hi39.1
    have hb80 : z80.1 ≤ n := hi80.1
    refine lv_aload_n hx hb d_CertificateReader_readKey_83 rfl (lv_at hl 4 rfl) ?_
    refine va_get (v := .ref res) hx hb htb i_CertificateReader hown hK hP 4 rfl rfl 0 (by decide) (htb _ q3_55) (fun _ h9 => h9) rfl d_CertificateReader_readKey_84 ?_
    refine lv_lload hx hb d_CertificateReader_readKey_87 (lv_at hl 0 rfl) ?_
    refine lv_l2i (v := (sl_num u z39.2.1 z39.2.2).toInt32) hx hb d_CertificateReader_readKey_89 rfl ?_
    refine va_put (v := .int ((sl_num u z39.2.1 z39.2.2).toInt32)) (ty := .int) hx hb htb i_Certificate t_Certificate t_Certificate_ok n_Certificate hown hK hP hD hS 0 rfl rfl 10 (by decide) (htb _ q2_168) (fun _ h9 => h9) rfl (by decide +kernel) rfl rfl (Nat.le_of_ble_eq_true rfl) d_CertificateReader_readKey_90 (fun H90 locs hP hD hS => ?_)
    have hP : va_P (dC, dI) classes [(res, .inr (3, [.ref k0, .ref k1, .ref k2, .ref k3, .ref k4, .ref a32_0, .ref k6, .ref k7, .int k8, .int z32.2.2.2, .int ((sl_num u z39.2.1 z39.2.2).toInt32), .int k11, .int k12, .int k13, .int k14, .int k15, .int k16, .int k17, .int k18, .ref k19, .ref k20, .ref k21, .ref k22, .ref k23, .ref k24, .long k25, .long k26, .int k27])), (a32_0, .inr (0, [.ref t, .int (nI z32.2.1), .int (nI z32.2.2.1)])), (t, .inl (cB, n, .inl (tx u))), (q39, .inr (0, [.ref t, .int (nI z39.2.1), .int (nI z39.2.2)])), (h, .inr (4, [.ref res, .ref t, .int (nI z80.1), .int (nI z80.2.1), .int (wI z80.2.2), .int pa, .int ma, .int ex, .ref ki]))] H90 := hP
    have hD : va_D A [(res, .inr (3, [.ref k0, .ref k1, .ref k2, .ref k3, .ref k4, .ref a32_0, .ref k6, .ref k7, .int k8, .int z32.2.2.2, .int ((sl_num u z39.2.1 z39.2.2).toInt32), .int k11, .int k12, .int k13, .int k14, .int k15, .int k16, .int k17, .int k18, .ref k19, .ref k20, .ref k21, .ref k22, .ref k23, .ref k24, .long k25, .long k26, .int k27])), (a32_0, .inr (0, [.ref t, .int (nI z32.2.1), .int (nI z32.2.2.1)])), (t, .inl (cB, n, .inl (tx u))), (q39, .inr (0, [.ref t, .int (nI z39.2.1), .int (nI z39.2.2)])), (h, .inr (4, [.ref res, .ref t, .int (nI z80.1), .int (nI z80.2.1), .int (wI z80.2.2), .int pa, .int ma, .int ex, .ref ki]))] := hD
    refine lv_aload_n hx hb d_CertificateReader_readKey_93 rfl (lv_at hl 4 rfl) ?_
    refine lv_iload hx hb d_CertificateReader_readKey_94 (lv_at hl 1 rfl) ?_
    have hFc := va_free (wc := [(h, .inr (4, [.ref res, .ref t, .int (nI z80.1), .int (nI z80.2.1), .int (wI z80.2.2), .int pa, .int ma, .int ex, .ref ki]))]) hD hS hA [4] rfl
    refine va_callv (mu_runU (As := [.int (nI z24.2)]) (rest := []) ⟨hx, hb, hml, hown, hts⟩ (cC_finish l dC dI sb h res t ki z80.1 z80.2.1 n z80.2.2 pa ma ex ie cB u z24.2 H90.size ((hi80).w hn) (by have := (hi80).1; omega) (by omega)) (cu_of (n := 1) hts tbin q3_159 q3_160 q3_163 q3_162 q1_15 q3_164 rfl (by decide +kernel) ⟨rfl, rfl⟩ ⟨Nat.le_of_ble_eq_true rfl, Nat.le_of_ble_eq_true rfl⟩) rfl ⟨Nat.le_of_ble_eq_true rfl, Nat.le_of_ble_eq_true rfl⟩ hN (hT0.keep hS hAs) hAs (Nat.le_trans hB0 hS.1) hK hP hD [4] (by decide) rfl [] rfl 4 4 rfl rfl rfl hl.1 rfl (Nat.le_of_ble_eq_true rfl) d_CertificateReader_readKey_96) hS (fun q _ h => hFc q h) hFc (fun u96 tS H96 locs ht hvm hw96 hB hz1 hk1 hS => ?_)
    obtain ⟨z96, rfl⟩ : ∃ z, z = u96 := ⟨_, rfl⟩
    obtain ⟨hP1, hK1, hD1⟩ := hB
    rw [ht] at hP1
    obtain ⟨hP, hD⟩ := va_join (wr := [(res, .inr (3, [.ref k0, .ref k1, .ref k2, .ref k3, .ref k4, .ref a32_0, .ref k6, .ref k7, .int k8, .int z32.2.2.2, .int ((sl_num u z39.2.1 z39.2.2).toInt32), .int k11, .int k12, .int k13, .int k14, .int k15, .int k16, .int k17, .int k18, .ref k19, .ref k20, .ref k21, .ref k22, .ref k23, .ref k24, .long k25, .long k26, .int k27])), (a32_0, .inr (0, [.ref t, .int (nI z32.2.1), .int (nI z32.2.2.1)])), (t, .inl (cB, n, .inl (tx u))), (q39, .inr (0, [.ref t, .int (nI z39.2.1), .int (nI z39.2.2)]))]) (w1 := [(h, .inr (4, [.ref res, .ref t, .int (nI z96.1), .int (nI z96.2.1), .int (wI z96.2.2), .int pa, .int ma, .int ex, .ref ki]))]) hP hD [4] [0, 1, 2, 3] rfl rfl (by decide) (by decide) hk1 hFc hP1 hD1
    have hP : va_P (dC, dI) classes [(res, .inr (3, [.ref k0, .ref k1, .ref k2, .ref k3, .ref k4, .ref a32_0, .ref k6, .ref k7, .int k8, .int z32.2.2.2, .int ((sl_num u z39.2.1 z39.2.2).toInt32), .int k11, .int k12, .int k13, .int k14, .int k15, .int k16, .int k17, .int k18, .ref k19, .ref k20, .ref k21, .ref k22, .ref k23, .ref k24, .long k25, .long k26, .int k27])), (a32_0, .inr (0, [.ref t, .int (nI z32.2.1), .int (nI z32.2.2.1)])), (t, .inl (cB, n, .inl (tx u))), (q39, .inr (0, [.ref t, .int (nI z39.2.1), .int (nI z39.2.2)])), (h, .inr (4, [.ref res, .ref t, .int (nI z96.1), .int (nI z96.2.1), .int (wI z96.2.2), .int pa, .int ma, .int ex, .ref ki]))] H96 := hP
    have hD : va_D A [(res, .inr (3, [.ref k0, .ref k1, .ref k2, .ref k3, .ref k4, .ref a32_0, .ref k6, .ref k7, .int k8, .int z32.2.2.2, .int ((sl_num u z39.2.1 z39.2.2).toInt32), .int k11, .int k12, .int k13, .int k14, .int k15, .int k16, .int k17, .int k18, .ref k19, .ref k20, .ref k21, .ref k22, .ref k23, .ref k24, .long k25, .long k26, .int k27])), (a32_0, .inr (0, [.ref t, .int (nI z32.2.1), .int (nI z32.2.2.1)])), (t, .inl (cB, n, .inl (tx u))), (q39, .inr (0, [.ref t, .int (nI z39.2.1), .int (nI z39.2.2)])), (h, .inr (4, [.ref res, .ref t, .int (nI z96.1), .int (nI z96.2.1), .int (wI z96.2.2), .int pa, .int ma, .int ex, .ref ki]))] := hD
    have hz96 : z96 = rd_fin z80 z24.2 := hw96
    have hi96 : rdInv n z96 := by rw [hz96]; exact fin_inv hi80
    have hb96 : z96.1 ≤ n := hi96.1
    refine lv_aload_n hx hb d_CertificateReader_readKey_99 rfl (lv_at hl 4 rfl) ?_
    refine lv_iload_n hx hb d_CertificateReader_readKey_100 rfl (lv_at hl 2 rfl) ?_
    have hFc := va_free (wc := [(h, .inr (4, [.ref res, .ref t, .int (nI z96.1), .int (nI z96.2.1), .int (wI z96.2.2), .int pa, .int ma, .int ex, .ref ki]))]) hD hS hA [4] rfl
    refine va_callv (mu_runU (As := [.int (nI z16.2)]) (rest := []) ⟨hx, hb, hml, hown, hts⟩ (cC_finish l dC dI sb h res t ki z96.1 z96.2.1 n z96.2.2 pa ma ex ie cB u z16.2 H96.size ((hi96).w hn) (by have := (hi96).1; omega) (by omega)) (cu_of (n := 1) hts tbin q3_159 q3_160 q3_163 q3_162 q1_15 q3_164 rfl (by decide +kernel) ⟨rfl, rfl⟩ ⟨Nat.le_of_ble_eq_true rfl, Nat.le_of_ble_eq_true rfl⟩) rfl ⟨Nat.le_of_ble_eq_true rfl, Nat.le_of_ble_eq_true rfl⟩ hN (hT0.keep hS hAs) hAs (Nat.le_trans hB0 hS.1) hK hP hD [4] (by decide) rfl [] rfl 4 4 rfl rfl rfl hl.1 rfl (Nat.le_of_ble_eq_true rfl) d_CertificateReader_readKey_101) hS (fun q _ h => hFc q h) hFc (fun u101 tS H101 locs ht hvm hw101 hB hz1 hk1 hS => ?_)
    obtain ⟨z101, rfl⟩ : ∃ z, z = u101 := ⟨_, rfl⟩
    obtain ⟨hP1, hK1, hD1⟩ := hB
    rw [ht] at hP1
    obtain ⟨hP, hD⟩ := va_join (wr := [(res, .inr (3, [.ref k0, .ref k1, .ref k2, .ref k3, .ref k4, .ref a32_0, .ref k6, .ref k7, .int k8, .int z32.2.2.2, .int ((sl_num u z39.2.1 z39.2.2).toInt32), .int k11, .int k12, .int k13, .int k14, .int k15, .int k16, .int k17, .int k18, .ref k19, .ref k20, .ref k21, .ref k22, .ref k23, .ref k24, .long k25, .long k26, .int k27])), (a32_0, .inr (0, [.ref t, .int (nI z32.2.1), .int (nI z32.2.2.1)])), (t, .inl (cB, n, .inl (tx u))), (q39, .inr (0, [.ref t, .int (nI z39.2.1), .int (nI z39.2.2)]))]) (w1 := [(h, .inr (4, [.ref res, .ref t, .int (nI z101.1), .int (nI z101.2.1), .int (wI z101.2.2), .int pa, .int ma, .int ex, .ref ki]))]) hP hD [4] [0, 1, 2, 3] rfl rfl (by decide) (by decide) hk1 hFc hP1 hD1
    have hP : va_P (dC, dI) classes [(res, .inr (3, [.ref k0, .ref k1, .ref k2, .ref k3, .ref k4, .ref a32_0, .ref k6, .ref k7, .int k8, .int z32.2.2.2, .int ((sl_num u z39.2.1 z39.2.2).toInt32), .int k11, .int k12, .int k13, .int k14, .int k15, .int k16, .int k17, .int k18, .ref k19, .ref k20, .ref k21, .ref k22, .ref k23, .ref k24, .long k25, .long k26, .int k27])), (a32_0, .inr (0, [.ref t, .int (nI z32.2.1), .int (nI z32.2.2.1)])), (t, .inl (cB, n, .inl (tx u))), (q39, .inr (0, [.ref t, .int (nI z39.2.1), .int (nI z39.2.2)])), (h, .inr (4, [.ref res, .ref t, .int (nI z101.1), .int (nI z101.2.1), .int (wI z101.2.2), .int pa, .int ma, .int ex, .ref ki]))] H101 := hP
    have hD : va_D A [(res, .inr (3, [.ref k0, .ref k1, .ref k2, .ref k3, .ref k4, .ref a32_0, .ref k6, .ref k7, .int k8, .int z32.2.2.2, .int ((sl_num u z39.2.1 z39.2.2).toInt32), .int k11, .int k12, .int k13, .int k14, .int k15, .int k16, .int k17, .int k18, .ref k19, .ref k20, .ref k21, .ref k22, .ref k23, .ref k24, .long k25, .long k26, .int k27])), (a32_0, .inr (0, [.ref t, .int (nI z32.2.1), .int (nI z32.2.2.1)])), (t, .inl (cB, n, .inl (tx u))), (q39, .inr (0, [.ref t, .int (nI z39.2.1), .int (nI z39.2.2)])), (h, .inr (4, [.ref res, .ref t, .int (nI z101.1), .int (nI z101.2.1), .int (wI z101.2.2), .int pa, .int ma, .int ex, .ref ki]))] := hD
    have hz101 : z101 = rd_fin z96 z16.2 := hw101
    have hi101 : rdInv n z101 := by rw [hz101]; exact fin_inv hi96
    have hb101 : z101.1 ≤ n := hi101.1
    refine lv_aload_n hx hb d_CertificateReader_readKey_104 rfl (lv_at hl 4 rfl) ?_
    refine lv_iload_n hx hb d_CertificateReader_readKey_105 rfl (lv_at hl 3 rfl) ?_
    have hFc := va_free (wc := [(h, .inr (4, [.ref res, .ref t, .int (nI z101.1), .int (nI z101.2.1), .int (wI z101.2.2), .int pa, .int ma, .int ex, .ref ki]))]) hD hS hA [4] rfl
    refine va_callv (mu_runU (As := [.int (nI z4.2)]) (rest := []) ⟨hx, hb, hml, hown, hts⟩ (cC_finish l dC dI sb h res t ki z101.1 z101.2.1 n z101.2.2 pa ma ex ie cB u z4.2 H101.size ((hi101).w hn) (by have := (hi101).1; omega) (by omega)) (cu_of (n := 1) hts tbin q3_159 q3_160 q3_163 q3_162 q1_15 q3_164 rfl (by decide +kernel) ⟨rfl, rfl⟩ ⟨Nat.le_of_ble_eq_true rfl, Nat.le_of_ble_eq_true rfl⟩) rfl ⟨Nat.le_of_ble_eq_true rfl, Nat.le_of_ble_eq_true rfl⟩ hN (hT0.keep hS hAs) hAs (Nat.le_trans hB0 hS.1) hK hP hD [4] (by decide) rfl [] rfl 4 4 rfl rfl rfl hl.1 rfl (Nat.le_of_ble_eq_true rfl) d_CertificateReader_readKey_106) hS (fun q _ h => hFc q h) hFc (fun u106 tS H106 locs ht hvm hw106 hB hz1 hk1 hS => ?_)
    obtain ⟨z106, rfl⟩ : ∃ z, z = u106 := ⟨_, rfl⟩
    obtain ⟨hP1, hK1, hD1⟩ := hB
    rw [ht] at hP1
    obtain ⟨hP, hD⟩ := va_join (wr := [(res, .inr (3, [.ref k0, .ref k1, .ref k2, .ref k3, .ref k4, .ref a32_0, .ref k6, .ref k7, .int k8, .int z32.2.2.2, .int ((sl_num u z39.2.1 z39.2.2).toInt32), .int k11, .int k12, .int k13, .int k14, .int k15, .int k16, .int k17, .int k18, .ref k19, .ref k20, .ref k21, .ref k22, .ref k23, .ref k24, .long k25, .long k26, .int k27])), (a32_0, .inr (0, [.ref t, .int (nI z32.2.1), .int (nI z32.2.2.1)])), (t, .inl (cB, n, .inl (tx u))), (q39, .inr (0, [.ref t, .int (nI z39.2.1), .int (nI z39.2.2)]))]) (w1 := [(h, .inr (4, [.ref res, .ref t, .int (nI z106.1), .int (nI z106.2.1), .int (wI z106.2.2), .int pa, .int ma, .int ex, .ref ki]))]) hP hD [4] [0, 1, 2, 3] rfl rfl (by decide) (by decide) hk1 hFc hP1 hD1
    have hP : va_P (dC, dI) classes [(res, .inr (3, [.ref k0, .ref k1, .ref k2, .ref k3, .ref k4, .ref a32_0, .ref k6, .ref k7, .int k8, .int z32.2.2.2, .int ((sl_num u z39.2.1 z39.2.2).toInt32), .int k11, .int k12, .int k13, .int k14, .int k15, .int k16, .int k17, .int k18, .ref k19, .ref k20, .ref k21, .ref k22, .ref k23, .ref k24, .long k25, .long k26, .int k27])), (a32_0, .inr (0, [.ref t, .int (nI z32.2.1), .int (nI z32.2.2.1)])), (t, .inl (cB, n, .inl (tx u))), (q39, .inr (0, [.ref t, .int (nI z39.2.1), .int (nI z39.2.2)])), (h, .inr (4, [.ref res, .ref t, .int (nI z106.1), .int (nI z106.2.1), .int (wI z106.2.2), .int pa, .int ma, .int ex, .ref ki]))] H106 := hP
    have hD : va_D A [(res, .inr (3, [.ref k0, .ref k1, .ref k2, .ref k3, .ref k4, .ref a32_0, .ref k6, .ref k7, .int k8, .int z32.2.2.2, .int ((sl_num u z39.2.1 z39.2.2).toInt32), .int k11, .int k12, .int k13, .int k14, .int k15, .int k16, .int k17, .int k18, .ref k19, .ref k20, .ref k21, .ref k22, .ref k23, .ref k24, .long k25, .long k26, .int k27])), (a32_0, .inr (0, [.ref t, .int (nI z32.2.1), .int (nI z32.2.2.1)])), (t, .inl (cB, n, .inl (tx u))), (q39, .inr (0, [.ref t, .int (nI z39.2.1), .int (nI z39.2.2)])), (h, .inr (4, [.ref res, .ref t, .int (nI z106.1), .int (nI z106.2.1), .int (wI z106.2.2), .int pa, .int ma, .int ex, .ref ki]))] := hD
    have hz106 : z106 = rd_fin z101 z4.2 := hw106
    have hi106 : rdInv n z106 := by rw [hz106]; exact fin_inv hi101
    have hb106 : z106.1 ≤ n := hi106.1
    have e9 : rd_key u n x en = (z106, z32.2.1, z32.2.2.1, z32.2.2.2, (sl_num u z39.2.1 z39.2.2).toInt32) := by
      subst hz106
      subst hz101
      subst hz96
      subst hz80
      subst hz39
      subst hz32
      subst hz24
      subst hz16
      subst hz11
      subst hz4
      exact rfl
    refine W.widen (k := 3) (n := 9) (Nat.le_of_ble_eq_true rfl) (Nat.le_of_ble_eq_true rfl) ?_
    exact W.vret hx hb hr (fun t ht hW => ⟨⟨(a32_0, z106, z32.2.1, z32.2.2.1, z32.2.2.2, (sl_num u z39.2.1 z39.2.2).toInt32), rfl, ⟨e9.symm, hi106, by show z32.2.1 ≤ z32.2.2.1; omega, by show z32.2.2.1 ≤ n; omega⟩, by rw [ht]; exact hP.sub [4, 2, 0, 1] rfl, va_K.moved hW.alike hK, hD.sub [4, 2, 0, 1] (by decide) rfl⟩, hS.F ht⟩) hS.2.2 d_CertificateReader_readKey_109
  · skip
    refine lv_if_lt (tgt := 79) hx hb d_CertificateReader_readKey_54 (by decide) (fun c54 => ?_) (fun c54 => ?_)
    · have p54 : (lg_cmp (sl_num u z39.2.1 z39.2.2) 3) < (0 : Int32) := c54
      refine lv_iconst (v := 0) hx hb d_CertificateReader_readKey_79 (by decide) ?_
      exact k80 _ (zP_f (fun z => z.1 p54))
    · have p54 : ¬ ((lg_cmp (sl_num u z39.2.1 z39.2.2) 3) < (0 : Int32)) := c54
      refine lv_lload hx hb d_CertificateReader_readKey_57 (lv_at hl 0 rfl) ?_
      refine lv_ldc2 (v := 2147483647) hx hb hown (htb _ q4_51) d_CertificateReader_readKey_59 ?_
      refine W.lcmp hx hb d_CertificateReader_readKey_62 ?_
      refine lv_if_gt (tgt := 79) hx hb d_CertificateReader_readKey_63 (by decide) (fun c63 => ?_) (fun c63 => ?_)
      · have p63 : (0 : Int32) < (lg_cmp (sl_num u z39.2.1 z39.2.2) 2147483647) := c63
        refine lv_iconst (v := 0) hx hb d_CertificateReader_readKey_79 (by decide) ?_
        exact k80 _ (zP_f (fun z => (fun z => z.1 p63) z.2))
      · have p63 : ¬ ((0 : Int32) < (lg_cmp (sl_num u z39.2.1 z39.2.2) 2147483647)) := c63
        refine lv_lload hx hb d_CertificateReader_readKey_66 (lv_at hl 0 rfl) ?_
        refine lv_lconst (v := 1) hx hb d_CertificateReader_readKey_68 (by decide) ?_
        refine lv_land hx hb d_CertificateReader_readKey_69 ?_
        refine lv_lconst (v := 1) hx hb d_CertificateReader_readKey_70 (by decide) ?_
        refine W.lcmp hx hb d_CertificateReader_readKey_71 ?_
        refine lv_if_ne (tgt := 79) hx hb d_CertificateReader_readKey_72 (by decide) (fun c72 => ?_) (fun c72 => ?_)
        · have p72 : ¬ ((lg_cmp ((sl_num u z39.2.1 z39.2.2) &&& 1) 1) = (0 : Int32)) := c72
          refine lv_iconst (v := 0) hx hb d_CertificateReader_readKey_79 (by decide) ?_
          exact k80 _ (zP_f (fun z => (fun z => p72 z.2) z.2))
        · have p72 : (lg_cmp ((sl_num u z39.2.1 z39.2.2) &&& 1) 1) = (0 : Int32) := c72
          refine lv_iconst (v := 1) hx hb d_CertificateReader_readKey_75 (by decide) ?_
          refine lv_goto (tgt := 80) hx hb d_CertificateReader_readKey_76 (by decide) ?_
          exact k80 _ (zP_t ⟨p54, ⟨p63, p72⟩⟩)
def y_CertificateReader_readBasic : MethodName := ⟨"TrustChain$CertificateReader", "readBasic", "(I)V"⟩
abbrev b_CertificateReader_readBasic : ByteArray := prog_3_method_7_code
def w_CertificateReader_readBasic : List Cond := Cond.code y_CertificateReader_readBasic b_CertificateReader_readBasic 6 (none) :: tb
theorem d_CertificateReader_readBasic_0 : decode b_CertificateReader_readBasic 0 = .ok (.aload_n 0, 1) := by decide +kernel
theorem d_CertificateReader_readBasic_1 : decode b_CertificateReader_readBasic 1 = .ok (.bipush 48, 2) := by decide +kernel
theorem d_CertificateReader_readBasic_3 : decode b_CertificateReader_readBasic 3 = .ok (.iload_n 1, 1) := by decide +kernel
theorem d_CertificateReader_readBasic_4 : decode b_CertificateReader_readBasic 4 = .ok (.invokevirtual 29, 3) := by decide +kernel
theorem d_CertificateReader_readBasic_7 : decode b_CertificateReader_readBasic 7 = .ok (.istore_n 2, 1) := by decide +kernel
theorem d_CertificateReader_readBasic_8 : decode b_CertificateReader_readBasic 8 = .ok (.aload_n 0, 1) := by decide +kernel
theorem d_CertificateReader_readBasic_9 : decode b_CertificateReader_readBasic 9 = .ok (.iconst 1, 1) := by decide +kernel
theorem d_CertificateReader_readBasic_10 : decode b_CertificateReader_readBasic 10 = .ok (.iload_n 2, 1) := by decide +kernel
theorem d_CertificateReader_readBasic_11 : decode b_CertificateReader_readBasic 11 = .ok (.invokevirtual 44, 3) := by decide +kernel
theorem d_CertificateReader_readBasic_14 : decode b_CertificateReader_readBasic 14 = .ok (.istore_n 3, 1) := by decide +kernel
theorem d_CertificateReader_readBasic_15 : decode b_CertificateReader_readBasic 15 = .ok (.iload_n 3, 1) := by decide +kernel
theorem d_CertificateReader_readBasic_16 : decode b_CertificateReader_readBasic 16 = .ok (.ifCond .eq 8, 3) := by decide +kernel
theorem d_CertificateReader_readBasic_19 : decode b_CertificateReader_readBasic 19 = .ok (.aload_n 0, 1) := by decide +kernel
theorem d_CertificateReader_readBasic_20 : decode b_CertificateReader_readBasic 20 = .ok (.iload_n 2, 1) := by decide +kernel
theorem d_CertificateReader_readBasic_21 : decode b_CertificateReader_readBasic 21 = .ok (.invokevirtual 199, 3) := by decide +kernel
theorem d_CertificateReader_readBasic_24 : decode b_CertificateReader_readBasic 24 = .ok (.aload_n 0, 1) := by decide +kernel
theorem d_CertificateReader_readBasic_25 : decode b_CertificateReader_readBasic 25 = .ok (.getfield 19, 3) := by decide +kernel
theorem d_CertificateReader_readBasic_28 : decode b_CertificateReader_readBasic 28 = .ok (.iload_n 3, 1) := by decide +kernel
theorem d_CertificateReader_readBasic_29 : decode b_CertificateReader_readBasic 29 = .ok (.putfield 202, 3) := by decide +kernel
theorem d_CertificateReader_readBasic_32 : decode b_CertificateReader_readBasic 32 = .ok (.aload_n 0, 1) := by decide +kernel
theorem d_CertificateReader_readBasic_33 : decode b_CertificateReader_readBasic 33 = .ok (.iconst 2, 1) := by decide +kernel
theorem d_CertificateReader_readBasic_34 : decode b_CertificateReader_readBasic 34 = .ok (.iload_n 2, 1) := by decide +kernel
theorem d_CertificateReader_readBasic_35 : decode b_CertificateReader_readBasic 35 = .ok (.invokevirtual 44, 3) := by decide +kernel
theorem d_CertificateReader_readBasic_38 : decode b_CertificateReader_readBasic 38 = .ok (.ifCond .eq 53, 3) := by decide +kernel
theorem d_CertificateReader_readBasic_41 : decode b_CertificateReader_readBasic 41 = .ok (.aload_n 0, 1) := by decide +kernel
theorem d_CertificateReader_readBasic_42 : decode b_CertificateReader_readBasic 42 = .ok (.iconst 2, 1) := by decide +kernel
theorem d_CertificateReader_readBasic_43 : decode b_CertificateReader_readBasic 43 = .ok (.iload_n 2, 1) := by decide +kernel
theorem d_CertificateReader_readBasic_44 : decode b_CertificateReader_readBasic 44 = .ok (.invokevirtual 70, 3) := by decide +kernel
theorem d_CertificateReader_readBasic_47 : decode b_CertificateReader_readBasic 47 = .ok (.invokevirtual 74, 3) := by decide +kernel
theorem d_CertificateReader_readBasic_50 : decode b_CertificateReader_readBasic 50 = .ok (.lstore 4, 2) := by decide +kernel
theorem d_CertificateReader_readBasic_52 : decode b_CertificateReader_readBasic 52 = .ok (.aload_n 0, 1) := by decide +kernel
theorem d_CertificateReader_readBasic_53 : decode b_CertificateReader_readBasic 53 = .ok (.iload_n 3, 1) := by decide +kernel
theorem d_CertificateReader_readBasic_54 : decode b_CertificateReader_readBasic 54 = .ok (.ifCond .eq 23, 3) := by decide +kernel
theorem d_CertificateReader_readBasic_57 : decode b_CertificateReader_readBasic 57 = .ok (.lload 4, 2) := by decide +kernel
theorem d_CertificateReader_readBasic_59 : decode b_CertificateReader_readBasic 59 = .ok (.lconst 0, 1) := by decide +kernel
theorem d_CertificateReader_readBasic_60 : decode b_CertificateReader_readBasic 60 = .ok (.lcmp, 1) := by decide +kernel
theorem d_CertificateReader_readBasic_61 : decode b_CertificateReader_readBasic 61 = .ok (.ifCond .lt 16, 3) := by decide +kernel
theorem d_CertificateReader_readBasic_64 : decode b_CertificateReader_readBasic 64 = .ok (.lload 4, 2) := by decide +kernel
theorem d_CertificateReader_readBasic_66 : decode b_CertificateReader_readBasic 66 = .ok (.ldc2_w 205, 3) := by decide +kernel
theorem d_CertificateReader_readBasic_69 : decode b_CertificateReader_readBasic 69 = .ok (.lcmp, 1) := by decide +kernel
theorem d_CertificateReader_readBasic_70 : decode b_CertificateReader_readBasic 70 = .ok (.ifCond .gt 7, 3) := by decide +kernel
theorem d_CertificateReader_readBasic_73 : decode b_CertificateReader_readBasic 73 = .ok (.iconst 1, 1) := by decide +kernel
theorem d_CertificateReader_readBasic_74 : decode b_CertificateReader_readBasic 74 = .ok (.goto 4, 3) := by decide +kernel
theorem d_CertificateReader_readBasic_77 : decode b_CertificateReader_readBasic 77 = .ok (.iconst 0, 1) := by decide +kernel
theorem d_CertificateReader_readBasic_78 : decode b_CertificateReader_readBasic 78 = .ok (.invokevirtual 79, 3) := by decide +kernel
theorem d_CertificateReader_readBasic_81 : decode b_CertificateReader_readBasic 81 = .ok (.aload_n 0, 1) := by decide +kernel
theorem d_CertificateReader_readBasic_82 : decode b_CertificateReader_readBasic 82 = .ok (.getfield 19, 3) := by decide +kernel
theorem d_CertificateReader_readBasic_85 : decode b_CertificateReader_readBasic 85 = .ok (.lload 4, 2) := by decide +kernel
theorem d_CertificateReader_readBasic_87 : decode b_CertificateReader_readBasic 87 = .ok (.l2i, 1) := by decide +kernel
theorem d_CertificateReader_readBasic_88 : decode b_CertificateReader_readBasic 88 = .ok (.putfield 207, 3) := by decide +kernel
theorem d_CertificateReader_readBasic_91 : decode b_CertificateReader_readBasic 91 = .ok (.aload_n 0, 1) := by decide +kernel
theorem d_CertificateReader_readBasic_92 : decode b_CertificateReader_readBasic 92 = .ok (.iload_n 2, 1) := by decide +kernel
theorem d_CertificateReader_readBasic_93 : decode b_CertificateReader_readBasic 93 = .ok (.invokevirtual 51, 3) := by decide +kernel
theorem d_CertificateReader_readBasic_96 : decode b_CertificateReader_readBasic 96 = .ok (.return_, 1) := by decide +kernel
noncomputable def rd_bas (u : Nat → Nat) (n : Nat) (x : rS) (en : Nat) (k12 : Int32) : rS × Int32 × Int32 :=
  (let z4 := rd_opn u n x 48 en; (@ite _ (z4.1.2.2 = none ∧ z4.1.1 < z4.2 ∧ u z4.1.1 = 1) (Classical.propDecidable _) (let z21 := rd_flag u n z4.1 z4.2; (@ite _ (z21.2.2 = none ∧ z21.1 < z4.2 ∧ u z21.1 = 2) (Classical.propDecidable _) (let z44 := rd_nm u n z21 2 z4.2; (let z78 := rd_req z44.1 (zP ((z4.1.2.2 = none ∧ z4.1.1 < z4.2 ∧ u z4.1.1 = 1) ∧ (¬ ((lg_cmp (sl_num u z44.2.1 z44.2.2) 0) < (0 : Int32)) ∧ (¬ ((0 : Int32) < (lg_cmp (sl_num u z44.2.1 z44.2.2) 255)))))); (let z93 := rd_fin z78 z4.2; (z93, (sl_num u z44.2.1 z44.2.2).toInt32, zP (z4.1.2.2 = none ∧ z4.1.1 < z4.2 ∧ u z4.1.1 = 1))))) (let z93 := rd_fin z21 z4.2; (z93, k12, zP (z4.1.2.2 = none ∧ z4.1.1 < z4.2 ∧ u z4.1.1 = 1))))) (@ite _ (z4.1.2.2 = none ∧ z4.1.1 < z4.2 ∧ u z4.1.1 = 2) (Classical.propDecidable _) (let z44 := rd_nm u n z4.1 2 z4.2; (let z78 := rd_req z44.1 (zP ((z4.1.2.2 = none ∧ z4.1.1 < z4.2 ∧ u z4.1.1 = 1) ∧ (¬ ((lg_cmp (sl_num u z44.2.1 z44.2.2) 0) < (0 : Int32)) ∧ (¬ ((0 : Int32) < (lg_cmp (sl_num u z44.2.1 z44.2.2) 255)))))); (let z93 := rd_fin z78 z4.2; (z93, (sl_num u z44.2.1 z44.2.2).toInt32, zP (z4.1.2.2 = none ∧ z4.1.1 < z4.2 ∧ u z4.1.1 = 1))))) (let z93 := rd_fin z4.1 z4.2; (z93, k12, zP (z4.1.2.2 = none ∧ z4.1.1 < z4.2 ∧ u z4.1.1 = 1))))))
set_option maxHeartbeats 4000000 in
set_option maxRecDepth 100000 in
theorem cC_readBasic (l : Launch) (dC : Nat → ClassId) (dI : Nat → Nat → Nat) (sb : sB) (h res t ki n : Nat) (x : rS) (pa ma ex ie : Int32) (cB : ClassId) (u : Nat → Nat) (en : Nat) (k0 k1 k2 k3 k4 k5 k6 k7 k19 k20 k21 k22 k23 k24 : Nat) (k8 k9 k10 k11 k12 k13 k14 k15 k16 k17 k18 k27 : Int32) (k25 k26 : Int64) (sz : Nat) (hu : ∀ j, u j < 256) (hn : n < 2 ^ 30) (hi : rdInv n x) (he : en ≤ n) : Met l y_CertificateReader_readBasic w_CertificateReader_readBasic ({ frames := 3, cells := 1, slots := 3, locals := 72 }) (mu_P [.ref h, .int (nI en)] (dC, dI) sb [(h, .inr (4, [.ref res, .ref t, .int (nI x.1), .int (nI x.2.1), .int (wI x.2.2), .int pa, .int ma, .int ex, .ref ki])), (t, .inl (cB, n, .inl (tx u))), (res, .inr (3, [.ref k0, .ref k1, .ref k2, .ref k3, .ref k4, .ref k5, .ref k6, .ref k7, .int k8, .int k9, .int k10, .int k11, .int k12, .int k13, .int k14, .int k15, .int k16, .int k17, .int k18, .ref k19, .ref k20, .ref k21, .ref k22, .ref k23, .ref k24, .long k25, .long k26, .int k27]))] [(cB, .byte)] sz) (va_Qv (fun (u' : rS × Int32 × Int32) => u' = rd_bas u n x en k12 ∧ rdInv n u'.1) (mu_B (dC, dI) [(cB, .byte)] (va_A [(h, .inr (4, [.ref res, .ref t, .int (nI x.1), .int (nI x.2.1), .int (wI x.2.2), .int pa, .int ma, .int ex, .ref ki])), (t, .inl (cB, n, .inl (tx u))), (res, .inr (3, [.ref k0, .ref k1, .ref k2, .ref k3, .ref k4, .ref k5, .ref k6, .ref k7, .int k8, .int k9, .int k10, .int k11, .int k12, .int k13, .int k14, .int k15, .int k16, .int k17, .int k18, .ref k19, .ref k20, .ref k21, .ref k22, .ref k23, .ref k24, .long k25, .long k26, .int k27]))] sz) (fun u' : rS × Int32 × Int32 => [(h, .inr (4, [.ref res, .ref t, .int (nI u'.1.1), .int (nI u'.1.2.1), .int (wI u'.1.2.2), .int pa, .int ma, .int ex, .ref ki])), (t, .inl (cB, n, .inl (tx u))), (res, .inr (3, [.ref k0, .ref k1, .ref k2, .ref k3, .ref k4, .ref k5, .ref k6, .ref k7, .int k8, .int k9, .int k10, .int u'.2.2, .int u'.2.1, .int k13, .int k14, .int k15, .int k16, .int k17, .int k18, .ref k19, .ref k20, .ref k21, .ref k22, .ref k23, .ref k24, .long k25, .long k26, .int k27]))])) (va_A [(h, .inr (4, [.ref res, .ref t, .int (nI x.1), .int (nI x.2.1), .int (wI x.2.2), .int pa, .int ma, .int ex, .ref ki])), (t, .inl (cB, n, .inl (tx u))), (res, .inr (3, [.ref k0, .ref k1, .ref k2, .ref k3, .ref k4, .ref k5, .ref k6, .ref k7, .int k8, .int k9, .int k10, .int k11, .int k12, .int k13, .int k14, .int k15, .int k16, .int k17, .int k18, .ref k19, .ref k20, .ref k21, .ref k22, .ref k23, .ref k24, .long k25, .long k26, .int k27]))] sz)) 1 3 (va_A [(h, .inr (4, [.ref res, .ref t, .int (nI x.1), .int (nI x.2.1), .int (wI x.2.2), .int pa, .int ma, .int ex, .ref ki])), (t, .inl (cB, n, .inl (tx u))), (res, .inr (3, [.ref k0, .ref k1, .ref k2, .ref k3, .ref k4, .ref k5, .ref k6, .ref k7, .int k8, .int k9, .int k10, .int k11, .int k12, .int k13, .int k14, .int k15, .int k16, .int k17, .int k18, .ref k19, .ref k20, .ref k21, .ref k22, .ref k23, .ref k24, .long k25, .long k26, .int k27]))] sz) := by
  refine Met.ofW (cc := b_CertificateReader_readBasic) (maxL := 6) (ret := none) (by decide) rfl ?_
  intro p e s m args below meth c s₁ B hml hv
  obtain ⟨rfl, hsz, hB0, hP, hK, hD0, hN, hT0⟩ := hv
  have hx := B.exec
  have hb := B.bytes
  have hr := B.returns
  have hts := atoms_spec (ws := w_CertificateReader_readBasic) B.pre
  have tbin : ∀ w ∈ tb, w ∈ w_CertificateReader_readBasic := fun w h => List.mem_cons_of_mem _ h
  have htb : ∀ w ∈ tb, w.before _ s = true := fun w h => hts w (tbin w h)
  have hown : s.vm.findClass "TrustChain$CertificateReader" = some m.cls := findClass_of_methodNamed B.named
  have hlocks := B.notSynchronized
  subst hsz
  have hD := hD0.self (sz := s.heap.size)
  generalize hAe : va_A [(h, .inr (4, [.ref res, .ref t, .int (nI x.1), .int (nI x.2.1), .int (wI x.2.2), .int pa, .int ma, .int ex, .ref ki])), (t, .inl (cB, n, .inl (tx u))), (res, .inr (3, [.ref k0, .ref k1, .ref k2, .ref k3, .ref k4, .ref k5, .ref k6, .ref k7, .int k8, .int k9, .int k10, .int k11, .int k12, .int k13, .int k14, .int k15, .int k16, .int k17, .int k18, .ref k19, .ref k20, .ref k21, .ref k22, .ref k23, .ref k24, .long k25, .long k26, .int k27]))] s.heap.size = A at hD ⊢
  have hA : ∀ q : Nat, s.heap.size ≤ q → A q := fun q h => by rw [← hAe]; exact Or.inr h
  have hAs : ∀ q : Nat, A q → sb.1 ≤ q := fun q h => by
    rw [← hAe] at h
    rcases h with ⟨k, e, h⟩ | h
    · exact hD0.2 k _ h
    · exact Nat.le_trans hB0 h
  have hS : va_S A s.heap s.heap [] := va_S.rf
  have hcs : 1 ≤ (headSpec w_CertificateReader_readBasic ({ frames := 3, cells := 1, slots := 3, locals := 72 })).room.cells ∧ 3 ≤ (headSpec w_CertificateReader_readBasic ({ frames := 3, cells := 1, slots := 3, locals := 72 })).room.slots := ⟨Nat.le_refl _, Nat.le_refl _⟩
  have hP : va_P (dC, dI) classes [(h, .inr (4, [.ref res, .ref t, .int (nI x.1), .int (nI x.2.1), .int (wI x.2.2), .int pa, .int ma, .int ex, .ref ki])), (t, .inl (cB, n, .inl (tx u))), (res, .inr (3, [.ref k0, .ref k1, .ref k2, .ref k3, .ref k4, .ref k5, .ref k6, .ref k7, .int k8, .int k9, .int k10, .int k11, .int k12, .int k13, .int k14, .int k15, .int k16, .int k17, .int k18, .ref k19, .ref k20, .ref k21, .ref k22, .ref k23, .ref k24, .long k25, .long k26, .int k27]))] s.heap := hP
  have hl := lv_entry ([.ref h, .int (nI en)]) (n := 6) (Nat.le_of_ble_eq_true rfl)
  rw [lg_entry_eq]
  generalize (lg_sl ([.ref h, .int (nI en)]) ++ List.replicate (6 - (lg_sl ([.ref h, .int (nI en)])).length) Slot.unset).toArray = ls at hl ⊢
  have hl : lv_has ls 6 [(0, .ref h), (1, .int (nI en))] := hl
  refine lv_aload_n hx hb d_CertificateReader_readBasic_0 rfl (lv_at hl 0 rfl) ?_
  refine lv_bipush (v := 48) hx hb d_CertificateReader_readBasic_1 (by decide) ?_
  refine lv_iload_n hx hb d_CertificateReader_readBasic_3 rfl (lv_at hl 1 rfl) ?_
  have hFc := va_free (wc := [(h, .inr (4, [.ref res, .ref t, .int (nI x.1), .int (nI x.2.1), .int (wI x.2.2), .int pa, .int ma, .int ex, .ref ki])), (t, .inl (cB, n, .inl (tx u)))]) hD hS hA [0, 1] rfl
  refine va_calli (mu_runU (As := [.int 48, .int (nI en)]) (rest := []) ⟨hx, hb, hml, hown, hts⟩ (cC_open l dC dI sb h res t ki x.1 x.2.1 n x.2.2 pa ma ex ie cB u 48 en s.heap.size hu hn ((hi).w hn) (by omega) (hi).1 (by decide)) (cu_of (n := 2) hts tbin q3_108 q3_109 q3_112 q3_111 q1_15 q3_113 rfl (by decide +kernel) ⟨rfl, rfl⟩ ⟨Nat.le_of_ble_eq_true rfl, Nat.le_of_ble_eq_true rfl⟩) rfl ⟨Nat.le_of_ble_eq_true rfl, Nat.le_of_ble_eq_true rfl⟩ hN (hT0.keep hS hAs) hAs (Nat.le_trans hB0 hS.1) hK hP hD [0, 1] (by decide) rfl [0] rfl 0 4 rfl rfl rfl hl.1 rfl (Nat.le_of_ble_eq_true rfl) d_CertificateReader_readBasic_4) hS (fun q _ h => hFc q h) hFc (fun r4 u4 tS H4 locs ht hvm hw4 hB hz1 hk1 hS => ?_)
  obtain ⟨x4, rfl⟩ : ∃ z, z = u4 := ⟨_, rfl⟩
  obtain ⟨hP1, hK1, hD1⟩ := hB
  rw [ht] at hP1
  obtain ⟨hP, hD⟩ := va_join (wr := [(res, .inr (3, [.ref k0, .ref k1, .ref k2, .ref k3, .ref k4, .ref k5, .ref k6, .ref k7, .int k8, .int k9, .int k10, .int k11, .int k12, .int k13, .int k14, .int k15, .int k16, .int k17, .int k18, .ref k19, .ref k20, .ref k21, .ref k22, .ref k23, .ref k24, .long k25, .long k26, .int k27]))]) (w1 := [(h, .inr (4, [.ref res, .ref t, .int (nI x4.1), .int (nI x4.2.1), .int (wI x4.2.2), .int pa, .int ma, .int ex, .ref ki])), (t, .inl (cB, n, .inl (tx u)))]) hP hD [0, 1] [2] rfl rfl (by decide) (by decide) hk1 hFc hP1 hD1
  have hP : va_P (dC, dI) classes [(res, .inr (3, [.ref k0, .ref k1, .ref k2, .ref k3, .ref k4, .ref k5, .ref k6, .ref k7, .int k8, .int k9, .int k10, .int k11, .int k12, .int k13, .int k14, .int k15, .int k16, .int k17, .int k18, .ref k19, .ref k20, .ref k21, .ref k22, .ref k23, .ref k24, .long k25, .long k26, .int k27])), (h, .inr (4, [.ref res, .ref t, .int (nI x4.1), .int (nI x4.2.1), .int (wI x4.2.2), .int pa, .int ma, .int ex, .ref ki])), (t, .inl (cB, n, .inl (tx u)))] H4 := hP
  have hD : va_D A [(res, .inr (3, [.ref k0, .ref k1, .ref k2, .ref k3, .ref k4, .ref k5, .ref k6, .ref k7, .int k8, .int k9, .int k10, .int k11, .int k12, .int k13, .int k14, .int k15, .int k16, .int k17, .int k18, .ref k19, .ref k20, .ref k21, .ref k22, .ref k23, .ref k24, .long k25, .long k26, .int k27])), (h, .inr (4, [.ref res, .ref t, .int (nI x4.1), .int (nI x4.2.1), .int (wI x4.2.2), .int pa, .int ma, .int ex, .ref ki])), (t, .inl (cB, n, .inl (tx u)))] := hD
  have hw4 : x4 = (rd_opn u n x 48 en).1 ∧ r4 = nI (rd_opn u n x 48 en).2 := hw4
  have hi4 := opn_inv (u := u) (tg := 48) hi (show en ≤ n by omega)
  obtain ⟨z4, hz4⟩ : ∃ o, o = rd_opn u n x 48 en := ⟨_, rfl⟩
  rw [← hz4] at hw4 hi4
  obtain ⟨rfl, rfl⟩ := hw4
  have hb4 : z4.1.1 ≤ n := hi4.1.1
  have hc4 : z4.1.1 ≤ z4.2 := hi4.2.1
  have hd4 : z4.2 ≤ n := hi4.2.2.1
  have hP : va_P (dC, dI) classes [(res, .inr (3, [.ref k0, .ref k1, .ref k2, .ref k3, .ref k4, .ref k5, .ref k6, .ref k7, .int k8, .int k9, .int k10, .int k11, .int k12, .int k13, .int k14, .int k15, .int k16, .int k17, .int k18, .ref k19, .ref k20, .ref k21, .ref k22, .ref k23, .ref k24, .long k25, .long k26, .int k27])), (h, .inr (4, [.ref res, .ref t, .int (nI z4.1.1), .int (nI z4.1.2.1), .int (wI z4.1.2.2), .int pa, .int ma, .int ex, .ref ki])), (t, .inl (cB, n, .inl (tx u)))] H4 := hP
  have hD : va_D A [(res, .inr (3, [.ref k0, .ref k1, .ref k2, .ref k3, .ref k4, .ref k5, .ref k6, .ref k7, .int k8, .int k9, .int k10, .int k11, .int k12, .int k13, .int k14, .int k15, .int k16, .int k17, .int k18, .ref k19, .ref k20, .ref k21, .ref k22, .ref k23, .ref k24, .long k25, .long k26, .int k27])), (h, .inr (4, [.ref res, .ref t, .int (nI z4.1.1), .int (nI z4.1.2.1), .int (wI z4.1.2.2), .int pa, .int ma, .int ex, .ref ki])), (t, .inl (cB, n, .inl (tx u)))] := hD
  refine lv_istore_n (lv' := [(2, .int (nI z4.2)), (0, .ref h), (1, .int (nI en))]) hx hb d_CertificateReader_readBasic_7 rfl hl (by decide) rfl (fun ls hl => ?_)
  refine lv_aload_n hx hb d_CertificateReader_readBasic_8 rfl (lv_at hl 1 rfl) ?_
  refine lv_iconst (v := 1) hx hb d_CertificateReader_readBasic_9 (by decide) ?_
  refine lv_iload_n hx hb d_CertificateReader_readBasic_10 rfl (lv_at hl 0 rfl) ?_
  refine vp_callSi (pu_callU (As := [.int 1, .int (nI z4.2)]) (rest := []) ⟨hx, hb, hml, hown, hts⟩ (cC_nextIs l dC dI sb h res t ki z4.1.1 z4.1.2.1 n z4.1.2.2 pa ma ex ie cB u 1 z4.2 hu hn ((hi4.1).w hn) (by omega) (hi4.1).1 (by decide)) (cu_of (n := 2) hts tbin q4_52 q4_53 q3_207 q4_55 q1_15 q3_211 rfl (by decide +kernel) ⟨rfl, rfl⟩ ⟨Nat.le_of_ble_eq_true rfl, Nat.le_of_ble_eq_true rfl⟩) rfl ⟨Nat.le_of_ble_eq_true rfl, Nat.le_of_ble_eq_true rfl⟩ hN (hT0.keep hS hAs) hK hP [1, 2] rfl [0] rfl 1 4 rfl rfl rfl hl.1 rfl (Nat.le_of_ble_eq_true rfl) d_CertificateReader_readBasic_11) (fun r11 hr11 => ?_)
  obtain rfl := bz_zP hr11
  refine lv_istore_n (lv' := [(3, .int (zP (z4.1.2.2 = none ∧ z4.1.1 < z4.2 ∧ u z4.1.1 = 1))), (2, .int (nI z4.2)), (0, .ref h), (1, .int (nI en))]) hx hb d_CertificateReader_readBasic_14 rfl hl (by decide) rfl (fun ls hl => ?_)
  refine lv_iload_n hx hb d_CertificateReader_readBasic_15 rfl (lv_at hl 0 rfl) ?_
  refine lv_if_eq (tgt := 24) hx hb d_CertificateReader_readBasic_16 (by decide) (fun c16 => ?_) (fun c16 => ?_)
  · have p16 : ¬ (z4.1.2.2 = none ∧ z4.1.1 < z4.2 ∧ u z4.1.1 = 1) := (zP_0.mp c16)
    refine lv_aload_n hx hb d_CertificateReader_readBasic_24 rfl (lv_at hl 2 rfl) ?_
    refine va_get (v := .ref res) hx hb htb i_CertificateReader hown hK hP 1 rfl rfl 0 (by decide) (htb _ q3_55) (fun _ h9 => h9) rfl d_CertificateReader_readBasic_25 ?_
    refine lv_iload_n hx hb d_CertificateReader_readBasic_28 rfl (lv_at hl 0 rfl) ?_
    refine va_put (v := .int (zP (z4.1.2.2 = none ∧ z4.1.1 < z4.2 ∧ u z4.1.1 = 1))) (ty := .boolean) hx hb htb i_Certificate t_Certificate t_Certificate_ok n_Certificate hown hK hP hD hS 0 rfl rfl 11 (by decide) (htb _ q2_171) (fun _ h9 => h9) rfl (by decide +kernel) (zP_n _) (zP_fit _) (Nat.le_of_ble_eq_true rfl) d_CertificateReader_readBasic_29 (fun H29 locs hP hD hS => ?_)
    have hP : va_P (dC, dI) classes [(res, .inr (3, [.ref k0, .ref k1, .ref k2, .ref k3, .ref k4, .ref k5, .ref k6, .ref k7, .int k8, .int k9, .int k10, .int (zP (z4.1.2.2 = none ∧ z4.1.1 < z4.2 ∧ u z4.1.1 = 1)), .int k12, .int k13, .int k14, .int k15, .int k16, .int k17, .int k18, .ref k19, .ref k20, .ref k21, .ref k22, .ref k23, .ref k24, .long k25, .long k26, .int k27])), (h, .inr (4, [.ref res, .ref t, .int (nI z4.1.1), .int (nI z4.1.2.1), .int (wI z4.1.2.2), .int pa, .int ma, .int ex, .ref ki])), (t, .inl (cB, n, .inl (tx u)))] H29 := hP
    have hD : va_D A [(res, .inr (3, [.ref k0, .ref k1, .ref k2, .ref k3, .ref k4, .ref k5, .ref k6, .ref k7, .int k8, .int k9, .int k10, .int (zP (z4.1.2.2 = none ∧ z4.1.1 < z4.2 ∧ u z4.1.1 = 1)), .int k12, .int k13, .int k14, .int k15, .int k16, .int k17, .int k18, .ref k19, .ref k20, .ref k21, .ref k22, .ref k23, .ref k24, .long k25, .long k26, .int k27])), (h, .inr (4, [.ref res, .ref t, .int (nI z4.1.1), .int (nI z4.1.2.1), .int (wI z4.1.2.2), .int pa, .int ma, .int ex, .ref ki])), (t, .inl (cB, n, .inl (tx u)))] := hD
    refine lv_aload_n hx hb d_CertificateReader_readBasic_32 rfl (lv_at hl 2 rfl) ?_
    refine lv_iconst (v := 2) hx hb d_CertificateReader_readBasic_33 (by decide) ?_
    refine lv_iload_n hx hb d_CertificateReader_readBasic_34 rfl (lv_at hl 1 rfl) ?_
    refine vp_callSi (pu_callU (As := [.int 2, .int (nI z4.2)]) (rest := []) ⟨hx, hb, hml, hown, hts⟩ (cC_nextIs l dC dI sb h res t ki z4.1.1 z4.1.2.1 n z4.1.2.2 pa ma ex ie cB u 2 z4.2 hu hn ((hi4.1).w hn) (by omega) (hi4.1).1 (by decide)) (cu_of (n := 2) hts tbin q4_52 q4_53 q3_207 q4_55 q1_15 q3_211 rfl (by decide +kernel) ⟨rfl, rfl⟩ ⟨Nat.le_of_ble_eq_true rfl, Nat.le_of_ble_eq_true rfl⟩) rfl ⟨Nat.le_of_ble_eq_true rfl, Nat.le_of_ble_eq_true rfl⟩ hN (hT0.keep hS hAs) hK hP [1, 2] rfl [0] rfl 1 4 rfl rfl rfl hl.1 rfl (Nat.le_of_ble_eq_true rfl) d_CertificateReader_readBasic_35) (fun r35 hr35 => ?_)
    obtain rfl := bz_zP hr35
    refine lv_if_eq (tgt := 91) hx hb d_CertificateReader_readBasic_38 (by decide) (fun c38 => ?_) (fun c38 => ?_)
    · have p38 : ¬ (z4.1.2.2 = none ∧ z4.1.1 < z4.2 ∧ u z4.1.1 = 2) := (zP_0.mp c38)
      refine lv_aload_n hx hb d_CertificateReader_readBasic_91 rfl (lv_at hl 2 rfl) ?_
      refine lv_iload_n hx hb d_CertificateReader_readBasic_92 rfl (lv_at hl 1 rfl) ?_
      have hFc := va_free (wc := [(h, .inr (4, [.ref res, .ref t, .int (nI z4.1.1), .int (nI z4.1.2.1), .int (wI z4.1.2.2), .int pa, .int ma, .int ex, .ref ki]))]) hD hS hA [1] rfl
      refine va_callv (mu_runU (As := [.int (nI z4.2)]) (rest := []) ⟨hx, hb, hml, hown, hts⟩ (cC_finish l dC dI sb h res t ki z4.1.1 z4.1.2.1 n z4.1.2.2 pa ma ex ie cB u z4.2 H29.size ((hi4.1).w hn) (by have := (hi4.1).1; omega) (by omega)) (cu_of (n := 1) hts tbin q3_159 q3_160 q3_163 q3_162 q1_15 q3_164 rfl (by decide +kernel) ⟨rfl, rfl⟩ ⟨Nat.le_of_ble_eq_true rfl, Nat.le_of_ble_eq_true rfl⟩) rfl ⟨Nat.le_of_ble_eq_true rfl, Nat.le_of_ble_eq_true rfl⟩ hN (hT0.keep hS hAs) hAs (Nat.le_trans hB0 hS.1) hK hP hD [1] (by decide) rfl [] rfl 1 4 rfl rfl rfl hl.1 rfl (Nat.le_of_ble_eq_true rfl) d_CertificateReader_readBasic_93) hS (fun q _ h => hFc q h) hFc (fun u93 tS H93 locs ht hvm hw93 hB hz1 hk1 hS => ?_)
      obtain ⟨z93, rfl⟩ : ∃ z, z = u93 := ⟨_, rfl⟩
      obtain ⟨hP1, hK1, hD1⟩ := hB
      rw [ht] at hP1
      obtain ⟨hP, hD⟩ := va_join (wr := [(res, .inr (3, [.ref k0, .ref k1, .ref k2, .ref k3, .ref k4, .ref k5, .ref k6, .ref k7, .int k8, .int k9, .int k10, .int (zP (z4.1.2.2 = none ∧ z4.1.1 < z4.2 ∧ u z4.1.1 = 1)), .int k12, .int k13, .int k14, .int k15, .int k16, .int k17, .int k18, .ref k19, .ref k20, .ref k21, .ref k22, .ref k23, .ref k24, .long k25, .long k26, .int k27])), (t, .inl (cB, n, .inl (tx u)))]) (w1 := [(h, .inr (4, [.ref res, .ref t, .int (nI z93.1), .int (nI z93.2.1), .int (wI z93.2.2), .int pa, .int ma, .int ex, .ref ki]))]) hP hD [1] [0, 2] rfl rfl (by decide) (by decide) hk1 hFc hP1 hD1
      have hP : va_P (dC, dI) classes [(res, .inr (3, [.ref k0, .ref k1, .ref k2, .ref k3, .ref k4, .ref k5, .ref k6, .ref k7, .int k8, .int k9, .int k10, .int (zP (z4.1.2.2 = none ∧ z4.1.1 < z4.2 ∧ u z4.1.1 = 1)), .int k12, .int k13, .int k14, .int k15, .int k16, .int k17, .int k18, .ref k19, .ref k20, .ref k21, .ref k22, .ref k23, .ref k24, .long k25, .long k26, .int k27])), (t, .inl (cB, n, .inl (tx u))), (h, .inr (4, [.ref res, .ref t, .int (nI z93.1), .int (nI z93.2.1), .int (wI z93.2.2), .int pa, .int ma, .int ex, .ref ki]))] H93 := hP
      have hD : va_D A [(res, .inr (3, [.ref k0, .ref k1, .ref k2, .ref k3, .ref k4, .ref k5, .ref k6, .ref k7, .int k8, .int k9, .int k10, .int (zP (z4.1.2.2 = none ∧ z4.1.1 < z4.2 ∧ u z4.1.1 = 1)), .int k12, .int k13, .int k14, .int k15, .int k16, .int k17, .int k18, .ref k19, .ref k20, .ref k21, .ref k22, .ref k23, .ref k24, .long k25, .long k26, .int k27])), (t, .inl (cB, n, .inl (tx u))), (h, .inr (4, [.ref res, .ref t, .int (nI z93.1), .int (nI z93.2.1), .int (wI z93.2.2), .int pa, .int ma, .int ex, .ref ki]))] := hD
      have hz93 : z93 = rd_fin z4.1 z4.2 := hw93
      have hi93 : rdInv n z93 := by rw [hz93]; exact fin_inv hi4.1
      have hb93 : z93.1 ≤ n := hi93.1
      have e9 : rd_bas u n x en k12 = (z93, k12, zP (z4.1.2.2 = none ∧ z4.1.1 < z4.2 ∧ u z4.1.1 = 1)) := by
        subst hz93
        subst hz4
        exact ((if_neg p16).trans ((if_neg p38).trans rfl))
      refine W.widen (k := 1) (n := 3) (Nat.le_of_ble_eq_true rfl) (Nat.le_of_ble_eq_true rfl) ?_
      exact W.vret hx hb hr (fun t ht hW => ⟨⟨(z93, k12, zP (z4.1.2.2 = none ∧ z4.1.1 < z4.2 ∧ u z4.1.1 = 1)), rfl, ⟨e9.symm, hi93⟩, by rw [ht]; exact hP.sub [2, 1, 0] rfl, va_K.moved hW.alike hK, hD.sub [2, 1, 0] (by decide) rfl⟩, hS.F ht⟩) hS.2.2 d_CertificateReader_readBasic_96
    · have p38 : z4.1.2.2 = none ∧ z4.1.1 < z4.2 ∧ u z4.1.1 = 2 := (zP_1 c38)
      refine lv_aload_n hx hb d_CertificateReader_readBasic_41 rfl (lv_at hl 2 rfl) ?_
      refine lv_iconst (v := 2) hx hb d_CertificateReader_readBasic_42 (by decide) ?_
      refine lv_iload_n hx hb d_CertificateReader_readBasic_43 rfl (lv_at hl 1 rfl) ?_
      have hFc := va_free (wc := [(h, .inr (4, [.ref res, .ref t, .int (nI z4.1.1), .int (nI z4.1.2.1), .int (wI z4.1.2.2), .int pa, .int ma, .int ex, .ref ki])), (t, .inl (cB, n, .inl (tx u)))]) hD hS hA [1, 2] rfl
      refine va_callr (mu_runU (As := [.int 2, .int (nI z4.2)]) (rest := []) ⟨hx, hb, hml, hown, hts⟩ (cC_number l dC dI sb h res t ki n z4.1 pa ma ex ie cB u 2 z4.2 H29.size hu hn hi4.1 (by omega) (by decide)) (cu_of (n := 2) hts tbin q3_124 q3_125 q3_128 q3_127 q1_15 q3_129 rfl (by decide +kernel) ⟨rfl, rfl⟩ ⟨Nat.le_of_ble_eq_true rfl, Nat.le_of_ble_eq_true rfl⟩) rfl ⟨Nat.le_of_ble_eq_true rfl, Nat.le_of_ble_eq_true rfl⟩ hN (hT0.keep hS hAs) hAs (Nat.le_trans hB0 hS.1) hK hP hD [1, 2] (by decide) rfl [0] rfl 1 4 rfl rfl rfl hl.1 rfl (Nat.le_of_ble_eq_true rfl) d_CertificateReader_readBasic_44) hS (fun q _ h => hFc q h) hFc (fun u44 q44 tS H44 locs ht hvm hw44 hB hz1 hk1 hS => ?_)
      obtain ⟨x44, rfl⟩ : ∃ z, z = u44 := ⟨_, rfl⟩
      obtain ⟨hP1, hK1, hD1⟩ := hB
      rw [ht] at hP1
      obtain ⟨hP, hD⟩ := va_join (wr := [(res, .inr (3, [.ref k0, .ref k1, .ref k2, .ref k3, .ref k4, .ref k5, .ref k6, .ref k7, .int k8, .int k9, .int k10, .int (zP (z4.1.2.2 = none ∧ z4.1.1 < z4.2 ∧ u z4.1.1 = 1)), .int k12, .int k13, .int k14, .int k15, .int k16, .int k17, .int k18, .ref k19, .ref k20, .ref k21, .ref k22, .ref k23, .ref k24, .long k25, .long k26, .int k27]))]) (w1 := [(h, .inr (4, [.ref res, .ref t, .int (nI x44.1), .int (nI x44.2.1), .int (wI x44.2.2), .int pa, .int ma, .int ex, .ref ki])), (t, .inl (cB, n, .inl (tx u))), (q44, .inr (0, [.ref t, .int (nI ((rd_nm u n z4.1 2 z4.2).2.1)), .int (nI ((rd_nm u n z4.1 2 z4.2).2.2))]))]) hP hD [1, 2] [0] rfl rfl (by decide) (by decide) hk1 hFc hP1 hD1
      have hP : va_P (dC, dI) classes [(res, .inr (3, [.ref k0, .ref k1, .ref k2, .ref k3, .ref k4, .ref k5, .ref k6, .ref k7, .int k8, .int k9, .int k10, .int (zP (z4.1.2.2 = none ∧ z4.1.1 < z4.2 ∧ u z4.1.1 = 1)), .int k12, .int k13, .int k14, .int k15, .int k16, .int k17, .int k18, .ref k19, .ref k20, .ref k21, .ref k22, .ref k23, .ref k24, .long k25, .long k26, .int k27])), (h, .inr (4, [.ref res, .ref t, .int (nI x44.1), .int (nI x44.2.1), .int (wI x44.2.2), .int pa, .int ma, .int ex, .ref ki])), (t, .inl (cB, n, .inl (tx u))), (q44, .inr (0, [.ref t, .int (nI ((rd_nm u n z4.1 2 z4.2).2.1)), .int (nI ((rd_nm u n z4.1 2 z4.2).2.2))]))] H44 := hP
      have hD : va_D A [(res, .inr (3, [.ref k0, .ref k1, .ref k2, .ref k3, .ref k4, .ref k5, .ref k6, .ref k7, .int k8, .int k9, .int k10, .int (zP (z4.1.2.2 = none ∧ z4.1.1 < z4.2 ∧ u z4.1.1 = 1)), .int k12, .int k13, .int k14, .int k15, .int k16, .int k17, .int k18, .ref k19, .ref k20, .ref k21, .ref k22, .ref k23, .ref k24, .long k25, .long k26, .int k27])), (h, .inr (4, [.ref res, .ref t, .int (nI x44.1), .int (nI x44.2.1), .int (wI x44.2.2), .int pa, .int ma, .int ex, .ref ki])), (t, .inl (cB, n, .inl (tx u))), (q44, .inr (0, [.ref t, .int (nI ((rd_nm u n z4.1 2 z4.2).2.1)), .int (nI ((rd_nm u n z4.1 2 z4.2).2.2))]))] := hD
      have hi44 := nm_inv (u := u) (tg := 2) hi4.1 (show z4.2 ≤ n by omega)
      obtain ⟨z44, hz44⟩ : ∃ o, o = rd_nm u n z4.1 2 z4.2 := ⟨_, rfl⟩
      rw [← hz44] at hw44 hi44 hP hD
      subst hw44
      have hb44 : z44.1.1 ≤ n := hi44.1.1
      have hc44 := hi44.2.1
      have hd44 := hi44.2.2
      have hP : va_P (dC, dI) classes [(res, .inr (3, [.ref k0, .ref k1, .ref k2, .ref k3, .ref k4, .ref k5, .ref k6, .ref k7, .int k8, .int k9, .int k10, .int (zP (z4.1.2.2 = none ∧ z4.1.1 < z4.2 ∧ u z4.1.1 = 1)), .int k12, .int k13, .int k14, .int k15, .int k16, .int k17, .int k18, .ref k19, .ref k20, .ref k21, .ref k22, .ref k23, .ref k24, .long k25, .long k26, .int k27])), (h, .inr (4, [.ref res, .ref t, .int (nI z44.1.1), .int (nI z44.1.2.1), .int (wI z44.1.2.2), .int pa, .int ma, .int ex, .ref ki])), (t, .inl (cB, n, .inl (tx u))), (q44, .inr (0, [.ref t, .int (nI z44.2.1), .int (nI z44.2.2)]))] H44 := hP
      have hD : va_D A [(res, .inr (3, [.ref k0, .ref k1, .ref k2, .ref k3, .ref k4, .ref k5, .ref k6, .ref k7, .int k8, .int k9, .int k10, .int (zP (z4.1.2.2 = none ∧ z4.1.1 < z4.2 ∧ u z4.1.1 = 1)), .int k12, .int k13, .int k14, .int k15, .int k16, .int k17, .int k18, .ref k19, .ref k20, .ref k21, .ref k22, .ref k23, .ref k24, .long k25, .long k26, .int k27])), (h, .inr (4, [.ref res, .ref t, .int (nI z44.1.1), .int (nI z44.1.2.1), .int (wI z44.1.2.2), .int pa, .int ma, .int ex, .ref ki])), (t, .inl (cB, n, .inl (tx u))), (q44, .inr (0, [.ref t, .int (nI z44.2.1), .int (nI z44.2.2)]))] := hD
      refine vp_callSl (pu_callV (As := []) (rest := []) ⟨hx, hb, hml, hown, hts⟩ tbin (c_Slice_number l dC dI sb q44 t z44.2.1 z44.2.2 n cB u hu (by omega) (by omega) (by omega)) q3_139 q3_140 q3_141 q1_22 q3_142 (n := 0) (by decide +kernel) rfl ⟨rfl, rfl⟩ ⟨Nat.le_of_ble_eq_true rfl, Nat.le_of_ble_eq_true rfl⟩ ⟨Nat.le_of_ble_eq_true rfl, Nat.le_of_ble_eq_true rfl⟩ hN (hT0.keep hS hAs) hK hP [3, 2] rfl [0] rfl 3 0 rfl rfl rfl hl.1 rfl (Nat.le_of_ble_eq_true rfl) d_CertificateReader_readBasic_47) (fun r47 hr47 => ?_)
      subst hr47
      refine lv_lstore (lv' := [(4, .long (sl_num u z44.2.1 z44.2.2)), (3, .int (zP (z4.1.2.2 = none ∧ z4.1.1 < z4.2 ∧ u z4.1.1 = 1))), (2, .int (nI z4.2)), (0, .ref h), (1, .int (nI en))]) hx hb d_CertificateReader_readBasic_50 hl (by decide) rfl (fun ls hl => ?_)
      refine lv_aload_n hx hb d_CertificateReader_readBasic_52 rfl (lv_at hl 3 rfl) ?_
      refine lv_iload_n hx hb d_CertificateReader_readBasic_53 rfl (lv_at hl 1 rfl) ?_
      refine w_join (J := fun v9 => v9 = zP ((z4.1.2.2 = none ∧ z4.1.1 < z4.2 ∧ u z4.1.1 = 1) ∧ (¬ ((lg_cmp (sl_num u z44.2.1 z44.2.2) 0) < (0 : Int32)) ∧ (¬ ((0 : Int32) < (lg_cmp (sl_num u z44.2.1 z44.2.2) 255)))))) (pc := 78) (ls := ls) (rest := [.ref h]) (fun v9 hv9 => ?_) (fun k78 => ?_)
      · subst hv9
        have hFc := va_free (wc := [(h, .inr (4, [.ref res, .ref t, .int (nI z44.1.1), .int (nI z44.1.2.1), .int (wI z44.1.2.2), .int pa, .int ma, .int ex, .ref ki]))]) hD hS hA [1] rfl
        refine va_callv (mu_runU (As := [.int (zP ((z4.1.2.2 = none ∧ z4.1.1 < z4.2 ∧ u z4.1.1 = 1) ∧ (¬ ((lg_cmp (sl_num u z44.2.1 z44.2.2) 0) < (0 : Int32)) ∧ (¬ ((0 : Int32) < (lg_cmp (sl_num u z44.2.1 z44.2.2) 255))))))]) (rest := []) ⟨hx, hb, hml, hown, hts⟩ (cC_require l dC dI sb h res t ki z44.1.1 z44.1.2.1 n z44.1.2.2 pa ma ex ie cB u (zP ((z4.1.2.2 = none ∧ z4.1.1 < z4.2 ∧ u z4.1.1 = 1) ∧ (¬ ((lg_cmp (sl_num u z44.2.1 z44.2.2) 0) < (0 : Int32)) ∧ (¬ ((0 : Int32) < (lg_cmp (sl_num u z44.2.1 z44.2.2) 255)))))) H44.size ((hi44.1).w hn)) (cu_of (n := 1) hts tbin q3_153 q3_154 q3_157 q3_156 q1_15 q3_158 rfl (by decide +kernel) ⟨rfl, rfl⟩ ⟨Nat.le_of_ble_eq_true rfl, Nat.le_of_ble_eq_true rfl⟩) rfl ⟨Nat.le_of_ble_eq_true rfl, Nat.le_of_ble_eq_true rfl⟩ hN (hT0.keep hS hAs) hAs (Nat.le_trans hB0 hS.1) hK hP hD [1] (by decide) rfl [] rfl 1 4 rfl rfl rfl hl.1 rfl (Nat.le_of_ble_eq_true rfl) d_CertificateReader_readBasic_78) hS (fun q _ h => hFc q h) hFc (fun u78 tS H78 locs ht hvm hw78 hB hz1 hk1 hS => ?_)
        obtain ⟨z78, rfl⟩ : ∃ z, z = u78 := ⟨_, rfl⟩
        obtain ⟨hP1, hK1, hD1⟩ := hB
        rw [ht] at hP1
        obtain ⟨hP, hD⟩ := va_join (wr := [(res, .inr (3, [.ref k0, .ref k1, .ref k2, .ref k3, .ref k4, .ref k5, .ref k6, .ref k7, .int k8, .int k9, .int k10, .int (zP (z4.1.2.2 = none ∧ z4.1.1 < z4.2 ∧ u z4.1.1 = 1)), .int k12, .int k13, .int k14, .int k15, .int k16, .int k17, .int k18, .ref k19, .ref k20, .ref k21, .ref k22, .ref k23, .ref k24, .long k25, .long k26, .int k27])), (t, .inl (cB, n, .inl (tx u))), (q44, .inr (0, [.ref t, .int (nI z44.2.1), .int (nI z44.2.2)]))]) (w1 := [(h, .inr (4, [.ref res, .ref t, .int (nI z78.1), .int (nI z78.2.1), .int (wI z78.2.2), .int pa, .int ma, .int ex, .ref ki]))]) hP hD [1] [0, 2, 3] rfl rfl (by decide) (by decide) hk1 hFc hP1 hD1
        have hP : va_P (dC, dI) classes [(res, .inr (3, [.ref k0, .ref k1, .ref k2, .ref k3, .ref k4, .ref k5, .ref k6, .ref k7, .int k8, .int k9, .int k10, .int (zP (z4.1.2.2 = none ∧ z4.1.1 < z4.2 ∧ u z4.1.1 = 1)), .int k12, .int k13, .int k14, .int k15, .int k16, .int k17, .int k18, .ref k19, .ref k20, .ref k21, .ref k22, .ref k23, .ref k24, .long k25, .long k26, .int k27])), (t, .inl (cB, n, .inl (tx u))), (q44, .inr (0, [.ref t, .int (nI z44.2.1), .int (nI z44.2.2)])), (h, .inr (4, [.ref res, .ref t, .int (nI z78.1), .int (nI z78.2.1), .int (wI z78.2.2), .int pa, .int ma, .int ex, .ref ki]))] H78 := hP
        have hD : va_D A [(res, .inr (3, [.ref k0, .ref k1, .ref k2, .ref k3, .ref k4, .ref k5, .ref k6, .ref k7, .int k8, .int k9, .int k10, .int (zP (z4.1.2.2 = none ∧ z4.1.1 < z4.2 ∧ u z4.1.1 = 1)), .int k12, .int k13, .int k14, .int k15, .int k16, .int k17, .int k18, .ref k19, .ref k20, .ref k21, .ref k22, .ref k23, .ref k24, .long k25, .long k26, .int k27])), (t, .inl (cB, n, .inl (tx u))), (q44, .inr (0, [.ref t, .int (nI z44.2.1), .int (nI z44.2.2)])), (h, .inr (4, [.ref res, .ref t, .int (nI z78.1), .int (nI z78.2.1), .int (wI z78.2.2), .int pa, .int ma, .int ex, .ref ki]))] := hD
        have hz78 : z78 = rd_req z44.1 (zP ((z4.1.2.2 = none ∧ z4.1.1 < z4.2 ∧ u z4.1.1 = 1) ∧ (¬ ((lg_cmp (sl_num u z44.2.1 z44.2.2) 0) < (0 : Int32)) ∧ (¬ ((0 : Int32) < (lg_cmp (sl_num u z44.2.1 z44.2.2) 255)))))) := hw78
        have hi78 : rdInv n z78 := by rw [hz78]; exact req_inv hi44.1
        have hb78 : z78.1 ≤ n := hi78.1
        refine lv_aload_n hx hb d_CertificateReader_readBasic_81 rfl (lv_at hl 3 rfl) ?_
        refine va_get (v := .ref res) hx hb htb i_CertificateReader hown hK hP 3 rfl rfl 0 (by decide) (htb _ q3_55) (fun _ h9 => h9) rfl d_CertificateReader_readBasic_82 ?_
        refine lv_lload hx hb d_CertificateReader_readBasic_85 (lv_at hl 0 rfl) ?_
        refine lv_l2i (v := (sl_num u z44.2.1 z44.2.2).toInt32) hx hb d_CertificateReader_readBasic_87 rfl ?_
        refine va_put (v := .int ((sl_num u z44.2.1 z44.2.2).toInt32)) (ty := .int) hx hb htb i_Certificate t_Certificate t_Certificate_ok n_Certificate hown hK hP hD hS 0 rfl rfl 12 (by decide) (htb _ q2_173) (fun _ h9 => h9) rfl (by decide +kernel) rfl rfl (Nat.le_of_ble_eq_true rfl) d_CertificateReader_readBasic_88 (fun H88 locs hP hD hS => ?_)
        have hP : va_P (dC, dI) classes [(res, .inr (3, [.ref k0, .ref k1, .ref k2, .ref k3, .ref k4, .ref k5, .ref k6, .ref k7, .int k8, .int k9, .int k10, .int (zP (z4.1.2.2 = none ∧ z4.1.1 < z4.2 ∧ u z4.1.1 = 1)), .int ((sl_num u z44.2.1 z44.2.2).toInt32), .int k13, .int k14, .int k15, .int k16, .int k17, .int k18, .ref k19, .ref k20, .ref k21, .ref k22, .ref k23, .ref k24, .long k25, .long k26, .int k27])), (t, .inl (cB, n, .inl (tx u))), (q44, .inr (0, [.ref t, .int (nI z44.2.1), .int (nI z44.2.2)])), (h, .inr (4, [.ref res, .ref t, .int (nI z78.1), .int (nI z78.2.1), .int (wI z78.2.2), .int pa, .int ma, .int ex, .ref ki]))] H88 := hP
        have hD : va_D A [(res, .inr (3, [.ref k0, .ref k1, .ref k2, .ref k3, .ref k4, .ref k5, .ref k6, .ref k7, .int k8, .int k9, .int k10, .int (zP (z4.1.2.2 = none ∧ z4.1.1 < z4.2 ∧ u z4.1.1 = 1)), .int ((sl_num u z44.2.1 z44.2.2).toInt32), .int k13, .int k14, .int k15, .int k16, .int k17, .int k18, .ref k19, .ref k20, .ref k21, .ref k22, .ref k23, .ref k24, .long k25, .long k26, .int k27])), (t, .inl (cB, n, .inl (tx u))), (q44, .inr (0, [.ref t, .int (nI z44.2.1), .int (nI z44.2.2)])), (h, .inr (4, [.ref res, .ref t, .int (nI z78.1), .int (nI z78.2.1), .int (wI z78.2.2), .int pa, .int ma, .int ex, .ref ki]))] := hD
        refine lv_aload_n hx hb d_CertificateReader_readBasic_91 rfl (lv_at hl 3 rfl) ?_
        refine lv_iload_n hx hb d_CertificateReader_readBasic_92 rfl (lv_at hl 2 rfl) ?_
        have hFc := va_free (wc := [(h, .inr (4, [.ref res, .ref t, .int (nI z78.1), .int (nI z78.2.1), .int (wI z78.2.2), .int pa, .int ma, .int ex, .ref ki]))]) hD hS hA [3] rfl
        refine va_callv (mu_runU (As := [.int (nI z4.2)]) (rest := []) ⟨hx, hb, hml, hown, hts⟩ (cC_finish l dC dI sb h res t ki z78.1 z78.2.1 n z78.2.2 pa ma ex ie cB u z4.2 H88.size ((hi78).w hn) (by have := (hi78).1; omega) (by omega)) (cu_of (n := 1) hts tbin q3_159 q3_160 q3_163 q3_162 q1_15 q3_164 rfl (by decide +kernel) ⟨rfl, rfl⟩ ⟨Nat.le_of_ble_eq_true rfl, Nat.le_of_ble_eq_true rfl⟩) rfl ⟨Nat.le_of_ble_eq_true rfl, Nat.le_of_ble_eq_true rfl⟩ hN (hT0.keep hS hAs) hAs (Nat.le_trans hB0 hS.1) hK hP hD [3] (by decide) rfl [] rfl 3 4 rfl rfl rfl hl.1 rfl (Nat.le_of_ble_eq_true rfl) d_CertificateReader_readBasic_93) hS (fun q _ h => hFc q h) hFc (fun u93 tS H93 locs ht hvm hw93 hB hz1 hk1 hS => ?_)
        obtain ⟨z93, rfl⟩ : ∃ z, z = u93 := ⟨_, rfl⟩
        obtain ⟨hP1, hK1, hD1⟩ := hB
        rw [ht] at hP1
        obtain ⟨hP, hD⟩ := va_join (wr := [(res, .inr (3, [.ref k0, .ref k1, .ref k2, .ref k3, .ref k4, .ref k5, .ref k6, .ref k7, .int k8, .int k9, .int k10, .int (zP (z4.1.2.2 = none ∧ z4.1.1 < z4.2 ∧ u z4.1.1 = 1)), .int ((sl_num u z44.2.1 z44.2.2).toInt32), .int k13, .int k14, .int k15, .int k16, .int k17, .int k18, .ref k19, .ref k20, .ref k21, .ref k22, .ref k23, .ref k24, .long k25, .long k26, .int k27])), (t, .inl (cB, n, .inl (tx u))), (q44, .inr (0, [.ref t, .int (nI z44.2.1), .int (nI z44.2.2)]))]) (w1 := [(h, .inr (4, [.ref res, .ref t, .int (nI z93.1), .int (nI z93.2.1), .int (wI z93.2.2), .int pa, .int ma, .int ex, .ref ki]))]) hP hD [3] [0, 1, 2] rfl rfl (by decide) (by decide) hk1 hFc hP1 hD1
        have hP : va_P (dC, dI) classes [(res, .inr (3, [.ref k0, .ref k1, .ref k2, .ref k3, .ref k4, .ref k5, .ref k6, .ref k7, .int k8, .int k9, .int k10, .int (zP (z4.1.2.2 = none ∧ z4.1.1 < z4.2 ∧ u z4.1.1 = 1)), .int ((sl_num u z44.2.1 z44.2.2).toInt32), .int k13, .int k14, .int k15, .int k16, .int k17, .int k18, .ref k19, .ref k20, .ref k21, .ref k22, .ref k23, .ref k24, .long k25, .long k26, .int k27])), (t, .inl (cB, n, .inl (tx u))), (q44, .inr (0, [.ref t, .int (nI z44.2.1), .int (nI z44.2.2)])), (h, .inr (4, [.ref res, .ref t, .int (nI z93.1), .int (nI z93.2.1), .int (wI z93.2.2), .int pa, .int ma, .int ex, .ref ki]))] H93 := hP
        have hD : va_D A [(res, .inr (3, [.ref k0, .ref k1, .ref k2, .ref k3, .ref k4, .ref k5, .ref k6, .ref k7, .int k8, .int k9, .int k10, .int (zP (z4.1.2.2 = none ∧ z4.1.1 < z4.2 ∧ u z4.1.1 = 1)), .int ((sl_num u z44.2.1 z44.2.2).toInt32), .int k13, .int k14, .int k15, .int k16, .int k17, .int k18, .ref k19, .ref k20, .ref k21, .ref k22, .ref k23, .ref k24, .long k25, .long k26, .int k27])), (t, .inl (cB, n, .inl (tx u))), (q44, .inr (0, [.ref t, .int (nI z44.2.1), .int (nI z44.2.2)])), (h, .inr (4, [.ref res, .ref t, .int (nI z93.1), .int (nI z93.2.1), .int (wI z93.2.2), .int pa, .int ma, .int ex, .ref ki]))] := hD
        have hz93 : z93 = rd_fin z78 z4.2 := hw93
        have hi93 : rdInv n z93 := by rw [hz93]; exact fin_inv hi78
        have hb93 : z93.1 ≤ n := hi93.1
        have e9 : rd_bas u n x en k12 = (z93, (sl_num u z44.2.1 z44.2.2).toInt32, zP (z4.1.2.2 = none ∧ z4.1.1 < z4.2 ∧ u z4.1.1 = 1)) := by
          subst hz93
          subst hz78
          subst hz44
          subst hz4
          exact ((if_neg p16).trans ((if_pos p38).trans rfl))
        refine W.widen (k := 1) (n := 3) (Nat.le_of_ble_eq_true rfl) (Nat.le_of_ble_eq_true rfl) ?_
        exact W.vret hx hb hr (fun t ht hW => ⟨⟨(z93, (sl_num u z44.2.1 z44.2.2).toInt32, zP (z4.1.2.2 = none ∧ z4.1.1 < z4.2 ∧ u z4.1.1 = 1)), rfl, ⟨e9.symm, hi93⟩, by rw [ht]; exact hP.sub [3, 1, 0] rfl, va_K.moved hW.alike hK, hD.sub [3, 1, 0] (by decide) rfl⟩, hS.F ht⟩) hS.2.2 d_CertificateReader_readBasic_96
      · skip
        refine lv_if_eq (tgt := 77) hx hb d_CertificateReader_readBasic_54 (by decide) (fun c54 => ?_) (fun c54 => ?_)
        · have p54 : ¬ (z4.1.2.2 = none ∧ z4.1.1 < z4.2 ∧ u z4.1.1 = 1) := (zP_0.mp c54)
          refine lv_iconst (v := 0) hx hb d_CertificateReader_readBasic_77 (by decide) ?_
          exact k78 _ (zP_f (fun z => p54 z.1))
        · have p54 : z4.1.2.2 = none ∧ z4.1.1 < z4.2 ∧ u z4.1.1 = 1 := (zP_1 c54)
          refine lv_lload hx hb d_CertificateReader_readBasic_57 (lv_at hl 0 rfl) ?_
          refine lv_lconst (v := 0) hx hb d_CertificateReader_readBasic_59 (by decide) ?_
          refine W.lcmp hx hb d_CertificateReader_readBasic_60 ?_
          refine lv_if_lt (tgt := 77) hx hb d_CertificateReader_readBasic_61 (by decide) (fun c61 => ?_) (fun c61 => ?_)
          · have p61 : (lg_cmp (sl_num u z44.2.1 z44.2.2) 0) < (0 : Int32) := c61
            refine lv_iconst (v := 0) hx hb d_CertificateReader_readBasic_77 (by decide) ?_
            exact k78 _ (zP_f (fun z => (fun z => z.1 p61) z.2))
          · have p61 : ¬ ((lg_cmp (sl_num u z44.2.1 z44.2.2) 0) < (0 : Int32)) := c61
            refine lv_lload hx hb d_CertificateReader_readBasic_64 (lv_at hl 0 rfl) ?_
            refine lv_ldc2 (v := 255) hx hb hown (htb _ q4_175) d_CertificateReader_readBasic_66 ?_
            refine W.lcmp hx hb d_CertificateReader_readBasic_69 ?_
            refine lv_if_gt (tgt := 77) hx hb d_CertificateReader_readBasic_70 (by decide) (fun c70 => ?_) (fun c70 => ?_)
            · have p70 : (0 : Int32) < (lg_cmp (sl_num u z44.2.1 z44.2.2) 255) := c70
              refine lv_iconst (v := 0) hx hb d_CertificateReader_readBasic_77 (by decide) ?_
              exact k78 _ (zP_f (fun z => (fun z => (fun z => z p70) z.2) z.2))
            · have p70 : ¬ ((0 : Int32) < (lg_cmp (sl_num u z44.2.1 z44.2.2) 255)) := c70
              refine lv_iconst (v := 1) hx hb d_CertificateReader_readBasic_73 (by decide) ?_
              refine lv_goto (tgt := 78) hx hb d_CertificateReader_readBasic_74 (by decide) ?_
              exact k78 _ (zP_t ⟨p54, ⟨p61, p70⟩⟩)
  · have p16 : z4.1.2.2 = none ∧ z4.1.1 < z4.2 ∧ u z4.1.1 = 1 := (zP_1 c16)
    refine lv_aload_n hx hb d_CertificateReader_readBasic_19 rfl (lv_at hl 2 rfl) ?_
    refine lv_iload_n hx hb d_CertificateReader_readBasic_20 rfl (lv_at hl 1 rfl) ?_
    have hFc := va_free (wc := [(h, .inr (4, [.ref res, .ref t, .int (nI z4.1.1), .int (nI z4.1.2.1), .int (wI z4.1.2.2), .int pa, .int ma, .int ex, .ref ki])), (t, .inl (cB, n, .inl (tx u)))]) hD hS hA [1, 2] rfl
    refine va_callv (mu_runU (As := [.int (nI z4.2)]) (rest := []) ⟨hx, hb, hml, hown, hts⟩ (cC_flag l dC dI sb h res t ki n z4.1 pa ma ex ie cB u z4.2 H4.size hu hn hi4.1 (by omega)) (cu_of (n := 1) hts tbin q4_171 q4_172 q4_67 q4_174 q1_15 q4_71 rfl (by decide +kernel) ⟨rfl, rfl⟩ ⟨Nat.le_of_ble_eq_true rfl, Nat.le_of_ble_eq_true rfl⟩) rfl ⟨Nat.le_of_ble_eq_true rfl, Nat.le_of_ble_eq_true rfl⟩ hN (hT0.keep hS hAs) hAs (Nat.le_trans hB0 hS.1) hK hP hD [1, 2] (by decide) rfl [0] rfl 1 4 rfl rfl rfl hl.1 rfl (Nat.le_of_ble_eq_true rfl) d_CertificateReader_readBasic_21) hS (fun q _ h => hFc q h) hFc (fun u21 tS H21 locs ht hvm hw21 hB hz1 hk1 hS => ?_)
    obtain ⟨x21, rfl⟩ : ∃ z, z = u21 := ⟨_, rfl⟩
    obtain ⟨hP1, hK1, hD1⟩ := hB
    rw [ht] at hP1
    obtain ⟨hP, hD⟩ := va_join (wr := [(res, .inr (3, [.ref k0, .ref k1, .ref k2, .ref k3, .ref k4, .ref k5, .ref k6, .ref k7, .int k8, .int k9, .int k10, .int k11, .int k12, .int k13, .int k14, .int k15, .int k16, .int k17, .int k18, .ref k19, .ref k20, .ref k21, .ref k22, .ref k23, .ref k24, .long k25, .long k26, .int k27]))]) (w1 := [(h, .inr (4, [.ref res, .ref t, .int (nI x21.1), .int (nI x21.2.1), .int (wI x21.2.2), .int pa, .int ma, .int ex, .ref ki])), (t, .inl (cB, n, .inl (tx u)))]) hP hD [1, 2] [0] rfl rfl (by decide) (by decide) hk1 hFc hP1 hD1
    have hP : va_P (dC, dI) classes [(res, .inr (3, [.ref k0, .ref k1, .ref k2, .ref k3, .ref k4, .ref k5, .ref k6, .ref k7, .int k8, .int k9, .int k10, .int k11, .int k12, .int k13, .int k14, .int k15, .int k16, .int k17, .int k18, .ref k19, .ref k20, .ref k21, .ref k22, .ref k23, .ref k24, .long k25, .long k26, .int k27])), (h, .inr (4, [.ref res, .ref t, .int (nI x21.1), .int (nI x21.2.1), .int (wI x21.2.2), .int pa, .int ma, .int ex, .ref ki])), (t, .inl (cB, n, .inl (tx u)))] H21 := hP
    have hD : va_D A [(res, .inr (3, [.ref k0, .ref k1, .ref k2, .ref k3, .ref k4, .ref k5, .ref k6, .ref k7, .int k8, .int k9, .int k10, .int k11, .int k12, .int k13, .int k14, .int k15, .int k16, .int k17, .int k18, .ref k19, .ref k20, .ref k21, .ref k22, .ref k23, .ref k24, .long k25, .long k26, .int k27])), (h, .inr (4, [.ref res, .ref t, .int (nI x21.1), .int (nI x21.2.1), .int (wI x21.2.2), .int pa, .int ma, .int ex, .ref ki])), (t, .inl (cB, n, .inl (tx u)))] := hD
    have hi21 := flag_inv (u := u) hi4.1 (show z4.2 ≤ n by omega)
    obtain ⟨z21, hz21⟩ : ∃ o, o = rd_flag u n z4.1 z4.2 := ⟨_, rfl⟩
    rw [← hz21] at hi21
    obtain rfl : z21 = x21 := hz21.trans hw21.symm
    have hb21 : z21.1 ≤ n := hi21.1
    have hP : va_P (dC, dI) classes [(res, .inr (3, [.ref k0, .ref k1, .ref k2, .ref k3, .ref k4, .ref k5, .ref k6, .ref k7, .int k8, .int k9, .int k10, .int k11, .int k12, .int k13, .int k14, .int k15, .int k16, .int k17, .int k18, .ref k19, .ref k20, .ref k21, .ref k22, .ref k23, .ref k24, .long k25, .long k26, .int k27])), (h, .inr (4, [.ref res, .ref t, .int (nI z21.1), .int (nI z21.2.1), .int (wI z21.2.2), .int pa, .int ma, .int ex, .ref ki])), (t, .inl (cB, n, .inl (tx u)))] H21 := hP
    have hD : va_D A [(res, .inr (3, [.ref k0, .ref k1, .ref k2, .ref k3, .ref k4, .ref k5, .ref k6, .ref k7, .int k8, .int k9, .int k10, .int k11, .int k12, .int k13, .int k14, .int k15, .int k16, .int k17, .int k18, .ref k19, .ref k20, .ref k21, .ref k22, .ref k23, .ref k24, .long k25, .long k26, .int k27])), (h, .inr (4, [.ref res, .ref t, .int (nI z21.1), .int (nI z21.2.1), .int (wI z21.2.2), .int pa, .int ma, .int ex, .ref ki])), (t, .inl (cB, n, .inl (tx u)))] := hD
    refine lv_aload_n hx hb d_CertificateReader_readBasic_24 rfl (lv_at hl 2 rfl) ?_
    refine va_get (v := .ref res) hx hb htb i_CertificateReader hown hK hP 1 rfl rfl 0 (by decide) (htb _ q3_55) (fun _ h9 => h9) rfl d_CertificateReader_readBasic_25 ?_
    refine lv_iload_n hx hb d_CertificateReader_readBasic_28 rfl (lv_at hl 0 rfl) ?_
    refine va_put (v := .int (zP (z4.1.2.2 = none ∧ z4.1.1 < z4.2 ∧ u z4.1.1 = 1))) (ty := .boolean) hx hb htb i_Certificate t_Certificate t_Certificate_ok n_Certificate hown hK hP hD hS 0 rfl rfl 11 (by decide) (htb _ q2_171) (fun _ h9 => h9) rfl (by decide +kernel) (zP_n _) (zP_fit _) (Nat.le_of_ble_eq_true rfl) d_CertificateReader_readBasic_29 (fun H29 locs hP hD hS => ?_)
    have hP : va_P (dC, dI) classes [(res, .inr (3, [.ref k0, .ref k1, .ref k2, .ref k3, .ref k4, .ref k5, .ref k6, .ref k7, .int k8, .int k9, .int k10, .int (zP (z4.1.2.2 = none ∧ z4.1.1 < z4.2 ∧ u z4.1.1 = 1)), .int k12, .int k13, .int k14, .int k15, .int k16, .int k17, .int k18, .ref k19, .ref k20, .ref k21, .ref k22, .ref k23, .ref k24, .long k25, .long k26, .int k27])), (h, .inr (4, [.ref res, .ref t, .int (nI z21.1), .int (nI z21.2.1), .int (wI z21.2.2), .int pa, .int ma, .int ex, .ref ki])), (t, .inl (cB, n, .inl (tx u)))] H29 := hP
    have hD : va_D A [(res, .inr (3, [.ref k0, .ref k1, .ref k2, .ref k3, .ref k4, .ref k5, .ref k6, .ref k7, .int k8, .int k9, .int k10, .int (zP (z4.1.2.2 = none ∧ z4.1.1 < z4.2 ∧ u z4.1.1 = 1)), .int k12, .int k13, .int k14, .int k15, .int k16, .int k17, .int k18, .ref k19, .ref k20, .ref k21, .ref k22, .ref k23, .ref k24, .long k25, .long k26, .int k27])), (h, .inr (4, [.ref res, .ref t, .int (nI z21.1), .int (nI z21.2.1), .int (wI z21.2.2), .int pa, .int ma, .int ex, .ref ki])), (t, .inl (cB, n, .inl (tx u)))] := hD
    refine lv_aload_n hx hb d_CertificateReader_readBasic_32 rfl (lv_at hl 2 rfl) ?_
    refine lv_iconst (v := 2) hx hb d_CertificateReader_readBasic_33 (by decide) ?_
    refine lv_iload_n hx hb d_CertificateReader_readBasic_34 rfl (lv_at hl 1 rfl) ?_
    refine vp_callSi (pu_callU (As := [.int 2, .int (nI z4.2)]) (rest := []) ⟨hx, hb, hml, hown, hts⟩ (cC_nextIs l dC dI sb h res t ki z21.1 z21.2.1 n z21.2.2 pa ma ex ie cB u 2 z4.2 hu hn ((hi21).w hn) (by omega) (hi21).1 (by decide)) (cu_of (n := 2) hts tbin q4_52 q4_53 q3_207 q4_55 q1_15 q3_211 rfl (by decide +kernel) ⟨rfl, rfl⟩ ⟨Nat.le_of_ble_eq_true rfl, Nat.le_of_ble_eq_true rfl⟩) rfl ⟨Nat.le_of_ble_eq_true rfl, Nat.le_of_ble_eq_true rfl⟩ hN (hT0.keep hS hAs) hK hP [1, 2] rfl [0] rfl 1 4 rfl rfl rfl hl.1 rfl (Nat.le_of_ble_eq_true rfl) d_CertificateReader_readBasic_35) (fun r35 hr35 => ?_)
    obtain rfl := bz_zP hr35
    refine lv_if_eq (tgt := 91) hx hb d_CertificateReader_readBasic_38 (by decide) (fun c38 => ?_) (fun c38 => ?_)
    · have p38 : ¬ (z21.2.2 = none ∧ z21.1 < z4.2 ∧ u z21.1 = 2) := (zP_0.mp c38)
      refine lv_aload_n hx hb d_CertificateReader_readBasic_91 rfl (lv_at hl 2 rfl) ?_
      refine lv_iload_n hx hb d_CertificateReader_readBasic_92 rfl (lv_at hl 1 rfl) ?_
      have hFc := va_free (wc := [(h, .inr (4, [.ref res, .ref t, .int (nI z21.1), .int (nI z21.2.1), .int (wI z21.2.2), .int pa, .int ma, .int ex, .ref ki]))]) hD hS hA [1] rfl
      refine va_callv (mu_runU (As := [.int (nI z4.2)]) (rest := []) ⟨hx, hb, hml, hown, hts⟩ (cC_finish l dC dI sb h res t ki z21.1 z21.2.1 n z21.2.2 pa ma ex ie cB u z4.2 H29.size ((hi21).w hn) (by have := (hi21).1; omega) (by omega)) (cu_of (n := 1) hts tbin q3_159 q3_160 q3_163 q3_162 q1_15 q3_164 rfl (by decide +kernel) ⟨rfl, rfl⟩ ⟨Nat.le_of_ble_eq_true rfl, Nat.le_of_ble_eq_true rfl⟩) rfl ⟨Nat.le_of_ble_eq_true rfl, Nat.le_of_ble_eq_true rfl⟩ hN (hT0.keep hS hAs) hAs (Nat.le_trans hB0 hS.1) hK hP hD [1] (by decide) rfl [] rfl 1 4 rfl rfl rfl hl.1 rfl (Nat.le_of_ble_eq_true rfl) d_CertificateReader_readBasic_93) hS (fun q _ h => hFc q h) hFc (fun u93 tS H93 locs ht hvm hw93 hB hz1 hk1 hS => ?_)
      obtain ⟨z93, rfl⟩ : ∃ z, z = u93 := ⟨_, rfl⟩
      obtain ⟨hP1, hK1, hD1⟩ := hB
      rw [ht] at hP1
      obtain ⟨hP, hD⟩ := va_join (wr := [(res, .inr (3, [.ref k0, .ref k1, .ref k2, .ref k3, .ref k4, .ref k5, .ref k6, .ref k7, .int k8, .int k9, .int k10, .int (zP (z4.1.2.2 = none ∧ z4.1.1 < z4.2 ∧ u z4.1.1 = 1)), .int k12, .int k13, .int k14, .int k15, .int k16, .int k17, .int k18, .ref k19, .ref k20, .ref k21, .ref k22, .ref k23, .ref k24, .long k25, .long k26, .int k27])), (t, .inl (cB, n, .inl (tx u)))]) (w1 := [(h, .inr (4, [.ref res, .ref t, .int (nI z93.1), .int (nI z93.2.1), .int (wI z93.2.2), .int pa, .int ma, .int ex, .ref ki]))]) hP hD [1] [0, 2] rfl rfl (by decide) (by decide) hk1 hFc hP1 hD1
      have hP : va_P (dC, dI) classes [(res, .inr (3, [.ref k0, .ref k1, .ref k2, .ref k3, .ref k4, .ref k5, .ref k6, .ref k7, .int k8, .int k9, .int k10, .int (zP (z4.1.2.2 = none ∧ z4.1.1 < z4.2 ∧ u z4.1.1 = 1)), .int k12, .int k13, .int k14, .int k15, .int k16, .int k17, .int k18, .ref k19, .ref k20, .ref k21, .ref k22, .ref k23, .ref k24, .long k25, .long k26, .int k27])), (t, .inl (cB, n, .inl (tx u))), (h, .inr (4, [.ref res, .ref t, .int (nI z93.1), .int (nI z93.2.1), .int (wI z93.2.2), .int pa, .int ma, .int ex, .ref ki]))] H93 := hP
      have hD : va_D A [(res, .inr (3, [.ref k0, .ref k1, .ref k2, .ref k3, .ref k4, .ref k5, .ref k6, .ref k7, .int k8, .int k9, .int k10, .int (zP (z4.1.2.2 = none ∧ z4.1.1 < z4.2 ∧ u z4.1.1 = 1)), .int k12, .int k13, .int k14, .int k15, .int k16, .int k17, .int k18, .ref k19, .ref k20, .ref k21, .ref k22, .ref k23, .ref k24, .long k25, .long k26, .int k27])), (t, .inl (cB, n, .inl (tx u))), (h, .inr (4, [.ref res, .ref t, .int (nI z93.1), .int (nI z93.2.1), .int (wI z93.2.2), .int pa, .int ma, .int ex, .ref ki]))] := hD
      have hz93 : z93 = rd_fin z21 z4.2 := hw93
      have hi93 : rdInv n z93 := by rw [hz93]; exact fin_inv hi21
      have hb93 : z93.1 ≤ n := hi93.1
      have e9 : rd_bas u n x en k12 = (z93, k12, zP (z4.1.2.2 = none ∧ z4.1.1 < z4.2 ∧ u z4.1.1 = 1)) := by
        subst hz93
        subst hz21
        subst hz4
        exact ((if_pos p16).trans ((if_neg p38).trans rfl))
      refine W.widen (k := 1) (n := 3) (Nat.le_of_ble_eq_true rfl) (Nat.le_of_ble_eq_true rfl) ?_
      exact W.vret hx hb hr (fun t ht hW => ⟨⟨(z93, k12, zP (z4.1.2.2 = none ∧ z4.1.1 < z4.2 ∧ u z4.1.1 = 1)), rfl, ⟨e9.symm, hi93⟩, by rw [ht]; exact hP.sub [2, 1, 0] rfl, va_K.moved hW.alike hK, hD.sub [2, 1, 0] (by decide) rfl⟩, hS.F ht⟩) hS.2.2 d_CertificateReader_readBasic_96
    · have p38 : z21.2.2 = none ∧ z21.1 < z4.2 ∧ u z21.1 = 2 := (zP_1 c38)
      refine lv_aload_n hx hb d_CertificateReader_readBasic_41 rfl (lv_at hl 2 rfl) ?_
      refine lv_iconst (v := 2) hx hb d_CertificateReader_readBasic_42 (by decide) ?_
      refine lv_iload_n hx hb d_CertificateReader_readBasic_43 rfl (lv_at hl 1 rfl) ?_
      have hFc := va_free (wc := [(h, .inr (4, [.ref res, .ref t, .int (nI z21.1), .int (nI z21.2.1), .int (wI z21.2.2), .int pa, .int ma, .int ex, .ref ki])), (t, .inl (cB, n, .inl (tx u)))]) hD hS hA [1, 2] rfl
      refine va_callr (mu_runU (As := [.int 2, .int (nI z4.2)]) (rest := []) ⟨hx, hb, hml, hown, hts⟩ (cC_number l dC dI sb h res t ki n z21 pa ma ex ie cB u 2 z4.2 H29.size hu hn hi21 (by omega) (by decide)) (cu_of (n := 2) hts tbin q3_124 q3_125 q3_128 q3_127 q1_15 q3_129 rfl (by decide +kernel) ⟨rfl, rfl⟩ ⟨Nat.le_of_ble_eq_true rfl, Nat.le_of_ble_eq_true rfl⟩) rfl ⟨Nat.le_of_ble_eq_true rfl, Nat.le_of_ble_eq_true rfl⟩ hN (hT0.keep hS hAs) hAs (Nat.le_trans hB0 hS.1) hK hP hD [1, 2] (by decide) rfl [0] rfl 1 4 rfl rfl rfl hl.1 rfl (Nat.le_of_ble_eq_true rfl) d_CertificateReader_readBasic_44) hS (fun q _ h => hFc q h) hFc (fun u44 q44 tS H44 locs ht hvm hw44 hB hz1 hk1 hS => ?_)
      obtain ⟨x44, rfl⟩ : ∃ z, z = u44 := ⟨_, rfl⟩
      obtain ⟨hP1, hK1, hD1⟩ := hB
      rw [ht] at hP1
      obtain ⟨hP, hD⟩ := va_join (wr := [(res, .inr (3, [.ref k0, .ref k1, .ref k2, .ref k3, .ref k4, .ref k5, .ref k6, .ref k7, .int k8, .int k9, .int k10, .int (zP (z4.1.2.2 = none ∧ z4.1.1 < z4.2 ∧ u z4.1.1 = 1)), .int k12, .int k13, .int k14, .int k15, .int k16, .int k17, .int k18, .ref k19, .ref k20, .ref k21, .ref k22, .ref k23, .ref k24, .long k25, .long k26, .int k27]))]) (w1 := [(h, .inr (4, [.ref res, .ref t, .int (nI x44.1), .int (nI x44.2.1), .int (wI x44.2.2), .int pa, .int ma, .int ex, .ref ki])), (t, .inl (cB, n, .inl (tx u))), (q44, .inr (0, [.ref t, .int (nI ((rd_nm u n z21 2 z4.2).2.1)), .int (nI ((rd_nm u n z21 2 z4.2).2.2))]))]) hP hD [1, 2] [0] rfl rfl (by decide) (by decide) hk1 hFc hP1 hD1
      have hP : va_P (dC, dI) classes [(res, .inr (3, [.ref k0, .ref k1, .ref k2, .ref k3, .ref k4, .ref k5, .ref k6, .ref k7, .int k8, .int k9, .int k10, .int (zP (z4.1.2.2 = none ∧ z4.1.1 < z4.2 ∧ u z4.1.1 = 1)), .int k12, .int k13, .int k14, .int k15, .int k16, .int k17, .int k18, .ref k19, .ref k20, .ref k21, .ref k22, .ref k23, .ref k24, .long k25, .long k26, .int k27])), (h, .inr (4, [.ref res, .ref t, .int (nI x44.1), .int (nI x44.2.1), .int (wI x44.2.2), .int pa, .int ma, .int ex, .ref ki])), (t, .inl (cB, n, .inl (tx u))), (q44, .inr (0, [.ref t, .int (nI ((rd_nm u n z21 2 z4.2).2.1)), .int (nI ((rd_nm u n z21 2 z4.2).2.2))]))] H44 := hP
      have hD : va_D A [(res, .inr (3, [.ref k0, .ref k1, .ref k2, .ref k3, .ref k4, .ref k5, .ref k6, .ref k7, .int k8, .int k9, .int k10, .int (zP (z4.1.2.2 = none ∧ z4.1.1 < z4.2 ∧ u z4.1.1 = 1)), .int k12, .int k13, .int k14, .int k15, .int k16, .int k17, .int k18, .ref k19, .ref k20, .ref k21, .ref k22, .ref k23, .ref k24, .long k25, .long k26, .int k27])), (h, .inr (4, [.ref res, .ref t, .int (nI x44.1), .int (nI x44.2.1), .int (wI x44.2.2), .int pa, .int ma, .int ex, .ref ki])), (t, .inl (cB, n, .inl (tx u))), (q44, .inr (0, [.ref t, .int (nI ((rd_nm u n z21 2 z4.2).2.1)), .int (nI ((rd_nm u n z21 2 z4.2).2.2))]))] := hD
      have hi44 := nm_inv (u := u) (tg := 2) hi21 (show z4.2 ≤ n by omega)
      obtain ⟨z44, hz44⟩ : ∃ o, o = rd_nm u n z21 2 z4.2 := ⟨_, rfl⟩
      rw [← hz44] at hw44 hi44 hP hD
      subst hw44
      have hb44 : z44.1.1 ≤ n := hi44.1.1
      have hc44 := hi44.2.1
      have hd44 := hi44.2.2
      have hP : va_P (dC, dI) classes [(res, .inr (3, [.ref k0, .ref k1, .ref k2, .ref k3, .ref k4, .ref k5, .ref k6, .ref k7, .int k8, .int k9, .int k10, .int (zP (z4.1.2.2 = none ∧ z4.1.1 < z4.2 ∧ u z4.1.1 = 1)), .int k12, .int k13, .int k14, .int k15, .int k16, .int k17, .int k18, .ref k19, .ref k20, .ref k21, .ref k22, .ref k23, .ref k24, .long k25, .long k26, .int k27])), (h, .inr (4, [.ref res, .ref t, .int (nI z44.1.1), .int (nI z44.1.2.1), .int (wI z44.1.2.2), .int pa, .int ma, .int ex, .ref ki])), (t, .inl (cB, n, .inl (tx u))), (q44, .inr (0, [.ref t, .int (nI z44.2.1), .int (nI z44.2.2)]))] H44 := hP
      have hD : va_D A [(res, .inr (3, [.ref k0, .ref k1, .ref k2, .ref k3, .ref k4, .ref k5, .ref k6, .ref k7, .int k8, .int k9, .int k10, .int (zP (z4.1.2.2 = none ∧ z4.1.1 < z4.2 ∧ u z4.1.1 = 1)), .int k12, .int k13, .int k14, .int k15, .int k16, .int k17, .int k18, .ref k19, .ref k20, .ref k21, .ref k22, .ref k23, .ref k24, .long k25, .long k26, .int k27])), (h, .inr (4, [.ref res, .ref t, .int (nI z44.1.1), .int (nI z44.1.2.1), .int (wI z44.1.2.2), .int pa, .int ma, .int ex, .ref ki])), (t, .inl (cB, n, .inl (tx u))), (q44, .inr (0, [.ref t, .int (nI z44.2.1), .int (nI z44.2.2)]))] := hD
      refine vp_callSl (pu_callV (As := []) (rest := []) ⟨hx, hb, hml, hown, hts⟩ tbin (c_Slice_number l dC dI sb q44 t z44.2.1 z44.2.2 n cB u hu (by omega) (by omega) (by omega)) q3_139 q3_140 q3_141 q1_22 q3_142 (n := 0) (by decide +kernel) rfl ⟨rfl, rfl⟩ ⟨Nat.le_of_ble_eq_true rfl, Nat.le_of_ble_eq_true rfl⟩ ⟨Nat.le_of_ble_eq_true rfl, Nat.le_of_ble_eq_true rfl⟩ hN (hT0.keep hS hAs) hK hP [3, 2] rfl [0] rfl 3 0 rfl rfl rfl hl.1 rfl (Nat.le_of_ble_eq_true rfl) d_CertificateReader_readBasic_47) (fun r47 hr47 => ?_)
      subst hr47
      refine lv_lstore (lv' := [(4, .long (sl_num u z44.2.1 z44.2.2)), (3, .int (zP (z4.1.2.2 = none ∧ z4.1.1 < z4.2 ∧ u z4.1.1 = 1))), (2, .int (nI z4.2)), (0, .ref h), (1, .int (nI en))]) hx hb d_CertificateReader_readBasic_50 hl (by decide) rfl (fun ls hl => ?_)
      refine lv_aload_n hx hb d_CertificateReader_readBasic_52 rfl (lv_at hl 3 rfl) ?_
      refine lv_iload_n hx hb d_CertificateReader_readBasic_53 rfl (lv_at hl 1 rfl) ?_
      refine w_join (J := fun v9 => v9 = zP ((z4.1.2.2 = none ∧ z4.1.1 < z4.2 ∧ u z4.1.1 = 1) ∧ (¬ ((lg_cmp (sl_num u z44.2.1 z44.2.2) 0) < (0 : Int32)) ∧ (¬ ((0 : Int32) < (lg_cmp (sl_num u z44.2.1 z44.2.2) 255)))))) (pc := 78) (ls := ls) (rest := [.ref h]) (fun v9 hv9 => ?_) (fun k78 => ?_)
      · subst hv9
        have hFc := va_free (wc := [(h, .inr (4, [.ref res, .ref t, .int (nI z44.1.1), .int (nI z44.1.2.1), .int (wI z44.1.2.2), .int pa, .int ma, .int ex, .ref ki]))]) hD hS hA [1] rfl
        refine va_callv (mu_runU (As := [.int (zP ((z4.1.2.2 = none ∧ z4.1.1 < z4.2 ∧ u z4.1.1 = 1) ∧ (¬ ((lg_cmp (sl_num u z44.2.1 z44.2.2) 0) < (0 : Int32)) ∧ (¬ ((0 : Int32) < (lg_cmp (sl_num u z44.2.1 z44.2.2) 255))))))]) (rest := []) ⟨hx, hb, hml, hown, hts⟩ (cC_require l dC dI sb h res t ki z44.1.1 z44.1.2.1 n z44.1.2.2 pa ma ex ie cB u (zP ((z4.1.2.2 = none ∧ z4.1.1 < z4.2 ∧ u z4.1.1 = 1) ∧ (¬ ((lg_cmp (sl_num u z44.2.1 z44.2.2) 0) < (0 : Int32)) ∧ (¬ ((0 : Int32) < (lg_cmp (sl_num u z44.2.1 z44.2.2) 255)))))) H44.size ((hi44.1).w hn)) (cu_of (n := 1) hts tbin q3_153 q3_154 q3_157 q3_156 q1_15 q3_158 rfl (by decide +kernel) ⟨rfl, rfl⟩ ⟨Nat.le_of_ble_eq_true rfl, Nat.le_of_ble_eq_true rfl⟩) rfl ⟨Nat.le_of_ble_eq_true rfl, Nat.le_of_ble_eq_true rfl⟩ hN (hT0.keep hS hAs) hAs (Nat.le_trans hB0 hS.1) hK hP hD [1] (by decide) rfl [] rfl 1 4 rfl rfl rfl hl.1 rfl (Nat.le_of_ble_eq_true rfl) d_CertificateReader_readBasic_78) hS (fun q _ h => hFc q h) hFc (fun u78 tS H78 locs ht hvm hw78 hB hz1 hk1 hS => ?_)
        obtain ⟨z78, rfl⟩ : ∃ z, z = u78 := ⟨_, rfl⟩
        obtain ⟨hP1, hK1, hD1⟩ := hB
        rw [ht] at hP1
        obtain ⟨hP, hD⟩ := va_join (wr := [(res, .inr (3, [.ref k0, .ref k1, .ref k2, .ref k3, .ref k4, .ref k5, .ref k6, .ref k7, .int k8, .int k9, .int k10, .int (zP (z4.1.2.2 = none ∧ z4.1.1 < z4.2 ∧ u z4.1.1 = 1)), .int k12, .int k13, .int k14, .int k15, .int k16, .int k17, .int k18, .ref k19, .ref k20, .ref k21, .ref k22, .ref k23, .ref k24, .long k25, .long k26, .int k27])), (t, .inl (cB, n, .inl (tx u))), (q44, .inr (0, [.ref t, .int (nI z44.2.1), .int (nI z44.2.2)]))]) (w1 := [(h, .inr (4, [.ref res, .ref t, .int (nI z78.1), .int (nI z78.2.1), .int (wI z78.2.2), .int pa, .int ma, .int ex, .ref ki]))]) hP hD [1] [0, 2, 3] rfl rfl (by decide) (by decide) hk1 hFc hP1 hD1
        have hP : va_P (dC, dI) classes [(res, .inr (3, [.ref k0, .ref k1, .ref k2, .ref k3, .ref k4, .ref k5, .ref k6, .ref k7, .int k8, .int k9, .int k10, .int (zP (z4.1.2.2 = none ∧ z4.1.1 < z4.2 ∧ u z4.1.1 = 1)), .int k12, .int k13, .int k14, .int k15, .int k16, .int k17, .int k18, .ref k19, .ref k20, .ref k21, .ref k22, .ref k23, .ref k24, .long k25, .long k26, .int k27])), (t, .inl (cB, n, .inl (tx u))), (q44, .inr (0, [.ref t, .int (nI z44.2.1), .int (nI z44.2.2)])), (h, .inr (4, [.ref res, .ref t, .int (nI z78.1), .int (nI z78.2.1), .int (wI z78.2.2), .int pa, .int ma, .int ex, .ref ki]))] H78 := hP
        have hD : va_D A [(res, .inr (3, [.ref k0, .ref k1, .ref k2, .ref k3, .ref k4, .ref k5, .ref k6, .ref k7, .int k8, .int k9, .int k10, .int (zP (z4.1.2.2 = none ∧ z4.1.1 < z4.2 ∧ u z4.1.1 = 1)), .int k12, .int k13, .int k14, .int k15, .int k16, .int k17, .int k18, .ref k19, .ref k20, .ref k21, .ref k22, .ref k23, .ref k24, .long k25, .long k26, .int k27])), (t, .inl (cB, n, .inl (tx u))), (q44, .inr (0, [.ref t, .int (nI z44.2.1), .int (nI z44.2.2)])), (h, .inr (4, [.ref res, .ref t, .int (nI z78.1), .int (nI z78.2.1), .int (wI z78.2.2), .int pa, .int ma, .int ex, .ref ki]))] := hD
        have hz78 : z78 = rd_req z44.1 (zP ((z4.1.2.2 = none ∧ z4.1.1 < z4.2 ∧ u z4.1.1 = 1) ∧ (¬ ((lg_cmp (sl_num u z44.2.1 z44.2.2) 0) < (0 : Int32)) ∧ (¬ ((0 : Int32) < (lg_cmp (sl_num u z44.2.1 z44.2.2) 255)))))) := hw78
        have hi78 : rdInv n z78 := by rw [hz78]; exact req_inv hi44.1
        have hb78 : z78.1 ≤ n := hi78.1
        refine lv_aload_n hx hb d_CertificateReader_readBasic_81 rfl (lv_at hl 3 rfl) ?_
        refine va_get (v := .ref res) hx hb htb i_CertificateReader hown hK hP 3 rfl rfl 0 (by decide) (htb _ q3_55) (fun _ h9 => h9) rfl d_CertificateReader_readBasic_82 ?_
        refine lv_lload hx hb d_CertificateReader_readBasic_85 (lv_at hl 0 rfl) ?_
        refine lv_l2i (v := (sl_num u z44.2.1 z44.2.2).toInt32) hx hb d_CertificateReader_readBasic_87 rfl ?_
        refine va_put (v := .int ((sl_num u z44.2.1 z44.2.2).toInt32)) (ty := .int) hx hb htb i_Certificate t_Certificate t_Certificate_ok n_Certificate hown hK hP hD hS 0 rfl rfl 12 (by decide) (htb _ q2_173) (fun _ h9 => h9) rfl (by decide +kernel) rfl rfl (Nat.le_of_ble_eq_true rfl) d_CertificateReader_readBasic_88 (fun H88 locs hP hD hS => ?_)
        have hP : va_P (dC, dI) classes [(res, .inr (3, [.ref k0, .ref k1, .ref k2, .ref k3, .ref k4, .ref k5, .ref k6, .ref k7, .int k8, .int k9, .int k10, .int (zP (z4.1.2.2 = none ∧ z4.1.1 < z4.2 ∧ u z4.1.1 = 1)), .int ((sl_num u z44.2.1 z44.2.2).toInt32), .int k13, .int k14, .int k15, .int k16, .int k17, .int k18, .ref k19, .ref k20, .ref k21, .ref k22, .ref k23, .ref k24, .long k25, .long k26, .int k27])), (t, .inl (cB, n, .inl (tx u))), (q44, .inr (0, [.ref t, .int (nI z44.2.1), .int (nI z44.2.2)])), (h, .inr (4, [.ref res, .ref t, .int (nI z78.1), .int (nI z78.2.1), .int (wI z78.2.2), .int pa, .int ma, .int ex, .ref ki]))] H88 := hP
        have hD : va_D A [(res, .inr (3, [.ref k0, .ref k1, .ref k2, .ref k3, .ref k4, .ref k5, .ref k6, .ref k7, .int k8, .int k9, .int k10, .int (zP (z4.1.2.2 = none ∧ z4.1.1 < z4.2 ∧ u z4.1.1 = 1)), .int ((sl_num u z44.2.1 z44.2.2).toInt32), .int k13, .int k14, .int k15, .int k16, .int k17, .int k18, .ref k19, .ref k20, .ref k21, .ref k22, .ref k23, .ref k24, .long k25, .long k26, .int k27])), (t, .inl (cB, n, .inl (tx u))), (q44, .inr (0, [.ref t, .int (nI z44.2.1), .int (nI z44.2.2)])), (h, .inr (4, [.ref res, .ref t, .int (nI z78.1), .int (nI z78.2.1), .int (wI z78.2.2), .int pa, .int ma, .int ex, .ref ki]))] := hD
        refine lv_aload_n hx hb d_CertificateReader_readBasic_91 rfl (lv_at hl 3 rfl) ?_
        refine lv_iload_n hx hb d_CertificateReader_readBasic_92 rfl (lv_at hl 2 rfl) ?_
        have hFc := va_free (wc := [(h, .inr (4, [.ref res, .ref t, .int (nI z78.1), .int (nI z78.2.1), .int (wI z78.2.2), .int pa, .int ma, .int ex, .ref ki]))]) hD hS hA [3] rfl
        refine va_callv (mu_runU (As := [.int (nI z4.2)]) (rest := []) ⟨hx, hb, hml, hown, hts⟩ (cC_finish l dC dI sb h res t ki z78.1 z78.2.1 n z78.2.2 pa ma ex ie cB u z4.2 H88.size ((hi78).w hn) (by have := (hi78).1; omega) (by omega)) (cu_of (n := 1) hts tbin q3_159 q3_160 q3_163 q3_162 q1_15 q3_164 rfl (by decide +kernel) ⟨rfl, rfl⟩ ⟨Nat.le_of_ble_eq_true rfl, Nat.le_of_ble_eq_true rfl⟩) rfl ⟨Nat.le_of_ble_eq_true rfl, Nat.le_of_ble_eq_true rfl⟩ hN (hT0.keep hS hAs) hAs (Nat.le_trans hB0 hS.1) hK hP hD [3] (by decide) rfl [] rfl 3 4 rfl rfl rfl hl.1 rfl (Nat.le_of_ble_eq_true rfl) d_CertificateReader_readBasic_93) hS (fun q _ h => hFc q h) hFc (fun u93 tS H93 locs ht hvm hw93 hB hz1 hk1 hS => ?_)
        obtain ⟨z93, rfl⟩ : ∃ z, z = u93 := ⟨_, rfl⟩
        obtain ⟨hP1, hK1, hD1⟩ := hB
        rw [ht] at hP1
        obtain ⟨hP, hD⟩ := va_join (wr := [(res, .inr (3, [.ref k0, .ref k1, .ref k2, .ref k3, .ref k4, .ref k5, .ref k6, .ref k7, .int k8, .int k9, .int k10, .int (zP (z4.1.2.2 = none ∧ z4.1.1 < z4.2 ∧ u z4.1.1 = 1)), .int ((sl_num u z44.2.1 z44.2.2).toInt32), .int k13, .int k14, .int k15, .int k16, .int k17, .int k18, .ref k19, .ref k20, .ref k21, .ref k22, .ref k23, .ref k24, .long k25, .long k26, .int k27])), (t, .inl (cB, n, .inl (tx u))), (q44, .inr (0, [.ref t, .int (nI z44.2.1), .int (nI z44.2.2)]))]) (w1 := [(h, .inr (4, [.ref res, .ref t, .int (nI z93.1), .int (nI z93.2.1), .int (wI z93.2.2), .int pa, .int ma, .int ex, .ref ki]))]) hP hD [3] [0, 1, 2] rfl rfl (by decide) (by decide) hk1 hFc hP1 hD1
        have hP : va_P (dC, dI) classes [(res, .inr (3, [.ref k0, .ref k1, .ref k2, .ref k3, .ref k4, .ref k5, .ref k6, .ref k7, .int k8, .int k9, .int k10, .int (zP (z4.1.2.2 = none ∧ z4.1.1 < z4.2 ∧ u z4.1.1 = 1)), .int ((sl_num u z44.2.1 z44.2.2).toInt32), .int k13, .int k14, .int k15, .int k16, .int k17, .int k18, .ref k19, .ref k20, .ref k21, .ref k22, .ref k23, .ref k24, .long k25, .long k26, .int k27])), (t, .inl (cB, n, .inl (tx u))), (q44, .inr (0, [.ref t, .int (nI z44.2.1), .int (nI z44.2.2)])), (h, .inr (4, [.ref res, .ref t, .int (nI z93.1), .int (nI z93.2.1), .int (wI z93.2.2), .int pa, .int ma, .int ex, .ref ki]))] H93 := hP
        have hD : va_D A [(res, .inr (3, [.ref k0, .ref k1, .ref k2, .ref k3, .ref k4, .ref k5, .ref k6, .ref k7, .int k8, .int k9, .int k10, .int (zP (z4.1.2.2 = none ∧ z4.1.1 < z4.2 ∧ u z4.1.1 = 1)), .int ((sl_num u z44.2.1 z44.2.2).toInt32), .int k13, .int k14, .int k15, .int k16, .int k17, .int k18, .ref k19, .ref k20, .ref k21, .ref k22, .ref k23, .ref k24, .long k25, .long k26, .int k27])), (t, .inl (cB, n, .inl (tx u))), (q44, .inr (0, [.ref t, .int (nI z44.2.1), .int (nI z44.2.2)])), (h, .inr (4, [.ref res, .ref t, .int (nI z93.1), .int (nI z93.2.1), .int (wI z93.2.2), .int pa, .int ma, .int ex, .ref ki]))] := hD
        have hz93 : z93 = rd_fin z78 z4.2 := hw93
        have hi93 : rdInv n z93 := by rw [hz93]; exact fin_inv hi78
        have hb93 : z93.1 ≤ n := hi93.1
        have e9 : rd_bas u n x en k12 = (z93, (sl_num u z44.2.1 z44.2.2).toInt32, zP (z4.1.2.2 = none ∧ z4.1.1 < z4.2 ∧ u z4.1.1 = 1)) := by
          subst hz93
          subst hz78
          subst hz44
          subst hz21
          subst hz4
          exact ((if_pos p16).trans ((if_pos p38).trans rfl))
        refine W.widen (k := 1) (n := 3) (Nat.le_of_ble_eq_true rfl) (Nat.le_of_ble_eq_true rfl) ?_
        exact W.vret hx hb hr (fun t ht hW => ⟨⟨(z93, (sl_num u z44.2.1 z44.2.2).toInt32, zP (z4.1.2.2 = none ∧ z4.1.1 < z4.2 ∧ u z4.1.1 = 1)), rfl, ⟨e9.symm, hi93⟩, by rw [ht]; exact hP.sub [3, 1, 0] rfl, va_K.moved hW.alike hK, hD.sub [3, 1, 0] (by decide) rfl⟩, hS.F ht⟩) hS.2.2 d_CertificateReader_readBasic_96
      · skip
        refine lv_if_eq (tgt := 77) hx hb d_CertificateReader_readBasic_54 (by decide) (fun c54 => ?_) (fun c54 => ?_)
        · have p54 : ¬ (z4.1.2.2 = none ∧ z4.1.1 < z4.2 ∧ u z4.1.1 = 1) := (zP_0.mp c54)
          refine lv_iconst (v := 0) hx hb d_CertificateReader_readBasic_77 (by decide) ?_
          exact k78 _ (zP_f (fun z => p54 z.1))
        · have p54 : z4.1.2.2 = none ∧ z4.1.1 < z4.2 ∧ u z4.1.1 = 1 := (zP_1 c54)
          refine lv_lload hx hb d_CertificateReader_readBasic_57 (lv_at hl 0 rfl) ?_
          refine lv_lconst (v := 0) hx hb d_CertificateReader_readBasic_59 (by decide) ?_
          refine W.lcmp hx hb d_CertificateReader_readBasic_60 ?_
          refine lv_if_lt (tgt := 77) hx hb d_CertificateReader_readBasic_61 (by decide) (fun c61 => ?_) (fun c61 => ?_)
          · have p61 : (lg_cmp (sl_num u z44.2.1 z44.2.2) 0) < (0 : Int32) := c61
            refine lv_iconst (v := 0) hx hb d_CertificateReader_readBasic_77 (by decide) ?_
            exact k78 _ (zP_f (fun z => (fun z => z.1 p61) z.2))
          · have p61 : ¬ ((lg_cmp (sl_num u z44.2.1 z44.2.2) 0) < (0 : Int32)) := c61
            refine lv_lload hx hb d_CertificateReader_readBasic_64 (lv_at hl 0 rfl) ?_
            refine lv_ldc2 (v := 255) hx hb hown (htb _ q4_175) d_CertificateReader_readBasic_66 ?_
            refine W.lcmp hx hb d_CertificateReader_readBasic_69 ?_
            refine lv_if_gt (tgt := 77) hx hb d_CertificateReader_readBasic_70 (by decide) (fun c70 => ?_) (fun c70 => ?_)
            · have p70 : (0 : Int32) < (lg_cmp (sl_num u z44.2.1 z44.2.2) 255) := c70
              refine lv_iconst (v := 0) hx hb d_CertificateReader_readBasic_77 (by decide) ?_
              exact k78 _ (zP_f (fun z => (fun z => (fun z => z p70) z.2) z.2))
            · have p70 : ¬ ((0 : Int32) < (lg_cmp (sl_num u z44.2.1 z44.2.2) 255)) := c70
              refine lv_iconst (v := 1) hx hb d_CertificateReader_readBasic_73 (by decide) ?_
              refine lv_goto (tgt := 78) hx hb d_CertificateReader_readBasic_74 (by decide) ?_
              exact k78 _ (zP_t ⟨p54, ⟨p61, p70⟩⟩)
def y_CertificateReader_readUsage : MethodName := ⟨"TrustChain$CertificateReader", "readUsage", "(I)V"⟩
abbrev b_CertificateReader_readUsage : ByteArray := prog_3_method_8_code
def w_CertificateReader_readUsage : List Cond := Cond.code y_CertificateReader_readUsage b_CertificateReader_readUsage 10 (none) :: tb
theorem d_CertificateReader_readUsage_0 : decode b_CertificateReader_readUsage 0 = .ok (.aload_n 0, 1) := by decide +kernel
theorem d_CertificateReader_readUsage_1 : decode b_CertificateReader_readUsage 1 = .ok (.iconst 3, 1) := by decide +kernel
theorem d_CertificateReader_readUsage_2 : decode b_CertificateReader_readUsage 2 = .ok (.iload_n 1, 1) := by decide +kernel
theorem d_CertificateReader_readUsage_3 : decode b_CertificateReader_readUsage 3 = .ok (.invokevirtual 29, 3) := by decide +kernel
theorem d_CertificateReader_readUsage_6 : decode b_CertificateReader_readUsage 6 = .ok (.istore_n 2, 1) := by decide +kernel
theorem d_CertificateReader_readUsage_7 : decode b_CertificateReader_readUsage 7 = .ok (.iload_n 2, 1) := by decide +kernel
theorem d_CertificateReader_readUsage_8 : decode b_CertificateReader_readUsage 8 = .ok (.aload_n 0, 1) := by decide +kernel
theorem d_CertificateReader_readUsage_9 : decode b_CertificateReader_readUsage 9 = .ok (.getfield 33, 3) := by decide +kernel
theorem d_CertificateReader_readUsage_12 : decode b_CertificateReader_readUsage 12 = .ok (.isub, 1) := by decide +kernel
theorem d_CertificateReader_readUsage_13 : decode b_CertificateReader_readUsage 13 = .ok (.iconst 1, 1) := by decide +kernel
theorem d_CertificateReader_readUsage_14 : decode b_CertificateReader_readUsage 14 = .ok (.isub, 1) := by decide +kernel
theorem d_CertificateReader_readUsage_15 : decode b_CertificateReader_readUsage 15 = .ok (.istore_n 3, 1) := by decide +kernel
theorem d_CertificateReader_readUsage_16 : decode b_CertificateReader_readUsage 16 = .ok (.aload_n 0, 1) := by decide +kernel
theorem d_CertificateReader_readUsage_17 : decode b_CertificateReader_readUsage 17 = .ok (.aload_n 0, 1) := by decide +kernel
theorem d_CertificateReader_readUsage_18 : decode b_CertificateReader_readUsage 18 = .ok (.getfield 33, 3) := by decide +kernel
theorem d_CertificateReader_readUsage_21 : decode b_CertificateReader_readUsage 21 = .ok (.invokevirtual 210, 3) := by decide +kernel
theorem d_CertificateReader_readUsage_24 : decode b_CertificateReader_readUsage 24 = .ok (.istore 4, 2) := by decide +kernel
theorem d_CertificateReader_readUsage_26 : decode b_CertificateReader_readUsage 26 = .ok (.aload_n 0, 1) := by decide +kernel
theorem d_CertificateReader_readUsage_27 : decode b_CertificateReader_readUsage 27 = .ok (.iload_n 2, 1) := by decide +kernel
theorem d_CertificateReader_readUsage_28 : decode b_CertificateReader_readUsage 28 = .ok (.iconst 1, 1) := by decide +kernel
theorem d_CertificateReader_readUsage_29 : decode b_CertificateReader_readUsage 29 = .ok (.isub, 1) := by decide +kernel
theorem d_CertificateReader_readUsage_30 : decode b_CertificateReader_readUsage 30 = .ok (.invokevirtual 210, 3) := by decide +kernel
theorem d_CertificateReader_readUsage_33 : decode b_CertificateReader_readUsage 33 = .ok (.istore 5, 2) := by decide +kernel
theorem d_CertificateReader_readUsage_35 : decode b_CertificateReader_readUsage 35 = .ok (.iload_n 3, 1) := by decide +kernel
theorem d_CertificateReader_readUsage_36 : decode b_CertificateReader_readUsage 36 = .ok (.iconst 1, 1) := by decide +kernel
theorem d_CertificateReader_readUsage_37 : decode b_CertificateReader_readUsage 37 = .ok (.if_icmp .eq 8, 3) := by decide +kernel
theorem d_CertificateReader_readUsage_40 : decode b_CertificateReader_readUsage 40 = .ok (.iload_n 3, 1) := by decide +kernel
theorem d_CertificateReader_readUsage_41 : decode b_CertificateReader_readUsage 41 = .ok (.iconst 2, 1) := by decide +kernel
theorem d_CertificateReader_readUsage_42 : decode b_CertificateReader_readUsage 42 = .ok (.if_icmp .ne 19, 3) := by decide +kernel
theorem d_CertificateReader_readUsage_45 : decode b_CertificateReader_readUsage 45 = .ok (.iload 4, 2) := by decide +kernel
theorem d_CertificateReader_readUsage_47 : decode b_CertificateReader_readUsage 47 = .ok (.ifCond .lt 14, 3) := by decide +kernel
theorem d_CertificateReader_readUsage_50 : decode b_CertificateReader_readUsage 50 = .ok (.iload 4, 2) := by decide +kernel
theorem d_CertificateReader_readUsage_52 : decode b_CertificateReader_readUsage 52 = .ok (.bipush 7, 2) := by decide +kernel
theorem d_CertificateReader_readUsage_54 : decode b_CertificateReader_readUsage 54 = .ok (.if_icmp .gt 7, 3) := by decide +kernel
theorem d_CertificateReader_readUsage_57 : decode b_CertificateReader_readUsage 57 = .ok (.iconst 1, 1) := by decide +kernel
theorem d_CertificateReader_readUsage_58 : decode b_CertificateReader_readUsage 58 = .ok (.goto 4, 3) := by decide +kernel
theorem d_CertificateReader_readUsage_61 : decode b_CertificateReader_readUsage 61 = .ok (.iconst 0, 1) := by decide +kernel
theorem d_CertificateReader_readUsage_62 : decode b_CertificateReader_readUsage 62 = .ok (.istore 6, 2) := by decide +kernel
theorem d_CertificateReader_readUsage_64 : decode b_CertificateReader_readUsage 64 = .ok (.aload_n 0, 1) := by decide +kernel
theorem d_CertificateReader_readUsage_65 : decode b_CertificateReader_readUsage 65 = .ok (.iload_n 2, 1) := by decide +kernel
theorem d_CertificateReader_readUsage_66 : decode b_CertificateReader_readUsage 66 = .ok (.iload 6, 2) := by decide +kernel
theorem d_CertificateReader_readUsage_68 : decode b_CertificateReader_readUsage 68 = .ok (.ifCond .eq 23, 3) := by decide +kernel
theorem d_CertificateReader_readUsage_71 : decode b_CertificateReader_readUsage 71 = .ok (.iload 5, 2) := by decide +kernel
theorem d_CertificateReader_readUsage_73 : decode b_CertificateReader_readUsage 73 = .ok (.iconst 2, 1) := by decide +kernel
theorem d_CertificateReader_readUsage_74 : decode b_CertificateReader_readUsage 74 = .ok (.iload 4, 2) := by decide +kernel
theorem d_CertificateReader_readUsage_76 : decode b_CertificateReader_readUsage 76 = .ok (.ishl, 1) := by decide +kernel
theorem d_CertificateReader_readUsage_77 : decode b_CertificateReader_readUsage 77 = .ok (.iconst 1, 1) := by decide +kernel
theorem d_CertificateReader_readUsage_78 : decode b_CertificateReader_readUsage 78 = .ok (.isub, 1) := by decide +kernel
theorem d_CertificateReader_readUsage_79 : decode b_CertificateReader_readUsage 79 = .ok (.iand, 1) := by decide +kernel
theorem d_CertificateReader_readUsage_80 : decode b_CertificateReader_readUsage 80 = .ok (.iconst 1, 1) := by decide +kernel
theorem d_CertificateReader_readUsage_81 : decode b_CertificateReader_readUsage 81 = .ok (.iload 4, 2) := by decide +kernel
theorem d_CertificateReader_readUsage_83 : decode b_CertificateReader_readUsage 83 = .ok (.ishl, 1) := by decide +kernel
theorem d_CertificateReader_readUsage_84 : decode b_CertificateReader_readUsage 84 = .ok (.if_icmp .ne 7, 3) := by decide +kernel
theorem d_CertificateReader_readUsage_87 : decode b_CertificateReader_readUsage 87 = .ok (.iconst 1, 1) := by decide +kernel
theorem d_CertificateReader_readUsage_88 : decode b_CertificateReader_readUsage 88 = .ok (.goto 4, 3) := by decide +kernel
theorem d_CertificateReader_readUsage_91 : decode b_CertificateReader_readUsage 91 = .ok (.iconst 0, 1) := by decide +kernel
theorem d_CertificateReader_readUsage_92 : decode b_CertificateReader_readUsage 92 = .ok (.invokevirtual 213, 3) := by decide +kernel
theorem d_CertificateReader_readUsage_95 : decode b_CertificateReader_readUsage 95 = .ok (.iconst 0, 1) := by decide +kernel
theorem d_CertificateReader_readUsage_96 : decode b_CertificateReader_readUsage 96 = .ok (.istore 7, 2) := by decide +kernel
theorem d_CertificateReader_readUsage_98 : decode b_CertificateReader_readUsage 98 = .ok (.iconst 0, 1) := by decide +kernel
theorem d_CertificateReader_readUsage_99 : decode b_CertificateReader_readUsage 99 = .ok (.istore 8, 2) := by decide +kernel
theorem d_CertificateReader_readUsage_101 : decode b_CertificateReader_readUsage 101 = .ok (.iload 8, 2) := by decide +kernel
theorem d_CertificateReader_readUsage_103 : decode b_CertificateReader_readUsage 103 = .ok (.iload_n 3, 1) := by decide +kernel
theorem d_CertificateReader_readUsage_104 : decode b_CertificateReader_readUsage 104 = .ok (.bipush 8, 2) := by decide +kernel
theorem d_CertificateReader_readUsage_106 : decode b_CertificateReader_readUsage 106 = .ok (.imul, 1) := by decide +kernel
theorem d_CertificateReader_readUsage_107 : decode b_CertificateReader_readUsage 107 = .ok (.if_icmp .ge 52, 3) := by decide +kernel
theorem d_CertificateReader_readUsage_110 : decode b_CertificateReader_readUsage 110 = .ok (.iload 8, 2) := by decide +kernel
theorem d_CertificateReader_readUsage_112 : decode b_CertificateReader_readUsage 112 = .ok (.bipush 16, 2) := by decide +kernel
theorem d_CertificateReader_readUsage_114 : decode b_CertificateReader_readUsage 114 = .ok (.if_icmp .ge 45, 3) := by decide +kernel
theorem d_CertificateReader_readUsage_117 : decode b_CertificateReader_readUsage 117 = .ok (.aload_n 0, 1) := by decide +kernel
theorem d_CertificateReader_readUsage_118 : decode b_CertificateReader_readUsage 118 = .ok (.iload_n 2, 1) := by decide +kernel
theorem d_CertificateReader_readUsage_119 : decode b_CertificateReader_readUsage 119 = .ok (.iload_n 3, 1) := by decide +kernel
theorem d_CertificateReader_readUsage_120 : decode b_CertificateReader_readUsage 120 = .ok (.isub, 1) := by decide +kernel
theorem d_CertificateReader_readUsage_121 : decode b_CertificateReader_readUsage 121 = .ok (.iload 8, 2) := by decide +kernel
theorem d_CertificateReader_readUsage_123 : decode b_CertificateReader_readUsage 123 = .ok (.bipush 8, 2) := by decide +kernel
theorem d_CertificateReader_readUsage_125 : decode b_CertificateReader_readUsage 125 = .ok (.idiv, 1) := by decide +kernel
theorem d_CertificateReader_readUsage_126 : decode b_CertificateReader_readUsage 126 = .ok (.iadd, 1) := by decide +kernel
theorem d_CertificateReader_readUsage_127 : decode b_CertificateReader_readUsage 127 = .ok (.invokevirtual 210, 3) := by decide +kernel
theorem d_CertificateReader_readUsage_130 : decode b_CertificateReader_readUsage 130 = .ok (.istore 9, 2) := by decide +kernel
theorem d_CertificateReader_readUsage_132 : decode b_CertificateReader_readUsage 132 = .ok (.iload 7, 2) := by decide +kernel
theorem d_CertificateReader_readUsage_134 : decode b_CertificateReader_readUsage 134 = .ok (.iload 9, 2) := by decide +kernel
theorem d_CertificateReader_readUsage_136 : decode b_CertificateReader_readUsage 136 = .ok (.bipush 7, 2) := by decide +kernel
theorem d_CertificateReader_readUsage_138 : decode b_CertificateReader_readUsage 138 = .ok (.iload 8, 2) := by decide +kernel
theorem d_CertificateReader_readUsage_140 : decode b_CertificateReader_readUsage 140 = .ok (.bipush 8, 2) := by decide +kernel
theorem d_CertificateReader_readUsage_142 : decode b_CertificateReader_readUsage 142 = .ok (.irem, 1) := by decide +kernel
theorem d_CertificateReader_readUsage_143 : decode b_CertificateReader_readUsage 143 = .ok (.isub, 1) := by decide +kernel
theorem d_CertificateReader_readUsage_144 : decode b_CertificateReader_readUsage 144 = .ok (.ishr, 1) := by decide +kernel
theorem d_CertificateReader_readUsage_145 : decode b_CertificateReader_readUsage 145 = .ok (.iconst 1, 1) := by decide +kernel
theorem d_CertificateReader_readUsage_146 : decode b_CertificateReader_readUsage 146 = .ok (.iand, 1) := by decide +kernel
theorem d_CertificateReader_readUsage_147 : decode b_CertificateReader_readUsage 147 = .ok (.iload 8, 2) := by decide +kernel
theorem d_CertificateReader_readUsage_149 : decode b_CertificateReader_readUsage 149 = .ok (.ishl, 1) := by decide +kernel
theorem d_CertificateReader_readUsage_150 : decode b_CertificateReader_readUsage 150 = .ok (.ior, 1) := by decide +kernel
theorem d_CertificateReader_readUsage_151 : decode b_CertificateReader_readUsage 151 = .ok (.istore 7, 2) := by decide +kernel
theorem d_CertificateReader_readUsage_153 : decode b_CertificateReader_readUsage 153 = .ok (.iinc 8 1, 3) := by decide +kernel
theorem d_CertificateReader_readUsage_156 : decode b_CertificateReader_readUsage 156 = .ok (.goto (-55), 3) := by decide +kernel
theorem d_CertificateReader_readUsage_159 : decode b_CertificateReader_readUsage 159 = .ok (.aload_n 0, 1) := by decide +kernel
theorem d_CertificateReader_readUsage_160 : decode b_CertificateReader_readUsage 160 = .ok (.getfield 19, 3) := by decide +kernel
theorem d_CertificateReader_readUsage_163 : decode b_CertificateReader_readUsage 163 = .ok (.iload 7, 2) := by decide +kernel
theorem d_CertificateReader_readUsage_165 : decode b_CertificateReader_readUsage 165 = .ok (.putfield 217, 3) := by decide +kernel
theorem d_CertificateReader_readUsage_168 : decode b_CertificateReader_readUsage 168 = .ok (.return_, 1) := by decide +kernel
noncomputable def rd_use (u : Nat → Nat) (n : Nat) (x : rS) (en : Nat) : rS × Int32 :=
  (let z3 := rd_opn u n x 3 en; (let z92 := rd_lea z3.1 z3.2 (zP ((((((nI (z3.2 - z3.1.1)) - 1) = (1 : Int32)) ∧ (¬ ((oc u n z3.1.1) < (0 : Int32)) ∧ (¬ ((7 : Int32) < (oc u n z3.1.1))))) ∨ (¬ (((nI (z3.2 - z3.1.1)) - 1) = (1 : Int32)) ∧ ((((nI (z3.2 - z3.1.1)) - 1) = (2 : Int32)) ∧ (¬ ((oc u n z3.1.1) < (0 : Int32)) ∧ (¬ ((7 : Int32) < (oc u n z3.1.1))))))) ∧ (((sl_at u 0 n ((nI z3.2) - 1)) &&& (((2 : Int32) <<< ((oc u n z3.1.1) &&& 31)) - 1)) = ((1 : Int32) <<< ((oc u n z3.1.1) &&& 31))))); (z92, usG u n z3.2 ((nI (z3.2 - z3.1.1)) - 1) (usK (((nI (z3.2 - z3.1.1)) - 1) * 8)))))
set_option maxHeartbeats 4000000 in
set_option maxRecDepth 100000 in
theorem cC_readUsage (l : Launch) (dC : Nat → ClassId) (dI : Nat → Nat → Nat) (sb : sB) (h res t ki n : Nat) (x : rS) (pa ma ex ie : Int32) (cB : ClassId) (u : Nat → Nat) (en : Nat) (k0 k1 k2 k3 k4 k5 k6 k7 k19 k20 k21 k22 k23 k24 : Nat) (k8 k9 k10 k11 k12 k13 k14 k15 k16 k17 k18 k27 : Int32) (k25 k26 : Int64) (sz : Nat) (hu : ∀ j, u j < 256) (hn : n < 2 ^ 30) (hi : rdInv n x) (he : en ≤ n) : Met l y_CertificateReader_readUsage w_CertificateReader_readUsage ({ frames := 2, cells := 0, slots := 0, locals := 46 }) (mu_P [.ref h, .int (nI en)] (dC, dI) sb [(h, .inr (4, [.ref res, .ref t, .int (nI x.1), .int (nI x.2.1), .int (wI x.2.2), .int pa, .int ma, .int ex, .ref ki])), (t, .inl (cB, n, .inl (tx u))), (res, .inr (3, [.ref k0, .ref k1, .ref k2, .ref k3, .ref k4, .ref k5, .ref k6, .ref k7, .int k8, .int k9, .int k10, .int k11, .int k12, .int k13, .int k14, .int k15, .int k16, .int k17, .int k18, .ref k19, .ref k20, .ref k21, .ref k22, .ref k23, .ref k24, .long k25, .long k26, .int k27]))] [(cB, .byte)] sz) (va_Qv (fun (u' : rS × Int32) => u' = rd_use u n x en ∧ rdInv n u'.1) (mu_B (dC, dI) [(cB, .byte)] (va_A [(h, .inr (4, [.ref res, .ref t, .int (nI x.1), .int (nI x.2.1), .int (wI x.2.2), .int pa, .int ma, .int ex, .ref ki])), (t, .inl (cB, n, .inl (tx u))), (res, .inr (3, [.ref k0, .ref k1, .ref k2, .ref k3, .ref k4, .ref k5, .ref k6, .ref k7, .int k8, .int k9, .int k10, .int k11, .int k12, .int k13, .int k14, .int k15, .int k16, .int k17, .int k18, .ref k19, .ref k20, .ref k21, .ref k22, .ref k23, .ref k24, .long k25, .long k26, .int k27]))] sz) (fun u' : rS × Int32 => [(h, .inr (4, [.ref res, .ref t, .int (nI u'.1.1), .int (nI u'.1.2.1), .int (wI u'.1.2.2), .int pa, .int ma, .int ex, .ref ki])), (t, .inl (cB, n, .inl (tx u))), (res, .inr (3, [.ref k0, .ref k1, .ref k2, .ref k3, .ref k4, .ref k5, .ref k6, .ref k7, .int k8, .int k9, .int k10, .int k11, .int k12, .int u'.2, .int k14, .int k15, .int k16, .int k17, .int k18, .ref k19, .ref k20, .ref k21, .ref k22, .ref k23, .ref k24, .long k25, .long k26, .int k27]))])) (va_A [(h, .inr (4, [.ref res, .ref t, .int (nI x.1), .int (nI x.2.1), .int (wI x.2.2), .int pa, .int ma, .int ex, .ref ki])), (t, .inl (cB, n, .inl (tx u))), (res, .inr (3, [.ref k0, .ref k1, .ref k2, .ref k3, .ref k4, .ref k5, .ref k6, .ref k7, .int k8, .int k9, .int k10, .int k11, .int k12, .int k13, .int k14, .int k15, .int k16, .int k17, .int k18, .ref k19, .ref k20, .ref k21, .ref k22, .ref k23, .ref k24, .long k25, .long k26, .int k27]))] sz)) 0 0 (va_A [(h, .inr (4, [.ref res, .ref t, .int (nI x.1), .int (nI x.2.1), .int (wI x.2.2), .int pa, .int ma, .int ex, .ref ki])), (t, .inl (cB, n, .inl (tx u))), (res, .inr (3, [.ref k0, .ref k1, .ref k2, .ref k3, .ref k4, .ref k5, .ref k6, .ref k7, .int k8, .int k9, .int k10, .int k11, .int k12, .int k13, .int k14, .int k15, .int k16, .int k17, .int k18, .ref k19, .ref k20, .ref k21, .ref k22, .ref k23, .ref k24, .long k25, .long k26, .int k27]))] sz) := by
  refine Met.ofW (cc := b_CertificateReader_readUsage) (maxL := 10) (ret := none) (by decide) rfl ?_
  intro p e s m args below meth c s₁ B hml hv
  obtain ⟨rfl, hsz, hB0, hP, hK, hD0, hN, hT0⟩ := hv
  have hx := B.exec
  have hb := B.bytes
  have hr := B.returns
  have hts := atoms_spec (ws := w_CertificateReader_readUsage) B.pre
  have tbin : ∀ w ∈ tb, w ∈ w_CertificateReader_readUsage := fun w h => List.mem_cons_of_mem _ h
  have htb : ∀ w ∈ tb, w.before _ s = true := fun w h => hts w (tbin w h)
  have hown : s.vm.findClass "TrustChain$CertificateReader" = some m.cls := findClass_of_methodNamed B.named
  have hlocks := B.notSynchronized
  subst hsz
  have hD := hD0.self (sz := s.heap.size)
  generalize hAe : va_A [(h, .inr (4, [.ref res, .ref t, .int (nI x.1), .int (nI x.2.1), .int (wI x.2.2), .int pa, .int ma, .int ex, .ref ki])), (t, .inl (cB, n, .inl (tx u))), (res, .inr (3, [.ref k0, .ref k1, .ref k2, .ref k3, .ref k4, .ref k5, .ref k6, .ref k7, .int k8, .int k9, .int k10, .int k11, .int k12, .int k13, .int k14, .int k15, .int k16, .int k17, .int k18, .ref k19, .ref k20, .ref k21, .ref k22, .ref k23, .ref k24, .long k25, .long k26, .int k27]))] s.heap.size = A at hD ⊢
  have hA : ∀ q : Nat, s.heap.size ≤ q → A q := fun q h => by rw [← hAe]; exact Or.inr h
  have hAs : ∀ q : Nat, A q → sb.1 ≤ q := fun q h => by
    rw [← hAe] at h
    rcases h with ⟨k, e, h⟩ | h
    · exact hD0.2 k _ h
    · exact Nat.le_trans hB0 h
  have hS : va_S A s.heap s.heap [] := va_S.rf
  have hcs : 0 ≤ (headSpec w_CertificateReader_readUsage ({ frames := 2, cells := 0, slots := 0, locals := 46 })).room.cells ∧ 0 ≤ (headSpec w_CertificateReader_readUsage ({ frames := 2, cells := 0, slots := 0, locals := 46 })).room.slots := ⟨Nat.le_refl _, Nat.le_refl _⟩
  have hP : va_P (dC, dI) classes [(h, .inr (4, [.ref res, .ref t, .int (nI x.1), .int (nI x.2.1), .int (wI x.2.2), .int pa, .int ma, .int ex, .ref ki])), (t, .inl (cB, n, .inl (tx u))), (res, .inr (3, [.ref k0, .ref k1, .ref k2, .ref k3, .ref k4, .ref k5, .ref k6, .ref k7, .int k8, .int k9, .int k10, .int k11, .int k12, .int k13, .int k14, .int k15, .int k16, .int k17, .int k18, .ref k19, .ref k20, .ref k21, .ref k22, .ref k23, .ref k24, .long k25, .long k26, .int k27]))] s.heap := hP
  have hl := lv_entry ([.ref h, .int (nI en)]) (n := 10) (Nat.le_of_ble_eq_true rfl)
  rw [lg_entry_eq]
  generalize (lg_sl ([.ref h, .int (nI en)]) ++ List.replicate (10 - (lg_sl ([.ref h, .int (nI en)])).length) Slot.unset).toArray = ls at hl ⊢
  have hl : lv_has ls 10 [(0, .ref h), (1, .int (nI en))] := hl
  refine lv_aload_n hx hb d_CertificateReader_readUsage_0 rfl (lv_at hl 0 rfl) ?_
  refine lv_iconst (v := 3) hx hb d_CertificateReader_readUsage_1 (by decide) ?_
  refine lv_iload_n hx hb d_CertificateReader_readUsage_2 rfl (lv_at hl 1 rfl) ?_
  have hFc := va_free (wc := [(h, .inr (4, [.ref res, .ref t, .int (nI x.1), .int (nI x.2.1), .int (wI x.2.2), .int pa, .int ma, .int ex, .ref ki])), (t, .inl (cB, n, .inl (tx u)))]) hD hS hA [0, 1] rfl
  refine va_calli (mu_runU (As := [.int 3, .int (nI en)]) (rest := []) ⟨hx, hb, hml, hown, hts⟩ (cC_open l dC dI sb h res t ki x.1 x.2.1 n x.2.2 pa ma ex ie cB u 3 en s.heap.size hu hn ((hi).w hn) (by omega) (hi).1 (by decide)) (cu_of (n := 2) hts tbin q3_108 q3_109 q3_112 q3_111 q1_15 q3_113 rfl (by decide +kernel) ⟨rfl, rfl⟩ ⟨Nat.le_of_ble_eq_true rfl, Nat.le_of_ble_eq_true rfl⟩) rfl ⟨Nat.le_of_ble_eq_true rfl, Nat.le_of_ble_eq_true rfl⟩ hN (hT0.keep hS hAs) hAs (Nat.le_trans hB0 hS.1) hK hP hD [0, 1] (by decide) rfl [0] rfl 0 4 rfl rfl rfl hl.1 rfl (Nat.le_of_ble_eq_true rfl) d_CertificateReader_readUsage_3) hS (fun q _ h => hFc q h) hFc (fun r3 u3 tS H3 locs ht hvm hw3 hB hz1 hk1 hS => ?_)
  obtain ⟨x3, rfl⟩ : ∃ z, z = u3 := ⟨_, rfl⟩
  obtain ⟨hP1, hK1, hD1⟩ := hB
  rw [ht] at hP1
  obtain ⟨hP, hD⟩ := va_join (wr := [(res, .inr (3, [.ref k0, .ref k1, .ref k2, .ref k3, .ref k4, .ref k5, .ref k6, .ref k7, .int k8, .int k9, .int k10, .int k11, .int k12, .int k13, .int k14, .int k15, .int k16, .int k17, .int k18, .ref k19, .ref k20, .ref k21, .ref k22, .ref k23, .ref k24, .long k25, .long k26, .int k27]))]) (w1 := [(h, .inr (4, [.ref res, .ref t, .int (nI x3.1), .int (nI x3.2.1), .int (wI x3.2.2), .int pa, .int ma, .int ex, .ref ki])), (t, .inl (cB, n, .inl (tx u)))]) hP hD [0, 1] [2] rfl rfl (by decide) (by decide) hk1 hFc hP1 hD1
  have hP : va_P (dC, dI) classes [(res, .inr (3, [.ref k0, .ref k1, .ref k2, .ref k3, .ref k4, .ref k5, .ref k6, .ref k7, .int k8, .int k9, .int k10, .int k11, .int k12, .int k13, .int k14, .int k15, .int k16, .int k17, .int k18, .ref k19, .ref k20, .ref k21, .ref k22, .ref k23, .ref k24, .long k25, .long k26, .int k27])), (h, .inr (4, [.ref res, .ref t, .int (nI x3.1), .int (nI x3.2.1), .int (wI x3.2.2), .int pa, .int ma, .int ex, .ref ki])), (t, .inl (cB, n, .inl (tx u)))] H3 := hP
  have hD : va_D A [(res, .inr (3, [.ref k0, .ref k1, .ref k2, .ref k3, .ref k4, .ref k5, .ref k6, .ref k7, .int k8, .int k9, .int k10, .int k11, .int k12, .int k13, .int k14, .int k15, .int k16, .int k17, .int k18, .ref k19, .ref k20, .ref k21, .ref k22, .ref k23, .ref k24, .long k25, .long k26, .int k27])), (h, .inr (4, [.ref res, .ref t, .int (nI x3.1), .int (nI x3.2.1), .int (wI x3.2.2), .int pa, .int ma, .int ex, .ref ki])), (t, .inl (cB, n, .inl (tx u)))] := hD
  have hw3 : x3 = (rd_opn u n x 3 en).1 ∧ r3 = nI (rd_opn u n x 3 en).2 := hw3
  have hi3 := opn_inv (u := u) (tg := 3) hi (show en ≤ n by omega)
  obtain ⟨z3, hz3⟩ : ∃ o, o = rd_opn u n x 3 en := ⟨_, rfl⟩
  rw [← hz3] at hw3 hi3
  obtain ⟨rfl, rfl⟩ := hw3
  have hb3 : z3.1.1 ≤ n := hi3.1.1
  have hc3 : z3.1.1 ≤ z3.2 := hi3.2.1
  have hd3 : z3.2 ≤ n := hi3.2.2.1
  have hP : va_P (dC, dI) classes [(res, .inr (3, [.ref k0, .ref k1, .ref k2, .ref k3, .ref k4, .ref k5, .ref k6, .ref k7, .int k8, .int k9, .int k10, .int k11, .int k12, .int k13, .int k14, .int k15, .int k16, .int k17, .int k18, .ref k19, .ref k20, .ref k21, .ref k22, .ref k23, .ref k24, .long k25, .long k26, .int k27])), (h, .inr (4, [.ref res, .ref t, .int (nI z3.1.1), .int (nI z3.1.2.1), .int (wI z3.1.2.2), .int pa, .int ma, .int ex, .ref ki])), (t, .inl (cB, n, .inl (tx u)))] H3 := hP
  have hD : va_D A [(res, .inr (3, [.ref k0, .ref k1, .ref k2, .ref k3, .ref k4, .ref k5, .ref k6, .ref k7, .int k8, .int k9, .int k10, .int k11, .int k12, .int k13, .int k14, .int k15, .int k16, .int k17, .int k18, .ref k19, .ref k20, .ref k21, .ref k22, .ref k23, .ref k24, .long k25, .long k26, .int k27])), (h, .inr (4, [.ref res, .ref t, .int (nI z3.1.1), .int (nI z3.1.2.1), .int (wI z3.1.2.2), .int pa, .int ma, .int ex, .ref ki])), (t, .inl (cB, n, .inl (tx u)))] := hD
  refine lv_istore_n (lv' := [(2, .int (nI z3.2)), (0, .ref h), (1, .int (nI en))]) hx hb d_CertificateReader_readUsage_6 rfl hl (by decide) rfl (fun ls hl => ?_)
  refine lv_iload_n hx hb d_CertificateReader_readUsage_7 rfl (lv_at hl 0 rfl) ?_
  refine lv_aload_n hx hb d_CertificateReader_readUsage_8 rfl (lv_at hl 1 rfl) ?_
  refine va_get (v := .int (nI z3.1.1)) hx hb htb i_CertificateReader hown hK hP 1 rfl rfl 2 (by decide) (htb _ q3_63) (fun x9 h9 => u_same (htb _ q3_64) x9 h9) rfl d_CertificateReader_readUsage_9 ?_
  refine lv_isub hx hb d_CertificateReader_readUsage_12 ?_
  rw [show ((nI z3.2) - (nI z3.1.1) : Int32) = nI (z3.2 - z3.1.1) from pk_sub (by omega)]
  refine lv_iconst (v := 1) hx hb d_CertificateReader_readUsage_13 (by decide) ?_
  refine lv_isub hx hb d_CertificateReader_readUsage_14 ?_
  refine lv_istore_n (lv' := [(3, .int ((nI (z3.2 - z3.1.1)) - 1)), (2, .int (nI z3.2)), (0, .ref h), (1, .int (nI en))]) hx hb d_CertificateReader_readUsage_15 rfl hl (by decide) rfl (fun ls hl => ?_)
  refine lv_aload_n hx hb d_CertificateReader_readUsage_16 rfl (lv_at hl 2 rfl) ?_
  refine lv_aload_n hx hb d_CertificateReader_readUsage_17 rfl (lv_at hl 2 rfl) ?_
  refine va_get (v := .int (nI z3.1.1)) hx hb htb i_CertificateReader hown hK hP 1 rfl rfl 2 (by decide) (htb _ q3_63) (fun x9 h9 => u_same (htb _ q3_64) x9 h9) rfl d_CertificateReader_readUsage_18 ?_
  refine vp_callSi (pu_callU (As := [.int (nI z3.1.1)]) (rest := []) ⟨hx, hb, hml, hown, hts⟩ (cC_octet l dC dI sb h res t ki z3.1.1 z3.1.2.1 n z3.1.2.2 pa ma ex ie cB u (nI z3.1.1) hu hn) (cu_of (n := 1) hts tbin q4_91 q4_92 q3_115 q4_94 q1_15 q3_119 rfl (by decide +kernel) ⟨rfl, rfl⟩ ⟨Nat.le_of_ble_eq_true rfl, Nat.le_of_ble_eq_true rfl⟩) rfl ⟨Nat.le_of_ble_eq_true rfl, Nat.le_of_ble_eq_true rfl⟩ hN (hT0.keep hS hAs) hK hP [1, 2] rfl [0] rfl 1 4 rfl rfl rfl hl.1 rfl (Nat.le_of_ble_eq_true rfl) d_CertificateReader_readUsage_21) (fun r21 hr21 => ?_)
  rw [oc_eq (by omega)] at hr21
  subst hr21
  refine lv_istore (lv' := [(4, .int (oc u n z3.1.1)), (3, .int ((nI (z3.2 - z3.1.1)) - 1)), (2, .int (nI z3.2)), (0, .ref h), (1, .int (nI en))]) hx hb d_CertificateReader_readUsage_24 hl (by decide) rfl (fun ls hl => ?_)
  refine lv_aload_n hx hb d_CertificateReader_readUsage_26 rfl (lv_at hl 3 rfl) ?_
  refine lv_iload_n hx hb d_CertificateReader_readUsage_27 rfl (lv_at hl 2 rfl) ?_
  refine lv_iconst (v := 1) hx hb d_CertificateReader_readUsage_28 (by decide) ?_
  refine lv_isub hx hb d_CertificateReader_readUsage_29 ?_
  refine vp_callSi (pu_callU (As := [.int ((nI z3.2) - 1)]) (rest := []) ⟨hx, hb, hml, hown, hts⟩ (cC_octet l dC dI sb h res t ki z3.1.1 z3.1.2.1 n z3.1.2.2 pa ma ex ie cB u ((nI z3.2) - 1) hu hn) (cu_of (n := 1) hts tbin q4_91 q4_92 q3_115 q4_94 q1_15 q3_119 rfl (by decide +kernel) ⟨rfl, rfl⟩ ⟨Nat.le_of_ble_eq_true rfl, Nat.le_of_ble_eq_true rfl⟩) rfl ⟨Nat.le_of_ble_eq_true rfl, Nat.le_of_ble_eq_true rfl⟩ hN (hT0.keep hS hAs) hK hP [1, 2] rfl [0] rfl 1 4 rfl rfl rfl hl.1 rfl (Nat.le_of_ble_eq_true rfl) d_CertificateReader_readUsage_30) (fun r30 hr30 => ?_)
  subst hr30
  refine lv_istore (lv' := [(5, .int (sl_at u 0 n ((nI z3.2) - 1))), (4, .int (oc u n z3.1.1)), (3, .int ((nI (z3.2 - z3.1.1)) - 1)), (2, .int (nI z3.2)), (0, .ref h), (1, .int (nI en))]) hx hb d_CertificateReader_readUsage_33 hl (by decide) rfl (fun ls hl => ?_)
  refine lv_iload_n hx hb d_CertificateReader_readUsage_35 rfl (lv_at hl 2 rfl) ?_
  refine lv_iconst (v := 1) hx hb d_CertificateReader_readUsage_36 (by decide) ?_
  refine w_join (J := fun v9 => v9 = zP (((((nI (z3.2 - z3.1.1)) - 1) = (1 : Int32)) ∧ (¬ ((oc u n z3.1.1) < (0 : Int32)) ∧ (¬ ((7 : Int32) < (oc u n z3.1.1))))) ∨ (¬ (((nI (z3.2 - z3.1.1)) - 1) = (1 : Int32)) ∧ ((((nI (z3.2 - z3.1.1)) - 1) = (2 : Int32)) ∧ (¬ ((oc u n z3.1.1) < (0 : Int32)) ∧ (¬ ((7 : Int32) < (oc u n z3.1.1)))))))) (pc := 62) (ls := ls) (rest := []) (fun v9 hv9 => ?_) (fun k62 => ?_)
  · subst hv9
    refine lv_istore (lv' := [(6, .int (zP (((((nI (z3.2 - z3.1.1)) - 1) = (1 : Int32)) ∧ (¬ ((oc u n z3.1.1) < (0 : Int32)) ∧ (¬ ((7 : Int32) < (oc u n z3.1.1))))) ∨ (¬ (((nI (z3.2 - z3.1.1)) - 1) = (1 : Int32)) ∧ ((((nI (z3.2 - z3.1.1)) - 1) = (2 : Int32)) ∧ (¬ ((oc u n z3.1.1) < (0 : Int32)) ∧ (¬ ((7 : Int32) < (oc u n z3.1.1))))))))), (5, .int (sl_at u 0 n ((nI z3.2) - 1))), (4, .int (oc u n z3.1.1)), (3, .int ((nI (z3.2 - z3.1.1)) - 1)), (2, .int (nI z3.2)), (0, .ref h), (1, .int (nI en))]) hx hb d_CertificateReader_readUsage_62 hl (by decide) rfl (fun ls hl => ?_)
    refine lv_aload_n hx hb d_CertificateReader_readUsage_64 rfl (lv_at hl 5 rfl) ?_
    refine lv_iload_n hx hb d_CertificateReader_readUsage_65 rfl (lv_at hl 4 rfl) ?_
    refine lv_iload hx hb d_CertificateReader_readUsage_66 (lv_at hl 0 rfl) ?_
    refine w_join (J := fun v9 => v9 = zP ((((((nI (z3.2 - z3.1.1)) - 1) = (1 : Int32)) ∧ (¬ ((oc u n z3.1.1) < (0 : Int32)) ∧ (¬ ((7 : Int32) < (oc u n z3.1.1))))) ∨ (¬ (((nI (z3.2 - z3.1.1)) - 1) = (1 : Int32)) ∧ ((((nI (z3.2 - z3.1.1)) - 1) = (2 : Int32)) ∧ (¬ ((oc u n z3.1.1) < (0 : Int32)) ∧ (¬ ((7 : Int32) < (oc u n z3.1.1))))))) ∧ (((sl_at u 0 n ((nI z3.2) - 1)) &&& (((2 : Int32) <<< ((oc u n z3.1.1) &&& 31)) - 1)) = ((1 : Int32) <<< ((oc u n z3.1.1) &&& 31))))) (pc := 92) (ls := ls) (rest := [.int (nI z3.2), .ref h]) (fun v9 hv9 => ?_) (fun k92 => ?_)
    · subst hv9
      have hFc := va_free (wc := [(h, .inr (4, [.ref res, .ref t, .int (nI z3.1.1), .int (nI z3.1.2.1), .int (wI z3.1.2.2), .int pa, .int ma, .int ex, .ref ki]))]) hD hS hA [1] rfl
      refine va_callv (mu_runU (As := [.int (nI z3.2), .int (zP ((((((nI (z3.2 - z3.1.1)) - 1) = (1 : Int32)) ∧ (¬ ((oc u n z3.1.1) < (0 : Int32)) ∧ (¬ ((7 : Int32) < (oc u n z3.1.1))))) ∨ (¬ (((nI (z3.2 - z3.1.1)) - 1) = (1 : Int32)) ∧ ((((nI (z3.2 - z3.1.1)) - 1) = (2 : Int32)) ∧ (¬ ((oc u n z3.1.1) < (0 : Int32)) ∧ (¬ ((7 : Int32) < (oc u n z3.1.1))))))) ∧ (((sl_at u 0 n ((nI z3.2) - 1)) &&& (((2 : Int32) <<< ((oc u n z3.1.1) &&& 31)) - 1)) = ((1 : Int32) <<< ((oc u n z3.1.1) &&& 31)))))]) (rest := []) ⟨hx, hb, hml, hown, hts⟩ (cC_leave l dC dI sb h res t ki z3.1.1 z3.1.2.1 n z3.1.2.2 pa ma ex ie cB u z3.2 (zP ((((((nI (z3.2 - z3.1.1)) - 1) = (1 : Int32)) ∧ (¬ ((oc u n z3.1.1) < (0 : Int32)) ∧ (¬ ((7 : Int32) < (oc u n z3.1.1))))) ∨ (¬ (((nI (z3.2 - z3.1.1)) - 1) = (1 : Int32)) ∧ ((((nI (z3.2 - z3.1.1)) - 1) = (2 : Int32)) ∧ (¬ ((oc u n z3.1.1) < (0 : Int32)) ∧ (¬ ((7 : Int32) < (oc u n z3.1.1))))))) ∧ (((sl_at u 0 n ((nI z3.2) - 1)) &&& (((2 : Int32) <<< ((oc u n z3.1.1) &&& 31)) - 1)) = ((1 : Int32) <<< ((oc u n z3.1.1) &&& 31))))) H3.size ((hi3.1).w hn)) (cu_of (n := 2) hts tbin q4_95 q4_96 q3_132 q4_98 q1_15 q3_136 rfl (by decide +kernel) ⟨rfl, rfl⟩ ⟨Nat.le_of_ble_eq_true rfl, Nat.le_of_ble_eq_true rfl⟩) rfl ⟨Nat.le_of_ble_eq_true rfl, Nat.le_of_ble_eq_true rfl⟩ hN (hT0.keep hS hAs) hAs (Nat.le_trans hB0 hS.1) hK hP hD [1] (by decide) rfl [] rfl 1 4 rfl rfl rfl hl.1 rfl (Nat.le_of_ble_eq_true rfl) d_CertificateReader_readUsage_92) hS (fun q _ h => hFc q h) hFc (fun u92 tS H92 locs ht hvm hw92 hB hz1 hk1 hS => ?_)
      obtain ⟨z92, rfl⟩ : ∃ z, z = u92 := ⟨_, rfl⟩
      obtain ⟨hP1, hK1, hD1⟩ := hB
      rw [ht] at hP1
      obtain ⟨hP, hD⟩ := va_join (wr := [(res, .inr (3, [.ref k0, .ref k1, .ref k2, .ref k3, .ref k4, .ref k5, .ref k6, .ref k7, .int k8, .int k9, .int k10, .int k11, .int k12, .int k13, .int k14, .int k15, .int k16, .int k17, .int k18, .ref k19, .ref k20, .ref k21, .ref k22, .ref k23, .ref k24, .long k25, .long k26, .int k27])), (t, .inl (cB, n, .inl (tx u)))]) (w1 := [(h, .inr (4, [.ref res, .ref t, .int (nI z92.1), .int (nI z92.2.1), .int (wI z92.2.2), .int pa, .int ma, .int ex, .ref ki]))]) hP hD [1] [0, 2] rfl rfl (by decide) (by decide) hk1 hFc hP1 hD1
      have hP : va_P (dC, dI) classes [(res, .inr (3, [.ref k0, .ref k1, .ref k2, .ref k3, .ref k4, .ref k5, .ref k6, .ref k7, .int k8, .int k9, .int k10, .int k11, .int k12, .int k13, .int k14, .int k15, .int k16, .int k17, .int k18, .ref k19, .ref k20, .ref k21, .ref k22, .ref k23, .ref k24, .long k25, .long k26, .int k27])), (t, .inl (cB, n, .inl (tx u))), (h, .inr (4, [.ref res, .ref t, .int (nI z92.1), .int (nI z92.2.1), .int (wI z92.2.2), .int pa, .int ma, .int ex, .ref ki]))] H92 := hP
      have hD : va_D A [(res, .inr (3, [.ref k0, .ref k1, .ref k2, .ref k3, .ref k4, .ref k5, .ref k6, .ref k7, .int k8, .int k9, .int k10, .int k11, .int k12, .int k13, .int k14, .int k15, .int k16, .int k17, .int k18, .ref k19, .ref k20, .ref k21, .ref k22, .ref k23, .ref k24, .long k25, .long k26, .int k27])), (t, .inl (cB, n, .inl (tx u))), (h, .inr (4, [.ref res, .ref t, .int (nI z92.1), .int (nI z92.2.1), .int (wI z92.2.2), .int pa, .int ma, .int ex, .ref ki]))] := hD
      have hz92 : z92 = rd_lea z3.1 z3.2 (zP ((((((nI (z3.2 - z3.1.1)) - 1) = (1 : Int32)) ∧ (¬ ((oc u n z3.1.1) < (0 : Int32)) ∧ (¬ ((7 : Int32) < (oc u n z3.1.1))))) ∨ (¬ (((nI (z3.2 - z3.1.1)) - 1) = (1 : Int32)) ∧ ((((nI (z3.2 - z3.1.1)) - 1) = (2 : Int32)) ∧ (¬ ((oc u n z3.1.1) < (0 : Int32)) ∧ (¬ ((7 : Int32) < (oc u n z3.1.1))))))) ∧ (((sl_at u 0 n ((nI z3.2) - 1)) &&& (((2 : Int32) <<< ((oc u n z3.1.1) &&& 31)) - 1)) = ((1 : Int32) <<< ((oc u n z3.1.1) &&& 31))))) := hw92
      have hi92 : rdInv n z92 := by rw [hz92]; exact lea_inv hi3.1 (by omega)
      have hb92 : z92.1 ≤ n := hi92.1
      refine lv_iconst (v := 0) hx hb d_CertificateReader_readUsage_95 (by decide) ?_
      refine lv_istore (lv' := [(7, .int 0), (6, .int (zP (((((nI (z3.2 - z3.1.1)) - 1) = (1 : Int32)) ∧ (¬ ((oc u n z3.1.1) < (0 : Int32)) ∧ (¬ ((7 : Int32) < (oc u n z3.1.1))))) ∨ (¬ (((nI (z3.2 - z3.1.1)) - 1) = (1 : Int32)) ∧ ((((nI (z3.2 - z3.1.1)) - 1) = (2 : Int32)) ∧ (¬ ((oc u n z3.1.1) < (0 : Int32)) ∧ (¬ ((7 : Int32) < (oc u n z3.1.1))))))))), (5, .int (sl_at u 0 n ((nI z3.2) - 1))), (4, .int (oc u n z3.1.1)), (3, .int ((nI (z3.2 - z3.1.1)) - 1)), (2, .int (nI z3.2)), (0, .ref h), (1, .int (nI en))]) hx hb d_CertificateReader_readUsage_96 hl (by decide) rfl (fun ls hl => ?_)
      refine lv_iconst (v := 0) hx hb d_CertificateReader_readUsage_98 (by decide) ?_
      refine lv_istore (lv' := [(8, .int 0), (7, .int 0), (6, .int (zP (((((nI (z3.2 - z3.1.1)) - 1) = (1 : Int32)) ∧ (¬ ((oc u n z3.1.1) < (0 : Int32)) ∧ (¬ ((7 : Int32) < (oc u n z3.1.1))))) ∨ (¬ (((nI (z3.2 - z3.1.1)) - 1) = (1 : Int32)) ∧ ((((nI (z3.2 - z3.1.1)) - 1) = (2 : Int32)) ∧ (¬ ((oc u n z3.1.1) < (0 : Int32)) ∧ (¬ ((7 : Int32) < (oc u n z3.1.1))))))))), (5, .int (sl_at u 0 n ((nI z3.2) - 1))), (4, .int (oc u n z3.1.1)), (3, .int ((nI (z3.2 - z3.1.1)) - 1)), (2, .int (nI z3.2)), (0, .ref h), (1, .int (nI en))]) hx hb d_CertificateReader_readUsage_99 hl (by decide) rfl (fun ls hl => ?_)
      have hl : lv_has ls 10 [(0, .ref h), (2, .int (nI z3.2)), (3, .int ((nI (z3.2 - z3.1.1)) - 1)), (7, .int (usG u n z3.2 ((nI (z3.2 - z3.1.1)) - 1) 0)), (8, .int (nI 0))] := lv_sub hl [7, 6, 5, 1, 0] rfl
      refine w_cut (nL := 10) (lv := [(0, .ref h), (7, .int (usG u n z3.2 ((nI (z3.2 - z3.1.1)) - 1) (usK (((nI (z3.2 - z3.1.1)) - 1) * 8))))]) (pcJ := 159) (st := []) (fun ls hl => ?_) (fun k159 => ?_)
      · skip
        refine lv_aload_n hx hb d_CertificateReader_readUsage_159 rfl (lv_at hl 0 rfl) ?_
        refine va_get (v := .ref res) hx hb htb i_CertificateReader hown hK hP 2 rfl rfl 0 (by decide) (htb _ q3_55) (fun _ h9 => h9) rfl d_CertificateReader_readUsage_160 ?_
        refine lv_iload hx hb d_CertificateReader_readUsage_163 (lv_at hl 1 rfl) ?_
        refine va_put (v := .int (usG u n z3.2 ((nI (z3.2 - z3.1.1)) - 1) (usK (((nI (z3.2 - z3.1.1)) - 1) * 8)))) (ty := .int) hx hb htb i_Certificate t_Certificate t_Certificate_ok n_Certificate hown hK hP hD hS 0 rfl rfl 13 (by decide) (htb _ q2_176) (fun _ h9 => h9) rfl (by decide +kernel) rfl rfl (Nat.le_of_ble_eq_true rfl) d_CertificateReader_readUsage_165 (fun H165 locs hP hD hS => ?_)
        have hP : va_P (dC, dI) classes [(res, .inr (3, [.ref k0, .ref k1, .ref k2, .ref k3, .ref k4, .ref k5, .ref k6, .ref k7, .int k8, .int k9, .int k10, .int k11, .int k12, .int (usG u n z3.2 ((nI (z3.2 - z3.1.1)) - 1) (usK (((nI (z3.2 - z3.1.1)) - 1) * 8))), .int k14, .int k15, .int k16, .int k17, .int k18, .ref k19, .ref k20, .ref k21, .ref k22, .ref k23, .ref k24, .long k25, .long k26, .int k27])), (t, .inl (cB, n, .inl (tx u))), (h, .inr (4, [.ref res, .ref t, .int (nI z92.1), .int (nI z92.2.1), .int (wI z92.2.2), .int pa, .int ma, .int ex, .ref ki]))] H165 := hP
        have hD : va_D A [(res, .inr (3, [.ref k0, .ref k1, .ref k2, .ref k3, .ref k4, .ref k5, .ref k6, .ref k7, .int k8, .int k9, .int k10, .int k11, .int k12, .int (usG u n z3.2 ((nI (z3.2 - z3.1.1)) - 1) (usK (((nI (z3.2 - z3.1.1)) - 1) * 8))), .int k14, .int k15, .int k16, .int k17, .int k18, .ref k19, .ref k20, .ref k21, .ref k22, .ref k23, .ref k24, .long k25, .long k26, .int k27])), (t, .inl (cB, n, .inl (tx u))), (h, .inr (4, [.ref res, .ref t, .int (nI z92.1), .int (nI z92.2.1), .int (wI z92.2.2), .int pa, .int ma, .int ex, .ref ki]))] := hD
        have e9 : rd_use u n x en = (z92, usG u n z3.2 ((nI (z3.2 - z3.1.1)) - 1) (usK (((nI (z3.2 - z3.1.1)) - 1) * 8))) := by
          subst hz92
          subst hz3
          exact rfl
        exact W.vret hx hb hr (fun t ht hW => ⟨⟨(z92, usG u n z3.2 ((nI (z3.2 - z3.1.1)) - 1) (usK (((nI (z3.2 - z3.1.1)) - 1) * 8))), rfl, ⟨e9.symm, hi92⟩, by rw [ht]; exact hP.sub [2, 1, 0] rfl, va_K.moved hW.alike hK, hD.sub [2, 1, 0] (by decide) rfl⟩, hS.F ht⟩) hS.2.2 d_CertificateReader_readUsage_168
      · skip
        refine w_loop (α := Nat) (fun k => k ≤ 16 ∧ fstN (fun k => ((nI (z3.2 - z3.1.1)) - 1) * 8 ≤ nI k) (16 - k) k = usK (((nI (z3.2 - z3.1.1)) - 1) * 8)) (fun k => 16 - k) (fun k => [(0, .ref h), (2, .int (nI z3.2)), (3, .int ((nI (z3.2 - z3.1.1)) - 1)), (7, .int (usG u n z3.2 ((nI (z3.2 - z3.1.1)) - 1) k)), (8, .int (nI k))]) (fun _ => []) 10 101 (fun k ls hJ hl ih => ?_) 0 ls (⟨Nat.zero_le _, rfl⟩) (lv_sub hl [0, 1, 2, 3, 4] rfl)
        have hkl := hJ.1
        refine lv_iload hx hb d_CertificateReader_readUsage_101 (lv_at hl 4 rfl) ?_
        refine lv_iload_n hx hb d_CertificateReader_readUsage_103 rfl (lv_at hl 2 rfl) ?_
        refine lv_bipush (v := 8) hx hb d_CertificateReader_readUsage_104 (by decide) ?_
        refine lv_imul hx hb d_CertificateReader_readUsage_106 ?_
        refine lv_icmp_ge (tgt := 159) hx hb d_CertificateReader_readUsage_107 (by decide) (fun c107 => ?_) (fun c107 => ?_)
        · have p107 : (((nI (z3.2 - z3.1.1)) - 1) * 8) ≤ (nI k) := c107
          obtain rfl := (Nat.lt_or_ge k 16).elim (fun h9 => fst_at (P := fun k => ((nI (z3.2 - z3.1.1)) - 1) * 8 ≤ nI k) hJ.2 h9 p107) (fun h9 => fst_end hJ.2 (by have := hJ.1; omega))
          exact k159 ls (lv_sub hl [0, 3] rfl)
        · have p107 : ¬ ((((nI (z3.2 - z3.1.1)) - 1) * 8) ≤ (nI k)) := c107
          refine lv_iload hx hb d_CertificateReader_readUsage_110 (lv_at hl 4 rfl) ?_
          refine lv_bipush (v := 16) hx hb d_CertificateReader_readUsage_112 (by decide) ?_
          refine lv_icmp_ge (tgt := 159) hx hb d_CertificateReader_readUsage_114 (by decide) (fun c114 => ?_) (fun c114 => ?_)
          · have p114 : 16 ≤ k := ((nI_leI (a := 16) (b := k) (by omega) (by omega)).mp c114)
            obtain rfl := fst_end hJ.2 (by have := hJ.1; omega)
            exact k159 ls (lv_sub hl [0, 3] rfl)
          · have p114 : ¬ (16 ≤ k) := (fun q9 => c114 ((nI_leI (a := 16) (b := k) (by omega) (by omega)).mpr q9))
            refine lv_aload_n hx hb d_CertificateReader_readUsage_117 rfl (lv_at hl 0 rfl) ?_
            refine lv_iload_n hx hb d_CertificateReader_readUsage_118 rfl (lv_at hl 1 rfl) ?_
            refine lv_iload_n hx hb d_CertificateReader_readUsage_119 rfl (lv_at hl 2 rfl) ?_
            refine lv_isub hx hb d_CertificateReader_readUsage_120 ?_
            refine lv_iload hx hb d_CertificateReader_readUsage_121 (lv_at hl 4 rfl) ?_
            refine lv_bipush (v := 8) hx hb d_CertificateReader_readUsage_123 (by decide) ?_
            refine lv_idiv hx hb d_CertificateReader_readUsage_125 (by decide) ?_
            rw [show ((nI k) / 8 : Int32) = nI (k / 8) from (div8 k (by omega)).1]
            refine lv_iadd hx hb d_CertificateReader_readUsage_126 ?_
            refine vp_callSi (pu_callU (As := [.int (((nI z3.2) - ((nI (z3.2 - z3.1.1)) - 1)) + (nI (k / 8)))]) (rest := []) ⟨hx, hb, hml, hown, hts⟩ (cC_octet l dC dI sb h res t ki z92.1 z92.2.1 n z92.2.2 pa ma ex ie cB u (((nI z3.2) - ((nI (z3.2 - z3.1.1)) - 1)) + (nI (k / 8))) hu hn) (cu_of (n := 1) hts tbin q4_91 q4_92 q3_115 q4_94 q1_15 q3_119 rfl (by decide +kernel) ⟨rfl, rfl⟩ ⟨Nat.le_of_ble_eq_true rfl, Nat.le_of_ble_eq_true rfl⟩) rfl ⟨Nat.le_of_ble_eq_true rfl, Nat.le_of_ble_eq_true rfl⟩ hN (hT0.keep hS hAs) hK hP [2, 1] rfl [0] rfl 2 4 rfl rfl rfl hl.1 rfl (Nat.le_of_ble_eq_true rfl) d_CertificateReader_readUsage_127) (fun r127 hr127 => ?_)
            subst hr127
            refine lv_istore (lv' := [(9, .int (sl_at u 0 n (((nI z3.2) - ((nI (z3.2 - z3.1.1)) - 1)) + (nI (k / 8))))), (0, .ref h), (2, .int (nI z3.2)), (3, .int ((nI (z3.2 - z3.1.1)) - 1)), (7, .int (usG u n z3.2 ((nI (z3.2 - z3.1.1)) - 1) k)), (8, .int (nI k))]) hx hb d_CertificateReader_readUsage_130 hl (by decide) rfl (fun ls hl => ?_)
            refine lv_iload hx hb d_CertificateReader_readUsage_132 (lv_at hl 4 rfl) ?_
            refine lv_iload hx hb d_CertificateReader_readUsage_134 (lv_at hl 0 rfl) ?_
            refine lv_bipush (v := 7) hx hb d_CertificateReader_readUsage_136 (by decide) ?_
            refine lv_iload hx hb d_CertificateReader_readUsage_138 (lv_at hl 5 rfl) ?_
            refine lv_bipush (v := 8) hx hb d_CertificateReader_readUsage_140 (by decide) ?_
            refine lv_irem hx hb d_CertificateReader_readUsage_142 (by decide) ?_
            rw [show ((nI k) - (nI k) / 8 * 8 : Int32) = nI (k % 8) from (div8 k (by omega)).2]
            refine lv_isub hx hb d_CertificateReader_readUsage_143 ?_
            refine lv_ishr hx hb d_CertificateReader_readUsage_144 ?_
            refine lv_iconst (v := 1) hx hb d_CertificateReader_readUsage_145 (by decide) ?_
            refine lv_iand hx hb d_CertificateReader_readUsage_146 ?_
            refine lv_iload hx hb d_CertificateReader_readUsage_147 (lv_at hl 5 rfl) ?_
            refine lv_ishl hx hb d_CertificateReader_readUsage_149 ?_
            refine lv_ior hx hb d_CertificateReader_readUsage_150 ?_
            refine lv_istore (lv' := [(7, .int ((usG u n z3.2 ((nI (z3.2 - z3.1.1)) - 1) k) ||| ((((sl_at u 0 n (((nI z3.2) - ((nI (z3.2 - z3.1.1)) - 1)) + (nI (k / 8)))) >>> ((7 - (nI (k % 8))) &&& 31)) &&& 1) <<< ((nI k) &&& 31)))), (9, .int (sl_at u 0 n (((nI z3.2) - ((nI (z3.2 - z3.1.1)) - 1)) + (nI (k / 8))))), (0, .ref h), (2, .int (nI z3.2)), (3, .int ((nI (z3.2 - z3.1.1)) - 1)), (8, .int (nI k))]) hx hb d_CertificateReader_readUsage_151 hl (by decide) rfl (fun ls hl => ?_)
            refine lv_iinc (v := nI (k + 1)) (lv' := [(8, .int (nI (k + 1))), (7, .int ((usG u n z3.2 ((nI (z3.2 - z3.1.1)) - 1) k) ||| ((((sl_at u 0 n (((nI z3.2) - ((nI (z3.2 - z3.1.1)) - 1)) + (nI (k / 8)))) >>> ((7 - (nI (k % 8))) &&& 31)) &&& 1) <<< ((nI k) &&& 31)))), (9, .int (sl_at u 0 n (((nI z3.2) - ((nI (z3.2 - z3.1.1)) - 1)) + (nI (k / 8))))), (0, .ref h), (2, .int (nI z3.2)), (3, .int ((nI (z3.2 - z3.1.1)) - 1))]) hx hb d_CertificateReader_readUsage_153 hl (k := 5) rfl (nI_1 _) (by decide) rfl (fun ls hl => ?_)
            refine lv_goto (tgt := 101) hx hb d_CertificateReader_readUsage_156 (by decide) ?_
            exact ih (k + 1) ls (by omega) (⟨by omega, fst_go hJ.2 (by omega) p107⟩) (lv_sub hl [3, 4, 5, 1, 0] rfl)
    · skip
      refine lv_if_eq (tgt := 91) hx hb d_CertificateReader_readUsage_68 (by decide) (fun c68 => ?_) (fun c68 => ?_)
      · have p68 : ¬ (((((nI (z3.2 - z3.1.1)) - 1) = (1 : Int32)) ∧ (¬ ((oc u n z3.1.1) < (0 : Int32)) ∧ (¬ ((7 : Int32) < (oc u n z3.1.1))))) ∨ (¬ (((nI (z3.2 - z3.1.1)) - 1) = (1 : Int32)) ∧ ((((nI (z3.2 - z3.1.1)) - 1) = (2 : Int32)) ∧ (¬ ((oc u n z3.1.1) < (0 : Int32)) ∧ (¬ ((7 : Int32) < (oc u n z3.1.1))))))) := (zP_0.mp c68)
        refine lv_iconst (v := 0) hx hb d_CertificateReader_readUsage_91 (by decide) ?_
        exact k92 _ (zP_f (fun z => p68 z.1))
      · have p68 : ((((nI (z3.2 - z3.1.1)) - 1) = (1 : Int32)) ∧ (¬ ((oc u n z3.1.1) < (0 : Int32)) ∧ (¬ ((7 : Int32) < (oc u n z3.1.1))))) ∨ (¬ (((nI (z3.2 - z3.1.1)) - 1) = (1 : Int32)) ∧ ((((nI (z3.2 - z3.1.1)) - 1) = (2 : Int32)) ∧ (¬ ((oc u n z3.1.1) < (0 : Int32)) ∧ (¬ ((7 : Int32) < (oc u n z3.1.1)))))) := (zP_1 c68)
        refine lv_iload hx hb d_CertificateReader_readUsage_71 (lv_at hl 1 rfl) ?_
        refine lv_iconst (v := 2) hx hb d_CertificateReader_readUsage_73 (by decide) ?_
        refine lv_iload hx hb d_CertificateReader_readUsage_74 (lv_at hl 2 rfl) ?_
        refine lv_ishl hx hb d_CertificateReader_readUsage_76 ?_
        refine lv_iconst (v := 1) hx hb d_CertificateReader_readUsage_77 (by decide) ?_
        refine lv_isub hx hb d_CertificateReader_readUsage_78 ?_
        refine lv_iand hx hb d_CertificateReader_readUsage_79 ?_
        refine lv_iconst (v := 1) hx hb d_CertificateReader_readUsage_80 (by decide) ?_
        refine lv_iload hx hb d_CertificateReader_readUsage_81 (lv_at hl 2 rfl) ?_
        refine lv_ishl hx hb d_CertificateReader_readUsage_83 ?_
        refine lv_icmp_ne (tgt := 91) hx hb d_CertificateReader_readUsage_84 (by decide) (fun c84 => ?_) (fun c84 => ?_)
        · have p84 : ¬ (((sl_at u 0 n ((nI z3.2) - 1)) &&& (((2 : Int32) <<< ((oc u n z3.1.1) &&& 31)) - 1)) = ((1 : Int32) <<< ((oc u n z3.1.1) &&& 31))) := c84
          refine lv_iconst (v := 0) hx hb d_CertificateReader_readUsage_91 (by decide) ?_
          exact k92 _ (zP_f (fun z => p84 z.2))
        · have p84 : ((sl_at u 0 n ((nI z3.2) - 1)) &&& (((2 : Int32) <<< ((oc u n z3.1.1) &&& 31)) - 1)) = ((1 : Int32) <<< ((oc u n z3.1.1) &&& 31)) := c84
          refine lv_iconst (v := 1) hx hb d_CertificateReader_readUsage_87 (by decide) ?_
          refine lv_goto (tgt := 92) hx hb d_CertificateReader_readUsage_88 (by decide) ?_
          exact k92 _ (zP_t ⟨p68, p84⟩)
  · skip
    refine lv_icmp_eq (tgt := 45) hx hb d_CertificateReader_readUsage_37 (by decide) (fun c37 => ?_) (fun c37 => ?_)
    · have p37 : ((nI (z3.2 - z3.1.1)) - 1) = (1 : Int32) := c37
      refine lv_iload hx hb d_CertificateReader_readUsage_45 (lv_at hl 1 rfl) ?_
      refine lv_if_lt (tgt := 61) hx hb d_CertificateReader_readUsage_47 (by decide) (fun c47 => ?_) (fun c47 => ?_)
      · have p47 : (oc u n z3.1.1) < (0 : Int32) := c47
        refine lv_iconst (v := 0) hx hb d_CertificateReader_readUsage_61 (by decide) ?_
        exact k62 _ (zP_f (fun z => z.elim (fun q => (fun z => z.1 p47) q.2) (fun q => q.1 p37)))
      · have p47 : ¬ ((oc u n z3.1.1) < (0 : Int32)) := c47
        refine lv_iload hx hb d_CertificateReader_readUsage_50 (lv_at hl 1 rfl) ?_
        refine lv_bipush (v := 7) hx hb d_CertificateReader_readUsage_52 (by decide) ?_
        refine lv_icmp_gt (tgt := 61) hx hb d_CertificateReader_readUsage_54 (by decide) (fun c54 => ?_) (fun c54 => ?_)
        · have p54 : (7 : Int32) < (oc u n z3.1.1) := c54
          refine lv_iconst (v := 0) hx hb d_CertificateReader_readUsage_61 (by decide) ?_
          exact k62 _ (zP_f (fun z => z.elim (fun q => (fun z => (fun z => z p54) z.2) q.2) (fun q => q.1 p37)))
        · have p54 : ¬ ((7 : Int32) < (oc u n z3.1.1)) := c54
          refine lv_iconst (v := 1) hx hb d_CertificateReader_readUsage_57 (by decide) ?_
          refine lv_goto (tgt := 62) hx hb d_CertificateReader_readUsage_58 (by decide) ?_
          exact k62 _ (zP_t (Or.inl ⟨p37, ⟨p47, p54⟩⟩))
    · have p37 : ¬ (((nI (z3.2 - z3.1.1)) - 1) = (1 : Int32)) := c37
      refine lv_iload_n hx hb d_CertificateReader_readUsage_40 rfl (lv_at hl 2 rfl) ?_
      refine lv_iconst (v := 2) hx hb d_CertificateReader_readUsage_41 (by decide) ?_
      refine lv_icmp_ne (tgt := 61) hx hb d_CertificateReader_readUsage_42 (by decide) (fun c42 => ?_) (fun c42 => ?_)
      · have p42 : ¬ (((nI (z3.2 - z3.1.1)) - 1) = (2 : Int32)) := c42
        refine lv_iconst (v := 0) hx hb d_CertificateReader_readUsage_61 (by decide) ?_
        exact k62 _ (zP_f (fun z => z.elim (fun q => p37 q.1) (fun q => (fun z => p42 z.1) q.2)))
      · have p42 : ((nI (z3.2 - z3.1.1)) - 1) = (2 : Int32) := c42
        refine lv_iload hx hb d_CertificateReader_readUsage_45 (lv_at hl 1 rfl) ?_
        refine lv_if_lt (tgt := 61) hx hb d_CertificateReader_readUsage_47 (by decide) (fun c47 => ?_) (fun c47 => ?_)
        · have p47 : (oc u n z3.1.1) < (0 : Int32) := c47
          refine lv_iconst (v := 0) hx hb d_CertificateReader_readUsage_61 (by decide) ?_
          exact k62 _ (zP_f (fun z => z.elim (fun q => p37 q.1) (fun q => (fun z => (fun z => z.1 p47) z.2) q.2)))
        · have p47 : ¬ ((oc u n z3.1.1) < (0 : Int32)) := c47
          refine lv_iload hx hb d_CertificateReader_readUsage_50 (lv_at hl 1 rfl) ?_
          refine lv_bipush (v := 7) hx hb d_CertificateReader_readUsage_52 (by decide) ?_
          refine lv_icmp_gt (tgt := 61) hx hb d_CertificateReader_readUsage_54 (by decide) (fun c54 => ?_) (fun c54 => ?_)
          · have p54 : (7 : Int32) < (oc u n z3.1.1) := c54
            refine lv_iconst (v := 0) hx hb d_CertificateReader_readUsage_61 (by decide) ?_
            exact k62 _ (zP_f (fun z => z.elim (fun q => p37 q.1) (fun q => (fun z => (fun z => (fun z => z p54) z.2) z.2) q.2)))
          · have p54 : ¬ ((7 : Int32) < (oc u n z3.1.1)) := c54
            refine lv_iconst (v := 1) hx hb d_CertificateReader_readUsage_57 (by decide) ?_
            refine lv_goto (tgt := 62) hx hb d_CertificateReader_readUsage_58 (by decide) ?_
            exact k62 _ (zP_t (Or.inr ⟨p37, ⟨p42, ⟨p47, p54⟩⟩⟩))
