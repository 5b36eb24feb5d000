/-! Sha256.hash. -/
/-- one block: the words' row, the sum's row -/
def hs_1 (u : Nat → Nat) (a b tt k : Nat) (z : (Nat → Int32) × (Nat → Int32)) : (Nat → Int32) × (Nat → Int32) := (scG (fsG u a b tt (64 * k) z.1 16) 48, shAdd z.2 (shG (scG (fsG u a b tt (64 * k) z.1 16) 48) (sh0 z.2) 64))
def hs_n (u : Nat → Nat) (a b tt : Nat) (z : (Nat → Int32) × (Nat → Int32)) : Nat → (Nat → Int32) × (Nat → Int32)
  | 0 => z
  | k + 1 => hs_1 u a b tt k (hs_n u a b tt z k)
/-- blocks of so many octets -/
def hs_b (n : Nat) : Nat := (n + 8) / 64 + 1
def hs_f (u : Nat → Nat) (a b : Nat) (g f : Nat → Int32) : (Nat → Int32) × (Nat → Int32) := hs_n u a b (64 * hs_b (b - a)) (g, va_cpy (fun j => sv_START.getD j 0) f 0 0 8) (hs_b (b - a))
def y_Sha256_hash : MethodName := ⟨"TrustChain$Sha256", "hash", "(LTrustChain$Slice;[I)V"⟩
abbrev b_Sha256_hash : ByteArray := prog_11_method_2_code
def w_Sha256_hash : List Cond := Cond.code y_Sha256_hash b_Sha256_hash 5 (none) :: tb
theorem d_Sha256_hash_0 : decode b_Sha256_hash 0 = .ok (.aload_n 2, 1) := by decide +kernel
theorem d_Sha256_hash_1 : decode b_Sha256_hash 1 = .ok (.arraylength, 1) := by decide +kernel
theorem d_Sha256_hash_2 : decode b_Sha256_hash 2 = .ok (.bipush 8, 2) := by decide +kernel
theorem d_Sha256_hash_4 : decode b_Sha256_hash 4 = .ok (.if_icmp .eq 4, 3) := by decide +kernel
theorem d_Sha256_hash_8 : decode b_Sha256_hash 8 = .ok (.getstatic 15, 3) := by decide +kernel
theorem d_Sha256_hash_11 : decode b_Sha256_hash 11 = .ok (.iconst 0, 1) := by decide +kernel
theorem d_Sha256_hash_12 : decode b_Sha256_hash 12 = .ok (.aload_n 2, 1) := by decide +kernel
theorem d_Sha256_hash_13 : decode b_Sha256_hash 13 = .ok (.iconst 0, 1) := by decide +kernel
theorem d_Sha256_hash_14 : decode b_Sha256_hash 14 = .ok (.bipush 8, 2) := by decide +kernel
theorem d_Sha256_hash_16 : decode b_Sha256_hash 16 = .ok (.invokestatic 18, 3) := by decide +kernel
theorem d_Sha256_hash_19 : decode b_Sha256_hash 19 = .ok (.aload_n 1, 1) := by decide +kernel
theorem d_Sha256_hash_20 : decode b_Sha256_hash 20 = .ok (.invokevirtual 24, 3) := by decide +kernel
theorem d_Sha256_hash_23 : decode b_Sha256_hash 23 = .ok (.bipush 8, 2) := by decide +kernel
theorem d_Sha256_hash_25 : decode b_Sha256_hash 25 = .ok (.iadd, 1) := by decide +kernel
theorem d_Sha256_hash_26 : decode b_Sha256_hash 26 = .ok (.bipush 64, 2) := by decide +kernel
theorem d_Sha256_hash_28 : decode b_Sha256_hash 28 = .ok (.idiv, 1) := by decide +kernel
theorem d_Sha256_hash_29 : decode b_Sha256_hash 29 = .ok (.iconst 1, 1) := by decide +kernel
theorem d_Sha256_hash_30 : decode b_Sha256_hash 30 = .ok (.iadd, 1) := by decide +kernel
theorem d_Sha256_hash_31 : decode b_Sha256_hash 31 = .ok (.istore_n 3, 1) := by decide +kernel
theorem d_Sha256_hash_32 : decode b_Sha256_hash 32 = .ok (.iconst 0, 1) := by decide +kernel
theorem d_Sha256_hash_33 : decode b_Sha256_hash 33 = .ok (.istore 4, 2) := by decide +kernel
theorem d_Sha256_hash_35 : decode b_Sha256_hash 35 = .ok (.iload 4, 2) := by decide +kernel
theorem d_Sha256_hash_37 : decode b_Sha256_hash 37 = .ok (.iload_n 3, 1) := by decide +kernel
theorem d_Sha256_hash_38 : decode b_Sha256_hash 38 = .ok (.if_icmp .ge 28, 3) := by decide +kernel
theorem d_Sha256_hash_41 : decode b_Sha256_hash 41 = .ok (.aload_n 0, 1) := by decide +kernel
theorem d_Sha256_hash_42 : decode b_Sha256_hash 42 = .ok (.aload_n 1, 1) := by decide +kernel
theorem d_Sha256_hash_43 : decode b_Sha256_hash 43 = .ok (.iload 4, 2) := by decide +kernel
theorem d_Sha256_hash_45 : decode b_Sha256_hash 45 = .ok (.bipush 64, 2) := by decide +kernel
theorem d_Sha256_hash_47 : decode b_Sha256_hash 47 = .ok (.imul, 1) := by decide +kernel
theorem d_Sha256_hash_48 : decode b_Sha256_hash 48 = .ok (.iload_n 3, 1) := by decide +kernel
theorem d_Sha256_hash_49 : decode b_Sha256_hash 49 = .ok (.bipush 64, 2) := by decide +kernel
theorem d_Sha256_hash_51 : decode b_Sha256_hash 51 = .ok (.imul, 1) := by decide +kernel
theorem d_Sha256_hash_52 : decode b_Sha256_hash 52 = .ok (.invokevirtual 30, 3) := by decide +kernel
theorem d_Sha256_hash_55 : decode b_Sha256_hash 55 = .ok (.aload_n 0, 1) := by decide +kernel
theorem d_Sha256_hash_56 : decode b_Sha256_hash 56 = .ok (.aload_n 2, 1) := by decide +kernel
theorem d_Sha256_hash_57 : decode b_Sha256_hash 57 = .ok (.invokevirtual 34, 3) := by decide +kernel
theorem d_Sha256_hash_60 : decode b_Sha256_hash 60 = .ok (.iinc 4 1, 3) := by decide +kernel
theorem d_Sha256_hash_63 : decode b_Sha256_hash 63 = .ok (.goto (-28), 3) := by decide +kernel
theorem d_Sha256_hash_66 : decode b_Sha256_hash 66 = .ok (.return_, 1) := by decide +kernel
set_option maxHeartbeats 4000000 in
set_option maxRecDepth 100000 in
theorem c_Sha256_hash (l : Launch) (dC : Nat → ClassId) (dI : Nat → Nat → Nat) (sb : sB) (q0 sc h t su a b n tt : Nat) (cI cB : ClassId) (u : Nat → Nat) (g f : Nat → Int32) (sz : Nat) (hu : ∀ j, u j < 256) (hab : a ≤ b) (hbn : b ≤ n) (hn : n < 2 ^ 19) (htt0 : tt = 64 * hs_b (b - a)) (htt : tt < 2 ^ 20) : Met l y_Sha256_hash w_Sha256_hash ({ frames := 3, cells := 0, slots := 0, locals := 72 }) (mu_P [.ref q0, .ref h, .ref su] (dC, dI) sb [(q0, .inr (6, [.ref sc])), (sc, .inl (cI, 64, .inl g)), (h, .inr (0, [.ref t, .int (nI a), .int (nI b)])), (t, .inl (cB, n, .inl (tx u))), (su, .inl (cI, 8, .inl f))] [(cI, .int), (cB, .byte)] sz) (va_Qv (fun (_u : Unit) => True) (mu_B (dC, dI) [(cI, .int), (cB, .byte)] (va_A [(q0, .inr (6, [.ref sc])), (sc, .inl (cI, 64, .inl g)), (h, .inr (0, [.ref t, .int (nI a), .int (nI b)])), (t, .inl (cB, n, .inl (tx u))), (su, .inl (cI, 8, .inl f))] sz) (fun _ : Unit => [(q0, .inr (6, [.ref sc])), (sc, .inl (cI, 64, .inl ((hs_f u a b g f).1))), (h, .inr (0, [.ref t, .int (nI a), .int (nI b)])), (t, .inl (cB, n, .inl (tx u))), (su, .inl (cI, 8, .inl ((hs_f u a b g f).2)))])) (va_A [(q0, .inr (6, [.ref sc])), (sc, .inl (cI, 64, .inl g)), (h, .inr (0, [.ref t, .int (nI a), .int (nI b)])), (t, .inl (cB, n, .inl (tx u))), (su, .inl (cI, 8, .inl f))] sz)) 0 0 (va_A [(q0, .inr (6, [.ref sc])), (sc, .inl (cI, 64, .inl g)), (h, .inr (0, [.ref t, .int (nI a), .int (nI b)])), (t, .inl (cB, n, .inl (tx u))), (su, .inl (cI, 8, .inl f))] sz) := by
  refine Met.ofW (cc := b_Sha256_hash) (maxL := 5) (ret := none) (by decide) rfl ?_
  intro p e s m args below meth c s₁ B hml hv
  obtain ⟨rfl, hsz, hB0, hP, hK, hD0, hN, hT0⟩ := hv
  have hx := B.exec
  have hb := B.bytes
  have hr := B.returns
  have hts := atoms_spec (ws := w_Sha256_hash) B.pre
  have tbin : ∀ w ∈ tb, w ∈ w_Sha256_hash := fun w h => List.mem_cons_of_mem _ h
  have htb : ∀ w ∈ tb, w.before _ s = true := fun w h => hts w (tbin w h)
  have hown : s.vm.findClass "TrustChain$Sha256" = some m.cls := findClass_of_methodNamed B.named
  have hlocks := B.notSynchronized
  subst hsz
  have hD := hD0.self (sz := s.heap.size)
  generalize hAe : va_A [(q0, .inr (6, [.ref sc])), (sc, .inl (cI, 64, .inl g)), (h, .inr (0, [.ref t, .int (nI a), .int (nI b)])), (t, .inl (cB, n, .inl (tx u))), (su, .inl (cI, 8, .inl f))] s.heap.size = A at hD ⊢
  have hA : ∀ q : Nat, s.heap.size ≤ q → A q := fun q h => by rw [← hAe]; exact Or.inr h
  have hAs : ∀ q : Nat, A q → sb.1 ≤ q := fun q h => by
    rw [← hAe] at h
    rcases h with ⟨k, e, h⟩ | h
    · exact hD0.2 k _ h
    · exact Nat.le_trans hB0 h
  have hS : va_S A s.heap s.heap [] := va_S.rf
  have hcs : 0 ≤ (headSpec w_Sha256_hash ({ frames := 3, cells := 0, slots := 0, locals := 72 })).room.cells ∧ 0 ≤ (headSpec w_Sha256_hash ({ frames := 3, cells := 0, slots := 0, locals := 72 })).room.slots := ⟨Nat.le_refl _, Nat.le_refl _⟩
  have hP : va_P (dC, dI) classes [(q0, .inr (6, [.ref sc])), (sc, .inl (cI, 64, .inl g)), (h, .inr (0, [.ref t, .int (nI a), .int (nI b)])), (t, .inl (cB, n, .inl (tx u))), (su, .inl (cI, 8, .inl f))] s.heap := hP
  have hl := lv_entry ([.ref q0, .ref h, .ref su]) (n := 5) (Nat.le_of_ble_eq_true rfl)
  rw [lg_entry_eq]
  generalize (lg_sl ([.ref q0, .ref h, .ref su]) ++ List.replicate (5 - (lg_sl ([.ref q0, .ref h, .ref su])).length) Slot.unset).toArray = ls at hl ⊢
  have hl : lv_has ls 5 [(0, .ref q0), (1, .ref h), (2, .ref su)] := hl
  refine lv_aload_n hx hb d_Sha256_hash_0 rfl (lv_at hl 2 rfl) ?_
  refine va_alen (v := nI 8) hx hb hK hP 4 0 rfl rfl rfl d_Sha256_hash_1 ?_
  refine lv_bipush (v := 8) hx hb d_Sha256_hash_2 (by decide) ?_
  refine lv_icmp_eq (tgt := 8) hx hb d_Sha256_hash_4 (by decide) (fun c4 => ?_) (fun c4 => ?_)
  rotate_left
  · exact absurd rfl c4
  refine va_gets hx hb (hT0.2.2.1.1.narrow hAs) hS hown (htb _ q5_13) (fun _ h9 => h9) d_Sha256_hash_8 ?_
  refine lv_iconst (v := 0) hx hb d_Sha256_hash_11 (by decide) ?_
  refine lv_aload_n hx hb d_Sha256_hash_12 rfl (lv_at hl 2 rfl) ?_
  refine lv_iconst (v := 0) hx hb d_Sha256_hash_13 (by decide) ?_
  refine lv_bipush (v := 8) hx hb d_Sha256_hash_14 (by decide) ?_
  refine va_copyT (sp := 0) (dp := 0) (n := 8) (f := fun j => sv_START.getD j 0) hx hb (by rw [hml]; exact hl.1.symm) hown (htb _ q5_15) (htb _ q2_79) (htb _ q2_78) (htb _ q1_19) hK hP hD hS (hT0.2.2.1.2.narrow hAs) 4 0 rfl rfl (by decide) (by decide) (by decide) (by decide) (by decide) (Nat.le_of_ble_eq_true rfl) (Nat.le_of_ble_eq_true rfl) d_Sha256_hash_16 (fun H16 locs hP hD hS => ?_)
  have hP : va_P (dC, dI) classes [(q0, .inr (6, [.ref sc])), (sc, .inl (cI, 64, .inl g)), (h, .inr (0, [.ref t, .int (nI a), .int (nI b)])), (t, .inl (cB, n, .inl (tx u))), (su, .inl (cI, 8, .inl (va_cpy (fun j => sv_START.getD j 0) f 0 0 8)))] H16 := hP
  have hD : va_D A [(q0, .inr (6, [.ref sc])), (sc, .inl (cI, 64, .inl g)), (h, .inr (0, [.ref t, .int (nI a), .int (nI b)])), (t, .inl (cB, n, .inl (tx u))), (su, .inl (cI, 8, .inl (va_cpy (fun j => sv_START.getD j 0) f 0 0 8)))] := hD
  refine lv_aload_n hx hb d_Sha256_hash_19 rfl (lv_at hl 1 rfl) ?_
  refine vp_callSi (pu_callV (As := []) (rest := []) ⟨hx, hb, hml, hown, hts⟩ tbin (c_Slice_length l dC dI sb h t a b (by omega)) q5_16 q3_144 q3_145 q1_22 q3_146 (n := 0) (by decide +kernel) rfl ⟨rfl, rfl⟩ ⟨Nat.le_of_ble_eq_true rfl, Nat.le_of_ble_eq_true rfl⟩ ⟨Nat.le_of_ble_eq_true rfl, Nat.le_of_ble_eq_true rfl⟩ hN (hT0.keep hS hAs) hK hP [2] rfl [] rfl 2 0 rfl rfl rfl hl.1 rfl (Nat.le_of_ble_eq_true rfl) d_Sha256_hash_20) (fun r20 hr20 => ?_)
  subst hr20
  refine lv_bipush (v := 8) hx hb d_Sha256_hash_23 (by decide) ?_
  refine lv_iadd hx hb d_Sha256_hash_25 ?_
  rw [show ((nI (b - a)) + 8 : Int32) = nI ((b - a) + 8) from nI_add (b - a) 8]
  refine lv_bipush (v := 64) hx hb d_Sha256_hash_26 (by decide) ?_
  refine lv_idiv hx hb d_Sha256_hash_28 (by decide) ?_
  rw [show ((nI ((b - a) + 8)) / 64 : Int32) = nI (((b - a) + 8) / 64) from nI_idiv (a := ((b - a) + 8)) (b := 64) (by omega) (by omega) (by omega)]
  refine lv_iconst (v := 1) hx hb d_Sha256_hash_29 (by decide) ?_
  refine lv_iadd hx hb d_Sha256_hash_30 ?_
  rw [show ((nI (((b - a) + 8) / 64)) + 1 : Int32) = nI ((((b - a) + 8) / 64) + 1) from nI_add (((b - a) + 8) / 64) 1]
  refine lv_istore_n (lv' := [(3, .int (nI ((((b - a) + 8) / 64) + 1))), (0, .ref q0), (1, .ref h), (2, .ref su)]) hx hb d_Sha256_hash_31 rfl hl (by decide) rfl (fun ls hl => ?_)
  refine lv_iconst (v := 0) hx hb d_Sha256_hash_32 (by decide) ?_
  refine lv_istore (lv' := [(4, .int 0), (3, .int (nI ((((b - a) + 8) / 64) + 1))), (0, .ref q0), (1, .ref h), (2, .ref su)]) hx hb d_Sha256_hash_33 hl (by decide) rfl (fun ls hl => ?_)
  refine w_loopW (α := Nat) (fun k => k ≤ (b - a + 8) / 64 + 1) (fun k => (b - a + 8) / 64 + 1 - k) (fun k => [(0, .ref q0), (1, .ref h), (2, .ref su), (3, .int (nI ((b - a + 8) / 64 + 1))), (4, .int (nI k))]) (fun _ => []) (fun k => [(q0, .inr (6, [.ref sc])), (sc, .inl (cI, 64, .inl ((hs_n u a b tt (g, va_cpy (fun j => sv_START.getD j 0) f 0 0 8) k).1))), (h, .inr (0, [.ref t, .int (nI a), .int (nI b)])), (t, .inl (cB, n, .inl (tx u))), (su, .inl (cI, 8, .inl ((hs_n u a b tt (g, va_cpy (fun j => sv_START.getD j 0) f 0 0 8) k).2)))]) 5 35 (fun k HL35 locs ls hJ hP hD hS hl ih => ?_) 0 _ _ ls (Nat.zero_le _) hP hD hS (lv_sub hl [2, 3, 4, 1, 0] rfl)
  have hP : va_P (dC, dI) classes [(q0, .inr (6, [.ref sc])), (sc, .inl (cI, 64, .inl ((hs_n u a b tt (g, va_cpy (fun j => sv_START.getD j 0) f 0 0 8) k).1))), (h, .inr (0, [.ref t, .int (nI a), .int (nI b)])), (t, .inl (cB, n, .inl (tx u))), (su, .inl (cI, 8, .inl ((hs_n u a b tt (g, va_cpy (fun j => sv_START.getD j 0) f 0 0 8) k).2)))] HL35 := hP
  have hD : va_D A [(q0, .inr (6, [.ref sc])), (sc, .inl (cI, 64, .inl ((hs_n u a b tt (g, va_cpy (fun j => sv_START.getD j 0) f 0 0 8) k).1))), (h, .inr (0, [.ref t, .int (nI a), .int (nI b)])), (t, .inl (cB, n, .inl (tx u))), (su, .inl (cI, 8, .inl ((hs_n u a b tt (g, va_cpy (fun j => sv_START.getD j 0) f 0 0 8) k).2)))] := hD
  refine lv_iload hx hb d_Sha256_hash_35 (lv_at hl 4 rfl) ?_
  refine lv_iload_n hx hb d_Sha256_hash_37 rfl (lv_at hl 3 rfl) ?_
  refine lv_icmp_ge (tgt := 66) hx hb d_Sha256_hash_38 (by decide) (fun c38 => ?_) (fun c38 => ?_)
  · have p38 : ((b - a + 8) / 64 + 1) ≤ k := ((nI_leI (a := ((b - a + 8) / 64 + 1)) (b := k) (by omega) (by omega)).mp c38)
    have hke : k = hs_b (b - a) := by unfold hs_b; omega
    subst hke
    subst htt0
    exact W.vret hx hb hr (fun t ht hW => ⟨⟨(), rfl, trivial, by rw [ht]; exact hP, va_K.moved hW.alike hK, hD⟩, hS.F ht⟩) hS.2.2 d_Sha256_hash_66
  · have p38 : ¬ (((b - a + 8) / 64 + 1) ≤ k) := (fun q9 => c38 ((nI_leI (a := ((b - a + 8) / 64 + 1)) (b := k) (by omega) (by omega)).mpr q9))
    refine lv_aload_n hx hb d_Sha256_hash_41 rfl (lv_at hl 0 rfl) ?_
    refine lv_aload_n hx hb d_Sha256_hash_42 rfl (lv_at hl 1 rfl) ?_
    refine lv_iload hx hb d_Sha256_hash_43 (lv_at hl 4 rfl) ?_
    refine lv_bipush (v := 64) hx hb d_Sha256_hash_45 (by decide) ?_
    refine lv_imul hx hb d_Sha256_hash_47 ?_
    rw [show ((nI k) * 64 : Int32) = nI (k * 64) from nI_mul k 64]
    rw [show (nI (k * 64) : Int32) = nI (64 * k) from congrArg nI (Nat.mul_comm _ _)]
    refine lv_iload_n hx hb d_Sha256_hash_48 rfl (lv_at hl 3 rfl) ?_
    refine lv_bipush (v := 64) hx hb d_Sha256_hash_49 (by decide) ?_
    refine lv_imul hx hb d_Sha256_hash_51 ?_
    rw [show ((nI ((b - a + 8) / 64 + 1)) * 64 : Int32) = nI (((b - a + 8) / 64 + 1) * 64) from nI_mul ((b - a + 8) / 64 + 1) 64]
    rw [show (nI (((b - a + 8) / 64 + 1) * 64) : Int32) = nI tt from congrArg nI (by rw [htt0]; unfold hs_b; omega)]
    have hFc := va_free (wc := [(q0, .inr (6, [.ref sc])), (sc, .inl (cI, 64, .inl ((hs_n u a b tt (g, va_cpy (fun j => sv_START.getD j 0) f 0 0 8) k).1))), (h, .inr (0, [.ref t, .int (nI a), .int (nI b)])), (t, .inl (cB, n, .inl (tx u)))]) hD hS hA [0, 1, 2, 3] rfl
    refine va_callv (mu_runV (As := [.ref h, .int (nI (64 * k)), .int (nI tt)]) (rest := []) ⟨hx, hb, hml, hown, hts⟩ tbin (c_Sha256_fillSchedule l dC dI sb q0 sc h t a b n tt (64 * k) cI cB u (hs_n u a b tt (g, va_cpy (fun j => sv_START.getD j 0) f 0 0 8) k).1 HL35.size hu hab hbn (by omega) (by omega) htt) q5_17 q5_19 qp_14 q1_5 q5_20 (n := 3) (by decide +kernel) rfl ⟨rfl, rfl⟩ ⟨Nat.le_of_ble_eq_true rfl, Nat.le_of_ble_eq_true rfl⟩ ⟨Nat.le_of_ble_eq_true rfl, Nat.le_of_ble_eq_true rfl⟩ hN (hT0.keep hS hAs) hAs (Nat.le_trans hB0 hS.1) hK hP hD [0, 1, 2, 3] (by decide) rfl [0, 1] rfl 0 6 rfl rfl rfl hl.1 rfl (Nat.le_of_ble_eq_true rfl) d_Sha256_hash_52) hS (fun q _ h => hFc q h) hFc (fun u52 tS H52 locs ht hvm hw52 hB hz1 hk1 hS => ?_)
    obtain ⟨_, rfl⟩ : ∃ z, z = u52 := ⟨_, rfl⟩
    obtain ⟨hP1, hK1, hD1⟩ := hB
    rw [ht] at hP1
    obtain ⟨hP, hD⟩ := va_join (wr := [(su, .inl (cI, 8, .inl ((hs_n u a b tt (g, va_cpy (fun j => sv_START.getD j 0) f 0 0 8) k).2)))]) (w1 := [(q0, .inr (6, [.ref sc])), (sc, .inl (cI, 64, .inl (scG (fsG u a b tt (64 * k) (hs_n u a b tt (g, va_cpy (fun j => sv_START.getD j 0) f 0 0 8) k).1 16) 48))), (h, .inr (0, [.ref t, .int (nI a), .int (nI b)])), (t, .inl (cB, n, .inl (tx u)))]) hP hD [0, 1, 2, 3] [4] rfl rfl (by decide) (by decide) hk1 hFc hP1 hD1
    have hP : va_P (dC, dI) classes [(su, .inl (cI, 8, .inl ((hs_n u a b tt (g, va_cpy (fun j => sv_START.getD j 0) f 0 0 8) k).2))), (q0, .inr (6, [.ref sc])), (sc, .inl (cI, 64, .inl (scG (fsG u a b tt (64 * k) (hs_n u a b tt (g, va_cpy (fun j => sv_START.getD j 0) f 0 0 8) k).1 16) 48))), (h, .inr (0, [.ref t, .int (nI a), .int (nI b)])), (t, .inl (cB, n, .inl (tx u)))] H52 := hP
    have hD : va_D A [(su, .inl (cI, 8, .inl ((hs_n u a b tt (g, va_cpy (fun j => sv_START.getD j 0) f 0 0 8) k).2))), (q0, .inr (6, [.ref sc])), (sc, .inl (cI, 64, .inl (scG (fsG u a b tt (64 * k) (hs_n u a b tt (g, va_cpy (fun j => sv_START.getD j 0) f 0 0 8) k).1 16) 48))), (h, .inr (0, [.ref t, .int (nI a), .int (nI b)])), (t, .inl (cB, n, .inl (tx u)))] := hD
    refine lv_aload_n hx hb d_Sha256_hash_55 rfl (lv_at hl 0 rfl) ?_
    refine lv_aload_n hx hb d_Sha256_hash_56 rfl (lv_at hl 2 rfl) ?_
    have hFc := va_free (wc := [(q0, .inr (6, [.ref sc])), (sc, .inl (cI, 64, .inl (scG (fsG u a b tt (64 * k) (hs_n u a b tt (g, va_cpy (fun j => sv_START.getD j 0) f 0 0 8) k).1 16) 48))), (su, .inl (cI, 8, .inl ((hs_n u a b tt (g, va_cpy (fun j => sv_START.getD j 0) f 0 0 8) k).2)))]) hD hS hA [1, 2, 0] rfl
    refine va_callv (mu_runV (As := [.ref su]) (rest := []) ⟨hx, hb, hml, hown, hts⟩ tbin (c_Sha256_mix l dC dI sb q0 sc su cI (hs_n u a b tt (g, va_cpy (fun j => sv_START.getD j 0) f 0 0 8) k).2 (scG (fsG u a b tt (64 * k) (hs_n u a b tt (g, va_cpy (fun j => sv_START.getD j 0) f 0 0 8) k).1 16) 48) H52.size) q5_28 q5_30 qp_15 q1_5 q5_31 (n := 1) (by decide +kernel) rfl ⟨rfl, rfl⟩ ⟨Nat.le_of_ble_eq_true rfl, Nat.le_of_ble_eq_true rfl⟩ ⟨Nat.le_of_ble_eq_true rfl, Nat.le_of_ble_eq_true rfl⟩ hN (hT0.keep hS hAs) hAs (Nat.le_trans hB0 hS.1) hK hP hD [1, 2, 0] (by decide) rfl [0] rfl 1 6 rfl rfl rfl hl.1 rfl (Nat.le_of_ble_eq_true rfl) d_Sha256_hash_57) hS (fun q _ h => hFc q h) hFc (fun u57 tS H57 locs ht hvm hw57 hB hz1 hk1 hS => ?_)
    obtain ⟨u57, rfl⟩ : ∃ z, z = u57 := ⟨_, rfl⟩
    obtain ⟨hP1, hK1, hD1⟩ := hB
    rw [ht] at hP1
    obtain ⟨hP, hD⟩ := va_join (wr := [(h, .inr (0, [.ref t, .int (nI a), .int (nI b)])), (t, .inl (cB, n, .inl (tx u)))]) (w1 := [(q0, .inr (6, [.ref sc])), (sc, .inl (cI, 64, .inl (scG (fsG u a b tt (64 * k) (hs_n u a b tt (g, va_cpy (fun j => sv_START.getD j 0) f 0 0 8) k).1 16) 48))), (su, .inl (cI, 8, .inl (shAdd (hs_n u a b tt (g, va_cpy (fun j => sv_START.getD j 0) f 0 0 8) k).2 u57)))]) hP hD [1, 2, 0] [3, 4] rfl rfl (by decide) (by decide) hk1 hFc hP1 hD1
    have hP : va_P (dC, dI) classes [(h, .inr (0, [.ref t, .int (nI a), .int (nI b)])), (t, .inl (cB, n, .inl (tx u))), (q0, .inr (6, [.ref sc])), (sc, .inl (cI, 64, .inl (scG (fsG u a b tt (64 * k) (hs_n u a b tt (g, va_cpy (fun j => sv_START.getD j 0) f 0 0 8) k).1 16) 48))), (su, .inl (cI, 8, .inl (shAdd (hs_n u a b tt (g, va_cpy (fun j => sv_START.getD j 0) f 0 0 8) k).2 u57)))] H57 := hP
    have hD : va_D A [(h, .inr (0, [.ref t, .int (nI a), .int (nI b)])), (t, .inl (cB, n, .inl (tx u))), (q0, .inr (6, [.ref sc])), (sc, .inl (cI, 64, .inl (scG (fsG u a b tt (64 * k) (hs_n u a b tt (g, va_cpy (fun j => sv_START.getD j 0) f 0 0 8) k).1 16) 48))), (su, .inl (cI, 8, .inl (shAdd (hs_n u a b tt (g, va_cpy (fun j => sv_START.getD j 0) f 0 0 8) k).2 u57)))] := hD
    have hw57 : u57 = shG (scG (fsG u a b tt (64 * k) (hs_n u a b tt (g, va_cpy (fun j => sv_START.getD j 0) f 0 0 8) k).1 16) 48) (sh0 (hs_n u a b tt (g, va_cpy (fun j => sv_START.getD j 0) f 0 0 8) k).2) 64 := hw57
    subst hw57
    refine lv_iinc (v := nI (k + 1)) (lv' := [(4, .int (nI (k + 1))), (0, .ref q0), (1, .ref h), (2, .ref su), (3, .int (nI ((b - a + 8) / 64 + 1)))]) hx hb d_Sha256_hash_60 hl (k := 4) rfl (nI_1 _) (by decide) rfl (fun ls hl => ?_)
    refine lv_goto (tgt := 35) hx hb d_Sha256_hash_63 (by decide) ?_
    exact ih (k + 1) _ _ ls (by omega) (by omega) (hP.sub [2, 3, 0, 1, 4] rfl) (hD.sub [2, 3, 0, 1, 4] (by decide) rfl) hS (lv_sub hl [1, 2, 3, 4, 0] rfl)
