/-! Reader.algorithm. -/
def pk1 (u : Nat → Nat) (n a k : Nat) : Prop := ∀ j, j < k → oc u n (a + j) = sv_PKCS1.getD j 0
theorem pk1_0 {u : Nat → Nat} {n a : Nat} : pk1 u n a 0 := fun j h => absurd h (Nat.not_lt_zero j)
theorem pk1_s {u : Nat → Nat} {n a k : Nat} (h : pk1 u n a k) (e : oc u n (a + k) = sv_PKCS1.getD k 0) : pk1 u n a (k + 1) := fun j hj => by
  rcases Nat.lt_succ_iff_lt_or_eq.mp hj with q | q
  · exact h j q
  · rw [q]; exact e
def alg0 (u : Nat → Nat) (n a b la : Nat) : Prop := b - a = 9 ∧ oc u n (b - 1) = nI la
def algOK (u : Nat → Nat) (n a b la : Nat) : Prop := alg0 u n a b la ∧ pk1 u n a 8
noncomputable def rd_alg (u : Nat → Nat) (n : Nat) (x : rS) (la en : Nat) : rS :=
  let o := rd_opn u n x 48 en
  let d := rd_opn u n o.1 6 o.2
  let x1 := rd_lea d.1 d.2 (zP (algOK u n d.1.1 d.2 la))
  let f := rd_opn u n x1 5 o.2
  rd_fin (rd_lea f.1 f.2 (zP (f.2 = f.1.1))) o.2
theorem alg_inv {u : Nat → Nat} {n la en : Nat} {x : rS} (h : rdInv n x) (he : en ≤ n) : rdInv n (rd_alg u n x la en) := by
  have h1 := opn_inv (u := u) (tg := 48) h he
  have h2 := opn_inv (u := u) (tg := 6) h1.1 h1.2.2.1
  have h3 := opn_inv (u := u) (tg := 5) (lea_inv (bv := zP (algOK u n (rd_opn u n (rd_opn u n x 48 en).1 6 (rd_opn u n x 48 en).2).1.1 (rd_opn u n (rd_opn u n x 48 en).1 6 (rd_opn u n x 48 en).2).2 la)) h2.1 h2.2.2.1) h1.2.2.1
  exact fin_inv (lea_inv h3.1 h3.2.2.1)

def y_Reader_algorithm : MethodName := ⟨"TrustChain$Reader", "algorithm", "(II)V"⟩
abbrev b_Reader_algorithm : ByteArray := prog_8_method_16_code
def w_Reader_algorithm : List Cond := Cond.code y_Reader_algorithm b_Reader_algorithm 7 (none) :: tb
theorem d_Reader_algorithm_0 : decode b_Reader_algorithm 0 = .ok (.aload_n 0, 1) := by decide +kernel
theorem d_Reader_algorithm_1 : decode b_Reader_algorithm 1 = .ok (.bipush 48, 2) := by decide +kernel
theorem d_Reader_algorithm_3 : decode b_Reader_algorithm 3 = .ok (.iload_n 2, 1) := by decide +kernel
theorem d_Reader_algorithm_4 : decode b_Reader_algorithm 4 = .ok (.invokevirtual 49, 3) := by decide +kernel
theorem d_Reader_algorithm_7 : decode b_Reader_algorithm 7 = .ok (.istore_n 3, 1) := by decide +kernel
theorem d_Reader_algorithm_8 : decode b_Reader_algorithm 8 = .ok (.aload_n 0, 1) := by decide +kernel
theorem d_Reader_algorithm_9 : decode b_Reader_algorithm 9 = .ok (.bipush 6, 2) := by decide +kernel
theorem d_Reader_algorithm_11 : decode b_Reader_algorithm 11 = .ok (.iload_n 3, 1) := by decide +kernel
theorem d_Reader_algorithm_12 : decode b_Reader_algorithm 12 = .ok (.invokevirtual 49, 3) := by decide +kernel
theorem d_Reader_algorithm_15 : decode b_Reader_algorithm 15 = .ok (.istore 4, 2) := by decide +kernel
theorem d_Reader_algorithm_17 : decode b_Reader_algorithm 17 = .ok (.iload 4, 2) := by decide +kernel
theorem d_Reader_algorithm_19 : decode b_Reader_algorithm 19 = .ok (.aload_n 0, 1) := by decide +kernel
theorem d_Reader_algorithm_20 : decode b_Reader_algorithm 20 = .ok (.getfield 9, 3) := by decide +kernel
theorem d_Reader_algorithm_23 : decode b_Reader_algorithm 23 = .ok (.isub, 1) := by decide +kernel
theorem d_Reader_algorithm_24 : decode b_Reader_algorithm 24 = .ok (.getstatic 77, 3) := by decide +kernel
theorem d_Reader_algorithm_27 : decode b_Reader_algorithm 27 = .ok (.arraylength, 1) := by decide +kernel
theorem d_Reader_algorithm_28 : decode b_Reader_algorithm 28 = .ok (.iconst 1, 1) := by decide +kernel
theorem d_Reader_algorithm_29 : decode b_Reader_algorithm 29 = .ok (.iadd, 1) := by decide +kernel
theorem d_Reader_algorithm_30 : decode b_Reader_algorithm 30 = .ok (.if_icmp .ne 19, 3) := by decide +kernel
theorem d_Reader_algorithm_33 : decode b_Reader_algorithm 33 = .ok (.aload_n 0, 1) := by decide +kernel
theorem d_Reader_algorithm_34 : decode b_Reader_algorithm 34 = .ok (.iload 4, 2) := by decide +kernel
theorem d_Reader_algorithm_36 : decode b_Reader_algorithm 36 = .ok (.iconst 1, 1) := by decide +kernel
theorem d_Reader_algorithm_37 : decode b_Reader_algorithm 37 = .ok (.isub, 1) := by decide +kernel
theorem d_Reader_algorithm_38 : decode b_Reader_algorithm 38 = .ok (.invokevirtual 45, 3) := by decide +kernel
theorem d_Reader_algorithm_41 : decode b_Reader_algorithm 41 = .ok (.iload_n 1, 1) := by decide +kernel
theorem d_Reader_algorithm_42 : decode b_Reader_algorithm 42 = .ok (.if_icmp .ne 7, 3) := by decide +kernel
theorem d_Reader_algorithm_45 : decode b_Reader_algorithm 45 = .ok (.iconst 1, 1) := by decide +kernel
theorem d_Reader_algorithm_46 : decode b_Reader_algorithm 46 = .ok (.goto 4, 3) := by decide +kernel
theorem d_Reader_algorithm_49 : decode b_Reader_algorithm 49 = .ok (.iconst 0, 1) := by decide +kernel
theorem d_Reader_algorithm_50 : decode b_Reader_algorithm 50 = .ok (.istore 5, 2) := by decide +kernel
theorem d_Reader_algorithm_52 : decode b_Reader_algorithm 52 = .ok (.iconst 0, 1) := by decide +kernel
theorem d_Reader_algorithm_53 : decode b_Reader_algorithm 53 = .ok (.istore 6, 2) := by decide +kernel
theorem d_Reader_algorithm_55 : decode b_Reader_algorithm 55 = .ok (.iload 6, 2) := by decide +kernel
theorem d_Reader_algorithm_57 : decode b_Reader_algorithm 57 = .ok (.getstatic 77, 3) := by decide +kernel
theorem d_Reader_algorithm_60 : decode b_Reader_algorithm 60 = .ok (.arraylength, 1) := by decide +kernel
theorem d_Reader_algorithm_61 : decode b_Reader_algorithm 61 = .ok (.if_icmp .ge 41, 3) := by decide +kernel
theorem d_Reader_algorithm_64 : decode b_Reader_algorithm 64 = .ok (.iload 5, 2) := by decide +kernel
theorem d_Reader_algorithm_66 : decode b_Reader_algorithm 66 = .ok (.ifCond .eq 27, 3) := by decide +kernel
theorem d_Reader_algorithm_69 : decode b_Reader_algorithm 69 = .ok (.aload_n 0, 1) := by decide +kernel
theorem d_Reader_algorithm_70 : decode b_Reader_algorithm 70 = .ok (.aload_n 0, 1) := by decide +kernel
theorem d_Reader_algorithm_71 : decode b_Reader_algorithm 71 = .ok (.getfield 9, 3) := by decide +kernel
theorem d_Reader_algorithm_74 : decode b_Reader_algorithm 74 = .ok (.iload 6, 2) := by decide +kernel
theorem d_Reader_algorithm_76 : decode b_Reader_algorithm 76 = .ok (.iadd, 1) := by decide +kernel
theorem d_Reader_algorithm_77 : decode b_Reader_algorithm 77 = .ok (.invokevirtual 45, 3) := by decide +kernel
theorem d_Reader_algorithm_80 : decode b_Reader_algorithm 80 = .ok (.getstatic 77, 3) := by decide +kernel
theorem d_Reader_algorithm_83 : decode b_Reader_algorithm 83 = .ok (.iload 6, 2) := by decide +kernel
theorem d_Reader_algorithm_85 : decode b_Reader_algorithm 85 = .ok (.iaload, 1) := by decide +kernel
theorem d_Reader_algorithm_86 : decode b_Reader_algorithm 86 = .ok (.if_icmp .ne 7, 3) := by decide +kernel
theorem d_Reader_algorithm_89 : decode b_Reader_algorithm 89 = .ok (.iconst 1, 1) := by decide +kernel
theorem d_Reader_algorithm_90 : decode b_Reader_algorithm 90 = .ok (.goto 4, 3) := by decide +kernel
theorem d_Reader_algorithm_93 : decode b_Reader_algorithm 93 = .ok (.iconst 0, 1) := by decide +kernel
theorem d_Reader_algorithm_94 : decode b_Reader_algorithm 94 = .ok (.istore 5, 2) := by decide +kernel
theorem d_Reader_algorithm_96 : decode b_Reader_algorithm 96 = .ok (.iinc 6 1, 3) := by decide +kernel
theorem d_Reader_algorithm_99 : decode b_Reader_algorithm 99 = .ok (.goto (-44), 3) := by decide +kernel
theorem d_Reader_algorithm_102 : decode b_Reader_algorithm 102 = .ok (.aload_n 0, 1) := by decide +kernel
theorem d_Reader_algorithm_103 : decode b_Reader_algorithm 103 = .ok (.iload 4, 2) := by decide +kernel
theorem d_Reader_algorithm_105 : decode b_Reader_algorithm 105 = .ok (.iload 5, 2) := by decide +kernel
theorem d_Reader_algorithm_107 : decode b_Reader_algorithm 107 = .ok (.invokevirtual 53, 3) := by decide +kernel
theorem d_Reader_algorithm_110 : decode b_Reader_algorithm 110 = .ok (.aload_n 0, 1) := by decide +kernel
theorem d_Reader_algorithm_111 : decode b_Reader_algorithm 111 = .ok (.iconst 5, 1) := by decide +kernel
theorem d_Reader_algorithm_112 : decode b_Reader_algorithm 112 = .ok (.iload_n 3, 1) := by decide +kernel
theorem d_Reader_algorithm_113 : decode b_Reader_algorithm 113 = .ok (.invokevirtual 49, 3) := by decide +kernel
theorem d_Reader_algorithm_116 : decode b_Reader_algorithm 116 = .ok (.istore 6, 2) := by decide +kernel
theorem d_Reader_algorithm_118 : decode b_Reader_algorithm 118 = .ok (.aload_n 0, 1) := by decide +kernel
theorem d_Reader_algorithm_119 : decode b_Reader_algorithm 119 = .ok (.iload 6, 2) := by decide +kernel
theorem d_Reader_algorithm_121 : decode b_Reader_algorithm 121 = .ok (.iload 6, 2) := by decide +kernel
theorem d_Reader_algorithm_123 : decode b_Reader_algorithm 123 = .ok (.aload_n 0, 1) := by decide +kernel
theorem d_Reader_algorithm_124 : decode b_Reader_algorithm 124 = .ok (.getfield 9, 3) := by decide +kernel
theorem d_Reader_algorithm_127 : decode b_Reader_algorithm 127 = .ok (.if_icmp .ne 7, 3) := by decide +kernel
theorem d_Reader_algorithm_130 : decode b_Reader_algorithm 130 = .ok (.iconst 1, 1) := by decide +kernel
theorem d_Reader_algorithm_131 : decode b_Reader_algorithm 131 = .ok (.goto 4, 3) := by decide +kernel
theorem d_Reader_algorithm_134 : decode b_Reader_algorithm 134 = .ok (.iconst 0, 1) := by decide +kernel
theorem d_Reader_algorithm_135 : decode b_Reader_algorithm 135 = .ok (.invokevirtual 53, 3) := by decide +kernel
theorem d_Reader_algorithm_138 : decode b_Reader_algorithm 138 = .ok (.aload_n 0, 1) := by decide +kernel
theorem d_Reader_algorithm_139 : decode b_Reader_algorithm 139 = .ok (.iload_n 3, 1) := by decide +kernel
theorem d_Reader_algorithm_140 : decode b_Reader_algorithm 140 = .ok (.invokevirtual 81, 3) := by decide +kernel
theorem d_Reader_algorithm_143 : decode b_Reader_algorithm 143 = .ok (.return_, 1) := by decide +kernel
set_option maxHeartbeats 4000000 in
set_option maxRecDepth 100000 in
theorem cC_algorithm (l : Launch) (dC : Nat → ClassId) (dI : Nat → Nat → Nat) (sb : sB) (h res t ki n : Nat) (x : rS) (pa ma ex ie : Int32) (cB : ClassId) (u : Nat → Nat) (la en : Nat) (sz : Nat) (hu : ∀ j, u j < 256) (hn : n < 2 ^ 30) (hi : rdInv n x) (he : en ≤ n) (hla : la < 256) : Met l y_Reader_algorithm w_Reader_algorithm ({ frames := 2, cells := 0, slots := 0, locals := 46 }) (mu_P [.ref h, .int (nI la), .int (nI en)] (dC, dI) sb [(h, .inr (4, [.ref res, .ref t, .int (nI x.1), .int (nI x.2.1), .int (wI x.2.2), .int pa, .int ma, .int ex, .ref ki])), (t, .inl (cB, n, .inl (tx u)))] [(cB, .byte)] sz) (va_Qv (fun (u' : rS) => u' = rd_alg u n x la en) (mu_B (dC, dI) [(cB, .byte)] (va_A [(h, .inr (4, [.ref res, .ref t, .int (nI x.1), .int (nI x.2.1), .int (wI x.2.2), .int pa, .int ma, .int ex, .ref ki])), (t, .inl (cB, n, .inl (tx u)))] sz) (fun u' : rS => [(h, .inr (4, [.ref res, .ref t, .int (nI u'.1), .int (nI u'.2.1), .int (wI u'.2.2), .int pa, .int ma, .int ex, .ref ki])), (t, .inl (cB, n, .inl (tx u)))])) (va_A [(h, .inr (4, [.ref res, .ref t, .int (nI x.1), .int (nI x.2.1), .int (wI x.2.2), .int pa, .int ma, .int ex, .ref ki])), (t, .inl (cB, n, .inl (tx u)))] sz)) 0 0 (va_A [(h, .inr (4, [.ref res, .ref t, .int (nI x.1), .int (nI x.2.1), .int (wI x.2.2), .int pa, .int ma, .int ex, .ref ki])), (t, .inl (cB, n, .inl (tx u)))] sz) := by
  refine Met.ofW (cc := b_Reader_algorithm) (maxL := 7) (ret := none) (by decide) rfl ?_
  intro p e s m args below meth c s₁ B hml hv
  obtain ⟨rfl, hsz, hB0, hP, hK, hD0, hN, hT0⟩ := hv
  have hx := B.exec
  have hb := B.bytes
  have hr := B.returns
  have hts := atoms_spec (ws := w_Reader_algorithm) B.pre
  have tbin : ∀ w ∈ tb, w ∈ w_Reader_algorithm := fun w h => List.mem_cons_of_mem _ h
  have htb : ∀ w ∈ tb, w.before _ s = true := fun w h => hts w (tbin w h)
  have hown : s.vm.findClass "TrustChain$Reader" = some m.cls := findClass_of_methodNamed B.named
  have hlocks := B.notSynchronized
  subst hsz
  have hD := hD0.self (sz := s.heap.size)
  generalize hAe : va_A [(h, .inr (4, [.ref res, .ref t, .int (nI x.1), .int (nI x.2.1), .int (wI x.2.2), .int pa, .int ma, .int ex, .ref ki])), (t, .inl (cB, n, .inl (tx u)))] s.heap.size = A at hD ⊢
  have hA : ∀ q : Nat, s.heap.size ≤ q → A q := fun q h => by rw [← hAe]; exact Or.inr h
  have hAs : ∀ q : Nat, A q → sb.1 ≤ q := fun q h => by
    rw [← hAe] at h
    rcases h with ⟨k, e, h⟩ | h
    · exact hD0.2 k _ h
    · exact Nat.le_trans hB0 h
  have hS : va_S A s.heap s.heap [] := va_S.rf
  have hcs : 0 ≤ (headSpec w_Reader_algorithm ({ frames := 2, cells := 0, slots := 0, locals := 46 })).room.cells ∧ 0 ≤ (headSpec w_Reader_algorithm ({ frames := 2, cells := 0, slots := 0, locals := 46 })).room.slots := ⟨Nat.le_refl _, Nat.le_refl _⟩
  have hP : va_P (dC, dI) classes [(h, .inr (4, [.ref res, .ref t, .int (nI x.1), .int (nI x.2.1), .int (wI x.2.2), .int pa, .int ma, .int ex, .ref ki])), (t, .inl (cB, n, .inl (tx u)))] s.heap := hP
  have hl := lv_entry ([.ref h, .int (nI la), .int (nI en)]) (n := 7) (Nat.le_of_ble_eq_true rfl)
  rw [lg_entry_eq]
  generalize (lg_sl ([.ref h, .int (nI la), .int (nI en)]) ++ List.replicate (7 - (lg_sl ([.ref h, .int (nI la), .int (nI en)])).length) Slot.unset).toArray = ls at hl ⊢
  have hl : lv_has ls 7 [(0, .ref h), (1, .int (nI la)), (2, .int (nI en))] := hl
  refine lv_aload_n hx hb d_Reader_algorithm_0 rfl (lv_at hl 0 rfl) ?_
  refine lv_bipush (v := 48) hx hb d_Reader_algorithm_1 (by decide) ?_
  refine lv_iload_n hx hb d_Reader_algorithm_3 rfl (lv_at hl 2 rfl) ?_
  have hFc := va_free (wc := [(h, .inr (4, [.ref res, .ref t, .int (nI x.1), .int (nI x.2.1), .int (wI x.2.2), .int pa, .int ma, .int ex, .ref ki])), (t, .inl (cB, n, .inl (tx u)))]) hD hS hA [0, 1] rfl
  refine va_calli (mu_runU (As := [.int 48, .int (nI en)]) (rest := []) ⟨hx, hb, hml, hown, hts⟩ (cC_open l dC dI sb h res t ki x.1 x.2.1 n x.2.2 pa ma ex ie cB u 48 en s.heap.size hu hn ((hi).w hn) he (hi).1 (by decide)) (cu_of (n := 2) hts tbin q3_130 q9_192 q3_112 q9_193 q1_15 q3_113 rfl (by decide +kernel) ⟨rfl, rfl⟩ ⟨Nat.le_of_ble_eq_true rfl, Nat.le_of_ble_eq_true rfl⟩) rfl ⟨Nat.le_of_ble_eq_true rfl, Nat.le_of_ble_eq_true rfl⟩ hN (hT0.keep hS hAs) hAs (Nat.le_trans hB0 hS.1) hK hP hD [0, 1] (by decide) rfl [0] rfl 0 4 rfl rfl rfl hl.1 rfl (Nat.le_of_ble_eq_true rfl) d_Reader_algorithm_4) hS (fun q _ h => hFc q h) hFc (fun r4 u4 tS H4 locs ht hvm hw4 hB hz1 hk1 hS => ?_)
  obtain ⟨x4, rfl⟩ : ∃ z, z = u4 := ⟨_, rfl⟩
  obtain ⟨hP1, hK1, hD1⟩ := hB
  rw [ht] at hP1
  obtain ⟨hP, hD⟩ := va_join (wr := []) (w1 := [(h, .inr (4, [.ref res, .ref t, .int (nI x4.1), .int (nI x4.2.1), .int (wI x4.2.2), .int pa, .int ma, .int ex, .ref ki])), (t, .inl (cB, n, .inl (tx u)))]) hP hD [0, 1] [] rfl rfl (by decide) (by decide) hk1 hFc hP1 hD1
  have hP : va_P (dC, dI) classes [(h, .inr (4, [.ref res, .ref t, .int (nI x4.1), .int (nI x4.2.1), .int (wI x4.2.2), .int pa, .int ma, .int ex, .ref ki])), (t, .inl (cB, n, .inl (tx u)))] H4 := hP
  have hD : va_D A [(h, .inr (4, [.ref res, .ref t, .int (nI x4.1), .int (nI x4.2.1), .int (wI x4.2.2), .int pa, .int ma, .int ex, .ref ki])), (t, .inl (cB, n, .inl (tx u)))] := hD
  have hw4 : x4 = (rd_opn u n x 48 en).1 ∧ r4 = nI (rd_opn u n x 48 en).2 := hw4
  have hi4 := opn_inv (u := u) (tg := 48) hi he
  obtain ⟨o4, ho4⟩ : ∃ o, o = rd_opn u n x 48 en := ⟨_, rfl⟩
  rw [← ho4] at hw4 hi4
  obtain ⟨rfl, rfl⟩ := hw4
  have hP : va_P (dC, dI) classes [(h, .inr (4, [.ref res, .ref t, .int (nI o4.1.1), .int (nI o4.1.2.1), .int (wI o4.1.2.2), .int pa, .int ma, .int ex, .ref ki])), (t, .inl (cB, n, .inl (tx u)))] H4 := hP
  have hD : va_D A [(h, .inr (4, [.ref res, .ref t, .int (nI o4.1.1), .int (nI o4.1.2.1), .int (wI o4.1.2.2), .int pa, .int ma, .int ex, .ref ki])), (t, .inl (cB, n, .inl (tx u)))] := hD
  refine lv_istore_n (lv' := [(3, .int (nI o4.2)), (0, .ref h), (1, .int (nI la)), (2, .int (nI en))]) hx hb d_Reader_algorithm_7 rfl hl (by decide) rfl (fun ls hl => ?_)
  refine lv_aload_n hx hb d_Reader_algorithm_8 rfl (lv_at hl 1 rfl) ?_
  refine lv_bipush (v := 6) hx hb d_Reader_algorithm_9 (by decide) ?_
  refine lv_iload_n hx hb d_Reader_algorithm_11 rfl (lv_at hl 0 rfl) ?_
  have hFc := va_free (wc := [(h, .inr (4, [.ref res, .ref t, .int (nI o4.1.1), .int (nI o4.1.2.1), .int (wI o4.1.2.2), .int pa, .int ma, .int ex, .ref ki])), (t, .inl (cB, n, .inl (tx u)))]) hD hS hA [0, 1] rfl
  refine va_calli (mu_runU (As := [.int 6, .int (nI o4.2)]) (rest := []) ⟨hx, hb, hml, hown, hts⟩ (cC_open l dC dI sb h res t ki o4.1.1 o4.1.2.1 n o4.1.2.2 pa ma ex ie cB u 6 o4.2 H4.size hu hn ((hi4.1).w hn) hi4.2.2.1 (hi4.1).1 (by decide)) (cu_of (n := 2) hts tbin q3_130 q9_192 q3_112 q9_193 q1_15 q3_113 rfl (by decide +kernel) ⟨rfl, rfl⟩ ⟨Nat.le_of_ble_eq_true rfl, Nat.le_of_ble_eq_true rfl⟩) rfl ⟨Nat.le_of_ble_eq_true rfl, Nat.le_of_ble_eq_true rfl⟩ hN (hT0.keep hS hAs) hAs (Nat.le_trans hB0 hS.1) hK hP hD [0, 1] (by decide) rfl [0] rfl 0 4 rfl rfl rfl hl.1 rfl (Nat.le_of_ble_eq_true rfl) d_Reader_algorithm_12) hS (fun q _ h => hFc q h) hFc (fun r12 u12 tS H12 locs ht hvm hw12 hB hz1 hk1 hS => ?_)
  obtain ⟨x12, rfl⟩ : ∃ z, z = u12 := ⟨_, rfl⟩
  obtain ⟨hP1, hK1, hD1⟩ := hB
  rw [ht] at hP1
  obtain ⟨hP, hD⟩ := va_join (wr := []) (w1 := [(h, .inr (4, [.ref res, .ref t, .int (nI x12.1), .int (nI x12.2.1), .int (wI x12.2.2), .int pa, .int ma, .int ex, .ref ki])), (t, .inl (cB, n, .inl (tx u)))]) hP hD [0, 1] [] rfl rfl (by decide) (by decide) hk1 hFc hP1 hD1
  have hP : va_P (dC, dI) classes [(h, .inr (4, [.ref res, .ref t, .int (nI x12.1), .int (nI x12.2.1), .int (wI x12.2.2), .int pa, .int ma, .int ex, .ref ki])), (t, .inl (cB, n, .inl (tx u)))] H12 := hP
  have hD : va_D A [(h, .inr (4, [.ref res, .ref t, .int (nI x12.1), .int (nI x12.2.1), .int (wI x12.2.2), .int pa, .int ma, .int ex, .ref ki])), (t, .inl (cB, n, .inl (tx u)))] := hD
  have hw12 : x12 = (rd_opn u n o4.1 6 o4.2).1 ∧ r12 = nI (rd_opn u n o4.1 6 o4.2).2 := hw12
  have hi12 := opn_inv (u := u) (tg := 6) hi4.1 hi4.2.2.1
  obtain ⟨o12, ho12⟩ : ∃ o, o = rd_opn u n o4.1 6 o4.2 := ⟨_, rfl⟩
  rw [← ho12] at hw12 hi12
  obtain ⟨rfl, rfl⟩ := hw12
  have hP : va_P (dC, dI) classes [(h, .inr (4, [.ref res, .ref t, .int (nI o12.1.1), .int (nI o12.1.2.1), .int (wI o12.1.2.2), .int pa, .int ma, .int ex, .ref ki])), (t, .inl (cB, n, .inl (tx u)))] H12 := hP
  have hD : va_D A [(h, .inr (4, [.ref res, .ref t, .int (nI o12.1.1), .int (nI o12.1.2.1), .int (wI o12.1.2.2), .int pa, .int ma, .int ex, .ref ki])), (t, .inl (cB, n, .inl (tx u)))] := hD
  refine lv_istore (lv' := [(4, .int (nI o12.2)), (3, .int (nI o4.2)), (0, .ref h), (1, .int (nI la)), (2, .int (nI en))]) hx hb d_Reader_algorithm_15 hl (by decide) rfl (fun ls hl => ?_)
  have hb1 := hi12.1.1
  have hb2 := hi12.2.1
  have hb3 := hi12.2.2.1
  refine w_join (J := fun v => bz v (alg0 u n o12.1.1 o12.2 la ∧ pk1 u n o12.1.1 0)) (pc := 50) (ls := ls) (rest := []) (fun v hv => ?_) (fun k50 => ?_)
  · skip
    refine lv_istore (lv' := [(5, .int v), (4, .int (nI o12.2)), (3, .int (nI o4.2)), (0, .ref h), (1, .int (nI la)), (2, .int (nI en))]) hx hb d_Reader_algorithm_50 hl (by decide) rfl (fun ls hl => ?_)
    refine lv_iconst (v := 0) hx hb d_Reader_algorithm_52 (by decide) ?_
    refine lv_istore (lv' := [(6, .int 0), (5, .int v), (4, .int (nI o12.2)), (3, .int (nI o4.2)), (0, .ref h), (1, .int (nI la)), (2, .int (nI en))]) hx hb d_Reader_algorithm_53 hl (by decide) rfl (fun ls hl => ?_)
    refine w_loop (α := Nat × Int32) (fun z => z.1 ≤ 8 ∧ bz z.2 (alg0 u n o12.1.1 o12.2 la ∧ pk1 u n o12.1.1 z.1)) (fun z => 8 - z.1) (fun z => [(0, .ref h), (1, .int (nI la)), (2, .int (nI en)), (3, .int (nI o4.2)), (4, .int (nI o12.2)), (5, .int z.2), (6, .int (nI (z.1)))]) (fun _ => []) 7 55 (fun z ls hJ hl ih => ?_) (0, v) ls (⟨Nat.zero_le _, hv⟩) (lv_sub hl [4, 5, 6, 3, 2, 1, 0] rfl)
    refine lv_iload hx hb d_Reader_algorithm_55 (lv_at hl 6 rfl) ?_
    refine va_gets hx hb (hT0.1.1.narrow hAs) hS hown (htb _ q3_181) (fun _ h9 => h9) d_Reader_algorithm_57 ?_
    refine va_tlen (v := 8) hx hb (hT0.1.2.narrow hAs) hS rfl d_Reader_algorithm_60 ?_
    refine lv_icmp_ge (tgt := 102) hx hb d_Reader_algorithm_61 (by decide) (fun c61 => ?_) (fun c61 => ?_)
    · have hke : z.1 = 8 := by rw [show (8 : Int32) = nI 8 from rfl, nI_leI (by omega) (by omega)] at c61; omega
      have hz2 : z.2 = zP (algOK u n o12.1.1 o12.2 la) := bz_zP (by have h := hJ.2; rw [hke] at h; exact h)
      refine lv_aload_n hx hb d_Reader_algorithm_102 rfl (lv_at hl 0 rfl) ?_
      refine lv_iload hx hb d_Reader_algorithm_103 (lv_at hl 4 rfl) ?_
      refine lv_iload hx hb d_Reader_algorithm_105 (lv_at hl 5 rfl) ?_
      have hFc := va_free (wc := [(h, .inr (4, [.ref res, .ref t, .int (nI o12.1.1), .int (nI o12.1.2.1), .int (wI o12.1.2.2), .int pa, .int ma, .int ex, .ref ki]))]) hD hS hA [0] rfl
      refine va_callv (mu_runU (As := [.int (nI o12.2), .int z.2]) (rest := []) ⟨hx, hb, hml, hown, hts⟩ (cC_leave l dC dI sb h res t ki o12.1.1 o12.1.2.1 n o12.1.2.2 pa ma ex ie cB u o12.2 z.2 H12.size ((hi12.1).w hn)) (cu_of (n := 2) hts tbin q3_131 q3_133 q3_132 q3_134 q1_15 q3_136 rfl (by decide +kernel) ⟨rfl, rfl⟩ ⟨Nat.le_of_ble_eq_true rfl, Nat.le_of_ble_eq_true rfl⟩) rfl ⟨Nat.le_of_ble_eq_true rfl, Nat.le_of_ble_eq_true rfl⟩ hN (hT0.keep hS hAs) hAs (Nat.le_trans hB0 hS.1) hK hP hD [0] (by decide) rfl [] rfl 0 4 rfl rfl rfl hl.1 rfl (Nat.le_of_ble_eq_true rfl) d_Reader_algorithm_107) hS (fun q _ h => hFc q h) hFc (fun u107 tS H107 locs ht hvm hw107 hB hz1 hk1 hS => ?_)
      obtain ⟨x107, rfl⟩ : ∃ z, z = u107 := ⟨_, rfl⟩
      obtain ⟨hP1, hK1, hD1⟩ := hB
      rw [ht] at hP1
      obtain ⟨hP, hD⟩ := va_join (wr := [(t, .inl (cB, n, .inl (tx u)))]) (w1 := [(h, .inr (4, [.ref res, .ref t, .int (nI x107.1), .int (nI x107.2.1), .int (wI x107.2.2), .int pa, .int ma, .int ex, .ref ki]))]) hP hD [0] [1] rfl rfl (by decide) (by decide) hk1 hFc hP1 hD1
      have hP : va_P (dC, dI) classes [(t, .inl (cB, n, .inl (tx u))), (h, .inr (4, [.ref res, .ref t, .int (nI x107.1), .int (nI x107.2.1), .int (wI x107.2.2), .int pa, .int ma, .int ex, .ref ki]))] H107 := hP
      have hD : va_D A [(t, .inl (cB, n, .inl (tx u))), (h, .inr (4, [.ref res, .ref t, .int (nI x107.1), .int (nI x107.2.1), .int (wI x107.2.2), .int pa, .int ma, .int ex, .ref ki]))] := hD
      have hw107 : x107 = rd_lea o12.1 o12.2 z.2 := hw107
      have hi107 : rdInv n x107 := by rw [hw107]; exact lea_inv hi12.1 hi12.2.2.1
      refine lv_aload_n hx hb d_Reader_algorithm_110 rfl (lv_at hl 0 rfl) ?_
      refine lv_iconst (v := 5) hx hb d_Reader_algorithm_111 (by decide) ?_
      refine lv_iload_n hx hb d_Reader_algorithm_112 rfl (lv_at hl 3 rfl) ?_
      have hFc := va_free (wc := [(h, .inr (4, [.ref res, .ref t, .int (nI x107.1), .int (nI x107.2.1), .int (wI x107.2.2), .int pa, .int ma, .int ex, .ref ki])), (t, .inl (cB, n, .inl (tx u)))]) hD hS hA [1, 0] rfl
      refine va_calli (mu_runU (As := [.int 5, .int (nI o4.2)]) (rest := []) ⟨hx, hb, hml, hown, hts⟩ (cC_open l dC dI sb h res t ki x107.1 x107.2.1 n x107.2.2 pa ma ex ie cB u 5 o4.2 H107.size hu hn ((hi107).w hn) hi4.2.2.1 (hi107).1 (by decide)) (cu_of (n := 2) hts tbin q3_130 q9_192 q3_112 q9_193 q1_15 q3_113 rfl (by decide +kernel) ⟨rfl, rfl⟩ ⟨Nat.le_of_ble_eq_true rfl, Nat.le_of_ble_eq_true rfl⟩) rfl ⟨Nat.le_of_ble_eq_true rfl, Nat.le_of_ble_eq_true rfl⟩ hN (hT0.keep hS hAs) hAs (Nat.le_trans hB0 hS.1) hK hP hD [1, 0] (by decide) rfl [0] rfl 1 4 rfl rfl rfl hl.1 rfl (Nat.le_of_ble_eq_true rfl) d_Reader_algorithm_113) hS (fun q _ h => hFc q h) hFc (fun r113 u113 tS H113 locs ht hvm hw113 hB hz1 hk1 hS => ?_)
      obtain ⟨x113, rfl⟩ : ∃ z, z = u113 := ⟨_, rfl⟩
      obtain ⟨hP1, hK1, hD1⟩ := hB
      rw [ht] at hP1
      obtain ⟨hP, hD⟩ := va_join (wr := []) (w1 := [(h, .inr (4, [.ref res, .ref t, .int (nI x113.1), .int (nI x113.2.1), .int (wI x113.2.2), .int pa, .int ma, .int ex, .ref ki])), (t, .inl (cB, n, .inl (tx u)))]) hP hD [1, 0] [] rfl rfl (by decide) (by decide) hk1 hFc hP1 hD1
      have hP : va_P (dC, dI) classes [(h, .inr (4, [.ref res, .ref t, .int (nI x113.1), .int (nI x113.2.1), .int (wI x113.2.2), .int pa, .int ma, .int ex, .ref ki])), (t, .inl (cB, n, .inl (tx u)))] H113 := hP
      have hD : va_D A [(h, .inr (4, [.ref res, .ref t, .int (nI x113.1), .int (nI x113.2.1), .int (wI x113.2.2), .int pa, .int ma, .int ex, .ref ki])), (t, .inl (cB, n, .inl (tx u)))] := hD
      have hw113 : x113 = (rd_opn u n x107 5 o4.2).1 ∧ r113 = nI (rd_opn u n x107 5 o4.2).2 := hw113
      have hi113 := opn_inv (u := u) (tg := 5) hi107 hi4.2.2.1
      obtain ⟨o113, ho113⟩ : ∃ o, o = rd_opn u n x107 5 o4.2 := ⟨_, rfl⟩
      rw [← ho113] at hw113 hi113
      obtain ⟨rfl, rfl⟩ := hw113
      have hP : va_P (dC, dI) classes [(h, .inr (4, [.ref res, .ref t, .int (nI o113.1.1), .int (nI o113.1.2.1), .int (wI o113.1.2.2), .int pa, .int ma, .int ex, .ref ki])), (t, .inl (cB, n, .inl (tx u)))] H113 := hP
      have hD : va_D A [(h, .inr (4, [.ref res, .ref t, .int (nI o113.1.1), .int (nI o113.1.2.1), .int (wI o113.1.2.2), .int pa, .int ma, .int ex, .ref ki])), (t, .inl (cB, n, .inl (tx u)))] := hD
      refine lv_istore (lv' := [(6, .int (nI o113.2)), (0, .ref h), (1, .int (nI la)), (2, .int (nI en)), (3, .int (nI o4.2)), (4, .int (nI o12.2)), (5, .int z.2)]) hx hb d_Reader_algorithm_116 hl (by decide) rfl (fun ls hl => ?_)
      have hb4 := hi113.1.1
      have hb5 := hi113.2.1
      have hb6 := hi113.2.2.1
      refine lv_aload_n hx hb d_Reader_algorithm_118 rfl (lv_at hl 1 rfl) ?_
      refine lv_iload hx hb d_Reader_algorithm_119 (lv_at hl 0 rfl) ?_
      refine w_join (J := fun v'' => bz v'' (o113.2 = o113.1.1)) (pc := 135) (ls := ls) (rest := [.int (nI o113.2), .ref h]) (fun v'' hv'' => ?_) (fun k135 => ?_)
      · skip
        have hFc := va_free (wc := [(h, .inr (4, [.ref res, .ref t, .int (nI o113.1.1), .int (nI o113.1.2.1), .int (wI o113.1.2.2), .int pa, .int ma, .int ex, .ref ki]))]) hD hS hA [0] rfl
        refine va_callv (mu_runU (As := [.int (nI o113.2), .int v'']) (rest := []) ⟨hx, hb, hml, hown, hts⟩ (cC_leave l dC dI sb h res t ki o113.1.1 o113.1.2.1 n o113.1.2.2 pa ma ex ie cB u o113.2 v'' H113.size ((hi113.1).w hn)) (cu_of (n := 2) hts tbin q3_131 q3_133 q3_132 q3_134 q1_15 q3_136 rfl (by decide +kernel) ⟨rfl, rfl⟩ ⟨Nat.le_of_ble_eq_true rfl, Nat.le_of_ble_eq_true rfl⟩) rfl ⟨Nat.le_of_ble_eq_true rfl, Nat.le_of_ble_eq_true rfl⟩ hN (hT0.keep hS hAs) hAs (Nat.le_trans hB0 hS.1) hK hP hD [0] (by decide) rfl [] rfl 0 4 rfl rfl rfl hl.1 rfl (Nat.le_of_ble_eq_true rfl) d_Reader_algorithm_135) hS (fun q _ h => hFc q h) hFc (fun u135 tS H135 locs ht hvm hw135 hB hz1 hk1 hS => ?_)
        obtain ⟨x135, rfl⟩ : ∃ z, z = u135 := ⟨_, rfl⟩
        obtain ⟨hP1, hK1, hD1⟩ := hB
        rw [ht] at hP1
        obtain ⟨hP, hD⟩ := va_join (wr := [(t, .inl (cB, n, .inl (tx u)))]) (w1 := [(h, .inr (4, [.ref res, .ref t, .int (nI x135.1), .int (nI x135.2.1), .int (wI x135.2.2), .int pa, .int ma, .int ex, .ref ki]))]) hP hD [0] [1] rfl rfl (by decide) (by decide) hk1 hFc hP1 hD1
        have hP : va_P (dC, dI) classes [(t, .inl (cB, n, .inl (tx u))), (h, .inr (4, [.ref res, .ref t, .int (nI x135.1), .int (nI x135.2.1), .int (wI x135.2.2), .int pa, .int ma, .int ex, .ref ki]))] H135 := hP
        have hD : va_D A [(t, .inl (cB, n, .inl (tx u))), (h, .inr (4, [.ref res, .ref t, .int (nI x135.1), .int (nI x135.2.1), .int (wI x135.2.2), .int pa, .int ma, .int ex, .ref ki]))] := hD
        have hw135 : x135 = rd_lea o113.1 o113.2 v'' := hw135
        have hi135 : rdInv n x135 := by rw [hw135]; exact lea_inv hi113.1 hi113.2.2.1
        refine lv_aload_n hx hb d_Reader_algorithm_138 rfl (lv_at hl 1 rfl) ?_
        refine lv_iload_n hx hb d_Reader_algorithm_139 rfl (lv_at hl 4 rfl) ?_
        have hFc := va_free (wc := [(h, .inr (4, [.ref res, .ref t, .int (nI x135.1), .int (nI x135.2.1), .int (wI x135.2.2), .int pa, .int ma, .int ex, .ref ki]))]) hD hS hA [1] rfl
        refine va_callv (mu_runU (As := [.int (nI o4.2)]) (rest := []) ⟨hx, hb, hml, hown, hts⟩ (cC_finish l dC dI sb h res t ki x135.1 x135.2.1 n x135.2.2 pa ma ex ie cB u o4.2 H135.size ((hi135).w hn) (by have := (hi135).1; omega) (by have := hi4.2.2.1; omega)) (cu_of (n := 1) hts tbin q3_183 q9_201 q3_163 q9_202 q1_15 q3_164 rfl (by decide +kernel) ⟨rfl, rfl⟩ ⟨Nat.le_of_ble_eq_true rfl, Nat.le_of_ble_eq_true rfl⟩) rfl ⟨Nat.le_of_ble_eq_true rfl, Nat.le_of_ble_eq_true rfl⟩ hN (hT0.keep hS hAs) hAs (Nat.le_trans hB0 hS.1) hK hP hD [1] (by decide) rfl [] rfl 1 4 rfl rfl rfl hl.1 rfl (Nat.le_of_ble_eq_true rfl) d_Reader_algorithm_140) hS (fun q _ h => hFc q h) hFc (fun u140 tS H140 locs ht hvm hw140 hB hz1 hk1 hS => ?_)
        obtain ⟨x140, rfl⟩ : ∃ z, z = u140 := ⟨_, rfl⟩
        obtain ⟨hP1, hK1, hD1⟩ := hB
        rw [ht] at hP1
        obtain ⟨hP, hD⟩ := va_join (wr := [(t, .inl (cB, n, .inl (tx u)))]) (w1 := [(h, .inr (4, [.ref res, .ref t, .int (nI x140.1), .int (nI x140.2.1), .int (wI x140.2.2), .int pa, .int ma, .int ex, .ref ki]))]) hP hD [1] [0] rfl rfl (by decide) (by decide) hk1 hFc hP1 hD1
        have hP : va_P (dC, dI) classes [(t, .inl (cB, n, .inl (tx u))), (h, .inr (4, [.ref res, .ref t, .int (nI x140.1), .int (nI x140.2.1), .int (wI x140.2.2), .int pa, .int ma, .int ex, .ref ki]))] H140 := hP
        have hD : va_D A [(t, .inl (cB, n, .inl (tx u))), (h, .inr (4, [.ref res, .ref t, .int (nI x140.1), .int (nI x140.2.1), .int (wI x140.2.2), .int pa, .int ma, .int ex, .ref ki]))] := hD
        have hw140 : x140 = rd_fin x135 o4.2 := hw140
        have hi140 : rdInv n x140 := by rw [hw140]; exact fin_inv hi135
        exact W.vret hx hb hr (fun t ht hW => ⟨⟨x140, rfl, hw140.trans (by rw [hw135, bz_zP hv'', ho113, hw107, hz2, ho12, ho4]; rfl), by rw [ht]; exact hP.sub [1, 0] rfl, va_K.moved hW.alike hK, hD.sub [1, 0] (by decide) rfl⟩, hS.F ht⟩) hS.2.2 d_Reader_algorithm_143
      · skip
        refine lv_iload hx hb d_Reader_algorithm_121 (lv_at hl 0 rfl) ?_
        refine lv_aload_n hx hb d_Reader_algorithm_123 rfl (lv_at hl 1 rfl) ?_
        refine va_get (v := .int (nI o113.1.1)) hx hb htb i_CertificateReader hown hK hP 0 rfl rfl 2 (by decide) (htb _ q3_62) (fun _ h9 => h9) rfl d_Reader_algorithm_124 ?_
        refine lv_icmp_ne (tgt := 134) hx hb d_Reader_algorithm_127 (by decide) (fun c127 => ?_) (fun c127 => ?_)
        · refine lv_iconst (v := 0) hx hb d_Reader_algorithm_134 (by decide) ?_
          exact k135 _ (bz_f (fun q => c127 (by rw [q])))
        · refine lv_iconst (v := 1) hx hb d_Reader_algorithm_130 (by decide) ?_
          refine lv_goto (tgt := 135) hx hb d_Reader_algorithm_131 (by decide) ?_
          exact k135 _ (bz_t (by rw [nI_eq (by omega) (by omega)] at c127; exact c127))
    · have hlt : z.1 < 8 := by rw [show (8 : Int32) = nI 8 from rfl, nI_leI (by omega) (by omega)] at c61; omega
      refine w_join (J := fun v' => bz v' (alg0 u n o12.1.1 o12.2 la ∧ pk1 u n o12.1.1 (z.1 + 1))) (pc := 94) (ls := ls) (rest := []) (fun v' hv' => ?_) (fun k94 => ?_)
      · skip
        refine lv_istore (lv' := [(5, .int v'), (0, .ref h), (1, .int (nI la)), (2, .int (nI en)), (3, .int (nI o4.2)), (4, .int (nI o12.2)), (6, .int (nI (z.1)))]) hx hb d_Reader_algorithm_94 hl (by decide) rfl (fun ls hl => ?_)
        refine lv_iinc (v := nI (z.1 + 1)) (lv' := [(6, .int (nI (z.1 + 1))), (5, .int v'), (0, .ref h), (1, .int (nI la)), (2, .int (nI en)), (3, .int (nI o4.2)), (4, .int (nI o12.2))]) hx hb d_Reader_algorithm_96 hl (k := 6) rfl (nI_1 _) (by decide) rfl (fun ls hl => ?_)
        refine lv_goto (tgt := 55) hx hb d_Reader_algorithm_99 (by decide) ?_
        exact ih (z.1 + 1, v') ls (by show 8 - (z.1 + 1) < 8 - z.1; omega) (⟨by show z.1 + 1 ≤ 8; omega, hv'⟩) (lv_sub hl [2, 3, 4, 5, 6, 1, 0] rfl)
      · skip
        refine lv_iload hx hb d_Reader_algorithm_64 (lv_at hl 5 rfl) ?_
        refine lv_if_eq (tgt := 93) hx hb d_Reader_algorithm_66 (by decide) (fun c66 => ?_) (fun c66 => ?_)
        · refine lv_iconst (v := 0) hx hb d_Reader_algorithm_93 (by decide) ?_
          exact k94 _ (bz_f (fun q => bz_0 hJ.2 c66 ⟨q.1, fun j hj => q.2 j (by omega)⟩))
        · refine lv_aload_n hx hb d_Reader_algorithm_69 rfl (lv_at hl 0 rfl) ?_
          refine lv_aload_n hx hb d_Reader_algorithm_70 rfl (lv_at hl 0 rfl) ?_
          refine va_get (v := .int (nI o12.1.1)) hx hb htb i_CertificateReader hown hK hP 0 rfl rfl 2 (by decide) (htb _ q3_62) (fun _ h9 => h9) rfl d_Reader_algorithm_71 ?_
          refine lv_iload hx hb d_Reader_algorithm_74 (lv_at hl 6 rfl) ?_
          refine lv_iadd hx hb d_Reader_algorithm_76 ?_
          rw [show ((nI o12.1.1) + (nI (z.1)) : Int32) = nI (o12.1.1 + z.1) from nI_add o12.1.1 z.1]
          refine vp_callSi (pu_callU (As := [.int (nI (o12.1.1 + z.1))]) (rest := []) ⟨hx, hb, hml, hown, hts⟩ (cC_octet l dC dI sb h res t ki o12.1.1 o12.1.2.1 n o12.1.2.2 pa ma ex ie cB u (nI (o12.1.1 + z.1)) hu hn) (cu_of (n := 1) hts tbin q3_114 q3_116 q3_115 q3_117 q1_15 q3_119 rfl (by decide +kernel) ⟨rfl, rfl⟩ ⟨Nat.le_of_ble_eq_true rfl, Nat.le_of_ble_eq_true rfl⟩) rfl ⟨Nat.le_of_ble_eq_true rfl, Nat.le_of_ble_eq_true rfl⟩ hN (hT0.keep hS hAs) hK hP [0, 1] rfl [0] rfl 0 4 rfl rfl rfl hl.1 rfl (Nat.le_of_ble_eq_true rfl) d_Reader_algorithm_77) (fun r77 hr77 => ?_)
          rw [oc_eq (by omega)] at hr77
          refine va_gets hx hb (hT0.1.1.narrow hAs) hS hown (htb _ q3_181) (fun _ h9 => h9) d_Reader_algorithm_80 ?_
          refine lv_iload hx hb d_Reader_algorithm_83 (lv_at hl 6 rfl) ?_
          have h85 : vp_in (nI (z.1)) 8 := vp_in_nI hlt (by omega)
          refine va_ti (v := .int (sv_PKCS1.getD (nI (z.1)).toNatClampNeg 0)) hx hb (hT0.1.2.narrow hAs) hS h85 rfl d_Reader_algorithm_85 ?_
          rw [show (sv_PKCS1.getD (nI (z.1)).toNatClampNeg 0 : Int32) = sv_PKCS1.getD z.1 0 from by rw [nI_clamp (by omega)]]
          refine lv_icmp_ne (tgt := 93) hx hb d_Reader_algorithm_86 (by decide) (fun c86 => ?_) (fun c86 => ?_)
          · refine lv_iconst (v := 0) hx hb d_Reader_algorithm_93 (by decide) ?_
            exact k94 _ (bz_f (fun q => c86 (by rw [hr77]; exact q.2 z.1 (Nat.lt_succ_self _))))
          · refine lv_iconst (v := 1) hx hb d_Reader_algorithm_89 (by decide) ?_
            refine lv_goto (tgt := 94) hx hb d_Reader_algorithm_90 (by decide) ?_
            exact k94 _ (bz_t ⟨(bz_1 hJ.2 c66).1, pk1_s (bz_1 hJ.2 c66).2 (by rw [← hr77]; exact c86)⟩)
  · skip
    have hb1 := hi12.1.1
    have hb2 := hi12.2.1
    have hb3 := hi12.2.2.1
    refine lv_iload hx hb d_Reader_algorithm_17 (lv_at hl 0 rfl) ?_
    refine lv_aload_n hx hb d_Reader_algorithm_19 rfl (lv_at hl 2 rfl) ?_
    refine va_get (v := .int (nI o12.1.1)) hx hb htb i_CertificateReader hown hK hP 0 rfl rfl 2 (by decide) (htb _ q3_62) (fun _ h9 => h9) rfl d_Reader_algorithm_20 ?_
    refine lv_isub hx hb d_Reader_algorithm_23 ?_
    refine va_gets hx hb (hT0.1.1.narrow hAs) hS hown (htb _ q3_181) (fun _ h9 => h9) d_Reader_algorithm_24 ?_
    refine va_tlen (v := 8) hx hb (hT0.1.2.narrow hAs) hS rfl d_Reader_algorithm_27 ?_
    refine lv_iconst (v := 1) hx hb d_Reader_algorithm_28 (by decide) ?_
    refine lv_iadd hx hb d_Reader_algorithm_29 ?_
    refine lv_icmp_ne (tgt := 49) hx hb d_Reader_algorithm_30 (by decide) (fun c30 => ?_) (fun c30 => ?_)
    · refine lv_iconst (v := 0) hx hb d_Reader_algorithm_49 (by decide) ?_
      exact k50 _ (bz_f (fun q => c30 (by rw [pk_sub hb2, q.1.1]; rfl)))
    · have h9 : o12.2 - o12.1.1 = 9 := by rw [pk_sub hb2, show (8 + 1 : Int32) = nI 9 from rfl, nI_eq (by omega) (by omega)] at c30; exact c30
      refine lv_aload_n hx hb d_Reader_algorithm_33 rfl (lv_at hl 2 rfl) ?_
      refine lv_iload hx hb d_Reader_algorithm_34 (lv_at hl 0 rfl) ?_
      refine lv_iconst (v := 1) hx hb d_Reader_algorithm_36 (by decide) ?_
      refine lv_isub hx hb d_Reader_algorithm_37 ?_
      rw [show ((nI o12.2) - 1 : Int32) = nI (o12.2 - 1) from pk_sub (a := o12.2) (b := 1) (by omega)]
      refine vp_callSi (pu_callU (As := [.int (nI (o12.2 - 1))]) (rest := []) ⟨hx, hb, hml, hown, hts⟩ (cC_octet l dC dI sb h res t ki o12.1.1 o12.1.2.1 n o12.1.2.2 pa ma ex ie cB u (nI (o12.2 - 1)) hu hn) (cu_of (n := 1) hts tbin q3_114 q3_116 q3_115 q3_117 q1_15 q3_119 rfl (by decide +kernel) ⟨rfl, rfl⟩ ⟨Nat.le_of_ble_eq_true rfl, Nat.le_of_ble_eq_true rfl⟩) rfl ⟨Nat.le_of_ble_eq_true rfl, Nat.le_of_ble_eq_true rfl⟩ hN (hT0.keep hS hAs) hK hP [0, 1] rfl [0] rfl 0 4 rfl rfl rfl hl.1 rfl (Nat.le_of_ble_eq_true rfl) d_Reader_algorithm_38) (fun r38 hr38 => ?_)
      rw [oc_eq (by omega)] at hr38
      refine lv_iload_n hx hb d_Reader_algorithm_41 rfl (lv_at hl 3 rfl) ?_
      refine lv_icmp_ne (tgt := 49) hx hb d_Reader_algorithm_42 (by decide) (fun c42 => ?_) (fun c42 => ?_)
      · refine lv_iconst (v := 0) hx hb d_Reader_algorithm_49 (by decide) ?_
        exact k50 _ (bz_f (fun q => c42 (by rw [hr38]; exact q.1.2)))
      · refine lv_iconst (v := 1) hx hb d_Reader_algorithm_45 (by decide) ?_
        refine lv_goto (tgt := 50) hx hb d_Reader_algorithm_46 (by decide) ?_
        exact k50 _ (bz_t ⟨⟨h9, by rw [← hr38]; exact c42⟩, pk1_0⟩)
set_option maxHeartbeats 4000000 in
set_option maxRecDepth 100000 in
theorem cL_algorithm (l : Launch) (dC : Nat → ClassId) (dI : Nat → Nat → Nat) (sb : sB) (h res t ki n : Nat) (x : rS) (pa ma ex ie : Int32) (cB : ClassId) (u : Nat → Nat) (la en : Nat) (sz : Nat) (hu : ∀ j, u j < 256) (hn : n < 2 ^ 30) (hi : rdInv n x) (he : en ≤ n) (hla : la < 256) : Met l y_Reader_algorithm w_Reader_algorithm ({ frames := 2, cells := 0, slots := 0, locals := 46 }) (mu_P [.ref h, .int (nI la), .int (nI en)] (dC, dI) sb [(h, .inr (5, [.ref res, .int ie, .ref t, .int (nI x.1), .int (nI x.2.1), .int (wI x.2.2), .int pa, .int ma, .int ex, .ref ki])), (t, .inl (cB, n, .inl (tx u)))] [(cB, .byte)] sz) (va_Qv (fun (u' : rS) => u' = rd_alg u n x la en) (mu_B (dC, dI) [(cB, .byte)] (va_A [(h, .inr (5, [.ref res, .int ie, .ref t, .int (nI x.1), .int (nI x.2.1), .int (wI x.2.2), .int pa, .int ma, .int ex, .ref ki])), (t, .inl (cB, n, .inl (tx u)))] sz) (fun u' : rS => [(h, .inr (5, [.ref res, .int ie, .ref t, .int (nI u'.1), .int (nI u'.2.1), .int (wI u'.2.2), .int pa, .int ma, .int ex, .ref ki])), (t, .inl (cB, n, .inl (tx u)))])) (va_A [(h, .inr (5, [.ref res, .int ie, .ref t, .int (nI x.1), .int (nI x.2.1), .int (wI x.2.2), .int pa, .int ma, .int ex, .ref ki])), (t, .inl (cB, n, .inl (tx u)))] sz)) 0 0 (va_A [(h, .inr (5, [.ref res, .int ie, .ref t, .int (nI x.1), .int (nI x.2.1), .int (wI x.2.2), .int pa, .int ma, .int ex, .ref ki])), (t, .inl (cB, n, .inl (tx u)))] sz) := by
  refine Met.ofW (cc := b_Reader_algorithm) (maxL := 7) (ret := none) (by decide) rfl ?_
  intro p e s m args below meth c s₁ B hml hv
  obtain ⟨rfl, hsz, hB0, hP, hK, hD0, hN, hT0⟩ := hv
  have hx := B.exec
  have hb := B.bytes
  have hr := B.returns
  have hts := atoms_spec (ws := w_Reader_algorithm) B.pre
  have tbin : ∀ w ∈ tb, w ∈ w_Reader_algorithm := fun w h => List.mem_cons_of_mem _ h
  have htb : ∀ w ∈ tb, w.before _ s = true := fun w h => hts w (tbin w h)
  have hown : s.vm.findClass "TrustChain$Reader" = some m.cls := findClass_of_methodNamed B.named
  have hlocks := B.notSynchronized
  subst hsz
  have hD := hD0.self (sz := s.heap.size)
  generalize hAe : va_A [(h, .inr (5, [.ref res, .int ie, .ref t, .int (nI x.1), .int (nI x.2.1), .int (wI x.2.2), .int pa, .int ma, .int ex, .ref ki])), (t, .inl (cB, n, .inl (tx u)))] s.heap.size = A at hD ⊢
  have hA : ∀ q : Nat, s.heap.size ≤ q → A q := fun q h => by rw [← hAe]; exact Or.inr h
  have hAs : ∀ q : Nat, A q → sb.1 ≤ q := fun q h => by
    rw [← hAe] at h
    rcases h with ⟨k, e, h⟩ | h
    · exact hD0.2 k _ h
    · exact Nat.le_trans hB0 h
  have hS : va_S A s.heap s.heap [] := va_S.rf
  have hcs : 0 ≤ (headSpec w_Reader_algorithm ({ frames := 2, cells := 0, slots := 0, locals := 46 })).room.cells ∧ 0 ≤ (headSpec w_Reader_algorithm ({ frames := 2, cells := 0, slots := 0, locals := 46 })).room.slots := ⟨Nat.le_refl _, Nat.le_refl _⟩
  have hP : va_P (dC, dI) classes [(h, .inr (5, [.ref res, .int ie, .ref t, .int (nI x.1), .int (nI x.2.1), .int (wI x.2.2), .int pa, .int ma, .int ex, .ref ki])), (t, .inl (cB, n, .inl (tx u)))] s.heap := hP
  have hl := lv_entry ([.ref h, .int (nI la), .int (nI en)]) (n := 7) (Nat.le_of_ble_eq_true rfl)
  rw [lg_entry_eq]
  generalize (lg_sl ([.ref h, .int (nI la), .int (nI en)]) ++ List.replicate (7 - (lg_sl ([.ref h, .int (nI la), .int (nI en)])).length) Slot.unset).toArray = ls at hl ⊢
  have hl : lv_has ls 7 [(0, .ref h), (1, .int (nI la)), (2, .int (nI en))] := hl
  refine lv_aload_n hx hb d_Reader_algorithm_0 rfl (lv_at hl 0 rfl) ?_
  refine lv_bipush (v := 48) hx hb d_Reader_algorithm_1 (by decide) ?_
  refine lv_iload_n hx hb d_Reader_algorithm_3 rfl (lv_at hl 2 rfl) ?_
  have hFc := va_free (wc := [(h, .inr (5, [.ref res, .int ie, .ref t, .int (nI x.1), .int (nI x.2.1), .int (wI x.2.2), .int pa, .int ma, .int ex, .ref ki])), (t, .inl (cB, n, .inl (tx u)))]) hD hS hA [0, 1] rfl
  refine va_calli (mu_runU (As := [.int 48, .int (nI en)]) (rest := []) ⟨hx, hb, hml, hown, hts⟩ (cL_open l dC dI sb h res t ki x.1 x.2.1 n x.2.2 pa ma ex ie cB u 48 en s.heap.size hu hn ((hi).w hn) he (hi).1 (by decide)) (cu_of (n := 2) hts tbin q3_130 q9_192 q3_112 q9_194 q1_15 q3_113 rfl (by decide +kernel) ⟨rfl, rfl⟩ ⟨Nat.le_of_ble_eq_true rfl, Nat.le_of_ble_eq_true rfl⟩) rfl ⟨Nat.le_of_ble_eq_true rfl, Nat.le_of_ble_eq_true rfl⟩ hN (hT0.keep hS hAs) hAs (Nat.le_trans hB0 hS.1) hK hP hD [0, 1] (by decide) rfl [0] rfl 0 5 rfl rfl rfl hl.1 rfl (Nat.le_of_ble_eq_true rfl) d_Reader_algorithm_4) hS (fun q _ h => hFc q h) hFc (fun r4 u4 tS H4 locs ht hvm hw4 hB hz1 hk1 hS => ?_)
  obtain ⟨x4, rfl⟩ : ∃ z, z = u4 := ⟨_, rfl⟩
  obtain ⟨hP1, hK1, hD1⟩ := hB
  rw [ht] at hP1
  obtain ⟨hP, hD⟩ := va_join (wr := []) (w1 := [(h, .inr (5, [.ref res, .int ie, .ref t, .int (nI x4.1), .int (nI x4.2.1), .int (wI x4.2.2), .int pa, .int ma, .int ex, .ref ki])), (t, .inl (cB, n, .inl (tx u)))]) hP hD [0, 1] [] rfl rfl (by decide) (by decide) hk1 hFc hP1 hD1
  have hP : va_P (dC, dI) classes [(h, .inr (5, [.ref res, .int ie, .ref t, .int (nI x4.1), .int (nI x4.2.1), .int (wI x4.2.2), .int pa, .int ma, .int ex, .ref ki])), (t, .inl (cB, n, .inl (tx u)))] H4 := hP
  have hD : va_D A [(h, .inr (5, [.ref res, .int ie, .ref t, .int (nI x4.1), .int (nI x4.2.1), .int (wI x4.2.2), .int pa, .int ma, .int ex, .ref ki])), (t, .inl (cB, n, .inl (tx u)))] := hD
  have hw4 : x4 = (rd_opn u n x 48 en).1 ∧ r4 = nI (rd_opn u n x 48 en).2 := hw4
  have hi4 := opn_inv (u := u) (tg := 48) hi he
  obtain ⟨o4, ho4⟩ : ∃ o, o = rd_opn u n x 48 en := ⟨_, rfl⟩
  rw [← ho4] at hw4 hi4
  obtain ⟨rfl, rfl⟩ := hw4
  have hP : va_P (dC, dI) classes [(h, .inr (5, [.ref res, .int ie, .ref t, .int (nI o4.1.1), .int (nI o4.1.2.1), .int (wI o4.1.2.2), .int pa, .int ma, .int ex, .ref ki])), (t, .inl (cB, n, .inl (tx u)))] H4 := hP
  have hD : va_D A [(h, .inr (5, [.ref res, .int ie, .ref t, .int (nI o4.1.1), .int (nI o4.1.2.1), .int (wI o4.1.2.2), .int pa, .int ma, .int ex, .ref ki])), (t, .inl (cB, n, .inl (tx u)))] := hD
  refine lv_istore_n (lv' := [(3, .int (nI o4.2)), (0, .ref h), (1, .int (nI la)), (2, .int (nI en))]) hx hb d_Reader_algorithm_7 rfl hl (by decide) rfl (fun ls hl => ?_)
  refine lv_aload_n hx hb d_Reader_algorithm_8 rfl (lv_at hl 1 rfl) ?_
  refine lv_bipush (v := 6) hx hb d_Reader_algorithm_9 (by decide) ?_
  refine lv_iload_n hx hb d_Reader_algorithm_11 rfl (lv_at hl 0 rfl) ?_
  have hFc := va_free (wc := [(h, .inr (5, [.ref res, .int ie, .ref t, .int (nI o4.1.1), .int (nI o4.1.2.1), .int (wI o4.1.2.2), .int pa, .int ma, .int ex, .ref ki])), (t, .inl (cB, n, .inl (tx u)))]) hD hS hA [0, 1] rfl
  refine va_calli (mu_runU (As := [.int 6, .int (nI o4.2)]) (rest := []) ⟨hx, hb, hml, hown, hts⟩ (cL_open l dC dI sb h res t ki o4.1.1 o4.1.2.1 n o4.1.2.2 pa ma ex ie cB u 6 o4.2 H4.size hu hn ((hi4.1).w hn) hi4.2.2.1 (hi4.1).1 (by decide)) (cu_of (n := 2) hts tbin q3_130 q9_192 q3_112 q9_194 q1_15 q3_113 rfl (by decide +kernel) ⟨rfl, rfl⟩ ⟨Nat.le_of_ble_eq_true rfl, Nat.le_of_ble_eq_true rfl⟩) rfl ⟨Nat.le_of_ble_eq_true rfl, Nat.le_of_ble_eq_true rfl⟩ hN (hT0.keep hS hAs) hAs (Nat.le_trans hB0 hS.1) hK hP hD [0, 1] (by decide) rfl [0] rfl 0 5 rfl rfl rfl hl.1 rfl (Nat.le_of_ble_eq_true rfl) d_Reader_algorithm_12) hS (fun q _ h => hFc q h) hFc (fun r12 u12 tS H12 locs ht hvm hw12 hB hz1 hk1 hS => ?_)
  obtain ⟨x12, rfl⟩ : ∃ z, z = u12 := ⟨_, rfl⟩
  obtain ⟨hP1, hK1, hD1⟩ := hB
  rw [ht] at hP1
  obtain ⟨hP, hD⟩ := va_join (wr := []) (w1 := [(h, .inr (5, [.ref res, .int ie, .ref t, .int (nI x12.1), .int (nI x12.2.1), .int (wI x12.2.2), .int pa, .int ma, .int ex, .ref ki])), (t, .inl (cB, n, .inl (tx u)))]) hP hD [0, 1] [] rfl rfl (by decide) (by decide) hk1 hFc hP1 hD1
  have hP : va_P (dC, dI) classes [(h, .inr (5, [.ref res, .int ie, .ref t, .int (nI x12.1), .int (nI x12.2.1), .int (wI x12.2.2), .int pa, .int ma, .int ex, .ref ki])), (t, .inl (cB, n, .inl (tx u)))] H12 := hP
  have hD : va_D A [(h, .inr (5, [.ref res, .int ie, .ref t, .int (nI x12.1), .int (nI x12.2.1), .int (wI x12.2.2), .int pa, .int ma, .int ex, .ref ki])), (t, .inl (cB, n, .inl (tx u)))] := hD
  have hw12 : x12 = (rd_opn u n o4.1 6 o4.2).1 ∧ r12 = nI (rd_opn u n o4.1 6 o4.2).2 := hw12
  have hi12 := opn_inv (u := u) (tg := 6) hi4.1 hi4.2.2.1
  obtain ⟨o12, ho12⟩ : ∃ o, o = rd_opn u n o4.1 6 o4.2 := ⟨_, rfl⟩
  rw [← ho12] at hw12 hi12
  obtain ⟨rfl, rfl⟩ := hw12
  have hP : va_P (dC, dI) classes [(h, .inr (5, [.ref res, .int ie, .ref t, .int (nI o12.1.1), .int (nI o12.1.2.1), .int (wI o12.1.2.2), .int pa, .int ma, .int ex, .ref ki])), (t, .inl (cB, n, .inl (tx u)))] H12 := hP
  have hD : va_D A [(h, .inr (5, [.ref res, .int ie, .ref t, .int (nI o12.1.1), .int (nI o12.1.2.1), .int (wI o12.1.2.2), .int pa, .int ma, .int ex, .ref ki])), (t, .inl (cB, n, .inl (tx u)))] := hD
  refine lv_istore (lv' := [(4, .int (nI o12.2)), (3, .int (nI o4.2)), (0, .ref h), (1, .int (nI la)), (2, .int (nI en))]) hx hb d_Reader_algorithm_15 hl (by decide) rfl (fun ls hl => ?_)
  have hb1 := hi12.1.1
  have hb2 := hi12.2.1
  have hb3 := hi12.2.2.1
  refine w_join (J := fun v => bz v (alg0 u n o12.1.1 o12.2 la ∧ pk1 u n o12.1.1 0)) (pc := 50) (ls := ls) (rest := []) (fun v hv => ?_) (fun k50 => ?_)
  · skip
    refine lv_istore (lv' := [(5, .int v), (4, .int (nI o12.2)), (3, .int (nI o4.2)), (0, .ref h), (1, .int (nI la)), (2, .int (nI en))]) hx hb d_Reader_algorithm_50 hl (by decide) rfl (fun ls hl => ?_)
    refine lv_iconst (v := 0) hx hb d_Reader_algorithm_52 (by decide) ?_
    refine lv_istore (lv' := [(6, .int 0), (5, .int v), (4, .int (nI o12.2)), (3, .int (nI o4.2)), (0, .ref h), (1, .int (nI la)), (2, .int (nI en))]) hx hb d_Reader_algorithm_53 hl (by decide) rfl (fun ls hl => ?_)
    refine w_loop (α := Nat × Int32) (fun z => z.1 ≤ 8 ∧ bz z.2 (alg0 u n o12.1.1 o12.2 la ∧ pk1 u n o12.1.1 z.1)) (fun z => 8 - z.1) (fun z => [(0, .ref h), (1, .int (nI la)), (2, .int (nI en)), (3, .int (nI o4.2)), (4, .int (nI o12.2)), (5, .int z.2), (6, .int (nI (z.1)))]) (fun _ => []) 7 55 (fun z ls hJ hl ih => ?_) (0, v) ls (⟨Nat.zero_le _, hv⟩) (lv_sub hl [4, 5, 6, 3, 2, 1, 0] rfl)
    refine lv_iload hx hb d_Reader_algorithm_55 (lv_at hl 6 rfl) ?_
    refine va_gets hx hb (hT0.1.1.narrow hAs) hS hown (htb _ q3_181) (fun _ h9 => h9) d_Reader_algorithm_57 ?_
    refine va_tlen (v := 8) hx hb (hT0.1.2.narrow hAs) hS rfl d_Reader_algorithm_60 ?_
    refine lv_icmp_ge (tgt := 102) hx hb d_Reader_algorithm_61 (by decide) (fun c61 => ?_) (fun c61 => ?_)
    · have hke : z.1 = 8 := by rw [show (8 : Int32) = nI 8 from rfl, nI_leI (by omega) (by omega)] at c61; omega
      have hz2 : z.2 = zP (algOK u n o12.1.1 o12.2 la) := bz_zP (by have h := hJ.2; rw [hke] at h; exact h)
      refine lv_aload_n hx hb d_Reader_algorithm_102 rfl (lv_at hl 0 rfl) ?_
      refine lv_iload hx hb d_Reader_algorithm_103 (lv_at hl 4 rfl) ?_
      refine lv_iload hx hb d_Reader_algorithm_105 (lv_at hl 5 rfl) ?_
      have hFc := va_free (wc := [(h, .inr (5, [.ref res, .int ie, .ref t, .int (nI o12.1.1), .int (nI o12.1.2.1), .int (wI o12.1.2.2), .int pa, .int ma, .int ex, .ref ki]))]) hD hS hA [0] rfl
      refine va_callv (mu_runU (As := [.int (nI o12.2), .int z.2]) (rest := []) ⟨hx, hb, hml, hown, hts⟩ (cL_leave l dC dI sb h res t ki o12.1.1 o12.1.2.1 n o12.1.2.2 pa ma ex ie cB u o12.2 z.2 H12.size ((hi12.1).w hn)) (cu_of (n := 2) hts tbin q3_131 q3_133 q3_132 q3_135 q1_15 q3_136 rfl (by decide +kernel) ⟨rfl, rfl⟩ ⟨Nat.le_of_ble_eq_true rfl, Nat.le_of_ble_eq_true rfl⟩) rfl ⟨Nat.le_of_ble_eq_true rfl, Nat.le_of_ble_eq_true rfl⟩ hN (hT0.keep hS hAs) hAs (Nat.le_trans hB0 hS.1) hK hP hD [0] (by decide) rfl [] rfl 0 5 rfl rfl rfl hl.1 rfl (Nat.le_of_ble_eq_true rfl) d_Reader_algorithm_107) hS (fun q _ h => hFc q h) hFc (fun u107 tS H107 locs ht hvm hw107 hB hz1 hk1 hS => ?_)
      obtain ⟨x107, rfl⟩ : ∃ z, z = u107 := ⟨_, rfl⟩
      obtain ⟨hP1, hK1, hD1⟩ := hB
      rw [ht] at hP1
      obtain ⟨hP, hD⟩ := va_join (wr := [(t, .inl (cB, n, .inl (tx u)))]) (w1 := [(h, .inr (5, [.ref res, .int ie, .ref t, .int (nI x107.1), .int (nI x107.2.1), .int (wI x107.2.2), .int pa, .int ma, .int ex, .ref ki]))]) hP hD [0] [1] rfl rfl (by decide) (by decide) hk1 hFc hP1 hD1
      have hP : va_P (dC, dI) classes [(t, .inl (cB, n, .inl (tx u))), (h, .inr (5, [.ref res, .int ie, .ref t, .int (nI x107.1), .int (nI x107.2.1), .int (wI x107.2.2), .int pa, .int ma, .int ex, .ref ki]))] H107 := hP
      have hD : va_D A [(t, .inl (cB, n, .inl (tx u))), (h, .inr (5, [.ref res, .int ie, .ref t, .int (nI x107.1), .int (nI x107.2.1), .int (wI x107.2.2), .int pa, .int ma, .int ex, .ref ki]))] := hD
      have hw107 : x107 = rd_lea o12.1 o12.2 z.2 := hw107
      have hi107 : rdInv n x107 := by rw [hw107]; exact lea_inv hi12.1 hi12.2.2.1
      refine lv_aload_n hx hb d_Reader_algorithm_110 rfl (lv_at hl 0 rfl) ?_
      refine lv_iconst (v := 5) hx hb d_Reader_algorithm_111 (by decide) ?_
      refine lv_iload_n hx hb d_Reader_algorithm_112 rfl (lv_at hl 3 rfl) ?_
      have hFc := va_free (wc := [(h, .inr (5, [.ref res, .int ie, .ref t, .int (nI x107.1), .int (nI x107.2.1), .int (wI x107.2.2), .int pa, .int ma, .int ex, .ref ki])), (t, .inl (cB, n, .inl (tx u)))]) hD hS hA [1, 0] rfl
      refine va_calli (mu_runU (As := [.int 5, .int (nI o4.2)]) (rest := []) ⟨hx, hb, hml, hown, hts⟩ (cL_open l dC dI sb h res t ki x107.1 x107.2.1 n x107.2.2 pa ma ex ie cB u 5 o4.2 H107.size hu hn ((hi107).w hn) hi4.2.2.1 (hi107).1 (by decide)) (cu_of (n := 2) hts tbin q3_130 q9_192 q3_112 q9_194 q1_15 q3_113 rfl (by decide +kernel) ⟨rfl, rfl⟩ ⟨Nat.le_of_ble_eq_true rfl, Nat.le_of_ble_eq_true rfl⟩) rfl ⟨Nat.le_of_ble_eq_true rfl, Nat.le_of_ble_eq_true rfl⟩ hN (hT0.keep hS hAs) hAs (Nat.le_trans hB0 hS.1) hK hP hD [1, 0] (by decide) rfl [0] rfl 1 5 rfl rfl rfl hl.1 rfl (Nat.le_of_ble_eq_true rfl) d_Reader_algorithm_113) hS (fun q _ h => hFc q h) hFc (fun r113 u113 tS H113 locs ht hvm hw113 hB hz1 hk1 hS => ?_)
      obtain ⟨x113, rfl⟩ : ∃ z, z = u113 := ⟨_, rfl⟩
      obtain ⟨hP1, hK1, hD1⟩ := hB
      rw [ht] at hP1
      obtain ⟨hP, hD⟩ := va_join (wr := []) (w1 := [(h, .inr (5, [.ref res, .int ie, .ref t, .int (nI x113.1), .int (nI x113.2.1), .int (wI x113.2.2), .int pa, .int ma, .int ex, .ref ki])), (t, .inl (cB, n, .inl (tx u)))]) hP hD [1, 0] [] rfl rfl (by decide) (by decide) hk1 hFc hP1 hD1
      have hP : va_P (dC, dI) classes [(h, .inr (5, [.ref res, .int ie, .ref t, .int (nI x113.1), .int (nI x113.2.1), .int (wI x113.2.2), .int pa, .int ma, .int ex, .ref ki])), (t, .inl (cB, n, .inl (tx u)))] H113 := hP
      have hD : va_D A [(h, .inr (5, [.ref res, .int ie, .ref t, .int (nI x113.1), .int (nI x113.2.1), .int (wI x113.2.2), .int pa, .int ma, .int ex, .ref ki])), (t, .inl (cB, n, .inl (tx u)))] := hD
      have hw113 : x113 = (rd_opn u n x107 5 o4.2).1 ∧ r113 = nI (rd_opn u n x107 5 o4.2).2 := hw113
      have hi113 := opn_inv (u := u) (tg := 5) hi107 hi4.2.2.1
      obtain ⟨o113, ho113⟩ : ∃ o, o = rd_opn u n x107 5 o4.2 := ⟨_, rfl⟩
      rw [← ho113] at hw113 hi113
      obtain ⟨rfl, rfl⟩ := hw113
      have hP : va_P (dC, dI) classes [(h, .inr (5, [.ref res, .int ie, .ref t, .int (nI o113.1.1), .int (nI o113.1.2.1), .int (wI o113.1.2.2), .int pa, .int ma, .int ex, .ref ki])), (t, .inl (cB, n, .inl (tx u)))] H113 := hP
      have hD : va_D A [(h, .inr (5, [.ref res, .int ie, .ref t, .int (nI o113.1.1), .int (nI o113.1.2.1), .int (wI o113.1.2.2), .int pa, .int ma, .int ex, .ref ki])), (t, .inl (cB, n, .inl (tx u)))] := hD
      refine lv_istore (lv' := [(6, .int (nI o113.2)), (0, .ref h), (1, .int (nI la)), (2, .int (nI en)), (3, .int (nI o4.2)), (4, .int (nI o12.2)), (5, .int z.2)]) hx hb d_Reader_algorithm_116 hl (by decide) rfl (fun ls hl => ?_)
      have hb4 := hi113.1.1
      have hb5 := hi113.2.1
      have hb6 := hi113.2.2.1
      refine lv_aload_n hx hb d_Reader_algorithm_118 rfl (lv_at hl 1 rfl) ?_
      refine lv_iload hx hb d_Reader_algorithm_119 (lv_at hl 0 rfl) ?_
      refine w_join (J := fun v'' => bz v'' (o113.2 = o113.1.1)) (pc := 135) (ls := ls) (rest := [.int (nI o113.2), .ref h]) (fun v'' hv'' => ?_) (fun k135 => ?_)
      · skip
        have hFc := va_free (wc := [(h, .inr (5, [.ref res, .int ie, .ref t, .int (nI o113.1.1), .int (nI o113.1.2.1), .int (wI o113.1.2.2), .int pa, .int ma, .int ex, .ref ki]))]) hD hS hA [0] rfl
        refine va_callv (mu_runU (As := [.int (nI o113.2), .int v'']) (rest := []) ⟨hx, hb, hml, hown, hts⟩ (cL_leave l dC dI sb h res t ki o113.1.1 o113.1.2.1 n o113.1.2.2 pa ma ex ie cB u o113.2 v'' H113.size ((hi113.1).w hn)) (cu_of (n := 2) hts tbin q3_131 q3_133 q3_132 q3_135 q1_15 q3_136 rfl (by decide +kernel) ⟨rfl, rfl⟩ ⟨Nat.le_of_ble_eq_true rfl, Nat.le_of_ble_eq_true rfl⟩) rfl ⟨Nat.le_of_ble_eq_true rfl, Nat.le_of_ble_eq_true rfl⟩ hN (hT0.keep hS hAs) hAs (Nat.le_trans hB0 hS.1) hK hP hD [0] (by decide) rfl [] rfl 0 5 rfl rfl rfl hl.1 rfl (Nat.le_of_ble_eq_true rfl) d_Reader_algorithm_135) hS (fun q _ h => hFc q h) hFc (fun u135 tS H135 locs ht hvm hw135 hB hz1 hk1 hS => ?_)
        obtain ⟨x135, rfl⟩ : ∃ z, z = u135 := ⟨_, rfl⟩
        obtain ⟨hP1, hK1, hD1⟩ := hB
        rw [ht] at hP1
        obtain ⟨hP, hD⟩ := va_join (wr := [(t, .inl (cB, n, .inl (tx u)))]) (w1 := [(h, .inr (5, [.ref res, .int ie, .ref t, .int (nI x135.1), .int (nI x135.2.1), .int (wI x135.2.2), .int pa, .int ma, .int ex, .ref ki]))]) hP hD [0] [1] rfl rfl (by decide) (by decide) hk1 hFc hP1 hD1
        have hP : va_P (dC, dI) classes [(t, .inl (cB, n, .inl (tx u))), (h, .inr (5, [.ref res, .int ie, .ref t, .int (nI x135.1), .int (nI x135.2.1), .int (wI x135.2.2), .int pa, .int ma, .int ex, .ref ki]))] H135 := hP
        have hD : va_D A [(t, .inl (cB, n, .inl (tx u))), (h, .inr (5, [.ref res, .int ie, .ref t, .int (nI x135.1), .int (nI x135.2.1), .int (wI x135.2.2), .int pa, .int ma, .int ex, .ref ki]))] := hD
        have hw135 : x135 = rd_lea o113.1 o113.2 v'' := hw135
        have hi135 : rdInv n x135 := by rw [hw135]; exact lea_inv hi113.1 hi113.2.2.1
        refine lv_aload_n hx hb d_Reader_algorithm_138 rfl (lv_at hl 1 rfl) ?_
        refine lv_iload_n hx hb d_Reader_algorithm_139 rfl (lv_at hl 4 rfl) ?_
        have hFc := va_free (wc := [(h, .inr (5, [.ref res, .int ie, .ref t, .int (nI x135.1), .int (nI x135.2.1), .int (wI x135.2.2), .int pa, .int ma, .int ex, .ref ki]))]) hD hS hA [1] rfl
        refine va_callv (mu_runU (As := [.int (nI o4.2)]) (rest := []) ⟨hx, hb, hml, hown, hts⟩ (cL_finish l dC dI sb h res t ki x135.1 x135.2.1 n x135.2.2 pa ma ex ie cB u o4.2 H135.size ((hi135).w hn) (by have := (hi135).1; omega) (by have := hi4.2.2.1; omega)) (cu_of (n := 1) hts tbin q3_183 q9_201 q3_163 q9_203 q1_15 q3_164 rfl (by decide +kernel) ⟨rfl, rfl⟩ ⟨Nat.le_of_ble_eq_true rfl, Nat.le_of_ble_eq_true rfl⟩) rfl ⟨Nat.le_of_ble_eq_true rfl, Nat.le_of_ble_eq_true rfl⟩ hN (hT0.keep hS hAs) hAs (Nat.le_trans hB0 hS.1) hK hP hD [1] (by decide) rfl [] rfl 1 5 rfl rfl rfl hl.1 rfl (Nat.le_of_ble_eq_true rfl) d_Reader_algorithm_140) hS (fun q _ h => hFc q h) hFc (fun u140 tS H140 locs ht hvm hw140 hB hz1 hk1 hS => ?_)
        obtain ⟨x140, rfl⟩ : ∃ z, z = u140 := ⟨_, rfl⟩
        obtain ⟨hP1, hK1, hD1⟩ := hB
        rw [ht] at hP1
        obtain ⟨hP, hD⟩ := va_join (wr := [(t, .inl (cB, n, .inl (tx u)))]) (w1 := [(h, .inr (5, [.ref res, .int ie, .ref t, .int (nI x140.1), .int (nI x140.2.1), .int (wI x140.2.2), .int pa, .int ma, .int ex, .ref ki]))]) hP hD [1] [0] rfl rfl (by decide) (by decide) hk1 hFc hP1 hD1
        have hP : va_P (dC, dI) classes [(t, .inl (cB, n, .inl (tx u))), (h, .inr (5, [.ref res, .int ie, .ref t, .int (nI x140.1), .int (nI x140.2.1), .int (wI x140.2.2), .int pa, .int ma, .int ex, .ref ki]))] H140 := hP
        have hD : va_D A [(t, .inl (cB, n, .inl (tx u))), (h, .inr (5, [.ref res, .int ie, .ref t, .int (nI x140.1), .int (nI x140.2.1), .int (wI x140.2.2), .int pa, .int ma, .int ex, .ref ki]))] := hD
        have hw140 : x140 = rd_fin x135 o4.2 := hw140
        have hi140 : rdInv n x140 := by rw [hw140]; exact fin_inv hi135
        exact W.vret hx hb hr (fun t ht hW => ⟨⟨x140, rfl, hw140.trans (by rw [hw135, bz_zP hv'', ho113, hw107, hz2, ho12, ho4]; rfl), by rw [ht]; exact hP.sub [1, 0] rfl, va_K.moved hW.alike hK, hD.sub [1, 0] (by decide) rfl⟩, hS.F ht⟩) hS.2.2 d_Reader_algorithm_143
      · skip
        refine lv_iload hx hb d_Reader_algorithm_121 (lv_at hl 0 rfl) ?_
        refine lv_aload_n hx hb d_Reader_algorithm_123 rfl (lv_at hl 1 rfl) ?_
        refine va_get (v := .int (nI o113.1.1)) hx hb htb i_ListReader hown hK hP 0 rfl rfl 3 (by decide) (htb _ q3_62) (fun _ h9 => h9) rfl d_Reader_algorithm_124 ?_
        refine lv_icmp_ne (tgt := 134) hx hb d_Reader_algorithm_127 (by decide) (fun c127 => ?_) (fun c127 => ?_)
        · refine lv_iconst (v := 0) hx hb d_Reader_algorithm_134 (by decide) ?_
          exact k135 _ (bz_f (fun q => c127 (by rw [q])))
        · refine lv_iconst (v := 1) hx hb d_Reader_algorithm_130 (by decide) ?_
          refine lv_goto (tgt := 135) hx hb d_Reader_algorithm_131 (by decide) ?_
          exact k135 _ (bz_t (by rw [nI_eq (by omega) (by omega)] at c127; exact c127))
    · have hlt : z.1 < 8 := by rw [show (8 : Int32) = nI 8 from rfl, nI_leI (by omega) (by omega)] at c61; omega
      refine w_join (J := fun v' => bz v' (alg0 u n o12.1.1 o12.2 la ∧ pk1 u n o12.1.1 (z.1 + 1))) (pc := 94) (ls := ls) (rest := []) (fun v' hv' => ?_) (fun k94 => ?_)
      · skip
        refine lv_istore (lv' := [(5, .int v'), (0, .ref h), (1, .int (nI la)), (2, .int (nI en)), (3, .int (nI o4.2)), (4, .int (nI o12.2)), (6, .int (nI (z.1)))]) hx hb d_Reader_algorithm_94 hl (by decide) rfl (fun ls hl => ?_)
        refine lv_iinc (v := nI (z.1 + 1)) (lv' := [(6, .int (nI (z.1 + 1))), (5, .int v'), (0, .ref h), (1, .int (nI la)), (2, .int (nI en)), (3, .int (nI o4.2)), (4, .int (nI o12.2))]) hx hb d_Reader_algorithm_96 hl (k := 6) rfl (nI_1 _) (by decide) rfl (fun ls hl => ?_)
        refine lv_goto (tgt := 55) hx hb d_Reader_algorithm_99 (by decide) ?_
        exact ih (z.1 + 1, v') ls (by show 8 - (z.1 + 1) < 8 - z.1; omega) (⟨by show z.1 + 1 ≤ 8; omega, hv'⟩) (lv_sub hl [2, 3, 4, 5, 6, 1, 0] rfl)
      · skip
        refine lv_iload hx hb d_Reader_algorithm_64 (lv_at hl 5 rfl) ?_
        refine lv_if_eq (tgt := 93) hx hb d_Reader_algorithm_66 (by decide) (fun c66 => ?_) (fun c66 => ?_)
        · refine lv_iconst (v := 0) hx hb d_Reader_algorithm_93 (by decide) ?_
          exact k94 _ (bz_f (fun q => bz_0 hJ.2 c66 ⟨q.1, fun j hj => q.2 j (by omega)⟩))
        · refine lv_aload_n hx hb d_Reader_algorithm_69 rfl (lv_at hl 0 rfl) ?_
          refine lv_aload_n hx hb d_Reader_algorithm_70 rfl (lv_at hl 0 rfl) ?_
          refine va_get (v := .int (nI o12.1.1)) hx hb htb i_ListReader hown hK hP 0 rfl rfl 3 (by decide) (htb _ q3_62) (fun _ h9 => h9) rfl d_Reader_algorithm_71 ?_
          refine lv_iload hx hb d_Reader_algorithm_74 (lv_at hl 6 rfl) ?_
          refine lv_iadd hx hb d_Reader_algorithm_76 ?_
          rw [show ((nI o12.1.1) + (nI (z.1)) : Int32) = nI (o12.1.1 + z.1) from nI_add o12.1.1 z.1]
          refine vp_callSi (pu_callU (As := [.int (nI (o12.1.1 + z.1))]) (rest := []) ⟨hx, hb, hml, hown, hts⟩ (cL_octet l dC dI sb h res t ki o12.1.1 o12.1.2.1 n o12.1.2.2 pa ma ex ie cB u (nI (o12.1.1 + z.1)) hu hn) (cu_of (n := 1) hts tbin q3_114 q3_116 q3_115 q3_118 q1_15 q3_119 rfl (by decide +kernel) ⟨rfl, rfl⟩ ⟨Nat.le_of_ble_eq_true rfl, Nat.le_of_ble_eq_true rfl⟩) rfl ⟨Nat.le_of_ble_eq_true rfl, Nat.le_of_ble_eq_true rfl⟩ hN (hT0.keep hS hAs) hK hP [0, 1] rfl [0] rfl 0 5 rfl rfl rfl hl.1 rfl (Nat.le_of_ble_eq_true rfl) d_Reader_algorithm_77) (fun r77 hr77 => ?_)
          rw [oc_eq (by omega)] at hr77
          refine va_gets hx hb (hT0.1.1.narrow hAs) hS hown (htb _ q3_181) (fun _ h9 => h9) d_Reader_algorithm_80 ?_
          refine lv_iload hx hb d_Reader_algorithm_83 (lv_at hl 6 rfl) ?_
          have h85 : vp_in (nI (z.1)) 8 := vp_in_nI hlt (by omega)
          refine va_ti (v := .int (sv_PKCS1.getD (nI (z.1)).toNatClampNeg 0)) hx hb (hT0.1.2.narrow hAs) hS h85 rfl d_Reader_algorithm_85 ?_
          rw [show (sv_PKCS1.getD (nI (z.1)).toNatClampNeg 0 : Int32) = sv_PKCS1.getD z.1 0 from by rw [nI_clamp (by omega)]]
          refine lv_icmp_ne (tgt := 93) hx hb d_Reader_algorithm_86 (by decide) (fun c86 => ?_) (fun c86 => ?_)
          · refine lv_iconst (v := 0) hx hb d_Reader_algorithm_93 (by decide) ?_
            exact k94 _ (bz_f (fun q => c86 (by rw [hr77]; exact q.2 z.1 (Nat.lt_succ_self _))))
          · refine lv_iconst (v := 1) hx hb d_Reader_algorithm_89 (by decide) ?_
            refine lv_goto (tgt := 94) hx hb d_Reader_algorithm_90 (by decide) ?_
            exact k94 _ (bz_t ⟨(bz_1 hJ.2 c66).1, pk1_s (bz_1 hJ.2 c66).2 (by rw [← hr77]; exact c86)⟩)
  · skip
    have hb1 := hi12.1.1
    have hb2 := hi12.2.1
    have hb3 := hi12.2.2.1
    refine lv_iload hx hb d_Reader_algorithm_17 (lv_at hl 0 rfl) ?_
    refine lv_aload_n hx hb d_Reader_algorithm_19 rfl (lv_at hl 2 rfl) ?_
    refine va_get (v := .int (nI o12.1.1)) hx hb htb i_ListReader hown hK hP 0 rfl rfl 3 (by decide) (htb _ q3_62) (fun _ h9 => h9) rfl d_Reader_algorithm_20 ?_
    refine lv_isub hx hb d_Reader_algorithm_23 ?_
    refine va_gets hx hb (hT0.1.1.narrow hAs) hS hown (htb _ q3_181) (fun _ h9 => h9) d_Reader_algorithm_24 ?_
    refine va_tlen (v := 8) hx hb (hT0.1.2.narrow hAs) hS rfl d_Reader_algorithm_27 ?_
    refine lv_iconst (v := 1) hx hb d_Reader_algorithm_28 (by decide) ?_
    refine lv_iadd hx hb d_Reader_algorithm_29 ?_
    refine lv_icmp_ne (tgt := 49) hx hb d_Reader_algorithm_30 (by decide) (fun c30 => ?_) (fun c30 => ?_)
    · refine lv_iconst (v := 0) hx hb d_Reader_algorithm_49 (by decide) ?_
      exact k50 _ (bz_f (fun q => c30 (by rw [pk_sub hb2, q.1.1]; rfl)))
    · have h9 : o12.2 - o12.1.1 = 9 := by rw [pk_sub hb2, show (8 + 1 : Int32) = nI 9 from rfl, nI_eq (by omega) (by omega)] at c30; exact c30
      refine lv_aload_n hx hb d_Reader_algorithm_33 rfl (lv_at hl 2 rfl) ?_
      refine lv_iload hx hb d_Reader_algorithm_34 (lv_at hl 0 rfl) ?_
      refine lv_iconst (v := 1) hx hb d_Reader_algorithm_36 (by decide) ?_
      refine lv_isub hx hb d_Reader_algorithm_37 ?_
      rw [show ((nI o12.2) - 1 : Int32) = nI (o12.2 - 1) from pk_sub (a := o12.2) (b := 1) (by omega)]
      refine vp_callSi (pu_callU (As := [.int (nI (o12.2 - 1))]) (rest := []) ⟨hx, hb, hml, hown, hts⟩ (cL_octet l dC dI sb h res t ki o12.1.1 o12.1.2.1 n o12.1.2.2 pa ma ex ie cB u (nI (o12.2 - 1)) hu hn) (cu_of (n := 1) hts tbin q3_114 q3_116 q3_115 q3_118 q1_15 q3_119 rfl (by decide +kernel) ⟨rfl, rfl⟩ ⟨Nat.le_of_ble_eq_true rfl, Nat.le_of_ble_eq_true rfl⟩) rfl ⟨Nat.le_of_ble_eq_true rfl, Nat.le_of_ble_eq_true rfl⟩ hN (hT0.keep hS hAs) hK hP [0, 1] rfl [0] rfl 0 5 rfl rfl rfl hl.1 rfl (Nat.le_of_ble_eq_true rfl) d_Reader_algorithm_38) (fun r38 hr38 => ?_)
      rw [oc_eq (by omega)] at hr38
      refine lv_iload_n hx hb d_Reader_algorithm_41 rfl (lv_at hl 3 rfl) ?_
      refine lv_icmp_ne (tgt := 49) hx hb d_Reader_algorithm_42 (by decide) (fun c42 => ?_) (fun c42 => ?_)
      · refine lv_iconst (v := 0) hx hb d_Reader_algorithm_49 (by decide) ?_
        exact k50 _ (bz_f (fun q => c42 (by rw [hr38]; exact q.1.2)))
      · refine lv_iconst (v := 1) hx hb d_Reader_algorithm_45 (by decide) ?_
        refine lv_goto (tgt := 50) hx hb d_Reader_algorithm_46 (by decide) ?_
        exact k50 _ (bz_t ⟨⟨h9, by rw [← hr38]; exact c42⟩, pk1_0⟩)
