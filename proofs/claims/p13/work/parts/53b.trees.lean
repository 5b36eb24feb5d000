noncomputable def rb_trs (u : Nat → Nat) (n e : Nat) (s : rS × List (Nat × Nat) × List (Nat × Nat)) : rS × List (Nat × Nat) × List (Nat × Nat) :=
  (let z38 := rd_opn u n s.1 48 e; (@ite _ (z38.1.2.2 = none ∧ z38.1.1 < z38.2 ∧ u z38.1.1 = 164) (Classical.propDecidable _) (let z61 := rd_opn u n z38.1 164 z38.2; (let z73 := rd_nam u n z61.1 z61.2; (let z83 := rd_fin z73.1 z61.2; (let z123 := rd_fin z83 z38.2; (z123, s.2.1, (s.2.2 ++ [(z73.2.2.1, z73.2.2.2)])))))) (let z96 := rd_plain u n z38.1 130 0 z38.2; (let z107 := rd_req z96.1 (zP (visN u z96.2.1 z96.2.2)); (let z123 := rd_fin z107 z38.2; (z123, (s.2.1 ++ [(z96.2.1, z96.2.2)]), s.2.2))))))
noncomputable def rd_trs (u : Nat → Nat) (n : Nat) (x : rS) (tg : Nat) (en : Nat) (D R : List (Nat × Nat)) : rS × List (Nat × Nat) × List (Nat × Nat) := loopF (rb_trs u n (rd_opn u n x tg en).2) (fun s => mr s.1 (rd_opn u n x tg en).2) 2048 true ((rd_opn u n x tg en).1, D, R)
theorem trb_st2 (u : Nat → Nat) (n e : Nat) (s : rS × List (Nat × Nat) × List (Nat × Nat)) : st2 s.1 (rb_trs u n e s).1 e := by
  unfold rb_trs
  dsimp only
  have h0 := opn_bd u n s.1 48 e
  have h1 := opn_st2 u n s.1 48 e
  generalize rd_opn u n s.1 48 e = z at h0 h1 ⊢
  have a0 := h0.2.2.1
  split
  · have h2 := opn_bd u n z.1 164 z.2
    have a2 := h2.2.2.1
    have a1 := h0.1.2.1
    exact (((h1.tr h2.1 a0).tr (nam_bd u n _ _) (by omega)).tr (fin_bd _ _ e) (Nat.le_max_right _ _)).tr (fin_bd _ _ e) (Nat.le_max_right _ _)
  · exact ((h1.tr (plain_bd u n z.1 130 0 z.2).1 a0).tr (req_bd _ _ e) (Nat.le_max_right _ _)).tr (fin_bd _ _ e) (Nat.le_max_right _ _)
def y_CertificateReader_readTrees : MethodName := ⟨"TrustChain$CertificateReader", "readTrees", "(ILTrustChain$NameSet;I)V"⟩
abbrev b_CertificateReader_readTrees : ByteArray := prog_3_method_10_code
def w_CertificateReader_readTrees : List Cond := Cond.code y_CertificateReader_readTrees b_CertificateReader_readTrees 8 (none) :: tb
theorem d_CertificateReader_readTrees_0 : decode b_CertificateReader_readTrees 0 = .ok (.aload_n 0, 1) := by decide +kernel
theorem d_CertificateReader_readTrees_1 : decode b_CertificateReader_readTrees 1 = .ok (.iload_n 1, 1) := by decide +kernel
theorem d_CertificateReader_readTrees_2 : decode b_CertificateReader_readTrees 2 = .ok (.iload_n 3, 1) := by decide +kernel
theorem d_CertificateReader_readTrees_3 : decode b_CertificateReader_readTrees 3 = .ok (.invokevirtual 29, 3) := by decide +kernel
theorem d_CertificateReader_readTrees_6 : decode b_CertificateReader_readTrees 6 = .ok (.istore 4, 2) := by decide +kernel
theorem d_CertificateReader_readTrees_8 : decode b_CertificateReader_readTrees 8 = .ok (.iconst 0, 1) := by decide +kernel
theorem d_CertificateReader_readTrees_9 : decode b_CertificateReader_readTrees 9 = .ok (.istore 5, 2) := by decide +kernel
theorem d_CertificateReader_readTrees_11 : decode b_CertificateReader_readTrees 11 = .ok (.iload 5, 2) := by decide +kernel
theorem d_CertificateReader_readTrees_13 : decode b_CertificateReader_readTrees 13 = .ok (.sipush 2048, 3) := by decide +kernel
theorem d_CertificateReader_readTrees_16 : decode b_CertificateReader_readTrees 16 = .ok (.if_icmp .ge 116, 3) := by decide +kernel
theorem d_CertificateReader_readTrees_19 : decode b_CertificateReader_readTrees 19 = .ok (.iload 5, 2) := by decide +kernel
theorem d_CertificateReader_readTrees_21 : decode b_CertificateReader_readTrees 21 = .ok (.ifCond .eq 12, 3) := by decide +kernel
theorem d_CertificateReader_readTrees_24 : decode b_CertificateReader_readTrees 24 = .ok (.aload_n 0, 1) := by decide +kernel
theorem d_CertificateReader_readTrees_25 : decode b_CertificateReader_readTrees 25 = .ok (.iload 4, 2) := by decide +kernel
theorem d_CertificateReader_readTrees_27 : decode b_CertificateReader_readTrees 27 = .ok (.invokevirtual 187, 3) := by decide +kernel
theorem d_CertificateReader_readTrees_30 : decode b_CertificateReader_readTrees 30 = .ok (.ifCond .eq 102, 3) := by decide +kernel
theorem d_CertificateReader_readTrees_33 : decode b_CertificateReader_readTrees 33 = .ok (.aload_n 0, 1) := by decide +kernel
theorem d_CertificateReader_readTrees_34 : decode b_CertificateReader_readTrees 34 = .ok (.bipush 48, 2) := by decide +kernel
theorem d_CertificateReader_readTrees_36 : decode b_CertificateReader_readTrees 36 = .ok (.iload 4, 2) := by decide +kernel
theorem d_CertificateReader_readTrees_38 : decode b_CertificateReader_readTrees 38 = .ok (.invokevirtual 29, 3) := by decide +kernel
theorem d_CertificateReader_readTrees_41 : decode b_CertificateReader_readTrees 41 = .ok (.istore 6, 2) := by decide +kernel
theorem d_CertificateReader_readTrees_43 : decode b_CertificateReader_readTrees 43 = .ok (.aload_n 0, 1) := by decide +kernel
theorem d_CertificateReader_readTrees_44 : decode b_CertificateReader_readTrees 44 = .ok (.sipush 164, 3) := by decide +kernel
theorem d_CertificateReader_readTrees_47 : decode b_CertificateReader_readTrees 47 = .ok (.iload 6, 2) := by decide +kernel
theorem d_CertificateReader_readTrees_49 : decode b_CertificateReader_readTrees 49 = .ok (.invokevirtual 44, 3) := by decide +kernel
theorem d_CertificateReader_readTrees_52 : decode b_CertificateReader_readTrees 52 = .ok (.ifCond .eq 37, 3) := by decide +kernel
theorem d_CertificateReader_readTrees_55 : decode b_CertificateReader_readTrees 55 = .ok (.aload_n 0, 1) := by decide +kernel
theorem d_CertificateReader_readTrees_56 : decode b_CertificateReader_readTrees 56 = .ok (.sipush 164, 3) := by decide +kernel
theorem d_CertificateReader_readTrees_59 : decode b_CertificateReader_readTrees 59 = .ok (.iload 6, 2) := by decide +kernel
theorem d_CertificateReader_readTrees_61 : decode b_CertificateReader_readTrees 61 = .ok (.invokevirtual 29, 3) := by decide +kernel
theorem d_CertificateReader_readTrees_64 : decode b_CertificateReader_readTrees 64 = .ok (.istore 7, 2) := by decide +kernel
theorem d_CertificateReader_readTrees_66 : decode b_CertificateReader_readTrees 66 = .ok (.aload_n 2, 1) := by decide +kernel
theorem d_CertificateReader_readTrees_67 : decode b_CertificateReader_readTrees 67 = .ok (.getfield 223, 3) := by decide +kernel
theorem d_CertificateReader_readTrees_70 : decode b_CertificateReader_readTrees 70 = .ok (.aload_n 0, 1) := by decide +kernel
theorem d_CertificateReader_readTrees_71 : decode b_CertificateReader_readTrees 71 = .ok (.iload 7, 2) := by decide +kernel
theorem d_CertificateReader_readTrees_73 : decode b_CertificateReader_readTrees 73 = .ok (.invokevirtual 110, 3) := by decide +kernel
theorem d_CertificateReader_readTrees_76 : decode b_CertificateReader_readTrees 76 = .ok (.invokevirtual 229, 3) := by decide +kernel
theorem d_CertificateReader_readTrees_79 : decode b_CertificateReader_readTrees 79 = .ok (.pop, 1) := by decide +kernel
theorem d_CertificateReader_readTrees_80 : decode b_CertificateReader_readTrees 80 = .ok (.aload_n 0, 1) := by decide +kernel
theorem d_CertificateReader_readTrees_81 : decode b_CertificateReader_readTrees 81 = .ok (.iload 7, 2) := by decide +kernel
theorem d_CertificateReader_readTrees_83 : decode b_CertificateReader_readTrees 83 = .ok (.invokevirtual 51, 3) := by decide +kernel
theorem d_CertificateReader_readTrees_86 : decode b_CertificateReader_readTrees 86 = .ok (.goto 34, 3) := by decide +kernel
theorem d_CertificateReader_readTrees_89 : decode b_CertificateReader_readTrees 89 = .ok (.aload_n 0, 1) := by decide +kernel
theorem d_CertificateReader_readTrees_90 : decode b_CertificateReader_readTrees 90 = .ok (.sipush 130, 3) := by decide +kernel
theorem d_CertificateReader_readTrees_93 : decode b_CertificateReader_readTrees 93 = .ok (.iconst 0, 1) := by decide +kernel
theorem d_CertificateReader_readTrees_94 : decode b_CertificateReader_readTrees 94 = .ok (.iload 6, 2) := by decide +kernel
theorem d_CertificateReader_readTrees_96 : decode b_CertificateReader_readTrees 96 = .ok (.invokevirtual 163, 3) := by decide +kernel
theorem d_CertificateReader_readTrees_99 : decode b_CertificateReader_readTrees 99 = .ok (.astore 7, 2) := by decide +kernel
theorem d_CertificateReader_readTrees_101 : decode b_CertificateReader_readTrees 101 = .ok (.aload_n 0, 1) := by decide +kernel
theorem d_CertificateReader_readTrees_102 : decode b_CertificateReader_readTrees 102 = .ok (.aload 7, 2) := by decide +kernel
theorem d_CertificateReader_readTrees_104 : decode b_CertificateReader_readTrees 104 = .ok (.invokestatic 235, 3) := by decide +kernel
theorem d_CertificateReader_readTrees_107 : decode b_CertificateReader_readTrees 107 = .ok (.invokevirtual 79, 3) := by decide +kernel
theorem d_CertificateReader_readTrees_110 : decode b_CertificateReader_readTrees 110 = .ok (.aload_n 2, 1) := by decide +kernel
theorem d_CertificateReader_readTrees_111 : decode b_CertificateReader_readTrees 111 = .ok (.getfield 238, 3) := by decide +kernel
theorem d_CertificateReader_readTrees_114 : decode b_CertificateReader_readTrees 114 = .ok (.aload 7, 2) := by decide +kernel
theorem d_CertificateReader_readTrees_116 : decode b_CertificateReader_readTrees 116 = .ok (.invokevirtual 229, 3) := by decide +kernel
theorem d_CertificateReader_readTrees_119 : decode b_CertificateReader_readTrees 119 = .ok (.pop, 1) := by decide +kernel
theorem d_CertificateReader_readTrees_120 : decode b_CertificateReader_readTrees 120 = .ok (.aload_n 0, 1) := by decide +kernel
theorem d_CertificateReader_readTrees_121 : decode b_CertificateReader_readTrees 121 = .ok (.iload 6, 2) := by decide +kernel
theorem d_CertificateReader_readTrees_123 : decode b_CertificateReader_readTrees 123 = .ok (.invokevirtual 51, 3) := by decide +kernel
theorem d_CertificateReader_readTrees_126 : decode b_CertificateReader_readTrees 126 = .ok (.iinc 5 1, 3) := by decide +kernel
theorem d_CertificateReader_readTrees_129 : decode b_CertificateReader_readTrees 129 = .ok (.goto (-118), 3) := by decide +kernel
theorem d_CertificateReader_readTrees_132 : decode b_CertificateReader_readTrees 132 = .ok (.return_, 1) := by decide +kernel
set_option maxHeartbeats 4000000 in
set_option maxRecDepth 100000 in
theorem cC_readTrees (l : Launch) (dC : Nat → ClassId) (dI : Nat → Nat → Nat) (sb : sB) (h res t ki n : Nat) (x : rS) (pa ma ex ie : Int32) (cB : ClassId) (u : Nat → Nat) (tg en : Nat) (ns ad ar : Nat) (o1 o2 : alD) (m1 m2 : Int32) (D R : List (Nat × Nat)) (pl : va_W) (cO : ClassId) (LB : Nat) (sz : Nat) (hu : ∀ j, u j < 256) (hn : n < 2 ^ 30) (hi : rdInv n x) (he : en ≤ n) (htg : tg < 256) (hE1 : elS t n pl o1 D) (hE2 : elS t n pl o2 R) (hL1 : D.length + ((en - x.1) / 2 + 1) ≤ LB) (hL2 : R.length + ((en - x.1) / 2 + 1) ≤ LB) (hLB : LB < 2 ^ 20) : Met l y_CertificateReader_readTrees w_CertificateReader_readTrees ({ frames := 7, cells := (2 * ((en - x.1) / 2 + 1)), slots := (3 * ((en - x.1) / 2 + 1) + 8 * (10 + 2 * LB)), locals := 230 }) (mu_P [.ref h, .int (nI tg), .ref ns, .int (nI en)] (dC, dI) sb (([(h, .inr (4, [.ref res, .ref t, .int (nI x.1), .int (nI x.2.1), .int (wI x.2.2), .int pa, .int ma, .int ex, .ref ki])), (t, .inl (cB, n, .inl (tx u))), (ns, .inr (1, [.ref ad, .ref ar])), (ad, .inr (11, [.ref (alO sb o1), .int (nI D.length), .int m1])), (ar, .inr (11, [.ref (alO sb o2), .int (nI R.length), .int m2]))] : va_W) ++ (alC cO o1 ++ (alC cO o2 ++ (pl ++ [])))) [(cB, .byte), (cO, .object "java/lang/Object")] sz) (va_Qv (fun (u' : (rS × List (Nat × Nat) × List (Nat × Nat)) × alD × Int32 × alD × Int32 × va_W × Int32) => u'.1 = rd_trs u n x tg en D R ∧ rdInv n u'.1.1 ∧ elS t n u'.2.2.2.2.2.1 u'.2.1 u'.1.2.1 ∧ elS t n u'.2.2.2.2.2.1 u'.2.2.2.1 u'.1.2.2 ∧ (∀ q ∈ pl, q ∈ u'.2.2.2.2.2.1) ∧ (2 * u'.1.2.1.length + x.1 ≤ 2 * D.length + u'.1.1.1 + 2 ∧ 2 * u'.1.2.2.length + x.1 ≤ 2 * R.length + u'.1.1.1 + 2) ∧ (u'.1.1.2.2 = none → 2 * u'.1.2.1.length + x.1 ≤ 2 * D.length + u'.1.1.1 ∧ 2 * u'.1.2.2.length + x.1 ≤ 2 * R.length + u'.1.1.1)) (mu_B (dC, dI) [(cB, .byte), (cO, .object "java/lang/Object")] (va_A (([(h, .inr (4, [.ref res, .ref t, .int (nI x.1), .int (nI x.2.1), .int (wI x.2.2), .int pa, .int ma, .int ex, .ref ki])), (t, .inl (cB, n, .inl (tx u))), (ns, .inr (1, [.ref ad, .ref ar])), (ad, .inr (11, [.ref (alO sb o1), .int (nI D.length), .int m1])), (ar, .inr (11, [.ref (alO sb o2), .int (nI R.length), .int m2]))] : va_W) ++ (alC cO o1 ++ (alC cO o2 ++ (pl ++ [])))) sz) (fun u' : (rS × List (Nat × Nat) × List (Nat × Nat)) × alD × Int32 × alD × Int32 × va_W × Int32 => (([(h, .inr (4, [.ref res, .ref t, .int (nI u'.1.1.1), .int (nI u'.1.1.2.1), .int (wI u'.1.1.2.2), .int u'.2.2.2.2.2.2, .int ma, .int ex, .ref ki])), (t, .inl (cB, n, .inl (tx u))), (ns, .inr (1, [.ref ad, .ref ar])), (ad, .inr (11, [.ref (alO sb u'.2.1), .int (nI u'.1.2.1.length), .int u'.2.2.1])), (ar, .inr (11, [.ref (alO sb u'.2.2.2.1), .int (nI u'.1.2.2.length), .int u'.2.2.2.2.1]))] : va_W) ++ (alC cO u'.2.1 ++ (alC cO u'.2.2.2.1 ++ (u'.2.2.2.2.2.1 ++ [])))))) (va_A (([(h, .inr (4, [.ref res, .ref t, .int (nI x.1), .int (nI x.2.1), .int (wI x.2.2), .int pa, .int ma, .int ex, .ref ki])), (t, .inl (cB, n, .inl (tx u))), (ns, .inr (1, [.ref ad, .ref ar])), (ad, .inr (11, [.ref (alO sb o1), .int (nI D.length), .int m1])), (ar, .inr (11, [.ref (alO sb o2), .int (nI R.length), .int m2]))] : va_W) ++ (alC cO o1 ++ (alC cO o2 ++ (pl ++ [])))) sz)) (2 * ((en - x.1) / 2 + 1)) (3 * ((en - x.1) / 2 + 1) + 8 * (10 + 2 * LB)) (va_A (([(h, .inr (4, [.ref res, .ref t, .int (nI x.1), .int (nI x.2.1), .int (wI x.2.2), .int pa, .int ma, .int ex, .ref ki])), (t, .inl (cB, n, .inl (tx u))), (ns, .inr (1, [.ref ad, .ref ar])), (ad, .inr (11, [.ref (alO sb o1), .int (nI D.length), .int m1])), (ar, .inr (11, [.ref (alO sb o2), .int (nI R.length), .int m2]))] : va_W) ++ (alC cO o1 ++ (alC cO o2 ++ (pl ++ [])))) sz) := by
  refine Met.ofW (cc := b_CertificateReader_readTrees) (maxL := 8) (ret := none) (by decide) rfl ?_
  intro p e s m args below meth c s₁ B hml hv
  obtain ⟨rfl, hsz, hB0, hP, hK, hD0, hN, hT0⟩ := hv
  have hx := B.exec
  have hb := B.bytes
  have hr := B.returns
  have hts := atoms_spec (ws := w_CertificateReader_readTrees) B.pre
  have tbin : ∀ w ∈ tb, w ∈ w_CertificateReader_readTrees := fun w h => List.mem_cons_of_mem _ h
  have htb : ∀ w ∈ tb, w.before _ s = true := fun w h => hts w (tbin w h)
  have hown : s.vm.findClass "TrustChain$CertificateReader" = some m.cls := findClass_of_methodNamed B.named
  have hlocks := B.notSynchronized
  subst hsz
  have hD := hD0.self (sz := s.heap.size)
  generalize hAe : va_A (([(h, .inr (4, [.ref res, .ref t, .int (nI x.1), .int (nI x.2.1), .int (wI x.2.2), .int pa, .int ma, .int ex, .ref ki])), (t, .inl (cB, n, .inl (tx u))), (ns, .inr (1, [.ref ad, .ref ar])), (ad, .inr (11, [.ref (alO sb o1), .int (nI D.length), .int m1])), (ar, .inr (11, [.ref (alO sb o2), .int (nI R.length), .int m2]))] : va_W) ++ (alC cO o1 ++ (alC cO o2 ++ (pl ++ [])))) s.heap.size = A at hD ⊢
  have hA : ∀ q : Nat, s.heap.size ≤ q → A q := fun q h => by rw [← hAe]; exact Or.inr h
  have hAs : ∀ q : Nat, A q → sb.1 ≤ q := fun q h => by
    rw [← hAe] at h
    rcases h with ⟨k, e, h⟩ | h
    · exact hD0.2 k _ h
    · exact Nat.le_trans hB0 h
  have hS : va_S A s.heap s.heap [] := va_S.rf
  have hcs : (2 * ((en - x.1) / 2 + 1)) ≤ (headSpec w_CertificateReader_readTrees ({ frames := 7, cells := (2 * ((en - x.1) / 2 + 1)), slots := (3 * ((en - x.1) / 2 + 1) + 8 * (10 + 2 * LB)), locals := 230 })).room.cells ∧ (3 * ((en - x.1) / 2 + 1) + 8 * (10 + 2 * LB)) ≤ (headSpec w_CertificateReader_readTrees ({ frames := 7, cells := (2 * ((en - x.1) / 2 + 1)), slots := (3 * ((en - x.1) / 2 + 1) + 8 * (10 + 2 * LB)), locals := 230 })).room.slots := ⟨Nat.le_refl _, Nat.le_refl _⟩
  have hP : va_P (dC, dI) classes (([(h, .inr (4, [.ref res, .ref t, .int (nI x.1), .int (nI x.2.1), .int (wI x.2.2), .int pa, .int ma, .int ex, .ref ki])), (t, .inl (cB, n, .inl (tx u))), (ns, .inr (1, [.ref ad, .ref ar])), (ad, .inr (11, [.ref (alO sb o1), .int (nI D.length), .int m1])), (ar, .inr (11, [.ref (alO sb o2), .int (nI R.length), .int m2]))] : va_W) ++ (alC cO o1 ++ (alC cO o2 ++ (pl ++ [])))) s.heap := hP
  have hl := lv_entry ([.ref h, .int (nI tg), .ref ns, .int (nI en)]) (n := 8) (Nat.le_of_ble_eq_true rfl)
  rw [lg_entry_eq]
  generalize (lg_sl ([.ref h, .int (nI tg), .ref ns, .int (nI en)]) ++ List.replicate (8 - (lg_sl ([.ref h, .int (nI tg), .ref ns, .int (nI en)])).length) Slot.unset).toArray = ls at hl ⊢
  have hl : lv_has ls 8 [(0, .ref h), (1, .int (nI tg)), (2, .ref ns), (3, .int (nI en))] := hl
  refine lv_aload_n hx hb d_CertificateReader_readTrees_0 rfl (lv_at hl 0 rfl) ?_
  refine lv_iload_n hx hb d_CertificateReader_readTrees_1 rfl (lv_at hl 1 rfl) ?_
  refine lv_iload_n hx hb d_CertificateReader_readTrees_2 rfl (lv_at hl 3 rfl) ?_
  have hFc := va_free (wc := [(h, .inr (4, [.ref res, .ref t, .int (nI x.1), .int (nI x.2.1), .int (wI x.2.2), .int pa, .int ma, .int ex, .ref ki])), (t, .inl (cB, n, .inl (tx u)))]) hD hS hA [0, 1] rfl
  refine va_calli (mu_runU (As := [.int (nI tg), .int (nI en)]) (rest := []) ⟨hx, hb, hml, hown, hts⟩ (cC_open l dC dI sb h res t ki x.1 x.2.1 n x.2.2 pa ma ex ie cB u tg en s.heap.size hu hn ((hi).w hn) (by omega) (hi).1 (by omega)) (cu_of (n := 2) hts tbin q3_108 q3_109 q3_112 q3_111 q1_15 q3_113 rfl (by decide +kernel) ⟨rfl, rfl⟩ ⟨Nat.le_of_ble_eq_true rfl, Nat.le_of_ble_eq_true rfl⟩) rfl ⟨by omega, by omega⟩ hN (hT0.keep hS hAs) hAs (Nat.le_trans hB0 hS.1) hK hP hD [0, 1] (by decide) rfl [0] rfl 0 4 rfl rfl rfl hl.1 rfl (Nat.le_of_ble_eq_true rfl) d_CertificateReader_readTrees_3) hS (fun q _ h => hFc q h) hFc (fun r3 u3 tS H3 locs ht hvm hw3 hB hz1 hk1 hS => ?_)
  obtain ⟨x3, rfl⟩ : ∃ z, z = u3 := ⟨_, rfl⟩
  obtain ⟨hP1, hK1, hD1⟩ := hB
  rw [ht] at hP1
  obtain ⟨hP, hD⟩ := va_joinQ (X := [(h, .inr (4, [.ref res, .ref t, .int (nI x.1), .int (nI x.2.1), .int (wI x.2.2), .int pa, .int ma, .int ex, .ref ki])), (t, .inl (cB, n, .inl (tx u))), (ns, .inr (1, [.ref ad, .ref ar])), (ad, .inr (11, [.ref (alO sb o1), .int (nI D.length), .int m1])), (ar, .inr (11, [.ref (alO sb o2), .int (nI R.length), .int m2]))]) (pl := (alC cO o1 ++ (alC cO o2 ++ (pl ++ [])))) (wr := [(ns, .inr (1, [.ref ad, .ref ar])), (ad, .inr (11, [.ref (alO sb o1), .int (nI D.length), .int m1])), (ar, .inr (11, [.ref (alO sb o2), .int (nI R.length), .int m2]))]) (w1 := [(h, .inr (4, [.ref res, .ref t, .int (nI x3.1), .int (nI x3.2.1), .int (wI x3.2.2), .int pa, .int ma, .int ex, .ref ki])), (t, .inl (cB, n, .inl (tx u)))]) hP hD [0, 1] [2, 3, 4] rfl rfl (by decide) (by decide) hk1 hFc hP1 hD1
  have hP : va_P (dC, dI) classes (([(ns, .inr (1, [.ref ad, .ref ar])), (ad, .inr (11, [.ref (alO sb o1), .int (nI D.length), .int m1])), (ar, .inr (11, [.ref (alO sb o2), .int (nI R.length), .int m2])), (h, .inr (4, [.ref res, .ref t, .int (nI x3.1), .int (nI x3.2.1), .int (wI x3.2.2), .int pa, .int ma, .int ex, .ref ki])), (t, .inl (cB, n, .inl (tx u)))] : va_W) ++ (alC cO o1 ++ (alC cO o2 ++ (pl ++ [])))) H3 := hP
  have hD : va_D A (([(ns, .inr (1, [.ref ad, .ref ar])), (ad, .inr (11, [.ref (alO sb o1), .int (nI D.length), .int m1])), (ar, .inr (11, [.ref (alO sb o2), .int (nI R.length), .int m2])), (h, .inr (4, [.ref res, .ref t, .int (nI x3.1), .int (nI x3.2.1), .int (wI x3.2.2), .int pa, .int ma, .int ex, .ref ki])), (t, .inl (cB, n, .inl (tx u)))] : va_W) ++ (alC cO o1 ++ (alC cO o2 ++ (pl ++ [])))) := hD
  have hw3 : x3 = (rd_opn u n x tg en).1 ∧ r3 = nI (rd_opn u n x tg en).2 := hw3
  have hi3 := opn_inv (u := u) (tg := tg) hi (show en ≤ n by omega)
  obtain ⟨z3, hz3⟩ : ∃ o, o = rd_opn u n x tg en := ⟨_, rfl⟩
  rw [← hz3] at hw3 hi3
  obtain ⟨rfl, rfl⟩ := hw3
  have hb3 : z3.1.1 ≤ n := hi3.1.1
  have hc3 : z3.1.1 ≤ z3.2 := hi3.2.1
  have hd3 : z3.2 ≤ n := hi3.2.2.1
  have hP : va_P (dC, dI) classes (([(ns, .inr (1, [.ref ad, .ref ar])), (ad, .inr (11, [.ref (alO sb o1), .int (nI D.length), .int m1])), (ar, .inr (11, [.ref (alO sb o2), .int (nI R.length), .int m2])), (h, .inr (4, [.ref res, .ref t, .int (nI z3.1.1), .int (nI z3.1.2.1), .int (wI z3.1.2.2), .int pa, .int ma, .int ex, .ref ki])), (t, .inl (cB, n, .inl (tx u)))] : va_W) ++ (alC cO o1 ++ (alC cO o2 ++ (pl ++ [])))) H3 := hP
  have hD : va_D A (([(ns, .inr (1, [.ref ad, .ref ar])), (ad, .inr (11, [.ref (alO sb o1), .int (nI D.length), .int m1])), (ar, .inr (11, [.ref (alO sb o2), .int (nI R.length), .int m2])), (h, .inr (4, [.ref res, .ref t, .int (nI z3.1.1), .int (nI z3.1.2.1), .int (wI z3.1.2.2), .int pa, .int ma, .int ex, .ref ki])), (t, .inl (cB, n, .inl (tx u)))] : va_W) ++ (alC cO o1 ++ (alC cO o2 ++ (pl ++ [])))) := hD
  refine lv_istore (lv' := [(4, .int (nI z3.2)), (0, .ref h), (1, .int (nI tg)), (2, .ref ns), (3, .int (nI en))]) hx hb d_CertificateReader_readTrees_6 hl (by decide) rfl (fun ls hl => ?_)
  refine lv_iconst (v := 0) hx hb d_CertificateReader_readTrees_8 (by decide) ?_
  refine lv_istore (lv' := [(5, .int 0), (4, .int (nI z3.2)), (0, .ref h), (1, .int (nI tg)), (2, .ref ns), (3, .int (nI en))]) hx hb d_CertificateReader_readTrees_9 hl (by decide) rfl (fun ls hl => ?_)
  refine W.widen (k := (2 * 0)) (n := (3 * 0 + 4 * (alK o1 - alK o1) + 4 * (alK o2 - alK o2))) (by omega) (by omega) ?_
  refine w_loopC (α := (rS × List (Nat × Nat) × List (Nat × Nat)) × Nat × alD × Int32 × alD × Int32 × va_W × Int32) (fun a => rdInv n a.1.1 ∧ a.2.1 ≤ 2048 ∧ loopF (rb_trs u n z3.2) (fun s => mr s.1 z3.2) (2048 - a.2.1) (a.2.1 == 0) a.1 = loopF (rb_trs u n z3.2) (fun s => mr s.1 z3.2) 2048 true (z3.1, D, R) ∧ elS t n a.2.2.2.2.2.2.1 a.2.2.1 a.1.2.1 ∧ elS t n a.2.2.2.2.2.2.1 a.2.2.2.2.1 a.1.2.2 ∧ (∀ q ∈ pl, q ∈ a.2.2.2.2.2.2.1) ∧ (alK o1 ≤ alK a.2.2.1 ∧ mxB (alK a.2.2.1) (alK o1) (10 + 2 * a.1.2.1.length)) ∧ (alK o2 ≤ alK a.2.2.2.2.1 ∧ mxB (alK a.2.2.2.2.1) (alK o2) (10 + 2 * a.1.2.2.length)) ∧ (a.1.2.1.length ≤ D.length + a.2.1 ∧ a.1.2.2.length ≤ R.length + a.2.1) ∧ (a.1.1.1 ≤ z3.2 ∧ z3.1.1 ≤ a.1.1.1 ∧ z3.1.1 + 2 * a.2.1 ≤ a.1.1.1 + 2 ∧ (a.1.1.2.2 = none → z3.1.1 + 2 * a.2.1 ≤ a.1.1.1))) (fun a => 2048 - a.2.1) (fun a => [(0, .ref h), (2, .ref ns), (4, .int (nI z3.2)), (5, .int (nI a.2.1))]) (fun _ => []) (fun a => (([(h, .inr (4, [.ref res, .ref t, .int (nI a.1.1.1), .int (nI a.1.1.2.1), .int (wI a.1.1.2.2), .int a.2.2.2.2.2.2.2, .int ma, .int ex, .ref ki])), (t, .inl (cB, n, .inl (tx u))), (ns, .inr (1, [.ref ad, .ref ar])), (ad, .inr (11, [.ref (alO sb a.2.2.1), .int (nI a.1.2.1.length), .int a.2.2.2.1])), (ar, .inr (11, [.ref (alO sb a.2.2.2.2.1), .int (nI a.1.2.2.length), .int a.2.2.2.2.2.1]))] : va_W) ++ (alC cO a.2.2.1 ++ (alC cO a.2.2.2.2.1 ++ (a.2.2.2.2.2.2.1 ++ []))))) (fun a => (2 * a.2.1)) (fun a => (3 * a.2.1 + 4 * (alK a.2.2.1 - alK o1) + 4 * (alK a.2.2.2.2.1 - alK o2))) 8 11 (fun a HL11 locs ls hJ hP hD hS hl ih => ?_) ((z3.1, D, R), 0, o1, m1, o2, m2, pl, pa) _ _ ls (⟨hi3.1, Nat.zero_le _, rfl, hE1, hE2, fun q hq => hq, ⟨Nat.le_refl _, Nat.le_max_left _ _⟩, ⟨Nat.le_refl _, Nat.le_max_left _ _⟩, ⟨Nat.le_refl _, Nat.le_refl _⟩, ⟨hc3, Nat.le_refl _, by show z3.1.1 + 2 * 0 ≤ z3.1.1 + 2; omega, fun _ => by show z3.1.1 + 2 * 0 ≤ z3.1.1; omega⟩⟩) (hP.part [3, 4, 0, 1, 2] rfl) (hD.part [3, 4, 0, 1, 2] (by decide) rfl) hS (lv_sub hl [2, 4, 1, 0] rfl)
  have hP : va_P (dC, dI) classes (([(h, .inr (4, [.ref res, .ref t, .int (nI a.1.1.1), .int (nI a.1.1.2.1), .int (wI a.1.1.2.2), .int a.2.2.2.2.2.2.2, .int ma, .int ex, .ref ki])), (t, .inl (cB, n, .inl (tx u))), (ns, .inr (1, [.ref ad, .ref ar])), (ad, .inr (11, [.ref (alO sb a.2.2.1), .int (nI a.1.2.1.length), .int a.2.2.2.1])), (ar, .inr (11, [.ref (alO sb a.2.2.2.2.1), .int (nI a.1.2.2.length), .int a.2.2.2.2.2.1]))] : va_W) ++ (alC cO a.2.2.1 ++ (alC cO a.2.2.2.2.1 ++ (a.2.2.2.2.2.2.1 ++ [])))) HL11 := hP
  have hD : va_D A (([(h, .inr (4, [.ref res, .ref t, .int (nI a.1.1.1), .int (nI a.1.1.2.1), .int (wI a.1.1.2.2), .int a.2.2.2.2.2.2.2, .int ma, .int ex, .ref ki])), (t, .inl (cB, n, .inl (tx u))), (ns, .inr (1, [.ref ad, .ref ar])), (ad, .inr (11, [.ref (alO sb a.2.2.1), .int (nI a.1.2.1.length), .int a.2.2.2.1])), (ar, .inr (11, [.ref (alO sb a.2.2.2.2.1), .int (nI a.1.2.2.length), .int a.2.2.2.2.2.1]))] : va_W) ++ (alC cO a.2.2.1 ++ (alC cO a.2.2.2.2.1 ++ (a.2.2.2.2.2.2.1 ++ [])))) := hD
  obtain ⟨hj1, hj2, hj3, hj4, hj5, hj6, ⟨hj7, hj7b⟩, ⟨hj8, hj8b⟩, ⟨hj9, hj9b⟩, ⟨hj10, hj11, hj12, hj13⟩⟩ := hJ
  have hxn : a.1.1.1 ≤ n := hj1.1
  have hop9 := (opn_bd u n x tg en)
  rw [← hz3] at hop9
  have hw9 : mxB z3.2 x.1 en := hop9.2.2.1
  have hw8 := hop9.1.1
  clear hop9
  have hkk : a.2.1 ≤ ((en - x.1) / 2 + 1) := by have := mxU hw9; omega
  have hs0 : (3 * a.2.1 + 4 * (alK a.2.2.1 - alK o1) + 4 * (alK a.2.2.2.2.1 - alK o2)) ≤ (3 * ((en - x.1) / 2 + 1) + 8 * (10 + 2 * LB)) := by have h1 := mxU hj7b; have h2 := mxU hj8b; omega
  refine lv_iload hx hb d_CertificateReader_readTrees_11 (lv_at hl 3 rfl) ?_
  refine lv_sipush (v := 2048) hx hb d_CertificateReader_readTrees_13 (by decide) ?_
  refine lv_icmp_ge (tgt := 132) hx hb d_CertificateReader_readTrees_16 (by decide) (fun c16 => ?_) (fun c16 => ?_)
  · have p16 : 2048 ≤ a.2.1 := ((nI_leI (a := 2048) (b := a.2.1) (by omega) (by omega)).mp c16)
    have hT9 : a.1 = rd_trs u n x tg en D R := by
        have h7 := loop_end hj3 (by omega)
        subst hz3
        exact h7
    refine W.widen (k := (2 * ((en - x.1) / 2 + 1))) (n := (3 * ((en - x.1) / 2 + 1) + 8 * (10 + 2 * LB))) (by have h1 := mxU hw9; have h2 := mxU hj7b; have h3 := mxU hj8b; omega) (by have h1 := mxU hw9; have h2 := mxU hj7b; have h3 := mxU hj8b; omega) ?_
    exact W.vret hx hb hr (fun t ht hW => ⟨⟨(a.1, a.2.2), rfl, ⟨hT9, hj1, hj4, hj5, hj6, ⟨by show 2 * a.1.2.1.length + x.1 ≤ 2 * D.length + a.1.1.1 + 2; omega, by show 2 * a.1.2.2.length + x.1 ≤ 2 * R.length + a.1.1.1 + 2; omega⟩, fun h9 => by have := hj13 h9; exact ⟨by show 2 * a.1.2.1.length + x.1 ≤ 2 * D.length + a.1.1.1; omega, by show 2 * a.1.2.2.length + x.1 ≤ 2 * R.length + a.1.1.1; omega⟩⟩, by rw [ht]; exact hP, va_K.moved hW.alike hK, hD⟩, hS.F ht⟩) hS.2.2 d_CertificateReader_readTrees_132
  · have p16 : ¬ (2048 ≤ a.2.1) := (fun q9 => c16 ((nI_leI (a := 2048) (b := a.2.1) (by omega) (by omega)).mpr q9))
    have hk2 : a.2.1 < 2048 := by omega
    refine w_cutJ (J := (a.2.1 == 0) = true ∨ mr a.1.1 z3.2) (nL := 8) (lv := [(0, .ref h), (2, .ref ns), (4, .int (nI z3.2)), (5, .int (nI a.2.1))]) (pcJ := 33) (st := []) (fun ls hcond hl => ?_) (fun k33 => ?_)
    · skip
      have hkb : a.2.1 + 1 ≤ ((en - x.1) / 2 + 1) := by
        rcases hcond with h9 | ⟨h9, h8⟩
        · have := eq_of_beq h9; omega
        · have := hj13 h9; have := mxU hw9; have h8 : a.1.1.1 < _ := h8; omega
      have hsl : (3 * a.2.1 + 4 * (alK a.2.2.1 - alK o1) + 4 * (alK a.2.2.2.2.1 - alK o2)) + 3 ≤ (3 * ((en - x.1) / 2 + 1) + 8 * (10 + 2 * LB)) := by have h1 := mxU hj7b; have h2 := mxU hj8b; omega
      have hkz : z3.1.1 + 2 * a.2.1 ≤ a.1.1.1 := by
        rcases hcond with h9 | ⟨h9, h8⟩
        · have := eq_of_beq h9; omega
        · exact hj13 h9
      refine lv_aload_n hx hb d_CertificateReader_readTrees_33 rfl (lv_at hl 0 rfl) ?_
      refine lv_bipush (v := 48) hx hb d_CertificateReader_readTrees_34 (by decide) ?_
      refine lv_iload hx hb d_CertificateReader_readTrees_36 (lv_at hl 2 rfl) ?_
      have hFc := va_free (wc := [(h, .inr (4, [.ref res, .ref t, .int (nI a.1.1.1), .int (nI a.1.1.2.1), .int (wI a.1.1.2.2), .int a.2.2.2.2.2.2.2, .int ma, .int ex, .ref ki])), (t, .inl (cB, n, .inl (tx u)))]) hD hS hA [0, 1] rfl
      refine va_calli (mu_runU (As := [.int 48, .int (nI z3.2)]) (rest := []) ⟨hx, hb, hml, hown, hts⟩ (cC_open l dC dI sb h res t ki a.1.1.1 a.1.1.2.1 n a.1.1.2.2 a.2.2.2.2.2.2.2 ma ex ie cB u 48 z3.2 HL11.size hu hn ((hj1).w hn) (by omega) (hj1).1 (by decide)) (cu_of (n := 2) hts tbin q3_108 q3_109 q3_112 q3_111 q1_15 q3_113 rfl (by decide +kernel) ⟨rfl, rfl⟩ ⟨Nat.le_of_ble_eq_true rfl, Nat.le_of_ble_eq_true rfl⟩) rfl ⟨by omega, by omega⟩ hN (hT0.keep hS hAs) hAs (Nat.le_trans hB0 hS.1) hK hP hD [0, 1] (by decide) rfl [0] rfl 0 4 rfl rfl rfl hl.1 rfl (Nat.le_of_ble_eq_true rfl) d_CertificateReader_readTrees_38) hS (fun q _ h => hFc q h) hFc (fun r38 u38 tS H38 locs ht hvm hw38 hB hz1 hk1 hS => ?_)
      obtain ⟨x38, rfl⟩ : ∃ z, z = u38 := ⟨_, rfl⟩
      obtain ⟨hP1, hK1, hD1⟩ := hB
      rw [ht] at hP1
      obtain ⟨hP, hD⟩ := va_joinQ (X := [(h, .inr (4, [.ref res, .ref t, .int (nI a.1.1.1), .int (nI a.1.1.2.1), .int (wI a.1.1.2.2), .int a.2.2.2.2.2.2.2, .int ma, .int ex, .ref ki])), (t, .inl (cB, n, .inl (tx u))), (ns, .inr (1, [.ref ad, .ref ar])), (ad, .inr (11, [.ref (alO sb a.2.2.1), .int (nI a.1.2.1.length), .int a.2.2.2.1])), (ar, .inr (11, [.ref (alO sb a.2.2.2.2.1), .int (nI a.1.2.2.length), .int a.2.2.2.2.2.1]))]) (pl := (alC cO a.2.2.1 ++ (alC cO a.2.2.2.2.1 ++ (a.2.2.2.2.2.2.1 ++ [])))) (wr := [(ns, .inr (1, [.ref ad, .ref ar])), (ad, .inr (11, [.ref (alO sb a.2.2.1), .int (nI a.1.2.1.length), .int a.2.2.2.1])), (ar, .inr (11, [.ref (alO sb a.2.2.2.2.1), .int (nI a.1.2.2.length), .int a.2.2.2.2.2.1]))]) (w1 := [(h, .inr (4, [.ref res, .ref t, .int (nI x38.1), .int (nI x38.2.1), .int (wI x38.2.2), .int a.2.2.2.2.2.2.2, .int ma, .int ex, .ref ki])), (t, .inl (cB, n, .inl (tx u)))]) hP hD [0, 1] [2, 3, 4] rfl rfl (by decide) (by decide) hk1 hFc hP1 hD1
      have hP : va_P (dC, dI) classes (([(ns, .inr (1, [.ref ad, .ref ar])), (ad, .inr (11, [.ref (alO sb a.2.2.1), .int (nI a.1.2.1.length), .int a.2.2.2.1])), (ar, .inr (11, [.ref (alO sb a.2.2.2.2.1), .int (nI a.1.2.2.length), .int a.2.2.2.2.2.1])), (h, .inr (4, [.ref res, .ref t, .int (nI x38.1), .int (nI x38.2.1), .int (wI x38.2.2), .int a.2.2.2.2.2.2.2, .int ma, .int ex, .ref ki])), (t, .inl (cB, n, .inl (tx u)))] : va_W) ++ (alC cO a.2.2.1 ++ (alC cO a.2.2.2.2.1 ++ (a.2.2.2.2.2.2.1 ++ [])))) H38 := hP
      have hD : va_D A (([(ns, .inr (1, [.ref ad, .ref ar])), (ad, .inr (11, [.ref (alO sb a.2.2.1), .int (nI a.1.2.1.length), .int a.2.2.2.1])), (ar, .inr (11, [.ref (alO sb a.2.2.2.2.1), .int (nI a.1.2.2.length), .int a.2.2.2.2.2.1])), (h, .inr (4, [.ref res, .ref t, .int (nI x38.1), .int (nI x38.2.1), .int (wI x38.2.2), .int a.2.2.2.2.2.2.2, .int ma, .int ex, .ref ki])), (t, .inl (cB, n, .inl (tx u)))] : va_W) ++ (alC cO a.2.2.1 ++ (alC cO a.2.2.2.2.1 ++ (a.2.2.2.2.2.2.1 ++ [])))) := hD
      have hw38 : x38 = (rd_opn u n a.1.1 48 z3.2).1 ∧ r38 = nI (rd_opn u n a.1.1 48 z3.2).2 := hw38
      have hi38 := opn_inv (u := u) (tg := 48) hj1 (show z3.2 ≤ n by omega)
      obtain ⟨z38, hz38⟩ : ∃ o, o = rd_opn u n a.1.1 48 z3.2 := ⟨_, rfl⟩
      rw [← hz38] at hw38 hi38
      obtain ⟨rfl, rfl⟩ := hw38
      have hb38 : z38.1.1 ≤ n := hi38.1.1
      have hc38 : z38.1.1 ≤ z38.2 := hi38.2.1
      have hd38 : z38.2 ≤ n := hi38.2.2.1
      have hP : va_P (dC, dI) classes (([(ns, .inr (1, [.ref ad, .ref ar])), (ad, .inr (11, [.ref (alO sb a.2.2.1), .int (nI a.1.2.1.length), .int a.2.2.2.1])), (ar, .inr (11, [.ref (alO sb a.2.2.2.2.1), .int (nI a.1.2.2.length), .int a.2.2.2.2.2.1])), (h, .inr (4, [.ref res, .ref t, .int (nI z38.1.1), .int (nI z38.1.2.1), .int (wI z38.1.2.2), .int a.2.2.2.2.2.2.2, .int ma, .int ex, .ref ki])), (t, .inl (cB, n, .inl (tx u)))] : va_W) ++ (alC cO a.2.2.1 ++ (alC cO a.2.2.2.2.1 ++ (a.2.2.2.2.2.2.1 ++ [])))) H38 := hP
      have hD : va_D A (([(ns, .inr (1, [.ref ad, .ref ar])), (ad, .inr (11, [.ref (alO sb a.2.2.1), .int (nI a.1.2.1.length), .int a.2.2.2.1])), (ar, .inr (11, [.ref (alO sb a.2.2.2.2.1), .int (nI a.1.2.2.length), .int a.2.2.2.2.2.1])), (h, .inr (4, [.ref res, .ref t, .int (nI z38.1.1), .int (nI z38.1.2.1), .int (wI z38.1.2.2), .int a.2.2.2.2.2.2.2, .int ma, .int ex, .ref ki])), (t, .inl (cB, n, .inl (tx u)))] : va_W) ++ (alC cO a.2.2.1 ++ (alC cO a.2.2.2.2.1 ++ (a.2.2.2.2.2.2.1 ++ [])))) := hD
      refine lv_istore (lv' := [(6, .int (nI z38.2)), (0, .ref h), (2, .ref ns), (4, .int (nI z3.2)), (5, .int (nI a.2.1))]) hx hb d_CertificateReader_readTrees_41 hl (by decide) rfl (fun ls hl => ?_)
      refine lv_aload_n hx hb d_CertificateReader_readTrees_43 rfl (lv_at hl 1 rfl) ?_
      refine lv_sipush (v := 164) hx hb d_CertificateReader_readTrees_44 (by decide) ?_
      refine lv_iload hx hb d_CertificateReader_readTrees_47 (lv_at hl 0 rfl) ?_
      refine vp_callSi (pu_callU (As := [.int 164, .int (nI z38.2)]) (rest := []) ⟨hx, hb, hml, hown, hts⟩ (cC_nextIs l dC dI sb h res t ki z38.1.1 z38.1.2.1 n z38.1.2.2 a.2.2.2.2.2.2.2 ma ex ie cB u 164 z38.2 hu hn ((hi38.1).w hn) (by omega) (hi38.1).1 (by decide)) (cu_of (n := 2) hts tbin q4_52 q4_53 q3_207 q4_55 q1_15 q3_211 rfl (by decide +kernel) ⟨rfl, rfl⟩ ⟨Nat.le_of_ble_eq_true rfl, Nat.le_of_ble_eq_true rfl⟩) rfl ⟨by omega, by omega⟩ hN (hT0.keep hS hAs) hK hP [3, 4] rfl [0] rfl 3 4 rfl rfl rfl hl.1 rfl (Nat.le_of_ble_eq_true rfl) d_CertificateReader_readTrees_49) (fun r49 hr49 => ?_)
      obtain rfl := bz_zP hr49
      refine lv_if_eq (tgt := 89) hx hb d_CertificateReader_readTrees_52 (by decide) (fun c52 => ?_) (fun c52 => ?_)
      · have p52 : ¬ (z38.1.2.2 = none ∧ z38.1.1 < z38.2 ∧ u z38.1.1 = 164) := (zP_0.mp c52)
        refine lv_aload_n hx hb d_CertificateReader_readTrees_89 rfl (lv_at hl 1 rfl) ?_
        refine lv_sipush (v := 130) hx hb d_CertificateReader_readTrees_90 (by decide) ?_
        refine lv_iconst (v := 0) hx hb d_CertificateReader_readTrees_93 (by decide) ?_
        refine lv_iload hx hb d_CertificateReader_readTrees_94 (lv_at hl 0 rfl) ?_
        have hFc := va_free (wc := [(h, .inr (4, [.ref res, .ref t, .int (nI z38.1.1), .int (nI z38.1.2.1), .int (wI z38.1.2.2), .int a.2.2.2.2.2.2.2, .int ma, .int ex, .ref ki])), (t, .inl (cB, n, .inl (tx u)))]) hD hS hA [3, 4] rfl
        refine va_callr (mu_runU (As := [.int 130, .int 0, .int (nI z38.2)]) (rest := []) ⟨hx, hb, hml, hown, hts⟩ (cC_plain l dC dI sb h res t ki n z38.1 a.2.2.2.2.2.2.2 ma ex ie cB u 130 0 z38.2 H38.size hu hn hi38.1 (by omega) (by decide) (by decide)) (cu_of (n := 3) hts tbin q4_81 q4_82 q4_85 q4_84 q1_15 q4_86 rfl (by decide +kernel) ⟨rfl, rfl⟩ ⟨Nat.le_of_ble_eq_true rfl, Nat.le_of_ble_eq_true rfl⟩) rfl ⟨by omega, by omega⟩ hN (hT0.keep hS hAs) hAs (Nat.le_trans hB0 hS.1) hK hP hD [3, 4] (by decide) rfl [0] rfl 3 4 rfl rfl rfl hl.1 rfl (Nat.le_of_ble_eq_true rfl) d_CertificateReader_readTrees_96) hS (fun q _ h => hFc q h) hFc (fun u96 q96 tS H96 locs ht hvm hw96 hB hz1 hk1 hS => ?_)
        obtain ⟨x96, rfl⟩ : ∃ z, z = u96 := ⟨_, rfl⟩
        obtain ⟨hP1, hK1, hD1⟩ := hB
        rw [ht] at hP1
        obtain ⟨hP, hD⟩ := va_joinQ (X := [(ns, .inr (1, [.ref ad, .ref ar])), (ad, .inr (11, [.ref (alO sb a.2.2.1), .int (nI a.1.2.1.length), .int a.2.2.2.1])), (ar, .inr (11, [.ref (alO sb a.2.2.2.2.1), .int (nI a.1.2.2.length), .int a.2.2.2.2.2.1])), (h, .inr (4, [.ref res, .ref t, .int (nI z38.1.1), .int (nI z38.1.2.1), .int (wI z38.1.2.2), .int a.2.2.2.2.2.2.2, .int ma, .int ex, .ref ki])), (t, .inl (cB, n, .inl (tx u)))]) (pl := (alC cO a.2.2.1 ++ (alC cO a.2.2.2.2.1 ++ (a.2.2.2.2.2.2.1 ++ [])))) (wr := [(ns, .inr (1, [.ref ad, .ref ar])), (ad, .inr (11, [.ref (alO sb a.2.2.1), .int (nI a.1.2.1.length), .int a.2.2.2.1])), (ar, .inr (11, [.ref (alO sb a.2.2.2.2.1), .int (nI a.1.2.2.length), .int a.2.2.2.2.2.1]))]) (w1 := [(h, .inr (4, [.ref res, .ref t, .int (nI x96.1), .int (nI x96.2.1), .int (wI x96.2.2), .int a.2.2.2.2.2.2.2, .int ma, .int ex, .ref ki])), (t, .inl (cB, n, .inl (tx u))), (q96, .inr (0, [.ref t, .int (nI ((rd_plain u n z38.1 130 0 z38.2).2.1)), .int (nI ((rd_plain u n z38.1 130 0 z38.2).2.2))]))]) hP hD [3, 4] [0, 1, 2] rfl rfl (by decide) (by decide) hk1 hFc hP1 hD1
        have hP : va_P (dC, dI) classes (([(ns, .inr (1, [.ref ad, .ref ar])), (ad, .inr (11, [.ref (alO sb a.2.2.1), .int (nI a.1.2.1.length), .int a.2.2.2.1])), (ar, .inr (11, [.ref (alO sb a.2.2.2.2.1), .int (nI a.1.2.2.length), .int a.2.2.2.2.2.1])), (h, .inr (4, [.ref res, .ref t, .int (nI x96.1), .int (nI x96.2.1), .int (wI x96.2.2), .int a.2.2.2.2.2.2.2, .int ma, .int ex, .ref ki])), (t, .inl (cB, n, .inl (tx u))), (q96, .inr (0, [.ref t, .int (nI ((rd_plain u n z38.1 130 0 z38.2).2.1)), .int (nI ((rd_plain u n z38.1 130 0 z38.2).2.2))]))] : va_W) ++ (alC cO a.2.2.1 ++ (alC cO a.2.2.2.2.1 ++ (a.2.2.2.2.2.2.1 ++ [])))) H96 := hP
        have hD : va_D A (([(ns, .inr (1, [.ref ad, .ref ar])), (ad, .inr (11, [.ref (alO sb a.2.2.1), .int (nI a.1.2.1.length), .int a.2.2.2.1])), (ar, .inr (11, [.ref (alO sb a.2.2.2.2.1), .int (nI a.1.2.2.length), .int a.2.2.2.2.2.1])), (h, .inr (4, [.ref res, .ref t, .int (nI x96.1), .int (nI x96.2.1), .int (wI x96.2.2), .int a.2.2.2.2.2.2.2, .int ma, .int ex, .ref ki])), (t, .inl (cB, n, .inl (tx u))), (q96, .inr (0, [.ref t, .int (nI ((rd_plain u n z38.1 130 0 z38.2).2.1)), .int (nI ((rd_plain u n z38.1 130 0 z38.2).2.2))]))] : va_W) ++ (alC cO a.2.2.1 ++ (alC cO a.2.2.2.2.1 ++ (a.2.2.2.2.2.2.1 ++ [])))) := hD
        have hi96 := plain_inv (u := u) (tg := 130) (le := 0) hi38.1 (show z38.2 ≤ n by omega)
        obtain ⟨z96, hz96⟩ : ∃ o, o = rd_plain u n z38.1 130 0 z38.2 := ⟨_, rfl⟩
        rw [← hz96] at hw96 hi96 hP hD
        subst hw96
        have hb96 : z96.1.1 ≤ n := hi96.1.1
        have hc96 := hi96.2.1
        have hd96 := hi96.2.2
        have hP : va_P (dC, dI) classes (([(ns, .inr (1, [.ref ad, .ref ar])), (ad, .inr (11, [.ref (alO sb a.2.2.1), .int (nI a.1.2.1.length), .int a.2.2.2.1])), (ar, .inr (11, [.ref (alO sb a.2.2.2.2.1), .int (nI a.1.2.2.length), .int a.2.2.2.2.2.1])), (h, .inr (4, [.ref res, .ref t, .int (nI z96.1.1), .int (nI z96.1.2.1), .int (wI z96.1.2.2), .int a.2.2.2.2.2.2.2, .int ma, .int ex, .ref ki])), (t, .inl (cB, n, .inl (tx u))), (q96, .inr (0, [.ref t, .int (nI z96.2.1), .int (nI z96.2.2)]))] : va_W) ++ (alC cO a.2.2.1 ++ (alC cO a.2.2.2.2.1 ++ (a.2.2.2.2.2.2.1 ++ [])))) H96 := hP
        have hD : va_D A (([(ns, .inr (1, [.ref ad, .ref ar])), (ad, .inr (11, [.ref (alO sb a.2.2.1), .int (nI a.1.2.1.length), .int a.2.2.2.1])), (ar, .inr (11, [.ref (alO sb a.2.2.2.2.1), .int (nI a.1.2.2.length), .int a.2.2.2.2.2.1])), (h, .inr (4, [.ref res, .ref t, .int (nI z96.1.1), .int (nI z96.1.2.1), .int (wI z96.1.2.2), .int a.2.2.2.2.2.2.2, .int ma, .int ex, .ref ki])), (t, .inl (cB, n, .inl (tx u))), (q96, .inr (0, [.ref t, .int (nI z96.2.1), .int (nI z96.2.2)]))] : va_W) ++ (alC cO a.2.2.1 ++ (alC cO a.2.2.2.2.1 ++ (a.2.2.2.2.2.2.1 ++ [])))) := hD
        refine lv_astore (lv' := [(7, .ref q96), (6, .int (nI z38.2)), (0, .ref h), (2, .ref ns), (4, .int (nI z3.2)), (5, .int (nI a.2.1))]) hx hb d_CertificateReader_readTrees_99 hl (by decide) rfl (fun ls hl => ?_)
        refine lv_aload_n hx hb d_CertificateReader_readTrees_101 rfl (lv_at hl 2 rfl) ?_
        refine lv_aload hx hb d_CertificateReader_readTrees_102 (lv_at hl 0 rfl) ?_
        refine vp_callSi (pu_callS (As := [.ref q96]) (rest := [.ref h]) ⟨hx, hb, hml, hown, hts⟩ tbin (c_isVisible l dC dI sb q96 t z96.2.1 z96.2.2 n cB u hu (by omega) (by omega) hn) q4_164 q4_165 q1_16 q4_166 (n := 1) (by decide +kernel) rfl ⟨rfl, rfl⟩ ⟨Nat.le_of_ble_eq_true rfl, Nat.le_of_ble_eq_true rfl⟩ ⟨by omega, by omega⟩ hN (hT0.keep hS hAs) hK hP [5, 4] rfl [0] rfl hl.1 rfl (Nat.le_of_ble_eq_true rfl) d_CertificateReader_readTrees_104) (fun r104 hr104 => ?_)
        obtain rfl := bz_zP hr104
        have hFc := va_free (wc := [(h, .inr (4, [.ref res, .ref t, .int (nI z96.1.1), .int (nI z96.1.2.1), .int (wI z96.1.2.2), .int a.2.2.2.2.2.2.2, .int ma, .int ex, .ref ki]))]) hD hS hA [3] rfl
        refine va_callv (mu_runU (As := [.int (zP (visN u z96.2.1 z96.2.2))]) (rest := []) ⟨hx, hb, hml, hown, hts⟩ (cC_require l dC dI sb h res t ki z96.1.1 z96.1.2.1 n z96.1.2.2 a.2.2.2.2.2.2.2 ma ex ie cB u (zP (visN u z96.2.1 z96.2.2)) H96.size ((hi96.1).w hn)) (cu_of (n := 1) hts tbin q3_153 q3_154 q3_157 q3_156 q1_15 q3_158 rfl (by decide +kernel) ⟨rfl, rfl⟩ ⟨Nat.le_of_ble_eq_true rfl, Nat.le_of_ble_eq_true rfl⟩) rfl ⟨by omega, by omega⟩ hN (hT0.keep hS hAs) hAs (Nat.le_trans hB0 hS.1) hK hP hD [3] (by decide) rfl [] rfl 3 4 rfl rfl rfl hl.1 rfl (Nat.le_of_ble_eq_true rfl) d_CertificateReader_readTrees_107) hS (fun q _ h => hFc q h) hFc (fun u107 tS H107 locs ht hvm hw107 hB hz1 hk1 hS => ?_)
        obtain ⟨z107, rfl⟩ : ∃ z, z = u107 := ⟨_, rfl⟩
        obtain ⟨hP1, hK1, hD1⟩ := hB
        rw [ht] at hP1
        obtain ⟨hP, hD⟩ := va_joinQ (X := [(ns, .inr (1, [.ref ad, .ref ar])), (ad, .inr (11, [.ref (alO sb a.2.2.1), .int (nI a.1.2.1.length), .int a.2.2.2.1])), (ar, .inr (11, [.ref (alO sb a.2.2.2.2.1), .int (nI a.1.2.2.length), .int a.2.2.2.2.2.1])), (h, .inr (4, [.ref res, .ref t, .int (nI z96.1.1), .int (nI z96.1.2.1), .int (wI z96.1.2.2), .int a.2.2.2.2.2.2.2, .int ma, .int ex, .ref ki])), (t, .inl (cB, n, .inl (tx u))), (q96, .inr (0, [.ref t, .int (nI z96.2.1), .int (nI z96.2.2)]))]) (pl := (alC cO a.2.2.1 ++ (alC cO a.2.2.2.2.1 ++ (a.2.2.2.2.2.2.1 ++ [])))) (wr := [(ns, .inr (1, [.ref ad, .ref ar])), (ad, .inr (11, [.ref (alO sb a.2.2.1), .int (nI a.1.2.1.length), .int a.2.2.2.1])), (ar, .inr (11, [.ref (alO sb a.2.2.2.2.1), .int (nI a.1.2.2.length), .int a.2.2.2.2.2.1])), (t, .inl (cB, n, .inl (tx u))), (q96, .inr (0, [.ref t, .int (nI z96.2.1), .int (nI z96.2.2)]))]) (w1 := [(h, .inr (4, [.ref res, .ref t, .int (nI z107.1), .int (nI z107.2.1), .int (wI z107.2.2), .int a.2.2.2.2.2.2.2, .int ma, .int ex, .ref ki]))]) hP hD [3] [0, 1, 2, 4, 5] rfl rfl (by decide) (by decide) hk1 hFc hP1 hD1
        have hP : va_P (dC, dI) classes (([(ns, .inr (1, [.ref ad, .ref ar])), (ad, .inr (11, [.ref (alO sb a.2.2.1), .int (nI a.1.2.1.length), .int a.2.2.2.1])), (ar, .inr (11, [.ref (alO sb a.2.2.2.2.1), .int (nI a.1.2.2.length), .int a.2.2.2.2.2.1])), (t, .inl (cB, n, .inl (tx u))), (q96, .inr (0, [.ref t, .int (nI z96.2.1), .int (nI z96.2.2)])), (h, .inr (4, [.ref res, .ref t, .int (nI z107.1), .int (nI z107.2.1), .int (wI z107.2.2), .int a.2.2.2.2.2.2.2, .int ma, .int ex, .ref ki]))] : va_W) ++ (alC cO a.2.2.1 ++ (alC cO a.2.2.2.2.1 ++ (a.2.2.2.2.2.2.1 ++ [])))) H107 := hP
        have hD : va_D A (([(ns, .inr (1, [.ref ad, .ref ar])), (ad, .inr (11, [.ref (alO sb a.2.2.1), .int (nI a.1.2.1.length), .int a.2.2.2.1])), (ar, .inr (11, [.ref (alO sb a.2.2.2.2.1), .int (nI a.1.2.2.length), .int a.2.2.2.2.2.1])), (t, .inl (cB, n, .inl (tx u))), (q96, .inr (0, [.ref t, .int (nI z96.2.1), .int (nI z96.2.2)])), (h, .inr (4, [.ref res, .ref t, .int (nI z107.1), .int (nI z107.2.1), .int (wI z107.2.2), .int a.2.2.2.2.2.2.2, .int ma, .int ex, .ref ki]))] : va_W) ++ (alC cO a.2.2.1 ++ (alC cO a.2.2.2.2.1 ++ (a.2.2.2.2.2.2.1 ++ [])))) := hD
        have hz107 : z107 = rd_req z96.1 (zP (visN u z96.2.1 z96.2.2)) := hw107
        have hi107 : rdInv n z107 := by rw [hz107]; exact req_inv hi96.1
        have hb107 : z107.1 ≤ n := hi107.1
        refine lv_aload_n hx hb d_CertificateReader_readTrees_110 rfl (lv_at hl 3 rfl) ?_
        refine va_getN (v := .ref ad) hx hb htb i_NameSet hown hK hP 0 rfl rfl 0 (by decide) (va_Nw.use rfl (hN.1 _ qn2_129)) (fun _ h9 => h9) rfl d_CertificateReader_readTrees_111 ?_
        refine lv_aload hx hb d_CertificateReader_readTrees_114 (lv_at hl 0 rfl) ?_
        have hPm : List.Perm ((([(ns, .inr (1, [.ref ad, .ref ar])), (ad, .inr (11, [.ref (alO sb a.2.2.1), .int (nI a.1.2.1.length), .int a.2.2.2.1])), (ar, .inr (11, [.ref (alO sb a.2.2.2.2.1), .int (nI a.1.2.2.length), .int a.2.2.2.2.2.1])), (t, .inl (cB, n, .inl (tx u))), (q96, .inr (0, [.ref t, .int (nI z96.2.1), .int (nI z96.2.2)])), (h, .inr (4, [.ref res, .ref t, .int (nI z107.1), .int (nI z107.2.1), .int (wI z107.2.2), .int a.2.2.2.2.2.2.2, .int ma, .int ex, .ref ki]))] : va_W) ++ (alC cO a.2.2.1 ++ (alC cO a.2.2.2.2.1 ++ (a.2.2.2.2.2.2.1 ++ [])))) : va_W) ((ad, .inr (11, [.ref (alO sb a.2.2.1), .int (nI a.1.2.1.length), .int a.2.2.2.1])) :: (alC cO a.2.2.1 ++ (([(ns, .inr (1, [.ref ad, .ref ar])), (ar, .inr (11, [.ref (alO sb a.2.2.2.2.1), .int (nI a.1.2.2.length), .int a.2.2.2.2.2.1])), (t, .inl (cB, n, .inl (tx u))), (q96, .inr (0, [.ref t, .int (nI z96.2.1), .int (nI z96.2.2)])), (h, .inr (4, [.ref res, .ref t, .int (nI z107.1), .int (nI z107.2.1), .int (wI z107.2.2), .int a.2.2.2.2.2.2.2, .int ma, .int ex, .ref ki]))] : va_W) ++ (alC cO a.2.2.2.2.1 ++ (a.2.2.2.2.2.2.1 ++ []))))) := blk_perm (fun i => ([[(ns, .inr (1, [.ref ad, .ref ar]))], [(ad, .inr (11, [.ref (alO sb a.2.2.1), .int (nI a.1.2.1.length), .int a.2.2.2.1]))], [(ar, .inr (11, [.ref (alO sb a.2.2.2.2.1), .int (nI a.1.2.2.length), .int a.2.2.2.2.2.1]))], [(t, .inl (cB, n, .inl (tx u)))], [(q96, .inr (0, [.ref t, .int (nI z96.2.1), .int (nI z96.2.2)]))], [(h, .inr (4, [.ref res, .ref t, .int (nI z107.1), .int (nI z107.2.1), .int (wI z107.2.2), .int a.2.2.2.2.2.2.2, .int ma, .int ex, .ref ki]))], alC cO a.2.2.1, alC cO a.2.2.2.2.1, a.2.2.2.2.2.2.1] : List va_W).getD i []) [0, 1, 2, 3, 4, 5, 6, 7, 8] [1, 6, 0, 2, 3, 4, 5, 7, 8] rfl
        have hP := hP.perm hPm
        have hD := hD.perm hPm
        have hal116 : mxB (4 * alK a.2.2.1 + alS a.2.2.1 a.1.2.1.length) (4 * alK a.2.2.1) (4 * (10 + 2 * a.1.2.1.length)) := al_costM hj4.1
        have haz116 := (al_cost hj4.1).2
        refine al_add (own := "TrustChain$CertificateReader") 0 _ q96 ad a.1.2.1.length a.2.2.2.1 cO a.2.2.1 rfl qn9_238 ⟨hx, hb, hml, hown, hts⟩ tbin q4_107 hN (hT0.keep hS hAs) hAs (Nat.le_trans hB0 hS.1) hA hK 1 rfl hP hD hS hj4.1 (by omega) (hj4.toF (fun q9 hq9 => List.mem_append_right _ (List.mem_append_right _ (List.mem_append_left _ hq9)))) ⟨3, _, rfl⟩ (Nat.le_of_ble_eq_true rfl) (Nat.le_of_ble_eq_true rfl) (by omega) (by have := mxU hal116; have h1 := mxU hj7b; have h2 := mxU hj8b; omega) hl.1 (Nat.le_of_ble_eq_true rfl) d_CertificateReader_readTrees_116 (fun o116 m116 H116 locs hi116 hg116 hk116 he116 hf116 hv116 hP hD hS => ?_)
        have hk116 : mxB (alK o116) (alK a.2.2.1) (10 + 2 * a.1.2.1.length) := hk116
        have hsa116 : (3 * a.2.1 + 4 * (alK a.2.2.1 - alK o1) + 4 * (alK a.2.2.2.2.1 - alK o2)) + 3 + alS a.2.2.1 a.1.2.1.length ≤ (3 * ((en - x.1) / 2 + 1) + 8 * (10 + 2 * LB)) := by have := mxU hal116; have h1 := mxU hj7b; have h2 := mxU hj8b; omega
        clear hal116
        have hln116 : a.1.2.1.length + 1 = (a.1.2.1 ++ [(z96.2.1, z96.2.2)]).length := by rw [List.length_append]; rfl
        rw [hln116] at hP hD
        have hPm : List.Perm ((ad, .inr (11, [.ref (alO sb o116), .int (nI (a.1.2.1 ++ [(z96.2.1, z96.2.2)]).length), .int m116])) :: (alC cO o116 ++ (([(ns, .inr (1, [.ref ad, .ref ar])), (ar, .inr (11, [.ref (alO sb a.2.2.2.2.1), .int (nI a.1.2.2.length), .int a.2.2.2.2.2.1])), (t, .inl (cB, n, .inl (tx u))), (q96, .inr (0, [.ref t, .int (nI z96.2.1), .int (nI z96.2.2)])), (h, .inr (4, [.ref res, .ref t, .int (nI z107.1), .int (nI z107.2.1), .int (wI z107.2.2), .int a.2.2.2.2.2.2.2, .int ma, .int ex, .ref ki]))] : va_W) ++ (alC cO a.2.2.2.2.1 ++ (a.2.2.2.2.2.2.1 ++ [])))) : va_W) (([(ns, .inr (1, [.ref ad, .ref ar])), (ad, .inr (11, [.ref (alO sb o116), .int (nI (a.1.2.1 ++ [(z96.2.1, z96.2.2)]).length), .int m116])), (ar, .inr (11, [.ref (alO sb a.2.2.2.2.1), .int (nI a.1.2.2.length), .int a.2.2.2.2.2.1])), (t, .inl (cB, n, .inl (tx u))), (h, .inr (4, [.ref res, .ref t, .int (nI z107.1), .int (nI z107.2.1), .int (wI z107.2.2), .int a.2.2.2.2.2.2.2, .int ma, .int ex, .ref ki]))] : va_W) ++ (alC cO o116 ++ (alC cO a.2.2.2.2.1 ++ (a.2.2.2.2.2.2.1 ++ (([(q96, .inr (0, [.ref t, .int (nI z96.2.1), .int (nI z96.2.2)]))] : va_W) ++ []))))) := blk_perm (fun i => ([[(ad, .inr (11, [.ref (alO sb o116), .int (nI (a.1.2.1 ++ [(z96.2.1, z96.2.2)]).length), .int m116]))], alC cO o116, [(ns, .inr (1, [.ref ad, .ref ar]))], [(ar, .inr (11, [.ref (alO sb a.2.2.2.2.1), .int (nI a.1.2.2.length), .int a.2.2.2.2.2.1]))], [(t, .inl (cB, n, .inl (tx u)))], [(q96, .inr (0, [.ref t, .int (nI z96.2.1), .int (nI z96.2.2)]))], [(h, .inr (4, [.ref res, .ref t, .int (nI z107.1), .int (nI z107.2.1), .int (wI z107.2.2), .int a.2.2.2.2.2.2.2, .int ma, .int ex, .ref ki]))], alC cO a.2.2.2.2.1, a.2.2.2.2.2.2.1] : List va_W).getD i []) [0, 1, 2, 3, 4, 5, 6, 7, 8] [2, 0, 3, 4, 6, 1, 7, 8, 5] rfl
        have hP := hP.perm hPm
        have hD := hD.perm hPm
        obtain ⟨pl116, hpl116⟩ : ∃ z : va_W, z = a.2.2.2.2.2.2.1 ++ [(q96, .inr (0, [.ref t, .int (nI z96.2.1), .int (nI z96.2.2)]))] := ⟨_, rfl⟩
        have hPe : (([(ns, .inr (1, [.ref ad, .ref ar])), (ad, .inr (11, [.ref (alO sb o116), .int (nI (a.1.2.1 ++ [(z96.2.1, z96.2.2)]).length), .int m116])), (ar, .inr (11, [.ref (alO sb a.2.2.2.2.1), .int (nI a.1.2.2.length), .int a.2.2.2.2.2.1])), (t, .inl (cB, n, .inl (tx u))), (h, .inr (4, [.ref res, .ref t, .int (nI z107.1), .int (nI z107.2.1), .int (wI z107.2.2), .int a.2.2.2.2.2.2.2, .int ma, .int ex, .ref ki]))] : va_W) ++ (alC cO o116 ++ (alC cO a.2.2.2.2.1 ++ (a.2.2.2.2.2.2.1 ++ (([(q96, .inr (0, [.ref t, .int (nI z96.2.1), .int (nI z96.2.2)]))] : va_W) ++ []))))) = (([(ns, .inr (1, [.ref ad, .ref ar])), (ad, .inr (11, [.ref (alO sb o116), .int (nI (a.1.2.1 ++ [(z96.2.1, z96.2.2)]).length), .int m116])), (ar, .inr (11, [.ref (alO sb a.2.2.2.2.1), .int (nI a.1.2.2.length), .int a.2.2.2.2.2.1])), (t, .inl (cB, n, .inl (tx u))), (h, .inr (4, [.ref res, .ref t, .int (nI z107.1), .int (nI z107.2.1), .int (wI z107.2.2), .int a.2.2.2.2.2.2.2, .int ma, .int ex, .ref ki]))] : va_W) ++ (alC cO o116 ++ (alC cO a.2.2.2.2.1 ++ (pl116 ++ [])))) := by rw [hpl116]; simp only [List.append_assoc]
        rw [hPe] at hP hD
        have hm116 : ∀ q ∈ a.2.2.2.2.2.2.1, q ∈ pl116 := fun q hq => by rw [hpl116]; exact List.mem_append_left _ hq
        have E116 : elS t n pl116 o116 (a.1.2.1 ++ [(z96.2.1, z96.2.2)]) := hj4.snoc hm116 hi116 hf116 hv116 (by rw [hpl116]; exact List.mem_append_right _ (List.mem_singleton.mpr rfl)) (by omega) (by omega)
        have E116_ar := hj5.mono hm116
        have hpm := fun q hq => hm116 q (hj6 q hq)
        refine lv_pop hx hb d_CertificateReader_readTrees_119 rfl ?_
        refine lv_aload_n hx hb d_CertificateReader_readTrees_120 rfl (lv_at hl 2 rfl) ?_
        refine lv_iload hx hb d_CertificateReader_readTrees_121 (lv_at hl 1 rfl) ?_
        have hFc := va_free (wc := [(h, .inr (4, [.ref res, .ref t, .int (nI z107.1), .int (nI z107.2.1), .int (wI z107.2.2), .int a.2.2.2.2.2.2.2, .int ma, .int ex, .ref ki]))]) hD hS hA [4] rfl
        refine va_callv (mu_runU (As := [.int (nI z38.2)]) (rest := []) ⟨hx, hb, hml, hown, hts⟩ (cC_finish l dC dI sb h res t ki z107.1 z107.2.1 n z107.2.2 a.2.2.2.2.2.2.2 ma ex ie cB u z38.2 H116.size ((hi107).w hn) (by have := (hi107).1; omega) (by omega)) (cu_of (n := 1) hts tbin q3_159 q3_160 q3_163 q3_162 q1_15 q3_164 rfl (by decide +kernel) ⟨rfl, rfl⟩ ⟨Nat.le_of_ble_eq_true rfl, Nat.le_of_ble_eq_true rfl⟩) rfl ⟨by omega, by omega⟩ hN (hT0.keep hS hAs) hAs (Nat.le_trans hB0 hS.1) hK hP hD [4] (by decide) rfl [] rfl 4 4 rfl rfl rfl hl.1 rfl (Nat.le_of_ble_eq_true rfl) d_CertificateReader_readTrees_123) hS (fun q _ h => hFc q h) hFc (fun u123 tS H123 locs ht hvm hw123 hB hz1 hk1 hS => ?_)
        obtain ⟨z123, rfl⟩ : ∃ z, z = u123 := ⟨_, rfl⟩
        obtain ⟨hP1, hK1, hD1⟩ := hB
        rw [ht] at hP1
        obtain ⟨hP, hD⟩ := va_joinQ (X := [(ns, .inr (1, [.ref ad, .ref ar])), (ad, .inr (11, [.ref (alO sb o116), .int (nI (a.1.2.1 ++ [(z96.2.1, z96.2.2)]).length), .int m116])), (ar, .inr (11, [.ref (alO sb a.2.2.2.2.1), .int (nI a.1.2.2.length), .int a.2.2.2.2.2.1])), (t, .inl (cB, n, .inl (tx u))), (h, .inr (4, [.ref res, .ref t, .int (nI z107.1), .int (nI z107.2.1), .int (wI z107.2.2), .int a.2.2.2.2.2.2.2, .int ma, .int ex, .ref ki]))]) (pl := (alC cO o116 ++ (alC cO a.2.2.2.2.1 ++ (pl116 ++ [])))) (wr := [(ns, .inr (1, [.ref ad, .ref ar])), (ad, .inr (11, [.ref (alO sb o116), .int (nI (a.1.2.1 ++ [(z96.2.1, z96.2.2)]).length), .int m116])), (ar, .inr (11, [.ref (alO sb a.2.2.2.2.1), .int (nI a.1.2.2.length), .int a.2.2.2.2.2.1])), (t, .inl (cB, n, .inl (tx u)))]) (w1 := [(h, .inr (4, [.ref res, .ref t, .int (nI z123.1), .int (nI z123.2.1), .int (wI z123.2.2), .int a.2.2.2.2.2.2.2, .int ma, .int ex, .ref ki]))]) hP hD [4] [0, 1, 2, 3] rfl rfl (by decide) (by decide) hk1 hFc hP1 hD1
        have hP : va_P (dC, dI) classes (([(ns, .inr (1, [.ref ad, .ref ar])), (ad, .inr (11, [.ref (alO sb o116), .int (nI (a.1.2.1 ++ [(z96.2.1, z96.2.2)]).length), .int m116])), (ar, .inr (11, [.ref (alO sb a.2.2.2.2.1), .int (nI a.1.2.2.length), .int a.2.2.2.2.2.1])), (t, .inl (cB, n, .inl (tx u))), (h, .inr (4, [.ref res, .ref t, .int (nI z123.1), .int (nI z123.2.1), .int (wI z123.2.2), .int a.2.2.2.2.2.2.2, .int ma, .int ex, .ref ki]))] : va_W) ++ (alC cO o116 ++ (alC cO a.2.2.2.2.1 ++ (pl116 ++ [])))) H123 := hP
        have hD : va_D A (([(ns, .inr (1, [.ref ad, .ref ar])), (ad, .inr (11, [.ref (alO sb o116), .int (nI (a.1.2.1 ++ [(z96.2.1, z96.2.2)]).length), .int m116])), (ar, .inr (11, [.ref (alO sb a.2.2.2.2.1), .int (nI a.1.2.2.length), .int a.2.2.2.2.2.1])), (t, .inl (cB, n, .inl (tx u))), (h, .inr (4, [.ref res, .ref t, .int (nI z123.1), .int (nI z123.2.1), .int (wI z123.2.2), .int a.2.2.2.2.2.2.2, .int ma, .int ex, .ref ki]))] : va_W) ++ (alC cO o116 ++ (alC cO a.2.2.2.2.1 ++ (pl116 ++ [])))) := hD
        have hz123 : z123 = rd_fin z107 z38.2 := hw123
        have hi123 : rdInv n z123 := by rw [hz123]; exact fin_inv hi107
        have hb123 : z123.1 ≤ n := hi123.1
        refine lv_iinc (v := nI (a.2.1 + 1)) (lv' := [(5, .int (nI (a.2.1 + 1))), (7, .ref q96), (6, .int (nI z38.2)), (0, .ref h), (2, .ref ns), (4, .int (nI z3.2))]) hx hb d_CertificateReader_readTrees_126 hl (k := 5) rfl (nI_1 _) (by decide) rfl (fun ls hl => ?_)
        refine lv_goto (tgt := 11) hx hb d_CertificateReader_readTrees_129 (by decide) ?_
        have e9 : rb_trs u n z3.2 a.1 = (z123, (a.1.2.1 ++ [(z96.2.1, z96.2.2)]), a.1.2.2) := by
          subst hz123
          subst hz107
          subst hz96
          subst hz38
          exact ((if_neg p52).trans rfl)
        have hpr := trb_st2 u n z3.2 a.1
        rw [e9] at hpr
        have hpr : st2 a.1.1 z123 z3.2 := hpr
        obtain ⟨⟨hq1, hq2, hq3⟩, hq4⟩ := hpr
        have hlp := loop_go hj3 hk2 hcond
        rw [e9] at hlp
        refine W.widen (k := (2 * (a.2.1 + 1))) (n := (3 * (a.2.1 + 1) + 4 * (alK o116 - alK o1) + 4 * (alK a.2.2.2.2.1 - alK o2))) (by omega) (by omega) ?_
        exact ih ((z123, (a.1.2.1 ++ [(z96.2.1, z96.2.2)]), a.1.2.2), a.2.1 + 1, o116, m116, a.2.2.2.2.1, a.2.2.2.2.2.1, pl116, a.2.2.2.2.2.2.2) _ _ ls (by show 2048 - (a.2.1 + 1) < 2048 - a.2.1; omega) (⟨hi123, hk2, hlp, E116, E116_ar, hpm, ⟨by show alK o1 ≤ alK o116; omega, by have h1 := mxU hj7b; have h2 := mxU hj8b; have := mxU hk116; show alK o116 ≤ max (alK o1) (10 + 2 * (a.1.2.1 ++ [(z96.2.1, z96.2.2)]).length); omega⟩, ⟨by show alK o2 ≤ alK a.2.2.2.2.1; omega, by have h1 := mxU hj7b; have h2 := mxU hj8b; have := mxU hk116; show alK a.2.2.2.2.1 ≤ max (alK o2) (10 + 2 * a.1.2.2.length); omega⟩, ⟨by show (a.1.2.1 ++ [(z96.2.1, z96.2.2)]).length ≤ D.length + (a.2.1 + 1); omega, by show a.1.2.2.length ≤ R.length + (a.2.1 + 1); omega⟩, ⟨by show z123.1 ≤ z3.2; omega, by show z3.1.1 ≤ z123.1; omega, by show z3.1.1 + 2 * (a.2.1 + 1) ≤ z123.1 + 2; omega, fun q9 => by have := hq4 q9; have := hj13 (hq3 q9); show z3.1.1 + 2 * (a.2.1 + 1) ≤ z123.1; omega⟩⟩) (hP.part [4, 3, 0, 1, 2] rfl) (hD.part [4, 3, 0, 1, 2] (by decide) rfl) hS (lv_sub hl [3, 4, 5, 0] rfl)
      · have p52 : z38.1.2.2 = none ∧ z38.1.1 < z38.2 ∧ u z38.1.1 = 164 := (zP_1 c52)
        refine lv_aload_n hx hb d_CertificateReader_readTrees_55 rfl (lv_at hl 1 rfl) ?_
        refine lv_sipush (v := 164) hx hb d_CertificateReader_readTrees_56 (by decide) ?_
        refine lv_iload hx hb d_CertificateReader_readTrees_59 (lv_at hl 0 rfl) ?_
        have hFc := va_free (wc := [(h, .inr (4, [.ref res, .ref t, .int (nI z38.1.1), .int (nI z38.1.2.1), .int (wI z38.1.2.2), .int a.2.2.2.2.2.2.2, .int ma, .int ex, .ref ki])), (t, .inl (cB, n, .inl (tx u)))]) hD hS hA [3, 4] rfl
        refine va_calli (mu_runU (As := [.int 164, .int (nI z38.2)]) (rest := []) ⟨hx, hb, hml, hown, hts⟩ (cC_open l dC dI sb h res t ki z38.1.1 z38.1.2.1 n z38.1.2.2 a.2.2.2.2.2.2.2 ma ex ie cB u 164 z38.2 H38.size hu hn ((hi38.1).w hn) (by omega) (hi38.1).1 (by decide)) (cu_of (n := 2) hts tbin q3_108 q3_109 q3_112 q3_111 q1_15 q3_113 rfl (by decide +kernel) ⟨rfl, rfl⟩ ⟨Nat.le_of_ble_eq_true rfl, Nat.le_of_ble_eq_true rfl⟩) rfl ⟨by omega, by omega⟩ hN (hT0.keep hS hAs) hAs (Nat.le_trans hB0 hS.1) hK hP hD [3, 4] (by decide) rfl [0] rfl 3 4 rfl rfl rfl hl.1 rfl (Nat.le_of_ble_eq_true rfl) d_CertificateReader_readTrees_61) hS (fun q _ h => hFc q h) hFc (fun r61 u61 tS H61 locs ht hvm hw61 hB hz1 hk1 hS => ?_)
        obtain ⟨x61, rfl⟩ : ∃ z, z = u61 := ⟨_, rfl⟩
        obtain ⟨hP1, hK1, hD1⟩ := hB
        rw [ht] at hP1
        obtain ⟨hP, hD⟩ := va_joinQ (X := [(ns, .inr (1, [.ref ad, .ref ar])), (ad, .inr (11, [.ref (alO sb a.2.2.1), .int (nI a.1.2.1.length), .int a.2.2.2.1])), (ar, .inr (11, [.ref (alO sb a.2.2.2.2.1), .int (nI a.1.2.2.length), .int a.2.2.2.2.2.1])), (h, .inr (4, [.ref res, .ref t, .int (nI z38.1.1), .int (nI z38.1.2.1), .int (wI z38.1.2.2), .int a.2.2.2.2.2.2.2, .int ma, .int ex, .ref ki])), (t, .inl (cB, n, .inl (tx u)))]) (pl := (alC cO a.2.2.1 ++ (alC cO a.2.2.2.2.1 ++ (a.2.2.2.2.2.2.1 ++ [])))) (wr := [(ns, .inr (1, [.ref ad, .ref ar])), (ad, .inr (11, [.ref (alO sb a.2.2.1), .int (nI a.1.2.1.length), .int a.2.2.2.1])), (ar, .inr (11, [.ref (alO sb a.2.2.2.2.1), .int (nI a.1.2.2.length), .int a.2.2.2.2.2.1]))]) (w1 := [(h, .inr (4, [.ref res, .ref t, .int (nI x61.1), .int (nI x61.2.1), .int (wI x61.2.2), .int a.2.2.2.2.2.2.2, .int ma, .int ex, .ref ki])), (t, .inl (cB, n, .inl (tx u)))]) hP hD [3, 4] [0, 1, 2] rfl rfl (by decide) (by decide) hk1 hFc hP1 hD1
        have hP : va_P (dC, dI) classes (([(ns, .inr (1, [.ref ad, .ref ar])), (ad, .inr (11, [.ref (alO sb a.2.2.1), .int (nI a.1.2.1.length), .int a.2.2.2.1])), (ar, .inr (11, [.ref (alO sb a.2.2.2.2.1), .int (nI a.1.2.2.length), .int a.2.2.2.2.2.1])), (h, .inr (4, [.ref res, .ref t, .int (nI x61.1), .int (nI x61.2.1), .int (wI x61.2.2), .int a.2.2.2.2.2.2.2, .int ma, .int ex, .ref ki])), (t, .inl (cB, n, .inl (tx u)))] : va_W) ++ (alC cO a.2.2.1 ++ (alC cO a.2.2.2.2.1 ++ (a.2.2.2.2.2.2.1 ++ [])))) H61 := hP
        have hD : va_D A (([(ns, .inr (1, [.ref ad, .ref ar])), (ad, .inr (11, [.ref (alO sb a.2.2.1), .int (nI a.1.2.1.length), .int a.2.2.2.1])), (ar, .inr (11, [.ref (alO sb a.2.2.2.2.1), .int (nI a.1.2.2.length), .int a.2.2.2.2.2.1])), (h, .inr (4, [.ref res, .ref t, .int (nI x61.1), .int (nI x61.2.1), .int (wI x61.2.2), .int a.2.2.2.2.2.2.2, .int ma, .int ex, .ref ki])), (t, .inl (cB, n, .inl (tx u)))] : va_W) ++ (alC cO a.2.2.1 ++ (alC cO a.2.2.2.2.1 ++ (a.2.2.2.2.2.2.1 ++ [])))) := hD
        have hw61 : x61 = (rd_opn u n z38.1 164 z38.2).1 ∧ r61 = nI (rd_opn u n z38.1 164 z38.2).2 := hw61
        have hi61 := opn_inv (u := u) (tg := 164) hi38.1 (show z38.2 ≤ n by omega)
        obtain ⟨z61, hz61⟩ : ∃ o, o = rd_opn u n z38.1 164 z38.2 := ⟨_, rfl⟩
        rw [← hz61] at hw61 hi61
        obtain ⟨rfl, rfl⟩ := hw61
        have hb61 : z61.1.1 ≤ n := hi61.1.1
        have hc61 : z61.1.1 ≤ z61.2 := hi61.2.1
        have hd61 : z61.2 ≤ n := hi61.2.2.1
        have hP : va_P (dC, dI) classes (([(ns, .inr (1, [.ref ad, .ref ar])), (ad, .inr (11, [.ref (alO sb a.2.2.1), .int (nI a.1.2.1.length), .int a.2.2.2.1])), (ar, .inr (11, [.ref (alO sb a.2.2.2.2.1), .int (nI a.1.2.2.length), .int a.2.2.2.2.2.1])), (h, .inr (4, [.ref res, .ref t, .int (nI z61.1.1), .int (nI z61.1.2.1), .int (wI z61.1.2.2), .int a.2.2.2.2.2.2.2, .int ma, .int ex, .ref ki])), (t, .inl (cB, n, .inl (tx u)))] : va_W) ++ (alC cO a.2.2.1 ++ (alC cO a.2.2.2.2.1 ++ (a.2.2.2.2.2.2.1 ++ [])))) H61 := hP
        have hD : va_D A (([(ns, .inr (1, [.ref ad, .ref ar])), (ad, .inr (11, [.ref (alO sb a.2.2.1), .int (nI a.1.2.1.length), .int a.2.2.2.1])), (ar, .inr (11, [.ref (alO sb a.2.2.2.2.1), .int (nI a.1.2.2.length), .int a.2.2.2.2.2.1])), (h, .inr (4, [.ref res, .ref t, .int (nI z61.1.1), .int (nI z61.1.2.1), .int (wI z61.1.2.2), .int a.2.2.2.2.2.2.2, .int ma, .int ex, .ref ki])), (t, .inl (cB, n, .inl (tx u)))] : va_W) ++ (alC cO a.2.2.1 ++ (alC cO a.2.2.2.2.1 ++ (a.2.2.2.2.2.2.1 ++ [])))) := hD
        refine lv_istore (lv' := [(7, .int (nI z61.2)), (6, .int (nI z38.2)), (0, .ref h), (2, .ref ns), (4, .int (nI z3.2)), (5, .int (nI a.2.1))]) hx hb d_CertificateReader_readTrees_64 hl (by decide) rfl (fun ls hl => ?_)
        refine lv_aload_n hx hb d_CertificateReader_readTrees_66 rfl (lv_at hl 3 rfl) ?_
        refine va_getN (v := .ref ar) hx hb htb i_NameSet hown hK hP 0 rfl rfl 1 (by decide) (va_Nw.use rfl (hN.1 _ qn2_133)) (fun _ h9 => h9) rfl d_CertificateReader_readTrees_67 ?_
        refine lv_aload_n hx hb d_CertificateReader_readTrees_70 rfl (lv_at hl 2 rfl) ?_
        refine lv_iload hx hb d_CertificateReader_readTrees_71 (lv_at hl 0 rfl) ?_
        have hFc := va_free (wc := [(h, .inr (4, [.ref res, .ref t, .int (nI z61.1.1), .int (nI z61.1.2.1), .int (wI z61.1.2.2), .int a.2.2.2.2.2.2.2, .int ma, .int ex, .ref ki])), (t, .inl (cB, n, .inl (tx u)))]) hD hS hA [3, 4] rfl
        refine va_callr (mu_runU (As := [.int (nI z61.2)]) (rest := [.ref ar]) ⟨hx, hb, hml, hown, hts⟩ (cC_name l dC dI sb h res t ki n z61.1 a.2.2.2.2.2.2.2 ma ex ie cB u z61.2 H61.size hu hn hi61.1 (by omega)) (cu_of (n := 1) hts tbin q4_22 q4_23 q3_191 q4_25 q1_15 q3_195 rfl (by decide +kernel) ⟨rfl, rfl⟩ ⟨Nat.le_of_ble_eq_true rfl, Nat.le_of_ble_eq_true rfl⟩) rfl ⟨by omega, by omega⟩ hN (hT0.keep hS hAs) hAs (Nat.le_trans hB0 hS.1) hK hP hD [3, 4] (by decide) rfl [0] rfl 3 4 rfl rfl rfl hl.1 rfl (Nat.le_of_ble_eq_true rfl) d_CertificateReader_readTrees_73) hS (fun q _ h => hFc q h) hFc (fun u73 q73 tS H73 locs ht hvm hw73 hB hz1 hk1 hS => ?_)
        obtain ⟨x73, n73⟩ := u73
        obtain ⟨hP1, hK1, hD1⟩ := hB
        rw [ht] at hP1
        obtain ⟨hP, hD⟩ := va_joinQ (X := [(ns, .inr (1, [.ref ad, .ref ar])), (ad, .inr (11, [.ref (alO sb a.2.2.1), .int (nI a.1.2.1.length), .int a.2.2.2.1])), (ar, .inr (11, [.ref (alO sb a.2.2.2.2.1), .int (nI a.1.2.2.length), .int a.2.2.2.2.2.1])), (h, .inr (4, [.ref res, .ref t, .int (nI z61.1.1), .int (nI z61.1.2.1), .int (wI z61.1.2.2), .int a.2.2.2.2.2.2.2, .int ma, .int ex, .ref ki])), (t, .inl (cB, n, .inl (tx u)))]) (pl := (alC cO a.2.2.1 ++ (alC cO a.2.2.2.2.1 ++ (a.2.2.2.2.2.2.1 ++ [])))) (wr := [(ns, .inr (1, [.ref ad, .ref ar])), (ad, .inr (11, [.ref (alO sb a.2.2.1), .int (nI a.1.2.1.length), .int a.2.2.2.1])), (ar, .inr (11, [.ref (alO sb a.2.2.2.2.1), .int (nI a.1.2.2.length), .int a.2.2.2.2.2.1]))]) (w1 := [(h, .inr (4, [.ref res, .ref t, .int (nI x73.1), .int (nI x73.2.1), .int (wI x73.2.2), .int (nI n73), .int ma, .int ex, .ref ki])), (t, .inl (cB, n, .inl (tx u))), (q73, .inr (0, [.ref t, .int (nI ((rd_nam u n z61.1 z61.2).2.2.1)), .int (nI ((rd_nam u n z61.1 z61.2).2.2.2))]))]) hP hD [3, 4] [0, 1, 2] rfl rfl (by decide) (by decide) hk1 hFc hP1 hD1
        have hP : va_P (dC, dI) classes (([(ns, .inr (1, [.ref ad, .ref ar])), (ad, .inr (11, [.ref (alO sb a.2.2.1), .int (nI a.1.2.1.length), .int a.2.2.2.1])), (ar, .inr (11, [.ref (alO sb a.2.2.2.2.1), .int (nI a.1.2.2.length), .int a.2.2.2.2.2.1])), (h, .inr (4, [.ref res, .ref t, .int (nI x73.1), .int (nI x73.2.1), .int (wI x73.2.2), .int (nI n73), .int ma, .int ex, .ref ki])), (t, .inl (cB, n, .inl (tx u))), (q73, .inr (0, [.ref t, .int (nI ((rd_nam u n z61.1 z61.2).2.2.1)), .int (nI ((rd_nam u n z61.1 z61.2).2.2.2))]))] : va_W) ++ (alC cO a.2.2.1 ++ (alC cO a.2.2.2.2.1 ++ (a.2.2.2.2.2.2.1 ++ [])))) H73 := hP
        have hD : va_D A (([(ns, .inr (1, [.ref ad, .ref ar])), (ad, .inr (11, [.ref (alO sb a.2.2.1), .int (nI a.1.2.1.length), .int a.2.2.2.1])), (ar, .inr (11, [.ref (alO sb a.2.2.2.2.1), .int (nI a.1.2.2.length), .int a.2.2.2.2.2.1])), (h, .inr (4, [.ref res, .ref t, .int (nI x73.1), .int (nI x73.2.1), .int (wI x73.2.2), .int (nI n73), .int ma, .int ex, .ref ki])), (t, .inl (cB, n, .inl (tx u))), (q73, .inr (0, [.ref t, .int (nI ((rd_nam u n z61.1 z61.2).2.2.1)), .int (nI ((rd_nam u n z61.1 z61.2).2.2.2))]))] : va_W) ++ (alC cO a.2.2.1 ++ (alC cO a.2.2.2.2.1 ++ (a.2.2.2.2.2.2.1 ++ [])))) := hD
        have hi73 := nam_inv (u := u) hi61.1 (show z61.2 ≤ n by omega)
        obtain ⟨z73, hz73⟩ : ∃ o, o = rd_nam u n z61.1 z61.2 := ⟨_, rfl⟩
        have hw73 : x73 = (rd_nam u n z61.1 z61.2).1 ∧ n73 = (rd_nam u n z61.1 z61.2).2.1 := hw73
        rw [← hz73] at hw73 hi73 hP hD
        obtain ⟨rfl, rfl⟩ := hw73
        have hb73 : z73.1.1 ≤ n := hi73.1.1
        have hc73 : z73.2.2.1 ≤ z73.2.2.2 := hi73.2.1
        have hd73 : z73.2.2.2 ≤ n := hi73.2.2
        have hP : va_P (dC, dI) classes (([(ns, .inr (1, [.ref ad, .ref ar])), (ad, .inr (11, [.ref (alO sb a.2.2.1), .int (nI a.1.2.1.length), .int a.2.2.2.1])), (ar, .inr (11, [.ref (alO sb a.2.2.2.2.1), .int (nI a.1.2.2.length), .int a.2.2.2.2.2.1])), (h, .inr (4, [.ref res, .ref t, .int (nI z73.1.1), .int (nI z73.1.2.1), .int (wI z73.1.2.2), .int (nI z73.2.1), .int ma, .int ex, .ref ki])), (t, .inl (cB, n, .inl (tx u))), (q73, .inr (0, [.ref t, .int (nI z73.2.2.1), .int (nI z73.2.2.2)]))] : va_W) ++ (alC cO a.2.2.1 ++ (alC cO a.2.2.2.2.1 ++ (a.2.2.2.2.2.2.1 ++ [])))) H73 := hP
        have hD : va_D A (([(ns, .inr (1, [.ref ad, .ref ar])), (ad, .inr (11, [.ref (alO sb a.2.2.1), .int (nI a.1.2.1.length), .int a.2.2.2.1])), (ar, .inr (11, [.ref (alO sb a.2.2.2.2.1), .int (nI a.1.2.2.length), .int a.2.2.2.2.2.1])), (h, .inr (4, [.ref res, .ref t, .int (nI z73.1.1), .int (nI z73.1.2.1), .int (wI z73.1.2.2), .int (nI z73.2.1), .int ma, .int ex, .ref ki])), (t, .inl (cB, n, .inl (tx u))), (q73, .inr (0, [.ref t, .int (nI z73.2.2.1), .int (nI z73.2.2.2)]))] : va_W) ++ (alC cO a.2.2.1 ++ (alC cO a.2.2.2.2.1 ++ (a.2.2.2.2.2.2.1 ++ [])))) := hD
        have hPm : List.Perm ((([(ns, .inr (1, [.ref ad, .ref ar])), (ad, .inr (11, [.ref (alO sb a.2.2.1), .int (nI a.1.2.1.length), .int a.2.2.2.1])), (ar, .inr (11, [.ref (alO sb a.2.2.2.2.1), .int (nI a.1.2.2.length), .int a.2.2.2.2.2.1])), (h, .inr (4, [.ref res, .ref t, .int (nI z73.1.1), .int (nI z73.1.2.1), .int (wI z73.1.2.2), .int (nI z73.2.1), .int ma, .int ex, .ref ki])), (t, .inl (cB, n, .inl (tx u))), (q73, .inr (0, [.ref t, .int (nI z73.2.2.1), .int (nI z73.2.2.2)]))] : va_W) ++ (alC cO a.2.2.1 ++ (alC cO a.2.2.2.2.1 ++ (a.2.2.2.2.2.2.1 ++ [])))) : va_W) ((ar, .inr (11, [.ref (alO sb a.2.2.2.2.1), .int (nI a.1.2.2.length), .int a.2.2.2.2.2.1])) :: (alC cO a.2.2.2.2.1 ++ (([(ns, .inr (1, [.ref ad, .ref ar])), (ad, .inr (11, [.ref (alO sb a.2.2.1), .int (nI a.1.2.1.length), .int a.2.2.2.1])), (h, .inr (4, [.ref res, .ref t, .int (nI z73.1.1), .int (nI z73.1.2.1), .int (wI z73.1.2.2), .int (nI z73.2.1), .int ma, .int ex, .ref ki])), (t, .inl (cB, n, .inl (tx u))), (q73, .inr (0, [.ref t, .int (nI z73.2.2.1), .int (nI z73.2.2.2)]))] : va_W) ++ (alC cO a.2.2.1 ++ (a.2.2.2.2.2.2.1 ++ []))))) := blk_perm (fun i => ([[(ns, .inr (1, [.ref ad, .ref ar]))], [(ad, .inr (11, [.ref (alO sb a.2.2.1), .int (nI a.1.2.1.length), .int a.2.2.2.1]))], [(ar, .inr (11, [.ref (alO sb a.2.2.2.2.1), .int (nI a.1.2.2.length), .int a.2.2.2.2.2.1]))], [(h, .inr (4, [.ref res, .ref t, .int (nI z73.1.1), .int (nI z73.1.2.1), .int (wI z73.1.2.2), .int (nI z73.2.1), .int ma, .int ex, .ref ki]))], [(t, .inl (cB, n, .inl (tx u)))], [(q73, .inr (0, [.ref t, .int (nI z73.2.2.1), .int (nI z73.2.2.2)]))], alC cO a.2.2.1, alC cO a.2.2.2.2.1, a.2.2.2.2.2.2.1] : List va_W).getD i []) [0, 1, 2, 3, 4, 5, 6, 7, 8] [2, 7, 0, 1, 3, 4, 5, 6, 8] rfl
        have hP := hP.perm hPm
        have hD := hD.perm hPm
        have hal76 : mxB (4 * alK a.2.2.2.2.1 + alS a.2.2.2.2.1 a.1.2.2.length) (4 * alK a.2.2.2.2.1) (4 * (10 + 2 * a.1.2.2.length)) := al_costM hj5.1
        have haz76 := (al_cost hj5.1).2
        refine al_add (own := "TrustChain$CertificateReader") 0 _ q73 ar a.1.2.2.length a.2.2.2.2.2.1 cO a.2.2.2.2.1 rfl qn9_238 ⟨hx, hb, hml, hown, hts⟩ tbin q4_107 hN (hT0.keep hS hAs) hAs (Nat.le_trans hB0 hS.1) hA hK 1 rfl hP hD hS hj5.1 (by omega) (hj5.toF (fun q9 hq9 => List.mem_append_right _ (List.mem_append_right _ (List.mem_append_left _ hq9)))) ⟨4, _, rfl⟩ (Nat.le_of_ble_eq_true rfl) (Nat.le_of_ble_eq_true rfl) (by omega) (by have := mxU hal76; have h1 := mxU hj7b; have h2 := mxU hj8b; omega) hl.1 (Nat.le_of_ble_eq_true rfl) d_CertificateReader_readTrees_76 (fun o76 m76 H76 locs hi76 hg76 hk76 he76 hf76 hv76 hP hD hS => ?_)
        have hk76 : mxB (alK o76) (alK a.2.2.2.2.1) (10 + 2 * a.1.2.2.length) := hk76
        have hsa76 : (3 * a.2.1 + 4 * (alK a.2.2.1 - alK o1) + 4 * (alK a.2.2.2.2.1 - alK o2)) + 3 + alS a.2.2.2.2.1 a.1.2.2.length ≤ (3 * ((en - x.1) / 2 + 1) + 8 * (10 + 2 * LB)) := by have := mxU hal76; have h1 := mxU hj7b; have h2 := mxU hj8b; omega
        clear hal76
        have hln76 : a.1.2.2.length + 1 = (a.1.2.2 ++ [(z73.2.2.1, z73.2.2.2)]).length := by rw [List.length_append]; rfl
        rw [hln76] at hP hD
        have hPm : List.Perm ((ar, .inr (11, [.ref (alO sb o76), .int (nI (a.1.2.2 ++ [(z73.2.2.1, z73.2.2.2)]).length), .int m76])) :: (alC cO o76 ++ (([(ns, .inr (1, [.ref ad, .ref ar])), (ad, .inr (11, [.ref (alO sb a.2.2.1), .int (nI a.1.2.1.length), .int a.2.2.2.1])), (h, .inr (4, [.ref res, .ref t, .int (nI z73.1.1), .int (nI z73.1.2.1), .int (wI z73.1.2.2), .int (nI z73.2.1), .int ma, .int ex, .ref ki])), (t, .inl (cB, n, .inl (tx u))), (q73, .inr (0, [.ref t, .int (nI z73.2.2.1), .int (nI z73.2.2.2)]))] : va_W) ++ (alC cO a.2.2.1 ++ (a.2.2.2.2.2.2.1 ++ [])))) : va_W) (([(ns, .inr (1, [.ref ad, .ref ar])), (ad, .inr (11, [.ref (alO sb a.2.2.1), .int (nI a.1.2.1.length), .int a.2.2.2.1])), (ar, .inr (11, [.ref (alO sb o76), .int (nI (a.1.2.2 ++ [(z73.2.2.1, z73.2.2.2)]).length), .int m76])), (h, .inr (4, [.ref res, .ref t, .int (nI z73.1.1), .int (nI z73.1.2.1), .int (wI z73.1.2.2), .int (nI z73.2.1), .int ma, .int ex, .ref ki])), (t, .inl (cB, n, .inl (tx u)))] : va_W) ++ (alC cO a.2.2.1 ++ (alC cO o76 ++ (a.2.2.2.2.2.2.1 ++ (([(q73, .inr (0, [.ref t, .int (nI z73.2.2.1), .int (nI z73.2.2.2)]))] : va_W) ++ []))))) := blk_perm (fun i => ([[(ar, .inr (11, [.ref (alO sb o76), .int (nI (a.1.2.2 ++ [(z73.2.2.1, z73.2.2.2)]).length), .int m76]))], alC cO o76, [(ns, .inr (1, [.ref ad, .ref ar]))], [(ad, .inr (11, [.ref (alO sb a.2.2.1), .int (nI a.1.2.1.length), .int a.2.2.2.1]))], [(h, .inr (4, [.ref res, .ref t, .int (nI z73.1.1), .int (nI z73.1.2.1), .int (wI z73.1.2.2), .int (nI z73.2.1), .int ma, .int ex, .ref ki]))], [(t, .inl (cB, n, .inl (tx u)))], [(q73, .inr (0, [.ref t, .int (nI z73.2.2.1), .int (nI z73.2.2.2)]))], alC cO a.2.2.1, a.2.2.2.2.2.2.1] : List va_W).getD i []) [0, 1, 2, 3, 4, 5, 6, 7, 8] [2, 3, 0, 4, 5, 7, 1, 8, 6] rfl
        have hP := hP.perm hPm
        have hD := hD.perm hPm
        obtain ⟨pl76, hpl76⟩ : ∃ z : va_W, z = a.2.2.2.2.2.2.1 ++ [(q73, .inr (0, [.ref t, .int (nI z73.2.2.1), .int (nI z73.2.2.2)]))] := ⟨_, rfl⟩
        have hPe : (([(ns, .inr (1, [.ref ad, .ref ar])), (ad, .inr (11, [.ref (alO sb a.2.2.1), .int (nI a.1.2.1.length), .int a.2.2.2.1])), (ar, .inr (11, [.ref (alO sb o76), .int (nI (a.1.2.2 ++ [(z73.2.2.1, z73.2.2.2)]).length), .int m76])), (h, .inr (4, [.ref res, .ref t, .int (nI z73.1.1), .int (nI z73.1.2.1), .int (wI z73.1.2.2), .int (nI z73.2.1), .int ma, .int ex, .ref ki])), (t, .inl (cB, n, .inl (tx u)))] : va_W) ++ (alC cO a.2.2.1 ++ (alC cO o76 ++ (a.2.2.2.2.2.2.1 ++ (([(q73, .inr (0, [.ref t, .int (nI z73.2.2.1), .int (nI z73.2.2.2)]))] : va_W) ++ []))))) = (([(ns, .inr (1, [.ref ad, .ref ar])), (ad, .inr (11, [.ref (alO sb a.2.2.1), .int (nI a.1.2.1.length), .int a.2.2.2.1])), (ar, .inr (11, [.ref (alO sb o76), .int (nI (a.1.2.2 ++ [(z73.2.2.1, z73.2.2.2)]).length), .int m76])), (h, .inr (4, [.ref res, .ref t, .int (nI z73.1.1), .int (nI z73.1.2.1), .int (wI z73.1.2.2), .int (nI z73.2.1), .int ma, .int ex, .ref ki])), (t, .inl (cB, n, .inl (tx u)))] : va_W) ++ (alC cO a.2.2.1 ++ (alC cO o76 ++ (pl76 ++ [])))) := by rw [hpl76]; simp only [List.append_assoc]
        rw [hPe] at hP hD
        have hm76 : ∀ q ∈ a.2.2.2.2.2.2.1, q ∈ pl76 := fun q hq => by rw [hpl76]; exact List.mem_append_left _ hq
        have E76 : elS t n pl76 o76 (a.1.2.2 ++ [(z73.2.2.1, z73.2.2.2)]) := hj5.snoc hm76 hi76 hf76 hv76 (by rw [hpl76]; exact List.mem_append_right _ (List.mem_singleton.mpr rfl)) (by omega) (by omega)
        have E76_ad := hj4.mono hm76
        have hpm := fun q hq => hm76 q (hj6 q hq)
        refine lv_pop hx hb d_CertificateReader_readTrees_79 rfl ?_
        refine lv_aload_n hx hb d_CertificateReader_readTrees_80 rfl (lv_at hl 2 rfl) ?_
        refine lv_iload hx hb d_CertificateReader_readTrees_81 (lv_at hl 0 rfl) ?_
        have hFc := va_free (wc := [(h, .inr (4, [.ref res, .ref t, .int (nI z73.1.1), .int (nI z73.1.2.1), .int (wI z73.1.2.2), .int (nI z73.2.1), .int ma, .int ex, .ref ki]))]) hD hS hA [3] rfl
        refine va_callv (mu_runU (As := [.int (nI z61.2)]) (rest := []) ⟨hx, hb, hml, hown, hts⟩ (cC_finish l dC dI sb h res t ki z73.1.1 z73.1.2.1 n z73.1.2.2 (nI z73.2.1) ma ex ie cB u z61.2 H76.size ((hi73.1).w hn) (by have := (hi73.1).1; omega) (by omega)) (cu_of (n := 1) hts tbin q3_159 q3_160 q3_163 q3_162 q1_15 q3_164 rfl (by decide +kernel) ⟨rfl, rfl⟩ ⟨Nat.le_of_ble_eq_true rfl, Nat.le_of_ble_eq_true rfl⟩) rfl ⟨by omega, by omega⟩ hN (hT0.keep hS hAs) hAs (Nat.le_trans hB0 hS.1) hK hP hD [3] (by decide) rfl [] rfl 3 4 rfl rfl rfl hl.1 rfl (Nat.le_of_ble_eq_true rfl) d_CertificateReader_readTrees_83) hS (fun q _ h => hFc q h) hFc (fun u83 tS H83 locs ht hvm hw83 hB hz1 hk1 hS => ?_)
        obtain ⟨z83, rfl⟩ : ∃ z, z = u83 := ⟨_, rfl⟩
        obtain ⟨hP1, hK1, hD1⟩ := hB
        rw [ht] at hP1
        obtain ⟨hP, hD⟩ := va_joinQ (X := [(ns, .inr (1, [.ref ad, .ref ar])), (ad, .inr (11, [.ref (alO sb a.2.2.1), .int (nI a.1.2.1.length), .int a.2.2.2.1])), (ar, .inr (11, [.ref (alO sb o76), .int (nI (a.1.2.2 ++ [(z73.2.2.1, z73.2.2.2)]).length), .int m76])), (h, .inr (4, [.ref res, .ref t, .int (nI z73.1.1), .int (nI z73.1.2.1), .int (wI z73.1.2.2), .int (nI z73.2.1), .int ma, .int ex, .ref ki])), (t, .inl (cB, n, .inl (tx u)))]) (pl := (alC cO a.2.2.1 ++ (alC cO o76 ++ (pl76 ++ [])))) (wr := [(ns, .inr (1, [.ref ad, .ref ar])), (ad, .inr (11, [.ref (alO sb a.2.2.1), .int (nI a.1.2.1.length), .int a.2.2.2.1])), (ar, .inr (11, [.ref (alO sb o76), .int (nI (a.1.2.2 ++ [(z73.2.2.1, z73.2.2.2)]).length), .int m76])), (t, .inl (cB, n, .inl (tx u)))]) (w1 := [(h, .inr (4, [.ref res, .ref t, .int (nI z83.1), .int (nI z83.2.1), .int (wI z83.2.2), .int (nI z73.2.1), .int ma, .int ex, .ref ki]))]) hP hD [3] [0, 1, 2, 4] rfl rfl (by decide) (by decide) hk1 hFc hP1 hD1
        have hP : va_P (dC, dI) classes (([(ns, .inr (1, [.ref ad, .ref ar])), (ad, .inr (11, [.ref (alO sb a.2.2.1), .int (nI a.1.2.1.length), .int a.2.2.2.1])), (ar, .inr (11, [.ref (alO sb o76), .int (nI (a.1.2.2 ++ [(z73.2.2.1, z73.2.2.2)]).length), .int m76])), (t, .inl (cB, n, .inl (tx u))), (h, .inr (4, [.ref res, .ref t, .int (nI z83.1), .int (nI z83.2.1), .int (wI z83.2.2), .int (nI z73.2.1), .int ma, .int ex, .ref ki]))] : va_W) ++ (alC cO a.2.2.1 ++ (alC cO o76 ++ (pl76 ++ [])))) H83 := hP
        have hD : va_D A (([(ns, .inr (1, [.ref ad, .ref ar])), (ad, .inr (11, [.ref (alO sb a.2.2.1), .int (nI a.1.2.1.length), .int a.2.2.2.1])), (ar, .inr (11, [.ref (alO sb o76), .int (nI (a.1.2.2 ++ [(z73.2.2.1, z73.2.2.2)]).length), .int m76])), (t, .inl (cB, n, .inl (tx u))), (h, .inr (4, [.ref res, .ref t, .int (nI z83.1), .int (nI z83.2.1), .int (wI z83.2.2), .int (nI z73.2.1), .int ma, .int ex, .ref ki]))] : va_W) ++ (alC cO a.2.2.1 ++ (alC cO o76 ++ (pl76 ++ [])))) := hD
        have hz83 : z83 = rd_fin z73.1 z61.2 := hw83
        have hi83 : rdInv n z83 := by rw [hz83]; exact fin_inv hi73.1
        have hb83 : z83.1 ≤ n := hi83.1
        refine lv_goto (tgt := 120) hx hb d_CertificateReader_readTrees_86 (by decide) ?_
        refine lv_aload_n hx hb d_CertificateReader_readTrees_120 rfl (lv_at hl 2 rfl) ?_
        refine lv_iload hx hb d_CertificateReader_readTrees_121 (lv_at hl 1 rfl) ?_
        have hFc := va_free (wc := [(h, .inr (4, [.ref res, .ref t, .int (nI z83.1), .int (nI z83.2.1), .int (wI z83.2.2), .int (nI z73.2.1), .int ma, .int ex, .ref ki]))]) hD hS hA [4] rfl
        refine va_callv (mu_runU (As := [.int (nI z38.2)]) (rest := []) ⟨hx, hb, hml, hown, hts⟩ (cC_finish l dC dI sb h res t ki z83.1 z83.2.1 n z83.2.2 (nI z73.2.1) ma ex ie cB u z38.2 H83.size ((hi83).w hn) (by have := (hi83).1; omega) (by omega)) (cu_of (n := 1) hts tbin q3_159 q3_160 q3_163 q3_162 q1_15 q3_164 rfl (by decide +kernel) ⟨rfl, rfl⟩ ⟨Nat.le_of_ble_eq_true rfl, Nat.le_of_ble_eq_true rfl⟩) rfl ⟨by omega, by omega⟩ hN (hT0.keep hS hAs) hAs (Nat.le_trans hB0 hS.1) hK hP hD [4] (by decide) rfl [] rfl 4 4 rfl rfl rfl hl.1 rfl (Nat.le_of_ble_eq_true rfl) d_CertificateReader_readTrees_123) hS (fun q _ h => hFc q h) hFc (fun u123 tS H123 locs ht hvm hw123 hB hz1 hk1 hS => ?_)
        obtain ⟨z123, rfl⟩ : ∃ z, z = u123 := ⟨_, rfl⟩
        obtain ⟨hP1, hK1, hD1⟩ := hB
        rw [ht] at hP1
        obtain ⟨hP, hD⟩ := va_joinQ (X := [(ns, .inr (1, [.ref ad, .ref ar])), (ad, .inr (11, [.ref (alO sb a.2.2.1), .int (nI a.1.2.1.length), .int a.2.2.2.1])), (ar, .inr (11, [.ref (alO sb o76), .int (nI (a.1.2.2 ++ [(z73.2.2.1, z73.2.2.2)]).length), .int m76])), (t, .inl (cB, n, .inl (tx u))), (h, .inr (4, [.ref res, .ref t, .int (nI z83.1), .int (nI z83.2.1), .int (wI z83.2.2), .int (nI z73.2.1), .int ma, .int ex, .ref ki]))]) (pl := (alC cO a.2.2.1 ++ (alC cO o76 ++ (pl76 ++ [])))) (wr := [(ns, .inr (1, [.ref ad, .ref ar])), (ad, .inr (11, [.ref (alO sb a.2.2.1), .int (nI a.1.2.1.length), .int a.2.2.2.1])), (ar, .inr (11, [.ref (alO sb o76), .int (nI (a.1.2.2 ++ [(z73.2.2.1, z73.2.2.2)]).length), .int m76])), (t, .inl (cB, n, .inl (tx u)))]) (w1 := [(h, .inr (4, [.ref res, .ref t, .int (nI z123.1), .int (nI z123.2.1), .int (wI z123.2.2), .int (nI z73.2.1), .int ma, .int ex, .ref ki]))]) hP hD [4] [0, 1, 2, 3] rfl rfl (by decide) (by decide) hk1 hFc hP1 hD1
        have hP : va_P (dC, dI) classes (([(ns, .inr (1, [.ref ad, .ref ar])), (ad, .inr (11, [.ref (alO sb a.2.2.1), .int (nI a.1.2.1.length), .int a.2.2.2.1])), (ar, .inr (11, [.ref (alO sb o76), .int (nI (a.1.2.2 ++ [(z73.2.2.1, z73.2.2.2)]).length), .int m76])), (t, .inl (cB, n, .inl (tx u))), (h, .inr (4, [.ref res, .ref t, .int (nI z123.1), .int (nI z123.2.1), .int (wI z123.2.2), .int (nI z73.2.1), .int ma, .int ex, .ref ki]))] : va_W) ++ (alC cO a.2.2.1 ++ (alC cO o76 ++ (pl76 ++ [])))) H123 := hP
        have hD : va_D A (([(ns, .inr (1, [.ref ad, .ref ar])), (ad, .inr (11, [.ref (alO sb a.2.2.1), .int (nI a.1.2.1.length), .int a.2.2.2.1])), (ar, .inr (11, [.ref (alO sb o76), .int (nI (a.1.2.2 ++ [(z73.2.2.1, z73.2.2.2)]).length), .int m76])), (t, .inl (cB, n, .inl (tx u))), (h, .inr (4, [.ref res, .ref t, .int (nI z123.1), .int (nI z123.2.1), .int (wI z123.2.2), .int (nI z73.2.1), .int ma, .int ex, .ref ki]))] : va_W) ++ (alC cO a.2.2.1 ++ (alC cO o76 ++ (pl76 ++ [])))) := hD
        have hz123 : z123 = rd_fin z83 z38.2 := hw123
        have hi123 : rdInv n z123 := by rw [hz123]; exact fin_inv hi83
        have hb123 : z123.1 ≤ n := hi123.1
        refine lv_iinc (v := nI (a.2.1 + 1)) (lv' := [(5, .int (nI (a.2.1 + 1))), (7, .int (nI z61.2)), (6, .int (nI z38.2)), (0, .ref h), (2, .ref ns), (4, .int (nI z3.2))]) hx hb d_CertificateReader_readTrees_126 hl (k := 5) rfl (nI_1 _) (by decide) rfl (fun ls hl => ?_)
        refine lv_goto (tgt := 11) hx hb d_CertificateReader_readTrees_129 (by decide) ?_
        have e9 : rb_trs u n z3.2 a.1 = (z123, a.1.2.1, (a.1.2.2 ++ [(z73.2.2.1, z73.2.2.2)])) := by
          subst hz123
          subst hz83
          subst hz73
          subst hz61
          subst hz38
          exact ((if_pos p52).trans rfl)
        have hpr := trb_st2 u n z3.2 a.1
        rw [e9] at hpr
        have hpr : st2 a.1.1 z123 z3.2 := hpr
        obtain ⟨⟨hq1, hq2, hq3⟩, hq4⟩ := hpr
        have hlp := loop_go hj3 hk2 hcond
        rw [e9] at hlp
        refine W.widen (k := (2 * (a.2.1 + 1))) (n := (3 * (a.2.1 + 1) + 4 * (alK a.2.2.1 - alK o1) + 4 * (alK o76 - alK o2))) (by omega) (by omega) ?_
        exact ih ((z123, a.1.2.1, (a.1.2.2 ++ [(z73.2.2.1, z73.2.2.2)])), a.2.1 + 1, a.2.2.1, a.2.2.2.1, o76, m76, pl76, nI z73.2.1) _ _ ls (by show 2048 - (a.2.1 + 1) < 2048 - a.2.1; omega) (⟨hi123, hk2, hlp, E76_ad, E76, hpm, ⟨by show alK o1 ≤ alK a.2.2.1; omega, by have h1 := mxU hj7b; have h2 := mxU hj8b; have := mxU hk76; show alK a.2.2.1 ≤ max (alK o1) (10 + 2 * a.1.2.1.length); omega⟩, ⟨by show alK o2 ≤ alK o76; omega, by have h1 := mxU hj7b; have h2 := mxU hj8b; have := mxU hk76; show alK o76 ≤ max (alK o2) (10 + 2 * (a.1.2.2 ++ [(z73.2.2.1, z73.2.2.2)]).length); omega⟩, ⟨by show a.1.2.1.length ≤ D.length + (a.2.1 + 1); omega, by show (a.1.2.2 ++ [(z73.2.2.1, z73.2.2.2)]).length ≤ R.length + (a.2.1 + 1); omega⟩, ⟨by show z123.1 ≤ z3.2; omega, by show z3.1.1 ≤ z123.1; omega, by show z3.1.1 + 2 * (a.2.1 + 1) ≤ z123.1 + 2; omega, fun q9 => by have := hq4 q9; have := hj13 (hq3 q9); show z3.1.1 + 2 * (a.2.1 + 1) ≤ z123.1; omega⟩⟩) (hP.part [4, 3, 0, 1, 2] rfl) (hD.part [4, 3, 0, 1, 2] (by decide) rfl) hS (lv_sub hl [3, 4, 5, 0] rfl)
    · skip
      refine lv_iload hx hb d_CertificateReader_readTrees_19 (lv_at hl 3 rfl) ?_
      refine lv_if_eq (tgt := 33) hx hb d_CertificateReader_readTrees_21 (by decide) (fun c21 => ?_) (fun c21 => ?_)
      · have p21 : a.2.1 = 0 := ((nI_eq (a := a.2.1) (b := 0) (by omega) (by omega)).mp c21)
        exact k33 ls (Or.inl (by rw [p21]; rfl)) (lv_sub hl [0, 1, 2, 3] rfl)
      · have p21 : ¬ (a.2.1 = 0) := (fun q9 => c21 ((nI_eq (a := a.2.1) (b := 0) (by omega) (by omega)).mpr q9))
        refine lv_aload_n hx hb d_CertificateReader_readTrees_24 rfl (lv_at hl 0 rfl) ?_
        refine lv_iload hx hb d_CertificateReader_readTrees_25 (lv_at hl 2 rfl) ?_
        refine vp_callSi (pu_callU (As := [.int (nI z3.2)]) (rest := []) ⟨hx, hb, hml, hown, hts⟩ (cC_more l dC dI sb h res t ki a.1.1.1 a.1.1.2.1 n a.1.1.2.2 a.2.2.2.2.2.2.2 ma ex ie cB u z3.2 ((hj1).w hn) (by have := (hj1).1; omega) (by omega)) (cu_of (n := 1) hts tbin q4_103 q4_104 q3_197 q4_106 q1_15 q3_201 rfl (by decide +kernel) ⟨rfl, rfl⟩ ⟨Nat.le_of_ble_eq_true rfl, Nat.le_of_ble_eq_true rfl⟩) rfl ⟨by omega, by omega⟩ hN (hT0.keep hS hAs) hK hP [0] rfl [] rfl 0 4 rfl rfl rfl hl.1 rfl (Nat.le_of_ble_eq_true rfl) d_CertificateReader_readTrees_27) (fun r27 hr27 => ?_)
        obtain rfl := bz_zP hr27
        refine lv_if_eq (tgt := 132) hx hb d_CertificateReader_readTrees_30 (by decide) (fun c30 => ?_) (fun c30 => ?_)
        · have p30 : ¬ (a.1.1.2.2 = none ∧ a.1.1.1 < z3.2) := (zP_0.mp c30)
          have hT9 : a.1 = rd_trs u n x tg en D R := by
              have h7 := loop_at hj3 hk2 (fun h9 => h9.elim (fun h8 => p21 (eq_of_beq h8)) (fun h8 => p30 h8))
              subst hz3
              exact h7
          refine W.widen (k := (2 * ((en - x.1) / 2 + 1))) (n := (3 * ((en - x.1) / 2 + 1) + 8 * (10 + 2 * LB))) (by have h1 := mxU hw9; have h2 := mxU hj7b; have h3 := mxU hj8b; omega) (by have h1 := mxU hw9; have h2 := mxU hj7b; have h3 := mxU hj8b; omega) ?_
          exact W.vret hx hb hr (fun t ht hW => ⟨⟨(a.1, a.2.2), rfl, ⟨hT9, hj1, hj4, hj5, hj6, ⟨by show 2 * a.1.2.1.length + x.1 ≤ 2 * D.length + a.1.1.1 + 2; omega, by show 2 * a.1.2.2.length + x.1 ≤ 2 * R.length + a.1.1.1 + 2; omega⟩, fun h9 => by have := hj13 h9; exact ⟨by show 2 * a.1.2.1.length + x.1 ≤ 2 * D.length + a.1.1.1; omega, by show 2 * a.1.2.2.length + x.1 ≤ 2 * R.length + a.1.1.1; omega⟩⟩, by rw [ht]; exact hP, va_K.moved hW.alike hK, hD⟩, hS.F ht⟩) hS.2.2 d_CertificateReader_readTrees_132
        · have p30 : a.1.1.2.2 = none ∧ a.1.1.1 < z3.2 := (zP_1 c30)
          exact k33 ls (Or.inr ⟨p30.1, p30.2⟩) (lv_sub hl [0, 1, 2, 3] rfl)
