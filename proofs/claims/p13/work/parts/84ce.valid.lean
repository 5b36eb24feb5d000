/-! validate: what it does. -/
theorem ce9_en {γ : cG} {κ : kE} {Ad : List Nat} {ν : Nat → cN} {ω : Nat → List Nat} {L ce ed : Nat} {G : va_W} (h : TY γ κ Ad ν ω L G) (ha : tK κ Ad ce (15, ed, 0)) {k : Nat} (hk : k < (ω ce).length) : ∃ p q, tK κ Ad ((ω ce).getD k 0) (8, p, q) := by
  obtain ⟨i, q, m, -, h2, -⟩ := ty_15 h ha
  obtain ⟨cap, hc⟩ := h2 (by omega)
  obtain ⟨_, f, -, -, h3, -⟩ := ty_14 h hc
  exact (h3 k hk).2
theorem li9_en {γ : cG} {κ : kE} {Ad : List Nat} {ν : Nat → cN} {ω : Nat → List Nat} {L li ed : Nat} {G : va_W} (h : TY γ κ Ad ν ω L G) (ha : tK κ Ad li (17, ed, 0)) {k : Nat} (hk : k < (ω li).length) : ∃ p, tK κ Ad ((ω li).getD k 0) (9, p, 0) := by
  obtain ⟨i, q, m, -, h2, -⟩ := ty_17 h ha
  obtain ⟨cap, hc⟩ := h2 (by omega)
  obtain ⟨_, f, -, -, h3, -⟩ := ty_16 h hc
  exact (h3 k hk).2
theorem d_Trust_validate_41 : decode b_Trust_validate 41 = .ok (.aload_n 0, 1) := by decide +kernel
theorem d_Trust_validate_42 : decode b_Trust_validate 42 = .ok (.iconst 0, 1) := by decide +kernel
theorem d_Trust_validate_43 : decode b_Trust_validate 43 = .ok (.putfield 58, 3) := by decide +kernel
theorem d_Trust_validate_46 : decode b_Trust_validate 46 = .ok (.aload_n 0, 1) := by decide +kernel
theorem d_Trust_validate_47 : decode b_Trust_validate 47 = .ok (.iconst (-1), 1) := by decide +kernel
theorem d_Trust_validate_48 : decode b_Trust_validate 48 = .ok (.putfield 65, 3) := by decide +kernel
theorem d_Trust_validate_51 : decode b_Trust_validate 51 = .ok (.aload_n 0, 1) := by decide +kernel
theorem d_Trust_validate_52 : decode b_Trust_validate 52 = .ok (.iconst 0, 1) := by decide +kernel
theorem d_Trust_validate_53 : decode b_Trust_validate 53 = .ok (.putfield 62, 3) := by decide +kernel
theorem d_Trust_validate_56 : decode b_Trust_validate 56 = .ok (.aload_n 0, 1) := by decide +kernel
theorem d_Trust_validate_57 : decode b_Trust_validate 57 = .ok (.getfield 50, 3) := by decide +kernel
theorem d_Trust_validate_60 : decode b_Trust_validate 60 = .ok (.lload_n 2, 1) := by decide +kernel
theorem d_Trust_validate_61 : decode b_Trust_validate 61 = .ok (.iload 5, 2) := by decide +kernel
theorem d_Trust_validate_63 : decode b_Trust_validate 63 = .ok (.invokevirtual 203, 3) := by decide +kernel
theorem d_Trust_validate_66 : decode b_Trust_validate 66 = .ok (.bipush 10, 2) := by decide +kernel
theorem d_Trust_validate_68 : decode b_Trust_validate 68 = .ok (.istore 6, 2) := by decide +kernel
theorem d_Trust_validate_70 : decode b_Trust_validate 70 = .ok (.aload_n 0, 1) := by decide +kernel
theorem d_Trust_validate_71 : decode b_Trust_validate 71 = .ok (.getfield 43, 3) := by decide +kernel
theorem d_Trust_validate_74 : decode b_Trust_validate 74 = .ok (.aload_n 0, 1) := by decide +kernel
theorem d_Trust_validate_75 : decode b_Trust_validate 75 = .ok (.getfield 19, 3) := by decide +kernel
theorem d_Trust_validate_78 : decode b_Trust_validate 78 = .ok (.aload_n 0, 1) := by decide +kernel
theorem d_Trust_validate_79 : decode b_Trust_validate 79 = .ok (.getfield 19, 3) := by decide +kernel
theorem d_Trust_validate_82 : decode b_Trust_validate 82 = .ok (.iload_n 1, 1) := by decide +kernel
theorem d_Trust_validate_83 : decode b_Trust_validate 83 = .ok (.invokevirtual 165, 3) := by decide +kernel
theorem d_Trust_validate_86 : decode b_Trust_validate 86 = .ok (.checkcast 120, 3) := by decide +kernel
theorem d_Trust_validate_89 : decode b_Trust_validate 89 = .ok (.iload 4, 2) := by decide +kernel
theorem d_Trust_validate_91 : decode b_Trust_validate 91 = .ok (.invokevirtual 207, 3) := by decide +kernel
theorem d_Trust_validate_94 : decode b_Trust_validate 94 = .ok (.istore 7, 2) := by decide +kernel
theorem d_Trust_validate_96 : decode b_Trust_validate 96 = .ok (.iconst 0, 1) := by decide +kernel
theorem d_Trust_validate_97 : decode b_Trust_validate 97 = .ok (.istore 8, 2) := by decide +kernel
theorem d_Trust_validate_99 : decode b_Trust_validate 99 = .ok (.iload 8, 2) := by decide +kernel
theorem d_Trust_validate_101 : decode b_Trust_validate 101 = .ok (.sipush 1000, 3) := by decide +kernel
theorem d_Trust_validate_104 : decode b_Trust_validate 104 = .ok (.if_icmp .ge 103, 3) := by decide +kernel
theorem d_Trust_validate_107 : decode b_Trust_validate 107 = .ok (.iload 7, 2) := by decide +kernel
theorem d_Trust_validate_109 : decode b_Trust_validate 109 = .ok (.ifCond .eq 98, 3) := by decide +kernel
theorem d_Trust_validate_112 : decode b_Trust_validate 112 = .ok (.aload_n 0, 1) := by decide +kernel
theorem d_Trust_validate_113 : decode b_Trust_validate 113 = .ok (.getfield 50, 3) := by decide +kernel
theorem d_Trust_validate_116 : decode b_Trust_validate 116 = .ok (.aload_n 0, 1) := by decide +kernel
theorem d_Trust_validate_117 : decode b_Trust_validate 117 = .ok (.getfield 43, 3) := by decide +kernel
theorem d_Trust_validate_120 : decode b_Trust_validate 120 = .ok (.getfield 210, 3) := by decide +kernel
theorem d_Trust_validate_123 : decode b_Trust_validate 123 = .ok (.aload_n 0, 1) := by decide +kernel
theorem d_Trust_validate_124 : decode b_Trust_validate 124 = .ok (.getfield 23, 3) := by decide +kernel
theorem d_Trust_validate_127 : decode b_Trust_validate 127 = .ok (.aload_n 0, 1) := by decide +kernel
theorem d_Trust_validate_128 : decode b_Trust_validate 128 = .ok (.getfield 36, 3) := by decide +kernel
theorem d_Trust_validate_131 : decode b_Trust_validate 131 = .ok (.invokevirtual 213, 3) := by decide +kernel
theorem d_Trust_validate_134 : decode b_Trust_validate 134 = .ok (.istore 9, 2) := by decide +kernel
theorem d_Trust_validate_136 : decode b_Trust_validate 136 = .ok (.aload_n 0, 1) := by decide +kernel
theorem d_Trust_validate_137 : decode b_Trust_validate 137 = .ok (.dup, 1) := by decide +kernel
theorem d_Trust_validate_138 : decode b_Trust_validate 138 = .ok (.getfield 62, 3) := by decide +kernel
theorem d_Trust_validate_141 : decode b_Trust_validate 141 = .ok (.iconst 1, 1) := by decide +kernel
theorem d_Trust_validate_142 : decode b_Trust_validate 142 = .ok (.iadd, 1) := by decide +kernel
theorem d_Trust_validate_143 : decode b_Trust_validate 143 = .ok (.putfield 62, 3) := by decide +kernel
theorem d_Trust_validate_146 : decode b_Trust_validate 146 = .ok (.iload 9, 2) := by decide +kernel
theorem d_Trust_validate_148 : decode b_Trust_validate 148 = .ok (.ifCond .eq 8, 3) := by decide +kernel
theorem d_Trust_validate_151 : decode b_Trust_validate 151 = .ok (.iload 8, 2) := by decide +kernel
theorem d_Trust_validate_153 : decode b_Trust_validate 153 = .ok (.ifCond .ne 22, 3) := by decide +kernel
theorem d_Trust_validate_156 : decode b_Trust_validate 156 = .ok (.iload 9, 2) := by decide +kernel
theorem d_Trust_validate_158 : decode b_Trust_validate 158 = .ok (.istore 6, 2) := by decide +kernel
theorem d_Trust_validate_160 : decode b_Trust_validate 160 = .ok (.aload_n 0, 1) := by decide +kernel
theorem d_Trust_validate_161 : decode b_Trust_validate 161 = .ok (.aload_n 0, 1) := by decide +kernel
theorem d_Trust_validate_162 : decode b_Trust_validate 162 = .ok (.getfield 50, 3) := by decide +kernel
theorem d_Trust_validate_165 : decode b_Trust_validate 165 = .ok (.getfield 217, 3) := by decide +kernel
theorem d_Trust_validate_168 : decode b_Trust_validate 168 = .ok (.putfield 65, 3) := by decide +kernel
theorem d_Trust_validate_171 : decode b_Trust_validate 171 = .ok (.aload_n 0, 1) := by decide +kernel
theorem d_Trust_validate_172 : decode b_Trust_validate 172 = .ok (.invokevirtual 218, 3) := by decide +kernel
theorem d_Trust_validate_175 : decode b_Trust_validate 175 = .ok (.iload 9, 2) := by decide +kernel
theorem d_Trust_validate_177 : decode b_Trust_validate 177 = .ok (.ifCond .eq 21, 3) := by decide +kernel
theorem d_Trust_validate_180 : decode b_Trust_validate 180 = .ok (.aload_n 0, 1) := by decide +kernel
theorem d_Trust_validate_181 : decode b_Trust_validate 181 = .ok (.getfield 43, 3) := by decide +kernel
theorem d_Trust_validate_184 : decode b_Trust_validate 184 = .ok (.aload_n 0, 1) := by decide +kernel
theorem d_Trust_validate_185 : decode b_Trust_validate 185 = .ok (.getfield 19, 3) := by decide +kernel
theorem d_Trust_validate_188 : decode b_Trust_validate 188 = .ok (.invokevirtual 221, 3) := by decide +kernel
theorem d_Trust_validate_191 : decode b_Trust_validate 191 = .ok (.ifCond .eq 7, 3) := by decide +kernel
theorem d_Trust_validate_194 : decode b_Trust_validate 194 = .ok (.iconst 1, 1) := by decide +kernel
theorem d_Trust_validate_195 : decode b_Trust_validate 195 = .ok (.goto 4, 3) := by decide +kernel
theorem d_Trust_validate_198 : decode b_Trust_validate 198 = .ok (.iconst 0, 1) := by decide +kernel
theorem d_Trust_validate_199 : decode b_Trust_validate 199 = .ok (.istore 7, 2) := by decide +kernel
theorem d_Trust_validate_201 : decode b_Trust_validate 201 = .ok (.iinc 8 1, 3) := by decide +kernel
theorem d_Trust_validate_204 : decode b_Trust_validate 204 = .ok (.goto (-105), 3) := by decide +kernel
theorem d_Trust_validate_207 : decode b_Trust_validate 207 = .ok (.iload 6, 2) := by decide +kernel
theorem d_Trust_validate_209 : decode b_Trust_validate 209 = .ok (.ireturn, 1) := by decide +kernel
set_option maxHeartbeats 4000000 in
set_option maxRecDepth 100000 in
theorem z_Trust_validate (l : Launch) (hl0 : l.stackTraces = false) (dC : Nat → ClassId) (dI : Nat → Nat → Nat) (sb : sB) (γ : cG) (κ : kE) (Ad : List Nat) (ν : Nat → cN) (ω : Nat → List Nat) (L : Nat) (G : va_W) (fe ho ce li sh rs se ch fo q0 pl : Nat) (o : alD) (as : List Nat) (foS chS faP feS wrP : Int32) (i j kn : Int32) (tm : Int64) (sz : Nat) (hC : CKx sb κ Ad ω ho ce li sh rs se ch fo q0 pl) (hW0 : CWx γ sb κ Ad ν ω fe ho ce li sh rs se ch fo q0 pl (G, L, o, as, foS, chS, faP, feS, wrP))  (hkn : bz kn (kn = 1)) (hX : XC κ Ad ν ω) (hY : YC κ Ad ν ω) (hnb : ∀ k9, k9 < (ω ce).length → (ν ((ω ce).getD k9 0)).2.2.2.2.2.2.2.2.2.2.2.2 = nI k9) (hbi : ∀ d9, d9 < (ω ce).length → ∀ k9, k9 < 16 → (bJ (nI ((ω ((ω ((ω ce).getD d9 0)).getD 12 0)).getD 1 0)) k9 = true ↔ k9 < (ω ce).length ∧ vFO κ ν ω ce d9 k9)) (hfn : fo ≠ (ω se).getD 0 0) : vx_Met l y_Trust_validate w_Trust_validate ({ frames := 12, cells := 3, slots := 47, locals := 363 }) (mx_P [.ref q0, .int i, .long tm, .int j, .int kn] (dC, dI) sb G [(γ.1, .byte), (γ.2.1, .int), (γ.2.2.1, .long), (γ.2.2.2, .object "java/lang/Object")] sz) (va_Qi (fun r (u' : cU) => ∃ (ν' : Nat → cN) (ω' : Nat → List Nat) (k D : Nat), VE ν ν' ω ω' se ch ((ω se).getD 0 0) fo ∧ CWx γ sb κ Ad ν' ω' fe ho ce li sh rs se ch fo q0 pl u' ∧ FRq γ Ad q0 pl G u'.1 ∧ (i = nI k ∧ k < (ω ce).length ∧ j = nI D ∧ 1 ≤ D ∧ D ≤ 16) ∧ u'.2.2.2.2 = (nI (vVQ κ ν ω ce li tm kn k D).2.2.1.length, nI (vVQ κ ν ω ce li tm kn k D).2.1, (vVQ κ ν ω ce li tm kn k D).2.2.2.2, feS, wrP) ∧ ((vVQ κ ν ω ce li tm kn k D).2.2.1.length ≤ 16 ∧ ∀ j9, j9 < (vVQ κ ν ω ce li tm kn k D).2.2.1.length → nI ((ω' fo).getD j9 0) = nI ((vVQ κ ν ω ce li tm kn k D).2.2.1.reverse.getD j9 0)) ∧ r = (vVQ κ ν ω ce li tm kn k D).2.2.2.1) (mu_B (dC, dI) [(γ.1, .byte), (γ.2.1, .int), (γ.2.2.1, .long), (γ.2.2.2, .object "java/lang/Object")] (va_A G sz) (fun u' : cU => u'.1)) (va_A G sz)) (mx_X (fun (E : String) (u' : cU) => CWx γ sb κ Ad ν ω fe ho ce li sh rs se ch fo q0 pl u' ∧ FRq γ Ad q0 pl G u'.1 ∧ (u'.2.2.2.2 = (foS, chS, faP, feS, wrP) ∧ ((E = "java/lang/IllegalArgumentException" ∧ (j < 1 ∨ 16 < j)) ∨ (E = "java/lang/IndexOutOfBoundsException" ∧ ¬ (j < 1 ∨ 16 < j) ∧ ¬ (¬ i < 0 ∧ i < nI (ω ce).length))))) (dC, dI) [(γ.1, .byte), (γ.2.1, .int), (γ.2.2.1, .long), (γ.2.2.2, .object "java/lang/Object")] (va_A G sz) (fun u' : cU => u'.1)) 3 47 (va_A G sz) := by
  refine vx_ofW (cc := b_Trust_validate) (maxL := 10) (ret := (some FieldType.int)) (by decide) rfl ?_
  intro p e s m args below meth c s₁ B hml hnoh hv
  obtain ⟨rfl, hsz, hB0, hP, hK, hD0, hN, hT0, hTh⟩ := hv
  have hx := B.exec
  have hb := B.bytes
  have hr := B.returns
  have hts := atoms_spec (ws := w_Trust_validate) B.pre
  have tbin : ∀ w ∈ tb, w ∈ w_Trust_validate := fun w h => List.mem_cons_of_mem _ h
  have htb : ∀ w ∈ tb, w.before _ s = true := fun w h => hts w (tbin w h)
  have hown : s.vm.findClass "TrustChain" = some m.cls := findClass_of_methodNamed B.named
  have hlocks := B.notSynchronized
  subst hsz
  have hD := hD0.self (sz := s.heap.size)
  generalize hAe : va_A G s.heap.size = A at hD ⊢
  have hA : ∀ q : Nat, s.heap.size ≤ q → A q := fun q h => by rw [← hAe]; exact Or.inr h
  have hAs : ∀ q : Nat, A q → sb.1 ≤ q := fun q h => by
    rw [← hAe] at h
    rcases h with ⟨k, e, h⟩ | h
    · exact hD0.2 k _ h
    · exact Nat.le_trans hB0 h
  have hS : va_S A s.heap s.heap [] := va_S.rf
  have hFR := FRq.rf γ Ad q0 pl G
  have hcs : 3 ≤ (headSpec w_Trust_validate ({ frames := 12, cells := 3, slots := 47, locals := 363 })).room.cells ∧ 47 ≤ (headSpec w_Trust_validate ({ frames := 12, cells := 3, slots := 47, locals := 363 })).room.slots := ⟨Nat.le_refl _, Nat.le_refl _⟩
  have hP : va_P (dC, dI) classes G s.heap := hP
  have hC0 := hC
  obtain ⟨⟨kho, kce, kli, ksh, krs, kse, kch, kfo⟩, h1, hce9, hli9, hqp, hN14, hN16⟩ := hC
  obtain ⟨hTy, hL, kq0, kpl, h16⟩ := hW0
  dsimp only at hTy hL kq0 kpl h16
  have hl := lv_entry ([.ref q0, .int i, .long tm, .int j, .int kn]) (n := 10) (Nat.le_of_ble_eq_true rfl)
  rw [lg_entry_eq]
  generalize (lg_sl ([.ref q0, .int i, .long tm, .int j, .int kn]) ++ List.replicate (10 - (lg_sl ([.ref q0, .int i, .long tm, .int j, .int kn])).length) Slot.unset).toArray = ls at hl ⊢
  have hl : lv_has ls 10 [(0, .ref q0), (1, .int i), (2, .long tm), (4, .int j), (5, .int kn)] := hl
  have hfl := fC_le o
  have hNL : ∀ a, (κ a).1 = 6 → ∀ b, b ∈ Ad → (κ b).1 = 14 ∨ (κ b).1 = 16 → (κ b).2.2 ≠ a := fun a ha b hb hk e => by
    rcases hk with hk | hk
    · rw [← e, (hN14 b hb hk).1, kce.2] at ha
      exact absurd ha (by decide : ¬ (15 : Nat) = 6)
    · rw [← e, (hN16 b hb hk).1, kli.2] at ha
      exact absurd ha (by decide : ¬ (17 : Nat) = 6)
  refine lv_iload hx hb d_Trust_validate_0 (lv_at hl 3 rfl) ?_
  refine lv_iconst (v := 1) hx hb d_Trust_validate_2 (by decide) ?_
  refine lv_icmp_lt (tgt := 13) hx hb d_Trust_validate_3 (by decide) (fun c3 => ?_) (fun c3 => ?_)
  · have p3 : j < (1 : Int32) := c3
    obtain ⟨sa, hsa⟩ := hTh.2.2.1 (201, "depth is not 1..16") (by decide)
    exact vx_throwS (own := "TrustChain") (cls := "java/lang/IllegalArgumentException") (text := "depth is not 1..16") (names := xUp) (ik := 110) (is := 201) (ic := 114) (sa := sa) (A := A) hx hb hl0 hown (by decide) (by decide) (htb _ q4_233) (htb _ q1_27) hsa (x_hat x_ot114 x_gd114 x_nw114 htb hN) x_ot114 (hTh.1.narrow hAs) (hTh.2.1.narrow hAs) hS (hl.1.trans hml.symm) d_Trust_validate_13 d_Trust_validate_16 d_Trust_validate_17 d_Trust_validate_19 d_Trust_validate_22 (fun x h => (hnoh x h).elim) (Nat.le_of_ble_eq_true rfl) (Nat.le_of_ble_eq_true rfl) (Nat.le_of_ble_eq_true rfl) (Nat.le_of_ble_eq_true rfl) hlocks (x_end (G, L, o, as, foS, chS, faP, feS, wrP) ⟨⟨hTy, hL, kq0, kpl, h16⟩, hFR, rfl, Or.inl ⟨rfl, Or.inl p3⟩⟩ hP hK hD hS) hS.2.2 (Nat.le_of_ble_eq_true rfl) (Nat.le_of_ble_eq_true rfl)
  · have p3 : ¬ (j < (1 : Int32)) := c3
    refine lv_iload hx hb d_Trust_validate_6 (lv_at hl 3 rfl) ?_
    refine lv_bipush (v := 16) hx hb d_Trust_validate_8 (by decide) ?_
    refine lv_icmp_le (tgt := 23) hx hb d_Trust_validate_10 (by decide) (fun c10 => ?_) (fun c10 => ?_)
    · have p10 : j ≤ (16 : Int32) := c10
      refine lv_aload_n hx hb d_Trust_validate_23 rfl (lv_at hl 0 rfl) ?_
      refine lv_iload_n hx hb d_Trust_validate_24 rfl (lv_at hl 1 rfl) ?_
      obtain ⟨i_1, hg_1⟩ := List.getElem?_of_mem kq0.2
      obtain ⟨i_2, q_2, m_2, hK_2, he_2, hg_2⟩ := ty_15 hTy kce
      refine vp_callSi (pu_callV (As := [.int i]) (rest := []) ⟨hx, hb, hml, hown, hts⟩ tbin (c_Trust_isStored l dC dI sb q0 fe ho ce li sh rs se ch fo foS chS faP feS wrP q_2 (ω ce).length m_2 i) q5_137 q5_139 qp_18 q1_1 q5_140 (n := 1) (by decide +kernel) rfl ⟨rfl, rfl⟩ ⟨Nat.le_of_ble_eq_true rfl, Nat.le_of_ble_eq_true rfl⟩ ⟨(by omega), (by omega)⟩ hN (hT0.keep hS hAs) hK hP [i_1, i_2] (by simp only [List.filterMap_cons, List.filterMap_nil, hg_1, hg_2]) [] rfl i_1 10 hg_1 rfl rfl hl.1 rfl (Nat.le_of_ble_eq_true rfl) d_Trust_validate_25) (fun r25 hr25 => ?_)
      obtain rfl := Eq.symm (bz_zP hr25)
      refine lv_if_ne (tgt := 41) hx hb d_Trust_validate_28 (by decide) (fun c28 => ?_) (fun c28 => ?_)
      · have p28 : ¬ i < 0 ∧ i < nI (ω ce).length := (zP_1 c28)
        obtain ⟨k, hk, ek⟩ := nI_at9 p28.1 p28.2 (by omega)
        subst ek
        obtain ⟨D, eD, hdp1, hdp2⟩ := nI_dp p3 p10
        subst eD
        have hTb := hTy
        obtain ⟨nx, hnx⟩ : ∃ z, z = (ω se).getD 0 0 := ⟨_, rfl⟩
        have knx := sx_nk hTy kse hnx
        have hVK : VK κ se ch nx fo := ⟨by rw [kse.2], by rw [kch.2], knx.2, kfo.2⟩
        have hfn : fo ≠ nx := by rw [hnx]; exact hfn
        have hsc : se ≠ ch := q_nek kse kch (by simp)
        have h8k : ∀ k9, k9 < (ω ce).length → ∃ p q, tK κ Ad ((ω ce).getD k9 0) (8, p, q) := fun k9 h9 => ce9_en hTb kce h9
        have h9k : ∀ k9, k9 < (ω li).length → ∃ p, tK κ Ad ((ω li).getD k9 0) (9, p, 0) := fun k9 h9 => li9_en hTb kli h9
        refine lv_aload_n hx hb d_Trust_validate_41 rfl (lv_at hl 0 rfl) ?_
        refine lv_iconst (v := 0) hx hb d_Trust_validate_42 (by decide) ?_
        refine va_put (v := .int 0) (ty := .int) hx hb htb i_Trust t_Trust t_Trust_ok n_Trust hown hK hP hD hS i_1 hg_1 rfl 9 (by decide) (htb _ q1_165) (fun _ h9 => h9) rfl (by decide +kernel) rfl rfl (Nat.le_of_ble_eq_true rfl) d_Trust_validate_43 (fun H43 locs hP hD2 hS => ?_)
        have hP : va_P (dC, dI) classes (G.set i_1 (q0, .inr (10, [.ref fe, .ref ho, .ref ce, .ref li, .ref sh, .ref rs, .ref se, .ref ch, .ref fo, .int 0, .int chS, .int faP, .int feS, .int wrP]))) H43 := hP
        have hD3 : va_D A (G.set i_1 (q0, .inr (10, [.ref fe, .ref ho, .ref ce, .ref li, .ref sh, .ref rs, .ref se, .ref ch, .ref fo, .int 0, .int chS, .int faP, .int feS, .int wrP]))) := hD2
        have hTy := TY.setX (c' := .inr (10, [.ref fe, .ref ho, .ref ce, .ref li, .ref sh, .ref rs, .ref se, .ref ch, .ref fo, .int 0, .int chS, .int faP, .int feS, .int wrP])) hTy hg_1 kq0.1
        have kpl := PLx.setX (c' := .inr (10, [.ref fe, .ref ho, .ref ce, .ref li, .ref sh, .ref rs, .ref se, .ref ch, .ref fo, .int 0, .int chS, .int faP, .int feS, .int wrP])) kpl hg_1 (by decide)
        have hFR := hFR.tr (FX.set (Ad := Ad) (c' := .inr (10, [.ref fe, .ref ho, .ref ce, .ref li, .ref sh, .ref rs, .ref se, .ref ch, .ref fo, .int 0, .int chS, .int faP, .int feS, .int wrP])) hg_1).q
        have hg_1 := set_here (c' := .inr (10, [.ref fe, .ref ho, .ref ce, .ref li, .ref sh, .ref rs, .ref se, .ref ch, .ref fo, .int 0, .int chS, .int faP, .int feS, .int wrP])) hg_1
        have kq0 : Xc Ad q0 (.inr (10, [.ref fe, .ref ho, .ref ce, .ref li, .ref sh, .ref rs, .ref se, .ref ch, .ref fo, .int 0, .int chS, .int faP, .int feS, .int wrP])) (G.set i_1 (q0, .inr (10, [.ref fe, .ref ho, .ref ce, .ref li, .ref sh, .ref rs, .ref se, .ref ch, .ref fo, .int 0, .int chS, .int faP, .int feS, .int wrP]))) := ⟨kq0.1, List.mem_of_getElem? hg_1⟩
        have hD := hD3
        clear hD3 hD2
        generalize G.set i_1 (q0, .inr (10, [.ref fe, .ref ho, .ref ce, .ref li, .ref sh, .ref rs, .ref se, .ref ch, .ref fo, .int 0, .int chS, .int faP, .int feS, .int wrP])) = G_3 at hP hD hTy hFR kpl kq0 hg_1
        refine lv_aload_n hx hb d_Trust_validate_46 rfl (lv_at hl 0 rfl) ?_
        refine lv_iconst (v := -1) hx hb d_Trust_validate_47 (by decide) ?_
        refine va_put (v := .int (-1)) (ty := .int) hx hb htb i_Trust t_Trust t_Trust_ok n_Trust hown hK hP hD hS i_1 hg_1 rfl 11 (by decide) (htb _ q1_167) (fun _ h9 => h9) rfl (by decide +kernel) rfl rfl (Nat.le_of_ble_eq_true rfl) d_Trust_validate_48 (fun H48 locs hP hD2 hS => ?_)
        have hP : va_P (dC, dI) classes (G_3.set i_1 (q0, .inr (10, [.ref fe, .ref ho, .ref ce, .ref li, .ref sh, .ref rs, .ref se, .ref ch, .ref fo, .int 0, .int chS, .int (-1), .int feS, .int wrP]))) H48 := hP
        have hD3 : va_D A (G_3.set i_1 (q0, .inr (10, [.ref fe, .ref ho, .ref ce, .ref li, .ref sh, .ref rs, .ref se, .ref ch, .ref fo, .int 0, .int chS, .int (-1), .int feS, .int wrP]))) := hD2
        have hTy := TY.setX (c' := .inr (10, [.ref fe, .ref ho, .ref ce, .ref li, .ref sh, .ref rs, .ref se, .ref ch, .ref fo, .int 0, .int chS, .int (-1), .int feS, .int wrP])) hTy hg_1 kq0.1
        have kpl := PLx.setX (c' := .inr (10, [.ref fe, .ref ho, .ref ce, .ref li, .ref sh, .ref rs, .ref se, .ref ch, .ref fo, .int 0, .int chS, .int (-1), .int feS, .int wrP])) kpl hg_1 (by decide)
        have hFR := hFR.tr (FX.set (Ad := Ad) (c' := .inr (10, [.ref fe, .ref ho, .ref ce, .ref li, .ref sh, .ref rs, .ref se, .ref ch, .ref fo, .int 0, .int chS, .int (-1), .int feS, .int wrP])) hg_1).q
        have hg_1 := set_here (c' := .inr (10, [.ref fe, .ref ho, .ref ce, .ref li, .ref sh, .ref rs, .ref se, .ref ch, .ref fo, .int 0, .int chS, .int (-1), .int feS, .int wrP])) hg_1
        have kq0 : Xc Ad q0 (.inr (10, [.ref fe, .ref ho, .ref ce, .ref li, .ref sh, .ref rs, .ref se, .ref ch, .ref fo, .int 0, .int chS, .int (-1), .int feS, .int wrP])) (G_3.set i_1 (q0, .inr (10, [.ref fe, .ref ho, .ref ce, .ref li, .ref sh, .ref rs, .ref se, .ref ch, .ref fo, .int 0, .int chS, .int (-1), .int feS, .int wrP]))) := ⟨kq0.1, List.mem_of_getElem? hg_1⟩
        have hD := hD3
        clear hD3 hD2
        generalize G_3.set i_1 (q0, .inr (10, [.ref fe, .ref ho, .ref ce, .ref li, .ref sh, .ref rs, .ref se, .ref ch, .ref fo, .int 0, .int chS, .int (-1), .int feS, .int wrP])) = G_4 at hP hD hTy hFR kpl kq0 hg_1
        refine lv_aload_n hx hb d_Trust_validate_51 rfl (lv_at hl 0 rfl) ?_
        refine lv_iconst (v := 0) hx hb d_Trust_validate_52 (by decide) ?_
        refine va_put (v := .int 0) (ty := .int) hx hb htb i_Trust t_Trust t_Trust_ok n_Trust hown hK hP hD hS i_1 hg_1 rfl 10 (by decide) (htb _ q1_166) (fun _ h9 => h9) rfl (by decide +kernel) rfl rfl (Nat.le_of_ble_eq_true rfl) d_Trust_validate_53 (fun H53 locs hP hD2 hS => ?_)
        have hP : va_P (dC, dI) classes (G_4.set i_1 (q0, .inr (10, [.ref fe, .ref ho, .ref ce, .ref li, .ref sh, .ref rs, .ref se, .ref ch, .ref fo, .int 0, .int 0, .int (-1), .int feS, .int wrP]))) H53 := hP
        have hD3 : va_D A (G_4.set i_1 (q0, .inr (10, [.ref fe, .ref ho, .ref ce, .ref li, .ref sh, .ref rs, .ref se, .ref ch, .ref fo, .int 0, .int 0, .int (-1), .int feS, .int wrP]))) := hD2
        have hTy := TY.setX (c' := .inr (10, [.ref fe, .ref ho, .ref ce, .ref li, .ref sh, .ref rs, .ref se, .ref ch, .ref fo, .int 0, .int 0, .int (-1), .int feS, .int wrP])) hTy hg_1 kq0.1
        have kpl := PLx.setX (c' := .inr (10, [.ref fe, .ref ho, .ref ce, .ref li, .ref sh, .ref rs, .ref se, .ref ch, .ref fo, .int 0, .int 0, .int (-1), .int feS, .int wrP])) kpl hg_1 (by decide)
        have hFR := hFR.tr (FX.set (Ad := Ad) (c' := .inr (10, [.ref fe, .ref ho, .ref ce, .ref li, .ref sh, .ref rs, .ref se, .ref ch, .ref fo, .int 0, .int 0, .int (-1), .int feS, .int wrP])) hg_1).q
        have hg_1 := set_here (c' := .inr (10, [.ref fe, .ref ho, .ref ce, .ref li, .ref sh, .ref rs, .ref se, .ref ch, .ref fo, .int 0, .int 0, .int (-1), .int feS, .int wrP])) hg_1
        have kq0 : Xc Ad q0 (.inr (10, [.ref fe, .ref ho, .ref ce, .ref li, .ref sh, .ref rs, .ref se, .ref ch, .ref fo, .int 0, .int 0, .int (-1), .int feS, .int wrP])) (G_4.set i_1 (q0, .inr (10, [.ref fe, .ref ho, .ref ce, .ref li, .ref sh, .ref rs, .ref se, .ref ch, .ref fo, .int 0, .int 0, .int (-1), .int feS, .int wrP]))) := ⟨kq0.1, List.mem_of_getElem? hg_1⟩
        have hD := hD3
        clear hD3 hD2
        generalize G_4.set i_1 (q0, .inr (10, [.ref fe, .ref ho, .ref ce, .ref li, .ref sh, .ref rs, .ref se, .ref ch, .ref fo, .int 0, .int 0, .int (-1), .int feS, .int wrP])) = G_5 at hP hD hTy hFR kpl kq0 hg_1
        refine lv_aload_n hx hb d_Trust_validate_56 rfl (lv_at hl 0 rfl) ?_
        refine va_get (v := .ref ch) hx hb htb i_Trust hown hK hP i_1 hg_1 rfl 7 (by decide) (htb _ q1_163) (fun _ h9 => h9) rfl d_Trust_validate_57 ?_
        refine lv_lload_n hx hb d_Trust_validate_60 rfl (lv_at hl 2 rfl) ?_
        refine lv_iload hx hb d_Trust_validate_61 (lv_at hl 4 rfl) ?_
        have hFc := va_free (wc := G_5) hD hS hA (List.range G_5.length) (rg_is _)
        obtain ⟨i_7, hg_7⟩ := ty_12 hTy kch
        refine va_callv (mu_runV (As := [.long tm, .int kn]) (rest := []) ⟨hx, hb, hml, hown, hts⟩ tbin (m_PathCheck_begin l dC dI sb γ κ Ad ν ω L G_5 ch tm kn H53.size hTy kch hL hkn) q5_239 q6_0 q6_1 q1_8 q6_2 (n := 2) (by decide +kernel) rfl ⟨rfl, rfl⟩ ⟨Nat.le_of_ble_eq_true rfl, Nat.le_of_ble_eq_true rfl⟩ ⟨(by omega), (by omega)⟩ hN (hT0.keep hS hAs) hAs (Nat.le_trans hB0 hS.1) hK hP hD (List.range G_5.length) (rg_nd _) (rg_is _) [0, 1, 2, 3] rfl i_7 9 hg_7 rfl rfl hl.1 rfl (Nat.le_of_ble_eq_true rfl) d_Trust_validate_63) hS (fun q _ h => hFc q h) hFc (fun G_6 tS H63 locs ht hvm hw63 hB hz1 hk1 hS => ?_)
        obtain ⟨ν63, hν63, eν63, ⟨L63, hL63, hTy⟩, hF9, -⟩ := hw63
        have kpl := kpl.fr hF9
        have kq0 := kq0.fr hF9
        have hFR := hFR.tr hF9.q
        obtain ⟨hP1, hK1, hD1⟩ := hB
        rw [ht] at hP1
        have hP : va_P (dC, dI) classes G_6 H63 := hP1
        have hD : va_D A G_6 := hD1.weaken (fun _ _ _ h => hFc _ h)
        refine lv_bipush (v := 10) hx hb d_Trust_validate_66 (by decide) ?_
        refine lv_istore (lv' := [(6, .int 10), (0, .ref q0), (1, .int (nI k)), (2, .long tm), (4, .int (nI D)), (5, .int kn)]) hx hb d_Trust_validate_68 hl (by decide) rfl (fun ls hl => ?_)
        refine lv_aload_n hx hb d_Trust_validate_70 rfl (lv_at hl 1 rfl) ?_
        obtain ⟨i_8, hg_8⟩ := List.getElem?_of_mem kq0.2
        refine va_get (v := .ref se) hx hb htb i_Trust hown hK hP i_8 hg_8 rfl 6 (by decide) (htb _ q1_162) (fun _ h9 => h9) rfl d_Trust_validate_71 ?_
        refine lv_aload_n hx hb d_Trust_validate_74 rfl (lv_at hl 1 rfl) ?_
        refine va_get (v := .ref ce) hx hb htb i_Trust hown hK hP i_8 hg_8 rfl 2 (by decide) (htb _ q1_158) (fun _ h9 => h9) rfl d_Trust_validate_75 ?_
        refine lv_aload_n hx hb d_Trust_validate_78 rfl (lv_at hl 1 rfl) ?_
        refine va_get (v := .ref ce) hx hb htb i_Trust hown hK hP i_8 hg_8 rfl 2 (by decide) (htb _ q1_158) (fun _ h9 => h9) rfl d_Trust_validate_79 ?_
        refine lv_iload_n hx hb d_Trust_validate_82 rfl (lv_at hl 2 rfl) ?_
        obtain ⟨i_9, q_9, m_9, hK_9, he_9, hg_9⟩ := ty_15 hTy kce
        obtain ⟨cap_10, kq_10⟩ := he_9 (by omega)
        obtain ⟨i_11, f_11, hK_11, hc_11, he_11, hg_11⟩ := ty_14 hTy kq_10
        obtain ⟨hf_10, p_10, q_10, ks_10⟩ := he_11 k (by omega)
        refine va_csr (pu_callV (As := [.int (nI k)]) (rest := [.ref ce, .ref se]) ⟨hx, hb, hml, hown, hts⟩ tbin (c_AL_get l dC dI sb ce q_9 ((ω ce).length) cap_10 k ((ω ce).getD k 0) m_9 γ.2.2.2 f_11 (by omega) hK_11 (by omega) hf_10) q5_39 q4_210 q4_211 q1_4 q4_212 (n := 1) (by decide +kernel) rfl ⟨rfl, rfl⟩ ⟨Nat.le_of_ble_eq_true rfl, Nat.le_of_ble_eq_true rfl⟩ ⟨(by omega), (by omega)⟩ hN (hT0.keep hS hAs) hK hP [i_9, i_11] (by simp only [List.filterMap_cons, List.filterMap_nil, hg_9, hg_11]) [3] rfl i_9 11 hg_9 rfl rfl hl.1 rfl (Nat.le_of_ble_eq_true rfl) d_Trust_validate_83) (fun r83 hr83 => ?_)
        obtain rfl := Eq.symm hr83
        obtain ⟨i_12, bo_12, K_12, B_12, kbo_12, wl_12, hg_12⟩ := ty_8x hTy ks_10
        obtain ⟨⟨A_12, knm_12⟩, kpe_12, kec_12, kse_12, ksu_12, kmo_12, kok_12, kik_12, kha_12, ksi_12, ken_12, ksg_12, kis_12⟩ := K_12
        have knm_12 := tK.fiv ⟨_, _, knm_12⟩
        have kpe_12 := tK.fiv kpe_12
        have kec_12 := tK.fiv kec_12
        have ksu_12 := tK.two ksu_12
        have kmo_12 := tK.two kmo_12
        have kok_12 := tK.two kok_12
        have kik_12 := tK.two kik_12
        have ksg_12 := tK.two ksg_12
        have kis_12 := tK.two kis_12
        rw [show ν63 ((ω ce).getD k 0) = ν ((ω ce).getD k 0) from hν63 _ (q_nek ks_10 kch (by simp))] at hg_12 B_12
        refine va_castY (C := "TrustChain$Certificate") hx hb hown (htb _ q5_40) (hN.1 _ qn9_223) (va_recv (ci := 3) hK hP rfl hg_12) d_Trust_validate_86 ?_
        refine lv_iload hx hb d_Trust_validate_89 (lv_at hl 4 rfl) ?_
        refine W.size (fun hzq91 hyq91 => ?_)
        have hFc := va_free (wc := G_6) hD hS hA (List.range G_6.length) (rg_is _)
        obtain ⟨i_14, nx_14, ⟨knx_14, enx_14⟩, hg_14⟩ := ty_13 hTy kse
        refine va_calli (mz_runV (As := [.ref ce, .ref ((ω ce).getD k 0), .int (nI D)]) (rest := []) ⟨hx, hb, hml, hown, hts⟩ tbin (m_Search_begin l dC dI sb γ κ Ad ν63 ω L63 G_6 se ce ((ω ce).getD k 0) pl nx _ _ ν ω (vFO κ ν ω ce) (vTR ν ω ce) D k o as H63.size (slN H63) hTy kse kce ks_10 kpl hnx hNL hce9 (fun _ _ => Iff.rfl) hnb hbi (fun b9 h9 => hν63 b9 (fun e9 => by rw [e9, kch.2] at h9; exact absurd h9 (by decide : ¬ (12 : Nat) = 8))) (fun _ _ => rfl) hdp1 hdp2 hk rfl) q6_3 q6_4 q6_5 q1_7 q6_6 (n := 3) (by decide +kernel) rfl ⟨rfl, rfl⟩ ⟨Nat.le_of_ble_eq_true rfl, Nat.le_of_ble_eq_true rfl⟩ ⟨(by omega), (by omega)⟩ hN (hT0.keep hS hAs) hAs (Nat.le_trans hB0 hS.1) hK hP hD (List.range G_6.length) (rg_nd _) (rg_is _) [0, 1, 2, 3] rfl i_14 8 hg_14 rfl rfl hl.1 rfl (Nat.le_of_ble_eq_true rfl) d_Trust_validate_91) hS (fun q _ h => hFc q h) hFc (fun r91 u91 tS H91 locs ht hvm hw91 hB hz1 hk1 hS => ?_)
        obtain ⟨G_13, o91, as91⟩ := u91
        obtain ⟨ν91, ω91, hν91, -, hω91, -, hTy, kpl, hF9, σ91, p91, op91, eh91, hS91, hres91, hfo91, hgo91⟩ := hw91
        dsimp only at hTy kpl hF9 hS91 hfo91 hgo91
        have kq0 := kq0.frs hF9 hqp (fun _ _ h => by cases h)
        have hFR := hFR.tr hF9.q
        obtain ⟨⟨hP1, hK1, hD1⟩, hzB91, hyB91⟩ := hB
        rw [ht] at hP1
        rw [ht] at hzB91 hyB91
        dsimp only at hzB91 hyB91
        have hP : va_P (dC, dI) classes G_13 H91 := hP1
        have hD : va_D A G_13 := hD1.weaken (fun _ _ _ h => hFc _ h)
        have h16 : as91.length ≤ 16 := by have a1 := hS91.len; have a2 := hS91.ld; have a3 := hS91.d1; omega
        refine W.narrow (k := fC o - fC o91) (n := fS o - fS o91) (by omega) (by omega) ?_
        refine lv_istore (lv' := [(7, .int r91), (6, .int 10), (0, .ref q0), (1, .int (nI k)), (2, .long tm), (4, .int (nI D)), (5, .int kn)]) hx hb d_Trust_validate_94 hl (by decide) rfl (fun ls hl => ?_)
        refine lv_iconst (v := 0) hx hb d_Trust_validate_96 (by decide) ?_
        refine lv_istore (lv' := [(8, .int 0), (7, .int r91), (6, .int 10), (0, .ref q0), (1, .int (nI k)), (2, .long tm), (4, .int (nI D)), (5, .int kn)]) hx hb d_Trust_validate_97 hl (by decide) rfl (fun ls hl => ?_)
        have hV0 : VI κ ν ν91 ω ω91 ce li se ch fo tm kn k D 0 10 r91 0 (-1) as91 := by
          rw [VI, ← hnx]
          refine ⟨⟨fun b h1 h2 => (hν91 b h1).trans (hν63 b h2), fun b h1 _ => hω91 b h1⟩, ⟨by rw [hν91 ch (Ne.symm hsc), eν63]; rfl, by rw [hν91 ch (Ne.symm hsc), eν63]; rfl⟩, [], ⟨rfl, Nat.zero_le _, fun j hj => absurd hj (Nat.not_lt_zero j)⟩, ?_⟩
          rcases hres91 with ⟨q1, q2, -, q3, q4⟩ | ⟨q1, -, q4⟩
          · exact Or.inl ⟨q1, σ91, p91, by omega, q3, ⟨by rw [eh91]; rfl, by rw [eh91]; rfl⟩, by rw [eh91]; exact hS91, q4 _ _⟩
          · exact Or.inr ⟨q1, false, p91, q4 _ _⟩
        refine w_loopC (α := Nat × Int32 × Int32 × va_W × Nat × alD × List Nat × Int32 × Int32 × Int32) (fun a9 => a9.1 ≤ 1000 ∧ (∃ (ν1 : Nat → cN) (ω1 : Nat → List Nat), VI κ ν ν1 ω ω1 ce li se ch fo tm kn k D a9.1 a9.2.1 a9.2.2.1 a9.2.2.2.2.2.2.2.1 a9.2.2.2.2.2.2.2.2.2 a9.2.2.2.2.2.2.1 ∧ CWx γ sb κ Ad ν1 ω1 fe ho ce li sh rs se ch fo q0 pl (a9.2.2.2.1, a9.2.2.2.2.1, a9.2.2.2.2.2.1, a9.2.2.2.2.2.2.1, a9.2.2.2.2.2.2.2.1, a9.2.2.2.2.2.2.2.2.1, a9.2.2.2.2.2.2.2.2.2, feS, wrP)) ∧ a9.2.2.2.2.2.2.2.2.1 = nI a9.1 ∧ FRq γ Ad q0 pl G a9.2.2.2.1 ∧ fC a9.2.2.2.2.2.1 ≤ fC o ∧ fS a9.2.2.2.2.2.1 ≤ fS o) (fun a9 => 1000 - a9.1) (fun a9 => [(0, .ref q0), (1, .int (nI k)), (2, .long tm), (4, .int (nI D)), (5, .int kn), (6, .int a9.2.1), (7, .int a9.2.2.1), (8, .int (nI a9.1))]) (fun _ => []) (fun a9 => a9.2.2.2.1) (fun a9 => fC o - fC a9.2.2.2.2.2.1) (fun a9 => fS o - fS a9.2.2.2.2.2.1) 10 99 (fun a9 HL99 locs ls hJ hP hD hS hl ih99 => ?_) (0, (10 : Int32), r91, G_13, L63, o91, as91, 0, 0, -1) _ _ ls ⟨Nat.zero_le _, ⟨ν91, ω91, hV0, ⟨hTy, hL63, kq0, kpl, h16⟩⟩, rfl, hFR, by dsimp only; omega, by dsimp only; omega⟩ hP hD hS (lv_sub hl [3, 4, 5, 6, 7, 2, 1, 0] rfl)
        obtain ⟨z99, v99, m99, G99, L99, o99, as99, foS99, chS99, faP99⟩ := a9
        obtain ⟨hz99, ⟨ν99, ω99, hV99, ⟨hTy, hL99, kq0, kpl, h16⟩⟩, hch99, hFR, hfo, hgo⟩ := hJ
        dsimp only at hz99 hV99 hTy hL99 kq0 kpl h16 hch99 hFR hfo hgo hP hD hl ih99 ⊢
        subst hch99
        rw [VI, ← hnx] at hV99
        obtain ⟨hVE, hkt, w99, hw99, hc99⟩ := hV99
        refine lv_iload hx hb d_Trust_validate_99 (lv_at hl 7 rfl) ?_
        refine lv_sipush (v := 1000) hx hb d_Trust_validate_101 (by decide) ?_
        refine lv_icmp_ge (tgt := 207) hx hb d_Trust_validate_104 (by decide) (fun c104 => ?_) (fun c104 => ?_)
        · have p104 : 1000 ≤ z99 := ((nI_leI (a := 1000) (b := z99) (by omega) (by omega)).mp c104)
          refine lv_iload hx hb d_Trust_validate_207 (lv_at hl 5 rfl) ?_
          have hfin : ∃ (b9 : Bool) (p9 : Nat), vGR κ ν ω ce li tm kn k D = (b9, (p9, z99, w99, v99, faP99)) := by
            rcases hc99 with ⟨q1, σ9, p9, q2, -, -, q3, -⟩ | ⟨-, b9, p9, q⟩
            · first | exact absurd (q1.symm.trans p109) (by decide) | (have q4 := q3.p1; omega)
            · exact ⟨b9, p9, q⟩
          obtain ⟨b9, p9, hfin⟩ := hfin
          have hV : vVQ κ ν ω ce li tm kn k D = (p9, z99, w99, v99, faP99) := by unfold vVQ; rw [hfin]
          exact vx_ret (x_wide 3 47 (by omega) (by omega) (W.iret (v := v99) hx hb hr (fun t ht hW => ⟨⟨_, (G99, L99, o99, as99, foS99, nI z99, faP99, feS, wrP), rfl, ⟨ν99, ω99, k, D, by rw [← hnx]; exact hVE, ⟨hTy, hL99, kq0, kpl, h16⟩, hFR, ⟨rfl, hk, rfl, hdp1, hdp2⟩, by rw [hV]; show (foS99, nI z99, faP99, feS, wrP) = (nI w99.length, nI z99, faP99, feS, wrP); rw [hw99.1], by rw [hV]; exact hw99.2, by rw [hV]⟩, ⟨by rw [ht]; exact hP, va_K.moved hW.alike hK, hD⟩⟩, hS.F ht⟩) hS.2.2 d_Trust_validate_209))
        · have p104 : ¬ (1000 ≤ z99) := (fun q9 => c104 ((nI_leI (a := 1000) (b := z99) (by omega) (by omega)).mpr q9))
          refine lv_iload hx hb d_Trust_validate_107 (lv_at hl 6 rfl) ?_
          refine lv_if_eq (tgt := 207) hx hb d_Trust_validate_109 (by decide) (fun c109 => ?_) (fun c109 => ?_)
          · have p109 : m99 = (0 : Int32) := c109
            refine lv_iload hx hb d_Trust_validate_207 (lv_at hl 5 rfl) ?_
            have hfin : ∃ (b9 : Bool) (p9 : Nat), vGR κ ν ω ce li tm kn k D = (b9, (p9, z99, w99, v99, faP99)) := by
              rcases hc99 with ⟨q1, σ9, p9, q2, -, -, q3, -⟩ | ⟨-, b9, p9, q⟩
              · first | exact absurd (q1.symm.trans p109) (by decide) | (have q4 := q3.p1; omega)
              · exact ⟨b9, p9, q⟩
            obtain ⟨b9, p9, hfin⟩ := hfin
            have hV : vVQ κ ν ω ce li tm kn k D = (p9, z99, w99, v99, faP99) := by unfold vVQ; rw [hfin]
            exact vx_ret (x_wide 3 47 (by omega) (by omega) (W.iret (v := v99) hx hb hr (fun t ht hW => ⟨⟨_, (G99, L99, o99, as99, foS99, nI z99, faP99, feS, wrP), rfl, ⟨ν99, ω99, k, D, by rw [← hnx]; exact hVE, ⟨hTy, hL99, kq0, kpl, h16⟩, hFR, ⟨rfl, hk, rfl, hdp1, hdp2⟩, by rw [hV]; show (foS99, nI z99, faP99, feS, wrP) = (nI w99.length, nI z99, faP99, feS, wrP); rw [hw99.1], by rw [hV]; exact hw99.2, by rw [hV]⟩, ⟨by rw [ht]; exact hP, va_K.moved hW.alike hK, hD⟩⟩, hS.F ht⟩) hS.2.2 d_Trust_validate_209))
          · have p109 : ¬ (m99 = (0 : Int32)) := c109
            obtain ⟨-, σ9, p9, hnp9, hex9, hdp9, hS9, hg9⟩ := hc99.resolve_right (fun q9 => p109 q9.1)
            have hp19 := hS9.p1
            have hl9 := hS9.len
            have hne9 : 1 ≤ as99.length := by obtain ⟨k8, τ8, e8⟩ := hex9; rw [hl9, e8]; exact Nat.succ_le_succ (Nat.zero_le _)
            have hfl9 := VE_fl (ce := ce) (li := li) (v := σ9.map Prod.fst) (as := as99) hVE hVK hTb (by rw [kli.2]; exact (by decide : (17 : Nat) ≠ 6)) h9k h8k (fun x9 h9 => by obtain ⟨y9, h8, e8⟩ := List.mem_map.mp h9; rw [← e8]; exact (hS9.r y9 h8).1) (by (rw [hS9.e, List.map_map]) <;> rfl) hkt.2 hkt.1
            refine lv_aload_n hx hb d_Trust_validate_112 rfl (lv_at hl 0 rfl) ?_
            obtain ⟨i_15, hg_15⟩ := List.getElem?_of_mem kq0.2
            refine va_get (v := .ref ch) hx hb htb i_Trust hown hK hP i_15 hg_15 rfl 7 (by decide) (htb _ q1_163) (fun _ h9 => h9) rfl d_Trust_validate_113 ?_
            refine lv_aload_n hx hb d_Trust_validate_116 rfl (lv_at hl 0 rfl) ?_
            refine va_get (v := .ref se) hx hb htb i_Trust hown hK hP i_15 hg_15 rfl 6 (by decide) (htb _ q1_162) (fun _ h9 => h9) rfl d_Trust_validate_117 ?_
            obtain ⟨i_16, nx_16, ⟨knx_16, enx_16⟩, hg_16⟩ := ty_13 hTy kse
            refine va_get (v := .ref pl) hx hb htb i_Search hown hK hP i_16 hg_16 rfl 0 (by decide) (htb _ q1_120) (fun _ h9 => h9) rfl d_Trust_validate_120 ?_
            refine lv_aload_n hx hb d_Trust_validate_123 rfl (lv_at hl 0 rfl) ?_
            refine va_get (v := .ref li) hx hb htb i_Trust hown hK hP i_15 hg_15 rfl 3 (by decide) (htb _ q1_159) (fun _ h9 => h9) rfl d_Trust_validate_124 ?_
            refine lv_aload_n hx hb d_Trust_validate_127 rfl (lv_at hl 0 rfl) ?_
            refine va_get (v := .ref rs) hx hb htb i_Trust hown hK hP i_15 hg_15 rfl 5 (by decide) (htb _ q1_161) (fun _ h9 => h9) rfl d_Trust_validate_128 ?_
            have hFc := va_free (wc := G99) hD hS hA (List.range G99.length) (rg_is _)
            obtain ⟨i_18, hg_18⟩ := ty_12 hTy kch
            refine va_calli (mu_runV (As := [.ref pl, .ref li, .ref rs]) (rest := []) ⟨hx, hb, hml, hown, hts⟩ tbin (m_PathCheck_faultOf l dC dI sb γ κ Ad ν99 ω99 L99 G99 ch pl li rs o99 as99 HL99.size hTy kch kpl kli krs hL99 h1 (hVE.xc hVK hTb hX) (hVE.yc hVK hTb hY) (by rw [hkt.1]; exact b01_z hkn) hne9 (by omega)) q6_42 q6_43 q6_44 q1_8 q6_45 (n := 3) (by decide +kernel) rfl ⟨rfl, rfl⟩ ⟨Nat.le_of_ble_eq_true rfl, Nat.le_of_ble_eq_true rfl⟩ ⟨(by omega), (by omega)⟩ hN (hT0.keep hS hAs) hAs (Nat.le_trans hB0 hS.1) hK hP hD (List.range G99.length) (rg_nd _) (rg_is _) [0, 1, 2, 3] rfl i_18 9 hg_18 rfl rfl hl.1 rfl (Nat.le_of_ble_eq_true rfl) d_Trust_validate_131) hS (fun q _ h => hFc q h) hFc (fun r131 G_17 tS H131 locs ht hvm hw131 hB hz1 hk1 hS => ?_)
            obtain ⟨ν131, hν131, eν131, ⟨L131, hL131, hTy⟩, hF9, hr131⟩ := hw131
            obtain ⟨ik131, eν131⟩ := eν131
            have kpl := kpl.fr hF9
            have kq0 := kq0.fr hF9
            have hFR := hFR.tr hF9.q
            obtain ⟨hP1, hK1, hD1⟩ := hB
            rw [ht] at hP1
            have hP : va_P (dC, dI) classes G_17 H131 := hP1
            have hD : va_D A G_17 := hD1.weaken (fun _ _ _ h => hFc _ h)
            have hq9 : r131 = ((vFL κ ν ω ce li tm kn) (σ9.map Prod.fst)).1 := hr131.trans (congrArg Prod.fst hfl9)
            have hq9b : (ν131 ch).1 = ((vFL κ ν ω ce li tm kn) (σ9.map Prod.fst)).2 := by rw [eν131]; exact congrArg Prod.snd hfl9
            have hVE1 : VE ν ν131 ω ω99 se ch nx fo := ⟨fun b9 h8 h9 => (hν131 b9 h9).trans (hVE.1 b9 h8 h9), hVE.2⟩
            have hkt1 : (ν131 ch).2.1 = kn ∧ (ν131 ch).2.2.2.2.2.2.2.2.2.1 = tm := by rw [eν131]; exact hkt
            have hse1 : ν131 se = ν99 se := hν131 se hsc
            refine lv_istore (lv' := [(9, .int r131), (0, .ref q0), (1, .int (nI k)), (2, .long tm), (4, .int (nI D)), (5, .int kn), (6, .int v99), (7, .int m99), (8, .int (nI z99))]) hx hb d_Trust_validate_134 hl (by decide) rfl (fun ls hl => ?_)
            refine lv_aload_n hx hb d_Trust_validate_136 rfl (lv_at hl 1 rfl) ?_
            refine lv_dup hx hb d_Trust_validate_137 rfl ?_
            obtain ⟨i_19, hg_19⟩ := List.getElem?_of_mem kq0.2
            refine va_get (v := .int (nI z99)) hx hb htb i_Trust hown hK hP i_19 hg_19 rfl 10 (by decide) (htb _ q1_166) (fun _ h9 => h9) rfl d_Trust_validate_138 ?_
            refine lv_iconst (v := 1) hx hb d_Trust_validate_141 (by decide) ?_
            refine lv_iadd hx hb d_Trust_validate_142 ?_
            rw [show ((nI z99) + 1 : Int32) = nI (z99 + 1) from nI_add z99 1]
            refine va_put (v := .int (nI (z99 + 1))) (ty := .int) hx hb htb i_Trust t_Trust t_Trust_ok n_Trust hown hK hP hD hS i_19 hg_19 rfl 10 (by decide) (htb _ q1_166) (fun _ h9 => h9) rfl (by decide +kernel) rfl rfl (Nat.le_of_ble_eq_true rfl) d_Trust_validate_143 (fun H143 locs hP hD2 hS => ?_)
            have hP : va_P (dC, dI) classes (G_17.set i_19 (q0, .inr (10, [.ref fe, .ref ho, .ref ce, .ref li, .ref sh, .ref rs, .ref se, .ref ch, .ref fo, .int foS99, .int (nI (z99 + 1)), .int faP99, .int feS, .int wrP]))) H143 := hP
            have hD3 : va_D A (G_17.set i_19 (q0, .inr (10, [.ref fe, .ref ho, .ref ce, .ref li, .ref sh, .ref rs, .ref se, .ref ch, .ref fo, .int foS99, .int (nI (z99 + 1)), .int faP99, .int feS, .int wrP]))) := hD2
            have hTy := TY.setX (c' := .inr (10, [.ref fe, .ref ho, .ref ce, .ref li, .ref sh, .ref rs, .ref se, .ref ch, .ref fo, .int foS99, .int (nI (z99 + 1)), .int faP99, .int feS, .int wrP])) hTy hg_19 kq0.1
            have kpl := PLx.setX (c' := .inr (10, [.ref fe, .ref ho, .ref ce, .ref li, .ref sh, .ref rs, .ref se, .ref ch, .ref fo, .int foS99, .int (nI (z99 + 1)), .int faP99, .int feS, .int wrP])) kpl hg_19 (by decide)
            have hFR := hFR.tr (FX.set (Ad := Ad) (c' := .inr (10, [.ref fe, .ref ho, .ref ce, .ref li, .ref sh, .ref rs, .ref se, .ref ch, .ref fo, .int foS99, .int (nI (z99 + 1)), .int faP99, .int feS, .int wrP])) hg_19).q
            have hg_19 := set_here (c' := .inr (10, [.ref fe, .ref ho, .ref ce, .ref li, .ref sh, .ref rs, .ref se, .ref ch, .ref fo, .int foS99, .int (nI (z99 + 1)), .int faP99, .int feS, .int wrP])) hg_19
            have kq0 : Xc Ad q0 (.inr (10, [.ref fe, .ref ho, .ref ce, .ref li, .ref sh, .ref rs, .ref se, .ref ch, .ref fo, .int foS99, .int (nI (z99 + 1)), .int faP99, .int feS, .int wrP])) (G_17.set i_19 (q0, .inr (10, [.ref fe, .ref ho, .ref ce, .ref li, .ref sh, .ref rs, .ref se, .ref ch, .ref fo, .int foS99, .int (nI (z99 + 1)), .int faP99, .int feS, .int wrP]))) := ⟨kq0.1, List.mem_of_getElem? hg_19⟩
            have hD := hD3
            clear hD3 hD2
            generalize G_17.set i_19 (q0, .inr (10, [.ref fe, .ref ho, .ref ce, .ref li, .ref sh, .ref rs, .ref se, .ref ch, .ref fo, .int foS99, .int (nI (z99 + 1)), .int faP99, .int feS, .int wrP])) = G_20 at hP hD hTy hFR kpl kq0 hg_19
            refine lv_iload hx hb d_Trust_validate_146 (lv_at hl 0 rfl) ?_
            refine lv_if_eq (tgt := 156) hx hb d_Trust_validate_148 (by decide) (fun c148 => ?_) (fun c148 => ?_)
            · have p148 : r131 = (0 : Int32) := c148
              refine lv_iload hx hb d_Trust_validate_156 (lv_at hl 0 rfl) ?_
              refine lv_istore (lv' := [(6, .int r131), (9, .int r131), (0, .ref q0), (1, .int (nI k)), (2, .long tm), (4, .int (nI D)), (5, .int kn), (7, .int m99), (8, .int (nI z99))]) hx hb d_Trust_validate_158 hl (by decide) rfl (fun ls hl => ?_)
              refine lv_aload_n hx hb d_Trust_validate_160 rfl (lv_at hl 2 rfl) ?_
              refine lv_aload_n hx hb d_Trust_validate_161 rfl (lv_at hl 2 rfl) ?_
              refine va_get (v := .ref ch) hx hb htb i_Trust hown hK hP i_19 hg_19 rfl 7 (by decide) (htb _ q1_163) (fun _ h9 => h9) rfl d_Trust_validate_162 ?_
              obtain ⟨i_21, hg_21⟩ := ty_12 hTy kch
              refine va_get (v := .int ((ν131 ch).1)) hx hb htb i_PathCheck hown hK hP i_21 hg_21 rfl 0 (by decide) (htb _ q1_143) (fun _ h9 => h9) rfl d_Trust_validate_165 ?_
              refine lv_topi (fun v168 ev168 => ?_)
              refine va_put (v := .int v168) (ty := .int) hx hb htb i_Trust t_Trust t_Trust_ok n_Trust hown hK hP hD hS i_19 hg_19 rfl 11 (by decide) (htb _ q1_167) (fun _ h9 => h9) rfl (by decide +kernel) rfl rfl (Nat.le_of_ble_eq_true rfl) d_Trust_validate_168 (fun H168 locs hP hD2 hS => ?_)
              have hP : va_P (dC, dI) classes (G_20.set i_19 (q0, .inr (10, [.ref fe, .ref ho, .ref ce, .ref li, .ref sh, .ref rs, .ref se, .ref ch, .ref fo, .int foS99, .int (nI (z99 + 1)), .int v168, .int feS, .int wrP]))) H168 := hP
              have hD3 : va_D A (G_20.set i_19 (q0, .inr (10, [.ref fe, .ref ho, .ref ce, .ref li, .ref sh, .ref rs, .ref se, .ref ch, .ref fo, .int foS99, .int (nI (z99 + 1)), .int v168, .int feS, .int wrP]))) := hD2
              have hTy := TY.setX (c' := .inr (10, [.ref fe, .ref ho, .ref ce, .ref li, .ref sh, .ref rs, .ref se, .ref ch, .ref fo, .int foS99, .int (nI (z99 + 1)), .int v168, .int feS, .int wrP])) hTy hg_19 kq0.1
              have kpl := PLx.setX (c' := .inr (10, [.ref fe, .ref ho, .ref ce, .ref li, .ref sh, .ref rs, .ref se, .ref ch, .ref fo, .int foS99, .int (nI (z99 + 1)), .int v168, .int feS, .int wrP])) kpl hg_19 (by decide)
              have hFR := hFR.tr (FX.set (Ad := Ad) (c' := .inr (10, [.ref fe, .ref ho, .ref ce, .ref li, .ref sh, .ref rs, .ref se, .ref ch, .ref fo, .int foS99, .int (nI (z99 + 1)), .int v168, .int feS, .int wrP])) hg_19).q
              have hg_19 := set_here (c' := .inr (10, [.ref fe, .ref ho, .ref ce, .ref li, .ref sh, .ref rs, .ref se, .ref ch, .ref fo, .int foS99, .int (nI (z99 + 1)), .int v168, .int feS, .int wrP])) hg_19
              have kq0 : Xc Ad q0 (.inr (10, [.ref fe, .ref ho, .ref ce, .ref li, .ref sh, .ref rs, .ref se, .ref ch, .ref fo, .int foS99, .int (nI (z99 + 1)), .int v168, .int feS, .int wrP])) (G_20.set i_19 (q0, .inr (10, [.ref fe, .ref ho, .ref ce, .ref li, .ref sh, .ref rs, .ref se, .ref ch, .ref fo, .int foS99, .int (nI (z99 + 1)), .int v168, .int feS, .int wrP]))) := ⟨kq0.1, List.mem_of_getElem? hg_19⟩
              have hD := hD3
              clear hD3 hD2
              generalize G_20.set i_19 (q0, .inr (10, [.ref fe, .ref ho, .ref ce, .ref li, .ref sh, .ref rs, .ref se, .ref ch, .ref fo, .int foS99, .int (nI (z99 + 1)), .int v168, .int feS, .int wrP])) = G_22 at hP hD hTy hFR kpl kq0 hg_19
              refine lv_aload_n hx hb d_Trust_validate_171 rfl (lv_at hl 2 rfl) ?_
              have hC1 := CKx_om hC0 (hVE1.om1 hVK (by rw [kce.2]; exact (by decide : (15 : Nat) ≠ 6))) (hVE1.om1 hVK (by rw [kli.2]; exact (by decide : (17 : Nat) ≠ 6)))
              have hFc := va_free (wc := G_22) hD hS hA (List.range G_22.length) (rg_is _)
              refine va_callv (mu_runV (As := []) (rest := []) ⟨hx, hb, hml, hown, hts⟩ tbin (z_Trust_keepPath l dC dI sb γ κ Ad ν131 ω99 L131 G_22 fe ho ce li sh rs se ch fo q0 pl o99 as99 foS99 (nI (z99 + 1)) v168 feS wrP H168.size hC1 ⟨hTy, hL131, kq0, kpl, h16⟩) q6_122 q6_124 qp_34 q1_1 q6_125 (n := 0) (by decide +kernel) rfl ⟨rfl, rfl⟩ ⟨Nat.le_of_ble_eq_true rfl, Nat.le_of_ble_eq_true rfl⟩ ⟨(by omega), (by omega)⟩ hN (hT0.keep hS hAs) hAs (Nat.le_trans hB0 hS.1) hK hP hD (List.range G_22.length) (rg_nd _) (rg_is _) [0, 1, 2, 3] rfl i_19 10 hg_19 rfl rfl hl.1 rfl (Nat.le_of_ble_eq_true rfl) d_Trust_validate_172) hS (fun q _ h => hFc q h) hFc (fun u172 tS H172 locs ht hvm hw172 hB hz1 hk1 hS => ?_)
              obtain ⟨G_23, L172, o172, as172, f1172, f2172, f3172, f4172, f5172⟩ := u172
              obtain ⟨ω172, hω172, hrow172, ⟨hTy, hL172, kq0, kpl, h16⟩, hF9, e1172, e2172, e3172, e4172⟩ := hw172
              dsimp only at hTy hL172 kq0 kpl h16 hF9 e1172 e2172 e3172 e4172
              simp only [Prod.mk.injEq] at e4172
              obtain ⟨e5172, e6172, e7172, e8172, e9172⟩ := e4172
              obtain rfl := Eq.symm e1172
              obtain rfl := Eq.symm e2172
              obtain rfl := Eq.symm e3172
              obtain rfl := Eq.symm e5172
              obtain rfl := Eq.symm e6172
              obtain rfl := Eq.symm e7172
              obtain rfl := Eq.symm e8172
              obtain rfl := Eq.symm e9172
              have hFR := hFR.tr hF9
              obtain ⟨hP1, hK1, hD1⟩ := hB
              rw [ht] at hP1
              have hP : va_P (dC, dI) classes G_23 H172 := hP1
              have hD : va_D A G_23 := hD1.weaken (fun _ _ _ h => hFc _ h)
              have hVE2 : VE ν ν131 ω ω172 se ch nx fo := ⟨hVE1.1, fun b9 h8 h9 => (hω172 b9 h9).trans (hVE1.2 b9 h8 h9)⟩
              have hnx2 : ω172 nx = ω99 nx := hω172 nx (Ne.symm hfn)
              have hw2 : nI as99.length = nI (σ9.map Prod.fst).length ∧ (σ9.map Prod.fst).length ≤ 16 ∧ ∀ j, j < (σ9.map Prod.fst).length → nI ((ω172 fo).getD j 0) = nI ((σ9.map Prod.fst).reverse.getD j 0) := by
                rw [List.length_map, ← hl9]
                refine ⟨rfl, h16, fun j9 h9 => ?_⟩
                obtain ⟨q1, q2⟩ := sx_row hS9 h9
                obtain ⟨p8, q8, k8⟩ := h8k _ q2
                rw [hrow172 j9 h9, q1, hVE1.n8 hVK (Or.inl (by rw [k8.2]))]
                exact hnb _ q2
              have hgr9 : vGR κ ν ω ce li tm kn k D = (true, (p9, z99 + 1, (σ9.map Prod.fst), r131, v168)) := by rw [hg9, sj_0 (fl := (vFL κ ν ω ce li tm kn)) (w := (σ9.map Prod.fst)) (by rw [← hq9]; exact p148), thn_t, hq9, ev168, hq9b]
              refine lv_iload hx hb d_Trust_validate_175 (lv_at hl 1 rfl) ?_
              refine lv_if_eq (tgt := 198) hx hb d_Trust_validate_177 (by decide) (fun c177 => ?_) (fun c177 => ?_)
              rotate_left
              · exact absurd c177 (fun q => q p148)
              refine lv_iconst (v := 0) hx hb d_Trust_validate_198 (by decide) ?_
              refine lv_istore (lv' := [(7, .int 0), (6, .int r131), (9, .int r131), (0, .ref q0), (1, .int (nI k)), (2, .long tm), (4, .int (nI D)), (5, .int kn), (8, .int (nI z99))]) hx hb d_Trust_validate_199 hl (by decide) rfl (fun ls hl => ?_)
              refine lv_iinc (v := nI (z99 + 1)) (lv' := [(8, .int (nI (z99 + 1))), (7, .int 0), (6, .int r131), (9, .int r131), (0, .ref q0), (1, .int (nI k)), (2, .long tm), (4, .int (nI D)), (5, .int kn)]) hx hb d_Trust_validate_201 hl (k := 8) rfl (nI_1 _) (by decide) rfl (fun ls hl => ?_)
              refine lv_goto (tgt := 99) hx hb d_Trust_validate_204 (by decide) ?_
              have hV9 : VI κ ν ν131 ω ω172 ce li se ch fo tm kn k D (z99 + 1) r131 0 (nI as99.length) v168 as99 := by
                rw [VI, ← hnx]
                exact ⟨hVE2, hkt1, (σ9.map Prod.fst), hw2, Or.inr ⟨rfl, true, p9, hgr9⟩⟩
              refine W.widen (k := fC o - fC o99) (n := fS o - fS o99) (by omega) (by omega) ?_
              exact ih99 (z99 + 1, r131, (0 : Int32), G_23, L131, o99, as99, nI as99.length, nI (z99 + 1), v168) _ _ ls (by dsimp only; omega) ⟨by dsimp only; omega, ⟨ν131, ω172, hV9, ⟨hTy, hL172, kq0, kpl, h16⟩⟩, rfl, hFR, by dsimp only; omega, by dsimp only; omega⟩ hP hD hS (lv_sub hl [4, 5, 6, 7, 8, 2, 1, 0] rfl)
            · have p148 : ¬ (r131 = (0 : Int32)) := c148
              refine lv_iload hx hb d_Trust_validate_151 (lv_at hl 8 rfl) ?_
              refine lv_if_ne (tgt := 175) hx hb d_Trust_validate_153 (by decide) (fun c153 => ?_) (fun c153 => ?_)
              · have p153 : ¬ (z99 = 0) := (fun q9 => c153 ((nI_eq (a := z99) (b := 0) (by omega) (by omega)).mpr q9))
                have hgr9 : vGR κ ν ω ce li tm kn k D = ctR (ω ce).length D (vFO κ ν ω ce) (vTR ν ω ce) (vFL κ ν ω ce li tm kn) σ9 (p9, z99 + 1, w99, v99, faP99) := by rw [hg9, sj_2 (fl := (vFL κ ν ω ce li tm kn)) (w := (σ9.map Prod.fst)) (by rw [← hq9]; exact p148) p153, thn_f]
                refine lv_iload hx hb d_Trust_validate_175 (lv_at hl 0 rfl) ?_
                refine lv_if_eq (tgt := 198) hx hb d_Trust_validate_177 (by decide) (fun c177 => ?_) (fun c177 => ?_)
                · exact absurd c177 p148
                refine lv_aload_n hx hb d_Trust_validate_180 rfl (lv_at hl 1 rfl) ?_
                refine va_get (v := .ref se) hx hb htb i_Trust hown hK hP i_19 hg_19 rfl 6 (by decide) (htb _ q1_162) (fun _ h9 => h9) rfl d_Trust_validate_181 ?_
                refine lv_aload_n hx hb d_Trust_validate_184 rfl (lv_at hl 1 rfl) ?_
                refine va_get (v := .ref ce) hx hb htb i_Trust hown hK hP i_19 hg_19 rfl 2 (by decide) (htb _ q1_158) (fun _ h9 => h9) rfl d_Trust_validate_185 ?_
                have hnx8 : nx = (ω99 se).getD 0 0 := by rw [hVE1.om1 hVK (by rw [kse.2]; exact (by decide : (13 : Nat) ≠ 6))]; exact hnx
                have hS8 : SX (fun k9 => (ω ce).getD k9 0) (ω ce).length D (fun j9 => (ω99 nx).getD j9 0) (ν131 se).2.2.1 as99 σ9 p9 := by rw [hse1]; exact hS9
                refine W.size (fun hzq188 hyq188 => ?_)
                have hFc := va_free (wc := G_20) hD hS hA (List.range G_20.length) (rg_is _)
                obtain ⟨i_25, nx_25, ⟨knx_25, enx_25⟩, hg_25⟩ := ty_13 hTy kse
                refine va_calli (mz_runV (As := [.ref ce]) (rest := []) ⟨hx, hb, hml, hown, hts⟩ tbin (m_Search_advance l dC dI sb γ κ Ad ν131 ω99 L131 G_20 se ce pl nx ν ω (vFO κ ν ω ce) (vTR ν ω ce) D p9 σ9 o99 as99 H143.size (slN H143) hTy kse kce kpl hnx8 hNL hce9 (fun _ _ => Iff.rfl) hnb hbi (fun b9 h9 => hVE1.n8 hVK (Or.inl h9)) (fun b9 h9 => hVE1.om1 hVK h9) hS8 (by rw [hse1]; exact hdp9.1) (by rw [hse1]; exact hdp9.2) (by omega)) q6_127 q6_16 q6_17 q1_7 q6_18 (n := 1) (by decide +kernel) rfl ⟨rfl, rfl⟩ ⟨Nat.le_of_ble_eq_true rfl, Nat.le_of_ble_eq_true rfl⟩ ⟨(by omega), (by omega)⟩ hN (hT0.keep hS hAs) hAs (Nat.le_trans hB0 hS.1) hK hP hD (List.range G_20.length) (rg_nd _) (rg_is _) [0, 1, 2, 3] rfl i_25 8 hg_25 rfl rfl hl.1 rfl (Nat.le_of_ble_eq_true rfl) d_Trust_validate_188) hS (fun q _ h => hFc q h) hFc (fun r188 u188 tS H188 locs ht hvm hw188 hB hz1 hk1 hS => ?_)
                obtain ⟨G_24, o188, as188⟩ := u188
                obtain ⟨ν188, ω188, hν188, -, hω188, -, hTy, kpl, hF9, σ188, p188, op188, eh188, hS188, hres188, hfo188, hgo188⟩ := hw188
                dsimp only at hTy kpl hF9 hS188 hfo188 hgo188
                have kq0 := kq0.frs hF9 hqp (fun _ _ h => by cases h)
                have hFR := hFR.tr hF9.q
                obtain ⟨⟨hP1, hK1, hD1⟩, hzB188, hyB188⟩ := hB
                rw [ht] at hP1
                rw [ht] at hzB188 hyB188
                dsimp only at hzB188 hyB188
                have hP : va_P (dC, dI) classes G_24 H188 := hP1
                have hD : va_D A G_24 := hD1.weaken (fun _ _ _ h => hFc _ h)
                have h16 : as188.length ≤ 16 := by have a1 := hS188.len; have a2 := hS188.ld; have a3 := hS188.d1; omega
                have hVE3 : VE ν ν188 ω ω188 se ch nx fo := ⟨fun b9 h8 h9 => (hν188 b9 h8).trans (hVE1.1 b9 h8 h9), fun b9 h8 h9 => (hω188 b9 h8).trans (hVE1.2 b9 h8 h9)⟩
                have hkt3 : (ν188 ch).2.1 = kn ∧ (ν188 ch).2.2.2.2.2.2.2.2.2.1 = tm := by rw [hν188 ch (Ne.symm hsc)]; exact hkt1
                have hfo3 : ω188 fo = ω99 fo := hω188 fo hfn
                have hw3 : foS99 = nI w99.length ∧ w99.length ≤ 16 ∧ ∀ j, j < w99.length → nI ((ω188 fo).getD j 0) = nI (w99.reverse.getD j 0) := by rw [hfo3]; exact hw99
                have hdp3 : (ν188 se).1 = nI D ∧ (ν188 se).2.1 = nI p188 := by rw [eh188]; exact ⟨rfl, rfl⟩
                refine W.narrow (k := fC o - fC o188) (n := fS o - fS o188) (by omega) (by omega) ?_
                rcases hres188 with ⟨rfl, q2, -, q3, q4⟩ | ⟨rfl, -, q4⟩
                · skip
                  refine lv_if_eq (tgt := 198) hx hb d_Trust_validate_191 (by decide) (fun c191 => ?_) (fun c191 => ?_)
                  · exact absurd c191 (by decide)
                  refine lv_iconst (v := 1) hx hb d_Trust_validate_194 (by decide) ?_
                  refine lv_goto (tgt := 199) hx hb d_Trust_validate_195 (by decide) ?_
                  refine lv_istore (lv' := [(7, .int 1), (9, .int r131), (0, .ref q0), (1, .int (nI k)), (2, .long tm), (4, .int (nI D)), (5, .int kn), (6, .int v99), (8, .int (nI z99))]) hx hb d_Trust_validate_199 hl (by decide) rfl (fun ls hl => ?_)
                  refine lv_iinc (v := nI (z99 + 1)) (lv' := [(8, .int (nI (z99 + 1))), (7, .int 1), (9, .int r131), (0, .ref q0), (1, .int (nI k)), (2, .long tm), (4, .int (nI D)), (5, .int kn), (6, .int v99)]) hx hb d_Trust_validate_201 hl (k := 8) rfl (nI_1 _) (by decide) rfl (fun ls hl => ?_)
                  refine lv_goto (tgt := 99) hx hb d_Trust_validate_204 (by decide) ?_
                  have hV9 : VI κ ν ν188 ω ω188 ce li se ch fo tm kn k D (z99 + 1) v99 1 foS99 faP99 as188 := by
                    rw [VI, ← hnx]
                    exact ⟨hVE3, hkt3, w99, hw3, Or.inl ⟨rfl, σ188, p188, by omega, q3, hdp3, by rw [eh188]; exact hS188, hgr9.trans (q4 _ _)⟩⟩
                  refine W.widen (k := fC o - fC o188) (n := fS o - fS o188) (by omega) (by omega) ?_
                  exact ih99 (z99 + 1, v99, (1 : Int32), G_24, L131, o188, as188, foS99, nI (z99 + 1), faP99) _ _ ls (by dsimp only; omega) ⟨by dsimp only; omega, ⟨ν188, ω188, hV9, ⟨hTy, hL131, kq0, kpl, h16⟩⟩, rfl, hFR, by dsimp only; omega, by dsimp only; omega⟩ hP hD hS (lv_sub hl [3, 4, 5, 6, 7, 8, 1, 0] rfl)
                · skip
                  refine lv_if_eq (tgt := 198) hx hb d_Trust_validate_191 (by decide) (fun c191 => ?_) (fun c191 => ?_)
                  rotate_left
                  · exact absurd c191 (fun q9 => q9 rfl)
                  refine lv_iconst (v := 0) hx hb d_Trust_validate_198 (by decide) ?_
                  refine lv_istore (lv' := [(7, .int 0), (9, .int r131), (0, .ref q0), (1, .int (nI k)), (2, .long tm), (4, .int (nI D)), (5, .int kn), (6, .int v99), (8, .int (nI z99))]) hx hb d_Trust_validate_199 hl (by decide) rfl (fun ls hl => ?_)
                  refine lv_iinc (v := nI (z99 + 1)) (lv' := [(8, .int (nI (z99 + 1))), (7, .int 0), (9, .int r131), (0, .ref q0), (1, .int (nI k)), (2, .long tm), (4, .int (nI D)), (5, .int kn), (6, .int v99)]) hx hb d_Trust_validate_201 hl (k := 8) rfl (nI_1 _) (by decide) rfl (fun ls hl => ?_)
                  refine lv_goto (tgt := 99) hx hb d_Trust_validate_204 (by decide) ?_
                  have hV9 : VI κ ν ν188 ω ω188 ce li se ch fo tm kn k D (z99 + 1) v99 0 foS99 faP99 as188 := by
                    rw [VI, ← hnx]
                    exact ⟨hVE3, hkt3, w99, hw3, Or.inr ⟨rfl, false, p188, hgr9.trans (q4 _ _)⟩⟩
                  refine W.widen (k := fC o - fC o188) (n := fS o - fS o188) (by omega) (by omega) ?_
                  exact ih99 (z99 + 1, v99, (0 : Int32), G_24, L131, o188, as188, foS99, nI (z99 + 1), faP99) _ _ ls (by dsimp only; omega) ⟨by dsimp only; omega, ⟨ν188, ω188, hV9, ⟨hTy, hL131, kq0, kpl, h16⟩⟩, rfl, hFR, by dsimp only; omega, by dsimp only; omega⟩ hP hD hS (lv_sub hl [3, 4, 5, 6, 7, 8, 1, 0] rfl)
              · have p153 : z99 = 0 := ((nI_eq (a := z99) (b := 0) (by omega) (by omega)).mp c153)
                refine lv_iload hx hb d_Trust_validate_156 (lv_at hl 0 rfl) ?_
                refine lv_istore (lv' := [(6, .int r131), (9, .int r131), (0, .ref q0), (1, .int (nI k)), (2, .long tm), (4, .int (nI D)), (5, .int kn), (7, .int m99), (8, .int (nI z99))]) hx hb d_Trust_validate_158 hl (by decide) rfl (fun ls hl => ?_)
                refine lv_aload_n hx hb d_Trust_validate_160 rfl (lv_at hl 2 rfl) ?_
                refine lv_aload_n hx hb d_Trust_validate_161 rfl (lv_at hl 2 rfl) ?_
                refine va_get (v := .ref ch) hx hb htb i_Trust hown hK hP i_19 hg_19 rfl 7 (by decide) (htb _ q1_163) (fun _ h9 => h9) rfl d_Trust_validate_162 ?_
                obtain ⟨i_26, hg_26⟩ := ty_12 hTy kch
                refine va_get (v := .int ((ν131 ch).1)) hx hb htb i_PathCheck hown hK hP i_26 hg_26 rfl 0 (by decide) (htb _ q1_143) (fun _ h9 => h9) rfl d_Trust_validate_165 ?_
                refine lv_topi (fun v168 ev168 => ?_)
                refine va_put (v := .int v168) (ty := .int) hx hb htb i_Trust t_Trust t_Trust_ok n_Trust hown hK hP hD hS i_19 hg_19 rfl 11 (by decide) (htb _ q1_167) (fun _ h9 => h9) rfl (by decide +kernel) rfl rfl (Nat.le_of_ble_eq_true rfl) d_Trust_validate_168 (fun H168 locs hP hD2 hS => ?_)
                have hP : va_P (dC, dI) classes (G_20.set i_19 (q0, .inr (10, [.ref fe, .ref ho, .ref ce, .ref li, .ref sh, .ref rs, .ref se, .ref ch, .ref fo, .int foS99, .int (nI (z99 + 1)), .int v168, .int feS, .int wrP]))) H168 := hP
                have hD3 : va_D A (G_20.set i_19 (q0, .inr (10, [.ref fe, .ref ho, .ref ce, .ref li, .ref sh, .ref rs, .ref se, .ref ch, .ref fo, .int foS99, .int (nI (z99 + 1)), .int v168, .int feS, .int wrP]))) := hD2
                have hTy := TY.setX (c' := .inr (10, [.ref fe, .ref ho, .ref ce, .ref li, .ref sh, .ref rs, .ref se, .ref ch, .ref fo, .int foS99, .int (nI (z99 + 1)), .int v168, .int feS, .int wrP])) hTy hg_19 kq0.1
                have kpl := PLx.setX (c' := .inr (10, [.ref fe, .ref ho, .ref ce, .ref li, .ref sh, .ref rs, .ref se, .ref ch, .ref fo, .int foS99, .int (nI (z99 + 1)), .int v168, .int feS, .int wrP])) kpl hg_19 (by decide)
                have hFR := hFR.tr (FX.set (Ad := Ad) (c' := .inr (10, [.ref fe, .ref ho, .ref ce, .ref li, .ref sh, .ref rs, .ref se, .ref ch, .ref fo, .int foS99, .int (nI (z99 + 1)), .int v168, .int feS, .int wrP])) hg_19).q
                have hg_19 := set_here (c' := .inr (10, [.ref fe, .ref ho, .ref ce, .ref li, .ref sh, .ref rs, .ref se, .ref ch, .ref fo, .int foS99, .int (nI (z99 + 1)), .int v168, .int feS, .int wrP])) hg_19
                have kq0 : Xc Ad q0 (.inr (10, [.ref fe, .ref ho, .ref ce, .ref li, .ref sh, .ref rs, .ref se, .ref ch, .ref fo, .int foS99, .int (nI (z99 + 1)), .int v168, .int feS, .int wrP])) (G_20.set i_19 (q0, .inr (10, [.ref fe, .ref ho, .ref ce, .ref li, .ref sh, .ref rs, .ref se, .ref ch, .ref fo, .int foS99, .int (nI (z99 + 1)), .int v168, .int feS, .int wrP]))) := ⟨kq0.1, List.mem_of_getElem? hg_19⟩
                have hD := hD3
                clear hD3 hD2
                generalize G_20.set i_19 (q0, .inr (10, [.ref fe, .ref ho, .ref ce, .ref li, .ref sh, .ref rs, .ref se, .ref ch, .ref fo, .int foS99, .int (nI (z99 + 1)), .int v168, .int feS, .int wrP])) = G_27 at hP hD hTy hFR kpl kq0 hg_19
                refine lv_aload_n hx hb d_Trust_validate_171 rfl (lv_at hl 2 rfl) ?_
                have hC1 := CKx_om hC0 (hVE1.om1 hVK (by rw [kce.2]; exact (by decide : (15 : Nat) ≠ 6))) (hVE1.om1 hVK (by rw [kli.2]; exact (by decide : (17 : Nat) ≠ 6)))
                have hFc := va_free (wc := G_27) hD hS hA (List.range G_27.length) (rg_is _)
                refine va_callv (mu_runV (As := []) (rest := []) ⟨hx, hb, hml, hown, hts⟩ tbin (z_Trust_keepPath l dC dI sb γ κ Ad ν131 ω99 L131 G_27 fe ho ce li sh rs se ch fo q0 pl o99 as99 foS99 (nI (z99 + 1)) v168 feS wrP H168.size hC1 ⟨hTy, hL131, kq0, kpl, h16⟩) q6_122 q6_124 qp_34 q1_1 q6_125 (n := 0) (by decide +kernel) rfl ⟨rfl, rfl⟩ ⟨Nat.le_of_ble_eq_true rfl, Nat.le_of_ble_eq_true rfl⟩ ⟨(by omega), (by omega)⟩ hN (hT0.keep hS hAs) hAs (Nat.le_trans hB0 hS.1) hK hP hD (List.range G_27.length) (rg_nd _) (rg_is _) [0, 1, 2, 3] rfl i_19 10 hg_19 rfl rfl hl.1 rfl (Nat.le_of_ble_eq_true rfl) d_Trust_validate_172) hS (fun q _ h => hFc q h) hFc (fun u172 tS H172 locs ht hvm hw172 hB hz1 hk1 hS => ?_)
                obtain ⟨G_28, L172, o172, as172, f1172, f2172, f3172, f4172, f5172⟩ := u172
                obtain ⟨ω172, hω172, hrow172, ⟨hTy, hL172, kq0, kpl, h16⟩, hF9, e1172, e2172, e3172, e4172⟩ := hw172
                dsimp only at hTy hL172 kq0 kpl h16 hF9 e1172 e2172 e3172 e4172
                simp only [Prod.mk.injEq] at e4172
                obtain ⟨e5172, e6172, e7172, e8172, e9172⟩ := e4172
                obtain rfl := Eq.symm e1172
                obtain rfl := Eq.symm e2172
                obtain rfl := Eq.symm e3172
                obtain rfl := Eq.symm e5172
                obtain rfl := Eq.symm e6172
                obtain rfl := Eq.symm e7172
                obtain rfl := Eq.symm e8172
                obtain rfl := Eq.symm e9172
                have hFR := hFR.tr hF9
                obtain ⟨hP1, hK1, hD1⟩ := hB
                rw [ht] at hP1
                have hP : va_P (dC, dI) classes G_28 H172 := hP1
                have hD : va_D A G_28 := hD1.weaken (fun _ _ _ h => hFc _ h)
                have hVE2 : VE ν ν131 ω ω172 se ch nx fo := ⟨hVE1.1, fun b9 h8 h9 => (hω172 b9 h9).trans (hVE1.2 b9 h8 h9)⟩
                have hnx2 : ω172 nx = ω99 nx := hω172 nx (Ne.symm hfn)
                have hw2 : nI as99.length = nI (σ9.map Prod.fst).length ∧ (σ9.map Prod.fst).length ≤ 16 ∧ ∀ j, j < (σ9.map Prod.fst).length → nI ((ω172 fo).getD j 0) = nI ((σ9.map Prod.fst).reverse.getD j 0) := by
                  rw [List.length_map, ← hl9]
                  refine ⟨rfl, h16, fun j9 h9 => ?_⟩
                  obtain ⟨q1, q2⟩ := sx_row hS9 h9
                  obtain ⟨p8, q8, k8⟩ := h8k _ q2
                  rw [hrow172 j9 h9, q1, hVE1.n8 hVK (Or.inl (by rw [k8.2]))]
                  exact hnb _ q2
                have hgr9 : vGR κ ν ω ce li tm kn k D = ctR (ω ce).length D (vFO κ ν ω ce) (vTR ν ω ce) (vFL κ ν ω ce li tm kn) σ9 (p9, z99 + 1, (σ9.map Prod.fst), r131, v168) := by rw [hg9, sj_1 (fl := (vFL κ ν ω ce li tm kn)) (w := (σ9.map Prod.fst)) (by rw [← hq9]; exact p148) p153, thn_f, hq9, ev168, hq9b]
                refine lv_iload hx hb d_Trust_validate_175 (lv_at hl 1 rfl) ?_
                refine lv_if_eq (tgt := 198) hx hb d_Trust_validate_177 (by decide) (fun c177 => ?_) (fun c177 => ?_)
                · exact absurd c177 p148
                refine lv_aload_n hx hb d_Trust_validate_180 rfl (lv_at hl 2 rfl) ?_
                obtain ⟨i_29, hg_29⟩ := List.getElem?_of_mem kq0.2
                refine va_get (v := .ref se) hx hb htb i_Trust hown hK hP i_29 hg_29 rfl 6 (by decide) (htb _ q1_162) (fun _ h9 => h9) rfl d_Trust_validate_181 ?_
                refine lv_aload_n hx hb d_Trust_validate_184 rfl (lv_at hl 2 rfl) ?_
                refine va_get (v := .ref ce) hx hb htb i_Trust hown hK hP i_29 hg_29 rfl 2 (by decide) (htb _ q1_158) (fun _ h9 => h9) rfl d_Trust_validate_185 ?_
                have hnx8 : nx = (ω172 se).getD 0 0 := by rw [hVE2.om1 hVK (by rw [kse.2]; exact (by decide : (13 : Nat) ≠ 6))]; exact hnx
                have hS8 : SX (fun k9 => (ω ce).getD k9 0) (ω ce).length D (fun j9 => (ω172 nx).getD j9 0) (ν131 se).2.2.1 as99 σ9 p9 := by rw [hse1, hnx2]; exact hS9
                refine W.size (fun hzq188 hyq188 => ?_)
                have hFc := va_free (wc := G_28) hD hS hA (List.range G_28.length) (rg_is _)
                obtain ⟨i_31, nx_31, ⟨knx_31, enx_31⟩, hg_31⟩ := ty_13 hTy kse
                refine va_calli (mz_runV (As := [.ref ce]) (rest := []) ⟨hx, hb, hml, hown, hts⟩ tbin (m_Search_advance l dC dI sb γ κ Ad ν131 ω172 L131 G_28 se ce pl nx ν ω (vFO κ ν ω ce) (vTR ν ω ce) D p9 σ9 o99 as99 H172.size (slN H172) hTy kse kce kpl hnx8 hNL hce9 (fun _ _ => Iff.rfl) hnb hbi (fun b9 h9 => hVE2.n8 hVK (Or.inl h9)) (fun b9 h9 => hVE2.om1 hVK h9) hS8 (by rw [hse1]; exact hdp9.1) (by rw [hse1]; exact hdp9.2) (by omega)) q6_127 q6_16 q6_17 q1_7 q6_18 (n := 1) (by decide +kernel) rfl ⟨rfl, rfl⟩ ⟨Nat.le_of_ble_eq_true rfl, Nat.le_of_ble_eq_true rfl⟩ ⟨(by omega), (by omega)⟩ hN (hT0.keep hS hAs) hAs (Nat.le_trans hB0 hS.1) hK hP hD (List.range G_28.length) (rg_nd _) (rg_is _) [0, 1, 2, 3] rfl i_31 8 hg_31 rfl rfl hl.1 rfl (Nat.le_of_ble_eq_true rfl) d_Trust_validate_188) hS (fun q _ h => hFc q h) hFc (fun r188 u188 tS H188 locs ht hvm hw188 hB hz1 hk1 hS => ?_)
                obtain ⟨G_30, o188, as188⟩ := u188
                obtain ⟨ν188, ω188, hν188, -, hω188, -, hTy, kpl, hF9, σ188, p188, op188, eh188, hS188, hres188, hfo188, hgo188⟩ := hw188
                dsimp only at hTy kpl hF9 hS188 hfo188 hgo188
                have kq0 := kq0.frs hF9 hqp (fun _ _ h => by cases h)
                have hFR := hFR.tr hF9.q
                obtain ⟨⟨hP1, hK1, hD1⟩, hzB188, hyB188⟩ := hB
                rw [ht] at hP1
                rw [ht] at hzB188 hyB188
                dsimp only at hzB188 hyB188
                have hP : va_P (dC, dI) classes G_30 H188 := hP1
                have hD : va_D A G_30 := hD1.weaken (fun _ _ _ h => hFc _ h)
                have h16 : as188.length ≤ 16 := by have a1 := hS188.len; have a2 := hS188.ld; have a3 := hS188.d1; omega
                have hVE3 : VE ν ν188 ω ω188 se ch nx fo := ⟨fun b9 h8 h9 => (hν188 b9 h8).trans (hVE2.1 b9 h8 h9), fun b9 h8 h9 => (hω188 b9 h8).trans (hVE2.2 b9 h8 h9)⟩
                have hkt3 : (ν188 ch).2.1 = kn ∧ (ν188 ch).2.2.2.2.2.2.2.2.2.1 = tm := by rw [hν188 ch (Ne.symm hsc)]; exact hkt1
                have hfo3 : ω188 fo = ω172 fo := hω188 fo hfn
                have hw3 : (nI as99.length) = nI (σ9.map Prod.fst).length ∧ (σ9.map Prod.fst).length ≤ 16 ∧ ∀ j, j < (σ9.map Prod.fst).length → nI ((ω188 fo).getD j 0) = nI ((σ9.map Prod.fst).reverse.getD j 0) := by rw [hfo3]; exact hw2
                have hdp3 : (ν188 se).1 = nI D ∧ (ν188 se).2.1 = nI p188 := by rw [eh188]; exact ⟨rfl, rfl⟩
                refine W.narrow (k := fC o - fC o188) (n := fS o - fS o188) (by omega) (by omega) ?_
                rcases hres188 with ⟨rfl, q2, -, q3, q4⟩ | ⟨rfl, -, q4⟩
                · skip
                  refine lv_if_eq (tgt := 198) hx hb d_Trust_validate_191 (by decide) (fun c191 => ?_) (fun c191 => ?_)
                  · exact absurd c191 (by decide)
                  refine lv_iconst (v := 1) hx hb d_Trust_validate_194 (by decide) ?_
                  refine lv_goto (tgt := 199) hx hb d_Trust_validate_195 (by decide) ?_
                  refine lv_istore (lv' := [(7, .int 1), (6, .int r131), (9, .int r131), (0, .ref q0), (1, .int (nI k)), (2, .long tm), (4, .int (nI D)), (5, .int kn), (8, .int (nI z99))]) hx hb d_Trust_validate_199 hl (by decide) rfl (fun ls hl => ?_)
                  refine lv_iinc (v := nI (z99 + 1)) (lv' := [(8, .int (nI (z99 + 1))), (7, .int 1), (6, .int r131), (9, .int r131), (0, .ref q0), (1, .int (nI k)), (2, .long tm), (4, .int (nI D)), (5, .int kn)]) hx hb d_Trust_validate_201 hl (k := 8) rfl (nI_1 _) (by decide) rfl (fun ls hl => ?_)
                  refine lv_goto (tgt := 99) hx hb d_Trust_validate_204 (by decide) ?_
                  have hV9 : VI κ ν ν188 ω ω188 ce li se ch fo tm kn k D (z99 + 1) r131 1 (nI as99.length) v168 as188 := by
                    rw [VI, ← hnx]
                    exact ⟨hVE3, hkt3, (σ9.map Prod.fst), hw3, Or.inl ⟨rfl, σ188, p188, by omega, q3, hdp3, by rw [eh188]; exact hS188, hgr9.trans (q4 _ _)⟩⟩
                  refine W.widen (k := fC o - fC o188) (n := fS o - fS o188) (by omega) (by omega) ?_
                  exact ih99 (z99 + 1, r131, (1 : Int32), G_30, L131, o188, as188, nI as99.length, nI (z99 + 1), v168) _ _ ls (by dsimp only; omega) ⟨by dsimp only; omega, ⟨ν188, ω188, hV9, ⟨hTy, hL172, kq0, kpl, h16⟩⟩, rfl, hFR, by dsimp only; omega, by dsimp only; omega⟩ hP hD hS (lv_sub hl [4, 5, 6, 7, 8, 2, 1, 0] rfl)
                · skip
                  refine lv_if_eq (tgt := 198) hx hb d_Trust_validate_191 (by decide) (fun c191 => ?_) (fun c191 => ?_)
                  rotate_left
                  · exact absurd c191 (fun q9 => q9 rfl)
                  refine lv_iconst (v := 0) hx hb d_Trust_validate_198 (by decide) ?_
                  refine lv_istore (lv' := [(7, .int 0), (6, .int r131), (9, .int r131), (0, .ref q0), (1, .int (nI k)), (2, .long tm), (4, .int (nI D)), (5, .int kn), (8, .int (nI z99))]) hx hb d_Trust_validate_199 hl (by decide) rfl (fun ls hl => ?_)
                  refine lv_iinc (v := nI (z99 + 1)) (lv' := [(8, .int (nI (z99 + 1))), (7, .int 0), (6, .int r131), (9, .int r131), (0, .ref q0), (1, .int (nI k)), (2, .long tm), (4, .int (nI D)), (5, .int kn)]) hx hb d_Trust_validate_201 hl (k := 8) rfl (nI_1 _) (by decide) rfl (fun ls hl => ?_)
                  refine lv_goto (tgt := 99) hx hb d_Trust_validate_204 (by decide) ?_
                  have hV9 : VI κ ν ν188 ω ω188 ce li se ch fo tm kn k D (z99 + 1) r131 0 (nI as99.length) v168 as188 := by
                    rw [VI, ← hnx]
                    exact ⟨hVE3, hkt3, (σ9.map Prod.fst), hw3, Or.inr ⟨rfl, false, p188, hgr9.trans (q4 _ _)⟩⟩
                  refine W.widen (k := fC o - fC o188) (n := fS o - fS o188) (by omega) (by omega) ?_
                  exact ih99 (z99 + 1, r131, (0 : Int32), G_30, L131, o188, as188, nI as99.length, nI (z99 + 1), v168) _ _ ls (by dsimp only; omega) ⟨by dsimp only; omega, ⟨ν188, ω188, hV9, ⟨hTy, hL172, kq0, kpl, h16⟩⟩, rfl, hFR, by dsimp only; omega, by dsimp only; omega⟩ hP hD hS (lv_sub hl [4, 5, 6, 7, 8, 2, 1, 0] rfl)
      · have p28 : ¬ (¬ i < 0 ∧ i < nI (ω ce).length) := (zP_0.mp c28)
        obtain ⟨sa, hsa⟩ := hTh.2.2.1 (163, "no such certificate") (by decide)
        exact vx_throwS (own := "TrustChain") (cls := "java/lang/IndexOutOfBoundsException") (text := "no such certificate") (names := xUp) (ik := 74) (is := 163) (ic := 78) (sa := sa) (A := A) hx hb hl0 hown (by decide) (by decide) (htb _ q1_211) (htb _ q1_14) hsa (x_hat x_ot78 x_gd78 x_nw78 htb hN) x_ot78 (hTh.1.narrow hAs) (hTh.2.1.narrow hAs) hS (hl.1.trans hml.symm) d_Trust_validate_31 d_Trust_validate_34 d_Trust_validate_35 d_Trust_validate_37 d_Trust_validate_40 (fun x h => (hnoh x h).elim) (Nat.le_of_ble_eq_true rfl) (Nat.le_of_ble_eq_true rfl) (Nat.le_of_ble_eq_true rfl) (Nat.le_of_ble_eq_true rfl) hlocks (x_end (G, L, o, as, foS, chS, faP, feS, wrP) ⟨⟨hTy, hL, kq0, kpl, h16⟩, hFR, rfl, Or.inr ⟨rfl, fun q => q.elim p3 (i_ng p10), p28⟩⟩ hP hK hD hS) hS.2.2 (Nat.le_of_ble_eq_true rfl) (Nat.le_of_ble_eq_true rfl)
    · have p10 : ¬ (j ≤ (16 : Int32)) := c10
      obtain ⟨sa, hsa⟩ := hTh.2.2.1 (201, "depth is not 1..16") (by decide)
      exact vx_throwS (own := "TrustChain") (cls := "java/lang/IllegalArgumentException") (text := "depth is not 1..16") (names := xUp) (ik := 110) (is := 201) (ic := 114) (sa := sa) (A := A) hx hb hl0 hown (by decide) (by decide) (htb _ q4_233) (htb _ q1_27) hsa (x_hat x_ot114 x_gd114 x_nw114 htb hN) x_ot114 (hTh.1.narrow hAs) (hTh.2.1.narrow hAs) hS (hl.1.trans hml.symm) d_Trust_validate_13 d_Trust_validate_16 d_Trust_validate_17 d_Trust_validate_19 d_Trust_validate_22 (fun x h => (hnoh x h).elim) (Nat.le_of_ble_eq_true rfl) (Nat.le_of_ble_eq_true rfl) (Nat.le_of_ble_eq_true rfl) (Nat.le_of_ble_eq_true rfl) hlocks (x_end (G, L, o, as, foS, chS, faP, feS, wrP) ⟨⟨hTy, hL, kq0, kpl, h16⟩, hFR, rfl, Or.inl ⟨rfl, Or.inr (i_gt p10)⟩⟩ hP hK hD hS) hS.2.2 (Nat.le_of_ble_eq_true rfl) (Nat.le_of_ble_eq_true rfl)
