/-! Rsa: these methods return. -/
def y_Arrays_fill : MethodName := ⟨"java/util/Arrays", "fill", "([JJ)V"⟩
abbrev b_Arrays_fill : ByteArray := prog_33_method_101_code
def w_Arrays_fill : List Cond := Cond.code y_Arrays_fill b_Arrays_fill 5 (none) :: tb
theorem d_Arrays_fill_0 : decode b_Arrays_fill 0 = .ok (.iconst 0, 1) := by decide +kernel
theorem d_Arrays_fill_1 : decode b_Arrays_fill 1 = .ok (.istore_n 3, 1) := by decide +kernel
theorem d_Arrays_fill_2 : decode b_Arrays_fill 2 = .ok (.aload_n 0, 1) := by decide +kernel
theorem d_Arrays_fill_3 : decode b_Arrays_fill 3 = .ok (.arraylength, 1) := by decide +kernel
theorem d_Arrays_fill_4 : decode b_Arrays_fill 4 = .ok (.istore 4, 2) := by decide +kernel
theorem d_Arrays_fill_6 : decode b_Arrays_fill 6 = .ok (.iload_n 3, 1) := by decide +kernel
theorem d_Arrays_fill_7 : decode b_Arrays_fill 7 = .ok (.iload 4, 2) := by decide +kernel
theorem d_Arrays_fill_9 : decode b_Arrays_fill 9 = .ok (.if_icmp .ge 13, 3) := by decide +kernel
theorem d_Arrays_fill_12 : decode b_Arrays_fill 12 = .ok (.aload_n 0, 1) := by decide +kernel
theorem d_Arrays_fill_13 : decode b_Arrays_fill 13 = .ok (.iload_n 3, 1) := by decide +kernel
theorem d_Arrays_fill_14 : decode b_Arrays_fill 14 = .ok (.lload_n 1, 1) := by decide +kernel
theorem d_Arrays_fill_15 : decode b_Arrays_fill 15 = .ok (.lastore, 1) := by decide +kernel
theorem d_Arrays_fill_16 : decode b_Arrays_fill 16 = .ok (.iinc 3 1, 3) := by decide +kernel
theorem d_Arrays_fill_19 : decode b_Arrays_fill 19 = .ok (.goto (-13), 3) := by decide +kernel
theorem d_Arrays_fill_22 : decode b_Arrays_fill 22 = .ok (.return_, 1) := by decide +kernel
set_option maxHeartbeats 4000000 in
set_option maxRecDepth 100000 in
theorem m_fill (l : Launch) (dC : Nat → ClassId) (dI : Nat → Nat → Nat) (sb : sB) (γ : cG) (κ : kE) (Ad : List Nat) (ν : Nat → cN) (ω : Nat → List Nat) (L : Nat) (G : va_W) (a : Nat) (n : Nat) (x : Int64) (sz : Nat) (hTy : TY γ κ Ad ν ω L G) (ka : tK κ Ad a (7, n, 0)) (hn : n < 2 ^ 30) : Met l y_Arrays_fill w_Arrays_fill ({ frames := 0, cells := 0, slots := 0, locals := 0 }) (mu_P [.ref a, .long x] (dC, dI) sb G [(γ.1, .byte), (γ.2.1, .int), (γ.2.2.1, .long), (γ.2.2.2, .object "java/lang/Object")] sz) (va_Qv (fun (G' : va_W) => TY γ κ Ad ν ω L G' ∧ FR Ad G G' ∧ (True)) (mu_B (dC, dI) [(γ.1, .byte), (γ.2.1, .int), (γ.2.2.1, .long), (γ.2.2.2, .object "java/lang/Object")] (va_A G sz) (fun G' : va_W => G')) (va_A G sz)) 0 0 (va_A G sz) := by
  refine Met.ofW (cc := b_Arrays_fill) (maxL := 5) (ret := none) (by decide) rfl ?_
  intro p e s m args below meth c s₁ B hml hv
  obtain ⟨rfl, hsz, hB0, hP, hK, hD0, hN, hT0⟩ := hv
  have hx := B.exec
  have hb := B.bytes
  have hr := B.returns
  have hts := atoms_spec (ws := w_Arrays_fill) B.pre
  have tbin : ∀ w ∈ tb, w ∈ w_Arrays_fill := fun w h => List.mem_cons_of_mem _ h
  have htb : ∀ w ∈ tb, w.before _ s = true := fun w h => hts w (tbin w h)
  have hown : s.vm.findClass "java/util/Arrays" = some m.cls := findClass_of_methodNamed B.named
  have hlocks := B.notSynchronized
  subst hsz
  have hD := hD0.self (sz := s.heap.size)
  generalize hAe : va_A G s.heap.size = A at hD ⊢
  have hA : ∀ q : Nat, s.heap.size ≤ q → A q := fun q h => by rw [← hAe]; exact Or.inr h
  have hAs : ∀ q : Nat, A q → sb.1 ≤ q := fun q h => by
    rw [← hAe] at h
    rcases h with ⟨k, e, h⟩ | h
    · exact hD0.2 k _ h
    · exact Nat.le_trans hB0 h
  have hS : va_S A s.heap s.heap [] := va_S.rf
  have hFR := FR.rf Ad G
  have hcs : 0 ≤ (headSpec w_Arrays_fill ({ frames := 0, cells := 0, slots := 0, locals := 0 })).room.cells ∧ 0 ≤ (headSpec w_Arrays_fill ({ frames := 0, cells := 0, slots := 0, locals := 0 })).room.slots := ⟨Nat.le_refl _, Nat.le_refl _⟩
  have hP : va_P (dC, dI) classes G s.heap := hP
  have hl := lv_entry ([.ref a, .long x]) (n := 5) (Nat.le_of_ble_eq_true rfl)
  rw [lg_entry_eq]
  generalize (lg_sl ([.ref a, .long x]) ++ List.replicate (5 - (lg_sl ([.ref a, .long x])).length) Slot.unset).toArray = ls at hl ⊢
  have hl : lv_has ls 5 [(0, .ref a), (1, .long x)] := hl
  refine lv_iconst (v := 0) hx hb d_Arrays_fill_0 (by decide) ?_
  refine lv_istore_n (lv' := [(3, .int 0), (0, .ref a), (1, .long x)]) hx hb d_Arrays_fill_1 rfl hl (by decide) rfl (fun ls hl => ?_)
  refine lv_aload_n hx hb d_Arrays_fill_2 rfl (lv_at hl 1 rfl) ?_
  obtain ⟨i_1, f_1, hn_1, hg_1⟩ := ty_7 hTy ka
  refine va_alen (v := nI n) hx hb hK hP i_1 2 hg_1 rfl rfl d_Arrays_fill_3 ?_
  refine lv_istore (lv' := [(4, .int (nI n)), (3, .int 0), (0, .ref a), (1, .long x)]) hx hb d_Arrays_fill_4 hl (by decide) rfl (fun ls hl => ?_)
  refine w_loopW (α := Nat × va_W) (fun a9 => a9.1 ≤ n ∧ TY γ κ Ad ν ω L a9.2 ∧ FR Ad G a9.2) (fun a9 => n - a9.1) (fun a9 => [(4, .int (nI n)), (3, .int (nI a9.1)), (0, .ref a), (1, .long x)]) (fun _ => []) (fun a9 => a9.2) 5 6 (fun a9 HL6 locs ls hJ hP hD hS hl ih6 => ?_) (0, G) _ _ ls ⟨by omega, hTy, hFR⟩ hP hD hS (lv_sub hl [0, 1, 2, 3] rfl)
  obtain ⟨z6, G6⟩ := a9
  obtain ⟨hz6, hTy, hFR⟩ := hJ
  dsimp only at hz6 hTy hFR hP hD hl ih6
  refine lv_iload_n hx hb d_Arrays_fill_6 rfl (lv_at hl 1 rfl) ?_
  refine lv_iload hx hb d_Arrays_fill_7 (lv_at hl 0 rfl) ?_
  refine lv_icmp_ge (tgt := 22) hx hb d_Arrays_fill_9 (by decide) (fun c9 => ?_) (fun c9 => ?_)
  · have p9 : n ≤ z6 := ((nI_leI (a := n) (b := z6) (by omega) (by omega)).mp c9)
    exact W.vret hx hb hr (fun t ht hW => ⟨⟨G6, rfl, ⟨hTy, hFR, trivial⟩, by rw [ht]; exact hP, va_K.moved hW.alike hK, hD⟩, hS.F ht⟩) hS.2.2 d_Arrays_fill_22
  · have p9 : ¬ (n ≤ z6) := (fun q9 => c9 ((nI_leI (a := n) (b := z6) (by omega) (by omega)).mpr q9))
    refine lv_aload_n hx hb d_Arrays_fill_12 rfl (lv_at hl 2 rfl) ?_
    refine lv_iload_n hx hb d_Arrays_fill_13 rfl (lv_at hl 1 rfl) ?_
    refine lv_lload_n hx hb d_Arrays_fill_14 rfl (lv_at hl 3 rfl) ?_
    obtain ⟨i_2, f_2, hn_2, hg_2⟩ := ty_7 hTy ka
    have h15 : vp_in (nI z6) n := vp_in_nI (by omega) (by omega)
    refine va_last hx hb hK hP hD hS i_2 2 hg_2 rfl h15 d_Arrays_fill_15 (fun H15 locs hP hD2 hS => ?_)
    have hP : va_P (dC, dI) classes (G6.set i_2 (a, .inl (γ.2.2.1, n, .inr (.inl (vp_updL f_2 (nI z6).toNatClampNeg x))))) H15 := hP
    have hD3 : va_D A (G6.set i_2 (a, .inl (γ.2.2.1, n, .inr (.inl (vp_updL f_2 (nI z6).toNatClampNeg x))))) := hD2
    have hFR := hFR.tr (FR.set (c' := .inl (γ.2.2.1, n, .inr (.inl (vp_updL f_2 (nI z6).toNatClampNeg x)))) hg_2 ka.1)
    have hTy := TY.set (c' := .inl (γ.2.2.1, n, .inr (.inl (vp_updL f_2 (nI z6).toNatClampNeg x)))) hTy hg_2 (ok_7 ka hn_2 _)
    have hD := hD3
    clear hD3 hD2
    generalize G6.set i_2 (a, .inl (γ.2.2.1, n, .inr (.inl (vp_updL f_2 (nI z6).toNatClampNeg x)))) = G_3 at hP hD hTy hFR 
    refine lv_iinc (v := nI (z6 + 1)) (lv' := [(3, .int (nI (z6 + 1))), (4, .int (nI n)), (0, .ref a), (1, .long x)]) hx hb d_Arrays_fill_16 hl (k := 1) rfl (nI_1 _) (by decide) rfl (fun ls hl => ?_)
    refine lv_goto (tgt := 6) hx hb d_Arrays_fill_19 (by decide) ?_
    exact ih6 (z6 + 1, G_3) _ _ ls (by dsimp only; omega) ⟨by dsimp only; omega, hTy, hFR⟩ hP hD hS (lv_sub hl [1, 0, 2, 3] rfl)
def y_Rsa_settle : MethodName := ⟨"TrustChain$Rsa", "settle", "([J)V"⟩
abbrev b_Rsa_settle : ByteArray := prog_9_method_8_code
def w_Rsa_settle : List Cond := Cond.code y_Rsa_settle b_Rsa_settle 9 (none) :: tb
theorem d_Rsa_settle_0 : decode b_Rsa_settle 0 = .ok (.aload_n 0, 1) := by decide +kernel
theorem d_Rsa_settle_1 : decode b_Rsa_settle 1 = .ok (.getfield 30, 3) := by decide +kernel
theorem d_Rsa_settle_4 : decode b_Rsa_settle 4 = .ok (.iconst 1, 1) := by decide +kernel
theorem d_Rsa_settle_5 : decode b_Rsa_settle 5 = .ok (.isub, 1) := by decide +kernel
theorem d_Rsa_settle_6 : decode b_Rsa_settle 6 = .ok (.istore_n 2, 1) := by decide +kernel
theorem d_Rsa_settle_7 : decode b_Rsa_settle 7 = .ok (.iload_n 2, 1) := by decide +kernel
theorem d_Rsa_settle_8 : decode b_Rsa_settle 8 = .ok (.ifCond .le 25, 3) := by decide +kernel
theorem d_Rsa_settle_11 : decode b_Rsa_settle 11 = .ok (.aload_n 0, 1) := by decide +kernel
theorem d_Rsa_settle_12 : decode b_Rsa_settle 12 = .ok (.getfield 27, 3) := by decide +kernel
theorem d_Rsa_settle_15 : decode b_Rsa_settle 15 = .ok (.iload_n 2, 1) := by decide +kernel
theorem d_Rsa_settle_16 : decode b_Rsa_settle 16 = .ok (.laload, 1) := by decide +kernel
theorem d_Rsa_settle_17 : decode b_Rsa_settle 17 = .ok (.aload_n 0, 1) := by decide +kernel
theorem d_Rsa_settle_18 : decode b_Rsa_settle 18 = .ok (.getfield 11, 3) := by decide +kernel
theorem d_Rsa_settle_21 : decode b_Rsa_settle 21 = .ok (.iload_n 2, 1) := by decide +kernel
theorem d_Rsa_settle_22 : decode b_Rsa_settle 22 = .ok (.laload, 1) := by decide +kernel
theorem d_Rsa_settle_23 : decode b_Rsa_settle 23 = .ok (.lcmp, 1) := by decide +kernel
theorem d_Rsa_settle_24 : decode b_Rsa_settle 24 = .ok (.ifCond .ne 9, 3) := by decide +kernel
theorem d_Rsa_settle_27 : decode b_Rsa_settle 27 = .ok (.iinc 2 (-1), 3) := by decide +kernel
theorem d_Rsa_settle_30 : decode b_Rsa_settle 30 = .ok (.goto (-23), 3) := by decide +kernel
theorem d_Rsa_settle_33 : decode b_Rsa_settle 33 = .ok (.aload_n 0, 1) := by decide +kernel
theorem d_Rsa_settle_34 : decode b_Rsa_settle 34 = .ok (.getfield 27, 3) := by decide +kernel
theorem d_Rsa_settle_37 : decode b_Rsa_settle 37 = .ok (.aload_n 0, 1) := by decide +kernel
theorem d_Rsa_settle_38 : decode b_Rsa_settle 38 = .ok (.getfield 30, 3) := by decide +kernel
theorem d_Rsa_settle_41 : decode b_Rsa_settle 41 = .ok (.laload, 1) := by decide +kernel
theorem d_Rsa_settle_42 : decode b_Rsa_settle 42 = .ok (.lconst 0, 1) := by decide +kernel
theorem d_Rsa_settle_43 : decode b_Rsa_settle 43 = .ok (.lcmp, 1) := by decide +kernel
theorem d_Rsa_settle_44 : decode b_Rsa_settle 44 = .ok (.ifCond .ne 19, 3) := by decide +kernel
theorem d_Rsa_settle_47 : decode b_Rsa_settle 47 = .ok (.aload_n 0, 1) := by decide +kernel
theorem d_Rsa_settle_48 : decode b_Rsa_settle 48 = .ok (.getfield 27, 3) := by decide +kernel
theorem d_Rsa_settle_51 : decode b_Rsa_settle 51 = .ok (.iload_n 2, 1) := by decide +kernel
theorem d_Rsa_settle_52 : decode b_Rsa_settle 52 = .ok (.laload, 1) := by decide +kernel
theorem d_Rsa_settle_53 : decode b_Rsa_settle 53 = .ok (.aload_n 0, 1) := by decide +kernel
theorem d_Rsa_settle_54 : decode b_Rsa_settle 54 = .ok (.getfield 11, 3) := by decide +kernel
theorem d_Rsa_settle_57 : decode b_Rsa_settle 57 = .ok (.iload_n 2, 1) := by decide +kernel
theorem d_Rsa_settle_58 : decode b_Rsa_settle 58 = .ok (.laload, 1) := by decide +kernel
theorem d_Rsa_settle_59 : decode b_Rsa_settle 59 = .ok (.lcmp, 1) := by decide +kernel
theorem d_Rsa_settle_60 : decode b_Rsa_settle 60 = .ok (.ifCond .lt 7, 3) := by decide +kernel
theorem d_Rsa_settle_63 : decode b_Rsa_settle 63 = .ok (.iconst 1, 1) := by decide +kernel
theorem d_Rsa_settle_64 : decode b_Rsa_settle 64 = .ok (.goto 4, 3) := by decide +kernel
theorem d_Rsa_settle_67 : decode b_Rsa_settle 67 = .ok (.iconst 0, 1) := by decide +kernel
theorem d_Rsa_settle_68 : decode b_Rsa_settle 68 = .ok (.istore_n 3, 1) := by decide +kernel
theorem d_Rsa_settle_69 : decode b_Rsa_settle 69 = .ok (.lconst 0, 1) := by decide +kernel
theorem d_Rsa_settle_70 : decode b_Rsa_settle 70 = .ok (.lstore 4, 2) := by decide +kernel
theorem d_Rsa_settle_72 : decode b_Rsa_settle 72 = .ok (.iconst 0, 1) := by decide +kernel
theorem d_Rsa_settle_73 : decode b_Rsa_settle 73 = .ok (.istore 6, 2) := by decide +kernel
theorem d_Rsa_settle_75 : decode b_Rsa_settle 75 = .ok (.iload 6, 2) := by decide +kernel
theorem d_Rsa_settle_77 : decode b_Rsa_settle 77 = .ok (.aload_n 0, 1) := by decide +kernel
theorem d_Rsa_settle_78 : decode b_Rsa_settle 78 = .ok (.getfield 30, 3) := by decide +kernel
theorem d_Rsa_settle_81 : decode b_Rsa_settle 81 = .ok (.if_icmp .ge 61, 3) := by decide +kernel
theorem d_Rsa_settle_84 : decode b_Rsa_settle 84 = .ok (.aload_n 0, 1) := by decide +kernel
theorem d_Rsa_settle_85 : decode b_Rsa_settle 85 = .ok (.getfield 27, 3) := by decide +kernel
theorem d_Rsa_settle_88 : decode b_Rsa_settle 88 = .ok (.iload 6, 2) := by decide +kernel
theorem d_Rsa_settle_90 : decode b_Rsa_settle 90 = .ok (.laload, 1) := by decide +kernel
theorem d_Rsa_settle_91 : decode b_Rsa_settle 91 = .ok (.iload_n 3, 1) := by decide +kernel
theorem d_Rsa_settle_92 : decode b_Rsa_settle 92 = .ok (.ifCond .eq 13, 3) := by decide +kernel
theorem d_Rsa_settle_95 : decode b_Rsa_settle 95 = .ok (.aload_n 0, 1) := by decide +kernel
theorem d_Rsa_settle_96 : decode b_Rsa_settle 96 = .ok (.getfield 11, 3) := by decide +kernel
theorem d_Rsa_settle_99 : decode b_Rsa_settle 99 = .ok (.iload 6, 2) := by decide +kernel
theorem d_Rsa_settle_101 : decode b_Rsa_settle 101 = .ok (.laload, 1) := by decide +kernel
theorem d_Rsa_settle_102 : decode b_Rsa_settle 102 = .ok (.goto 4, 3) := by decide +kernel
theorem d_Rsa_settle_105 : decode b_Rsa_settle 105 = .ok (.lconst 0, 1) := by decide +kernel
theorem d_Rsa_settle_106 : decode b_Rsa_settle 106 = .ok (.lsub, 1) := by decide +kernel
theorem d_Rsa_settle_107 : decode b_Rsa_settle 107 = .ok (.lload 4, 2) := by decide +kernel
theorem d_Rsa_settle_109 : decode b_Rsa_settle 109 = .ok (.lsub, 1) := by decide +kernel
theorem d_Rsa_settle_110 : decode b_Rsa_settle 110 = .ok (.lstore 7, 2) := by decide +kernel
theorem d_Rsa_settle_112 : decode b_Rsa_settle 112 = .ok (.aload_n 1, 1) := by decide +kernel
theorem d_Rsa_settle_113 : decode b_Rsa_settle 113 = .ok (.iload 6, 2) := by decide +kernel
theorem d_Rsa_settle_115 : decode b_Rsa_settle 115 = .ok (.lload 7, 2) := by decide +kernel
theorem d_Rsa_settle_117 : decode b_Rsa_settle 117 = .ok (.ldc2_w 112, 3) := by decide +kernel
theorem d_Rsa_settle_120 : decode b_Rsa_settle 120 = .ok (.land, 1) := by decide +kernel
theorem d_Rsa_settle_121 : decode b_Rsa_settle 121 = .ok (.lastore, 1) := by decide +kernel
theorem d_Rsa_settle_122 : decode b_Rsa_settle 122 = .ok (.lload 7, 2) := by decide +kernel
theorem d_Rsa_settle_124 : decode b_Rsa_settle 124 = .ok (.lconst 0, 1) := by decide +kernel
theorem d_Rsa_settle_125 : decode b_Rsa_settle 125 = .ok (.lcmp, 1) := by decide +kernel
theorem d_Rsa_settle_126 : decode b_Rsa_settle 126 = .ok (.ifCond .ge 7, 3) := by decide +kernel
theorem d_Rsa_settle_129 : decode b_Rsa_settle 129 = .ok (.lconst 1, 1) := by decide +kernel
theorem d_Rsa_settle_130 : decode b_Rsa_settle 130 = .ok (.goto 4, 3) := by decide +kernel
theorem d_Rsa_settle_133 : decode b_Rsa_settle 133 = .ok (.lconst 0, 1) := by decide +kernel
theorem d_Rsa_settle_134 : decode b_Rsa_settle 134 = .ok (.lstore 4, 2) := by decide +kernel
theorem d_Rsa_settle_136 : decode b_Rsa_settle 136 = .ok (.iinc 6 1, 3) := by decide +kernel
theorem d_Rsa_settle_139 : decode b_Rsa_settle 139 = .ok (.goto (-64), 3) := by decide +kernel
theorem d_Rsa_settle_142 : decode b_Rsa_settle 142 = .ok (.return_, 1) := by decide +kernel
set_option maxHeartbeats 4000000 in
set_option maxRecDepth 100000 in
theorem m_Rsa_settle (l : Launch) (dC : Nat → ClassId) (dI : Nat → Nat → Nat) (sb : sB) (γ : cG) (κ : kE) (Ad : List Nat) (ν : Nat → cN) (ω : Nat → List Nat) (L : Nat) (G : va_W) (h g : Nat)  (sz : Nat) (hTy : TY γ κ Ad ν ω L G) (kh : tK κ Ad h (10, 0, 0)) (kg : tK κ Ad g (7, 64, 0)) (hL : L ≤ 64) (hL1 : 1 ≤ L) : Met l y_Rsa_settle w_Rsa_settle ({ frames := 0, cells := 0, slots := 0, locals := 0 }) (mu_P [.ref h, .ref g] (dC, dI) sb G [(γ.1, .byte), (γ.2.1, .int), (γ.2.2.1, .long), (γ.2.2.2, .object "java/lang/Object")] sz) (va_Qv (fun (G' : va_W) => TY γ κ Ad ν ω L G' ∧ FR Ad G G' ∧ (True)) (mu_B (dC, dI) [(γ.1, .byte), (γ.2.1, .int), (γ.2.2.1, .long), (γ.2.2.2, .object "java/lang/Object")] (va_A G sz) (fun G' : va_W => G')) (va_A G sz)) 0 0 (va_A G sz) := by
  refine Met.ofW (cc := b_Rsa_settle) (maxL := 9) (ret := none) (by decide) rfl ?_
  intro p e s m args below meth c s₁ B hml hv
  obtain ⟨rfl, hsz, hB0, hP, hK, hD0, hN, hT0⟩ := hv
  have hx := B.exec
  have hb := B.bytes
  have hr := B.returns
  have hts := atoms_spec (ws := w_Rsa_settle) B.pre
  have tbin : ∀ w ∈ tb, w ∈ w_Rsa_settle := fun w h => List.mem_cons_of_mem _ h
  have htb : ∀ w ∈ tb, w.before _ s = true := fun w h => hts w (tbin w h)
  have hown : s.vm.findClass "TrustChain$Rsa" = some m.cls := findClass_of_methodNamed B.named
  have hlocks := B.notSynchronized
  subst hsz
  have hD := hD0.self (sz := s.heap.size)
  generalize hAe : va_A G s.heap.size = A at hD ⊢
  have hA : ∀ q : Nat, s.heap.size ≤ q → A q := fun q h => by rw [← hAe]; exact Or.inr h
  have hAs : ∀ q : Nat, A q → sb.1 ≤ q := fun q h => by
    rw [← hAe] at h
    rcases h with ⟨k, e, h⟩ | h
    · exact hD0.2 k _ h
    · exact Nat.le_trans hB0 h
  have hS : va_S A s.heap s.heap [] := va_S.rf
  have hFR := FR.rf Ad G
  have hcs : 0 ≤ (headSpec w_Rsa_settle ({ frames := 0, cells := 0, slots := 0, locals := 0 })).room.cells ∧ 0 ≤ (headSpec w_Rsa_settle ({ frames := 0, cells := 0, slots := 0, locals := 0 })).room.slots := ⟨Nat.le_refl _, Nat.le_refl _⟩
  have hP : va_P (dC, dI) classes G s.heap := hP
  have hl := lv_entry ([.ref h, .ref g]) (n := 9) (Nat.le_of_ble_eq_true rfl)
  rw [lg_entry_eq]
  generalize (lg_sl ([.ref h, .ref g]) ++ List.replicate (9 - (lg_sl ([.ref h, .ref g])).length) Slot.unset).toArray = ls at hl ⊢
  have hl : lv_has ls 9 [(0, .ref h), (1, .ref g)] := hl
  refine lv_aload_n hx hb d_Rsa_settle_0 rfl (lv_at hl 0 rfl) ?_
  obtain ⟨i_1, mo_1, sq_1, ba_1, po_1, un_1, su_1, iv_1, kmo_1, ksq_1, kba_1, kpo_1, kun_1, ksu_1, hg_1⟩ := ty_10 hTy kh
  refine va_get (v := .int (nI L)) hx hb htb i_Rsa hown hK hP i_1 hg_1 rfl 6 (by decide) (htb _ q1_91) (fun _ h9 => h9) rfl d_Rsa_settle_1 ?_
  refine lv_iconst (v := 1) hx hb d_Rsa_settle_4 (by decide) ?_
  refine lv_isub hx hb d_Rsa_settle_5 ?_
  rw [show ((nI L) - 1 : Int32) = nI (L - 1) from pk_sub (a := L) (b := 1) (by omega)]
  refine lv_istore_n (lv' := [(2, .int (nI (L - 1))), (0, .ref h), (1, .ref g)]) hx hb d_Rsa_settle_6 rfl hl (by decide) rfl (fun ls hl => ?_)
  refine w_loopW (α := Nat × va_W) (fun a9 => a9.1 ≤ (L - 1) ∧ TY γ κ Ad ν ω L a9.2 ∧ FR Ad G a9.2) (fun a9 => a9.1) (fun a9 => [(2, .int (nI a9.1)), (0, .ref h), (1, .ref g)]) (fun _ => []) (fun a9 => a9.2) 9 7 (fun a9 HL7 locs ls hJ hP hD hS hl ih7 => ?_) ((L - 1), G) _ _ ls ⟨by omega, hTy, hFR⟩ hP hD hS (lv_sub hl [0, 1, 2] rfl)
  obtain ⟨z7, G7⟩ := a9
  obtain ⟨hz7, hTy, hFR⟩ := hJ
  dsimp only at hz7 hTy hFR hP hD hl ih7
  refine lv_iload_n hx hb d_Rsa_settle_7 rfl (lv_at hl 0 rfl) ?_
  refine lv_if_le (tgt := 33) hx hb d_Rsa_settle_8 (by decide) (fun c8 => ?_) (fun c8 => ?_)
  · have p8 : z7 ≤ 0 := ((nI_leI (a := z7) (b := 0) (by omega) (by omega)).mp c8)
    refine lv_aload_n hx hb d_Rsa_settle_33 rfl (lv_at hl 1 rfl) ?_
    obtain ⟨i_2, mo_2, sq_2, ba_2, po_2, un_2, su_2, iv_2, kmo_2, ksq_2, kba_2, kpo_2, kun_2, ksu_2, hg_2⟩ := ty_10 hTy kh
    refine va_get (v := .ref su_2) hx hb htb i_Rsa hown hK hP i_2 hg_2 rfl 5 (by decide) (htb _ q1_90) (fun _ h9 => h9) rfl d_Rsa_settle_34 ?_
    refine lv_aload_n hx hb d_Rsa_settle_37 rfl (lv_at hl 1 rfl) ?_
    refine va_get (v := .int (nI L)) hx hb htb i_Rsa hown hK hP i_2 hg_2 rfl 6 (by decide) (htb _ q1_91) (fun _ h9 => h9) rfl d_Rsa_settle_38 ?_
    obtain ⟨i_3, f_3, hn_3, hg_3⟩ := ty_7 hTy ksu_2
    have h41 : vp_in (nI L) 66 := vp_in_nI (by omega) (by omega)
    refine va_lald hx hb hK hP i_3 2 hg_3 rfl h41 d_Rsa_settle_41 ?_
    refine lv_topl (fun e41 he41 => ?_)
    refine lv_lconst (v := 0) hx hb d_Rsa_settle_42 (by decide) ?_
    refine W.lcmp hx hb d_Rsa_settle_43 ?_
    refine w_join (J := fun jv44 => bz jv44 (jv44 = 1)) (pc := 68) (ls := ls) (rest := []) (fun jv44 hjv44 => ?_) (fun k68 => ?_)
    · skip
      refine lv_istore_n (lv' := [(3, .int jv44), (2, .int (nI z7)), (0, .ref h), (1, .ref g)]) hx hb d_Rsa_settle_68 rfl hl (by decide) rfl (fun ls hl => ?_)
      refine lv_lconst (v := 0) hx hb d_Rsa_settle_69 (by decide) ?_
      refine lv_lstore (lv' := [(4, .long 0), (3, .int jv44), (2, .int (nI z7)), (0, .ref h), (1, .ref g)]) hx hb d_Rsa_settle_70 hl (by decide) rfl (fun ls hl => ?_)
      refine lv_iconst (v := 0) hx hb d_Rsa_settle_72 (by decide) ?_
      refine lv_istore (lv' := [(6, .int 0), (4, .long 0), (3, .int jv44), (2, .int (nI z7)), (0, .ref h), (1, .ref g)]) hx hb d_Rsa_settle_73 hl (by decide) rfl (fun ls hl => ?_)
      refine w_loopW (α := Nat × Int64 × va_W) (fun a9 => a9.1 ≤ L ∧ TY γ κ Ad ν ω L a9.2.2 ∧ FR Ad G a9.2.2) (fun a9 => L - a9.1) (fun a9 => [(6, .int (nI a9.1)), (4, .long a9.2.1), (3, .int jv44), (2, .int (nI z7)), (0, .ref h), (1, .ref g)]) (fun _ => []) (fun a9 => a9.2.2) 9 75 (fun a9 HL75 locs ls hJ hP hD hS hl ih75 => ?_) (0, (0 : Int64), G7) _ _ ls ⟨by omega, hTy, hFR⟩ hP hD hS (lv_sub hl [0, 1, 2, 3, 4, 5] rfl)
      obtain ⟨z75, x75_4, G75⟩ := a9
      obtain ⟨hz75, hTy, hFR⟩ := hJ
      dsimp only at hz75 hTy hFR hP hD hl ih75
      refine lv_iload hx hb d_Rsa_settle_75 (lv_at hl 0 rfl) ?_
      refine lv_aload_n hx hb d_Rsa_settle_77 rfl (lv_at hl 4 rfl) ?_
      obtain ⟨i_4, mo_4, sq_4, ba_4, po_4, un_4, su_4, iv_4, kmo_4, ksq_4, kba_4, kpo_4, kun_4, ksu_4, hg_4⟩ := ty_10 hTy kh
      refine va_get (v := .int (nI L)) hx hb htb i_Rsa hown hK hP i_4 hg_4 rfl 6 (by decide) (htb _ q1_91) (fun _ h9 => h9) rfl d_Rsa_settle_78 ?_
      refine lv_icmp_ge (tgt := 142) hx hb d_Rsa_settle_81 (by decide) (fun c81 => ?_) (fun c81 => ?_)
      · have p81 : L ≤ z75 := ((nI_leI (a := L) (b := z75) (by omega) (by omega)).mp c81)
        exact W.vret hx hb hr (fun t ht hW => ⟨⟨G75, rfl, ⟨hTy, hFR, trivial⟩, by rw [ht]; exact hP, va_K.moved hW.alike hK, hD⟩, hS.F ht⟩) hS.2.2 d_Rsa_settle_142
      · have p81 : ¬ (L ≤ z75) := (fun q9 => c81 ((nI_leI (a := L) (b := z75) (by omega) (by omega)).mpr q9))
        refine lv_aload_n hx hb d_Rsa_settle_84 rfl (lv_at hl 4 rfl) ?_
        refine va_get (v := .ref su_4) hx hb htb i_Rsa hown hK hP i_4 hg_4 rfl 5 (by decide) (htb _ q1_90) (fun _ h9 => h9) rfl d_Rsa_settle_85 ?_
        refine lv_iload hx hb d_Rsa_settle_88 (lv_at hl 0 rfl) ?_
        obtain ⟨i_5, f_5, hn_5, hg_5⟩ := ty_7 hTy ksu_4
        have h90 : vp_in (nI z75) 66 := vp_in_nI (by omega) (by omega)
        refine va_lald hx hb hK hP i_5 2 hg_5 rfl h90 d_Rsa_settle_90 ?_
        refine lv_topl (fun e90 he90 => ?_)
        refine lv_iload_n hx hb d_Rsa_settle_91 rfl (lv_at hl 2 rfl) ?_
        refine lv_if_eq (tgt := 105) hx hb d_Rsa_settle_92 (by decide) (fun c92 => ?_) (fun c92 => ?_)
        · have p92 : jv44 = (0 : Int32) := c92
          refine lv_lconst (v := 0) hx hb d_Rsa_settle_105 (by decide) ?_
          refine lv_lsub hx hb d_Rsa_settle_106 ?_
          refine lv_lload hx hb d_Rsa_settle_107 (lv_at hl 1 rfl) ?_
          refine lv_lsub hx hb d_Rsa_settle_109 ?_
          refine lv_topl (fun v110 ev110 => ?_)
          refine lv_lstore (lv' := [(7, .long v110), (6, .int (nI z75)), (4, .long x75_4), (3, .int jv44), (2, .int (nI z7)), (0, .ref h), (1, .ref g)]) hx hb d_Rsa_settle_110 hl (by decide) rfl (fun ls hl => ?_)
          refine lv_aload_n hx hb d_Rsa_settle_112 rfl (lv_at hl 6 rfl) ?_
          refine lv_iload hx hb d_Rsa_settle_113 (lv_at hl 1 rfl) ?_
          refine lv_lload hx hb d_Rsa_settle_115 (lv_at hl 0 rfl) ?_
          refine lv_ldc2 (v := 4294967295) hx hb hown (htb _ q5_202) d_Rsa_settle_117 ?_
          refine lv_land hx hb d_Rsa_settle_120 ?_
          obtain ⟨i_6, f_6, hn_6, hg_6⟩ := ty_7 hTy kg
          have h121 : vp_in (nI z75) 64 := vp_in_nI (by omega) (by omega)
          refine va_last hx hb hK hP hD hS i_6 2 hg_6 rfl h121 d_Rsa_settle_121 (fun H121 locs hP hD2 hS => ?_)
          have hP : va_P (dC, dI) classes (G75.set i_6 (g, .inl (γ.2.2.1, 64, .inr (.inl (vp_updL f_6 (nI z75).toNatClampNeg (v110 &&& 4294967295)))))) H121 := hP
          have hD3 : va_D A (G75.set i_6 (g, .inl (γ.2.2.1, 64, .inr (.inl (vp_updL f_6 (nI z75).toNatClampNeg (v110 &&& 4294967295)))))) := hD2
          have hFR := hFR.tr (FR.set (c' := .inl (γ.2.2.1, 64, .inr (.inl (vp_updL f_6 (nI z75).toNatClampNeg (v110 &&& 4294967295))))) hg_6 kg.1)
          have hTy := TY.set (c' := .inl (γ.2.2.1, 64, .inr (.inl (vp_updL f_6 (nI z75).toNatClampNeg (v110 &&& 4294967295))))) hTy hg_6 (ok_7 kg hn_6 _)
          have hD := hD3
          have hg_4 := set_keep (c' := .inl (γ.2.2.1, 64, .inr (.inl (vp_updL f_6 (nI z75).toNatClampNeg (v110 &&& 4294967295))))) hg_6 hg_4 (tK.ne kg kh (show (7 : Nat) ≠ 10 by decide))
          clear hD3 hD2
          generalize G75.set i_6 (g, .inl (γ.2.2.1, 64, .inr (.inl (vp_updL f_6 (nI z75).toNatClampNeg (v110 &&& 4294967295))))) = G_7 at hP hD hTy hFR hg_4
          refine lv_lload hx hb d_Rsa_settle_122 (lv_at hl 0 rfl) ?_
          refine lv_lconst (v := 0) hx hb d_Rsa_settle_124 (by decide) ?_
          refine W.lcmp hx hb d_Rsa_settle_125 ?_
          refine lv_if_ge (tgt := 133) hx hb d_Rsa_settle_126 (by decide) (fun c126 => ?_) (fun c126 => ?_)
          · have p126 : (0 : Int32) ≤ (lg_cmp v110 0) := c126
            refine lv_lconst (v := 0) hx hb d_Rsa_settle_133 (by decide) ?_
            refine lv_lstore (lv' := [(4, .long 0), (7, .long v110), (6, .int (nI z75)), (3, .int jv44), (2, .int (nI z7)), (0, .ref h), (1, .ref g)]) hx hb d_Rsa_settle_134 hl (by decide) rfl (fun ls hl => ?_)
            refine lv_iinc (v := nI (z75 + 1)) (lv' := [(6, .int (nI (z75 + 1))), (4, .long 0), (7, .long v110), (3, .int jv44), (2, .int (nI z7)), (0, .ref h), (1, .ref g)]) hx hb d_Rsa_settle_136 hl (k := 2) rfl (nI_1 _) (by decide) rfl (fun ls hl => ?_)
            refine lv_goto (tgt := 75) hx hb d_Rsa_settle_139 (by decide) ?_
            exact ih75 (z75 + 1, (0 : Int64), G_7) _ _ ls (by dsimp only; omega) ⟨by dsimp only; omega, hTy, hFR⟩ hP hD hS (lv_sub hl [0, 1, 3, 4, 5, 6] rfl)
          · have p126 : ¬ ((0 : Int32) ≤ (lg_cmp v110 0)) := c126
            refine lv_lconst (v := 1) hx hb d_Rsa_settle_129 (by decide) ?_
            refine lv_goto (tgt := 134) hx hb d_Rsa_settle_130 (by decide) ?_
            refine lv_lstore (lv' := [(4, .long 1), (7, .long v110), (6, .int (nI z75)), (3, .int jv44), (2, .int (nI z7)), (0, .ref h), (1, .ref g)]) hx hb d_Rsa_settle_134 hl (by decide) rfl (fun ls hl => ?_)
            refine lv_iinc (v := nI (z75 + 1)) (lv' := [(6, .int (nI (z75 + 1))), (4, .long 1), (7, .long v110), (3, .int jv44), (2, .int (nI z7)), (0, .ref h), (1, .ref g)]) hx hb d_Rsa_settle_136 hl (k := 2) rfl (nI_1 _) (by decide) rfl (fun ls hl => ?_)
            refine lv_goto (tgt := 75) hx hb d_Rsa_settle_139 (by decide) ?_
            exact ih75 (z75 + 1, (1 : Int64), G_7) _ _ ls (by dsimp only; omega) ⟨by dsimp only; omega, hTy, hFR⟩ hP hD hS (lv_sub hl [0, 1, 3, 4, 5, 6] rfl)
        · have p92 : ¬ (jv44 = (0 : Int32)) := c92
          refine lv_aload_n hx hb d_Rsa_settle_95 rfl (lv_at hl 4 rfl) ?_
          refine va_get (v := .ref mo_4) hx hb htb i_Rsa hown hK hP i_4 hg_4 rfl 0 (by decide) (htb _ q1_85) (fun _ h9 => h9) rfl d_Rsa_settle_96 ?_
          refine lv_iload hx hb d_Rsa_settle_99 (lv_at hl 0 rfl) ?_
          obtain ⟨i_8, f_8, hn_8, hg_8⟩ := ty_7 hTy kmo_4
          have h101 : vp_in (nI z75) 64 := vp_in_nI (by omega) (by omega)
          refine va_lald hx hb hK hP i_8 2 hg_8 rfl h101 d_Rsa_settle_101 ?_
          refine lv_topl (fun e101 he101 => ?_)
          refine lv_goto (tgt := 106) hx hb d_Rsa_settle_102 (by decide) ?_
          refine lv_lsub hx hb d_Rsa_settle_106 ?_
          refine lv_lload hx hb d_Rsa_settle_107 (lv_at hl 1 rfl) ?_
          refine lv_lsub hx hb d_Rsa_settle_109 ?_
          refine lv_topl (fun v110 ev110 => ?_)
          refine lv_lstore (lv' := [(7, .long v110), (6, .int (nI z75)), (4, .long x75_4), (3, .int jv44), (2, .int (nI z7)), (0, .ref h), (1, .ref g)]) hx hb d_Rsa_settle_110 hl (by decide) rfl (fun ls hl => ?_)
          refine lv_aload_n hx hb d_Rsa_settle_112 rfl (lv_at hl 6 rfl) ?_
          refine lv_iload hx hb d_Rsa_settle_113 (lv_at hl 1 rfl) ?_
          refine lv_lload hx hb d_Rsa_settle_115 (lv_at hl 0 rfl) ?_
          refine lv_ldc2 (v := 4294967295) hx hb hown (htb _ q5_202) d_Rsa_settle_117 ?_
          refine lv_land hx hb d_Rsa_settle_120 ?_
          obtain ⟨i_9, f_9, hn_9, hg_9⟩ := ty_7 hTy kg
          have h121 : vp_in (nI z75) 64 := vp_in_nI (by omega) (by omega)
          refine va_last hx hb hK hP hD hS i_9 2 hg_9 rfl h121 d_Rsa_settle_121 (fun H121 locs hP hD2 hS => ?_)
          have hP : va_P (dC, dI) classes (G75.set i_9 (g, .inl (γ.2.2.1, 64, .inr (.inl (vp_updL f_9 (nI z75).toNatClampNeg (v110 &&& 4294967295)))))) H121 := hP
          have hD3 : va_D A (G75.set i_9 (g, .inl (γ.2.2.1, 64, .inr (.inl (vp_updL f_9 (nI z75).toNatClampNeg (v110 &&& 4294967295)))))) := hD2
          have hFR := hFR.tr (FR.set (c' := .inl (γ.2.2.1, 64, .inr (.inl (vp_updL f_9 (nI z75).toNatClampNeg (v110 &&& 4294967295))))) hg_9 kg.1)
          have hTy := TY.set (c' := .inl (γ.2.2.1, 64, .inr (.inl (vp_updL f_9 (nI z75).toNatClampNeg (v110 &&& 4294967295))))) hTy hg_9 (ok_7 kg hn_9 _)
          have hD := hD3
          have hg_4 := set_keep (c' := .inl (γ.2.2.1, 64, .inr (.inl (vp_updL f_9 (nI z75).toNatClampNeg (v110 &&& 4294967295))))) hg_9 hg_4 (tK.ne kg kh (show (7 : Nat) ≠ 10 by decide))
          clear hD3 hD2
          generalize G75.set i_9 (g, .inl (γ.2.2.1, 64, .inr (.inl (vp_updL f_9 (nI z75).toNatClampNeg (v110 &&& 4294967295))))) = G_10 at hP hD hTy hFR hg_4
          refine lv_lload hx hb d_Rsa_settle_122 (lv_at hl 0 rfl) ?_
          refine lv_lconst (v := 0) hx hb d_Rsa_settle_124 (by decide) ?_
          refine W.lcmp hx hb d_Rsa_settle_125 ?_
          refine lv_if_ge (tgt := 133) hx hb d_Rsa_settle_126 (by decide) (fun c126 => ?_) (fun c126 => ?_)
          · have p126 : (0 : Int32) ≤ (lg_cmp v110 0) := c126
            refine lv_lconst (v := 0) hx hb d_Rsa_settle_133 (by decide) ?_
            refine lv_lstore (lv' := [(4, .long 0), (7, .long v110), (6, .int (nI z75)), (3, .int jv44), (2, .int (nI z7)), (0, .ref h), (1, .ref g)]) hx hb d_Rsa_settle_134 hl (by decide) rfl (fun ls hl => ?_)
            refine lv_iinc (v := nI (z75 + 1)) (lv' := [(6, .int (nI (z75 + 1))), (4, .long 0), (7, .long v110), (3, .int jv44), (2, .int (nI z7)), (0, .ref h), (1, .ref g)]) hx hb d_Rsa_settle_136 hl (k := 2) rfl (nI_1 _) (by decide) rfl (fun ls hl => ?_)
            refine lv_goto (tgt := 75) hx hb d_Rsa_settle_139 (by decide) ?_
            exact ih75 (z75 + 1, (0 : Int64), G_10) _ _ ls (by dsimp only; omega) ⟨by dsimp only; omega, hTy, hFR⟩ hP hD hS (lv_sub hl [0, 1, 3, 4, 5, 6] rfl)
          · have p126 : ¬ ((0 : Int32) ≤ (lg_cmp v110 0)) := c126
            refine lv_lconst (v := 1) hx hb d_Rsa_settle_129 (by decide) ?_
            refine lv_goto (tgt := 134) hx hb d_Rsa_settle_130 (by decide) ?_
            refine lv_lstore (lv' := [(4, .long 1), (7, .long v110), (6, .int (nI z75)), (3, .int jv44), (2, .int (nI z7)), (0, .ref h), (1, .ref g)]) hx hb d_Rsa_settle_134 hl (by decide) rfl (fun ls hl => ?_)
            refine lv_iinc (v := nI (z75 + 1)) (lv' := [(6, .int (nI (z75 + 1))), (4, .long 1), (7, .long v110), (3, .int jv44), (2, .int (nI z7)), (0, .ref h), (1, .ref g)]) hx hb d_Rsa_settle_136 hl (k := 2) rfl (nI_1 _) (by decide) rfl (fun ls hl => ?_)
            refine lv_goto (tgt := 75) hx hb d_Rsa_settle_139 (by decide) ?_
            exact ih75 (z75 + 1, (1 : Int64), G_10) _ _ ls (by dsimp only; omega) ⟨by dsimp only; omega, hTy, hFR⟩ hP hD hS (lv_sub hl [0, 1, 3, 4, 5, 6] rfl)
    · skip
      refine lv_if_ne (tgt := 63) hx hb d_Rsa_settle_44 (by decide) (fun c44 => ?_) (fun c44 => ?_)
      · have p44 : ¬ ((lg_cmp e41 0) = (0 : Int32)) := c44
        refine lv_iconst (v := 1) hx hb d_Rsa_settle_63 (by decide) ?_
        refine lv_goto (tgt := 68) hx hb d_Rsa_settle_64 (by decide) ?_
        exact k68 _ (bz_t rfl)
      · have p44 : (lg_cmp e41 0) = (0 : Int32) := c44
        refine lv_aload_n hx hb d_Rsa_settle_47 rfl (lv_at hl 1 rfl) ?_
        refine va_get (v := .ref su_2) hx hb htb i_Rsa hown hK hP i_2 hg_2 rfl 5 (by decide) (htb _ q1_90) (fun _ h9 => h9) rfl d_Rsa_settle_48 ?_
        refine lv_iload_n hx hb d_Rsa_settle_51 rfl (lv_at hl 0 rfl) ?_
        have h52 : vp_in (nI z7) 66 := vp_in_nI (by omega) (by omega)
        refine va_lald hx hb hK hP i_3 2 hg_3 rfl h52 d_Rsa_settle_52 ?_
        refine lv_topl (fun e52 he52 => ?_)
        refine lv_aload_n hx hb d_Rsa_settle_53 rfl (lv_at hl 1 rfl) ?_
        refine va_get (v := .ref mo_2) hx hb htb i_Rsa hown hK hP i_2 hg_2 rfl 0 (by decide) (htb _ q1_85) (fun _ h9 => h9) rfl d_Rsa_settle_54 ?_
        refine lv_iload_n hx hb d_Rsa_settle_57 rfl (lv_at hl 0 rfl) ?_
        obtain ⟨i_11, f_11, hn_11, hg_11⟩ := ty_7 hTy kmo_2
        have h58 : vp_in (nI z7) 64 := vp_in_nI (by omega) (by omega)
        refine va_lald hx hb hK hP i_11 2 hg_11 rfl h58 d_Rsa_settle_58 ?_
        refine lv_topl (fun e58 he58 => ?_)
        refine W.lcmp hx hb d_Rsa_settle_59 ?_
        refine lv_if_lt (tgt := 67) hx hb d_Rsa_settle_60 (by decide) (fun c60 => ?_) (fun c60 => ?_)
        · have p60 : (lg_cmp e52 e58) < (0 : Int32) := c60
          refine lv_iconst (v := 0) hx hb d_Rsa_settle_67 (by decide) ?_
          exact k68 _ (bz_f (by decide))
        · have p60 : ¬ ((lg_cmp e52 e58) < (0 : Int32)) := c60
          refine lv_iconst (v := 1) hx hb d_Rsa_settle_63 (by decide) ?_
          refine lv_goto (tgt := 68) hx hb d_Rsa_settle_64 (by decide) ?_
          exact k68 _ (bz_t rfl)
  · have p8 : ¬ (z7 ≤ 0) := (fun q9 => c8 ((nI_leI (a := z7) (b := 0) (by omega) (by omega)).mpr q9))
    refine lv_aload_n hx hb d_Rsa_settle_11 rfl (lv_at hl 1 rfl) ?_
    obtain ⟨i_12, mo_12, sq_12, ba_12, po_12, un_12, su_12, iv_12, kmo_12, ksq_12, kba_12, kpo_12, kun_12, ksu_12, hg_12⟩ := ty_10 hTy kh
    refine va_get (v := .ref su_12) hx hb htb i_Rsa hown hK hP i_12 hg_12 rfl 5 (by decide) (htb _ q1_90) (fun _ h9 => h9) rfl d_Rsa_settle_12 ?_
    refine lv_iload_n hx hb d_Rsa_settle_15 rfl (lv_at hl 0 rfl) ?_
    obtain ⟨i_13, f_13, hn_13, hg_13⟩ := ty_7 hTy ksu_12
    have h16 : vp_in (nI z7) 66 := vp_in_nI (by omega) (by omega)
    refine va_lald hx hb hK hP i_13 2 hg_13 rfl h16 d_Rsa_settle_16 ?_
    refine lv_topl (fun e16 he16 => ?_)
    refine lv_aload_n hx hb d_Rsa_settle_17 rfl (lv_at hl 1 rfl) ?_
    refine va_get (v := .ref mo_12) hx hb htb i_Rsa hown hK hP i_12 hg_12 rfl 0 (by decide) (htb _ q1_85) (fun _ h9 => h9) rfl d_Rsa_settle_18 ?_
    refine lv_iload_n hx hb d_Rsa_settle_21 rfl (lv_at hl 0 rfl) ?_
    obtain ⟨i_14, f_14, hn_14, hg_14⟩ := ty_7 hTy kmo_12
    have h22 : vp_in (nI z7) 64 := vp_in_nI (by omega) (by omega)
    refine va_lald hx hb hK hP i_14 2 hg_14 rfl h22 d_Rsa_settle_22 ?_
    refine lv_topl (fun e22 he22 => ?_)
    refine W.lcmp hx hb d_Rsa_settle_23 ?_
    refine lv_if_ne (tgt := 33) hx hb d_Rsa_settle_24 (by decide) (fun c24 => ?_) (fun c24 => ?_)
    · have p24 : ¬ ((lg_cmp e16 e22) = (0 : Int32)) := c24
      refine lv_aload_n hx hb d_Rsa_settle_33 rfl (lv_at hl 1 rfl) ?_
      refine va_get (v := .ref su_12) hx hb htb i_Rsa hown hK hP i_12 hg_12 rfl 5 (by decide) (htb _ q1_90) (fun _ h9 => h9) rfl d_Rsa_settle_34 ?_
      refine lv_aload_n hx hb d_Rsa_settle_37 rfl (lv_at hl 1 rfl) ?_
      refine va_get (v := .int (nI L)) hx hb htb i_Rsa hown hK hP i_12 hg_12 rfl 6 (by decide) (htb _ q1_91) (fun _ h9 => h9) rfl d_Rsa_settle_38 ?_
      have h41 : vp_in (nI L) 66 := vp_in_nI (by omega) (by omega)
      refine va_lald hx hb hK hP i_13 2 hg_13 rfl h41 d_Rsa_settle_41 ?_
      refine lv_topl (fun e41 he41 => ?_)
      refine lv_lconst (v := 0) hx hb d_Rsa_settle_42 (by decide) ?_
      refine W.lcmp hx hb d_Rsa_settle_43 ?_
      refine w_join (J := fun jv44 => bz jv44 (jv44 = 1)) (pc := 68) (ls := ls) (rest := []) (fun jv44 hjv44 => ?_) (fun k68 => ?_)
      · skip
        refine lv_istore_n (lv' := [(3, .int jv44), (2, .int (nI z7)), (0, .ref h), (1, .ref g)]) hx hb d_Rsa_settle_68 rfl hl (by decide) rfl (fun ls hl => ?_)
        refine lv_lconst (v := 0) hx hb d_Rsa_settle_69 (by decide) ?_
        refine lv_lstore (lv' := [(4, .long 0), (3, .int jv44), (2, .int (nI z7)), (0, .ref h), (1, .ref g)]) hx hb d_Rsa_settle_70 hl (by decide) rfl (fun ls hl => ?_)
        refine lv_iconst (v := 0) hx hb d_Rsa_settle_72 (by decide) ?_
        refine lv_istore (lv' := [(6, .int 0), (4, .long 0), (3, .int jv44), (2, .int (nI z7)), (0, .ref h), (1, .ref g)]) hx hb d_Rsa_settle_73 hl (by decide) rfl (fun ls hl => ?_)
        refine w_loopW (α := Nat × Int64 × va_W) (fun a9 => a9.1 ≤ L ∧ TY γ κ Ad ν ω L a9.2.2 ∧ FR Ad G a9.2.2) (fun a9 => L - a9.1) (fun a9 => [(6, .int (nI a9.1)), (4, .long a9.2.1), (3, .int jv44), (2, .int (nI z7)), (0, .ref h), (1, .ref g)]) (fun _ => []) (fun a9 => a9.2.2) 9 75 (fun a9 HL75 locs ls hJ hP hD hS hl ih75 => ?_) (0, (0 : Int64), G7) _ _ ls ⟨by omega, hTy, hFR⟩ hP hD hS (lv_sub hl [0, 1, 2, 3, 4, 5] rfl)
        obtain ⟨z75, x75_4, G75⟩ := a9
        obtain ⟨hz75, hTy, hFR⟩ := hJ
        dsimp only at hz75 hTy hFR hP hD hl ih75
        refine lv_iload hx hb d_Rsa_settle_75 (lv_at hl 0 rfl) ?_
        refine lv_aload_n hx hb d_Rsa_settle_77 rfl (lv_at hl 4 rfl) ?_
        obtain ⟨i_15, mo_15, sq_15, ba_15, po_15, un_15, su_15, iv_15, kmo_15, ksq_15, kba_15, kpo_15, kun_15, ksu_15, hg_15⟩ := ty_10 hTy kh
        refine va_get (v := .int (nI L)) hx hb htb i_Rsa hown hK hP i_15 hg_15 rfl 6 (by decide) (htb _ q1_91) (fun _ h9 => h9) rfl d_Rsa_settle_78 ?_
        refine lv_icmp_ge (tgt := 142) hx hb d_Rsa_settle_81 (by decide) (fun c81 => ?_) (fun c81 => ?_)
        · have p81 : L ≤ z75 := ((nI_leI (a := L) (b := z75) (by omega) (by omega)).mp c81)
          exact W.vret hx hb hr (fun t ht hW => ⟨⟨G75, rfl, ⟨hTy, hFR, trivial⟩, by rw [ht]; exact hP, va_K.moved hW.alike hK, hD⟩, hS.F ht⟩) hS.2.2 d_Rsa_settle_142
        · have p81 : ¬ (L ≤ z75) := (fun q9 => c81 ((nI_leI (a := L) (b := z75) (by omega) (by omega)).mpr q9))
          refine lv_aload_n hx hb d_Rsa_settle_84 rfl (lv_at hl 4 rfl) ?_
          refine va_get (v := .ref su_15) hx hb htb i_Rsa hown hK hP i_15 hg_15 rfl 5 (by decide) (htb _ q1_90) (fun _ h9 => h9) rfl d_Rsa_settle_85 ?_
          refine lv_iload hx hb d_Rsa_settle_88 (lv_at hl 0 rfl) ?_
          obtain ⟨i_16, f_16, hn_16, hg_16⟩ := ty_7 hTy ksu_15
          have h90 : vp_in (nI z75) 66 := vp_in_nI (by omega) (by omega)
          refine va_lald hx hb hK hP i_16 2 hg_16 rfl h90 d_Rsa_settle_90 ?_
          refine lv_topl (fun e90 he90 => ?_)
          refine lv_iload_n hx hb d_Rsa_settle_91 rfl (lv_at hl 2 rfl) ?_
          refine lv_if_eq (tgt := 105) hx hb d_Rsa_settle_92 (by decide) (fun c92 => ?_) (fun c92 => ?_)
          · have p92 : jv44 = (0 : Int32) := c92
            refine lv_lconst (v := 0) hx hb d_Rsa_settle_105 (by decide) ?_
            refine lv_lsub hx hb d_Rsa_settle_106 ?_
            refine lv_lload hx hb d_Rsa_settle_107 (lv_at hl 1 rfl) ?_
            refine lv_lsub hx hb d_Rsa_settle_109 ?_
            refine lv_topl (fun v110 ev110 => ?_)
            refine lv_lstore (lv' := [(7, .long v110), (6, .int (nI z75)), (4, .long x75_4), (3, .int jv44), (2, .int (nI z7)), (0, .ref h), (1, .ref g)]) hx hb d_Rsa_settle_110 hl (by decide) rfl (fun ls hl => ?_)
            refine lv_aload_n hx hb d_Rsa_settle_112 rfl (lv_at hl 6 rfl) ?_
            refine lv_iload hx hb d_Rsa_settle_113 (lv_at hl 1 rfl) ?_
            refine lv_lload hx hb d_Rsa_settle_115 (lv_at hl 0 rfl) ?_
            refine lv_ldc2 (v := 4294967295) hx hb hown (htb _ q5_202) d_Rsa_settle_117 ?_
            refine lv_land hx hb d_Rsa_settle_120 ?_
            obtain ⟨i_17, f_17, hn_17, hg_17⟩ := ty_7 hTy kg
            have h121 : vp_in (nI z75) 64 := vp_in_nI (by omega) (by omega)
            refine va_last hx hb hK hP hD hS i_17 2 hg_17 rfl h121 d_Rsa_settle_121 (fun H121 locs hP hD2 hS => ?_)
            have hP : va_P (dC, dI) classes (G75.set i_17 (g, .inl (γ.2.2.1, 64, .inr (.inl (vp_updL f_17 (nI z75).toNatClampNeg (v110 &&& 4294967295)))))) H121 := hP
            have hD3 : va_D A (G75.set i_17 (g, .inl (γ.2.2.1, 64, .inr (.inl (vp_updL f_17 (nI z75).toNatClampNeg (v110 &&& 4294967295)))))) := hD2
            have hFR := hFR.tr (FR.set (c' := .inl (γ.2.2.1, 64, .inr (.inl (vp_updL f_17 (nI z75).toNatClampNeg (v110 &&& 4294967295))))) hg_17 kg.1)
            have hTy := TY.set (c' := .inl (γ.2.2.1, 64, .inr (.inl (vp_updL f_17 (nI z75).toNatClampNeg (v110 &&& 4294967295))))) hTy hg_17 (ok_7 kg hn_17 _)
            have hD := hD3
            have hg_15 := set_keep (c' := .inl (γ.2.2.1, 64, .inr (.inl (vp_updL f_17 (nI z75).toNatClampNeg (v110 &&& 4294967295))))) hg_17 hg_15 (tK.ne kg kh (show (7 : Nat) ≠ 10 by decide))
            clear hD3 hD2
            generalize G75.set i_17 (g, .inl (γ.2.2.1, 64, .inr (.inl (vp_updL f_17 (nI z75).toNatClampNeg (v110 &&& 4294967295))))) = G_18 at hP hD hTy hFR hg_15
            refine lv_lload hx hb d_Rsa_settle_122 (lv_at hl 0 rfl) ?_
            refine lv_lconst (v := 0) hx hb d_Rsa_settle_124 (by decide) ?_
            refine W.lcmp hx hb d_Rsa_settle_125 ?_
            refine lv_if_ge (tgt := 133) hx hb d_Rsa_settle_126 (by decide) (fun c126 => ?_) (fun c126 => ?_)
            · have p126 : (0 : Int32) ≤ (lg_cmp v110 0) := c126
              refine lv_lconst (v := 0) hx hb d_Rsa_settle_133 (by decide) ?_
              refine lv_lstore (lv' := [(4, .long 0), (7, .long v110), (6, .int (nI z75)), (3, .int jv44), (2, .int (nI z7)), (0, .ref h), (1, .ref g)]) hx hb d_Rsa_settle_134 hl (by decide) rfl (fun ls hl => ?_)
              refine lv_iinc (v := nI (z75 + 1)) (lv' := [(6, .int (nI (z75 + 1))), (4, .long 0), (7, .long v110), (3, .int jv44), (2, .int (nI z7)), (0, .ref h), (1, .ref g)]) hx hb d_Rsa_settle_136 hl (k := 2) rfl (nI_1 _) (by decide) rfl (fun ls hl => ?_)
              refine lv_goto (tgt := 75) hx hb d_Rsa_settle_139 (by decide) ?_
              exact ih75 (z75 + 1, (0 : Int64), G_18) _ _ ls (by dsimp only; omega) ⟨by dsimp only; omega, hTy, hFR⟩ hP hD hS (lv_sub hl [0, 1, 3, 4, 5, 6] rfl)
            · have p126 : ¬ ((0 : Int32) ≤ (lg_cmp v110 0)) := c126
              refine lv_lconst (v := 1) hx hb d_Rsa_settle_129 (by decide) ?_
              refine lv_goto (tgt := 134) hx hb d_Rsa_settle_130 (by decide) ?_
              refine lv_lstore (lv' := [(4, .long 1), (7, .long v110), (6, .int (nI z75)), (3, .int jv44), (2, .int (nI z7)), (0, .ref h), (1, .ref g)]) hx hb d_Rsa_settle_134 hl (by decide) rfl (fun ls hl => ?_)
              refine lv_iinc (v := nI (z75 + 1)) (lv' := [(6, .int (nI (z75 + 1))), (4, .long 1), (7, .long v110), (3, .int jv44), (2, .int (nI z7)), (0, .ref h), (1, .ref g)]) hx hb d_Rsa_settle_136 hl (k := 2) rfl (nI_1 _) (by decide) rfl (fun ls hl => ?_)
              refine lv_goto (tgt := 75) hx hb d_Rsa_settle_139 (by decide) ?_
              exact ih75 (z75 + 1, (1 : Int64), G_18) _ _ ls (by dsimp only; omega) ⟨by dsimp only; omega, hTy, hFR⟩ hP hD hS (lv_sub hl [0, 1, 3, 4, 5, 6] rfl)
          · have p92 : ¬ (jv44 = (0 : Int32)) := c92
            refine lv_aload_n hx hb d_Rsa_settle_95 rfl (lv_at hl 4 rfl) ?_
            refine va_get (v := .ref mo_15) hx hb htb i_Rsa hown hK hP i_15 hg_15 rfl 0 (by decide) (htb _ q1_85) (fun _ h9 => h9) rfl d_Rsa_settle_96 ?_
            refine lv_iload hx hb d_Rsa_settle_99 (lv_at hl 0 rfl) ?_
            obtain ⟨i_19, f_19, hn_19, hg_19⟩ := ty_7 hTy kmo_15
            have h101 : vp_in (nI z75) 64 := vp_in_nI (by omega) (by omega)
            refine va_lald hx hb hK hP i_19 2 hg_19 rfl h101 d_Rsa_settle_101 ?_
            refine lv_topl (fun e101 he101 => ?_)
            refine lv_goto (tgt := 106) hx hb d_Rsa_settle_102 (by decide) ?_
            refine lv_lsub hx hb d_Rsa_settle_106 ?_
            refine lv_lload hx hb d_Rsa_settle_107 (lv_at hl 1 rfl) ?_
            refine lv_lsub hx hb d_Rsa_settle_109 ?_
            refine lv_topl (fun v110 ev110 => ?_)
            refine lv_lstore (lv' := [(7, .long v110), (6, .int (nI z75)), (4, .long x75_4), (3, .int jv44), (2, .int (nI z7)), (0, .ref h), (1, .ref g)]) hx hb d_Rsa_settle_110 hl (by decide) rfl (fun ls hl => ?_)
            refine lv_aload_n hx hb d_Rsa_settle_112 rfl (lv_at hl 6 rfl) ?_
            refine lv_iload hx hb d_Rsa_settle_113 (lv_at hl 1 rfl) ?_
            refine lv_lload hx hb d_Rsa_settle_115 (lv_at hl 0 rfl) ?_
            refine lv_ldc2 (v := 4294967295) hx hb hown (htb _ q5_202) d_Rsa_settle_117 ?_
            refine lv_land hx hb d_Rsa_settle_120 ?_
            obtain ⟨i_20, f_20, hn_20, hg_20⟩ := ty_7 hTy kg
            have h121 : vp_in (nI z75) 64 := vp_in_nI (by omega) (by omega)
            refine va_last hx hb hK hP hD hS i_20 2 hg_20 rfl h121 d_Rsa_settle_121 (fun H121 locs hP hD2 hS => ?_)
            have hP : va_P (dC, dI) classes (G75.set i_20 (g, .inl (γ.2.2.1, 64, .inr (.inl (vp_updL f_20 (nI z75).toNatClampNeg (v110 &&& 4294967295)))))) H121 := hP
            have hD3 : va_D A (G75.set i_20 (g, .inl (γ.2.2.1, 64, .inr (.inl (vp_updL f_20 (nI z75).toNatClampNeg (v110 &&& 4294967295)))))) := hD2
            have hFR := hFR.tr (FR.set (c' := .inl (γ.2.2.1, 64, .inr (.inl (vp_updL f_20 (nI z75).toNatClampNeg (v110 &&& 4294967295))))) hg_20 kg.1)
            have hTy := TY.set (c' := .inl (γ.2.2.1, 64, .inr (.inl (vp_updL f_20 (nI z75).toNatClampNeg (v110 &&& 4294967295))))) hTy hg_20 (ok_7 kg hn_20 _)
            have hD := hD3
            have hg_15 := set_keep (c' := .inl (γ.2.2.1, 64, .inr (.inl (vp_updL f_20 (nI z75).toNatClampNeg (v110 &&& 4294967295))))) hg_20 hg_15 (tK.ne kg kh (show (7 : Nat) ≠ 10 by decide))
            clear hD3 hD2
            generalize G75.set i_20 (g, .inl (γ.2.2.1, 64, .inr (.inl (vp_updL f_20 (nI z75).toNatClampNeg (v110 &&& 4294967295))))) = G_21 at hP hD hTy hFR hg_15
            refine lv_lload hx hb d_Rsa_settle_122 (lv_at hl 0 rfl) ?_
            refine lv_lconst (v := 0) hx hb d_Rsa_settle_124 (by decide) ?_
            refine W.lcmp hx hb d_Rsa_settle_125 ?_
            refine lv_if_ge (tgt := 133) hx hb d_Rsa_settle_126 (by decide) (fun c126 => ?_) (fun c126 => ?_)
            · have p126 : (0 : Int32) ≤ (lg_cmp v110 0) := c126
              refine lv_lconst (v := 0) hx hb d_Rsa_settle_133 (by decide) ?_
              refine lv_lstore (lv' := [(4, .long 0), (7, .long v110), (6, .int (nI z75)), (3, .int jv44), (2, .int (nI z7)), (0, .ref h), (1, .ref g)]) hx hb d_Rsa_settle_134 hl (by decide) rfl (fun ls hl => ?_)
              refine lv_iinc (v := nI (z75 + 1)) (lv' := [(6, .int (nI (z75 + 1))), (4, .long 0), (7, .long v110), (3, .int jv44), (2, .int (nI z7)), (0, .ref h), (1, .ref g)]) hx hb d_Rsa_settle_136 hl (k := 2) rfl (nI_1 _) (by decide) rfl (fun ls hl => ?_)
              refine lv_goto (tgt := 75) hx hb d_Rsa_settle_139 (by decide) ?_
              exact ih75 (z75 + 1, (0 : Int64), G_21) _ _ ls (by dsimp only; omega) ⟨by dsimp only; omega, hTy, hFR⟩ hP hD hS (lv_sub hl [0, 1, 3, 4, 5, 6] rfl)
            · have p126 : ¬ ((0 : Int32) ≤ (lg_cmp v110 0)) := c126
              refine lv_lconst (v := 1) hx hb d_Rsa_settle_129 (by decide) ?_
              refine lv_goto (tgt := 134) hx hb d_Rsa_settle_130 (by decide) ?_
              refine lv_lstore (lv' := [(4, .long 1), (7, .long v110), (6, .int (nI z75)), (3, .int jv44), (2, .int (nI z7)), (0, .ref h), (1, .ref g)]) hx hb d_Rsa_settle_134 hl (by decide) rfl (fun ls hl => ?_)
              refine lv_iinc (v := nI (z75 + 1)) (lv' := [(6, .int (nI (z75 + 1))), (4, .long 1), (7, .long v110), (3, .int jv44), (2, .int (nI z7)), (0, .ref h), (1, .ref g)]) hx hb d_Rsa_settle_136 hl (k := 2) rfl (nI_1 _) (by decide) rfl (fun ls hl => ?_)
              refine lv_goto (tgt := 75) hx hb d_Rsa_settle_139 (by decide) ?_
              exact ih75 (z75 + 1, (1 : Int64), G_21) _ _ ls (by dsimp only; omega) ⟨by dsimp only; omega, hTy, hFR⟩ hP hD hS (lv_sub hl [0, 1, 3, 4, 5, 6] rfl)
      · skip
        refine lv_if_ne (tgt := 63) hx hb d_Rsa_settle_44 (by decide) (fun c44 => ?_) (fun c44 => ?_)
        · have p44 : ¬ ((lg_cmp e41 0) = (0 : Int32)) := c44
          refine lv_iconst (v := 1) hx hb d_Rsa_settle_63 (by decide) ?_
          refine lv_goto (tgt := 68) hx hb d_Rsa_settle_64 (by decide) ?_
          exact k68 _ (bz_t rfl)
        · have p44 : (lg_cmp e41 0) = (0 : Int32) := c44
          refine lv_aload_n hx hb d_Rsa_settle_47 rfl (lv_at hl 1 rfl) ?_
          refine va_get (v := .ref su_12) hx hb htb i_Rsa hown hK hP i_12 hg_12 rfl 5 (by decide) (htb _ q1_90) (fun _ h9 => h9) rfl d_Rsa_settle_48 ?_
          refine lv_iload_n hx hb d_Rsa_settle_51 rfl (lv_at hl 0 rfl) ?_
          have h52 : vp_in (nI z7) 66 := vp_in_nI (by omega) (by omega)
          refine va_lald hx hb hK hP i_13 2 hg_13 rfl h52 d_Rsa_settle_52 ?_
          refine lv_topl (fun e52 he52 => ?_)
          refine lv_aload_n hx hb d_Rsa_settle_53 rfl (lv_at hl 1 rfl) ?_
          refine va_get (v := .ref mo_12) hx hb htb i_Rsa hown hK hP i_12 hg_12 rfl 0 (by decide) (htb _ q1_85) (fun _ h9 => h9) rfl d_Rsa_settle_54 ?_
          refine lv_iload_n hx hb d_Rsa_settle_57 rfl (lv_at hl 0 rfl) ?_
          have h58 : vp_in (nI z7) 64 := vp_in_nI (by omega) (by omega)
          refine va_lald hx hb hK hP i_14 2 hg_14 rfl h58 d_Rsa_settle_58 ?_
          refine lv_topl (fun e58 he58 => ?_)
          refine W.lcmp hx hb d_Rsa_settle_59 ?_
          refine lv_if_lt (tgt := 67) hx hb d_Rsa_settle_60 (by decide) (fun c60 => ?_) (fun c60 => ?_)
          · have p60 : (lg_cmp e52 e58) < (0 : Int32) := c60
            refine lv_iconst (v := 0) hx hb d_Rsa_settle_67 (by decide) ?_
            exact k68 _ (bz_f (by decide))
          · have p60 : ¬ ((lg_cmp e52 e58) < (0 : Int32)) := c60
            refine lv_iconst (v := 1) hx hb d_Rsa_settle_63 (by decide) ?_
            refine lv_goto (tgt := 68) hx hb d_Rsa_settle_64 (by decide) ?_
            exact k68 _ (bz_t rfl)
    · have p24 : (lg_cmp e16 e22) = (0 : Int32) := c24
      refine lv_iinc (v := nI (z7 - 1)) (lv' := [(2, .int (nI (z7 - 1))), (0, .ref h), (1, .ref g)]) hx hb d_Rsa_settle_27 hl (k := 0) rfl (nI_m1 (by omega)) (by decide) rfl (fun ls hl => ?_)
      refine lv_goto (tgt := 7) hx hb d_Rsa_settle_30 (by decide) ?_
      exact ih7 (z7 - 1, G7) _ _ ls (by dsimp only; omega) ⟨by dsimp only; omega, hTy, hFR⟩ hP hD hS (lv_sub hl [0, 1, 2] rfl)
def y_Rsa_multiply : MethodName := ⟨"TrustChain$Rsa", "multiply", "([J[J[J)V"⟩
abbrev b_Rsa_multiply : ByteArray := prog_9_method_7_code
def w_Rsa_multiply : List Cond := Cond.code y_Rsa_multiply b_Rsa_multiply 14 (none) :: tb
theorem d_Rsa_multiply_0 : decode b_Rsa_multiply 0 = .ok (.aload_n 0, 1) := by decide +kernel
theorem d_Rsa_multiply_1 : decode b_Rsa_multiply 1 = .ok (.getfield 27, 3) := by decide +kernel
theorem d_Rsa_multiply_4 : decode b_Rsa_multiply 4 = .ok (.lconst 0, 1) := by decide +kernel
theorem d_Rsa_multiply_5 : decode b_Rsa_multiply 5 = .ok (.invokestatic 100, 3) := by decide +kernel
theorem d_Rsa_multiply_8 : decode b_Rsa_multiply 8 = .ok (.iconst 0, 1) := by decide +kernel
theorem d_Rsa_multiply_9 : decode b_Rsa_multiply 9 = .ok (.istore 4, 2) := by decide +kernel
theorem d_Rsa_multiply_11 : decode b_Rsa_multiply 11 = .ok (.iload 4, 2) := by decide +kernel
theorem d_Rsa_multiply_13 : decode b_Rsa_multiply 13 = .ok (.aload_n 0, 1) := by decide +kernel
theorem d_Rsa_multiply_14 : decode b_Rsa_multiply 14 = .ok (.getfield 30, 3) := by decide +kernel
theorem d_Rsa_multiply_17 : decode b_Rsa_multiply 17 = .ok (.if_icmp .ge 225, 3) := by decide +kernel
theorem d_Rsa_multiply_20 : decode b_Rsa_multiply 20 = .ok (.lconst 0, 1) := by decide +kernel
theorem d_Rsa_multiply_21 : decode b_Rsa_multiply 21 = .ok (.lstore 5, 2) := by decide +kernel
theorem d_Rsa_multiply_23 : decode b_Rsa_multiply 23 = .ok (.iconst 0, 1) := by decide +kernel
theorem d_Rsa_multiply_24 : decode b_Rsa_multiply 24 = .ok (.istore 7, 2) := by decide +kernel
theorem d_Rsa_multiply_26 : decode b_Rsa_multiply 26 = .ok (.iload 7, 2) := by decide +kernel
theorem d_Rsa_multiply_28 : decode b_Rsa_multiply 28 = .ok (.aload_n 0, 1) := by decide +kernel
theorem d_Rsa_multiply_29 : decode b_Rsa_multiply 29 = .ok (.getfield 30, 3) := by decide +kernel
theorem d_Rsa_multiply_32 : decode b_Rsa_multiply 32 = .ok (.if_icmp .ge 51, 3) := by decide +kernel
theorem d_Rsa_multiply_35 : decode b_Rsa_multiply 35 = .ok (.aload_n 0, 1) := by decide +kernel
theorem d_Rsa_multiply_36 : decode b_Rsa_multiply 36 = .ok (.getfield 27, 3) := by decide +kernel
theorem d_Rsa_multiply_39 : decode b_Rsa_multiply 39 = .ok (.iload 7, 2) := by decide +kernel
theorem d_Rsa_multiply_41 : decode b_Rsa_multiply 41 = .ok (.laload, 1) := by decide +kernel
theorem d_Rsa_multiply_42 : decode b_Rsa_multiply 42 = .ok (.aload_n 1, 1) := by decide +kernel
theorem d_Rsa_multiply_43 : decode b_Rsa_multiply 43 = .ok (.iload 7, 2) := by decide +kernel
theorem d_Rsa_multiply_45 : decode b_Rsa_multiply 45 = .ok (.laload, 1) := by decide +kernel
theorem d_Rsa_multiply_46 : decode b_Rsa_multiply 46 = .ok (.aload_n 2, 1) := by decide +kernel
theorem d_Rsa_multiply_47 : decode b_Rsa_multiply 47 = .ok (.iload 4, 2) := by decide +kernel
theorem d_Rsa_multiply_49 : decode b_Rsa_multiply 49 = .ok (.laload, 1) := by decide +kernel
theorem d_Rsa_multiply_50 : decode b_Rsa_multiply 50 = .ok (.lmul, 1) := by decide +kernel
theorem d_Rsa_multiply_51 : decode b_Rsa_multiply 51 = .ok (.ladd, 1) := by decide +kernel
theorem d_Rsa_multiply_52 : decode b_Rsa_multiply 52 = .ok (.lload 5, 2) := by decide +kernel
theorem d_Rsa_multiply_54 : decode b_Rsa_multiply 54 = .ok (.ladd, 1) := by decide +kernel
theorem d_Rsa_multiply_55 : decode b_Rsa_multiply 55 = .ok (.lstore 8, 2) := by decide +kernel
theorem d_Rsa_multiply_57 : decode b_Rsa_multiply 57 = .ok (.aload_n 0, 1) := by decide +kernel
theorem d_Rsa_multiply_58 : decode b_Rsa_multiply 58 = .ok (.getfield 27, 3) := by decide +kernel
theorem d_Rsa_multiply_61 : decode b_Rsa_multiply 61 = .ok (.iload 7, 2) := by decide +kernel
theorem d_Rsa_multiply_63 : decode b_Rsa_multiply 63 = .ok (.lload 8, 2) := by decide +kernel
theorem d_Rsa_multiply_65 : decode b_Rsa_multiply 65 = .ok (.ldc2_w 112, 3) := by decide +kernel
theorem d_Rsa_multiply_68 : decode b_Rsa_multiply 68 = .ok (.land, 1) := by decide +kernel
theorem d_Rsa_multiply_69 : decode b_Rsa_multiply 69 = .ok (.lastore, 1) := by decide +kernel
theorem d_Rsa_multiply_70 : decode b_Rsa_multiply 70 = .ok (.lload 8, 2) := by decide +kernel
theorem d_Rsa_multiply_72 : decode b_Rsa_multiply 72 = .ok (.bipush 32, 2) := by decide +kernel
theorem d_Rsa_multiply_74 : decode b_Rsa_multiply 74 = .ok (.lushr, 1) := by decide +kernel
theorem d_Rsa_multiply_75 : decode b_Rsa_multiply 75 = .ok (.lstore 5, 2) := by decide +kernel
theorem d_Rsa_multiply_77 : decode b_Rsa_multiply 77 = .ok (.iinc 7 1, 3) := by decide +kernel
theorem d_Rsa_multiply_80 : decode b_Rsa_multiply 80 = .ok (.goto (-54), 3) := by decide +kernel
theorem d_Rsa_multiply_83 : decode b_Rsa_multiply 83 = .ok (.aload_n 0, 1) := by decide +kernel
theorem d_Rsa_multiply_84 : decode b_Rsa_multiply 84 = .ok (.getfield 27, 3) := by decide +kernel
theorem d_Rsa_multiply_87 : decode b_Rsa_multiply 87 = .ok (.aload_n 0, 1) := by decide +kernel
theorem d_Rsa_multiply_88 : decode b_Rsa_multiply 88 = .ok (.getfield 30, 3) := by decide +kernel
theorem d_Rsa_multiply_91 : decode b_Rsa_multiply 91 = .ok (.laload, 1) := by decide +kernel
theorem d_Rsa_multiply_92 : decode b_Rsa_multiply 92 = .ok (.lload 5, 2) := by decide +kernel
theorem d_Rsa_multiply_94 : decode b_Rsa_multiply 94 = .ok (.ladd, 1) := by decide +kernel
theorem d_Rsa_multiply_95 : decode b_Rsa_multiply 95 = .ok (.lstore 7, 2) := by decide +kernel
theorem d_Rsa_multiply_97 : decode b_Rsa_multiply 97 = .ok (.aload_n 0, 1) := by decide +kernel
theorem d_Rsa_multiply_98 : decode b_Rsa_multiply 98 = .ok (.getfield 27, 3) := by decide +kernel
theorem d_Rsa_multiply_101 : decode b_Rsa_multiply 101 = .ok (.iconst 0, 1) := by decide +kernel
theorem d_Rsa_multiply_102 : decode b_Rsa_multiply 102 = .ok (.laload, 1) := by decide +kernel
theorem d_Rsa_multiply_103 : decode b_Rsa_multiply 103 = .ok (.aload_n 0, 1) := by decide +kernel
theorem d_Rsa_multiply_104 : decode b_Rsa_multiply 104 = .ok (.getfield 34, 3) := by decide +kernel
theorem d_Rsa_multiply_107 : decode b_Rsa_multiply 107 = .ok (.lmul, 1) := by decide +kernel
theorem d_Rsa_multiply_108 : decode b_Rsa_multiply 108 = .ok (.ldc2_w 112, 3) := by decide +kernel
theorem d_Rsa_multiply_111 : decode b_Rsa_multiply 111 = .ok (.land, 1) := by decide +kernel
theorem d_Rsa_multiply_112 : decode b_Rsa_multiply 112 = .ok (.lstore 9, 2) := by decide +kernel
theorem d_Rsa_multiply_114 : decode b_Rsa_multiply 114 = .ok (.aload_n 0, 1) := by decide +kernel
theorem d_Rsa_multiply_115 : decode b_Rsa_multiply 115 = .ok (.getfield 27, 3) := by decide +kernel
theorem d_Rsa_multiply_118 : decode b_Rsa_multiply 118 = .ok (.iconst 0, 1) := by decide +kernel
theorem d_Rsa_multiply_119 : decode b_Rsa_multiply 119 = .ok (.laload, 1) := by decide +kernel
theorem d_Rsa_multiply_120 : decode b_Rsa_multiply 120 = .ok (.lload 9, 2) := by decide +kernel
theorem d_Rsa_multiply_122 : decode b_Rsa_multiply 122 = .ok (.aload_n 0, 1) := by decide +kernel
theorem d_Rsa_multiply_123 : decode b_Rsa_multiply 123 = .ok (.getfield 11, 3) := by decide +kernel
theorem d_Rsa_multiply_126 : decode b_Rsa_multiply 126 = .ok (.iconst 0, 1) := by decide +kernel
theorem d_Rsa_multiply_127 : decode b_Rsa_multiply 127 = .ok (.laload, 1) := by decide +kernel
theorem d_Rsa_multiply_128 : decode b_Rsa_multiply 128 = .ok (.lmul, 1) := by decide +kernel
theorem d_Rsa_multiply_129 : decode b_Rsa_multiply 129 = .ok (.ladd, 1) := by decide +kernel
theorem d_Rsa_multiply_130 : decode b_Rsa_multiply 130 = .ok (.bipush 32, 2) := by decide +kernel
theorem d_Rsa_multiply_132 : decode b_Rsa_multiply 132 = .ok (.lushr, 1) := by decide +kernel
theorem d_Rsa_multiply_133 : decode b_Rsa_multiply 133 = .ok (.lstore 5, 2) := by decide +kernel
theorem d_Rsa_multiply_135 : decode b_Rsa_multiply 135 = .ok (.iconst 1, 1) := by decide +kernel
theorem d_Rsa_multiply_136 : decode b_Rsa_multiply 136 = .ok (.istore 11, 2) := by decide +kernel
theorem d_Rsa_multiply_138 : decode b_Rsa_multiply 138 = .ok (.iload 11, 2) := by decide +kernel
theorem d_Rsa_multiply_140 : decode b_Rsa_multiply 140 = .ok (.aload_n 0, 1) := by decide +kernel
theorem d_Rsa_multiply_141 : decode b_Rsa_multiply 141 = .ok (.getfield 30, 3) := by decide +kernel
theorem d_Rsa_multiply_144 : decode b_Rsa_multiply 144 = .ok (.if_icmp .ge 54, 3) := by decide +kernel
theorem d_Rsa_multiply_147 : decode b_Rsa_multiply 147 = .ok (.aload_n 0, 1) := by decide +kernel
theorem d_Rsa_multiply_148 : decode b_Rsa_multiply 148 = .ok (.getfield 27, 3) := by decide +kernel
theorem d_Rsa_multiply_151 : decode b_Rsa_multiply 151 = .ok (.iload 11, 2) := by decide +kernel
theorem d_Rsa_multiply_153 : decode b_Rsa_multiply 153 = .ok (.laload, 1) := by decide +kernel
theorem d_Rsa_multiply_154 : decode b_Rsa_multiply 154 = .ok (.lload 9, 2) := by decide +kernel
theorem d_Rsa_multiply_156 : decode b_Rsa_multiply 156 = .ok (.aload_n 0, 1) := by decide +kernel
theorem d_Rsa_multiply_157 : decode b_Rsa_multiply 157 = .ok (.getfield 11, 3) := by decide +kernel
theorem d_Rsa_multiply_160 : decode b_Rsa_multiply 160 = .ok (.iload 11, 2) := by decide +kernel
theorem d_Rsa_multiply_162 : decode b_Rsa_multiply 162 = .ok (.laload, 1) := by decide +kernel
theorem d_Rsa_multiply_163 : decode b_Rsa_multiply 163 = .ok (.lmul, 1) := by decide +kernel
theorem d_Rsa_multiply_164 : decode b_Rsa_multiply 164 = .ok (.ladd, 1) := by decide +kernel
theorem d_Rsa_multiply_165 : decode b_Rsa_multiply 165 = .ok (.lload 5, 2) := by decide +kernel
theorem d_Rsa_multiply_167 : decode b_Rsa_multiply 167 = .ok (.ladd, 1) := by decide +kernel
theorem d_Rsa_multiply_168 : decode b_Rsa_multiply 168 = .ok (.lstore 12, 2) := by decide +kernel
theorem d_Rsa_multiply_170 : decode b_Rsa_multiply 170 = .ok (.aload_n 0, 1) := by decide +kernel
theorem d_Rsa_multiply_171 : decode b_Rsa_multiply 171 = .ok (.getfield 27, 3) := by decide +kernel
theorem d_Rsa_multiply_174 : decode b_Rsa_multiply 174 = .ok (.iload 11, 2) := by decide +kernel
theorem d_Rsa_multiply_176 : decode b_Rsa_multiply 176 = .ok (.iconst 1, 1) := by decide +kernel
theorem d_Rsa_multiply_177 : decode b_Rsa_multiply 177 = .ok (.isub, 1) := by decide +kernel
theorem d_Rsa_multiply_178 : decode b_Rsa_multiply 178 = .ok (.lload 12, 2) := by decide +kernel
theorem d_Rsa_multiply_180 : decode b_Rsa_multiply 180 = .ok (.ldc2_w 112, 3) := by decide +kernel
theorem d_Rsa_multiply_183 : decode b_Rsa_multiply 183 = .ok (.land, 1) := by decide +kernel
theorem d_Rsa_multiply_184 : decode b_Rsa_multiply 184 = .ok (.lastore, 1) := by decide +kernel
theorem d_Rsa_multiply_185 : decode b_Rsa_multiply 185 = .ok (.lload 12, 2) := by decide +kernel
theorem d_Rsa_multiply_187 : decode b_Rsa_multiply 187 = .ok (.bipush 32, 2) := by decide +kernel
theorem d_Rsa_multiply_189 : decode b_Rsa_multiply 189 = .ok (.lushr, 1) := by decide +kernel
theorem d_Rsa_multiply_190 : decode b_Rsa_multiply 190 = .ok (.lstore 5, 2) := by decide +kernel
theorem d_Rsa_multiply_192 : decode b_Rsa_multiply 192 = .ok (.iinc 11 1, 3) := by decide +kernel
theorem d_Rsa_multiply_195 : decode b_Rsa_multiply 195 = .ok (.goto (-57), 3) := by decide +kernel
theorem d_Rsa_multiply_198 : decode b_Rsa_multiply 198 = .ok (.lload 7, 2) := by decide +kernel
theorem d_Rsa_multiply_200 : decode b_Rsa_multiply 200 = .ok (.lload 5, 2) := by decide +kernel
theorem d_Rsa_multiply_202 : decode b_Rsa_multiply 202 = .ok (.ladd, 1) := by decide +kernel
theorem d_Rsa_multiply_203 : decode b_Rsa_multiply 203 = .ok (.lstore 7, 2) := by decide +kernel
theorem d_Rsa_multiply_205 : decode b_Rsa_multiply 205 = .ok (.aload_n 0, 1) := by decide +kernel
theorem d_Rsa_multiply_206 : decode b_Rsa_multiply 206 = .ok (.getfield 27, 3) := by decide +kernel
theorem d_Rsa_multiply_209 : decode b_Rsa_multiply 209 = .ok (.aload_n 0, 1) := by decide +kernel
theorem d_Rsa_multiply_210 : decode b_Rsa_multiply 210 = .ok (.getfield 30, 3) := by decide +kernel
theorem d_Rsa_multiply_213 : decode b_Rsa_multiply 213 = .ok (.iconst 1, 1) := by decide +kernel
theorem d_Rsa_multiply_214 : decode b_Rsa_multiply 214 = .ok (.isub, 1) := by decide +kernel
theorem d_Rsa_multiply_215 : decode b_Rsa_multiply 215 = .ok (.lload 7, 2) := by decide +kernel
theorem d_Rsa_multiply_217 : decode b_Rsa_multiply 217 = .ok (.ldc2_w 112, 3) := by decide +kernel
theorem d_Rsa_multiply_220 : decode b_Rsa_multiply 220 = .ok (.land, 1) := by decide +kernel
theorem d_Rsa_multiply_221 : decode b_Rsa_multiply 221 = .ok (.lastore, 1) := by decide +kernel
theorem d_Rsa_multiply_222 : decode b_Rsa_multiply 222 = .ok (.aload_n 0, 1) := by decide +kernel
theorem d_Rsa_multiply_223 : decode b_Rsa_multiply 223 = .ok (.getfield 27, 3) := by decide +kernel
theorem d_Rsa_multiply_226 : decode b_Rsa_multiply 226 = .ok (.aload_n 0, 1) := by decide +kernel
theorem d_Rsa_multiply_227 : decode b_Rsa_multiply 227 = .ok (.getfield 30, 3) := by decide +kernel
theorem d_Rsa_multiply_230 : decode b_Rsa_multiply 230 = .ok (.lload 7, 2) := by decide +kernel
theorem d_Rsa_multiply_232 : decode b_Rsa_multiply 232 = .ok (.bipush 32, 2) := by decide +kernel
theorem d_Rsa_multiply_234 : decode b_Rsa_multiply 234 = .ok (.lushr, 1) := by decide +kernel
theorem d_Rsa_multiply_235 : decode b_Rsa_multiply 235 = .ok (.lastore, 1) := by decide +kernel
theorem d_Rsa_multiply_236 : decode b_Rsa_multiply 236 = .ok (.iinc 4 1, 3) := by decide +kernel
theorem d_Rsa_multiply_239 : decode b_Rsa_multiply 239 = .ok (.goto (-228), 3) := by decide +kernel
theorem d_Rsa_multiply_242 : decode b_Rsa_multiply 242 = .ok (.aload_n 0, 1) := by decide +kernel
theorem d_Rsa_multiply_243 : decode b_Rsa_multiply 243 = .ok (.aload_n 3, 1) := by decide +kernel
theorem d_Rsa_multiply_244 : decode b_Rsa_multiply 244 = .ok (.invokevirtual 123, 3) := by decide +kernel
theorem d_Rsa_multiply_247 : decode b_Rsa_multiply 247 = .ok (.return_, 1) := by decide +kernel
set_option maxHeartbeats 4000000 in
set_option maxRecDepth 100000 in
theorem m_Rsa_multiply (l : Launch) (dC : Nat → ClassId) (dI : Nat → Nat → Nat) (sb : sB) (γ : cG) (κ : kE) (Ad : List Nat) (ν : Nat → cN) (ω : Nat → List Nat) (L : Nat) (G : va_W) (h a b g : Nat)  (sz : Nat) (hTy : TY γ κ Ad ν ω L G) (kh : tK κ Ad h (10, 0, 0)) (ka : tK κ Ad a (7, 64, 0)) (kb : tK κ Ad b (7, 64, 0)) (kg : tK κ Ad g (7, 64, 0)) (hL : L ≤ 64) (hL1 : 1 ≤ L) : Met l y_Rsa_multiply w_Rsa_multiply ({ frames := 1, cells := 0, slots := 0, locals := 28 }) (mu_P [.ref h, .ref a, .ref b, .ref g] (dC, dI) sb G [(γ.1, .byte), (γ.2.1, .int), (γ.2.2.1, .long), (γ.2.2.2, .object "java/lang/Object")] sz) (va_Qv (fun (G' : va_W) => TY γ κ Ad ν ω L G' ∧ FR Ad G G' ∧ (True)) (mu_B (dC, dI) [(γ.1, .byte), (γ.2.1, .int), (γ.2.2.1, .long), (γ.2.2.2, .object "java/lang/Object")] (va_A G sz) (fun G' : va_W => G')) (va_A G sz)) 0 0 (va_A G sz) := by
  refine Met.ofW (cc := b_Rsa_multiply) (maxL := 14) (ret := none) (by decide) rfl ?_
  intro p e s m args below meth c s₁ B hml hv
  obtain ⟨rfl, hsz, hB0, hP, hK, hD0, hN, hT0⟩ := hv
  have hx := B.exec
  have hb := B.bytes
  have hr := B.returns
  have hts := atoms_spec (ws := w_Rsa_multiply) B.pre
  have tbin : ∀ w ∈ tb, w ∈ w_Rsa_multiply := fun w h => List.mem_cons_of_mem _ h
  have htb : ∀ w ∈ tb, w.before _ s = true := fun w h => hts w (tbin w h)
  have hown : s.vm.findClass "TrustChain$Rsa" = some m.cls := findClass_of_methodNamed B.named
  have hlocks := B.notSynchronized
  subst hsz
  have hD := hD0.self (sz := s.heap.size)
  generalize hAe : va_A G s.heap.size = A at hD ⊢
  have hA : ∀ q : Nat, s.heap.size ≤ q → A q := fun q h => by rw [← hAe]; exact Or.inr h
  have hAs : ∀ q : Nat, A q → sb.1 ≤ q := fun q h => by
    rw [← hAe] at h
    rcases h with ⟨k, e, h⟩ | h
    · exact hD0.2 k _ h
    · exact Nat.le_trans hB0 h
  have hS : va_S A s.heap s.heap [] := va_S.rf
  have hFR := FR.rf Ad G
  have hcs : 0 ≤ (headSpec w_Rsa_multiply ({ frames := 1, cells := 0, slots := 0, locals := 28 })).room.cells ∧ 0 ≤ (headSpec w_Rsa_multiply ({ frames := 1, cells := 0, slots := 0, locals := 28 })).room.slots := ⟨Nat.le_refl _, Nat.le_refl _⟩
  have hP : va_P (dC, dI) classes G s.heap := hP
  have hl := lv_entry ([.ref h, .ref a, .ref b, .ref g]) (n := 14) (Nat.le_of_ble_eq_true rfl)
  rw [lg_entry_eq]
  generalize (lg_sl ([.ref h, .ref a, .ref b, .ref g]) ++ List.replicate (14 - (lg_sl ([.ref h, .ref a, .ref b, .ref g])).length) Slot.unset).toArray = ls at hl ⊢
  have hl : lv_has ls 14 [(0, .ref h), (1, .ref a), (2, .ref b), (3, .ref g)] := hl
  refine lv_aload_n hx hb d_Rsa_multiply_0 rfl (lv_at hl 0 rfl) ?_
  obtain ⟨i_1, mo_1, sq_1, ba_1, po_1, un_1, su_1, iv_1, kmo_1, ksq_1, kba_1, kpo_1, kun_1, ksu_1, hg_1⟩ := ty_10 hTy kh
  refine va_get (v := .ref su_1) hx hb htb i_Rsa hown hK hP i_1 hg_1 rfl 5 (by decide) (htb _ q1_90) (fun _ h9 => h9) rfl d_Rsa_multiply_1 ?_
  refine lv_lconst (v := 0) hx hb d_Rsa_multiply_4 (by decide) ?_
  have hFc := va_free (wc := G) hD hS hA (List.range G.length) (rg_is _)
  refine va_callv (mu_runS (As := [.ref su_1, .long 0]) (rest := []) ⟨hx, hb, hml, hown, hts⟩ tbin (m_fill l dC dI sb γ κ Ad ν ω L G su_1 _ _ s.heap.size hTy ksu_1 (by omega)) q5_189 q5_190 q1_17 q5_191 (n := 2) (by decide +kernel) rfl ⟨rfl, rfl⟩ ⟨Nat.le_of_ble_eq_true rfl, Nat.le_of_ble_eq_true rfl⟩ ⟨Nat.le_of_ble_eq_true rfl, Nat.le_of_ble_eq_true rfl⟩ hN (hT0.keep hS hAs) hAs (Nat.le_trans hB0 hS.1) hK hP hD (List.range G.length) (rg_nd _) (rg_is _) [0, 1, 2, 3] rfl hl.1 rfl (Nat.le_of_ble_eq_true rfl) d_Rsa_multiply_5) hS (fun q _ h => hFc q h) hFc (fun G_2 tS H5 locs ht hvm hw5 hB hz1 hk1 hS => ?_)
  obtain ⟨hTy, hF9, hr5⟩ := hw5
  have hFR := hFR.tr hF9
  obtain ⟨hP1, hK1, hD1⟩ := hB
  rw [ht] at hP1
  have hP : va_P (dC, dI) classes G_2 H5 := hP1
  have hD : va_D A G_2 := hD1.weaken (fun _ _ _ h => hFc _ h)
  refine lv_iconst (v := 0) hx hb d_Rsa_multiply_8 (by decide) ?_
  refine lv_istore (lv' := [(4, .int 0), (0, .ref h), (1, .ref a), (2, .ref b), (3, .ref g)]) hx hb d_Rsa_multiply_9 hl (by decide) rfl (fun ls hl => ?_)
  refine w_loopW (α := Nat × va_W) (fun a9 => a9.1 ≤ L ∧ TY γ κ Ad ν ω L a9.2 ∧ FR Ad G a9.2) (fun a9 => L - a9.1) (fun a9 => [(4, .int (nI a9.1)), (0, .ref h), (1, .ref a), (2, .ref b), (3, .ref g)]) (fun _ => []) (fun a9 => a9.2) 14 11 (fun a9 HL11 locs ls hJ hP hD hS hl ih11 => ?_) (0, G_2) _ _ ls ⟨by omega, hTy, hFR⟩ hP hD hS (lv_sub hl [0, 1, 2, 3, 4] rfl)
  obtain ⟨z11, G11⟩ := a9
  obtain ⟨hz11, hTy, hFR⟩ := hJ
  dsimp only at hz11 hTy hFR hP hD hl ih11
  refine lv_iload hx hb d_Rsa_multiply_11 (lv_at hl 0 rfl) ?_
  refine lv_aload_n hx hb d_Rsa_multiply_13 rfl (lv_at hl 1 rfl) ?_
  obtain ⟨i_3, mo_3, sq_3, ba_3, po_3, un_3, su_3, iv_3, kmo_3, ksq_3, kba_3, kpo_3, kun_3, ksu_3, hg_3⟩ := ty_10 hTy kh
  refine va_get (v := .int (nI L)) hx hb htb i_Rsa hown hK hP i_3 hg_3 rfl 6 (by decide) (htb _ q1_91) (fun _ h9 => h9) rfl d_Rsa_multiply_14 ?_
  refine lv_icmp_ge (tgt := 242) hx hb d_Rsa_multiply_17 (by decide) (fun c17 => ?_) (fun c17 => ?_)
  · have p17 : L ≤ z11 := ((nI_leI (a := L) (b := z11) (by omega) (by omega)).mp c17)
    refine lv_aload_n hx hb d_Rsa_multiply_242 rfl (lv_at hl 1 rfl) ?_
    refine lv_aload_n hx hb d_Rsa_multiply_243 rfl (lv_at hl 4 rfl) ?_
    have hFc := va_free (wc := G11) hD hS hA (List.range G11.length) (rg_is _)
    refine va_callv (mu_runV (As := [.ref g]) (rest := []) ⟨hx, hb, hml, hown, hts⟩ tbin (m_Rsa_settle l dC dI sb γ κ Ad ν ω L G11 h g  HL11.size hTy kh kg hL hL1) q5_205 q5_207 qp_24 q1_6 q5_208 (n := 1) (by decide +kernel) rfl ⟨rfl, rfl⟩ ⟨Nat.le_of_ble_eq_true rfl, Nat.le_of_ble_eq_true rfl⟩ ⟨Nat.le_of_ble_eq_true rfl, Nat.le_of_ble_eq_true rfl⟩ hN (hT0.keep hS hAs) hAs (Nat.le_trans hB0 hS.1) hK hP hD (List.range G11.length) (rg_nd _) (rg_is _) [0, 1, 2, 3] rfl i_3 7 hg_3 rfl rfl hl.1 rfl (Nat.le_of_ble_eq_true rfl) d_Rsa_multiply_244) hS (fun q _ h => hFc q h) hFc (fun G_4 tS H244 locs ht hvm hw244 hB hz1 hk1 hS => ?_)
    obtain ⟨hTy, hF9, hr244⟩ := hw244
    have hFR := hFR.tr hF9
    obtain ⟨hP1, hK1, hD1⟩ := hB
    rw [ht] at hP1
    have hP : va_P (dC, dI) classes G_4 H244 := hP1
    have hD : va_D A G_4 := hD1.weaken (fun _ _ _ h => hFc _ h)
    exact W.vret hx hb hr (fun t ht hW => ⟨⟨G_4, rfl, ⟨hTy, hFR, trivial⟩, by rw [ht]; exact hP, va_K.moved hW.alike hK, hD⟩, hS.F ht⟩) hS.2.2 d_Rsa_multiply_247
  · have p17 : ¬ (L ≤ z11) := (fun q9 => c17 ((nI_leI (a := L) (b := z11) (by omega) (by omega)).mpr q9))
    refine lv_lconst (v := 0) hx hb d_Rsa_multiply_20 (by decide) ?_
    refine lv_lstore (lv' := [(5, .long 0), (4, .int (nI z11)), (0, .ref h), (1, .ref a), (2, .ref b), (3, .ref g)]) hx hb d_Rsa_multiply_21 hl (by decide) rfl (fun ls hl => ?_)
    refine lv_iconst (v := 0) hx hb d_Rsa_multiply_23 (by decide) ?_
    refine lv_istore (lv' := [(7, .int 0), (5, .long 0), (4, .int (nI z11)), (0, .ref h), (1, .ref a), (2, .ref b), (3, .ref g)]) hx hb d_Rsa_multiply_24 hl (by decide) rfl (fun ls hl => ?_)
    refine w_loopW (α := Nat × Int64 × va_W) (fun a9 => a9.1 ≤ L ∧ TY γ κ Ad ν ω L a9.2.2 ∧ FR Ad G a9.2.2) (fun a9 => L - a9.1) (fun a9 => [(7, .int (nI a9.1)), (5, .long a9.2.1), (4, .int (nI z11)), (0, .ref h), (1, .ref a), (2, .ref b), (3, .ref g)]) (fun _ => []) (fun a9 => a9.2.2) 14 26 (fun a9 HL26 locs ls hJ hP hD hS hl ih26 => ?_) (0, (0 : Int64), G11) _ _ ls ⟨by omega, hTy, hFR⟩ hP hD hS (lv_sub hl [0, 1, 2, 3, 4, 5, 6] rfl)
    obtain ⟨z26, x26_5, G26⟩ := a9
    obtain ⟨hz26, hTy, hFR⟩ := hJ
    dsimp only at hz26 hTy hFR hP hD hl ih26
    refine lv_iload hx hb d_Rsa_multiply_26 (lv_at hl 0 rfl) ?_
    refine lv_aload_n hx hb d_Rsa_multiply_28 rfl (lv_at hl 3 rfl) ?_
    obtain ⟨i_5, mo_5, sq_5, ba_5, po_5, un_5, su_5, iv_5, kmo_5, ksq_5, kba_5, kpo_5, kun_5, ksu_5, hg_5⟩ := ty_10 hTy kh
    refine va_get (v := .int (nI L)) hx hb htb i_Rsa hown hK hP i_5 hg_5 rfl 6 (by decide) (htb _ q1_91) (fun _ h9 => h9) rfl d_Rsa_multiply_29 ?_
    refine lv_icmp_ge (tgt := 83) hx hb d_Rsa_multiply_32 (by decide) (fun c32 => ?_) (fun c32 => ?_)
    · have p32 : L ≤ z26 := ((nI_leI (a := L) (b := z26) (by omega) (by omega)).mp c32)
      refine lv_aload_n hx hb d_Rsa_multiply_83 rfl (lv_at hl 3 rfl) ?_
      refine va_get (v := .ref su_5) hx hb htb i_Rsa hown hK hP i_5 hg_5 rfl 5 (by decide) (htb _ q1_90) (fun _ h9 => h9) rfl d_Rsa_multiply_84 ?_
      refine lv_aload_n hx hb d_Rsa_multiply_87 rfl (lv_at hl 3 rfl) ?_
      refine va_get (v := .int (nI L)) hx hb htb i_Rsa hown hK hP i_5 hg_5 rfl 6 (by decide) (htb _ q1_91) (fun _ h9 => h9) rfl d_Rsa_multiply_88 ?_
      obtain ⟨i_6, f_6, hn_6, hg_6⟩ := ty_7 hTy ksu_5
      have h91 : vp_in (nI L) 66 := vp_in_nI (by omega) (by omega)
      refine va_lald hx hb hK hP i_6 2 hg_6 rfl h91 d_Rsa_multiply_91 ?_
      refine lv_topl (fun e91 he91 => ?_)
      refine lv_lload hx hb d_Rsa_multiply_92 (lv_at hl 1 rfl) ?_
      refine lv_ladd hx hb d_Rsa_multiply_94 ?_
      refine lv_topl (fun v95 ev95 => ?_)
      refine lv_lstore (lv' := [(7, .long v95), (5, .long x26_5), (4, .int (nI z11)), (0, .ref h), (1, .ref a), (2, .ref b), (3, .ref g)]) hx hb d_Rsa_multiply_95 hl (by decide) rfl (fun ls hl => ?_)
      refine lv_aload_n hx hb d_Rsa_multiply_97 rfl (lv_at hl 3 rfl) ?_
      refine va_get (v := .ref su_5) hx hb htb i_Rsa hown hK hP i_5 hg_5 rfl 5 (by decide) (htb _ q1_90) (fun _ h9 => h9) rfl d_Rsa_multiply_98 ?_
      refine lv_iconst (v := 0) hx hb d_Rsa_multiply_101 (by decide) ?_
      have h102 : vp_in (0 : Int32) 66 := (by unfold vp_in; decide)
      refine va_lald hx hb hK hP i_6 2 hg_6 rfl h102 d_Rsa_multiply_102 ?_
      refine lv_topl (fun e102 he102 => ?_)
      refine lv_aload_n hx hb d_Rsa_multiply_103 rfl (lv_at hl 3 rfl) ?_
      refine va_get (v := .long iv_5) hx hb htb i_Rsa hown hK hP i_5 hg_5 rfl 7 (by decide) (htb _ q1_92) (fun _ h9 => h9) rfl d_Rsa_multiply_104 ?_
      refine lv_lmul hx hb d_Rsa_multiply_107 ?_
      refine lv_ldc2 (v := 4294967295) hx hb hown (htb _ q5_202) d_Rsa_multiply_108 ?_
      refine lv_land hx hb d_Rsa_multiply_111 ?_
      refine lv_topl (fun v112 ev112 => ?_)
      refine lv_lstore (lv' := [(9, .long v112), (7, .long v95), (5, .long x26_5), (4, .int (nI z11)), (0, .ref h), (1, .ref a), (2, .ref b), (3, .ref g)]) hx hb d_Rsa_multiply_112 hl (by decide) rfl (fun ls hl => ?_)
      refine lv_aload_n hx hb d_Rsa_multiply_114 rfl (lv_at hl 4 rfl) ?_
      refine va_get (v := .ref su_5) hx hb htb i_Rsa hown hK hP i_5 hg_5 rfl 5 (by decide) (htb _ q1_90) (fun _ h9 => h9) rfl d_Rsa_multiply_115 ?_
      refine lv_iconst (v := 0) hx hb d_Rsa_multiply_118 (by decide) ?_
      have h119 : vp_in (0 : Int32) 66 := (by unfold vp_in; decide)
      refine va_lald hx hb hK hP i_6 2 hg_6 rfl h119 d_Rsa_multiply_119 ?_
      refine lv_topl (fun e119 he119 => ?_)
      refine lv_lload hx hb d_Rsa_multiply_120 (lv_at hl 0 rfl) ?_
      refine lv_aload_n hx hb d_Rsa_multiply_122 rfl (lv_at hl 4 rfl) ?_
      refine va_get (v := .ref mo_5) hx hb htb i_Rsa hown hK hP i_5 hg_5 rfl 0 (by decide) (htb _ q1_85) (fun _ h9 => h9) rfl d_Rsa_multiply_123 ?_
      refine lv_iconst (v := 0) hx hb d_Rsa_multiply_126 (by decide) ?_
      obtain ⟨i_7, f_7, hn_7, hg_7⟩ := ty_7 hTy kmo_5
      have h127 : vp_in (0 : Int32) 64 := (by unfold vp_in; decide)
      refine va_lald hx hb hK hP i_7 2 hg_7 rfl h127 d_Rsa_multiply_127 ?_
      refine lv_topl (fun e127 he127 => ?_)
      refine lv_lmul hx hb d_Rsa_multiply_128 ?_
      refine lv_ladd hx hb d_Rsa_multiply_129 ?_
      refine lv_bipush (v := 32) hx hb d_Rsa_multiply_130 (by decide) ?_
      refine lv_lushr (v := ((e119 + (v112 * e127)).toUInt64 >>> ((32 : Int32).toInt64.toUInt64 &&& Int64.toUInt64 63)).toInt64) hx hb d_Rsa_multiply_132 rfl ?_
      refine lv_topl (fun v133 ev133 => ?_)
      refine lv_lstore (lv' := [(5, .long v133), (9, .long v112), (7, .long v95), (4, .int (nI z11)), (0, .ref h), (1, .ref a), (2, .ref b), (3, .ref g)]) hx hb d_Rsa_multiply_133 hl (by decide) rfl (fun ls hl => ?_)
      refine lv_iconst (v := 1) hx hb d_Rsa_multiply_135 (by decide) ?_
      refine lv_istore (lv' := [(11, .int 1), (5, .long v133), (9, .long v112), (7, .long v95), (4, .int (nI z11)), (0, .ref h), (1, .ref a), (2, .ref b), (3, .ref g)]) hx hb d_Rsa_multiply_136 hl (by decide) rfl (fun ls hl => ?_)
      refine w_loopW (α := Nat × Int64 × va_W) (fun a9 => a9.1 ≤ L ∧ TY γ κ Ad ν ω L a9.2.2 ∧ FR Ad G a9.2.2 ∧ (1 ≤ a9.1)) (fun a9 => L - a9.1) (fun a9 => [(11, .int (nI a9.1)), (5, .long a9.2.1), (9, .long v112), (7, .long v95), (4, .int (nI z11)), (0, .ref h), (1, .ref a), (2, .ref b), (3, .ref g)]) (fun _ => []) (fun a9 => a9.2.2) 14 138 (fun a9 HL138 locs ls hJ hP hD hS hl ih138 => ?_) (1, v133, G26) _ _ ls ⟨by omega, hTy, hFR, by omega⟩ hP hD hS (lv_sub hl [0, 1, 2, 3, 4, 5, 6, 7, 8] rfl)
      obtain ⟨z138, x138_5, G138⟩ := a9
      obtain ⟨hz138, hTy, hFR, hJ138⟩ := hJ
      dsimp only at hz138 hTy hFR hP hD hl ih138 hJ138
      refine lv_iload hx hb d_Rsa_multiply_138 (lv_at hl 0 rfl) ?_
      refine lv_aload_n hx hb d_Rsa_multiply_140 rfl (lv_at hl 5 rfl) ?_
      obtain ⟨i_8, mo_8, sq_8, ba_8, po_8, un_8, su_8, iv_8, kmo_8, ksq_8, kba_8, kpo_8, kun_8, ksu_8, hg_8⟩ := ty_10 hTy kh
      refine va_get (v := .int (nI L)) hx hb htb i_Rsa hown hK hP i_8 hg_8 rfl 6 (by decide) (htb _ q1_91) (fun _ h9 => h9) rfl d_Rsa_multiply_141 ?_
      refine lv_icmp_ge (tgt := 198) hx hb d_Rsa_multiply_144 (by decide) (fun c144 => ?_) (fun c144 => ?_)
      · have p144 : L ≤ z138 := ((nI_leI (a := L) (b := z138) (by omega) (by omega)).mp c144)
        refine lv_lload hx hb d_Rsa_multiply_198 (lv_at hl 3 rfl) ?_
        refine lv_lload hx hb d_Rsa_multiply_200 (lv_at hl 1 rfl) ?_
        refine lv_ladd hx hb d_Rsa_multiply_202 ?_
        refine lv_topl (fun v203 ev203 => ?_)
        refine lv_lstore (lv' := [(7, .long v203), (11, .int (nI z138)), (5, .long x138_5), (9, .long v112), (4, .int (nI z11)), (0, .ref h), (1, .ref a), (2, .ref b), (3, .ref g)]) hx hb d_Rsa_multiply_203 hl (by decide) rfl (fun ls hl => ?_)
        refine lv_aload_n hx hb d_Rsa_multiply_205 rfl (lv_at hl 5 rfl) ?_
        refine va_get (v := .ref su_8) hx hb htb i_Rsa hown hK hP i_8 hg_8 rfl 5 (by decide) (htb _ q1_90) (fun _ h9 => h9) rfl d_Rsa_multiply_206 ?_
        refine lv_aload_n hx hb d_Rsa_multiply_209 rfl (lv_at hl 5 rfl) ?_
        refine va_get (v := .int (nI L)) hx hb htb i_Rsa hown hK hP i_8 hg_8 rfl 6 (by decide) (htb _ q1_91) (fun _ h9 => h9) rfl d_Rsa_multiply_210 ?_
        refine lv_iconst (v := 1) hx hb d_Rsa_multiply_213 (by decide) ?_
        refine lv_isub hx hb d_Rsa_multiply_214 ?_
        rw [show ((nI L) - 1 : Int32) = nI (L - 1) from pk_sub (a := L) (b := 1) (by omega)]
        refine lv_lload hx hb d_Rsa_multiply_215 (lv_at hl 0 rfl) ?_
        refine lv_ldc2 (v := 4294967295) hx hb hown (htb _ q5_202) d_Rsa_multiply_217 ?_
        refine lv_land hx hb d_Rsa_multiply_220 ?_
        obtain ⟨i_9, f_9, hn_9, hg_9⟩ := ty_7 hTy ksu_8
        have h221 : vp_in (nI (L - 1)) 66 := vp_in_nI (by omega) (by omega)
        refine va_last hx hb hK hP hD hS i_9 2 hg_9 rfl h221 d_Rsa_multiply_221 (fun H221 locs hP hD2 hS => ?_)
        have hP : va_P (dC, dI) classes (G138.set i_9 (su_8, .inl (γ.2.2.1, 66, .inr (.inl (vp_updL f_9 (nI (L - 1)).toNatClampNeg (v203 &&& 4294967295)))))) H221 := hP
        have hD3 : va_D A (G138.set i_9 (su_8, .inl (γ.2.2.1, 66, .inr (.inl (vp_updL f_9 (nI (L - 1)).toNatClampNeg (v203 &&& 4294967295)))))) := hD2
        have hFR := hFR.tr (FR.set (c' := .inl (γ.2.2.1, 66, .inr (.inl (vp_updL f_9 (nI (L - 1)).toNatClampNeg (v203 &&& 4294967295))))) hg_9 ksu_8.1)
        have hTy := TY.set (c' := .inl (γ.2.2.1, 66, .inr (.inl (vp_updL f_9 (nI (L - 1)).toNatClampNeg (v203 &&& 4294967295))))) hTy hg_9 (ok_7 ksu_8 hn_9 _)
        have hD := hD3
        have hg_8 := set_keep (c' := .inl (γ.2.2.1, 66, .inr (.inl (vp_updL f_9 (nI (L - 1)).toNatClampNeg (v203 &&& 4294967295))))) hg_9 hg_8 (tK.ne ksu_8 kh (show (7 : Nat) ≠ 10 by decide))
        clear hD3 hD2
        generalize G138.set i_9 (su_8, .inl (γ.2.2.1, 66, .inr (.inl (vp_updL f_9 (nI (L - 1)).toNatClampNeg (v203 &&& 4294967295))))) = G_10 at hP hD hTy hFR hg_8
        refine lv_aload_n hx hb d_Rsa_multiply_222 rfl (lv_at hl 5 rfl) ?_
        refine va_get (v := .ref su_8) hx hb htb i_Rsa hown hK hP i_8 hg_8 rfl 5 (by decide) (htb _ q1_90) (fun _ h9 => h9) rfl d_Rsa_multiply_223 ?_
        refine lv_aload_n hx hb d_Rsa_multiply_226 rfl (lv_at hl 5 rfl) ?_
        refine va_get (v := .int (nI L)) hx hb htb i_Rsa hown hK hP i_8 hg_8 rfl 6 (by decide) (htb _ q1_91) (fun _ h9 => h9) rfl d_Rsa_multiply_227 ?_
        refine lv_lload hx hb d_Rsa_multiply_230 (lv_at hl 0 rfl) ?_
        refine lv_bipush (v := 32) hx hb d_Rsa_multiply_232 (by decide) ?_
        refine lv_lushr (v := (v203.toUInt64 >>> ((32 : Int32).toInt64.toUInt64 &&& Int64.toUInt64 63)).toInt64) hx hb d_Rsa_multiply_234 rfl ?_
        obtain ⟨i_11, f_11, hn_11, hg_11⟩ := ty_7 hTy ksu_8
        have h235 : vp_in (nI L) 66 := vp_in_nI (by omega) (by omega)
        refine va_last hx hb hK hP hD hS i_11 2 hg_11 rfl h235 d_Rsa_multiply_235 (fun H235 locs hP hD2 hS => ?_)
        have hP : va_P (dC, dI) classes (G_10.set i_11 (su_8, .inl (γ.2.2.1, 66, .inr (.inl (vp_updL f_11 (nI L).toNatClampNeg ((v203.toUInt64 >>> ((32 : Int32).toInt64.toUInt64 &&& Int64.toUInt64 63)).toInt64)))))) H235 := hP
        have hD3 : va_D A (G_10.set i_11 (su_8, .inl (γ.2.2.1, 66, .inr (.inl (vp_updL f_11 (nI L).toNatClampNeg ((v203.toUInt64 >>> ((32 : Int32).toInt64.toUInt64 &&& Int64.toUInt64 63)).toInt64)))))) := hD2
        have hFR := hFR.tr (FR.set (c' := .inl (γ.2.2.1, 66, .inr (.inl (vp_updL f_11 (nI L).toNatClampNeg ((v203.toUInt64 >>> ((32 : Int32).toInt64.toUInt64 &&& Int64.toUInt64 63)).toInt64))))) hg_11 ksu_8.1)
        have hTy := TY.set (c' := .inl (γ.2.2.1, 66, .inr (.inl (vp_updL f_11 (nI L).toNatClampNeg ((v203.toUInt64 >>> ((32 : Int32).toInt64.toUInt64 &&& Int64.toUInt64 63)).toInt64))))) hTy hg_11 (ok_7 ksu_8 hn_11 _)
        have hD := hD3
        have hg_8 := set_keep (c' := .inl (γ.2.2.1, 66, .inr (.inl (vp_updL f_11 (nI L).toNatClampNeg ((v203.toUInt64 >>> ((32 : Int32).toInt64.toUInt64 &&& Int64.toUInt64 63)).toInt64))))) hg_11 hg_8 (tK.ne ksu_8 kh (show (7 : Nat) ≠ 10 by decide))
        clear hD3 hD2
        generalize G_10.set i_11 (su_8, .inl (γ.2.2.1, 66, .inr (.inl (vp_updL f_11 (nI L).toNatClampNeg ((v203.toUInt64 >>> ((32 : Int32).toInt64.toUInt64 &&& Int64.toUInt64 63)).toInt64))))) = G_12 at hP hD hTy hFR hg_8
        refine lv_iinc (v := nI (z11 + 1)) (lv' := [(4, .int (nI (z11 + 1))), (7, .long v203), (11, .int (nI z138)), (5, .long x138_5), (9, .long v112), (0, .ref h), (1, .ref a), (2, .ref b), (3, .ref g)]) hx hb d_Rsa_multiply_236 hl (k := 4) rfl (nI_1 _) (by decide) rfl (fun ls hl => ?_)
        refine lv_goto (tgt := 11) hx hb d_Rsa_multiply_239 (by decide) ?_
        exact ih11 (z11 + 1, G_12) _ _ ls (by dsimp only; omega) ⟨by dsimp only; omega, hTy, hFR⟩ hP hD hS (lv_sub hl [0, 5, 6, 7, 8] rfl)
      · have p144 : ¬ (L ≤ z138) := (fun q9 => c144 ((nI_leI (a := L) (b := z138) (by omega) (by omega)).mpr q9))
        refine lv_aload_n hx hb d_Rsa_multiply_147 rfl (lv_at hl 5 rfl) ?_
        refine va_get (v := .ref su_8) hx hb htb i_Rsa hown hK hP i_8 hg_8 rfl 5 (by decide) (htb _ q1_90) (fun _ h9 => h9) rfl d_Rsa_multiply_148 ?_
        refine lv_iload hx hb d_Rsa_multiply_151 (lv_at hl 0 rfl) ?_
        obtain ⟨i_13, f_13, hn_13, hg_13⟩ := ty_7 hTy ksu_8
        have h153 : vp_in (nI z138) 66 := vp_in_nI (by omega) (by omega)
        refine va_lald hx hb hK hP i_13 2 hg_13 rfl h153 d_Rsa_multiply_153 ?_
        refine lv_topl (fun e153 he153 => ?_)
        refine lv_lload hx hb d_Rsa_multiply_154 (lv_at hl 2 rfl) ?_
        refine lv_aload_n hx hb d_Rsa_multiply_156 rfl (lv_at hl 5 rfl) ?_
        refine va_get (v := .ref mo_8) hx hb htb i_Rsa hown hK hP i_8 hg_8 rfl 0 (by decide) (htb _ q1_85) (fun _ h9 => h9) rfl d_Rsa_multiply_157 ?_
        refine lv_iload hx hb d_Rsa_multiply_160 (lv_at hl 0 rfl) ?_
        obtain ⟨i_14, f_14, hn_14, hg_14⟩ := ty_7 hTy kmo_8
        have h162 : vp_in (nI z138) 64 := vp_in_nI (by omega) (by omega)
        refine va_lald hx hb hK hP i_14 2 hg_14 rfl h162 d_Rsa_multiply_162 ?_
        refine lv_topl (fun e162 he162 => ?_)
        refine lv_lmul hx hb d_Rsa_multiply_163 ?_
        refine lv_ladd hx hb d_Rsa_multiply_164 ?_
        refine lv_lload hx hb d_Rsa_multiply_165 (lv_at hl 1 rfl) ?_
        refine lv_ladd hx hb d_Rsa_multiply_167 ?_
        refine lv_topl (fun v168 ev168 => ?_)
        refine lv_lstore (lv' := [(12, .long v168), (11, .int (nI z138)), (5, .long x138_5), (9, .long v112), (7, .long v95), (4, .int (nI z11)), (0, .ref h), (1, .ref a), (2, .ref b), (3, .ref g)]) hx hb d_Rsa_multiply_168 hl (by decide) rfl (fun ls hl => ?_)
        refine lv_aload_n hx hb d_Rsa_multiply_170 rfl (lv_at hl 6 rfl) ?_
        refine va_get (v := .ref su_8) hx hb htb i_Rsa hown hK hP i_8 hg_8 rfl 5 (by decide) (htb _ q1_90) (fun _ h9 => h9) rfl d_Rsa_multiply_171 ?_
        refine lv_iload hx hb d_Rsa_multiply_174 (lv_at hl 1 rfl) ?_
        refine lv_iconst (v := 1) hx hb d_Rsa_multiply_176 (by decide) ?_
        refine lv_isub hx hb d_Rsa_multiply_177 ?_
        rw [show ((nI z138) - 1 : Int32) = nI (z138 - 1) from pk_sub (a := z138) (b := 1) (by omega)]
        refine lv_lload hx hb d_Rsa_multiply_178 (lv_at hl 0 rfl) ?_
        refine lv_ldc2 (v := 4294967295) hx hb hown (htb _ q5_202) d_Rsa_multiply_180 ?_
        refine lv_land hx hb d_Rsa_multiply_183 ?_
        have h184 : vp_in (nI (z138 - 1)) 66 := vp_in_nI (by omega) (by omega)
        refine va_last hx hb hK hP hD hS i_13 2 hg_13 rfl h184 d_Rsa_multiply_184 (fun H184 locs hP hD2 hS => ?_)
        have hP : va_P (dC, dI) classes (G138.set i_13 (su_8, .inl (γ.2.2.1, 66, .inr (.inl (vp_updL f_13 (nI (z138 - 1)).toNatClampNeg (v168 &&& 4294967295)))))) H184 := hP
        have hD3 : va_D A (G138.set i_13 (su_8, .inl (γ.2.2.1, 66, .inr (.inl (vp_updL f_13 (nI (z138 - 1)).toNatClampNeg (v168 &&& 4294967295)))))) := hD2
        have hFR := hFR.tr (FR.set (c' := .inl (γ.2.2.1, 66, .inr (.inl (vp_updL f_13 (nI (z138 - 1)).toNatClampNeg (v168 &&& 4294967295))))) hg_13 ksu_8.1)
        have hTy := TY.set (c' := .inl (γ.2.2.1, 66, .inr (.inl (vp_updL f_13 (nI (z138 - 1)).toNatClampNeg (v168 &&& 4294967295))))) hTy hg_13 (ok_7 ksu_8 hn_13 _)
        have hD := hD3
        have hg_8 := set_keep (c' := .inl (γ.2.2.1, 66, .inr (.inl (vp_updL f_13 (nI (z138 - 1)).toNatClampNeg (v168 &&& 4294967295))))) hg_13 hg_8 (tK.ne ksu_8 kh (show (7 : Nat) ≠ 10 by decide))
        clear hD3 hD2
        generalize G138.set i_13 (su_8, .inl (γ.2.2.1, 66, .inr (.inl (vp_updL f_13 (nI (z138 - 1)).toNatClampNeg (v168 &&& 4294967295))))) = G_15 at hP hD hTy hFR hg_8
        refine lv_lload hx hb d_Rsa_multiply_185 (lv_at hl 0 rfl) ?_
        refine lv_bipush (v := 32) hx hb d_Rsa_multiply_187 (by decide) ?_
        refine lv_lushr (v := (v168.toUInt64 >>> ((32 : Int32).toInt64.toUInt64 &&& Int64.toUInt64 63)).toInt64) hx hb d_Rsa_multiply_189 rfl ?_
        refine lv_topl (fun v190 ev190 => ?_)
        refine lv_lstore (lv' := [(5, .long v190), (12, .long v168), (11, .int (nI z138)), (9, .long v112), (7, .long v95), (4, .int (nI z11)), (0, .ref h), (1, .ref a), (2, .ref b), (3, .ref g)]) hx hb d_Rsa_multiply_190 hl (by decide) rfl (fun ls hl => ?_)
        refine lv_iinc (v := nI (z138 + 1)) (lv' := [(11, .int (nI (z138 + 1))), (5, .long v190), (12, .long v168), (9, .long v112), (7, .long v95), (4, .int (nI z11)), (0, .ref h), (1, .ref a), (2, .ref b), (3, .ref g)]) hx hb d_Rsa_multiply_192 hl (k := 2) rfl (nI_1 _) (by decide) rfl (fun ls hl => ?_)
        refine lv_goto (tgt := 138) hx hb d_Rsa_multiply_195 (by decide) ?_
        exact ih138 (z138 + 1, v190, G_15) _ _ ls (by dsimp only; omega) ⟨by dsimp only; omega, hTy, hFR, by omega⟩ hP hD hS (lv_sub hl [0, 1, 3, 4, 5, 6, 7, 8, 9] rfl)
    · have p32 : ¬ (L ≤ z26) := (fun q9 => c32 ((nI_leI (a := L) (b := z26) (by omega) (by omega)).mpr q9))
      refine lv_aload_n hx hb d_Rsa_multiply_35 rfl (lv_at hl 3 rfl) ?_
      refine va_get (v := .ref su_5) hx hb htb i_Rsa hown hK hP i_5 hg_5 rfl 5 (by decide) (htb _ q1_90) (fun _ h9 => h9) rfl d_Rsa_multiply_36 ?_
      refine lv_iload hx hb d_Rsa_multiply_39 (lv_at hl 0 rfl) ?_
      obtain ⟨i_16, f_16, hn_16, hg_16⟩ := ty_7 hTy ksu_5
      have h41 : vp_in (nI z26) 66 := vp_in_nI (by omega) (by omega)
      refine va_lald hx hb hK hP i_16 2 hg_16 rfl h41 d_Rsa_multiply_41 ?_
      refine lv_topl (fun e41 he41 => ?_)
      refine lv_aload_n hx hb d_Rsa_multiply_42 rfl (lv_at hl 4 rfl) ?_
      refine lv_iload hx hb d_Rsa_multiply_43 (lv_at hl 0 rfl) ?_
      obtain ⟨i_17, f_17, hn_17, hg_17⟩ := ty_7 hTy ka
      have h45 : vp_in (nI z26) 64 := vp_in_nI (by omega) (by omega)
      refine va_lald hx hb hK hP i_17 2 hg_17 rfl h45 d_Rsa_multiply_45 ?_
      refine lv_topl (fun e45 he45 => ?_)
      refine lv_aload_n hx hb d_Rsa_multiply_46 rfl (lv_at hl 5 rfl) ?_
      refine lv_iload hx hb d_Rsa_multiply_47 (lv_at hl 2 rfl) ?_
      obtain ⟨i_18, f_18, hn_18, hg_18⟩ := ty_7 hTy kb
      have h49 : vp_in (nI z11) 64 := vp_in_nI (by omega) (by omega)
      refine va_lald hx hb hK hP i_18 2 hg_18 rfl h49 d_Rsa_multiply_49 ?_
      refine lv_topl (fun e49 he49 => ?_)
      refine lv_lmul hx hb d_Rsa_multiply_50 ?_
      refine lv_ladd hx hb d_Rsa_multiply_51 ?_
      refine lv_lload hx hb d_Rsa_multiply_52 (lv_at hl 1 rfl) ?_
      refine lv_ladd hx hb d_Rsa_multiply_54 ?_
      refine lv_topl (fun v55 ev55 => ?_)
      refine lv_lstore (lv' := [(8, .long v55), (7, .int (nI z26)), (5, .long x26_5), (4, .int (nI z11)), (0, .ref h), (1, .ref a), (2, .ref b), (3, .ref g)]) hx hb d_Rsa_multiply_55 hl (by decide) rfl (fun ls hl => ?_)
      refine lv_aload_n hx hb d_Rsa_multiply_57 rfl (lv_at hl 4 rfl) ?_
      refine va_get (v := .ref su_5) hx hb htb i_Rsa hown hK hP i_5 hg_5 rfl 5 (by decide) (htb _ q1_90) (fun _ h9 => h9) rfl d_Rsa_multiply_58 ?_
      refine lv_iload hx hb d_Rsa_multiply_61 (lv_at hl 1 rfl) ?_
      refine lv_lload hx hb d_Rsa_multiply_63 (lv_at hl 0 rfl) ?_
      refine lv_ldc2 (v := 4294967295) hx hb hown (htb _ q5_202) d_Rsa_multiply_65 ?_
      refine lv_land hx hb d_Rsa_multiply_68 ?_
      have h69 : vp_in (nI z26) 66 := vp_in_nI (by omega) (by omega)
      refine va_last hx hb hK hP hD hS i_16 2 hg_16 rfl h69 d_Rsa_multiply_69 (fun H69 locs hP hD2 hS => ?_)
      have hP : va_P (dC, dI) classes (G26.set i_16 (su_5, .inl (γ.2.2.1, 66, .inr (.inl (vp_updL f_16 (nI z26).toNatClampNeg (v55 &&& 4294967295)))))) H69 := hP
      have hD3 : va_D A (G26.set i_16 (su_5, .inl (γ.2.2.1, 66, .inr (.inl (vp_updL f_16 (nI z26).toNatClampNeg (v55 &&& 4294967295)))))) := hD2
      have hFR := hFR.tr (FR.set (c' := .inl (γ.2.2.1, 66, .inr (.inl (vp_updL f_16 (nI z26).toNatClampNeg (v55 &&& 4294967295))))) hg_16 ksu_5.1)
      have hTy := TY.set (c' := .inl (γ.2.2.1, 66, .inr (.inl (vp_updL f_16 (nI z26).toNatClampNeg (v55 &&& 4294967295))))) hTy hg_16 (ok_7 ksu_5 hn_16 _)
      have hD := hD3
      have hg_5 := set_keep (c' := .inl (γ.2.2.1, 66, .inr (.inl (vp_updL f_16 (nI z26).toNatClampNeg (v55 &&& 4294967295))))) hg_16 hg_5 (tK.ne ksu_5 kh (show (7 : Nat) ≠ 10 by decide))
      clear hD3 hD2
      generalize G26.set i_16 (su_5, .inl (γ.2.2.1, 66, .inr (.inl (vp_updL f_16 (nI z26).toNatClampNeg (v55 &&& 4294967295))))) = G_19 at hP hD hTy hFR hg_5
      refine lv_lload hx hb d_Rsa_multiply_70 (lv_at hl 0 rfl) ?_
      refine lv_bipush (v := 32) hx hb d_Rsa_multiply_72 (by decide) ?_
      refine lv_lushr (v := (v55.toUInt64 >>> ((32 : Int32).toInt64.toUInt64 &&& Int64.toUInt64 63)).toInt64) hx hb d_Rsa_multiply_74 rfl ?_
      refine lv_topl (fun v75 ev75 => ?_)
      refine lv_lstore (lv' := [(5, .long v75), (8, .long v55), (7, .int (nI z26)), (4, .int (nI z11)), (0, .ref h), (1, .ref a), (2, .ref b), (3, .ref g)]) hx hb d_Rsa_multiply_75 hl (by decide) rfl (fun ls hl => ?_)
      refine lv_iinc (v := nI (z26 + 1)) (lv' := [(7, .int (nI (z26 + 1))), (5, .long v75), (8, .long v55), (4, .int (nI z11)), (0, .ref h), (1, .ref a), (2, .ref b), (3, .ref g)]) hx hb d_Rsa_multiply_77 hl (k := 2) rfl (nI_1 _) (by decide) rfl (fun ls hl => ?_)
      refine lv_goto (tgt := 26) hx hb d_Rsa_multiply_80 (by decide) ?_
      exact ih26 (z26 + 1, v75, G_19) _ _ ls (by dsimp only; omega) ⟨by dsimp only; omega, hTy, hFR⟩ hP hD hS (lv_sub hl [0, 1, 3, 4, 5, 6, 7] rfl)
theorem i_tot {x y : Int32} (h : ¬ x < y) : y ≤ x := by
  rw [Int32.lt_iff_toInt_lt] at h
  rw [Int32.le_iff_toInt_le]
  omega
theorem i_lle {x y : Int32} (h : x < y) : x ≤ y := by
  rw [Int32.lt_iff_toInt_lt] at h
  rw [Int32.le_iff_toInt_le]
  omega
theorem vp_in_of2 {x : Int32} {n : Nat} (h1 : ¬ x < 0) (h2 : x < nI n) (hn : n < 2 ^ 31) : vp_in x n := by
  obtain ⟨j, hj, rfl⟩ := nI_of h1
  rw [nI_ltI hj hn] at h2
  exact vp_in_nI h2 hn
theorem top_nat {r q : Int32} {n : Nat} (hn : n < 2 ^ 31) (h1 : q ≤ nI n) (h2 : (r = 0 ∨ r = q) ∧ 0 ≤ r ∧ q ≤ r) : ∃ k, k ≤ n ∧ r = nI k := by
  refine nI_of2 (M := nI n) (nI_toInt hn) (fun h => ?_) ?_
  · have := h2.2.1
    rw [Int32.lt_iff_toInt_lt] at h
    rw [Int32.le_iff_toInt_le] at this
    omega
  · rcases h2.1 with e | e
    · rw [e]; exact nI_pos' hn
    · rw [e]; exact h1
theorem mx_f {x y r : Int32} (h : r = if x < y then y else x) : (r = x ∨ r = y) ∧ x ≤ r ∧ y ≤ r := by
  subst h
  by_cases c : x < y
  · rw [if_pos c]; exact ⟨Or.inr rfl, i_lle c, Int32.le_refl _⟩
  · rw [if_neg c]; exact ⟨Or.inl rfl, Int32.le_refl _, i_tot c⟩
theorem mn_f {x y r : Int32} (h : r = if y < x then y else x) : (r = x ∨ r = y) ∧ r ≤ x ∧ r ≤ y := by
  subst h
  by_cases c : y < x
  · rw [if_pos c]; exact ⟨Or.inr rfl, i_lle c, Int32.le_refl _⟩
  · rw [if_neg c]; exact ⟨Or.inl rfl, Int32.le_refl _, i_tot c⟩
def y_Rsa_prepare : MethodName := ⟨"TrustChain$Rsa", "prepare", "(I)V"⟩
abbrev b_Rsa_prepare : ByteArray := prog_9_method_6_code
def w_Rsa_prepare : List Cond := Cond.code y_Rsa_prepare b_Rsa_prepare 11 (none) :: tb
theorem d_Rsa_prepare_0 : decode b_Rsa_prepare 0 = .ok (.aload_n 0, 1) := by decide +kernel
theorem d_Rsa_prepare_1 : decode b_Rsa_prepare 1 = .ok (.getfield 11, 3) := by decide +kernel
theorem d_Rsa_prepare_4 : decode b_Rsa_prepare 4 = .ok (.iconst 0, 1) := by decide +kernel
theorem d_Rsa_prepare_5 : decode b_Rsa_prepare 5 = .ok (.laload, 1) := by decide +kernel
theorem d_Rsa_prepare_6 : decode b_Rsa_prepare 6 = .ok (.lstore_n 2, 1) := by decide +kernel
theorem d_Rsa_prepare_7 : decode b_Rsa_prepare 7 = .ok (.aload_n 0, 1) := by decide +kernel
theorem d_Rsa_prepare_8 : decode b_Rsa_prepare 8 = .ok (.lload_n 2, 1) := by decide +kernel
theorem d_Rsa_prepare_9 : decode b_Rsa_prepare 9 = .ok (.putfield 34, 3) := by decide +kernel
theorem d_Rsa_prepare_12 : decode b_Rsa_prepare 12 = .ok (.iconst 0, 1) := by decide +kernel
theorem d_Rsa_prepare_13 : decode b_Rsa_prepare 13 = .ok (.istore 4, 2) := by decide +kernel
theorem d_Rsa_prepare_15 : decode b_Rsa_prepare 15 = .ok (.iload 4, 2) := by decide +kernel
theorem d_Rsa_prepare_17 : decode b_Rsa_prepare 17 = .ok (.iconst 5, 1) := by decide +kernel
theorem d_Rsa_prepare_18 : decode b_Rsa_prepare 18 = .ok (.if_icmp .ge 28, 3) := by decide +kernel
theorem d_Rsa_prepare_21 : decode b_Rsa_prepare 21 = .ok (.aload_n 0, 1) := by decide +kernel
theorem d_Rsa_prepare_22 : decode b_Rsa_prepare 22 = .ok (.aload_n 0, 1) := by decide +kernel
theorem d_Rsa_prepare_23 : decode b_Rsa_prepare 23 = .ok (.getfield 34, 3) := by decide +kernel
theorem d_Rsa_prepare_26 : decode b_Rsa_prepare 26 = .ok (.ldc2_w 110, 3) := by decide +kernel
theorem d_Rsa_prepare_29 : decode b_Rsa_prepare 29 = .ok (.lload_n 2, 1) := by decide +kernel
theorem d_Rsa_prepare_30 : decode b_Rsa_prepare 30 = .ok (.aload_n 0, 1) := by decide +kernel
theorem d_Rsa_prepare_31 : decode b_Rsa_prepare 31 = .ok (.getfield 34, 3) := by decide +kernel
theorem d_Rsa_prepare_34 : decode b_Rsa_prepare 34 = .ok (.lmul, 1) := by decide +kernel
theorem d_Rsa_prepare_35 : decode b_Rsa_prepare 35 = .ok (.lsub, 1) := by decide +kernel
theorem d_Rsa_prepare_36 : decode b_Rsa_prepare 36 = .ok (.lmul, 1) := by decide +kernel
theorem d_Rsa_prepare_37 : decode b_Rsa_prepare 37 = .ok (.putfield 34, 3) := by decide +kernel
theorem d_Rsa_prepare_40 : decode b_Rsa_prepare 40 = .ok (.iinc 4 1, 3) := by decide +kernel
theorem d_Rsa_prepare_43 : decode b_Rsa_prepare 43 = .ok (.goto (-28), 3) := by decide +kernel
theorem d_Rsa_prepare_46 : decode b_Rsa_prepare 46 = .ok (.aload_n 0, 1) := by decide +kernel
theorem d_Rsa_prepare_47 : decode b_Rsa_prepare 47 = .ok (.aload_n 0, 1) := by decide +kernel
theorem d_Rsa_prepare_48 : decode b_Rsa_prepare 48 = .ok (.getfield 34, 3) := by decide +kernel
theorem d_Rsa_prepare_51 : decode b_Rsa_prepare 51 = .ok (.lneg, 1) := by decide +kernel
theorem d_Rsa_prepare_52 : decode b_Rsa_prepare 52 = .ok (.ldc2_w 112, 3) := by decide +kernel
theorem d_Rsa_prepare_55 : decode b_Rsa_prepare 55 = .ok (.land, 1) := by decide +kernel
theorem d_Rsa_prepare_56 : decode b_Rsa_prepare 56 = .ok (.putfield 34, 3) := by decide +kernel
theorem d_Rsa_prepare_59 : decode b_Rsa_prepare 59 = .ok (.aload_n 0, 1) := by decide +kernel
theorem d_Rsa_prepare_60 : decode b_Rsa_prepare 60 = .ok (.getfield 15, 3) := by decide +kernel
theorem d_Rsa_prepare_63 : decode b_Rsa_prepare 63 = .ok (.lconst 0, 1) := by decide +kernel
theorem d_Rsa_prepare_64 : decode b_Rsa_prepare 64 = .ok (.invokestatic 100, 3) := by decide +kernel
theorem d_Rsa_prepare_67 : decode b_Rsa_prepare 67 = .ok (.iconst 0, 1) := by decide +kernel
theorem d_Rsa_prepare_68 : decode b_Rsa_prepare 68 = .ok (.iload_n 1, 1) := by decide +kernel
theorem d_Rsa_prepare_69 : decode b_Rsa_prepare 69 = .ok (.iconst 1, 1) := by decide +kernel
theorem d_Rsa_prepare_70 : decode b_Rsa_prepare 70 = .ok (.isub, 1) := by decide +kernel
theorem d_Rsa_prepare_71 : decode b_Rsa_prepare 71 = .ok (.bipush 32, 2) := by decide +kernel
theorem d_Rsa_prepare_73 : decode b_Rsa_prepare 73 = .ok (.aload_n 0, 1) := by decide +kernel
theorem d_Rsa_prepare_74 : decode b_Rsa_prepare 74 = .ok (.getfield 30, 3) := by decide +kernel
theorem d_Rsa_prepare_77 : decode b_Rsa_prepare 77 = .ok (.imul, 1) := by decide +kernel
theorem d_Rsa_prepare_78 : decode b_Rsa_prepare 78 = .ok (.iconst 1, 1) := by decide +kernel
theorem d_Rsa_prepare_79 : decode b_Rsa_prepare 79 = .ok (.isub, 1) := by decide +kernel
theorem d_Rsa_prepare_80 : decode b_Rsa_prepare 80 = .ok (.invokestatic 114, 3) := by decide +kernel
theorem d_Rsa_prepare_83 : decode b_Rsa_prepare 83 = .ok (.invokestatic 120, 3) := by decide +kernel
theorem d_Rsa_prepare_86 : decode b_Rsa_prepare 86 = .ok (.istore 4, 2) := by decide +kernel
theorem d_Rsa_prepare_88 : decode b_Rsa_prepare 88 = .ok (.aload_n 0, 1) := by decide +kernel
theorem d_Rsa_prepare_89 : decode b_Rsa_prepare 89 = .ok (.getfield 15, 3) := by decide +kernel
theorem d_Rsa_prepare_92 : decode b_Rsa_prepare 92 = .ok (.iload 4, 2) := by decide +kernel
theorem d_Rsa_prepare_94 : decode b_Rsa_prepare 94 = .ok (.bipush 32, 2) := by decide +kernel
theorem d_Rsa_prepare_96 : decode b_Rsa_prepare 96 = .ok (.idiv, 1) := by decide +kernel
theorem d_Rsa_prepare_97 : decode b_Rsa_prepare 97 = .ok (.lconst 1, 1) := by decide +kernel
theorem d_Rsa_prepare_98 : decode b_Rsa_prepare 98 = .ok (.iload 4, 2) := by decide +kernel
theorem d_Rsa_prepare_100 : decode b_Rsa_prepare 100 = .ok (.bipush 32, 2) := by decide +kernel
theorem d_Rsa_prepare_102 : decode b_Rsa_prepare 102 = .ok (.irem, 1) := by decide +kernel
theorem d_Rsa_prepare_103 : decode b_Rsa_prepare 103 = .ok (.lshl, 1) := by decide +kernel
theorem d_Rsa_prepare_104 : decode b_Rsa_prepare 104 = .ok (.lastore, 1) := by decide +kernel
theorem d_Rsa_prepare_105 : decode b_Rsa_prepare 105 = .ok (.iload 4, 2) := by decide +kernel
theorem d_Rsa_prepare_107 : decode b_Rsa_prepare 107 = .ok (.istore 5, 2) := by decide +kernel
theorem d_Rsa_prepare_109 : decode b_Rsa_prepare 109 = .ok (.iload 5, 2) := by decide +kernel
theorem d_Rsa_prepare_111 : decode b_Rsa_prepare 111 = .ok (.bipush 33, 2) := by decide +kernel
theorem d_Rsa_prepare_113 : decode b_Rsa_prepare 113 = .ok (.aload_n 0, 1) := by decide +kernel
theorem d_Rsa_prepare_114 : decode b_Rsa_prepare 114 = .ok (.getfield 30, 3) := by decide +kernel
theorem d_Rsa_prepare_117 : decode b_Rsa_prepare 117 = .ok (.imul, 1) := by decide +kernel
theorem d_Rsa_prepare_118 : decode b_Rsa_prepare 118 = .ok (.if_icmp .ge 83, 3) := by decide +kernel
theorem d_Rsa_prepare_121 : decode b_Rsa_prepare 121 = .ok (.lconst 0, 1) := by decide +kernel
theorem d_Rsa_prepare_122 : decode b_Rsa_prepare 122 = .ok (.lstore 6, 2) := by decide +kernel
theorem d_Rsa_prepare_124 : decode b_Rsa_prepare 124 = .ok (.iconst 0, 1) := by decide +kernel
theorem d_Rsa_prepare_125 : decode b_Rsa_prepare 125 = .ok (.istore 8, 2) := by decide +kernel
theorem d_Rsa_prepare_127 : decode b_Rsa_prepare 127 = .ok (.iload 8, 2) := by decide +kernel
theorem d_Rsa_prepare_129 : decode b_Rsa_prepare 129 = .ok (.aload_n 0, 1) := by decide +kernel
theorem d_Rsa_prepare_130 : decode b_Rsa_prepare 130 = .ok (.getfield 30, 3) := by decide +kernel
theorem d_Rsa_prepare_133 : decode b_Rsa_prepare 133 = .ok (.if_icmp .ge 43, 3) := by decide +kernel
theorem d_Rsa_prepare_136 : decode b_Rsa_prepare 136 = .ok (.aload_n 0, 1) := by decide +kernel
theorem d_Rsa_prepare_137 : decode b_Rsa_prepare 137 = .ok (.getfield 15, 3) := by decide +kernel
theorem d_Rsa_prepare_140 : decode b_Rsa_prepare 140 = .ok (.iload 8, 2) := by decide +kernel
theorem d_Rsa_prepare_142 : decode b_Rsa_prepare 142 = .ok (.laload, 1) := by decide +kernel
theorem d_Rsa_prepare_143 : decode b_Rsa_prepare 143 = .ok (.iconst 1, 1) := by decide +kernel
theorem d_Rsa_prepare_144 : decode b_Rsa_prepare 144 = .ok (.lshl, 1) := by decide +kernel
theorem d_Rsa_prepare_145 : decode b_Rsa_prepare 145 = .ok (.lload 6, 2) := by decide +kernel
theorem d_Rsa_prepare_147 : decode b_Rsa_prepare 147 = .ok (.lor, 1) := by decide +kernel
theorem d_Rsa_prepare_148 : decode b_Rsa_prepare 148 = .ok (.lstore 9, 2) := by decide +kernel
theorem d_Rsa_prepare_150 : decode b_Rsa_prepare 150 = .ok (.aload_n 0, 1) := by decide +kernel
theorem d_Rsa_prepare_151 : decode b_Rsa_prepare 151 = .ok (.getfield 27, 3) := by decide +kernel
theorem d_Rsa_prepare_154 : decode b_Rsa_prepare 154 = .ok (.iload 8, 2) := by decide +kernel
theorem d_Rsa_prepare_156 : decode b_Rsa_prepare 156 = .ok (.lload 9, 2) := by decide +kernel
theorem d_Rsa_prepare_158 : decode b_Rsa_prepare 158 = .ok (.ldc2_w 112, 3) := by decide +kernel
theorem d_Rsa_prepare_161 : decode b_Rsa_prepare 161 = .ok (.land, 1) := by decide +kernel
theorem d_Rsa_prepare_162 : decode b_Rsa_prepare 162 = .ok (.lastore, 1) := by decide +kernel
theorem d_Rsa_prepare_163 : decode b_Rsa_prepare 163 = .ok (.lload 9, 2) := by decide +kernel
theorem d_Rsa_prepare_165 : decode b_Rsa_prepare 165 = .ok (.bipush 32, 2) := by decide +kernel
theorem d_Rsa_prepare_167 : decode b_Rsa_prepare 167 = .ok (.lushr, 1) := by decide +kernel
theorem d_Rsa_prepare_168 : decode b_Rsa_prepare 168 = .ok (.lstore 6, 2) := by decide +kernel
theorem d_Rsa_prepare_170 : decode b_Rsa_prepare 170 = .ok (.iinc 8 1, 3) := by decide +kernel
theorem d_Rsa_prepare_173 : decode b_Rsa_prepare 173 = .ok (.goto (-46), 3) := by decide +kernel
theorem d_Rsa_prepare_176 : decode b_Rsa_prepare 176 = .ok (.aload_n 0, 1) := by decide +kernel
theorem d_Rsa_prepare_177 : decode b_Rsa_prepare 177 = .ok (.getfield 27, 3) := by decide +kernel
theorem d_Rsa_prepare_180 : decode b_Rsa_prepare 180 = .ok (.aload_n 0, 1) := by decide +kernel
theorem d_Rsa_prepare_181 : decode b_Rsa_prepare 181 = .ok (.getfield 30, 3) := by decide +kernel
theorem d_Rsa_prepare_184 : decode b_Rsa_prepare 184 = .ok (.lload 6, 2) := by decide +kernel
theorem d_Rsa_prepare_186 : decode b_Rsa_prepare 186 = .ok (.lastore, 1) := by decide +kernel
theorem d_Rsa_prepare_187 : decode b_Rsa_prepare 187 = .ok (.aload_n 0, 1) := by decide +kernel
theorem d_Rsa_prepare_188 : decode b_Rsa_prepare 188 = .ok (.aload_n 0, 1) := by decide +kernel
theorem d_Rsa_prepare_189 : decode b_Rsa_prepare 189 = .ok (.getfield 15, 3) := by decide +kernel
theorem d_Rsa_prepare_192 : decode b_Rsa_prepare 192 = .ok (.invokevirtual 123, 3) := by decide +kernel
theorem d_Rsa_prepare_195 : decode b_Rsa_prepare 195 = .ok (.iinc 5 1, 3) := by decide +kernel
theorem d_Rsa_prepare_198 : decode b_Rsa_prepare 198 = .ok (.goto (-89), 3) := by decide +kernel
theorem d_Rsa_prepare_201 : decode b_Rsa_prepare 201 = .ok (.return_, 1) := by decide +kernel
set_option maxHeartbeats 4000000 in
set_option maxRecDepth 100000 in
theorem m_Rsa_prepare (l : Launch) (dC : Nat → ClassId) (dI : Nat → Nat → Nat) (sb : sB) (γ : cG) (κ : kE) (Ad : List Nat) (ν : Nat → cN) (ω : Nat → List Nat) (L : Nat) (G : va_W) (h : Nat) (x : Int32) (sz : Nat) (hTy : TY γ κ Ad ν ω L G) (kh : tK κ Ad h (10, 0, 0)) (hL : L ≤ 64) (hL1 : 1 ≤ L) : Met l y_Rsa_prepare w_Rsa_prepare ({ frames := 1, cells := 0, slots := 0, locals := 28 }) (mu_P [.ref h, .int x] (dC, dI) sb G [(γ.1, .byte), (γ.2.1, .int), (γ.2.2.1, .long), (γ.2.2.2, .object "java/lang/Object")] sz) (va_Qv (fun (G' : va_W) => TY γ κ Ad ν ω L G' ∧ FR Ad G G' ∧ (True)) (mu_B (dC, dI) [(γ.1, .byte), (γ.2.1, .int), (γ.2.2.1, .long), (γ.2.2.2, .object "java/lang/Object")] (va_A G sz) (fun G' : va_W => G')) (va_A G sz)) 0 0 (va_A G sz) := by
  refine Met.ofW (cc := b_Rsa_prepare) (maxL := 11) (ret := none) (by decide) rfl ?_
  intro p e s m args below meth c s₁ B hml hv
  obtain ⟨rfl, hsz, hB0, hP, hK, hD0, hN, hT0⟩ := hv
  have hx := B.exec
  have hb := B.bytes
  have hr := B.returns
  have hts := atoms_spec (ws := w_Rsa_prepare) B.pre
  have tbin : ∀ w ∈ tb, w ∈ w_Rsa_prepare := fun w h => List.mem_cons_of_mem _ h
  have htb : ∀ w ∈ tb, w.before _ s = true := fun w h => hts w (tbin w h)
  have hown : s.vm.findClass "TrustChain$Rsa" = some m.cls := findClass_of_methodNamed B.named
  have hlocks := B.notSynchronized
  subst hsz
  have hD := hD0.self (sz := s.heap.size)
  generalize hAe : va_A G s.heap.size = A at hD ⊢
  have hA : ∀ q : Nat, s.heap.size ≤ q → A q := fun q h => by rw [← hAe]; exact Or.inr h
  have hAs : ∀ q : Nat, A q → sb.1 ≤ q := fun q h => by
    rw [← hAe] at h
    rcases h with ⟨k, e, h⟩ | h
    · exact hD0.2 k _ h
    · exact Nat.le_trans hB0 h
  have hS : va_S A s.heap s.heap [] := va_S.rf
  have hFR := FR.rf Ad G
  have hcs : 0 ≤ (headSpec w_Rsa_prepare ({ frames := 1, cells := 0, slots := 0, locals := 28 })).room.cells ∧ 0 ≤ (headSpec w_Rsa_prepare ({ frames := 1, cells := 0, slots := 0, locals := 28 })).room.slots := ⟨Nat.le_refl _, Nat.le_refl _⟩
  have hP : va_P (dC, dI) classes G s.heap := hP
  have hl := lv_entry ([.ref h, .int x]) (n := 11) (Nat.le_of_ble_eq_true rfl)
  rw [lg_entry_eq]
  generalize (lg_sl ([.ref h, .int x]) ++ List.replicate (11 - (lg_sl ([.ref h, .int x])).length) Slot.unset).toArray = ls at hl ⊢
  have hl : lv_has ls 11 [(0, .ref h), (1, .int x)] := hl
  refine lv_aload_n hx hb d_Rsa_prepare_0 rfl (lv_at hl 0 rfl) ?_
  obtain ⟨i_1, mo_1, sq_1, ba_1, po_1, un_1, su_1, iv_1, kmo_1, ksq_1, kba_1, kpo_1, kun_1, ksu_1, hg_1⟩ := ty_10 hTy kh
  refine va_get (v := .ref mo_1) hx hb htb i_Rsa hown hK hP i_1 hg_1 rfl 0 (by decide) (htb _ q1_85) (fun _ h9 => h9) rfl d_Rsa_prepare_1 ?_
  refine lv_iconst (v := 0) hx hb d_Rsa_prepare_4 (by decide) ?_
  obtain ⟨i_2, f_2, hn_2, hg_2⟩ := ty_7 hTy kmo_1
  have h5 : vp_in (0 : Int32) 64 := (by unfold vp_in; decide)
  refine va_lald hx hb hK hP i_2 2 hg_2 rfl h5 d_Rsa_prepare_5 ?_
  refine lv_topl (fun e5 he5 => ?_)
  refine lv_lstore_n (lv' := [(2, .long e5), (0, .ref h), (1, .int x)]) hx hb d_Rsa_prepare_6 rfl hl (by decide) rfl (fun ls hl => ?_)
  refine lv_aload_n hx hb d_Rsa_prepare_7 rfl (lv_at hl 1 rfl) ?_
  refine lv_lload_n hx hb d_Rsa_prepare_8 rfl (lv_at hl 0 rfl) ?_
  refine va_put (v := .long e5) (ty := .long) hx hb htb i_Rsa t_Rsa t_Rsa_ok n_Rsa hown hK hP hD hS i_1 hg_1 rfl 7 (by decide) (htb _ q1_92) (fun _ h9 => h9) rfl (by decide +kernel) rfl rfl (Nat.le_of_ble_eq_true rfl) d_Rsa_prepare_9 (fun H9 locs hP hD2 hS => ?_)
  have hP : va_P (dC, dI) classes (G.set i_1 (h, .inr (7, [.ref mo_1, .ref sq_1, .ref ba_1, .ref po_1, .ref un_1, .ref su_1, .int (nI L), .long e5]))) H9 := hP
  have hD3 : va_D A (G.set i_1 (h, .inr (7, [.ref mo_1, .ref sq_1, .ref ba_1, .ref po_1, .ref un_1, .ref su_1, .int (nI L), .long e5]))) := hD2
  have hFR := hFR.tr (FR.set (c' := .inr (7, [.ref mo_1, .ref sq_1, .ref ba_1, .ref po_1, .ref un_1, .ref su_1, .int (nI L), .long e5])) hg_1 kh.1)
  have hTy := TY.set (c' := .inr (7, [.ref mo_1, .ref sq_1, .ref ba_1, .ref po_1, .ref un_1, .ref su_1, .int (nI L), .long e5])) hTy hg_1 (ok_10 kh kmo_1 ksq_1 kba_1 kpo_1 kun_1 ksu_1)
  have hD := hD3
  have hg_2 := set_keep (c' := .inr (7, [.ref mo_1, .ref sq_1, .ref ba_1, .ref po_1, .ref un_1, .ref su_1, .int (nI L), .long e5])) hg_1 hg_2 (tK.ne kh kmo_1 (show (10 : Nat) ≠ 7 by decide))
  have hg_1 := set_here (c' := .inr (7, [.ref mo_1, .ref sq_1, .ref ba_1, .ref po_1, .ref un_1, .ref su_1, .int (nI L), .long e5])) hg_1
  clear hD3 hD2
  generalize G.set i_1 (h, .inr (7, [.ref mo_1, .ref sq_1, .ref ba_1, .ref po_1, .ref un_1, .ref su_1, .int (nI L), .long e5])) = G_3 at hP hD hTy hFR hg_2 hg_1
  refine lv_iconst (v := 0) hx hb d_Rsa_prepare_12 (by decide) ?_
  refine lv_istore (lv' := [(4, .int 0), (2, .long e5), (0, .ref h), (1, .int x)]) hx hb d_Rsa_prepare_13 hl (by decide) rfl (fun ls hl => ?_)
  refine w_loopW (α := Nat × va_W) (fun a9 => a9.1 ≤ 5 ∧ TY γ κ Ad ν ω L a9.2 ∧ FR Ad G a9.2) (fun a9 => 5 - a9.1) (fun a9 => [(4, .int (nI a9.1)), (2, .long e5), (0, .ref h), (1, .int x)]) (fun _ => []) (fun a9 => a9.2) 11 15 (fun a9 HL15 locs ls hJ hP hD hS hl ih15 => ?_) (0, G_3) _ _ ls ⟨by omega, hTy, hFR⟩ hP hD hS (lv_sub hl [0, 1, 2, 3] rfl)
  obtain ⟨z15, G15⟩ := a9
  obtain ⟨hz15, hTy, hFR⟩ := hJ
  dsimp only at hz15 hTy hFR hP hD hl ih15
  refine lv_iload hx hb d_Rsa_prepare_15 (lv_at hl 0 rfl) ?_
  refine lv_iconst (v := 5) hx hb d_Rsa_prepare_17 (by decide) ?_
  refine lv_icmp_ge (tgt := 46) hx hb d_Rsa_prepare_18 (by decide) (fun c18 => ?_) (fun c18 => ?_)
  · have p18 : 5 ≤ z15 := ((nI_leI (a := 5) (b := z15) (by omega) (by omega)).mp c18)
    refine lv_aload_n hx hb d_Rsa_prepare_46 rfl (lv_at hl 2 rfl) ?_
    refine lv_aload_n hx hb d_Rsa_prepare_47 rfl (lv_at hl 2 rfl) ?_
    obtain ⟨i_4, mo_4, sq_4, ba_4, po_4, un_4, su_4, iv_4, kmo_4, ksq_4, kba_4, kpo_4, kun_4, ksu_4, hg_4⟩ := ty_10 hTy kh
    refine va_get (v := .long iv_4) hx hb htb i_Rsa hown hK hP i_4 hg_4 rfl 7 (by decide) (htb _ q1_92) (fun _ h9 => h9) rfl d_Rsa_prepare_48 ?_
    refine lv_lneg hx hb d_Rsa_prepare_51 ?_
    refine lv_ldc2 (v := 4294967295) hx hb hown (htb _ q5_202) d_Rsa_prepare_52 ?_
    refine lv_land hx hb d_Rsa_prepare_55 ?_
    refine lv_topl (fun v56 ev56 => ?_)
    refine va_put (v := .long v56) (ty := .long) hx hb htb i_Rsa t_Rsa t_Rsa_ok n_Rsa hown hK hP hD hS i_4 hg_4 rfl 7 (by decide) (htb _ q1_92) (fun _ h9 => h9) rfl (by decide +kernel) rfl rfl (Nat.le_of_ble_eq_true rfl) d_Rsa_prepare_56 (fun H56 locs hP hD2 hS => ?_)
    have hP : va_P (dC, dI) classes (G15.set i_4 (h, .inr (7, [.ref mo_4, .ref sq_4, .ref ba_4, .ref po_4, .ref un_4, .ref su_4, .int (nI L), .long v56]))) H56 := hP
    have hD3 : va_D A (G15.set i_4 (h, .inr (7, [.ref mo_4, .ref sq_4, .ref ba_4, .ref po_4, .ref un_4, .ref su_4, .int (nI L), .long v56]))) := hD2
    have hFR := hFR.tr (FR.set (c' := .inr (7, [.ref mo_4, .ref sq_4, .ref ba_4, .ref po_4, .ref un_4, .ref su_4, .int (nI L), .long v56])) hg_4 kh.1)
    have hTy := TY.set (c' := .inr (7, [.ref mo_4, .ref sq_4, .ref ba_4, .ref po_4, .ref un_4, .ref su_4, .int (nI L), .long v56])) hTy hg_4 (ok_10 kh kmo_4 ksq_4 kba_4 kpo_4 kun_4 ksu_4)
    have hD := hD3
    have hg_4 := set_here (c' := .inr (7, [.ref mo_4, .ref sq_4, .ref ba_4, .ref po_4, .ref un_4, .ref su_4, .int (nI L), .long v56])) hg_4
    clear hD3 hD2
    generalize G15.set i_4 (h, .inr (7, [.ref mo_4, .ref sq_4, .ref ba_4, .ref po_4, .ref un_4, .ref su_4, .int (nI L), .long v56])) = G_5 at hP hD hTy hFR hg_4
    refine lv_aload_n hx hb d_Rsa_prepare_59 rfl (lv_at hl 2 rfl) ?_
    refine va_get (v := .ref sq_4) hx hb htb i_Rsa hown hK hP i_4 hg_4 rfl 1 (by decide) (htb _ q1_86) (fun _ h9 => h9) rfl d_Rsa_prepare_60 ?_
    refine lv_lconst (v := 0) hx hb d_Rsa_prepare_63 (by decide) ?_
    have hFc := va_free (wc := G_5) hD hS hA (List.range G_5.length) (rg_is _)
    refine va_callv (mu_runS (As := [.ref sq_4, .long 0]) (rest := []) ⟨hx, hb, hml, hown, hts⟩ tbin (m_fill l dC dI sb γ κ Ad ν ω L G_5 sq_4 _ _ H56.size hTy ksq_4 (by omega)) q5_189 q5_190 q1_17 q5_191 (n := 2) (by decide +kernel) rfl ⟨rfl, rfl⟩ ⟨Nat.le_of_ble_eq_true rfl, Nat.le_of_ble_eq_true rfl⟩ ⟨Nat.le_of_ble_eq_true rfl, Nat.le_of_ble_eq_true rfl⟩ hN (hT0.keep hS hAs) hAs (Nat.le_trans hB0 hS.1) hK hP hD (List.range G_5.length) (rg_nd _) (rg_is _) [0, 1, 2, 3] rfl hl.1 rfl (Nat.le_of_ble_eq_true rfl) d_Rsa_prepare_64) hS (fun q _ h => hFc q h) hFc (fun G_6 tS H64 locs ht hvm hw64 hB hz1 hk1 hS => ?_)
    obtain ⟨hTy, hF9, hr64⟩ := hw64
    have hFR := hFR.tr hF9
    obtain ⟨hP1, hK1, hD1⟩ := hB
    rw [ht] at hP1
    have hP : va_P (dC, dI) classes G_6 H64 := hP1
    have hD : va_D A G_6 := hD1.weaken (fun _ _ _ h => hFc _ h)
    refine lv_iconst (v := 0) hx hb d_Rsa_prepare_67 (by decide) ?_
    refine lv_iload_n hx hb d_Rsa_prepare_68 rfl (lv_at hl 3 rfl) ?_
    refine lv_iconst (v := 1) hx hb d_Rsa_prepare_69 (by decide) ?_
    refine lv_isub hx hb d_Rsa_prepare_70 ?_
    refine lv_bipush (v := 32) hx hb d_Rsa_prepare_71 (by decide) ?_
    refine lv_aload_n hx hb d_Rsa_prepare_73 rfl (lv_at hl 2 rfl) ?_
    obtain ⟨i_7, mo_7, sq_7, ba_7, po_7, un_7, su_7, iv_7, kmo_7, ksq_7, kba_7, kpo_7, kun_7, ksu_7, hg_7⟩ := ty_10 hTy kh
    refine va_get (v := .int (nI L)) hx hb htb i_Rsa hown hK hP i_7 hg_7 rfl 6 (by decide) (htb _ q1_91) (fun _ h9 => h9) rfl d_Rsa_prepare_74 ?_
    refine lv_imul hx hb d_Rsa_prepare_77 ?_
    rw [show (32 * (nI L) : Int32) = nI (32 * L) from nI_mul 32 L]
    refine lv_iconst (v := 1) hx hb d_Rsa_prepare_78 (by decide) ?_
    refine lv_isub hx hb d_Rsa_prepare_79 ?_
    rw [show ((nI (32 * L)) - 1 : Int32) = nI ((32 * L) - 1) from pk_sub (a := (32 * L)) (b := 1) (by omega)]
    refine va_mmin hx hb (by rw [hml]; exact hl.1.symm) hown (htb _ q5_203) (htb _ q2_75) (htb _ q1_18) (htb _ q2_76) (Nat.le_of_ble_eq_true rfl) (Nat.le_of_ble_eq_true rfl) (Nat.le_of_ble_eq_true rfl) (Nat.le_of_ble_eq_true rfl) d_Rsa_prepare_80 ?_
    refine lv_topi (fun r80 hr80 => ?_)
    have hr80 := mn_f hr80
    refine va_mmax hx hb (by rw [hml]; exact hl.1.symm) hown (htb _ q5_204) (htb _ q4_127) (htb _ q1_18) (htb _ q4_128) (Nat.le_of_ble_eq_true rfl) (Nat.le_of_ble_eq_true rfl) (Nat.le_of_ble_eq_true rfl) (Nat.le_of_ble_eq_true rfl) d_Rsa_prepare_83 ?_
    refine lv_topi (fun r83 hr83 => ?_)
    have hr83 := mx_f hr83
    obtain ⟨k83, hk83, rfl⟩ := top_nat (n := 32 * L - 1) (by omega) hr80.2.2 hr83
    refine lv_istore (lv' := [(4, .int (nI k83)), (2, .long e5), (0, .ref h), (1, .int x)]) hx hb d_Rsa_prepare_86 hl (by decide) rfl (fun ls hl => ?_)
    refine lv_aload_n hx hb d_Rsa_prepare_88 rfl (lv_at hl 2 rfl) ?_
    refine va_get (v := .ref sq_7) hx hb htb i_Rsa hown hK hP i_7 hg_7 rfl 1 (by decide) (htb _ q1_86) (fun _ h9 => h9) rfl d_Rsa_prepare_89 ?_
    refine lv_iload hx hb d_Rsa_prepare_92 (lv_at hl 0 rfl) ?_
    refine lv_bipush (v := 32) hx hb d_Rsa_prepare_94 (by decide) ?_
    refine lv_idiv hx hb d_Rsa_prepare_96 (by decide) ?_
    rw [show ((nI k83) / 32 : Int32) = nI (k83 / 32) from nI_idiv (a := k83) (b := 32) (by omega) (by omega) (by omega)]
    refine lv_lconst (v := 1) hx hb d_Rsa_prepare_97 (by decide) ?_
    refine lv_iload hx hb d_Rsa_prepare_98 (lv_at hl 0 rfl) ?_
    refine lv_bipush (v := 32) hx hb d_Rsa_prepare_100 (by decide) ?_
    refine lv_irem hx hb d_Rsa_prepare_102 (by decide) ?_
    rw [show ((nI k83) - (nI k83) / 32 * 32 : Int32) = nI (k83 % 32) from nI_irem (a := k83) (b := 32) (by omega) (by omega) (by omega)]
    refine lv_lshl (v := 1 <<< ((nI (k83 % 32)).toInt64 &&& 63)) hx hb d_Rsa_prepare_103 rfl ?_
    obtain ⟨i_8, f_8, hn_8, hg_8⟩ := ty_7 hTy ksq_7
    have h104 : vp_in (nI (k83 / 32)) 64 := vp_in_nI (by omega) (by omega)
    refine va_last hx hb hK hP hD hS i_8 2 hg_8 rfl h104 d_Rsa_prepare_104 (fun H104 locs hP hD2 hS => ?_)
    have hP : va_P (dC, dI) classes (G_6.set i_8 (sq_7, .inl (γ.2.2.1, 64, .inr (.inl (vp_updL f_8 (nI (k83 / 32)).toNatClampNeg (1 <<< ((nI (k83 % 32)).toInt64 &&& 63))))))) H104 := hP
    have hD3 : va_D A (G_6.set i_8 (sq_7, .inl (γ.2.2.1, 64, .inr (.inl (vp_updL f_8 (nI (k83 / 32)).toNatClampNeg (1 <<< ((nI (k83 % 32)).toInt64 &&& 63))))))) := hD2
    have hFR := hFR.tr (FR.set (c' := .inl (γ.2.2.1, 64, .inr (.inl (vp_updL f_8 (nI (k83 / 32)).toNatClampNeg (1 <<< ((nI (k83 % 32)).toInt64 &&& 63)))))) hg_8 ksq_7.1)
    have hTy := TY.set (c' := .inl (γ.2.2.1, 64, .inr (.inl (vp_updL f_8 (nI (k83 / 32)).toNatClampNeg (1 <<< ((nI (k83 % 32)).toInt64 &&& 63)))))) hTy hg_8 (ok_7 ksq_7 hn_8 _)
    have hD := hD3
    have hg_7 := set_keep (c' := .inl (γ.2.2.1, 64, .inr (.inl (vp_updL f_8 (nI (k83 / 32)).toNatClampNeg (1 <<< ((nI (k83 % 32)).toInt64 &&& 63)))))) hg_8 hg_7 (tK.ne ksq_7 kh (show (7 : Nat) ≠ 10 by decide))
    clear hD3 hD2
    generalize G_6.set i_8 (sq_7, .inl (γ.2.2.1, 64, .inr (.inl (vp_updL f_8 (nI (k83 / 32)).toNatClampNeg (1 <<< ((nI (k83 % 32)).toInt64 &&& 63)))))) = G_9 at hP hD hTy hFR hg_7
    refine lv_iload hx hb d_Rsa_prepare_105 (lv_at hl 0 rfl) ?_
    refine lv_istore (lv' := [(5, .int (nI k83)), (4, .int (nI k83)), (2, .long e5), (0, .ref h), (1, .int x)]) hx hb d_Rsa_prepare_107 hl (by decide) rfl (fun ls hl => ?_)
    refine w_loopW (α := Nat × va_W) (fun a9 => a9.1 ≤ (33 * L) ∧ TY γ κ Ad ν ω L a9.2 ∧ FR Ad G a9.2) (fun a9 => (33 * L) - a9.1) (fun a9 => [(5, .int (nI a9.1)), (4, .int (nI k83)), (2, .long e5), (0, .ref h), (1, .int x)]) (fun _ => []) (fun a9 => a9.2) 11 109 (fun a9 HL109 locs ls hJ hP hD hS hl ih109 => ?_) (k83, G_9) _ _ ls ⟨by omega, hTy, hFR⟩ hP hD hS (lv_sub hl [0, 1, 2, 3, 4] rfl)
    obtain ⟨z109, G109⟩ := a9
    obtain ⟨hz109, hTy, hFR⟩ := hJ
    dsimp only at hz109 hTy hFR hP hD hl ih109
    refine lv_iload hx hb d_Rsa_prepare_109 (lv_at hl 0 rfl) ?_
    refine lv_bipush (v := 33) hx hb d_Rsa_prepare_111 (by decide) ?_
    refine lv_aload_n hx hb d_Rsa_prepare_113 rfl (lv_at hl 3 rfl) ?_
    obtain ⟨i_10, mo_10, sq_10, ba_10, po_10, un_10, su_10, iv_10, kmo_10, ksq_10, kba_10, kpo_10, kun_10, ksu_10, hg_10⟩ := ty_10 hTy kh
    refine va_get (v := .int (nI L)) hx hb htb i_Rsa hown hK hP i_10 hg_10 rfl 6 (by decide) (htb _ q1_91) (fun _ h9 => h9) rfl d_Rsa_prepare_114 ?_
    refine lv_imul hx hb d_Rsa_prepare_117 ?_
    rw [show (33 * (nI L) : Int32) = nI (33 * L) from nI_mul 33 L]
    refine lv_icmp_ge (tgt := 201) hx hb d_Rsa_prepare_118 (by decide) (fun c118 => ?_) (fun c118 => ?_)
    · have p118 : (33 * L) ≤ z109 := ((nI_leI (a := (33 * L)) (b := z109) (by omega) (by omega)).mp c118)
      exact W.vret hx hb hr (fun t ht hW => ⟨⟨G109, rfl, ⟨hTy, hFR, trivial⟩, by rw [ht]; exact hP, va_K.moved hW.alike hK, hD⟩, hS.F ht⟩) hS.2.2 d_Rsa_prepare_201
    · have p118 : ¬ ((33 * L) ≤ z109) := (fun q9 => c118 ((nI_leI (a := (33 * L)) (b := z109) (by omega) (by omega)).mpr q9))
      refine lv_lconst (v := 0) hx hb d_Rsa_prepare_121 (by decide) ?_
      refine lv_lstore (lv' := [(6, .long 0), (5, .int (nI z109)), (4, .int (nI k83)), (2, .long e5), (0, .ref h), (1, .int x)]) hx hb d_Rsa_prepare_122 hl (by decide) rfl (fun ls hl => ?_)
      refine lv_iconst (v := 0) hx hb d_Rsa_prepare_124 (by decide) ?_
      refine lv_istore (lv' := [(8, .int 0), (6, .long 0), (5, .int (nI z109)), (4, .int (nI k83)), (2, .long e5), (0, .ref h), (1, .int x)]) hx hb d_Rsa_prepare_125 hl (by decide) rfl (fun ls hl => ?_)
      refine w_loopW (α := Nat × Int64 × va_W) (fun a9 => a9.1 ≤ L ∧ TY γ κ Ad ν ω L a9.2.2 ∧ FR Ad G a9.2.2) (fun a9 => L - a9.1) (fun a9 => [(8, .int (nI a9.1)), (6, .long a9.2.1), (5, .int (nI z109)), (4, .int (nI k83)), (2, .long e5), (0, .ref h), (1, .int x)]) (fun _ => []) (fun a9 => a9.2.2) 11 127 (fun a9 HL127 locs ls hJ hP hD hS hl ih127 => ?_) (0, (0 : Int64), G109) _ _ ls ⟨by omega, hTy, hFR⟩ hP hD hS (lv_sub hl [0, 1, 2, 3, 4, 5, 6] rfl)
      obtain ⟨z127, x127_6, G127⟩ := a9
      obtain ⟨hz127, hTy, hFR⟩ := hJ
      dsimp only at hz127 hTy hFR hP hD hl ih127
      refine lv_iload hx hb d_Rsa_prepare_127 (lv_at hl 0 rfl) ?_
      refine lv_aload_n hx hb d_Rsa_prepare_129 rfl (lv_at hl 5 rfl) ?_
      obtain ⟨i_11, mo_11, sq_11, ba_11, po_11, un_11, su_11, iv_11, kmo_11, ksq_11, kba_11, kpo_11, kun_11, ksu_11, hg_11⟩ := ty_10 hTy kh
      refine va_get (v := .int (nI L)) hx hb htb i_Rsa hown hK hP i_11 hg_11 rfl 6 (by decide) (htb _ q1_91) (fun _ h9 => h9) rfl d_Rsa_prepare_130 ?_
      refine lv_icmp_ge (tgt := 176) hx hb d_Rsa_prepare_133 (by decide) (fun c133 => ?_) (fun c133 => ?_)
      · have p133 : L ≤ z127 := ((nI_leI (a := L) (b := z127) (by omega) (by omega)).mp c133)
        refine lv_aload_n hx hb d_Rsa_prepare_176 rfl (lv_at hl 5 rfl) ?_
        refine va_get (v := .ref su_11) hx hb htb i_Rsa hown hK hP i_11 hg_11 rfl 5 (by decide) (htb _ q1_90) (fun _ h9 => h9) rfl d_Rsa_prepare_177 ?_
        refine lv_aload_n hx hb d_Rsa_prepare_180 rfl (lv_at hl 5 rfl) ?_
        refine va_get (v := .int (nI L)) hx hb htb i_Rsa hown hK hP i_11 hg_11 rfl 6 (by decide) (htb _ q1_91) (fun _ h9 => h9) rfl d_Rsa_prepare_181 ?_
        refine lv_lload hx hb d_Rsa_prepare_184 (lv_at hl 1 rfl) ?_
        obtain ⟨i_12, f_12, hn_12, hg_12⟩ := ty_7 hTy ksu_11
        have h186 : vp_in (nI L) 66 := vp_in_nI (by omega) (by omega)
        refine va_last hx hb hK hP hD hS i_12 2 hg_12 rfl h186 d_Rsa_prepare_186 (fun H186 locs hP hD2 hS => ?_)
        have hP : va_P (dC, dI) classes (G127.set i_12 (su_11, .inl (γ.2.2.1, 66, .inr (.inl (vp_updL f_12 (nI L).toNatClampNeg x127_6))))) H186 := hP
        have hD3 : va_D A (G127.set i_12 (su_11, .inl (γ.2.2.1, 66, .inr (.inl (vp_updL f_12 (nI L).toNatClampNeg x127_6))))) := hD2
        have hFR := hFR.tr (FR.set (c' := .inl (γ.2.2.1, 66, .inr (.inl (vp_updL f_12 (nI L).toNatClampNeg x127_6)))) hg_12 ksu_11.1)
        have hTy := TY.set (c' := .inl (γ.2.2.1, 66, .inr (.inl (vp_updL f_12 (nI L).toNatClampNeg x127_6)))) hTy hg_12 (ok_7 ksu_11 hn_12 _)
        have hD := hD3
        have hg_11 := set_keep (c' := .inl (γ.2.2.1, 66, .inr (.inl (vp_updL f_12 (nI L).toNatClampNeg x127_6)))) hg_12 hg_11 (tK.ne ksu_11 kh (show (7 : Nat) ≠ 10 by decide))
        clear hD3 hD2
        generalize G127.set i_12 (su_11, .inl (γ.2.2.1, 66, .inr (.inl (vp_updL f_12 (nI L).toNatClampNeg x127_6)))) = G_13 at hP hD hTy hFR hg_11
        refine lv_aload_n hx hb d_Rsa_prepare_187 rfl (lv_at hl 5 rfl) ?_
        refine lv_aload_n hx hb d_Rsa_prepare_188 rfl (lv_at hl 5 rfl) ?_
        refine va_get (v := .ref sq_11) hx hb htb i_Rsa hown hK hP i_11 hg_11 rfl 1 (by decide) (htb _ q1_86) (fun _ h9 => h9) rfl d_Rsa_prepare_189 ?_
        have hFc := va_free (wc := G_13) hD hS hA (List.range G_13.length) (rg_is _)
        refine va_callv (mu_runV (As := [.ref sq_11]) (rest := []) ⟨hx, hb, hml, hown, hts⟩ tbin (m_Rsa_settle l dC dI sb γ κ Ad ν ω L G_13 h sq_11  H186.size hTy kh ksq_11 hL hL1) q5_205 q5_207 qp_24 q1_6 q5_208 (n := 1) (by decide +kernel) rfl ⟨rfl, rfl⟩ ⟨Nat.le_of_ble_eq_true rfl, Nat.le_of_ble_eq_true rfl⟩ ⟨Nat.le_of_ble_eq_true rfl, Nat.le_of_ble_eq_true rfl⟩ hN (hT0.keep hS hAs) hAs (Nat.le_trans hB0 hS.1) hK hP hD (List.range G_13.length) (rg_nd _) (rg_is _) [0, 1, 2, 3] rfl i_11 7 hg_11 rfl rfl hl.1 rfl (Nat.le_of_ble_eq_true rfl) d_Rsa_prepare_192) hS (fun q _ h => hFc q h) hFc (fun G_14 tS H192 locs ht hvm hw192 hB hz1 hk1 hS => ?_)
        obtain ⟨hTy, hF9, hr192⟩ := hw192
        have hFR := hFR.tr hF9
        obtain ⟨hP1, hK1, hD1⟩ := hB
        rw [ht] at hP1
        have hP : va_P (dC, dI) classes G_14 H192 := hP1
        have hD : va_D A G_14 := hD1.weaken (fun _ _ _ h => hFc _ h)
        refine lv_iinc (v := nI (z109 + 1)) (lv' := [(5, .int (nI (z109 + 1))), (8, .int (nI z127)), (6, .long x127_6), (4, .int (nI k83)), (2, .long e5), (0, .ref h), (1, .int x)]) hx hb d_Rsa_prepare_195 hl (k := 2) rfl (nI_1 _) (by decide) rfl (fun ls hl => ?_)
        refine lv_goto (tgt := 109) hx hb d_Rsa_prepare_198 (by decide) ?_
        exact ih109 (z109 + 1, G_14) _ _ ls (by dsimp only; omega) ⟨by dsimp only; omega, hTy, hFR⟩ hP hD hS (lv_sub hl [0, 3, 4, 5, 6] rfl)
      · have p133 : ¬ (L ≤ z127) := (fun q9 => c133 ((nI_leI (a := L) (b := z127) (by omega) (by omega)).mpr q9))
        refine lv_aload_n hx hb d_Rsa_prepare_136 rfl (lv_at hl 5 rfl) ?_
        refine va_get (v := .ref sq_11) hx hb htb i_Rsa hown hK hP i_11 hg_11 rfl 1 (by decide) (htb _ q1_86) (fun _ h9 => h9) rfl d_Rsa_prepare_137 ?_
        refine lv_iload hx hb d_Rsa_prepare_140 (lv_at hl 0 rfl) ?_
        obtain ⟨i_15, f_15, hn_15, hg_15⟩ := ty_7 hTy ksq_11
        have h142 : vp_in (nI z127) 64 := vp_in_nI (by omega) (by omega)
        refine va_lald hx hb hK hP i_15 2 hg_15 rfl h142 d_Rsa_prepare_142 ?_
        refine lv_topl (fun e142 he142 => ?_)
        refine lv_iconst (v := 1) hx hb d_Rsa_prepare_143 (by decide) ?_
        refine lv_lshl (v := e142 <<< ((1 : Int32).toInt64 &&& 63)) hx hb d_Rsa_prepare_144 rfl ?_
        refine lv_lload hx hb d_Rsa_prepare_145 (lv_at hl 1 rfl) ?_
        refine lv_lor hx hb d_Rsa_prepare_147 ?_
        refine lv_topl (fun v148 ev148 => ?_)
        refine lv_lstore (lv' := [(9, .long v148), (8, .int (nI z127)), (6, .long x127_6), (5, .int (nI z109)), (4, .int (nI k83)), (2, .long e5), (0, .ref h), (1, .int x)]) hx hb d_Rsa_prepare_148 hl (by decide) rfl (fun ls hl => ?_)
        refine lv_aload_n hx hb d_Rsa_prepare_150 rfl (lv_at hl 6 rfl) ?_
        refine va_get (v := .ref su_11) hx hb htb i_Rsa hown hK hP i_11 hg_11 rfl 5 (by decide) (htb _ q1_90) (fun _ h9 => h9) rfl d_Rsa_prepare_151 ?_
        refine lv_iload hx hb d_Rsa_prepare_154 (lv_at hl 1 rfl) ?_
        refine lv_lload hx hb d_Rsa_prepare_156 (lv_at hl 0 rfl) ?_
        refine lv_ldc2 (v := 4294967295) hx hb hown (htb _ q5_202) d_Rsa_prepare_158 ?_
        refine lv_land hx hb d_Rsa_prepare_161 ?_
        obtain ⟨i_16, f_16, hn_16, hg_16⟩ := ty_7 hTy ksu_11
        have h162 : vp_in (nI z127) 66 := vp_in_nI (by omega) (by omega)
        refine va_last hx hb hK hP hD hS i_16 2 hg_16 rfl h162 d_Rsa_prepare_162 (fun H162 locs hP hD2 hS => ?_)
        have hP : va_P (dC, dI) classes (G127.set i_16 (su_11, .inl (γ.2.2.1, 66, .inr (.inl (vp_updL f_16 (nI z127).toNatClampNeg (v148 &&& 4294967295)))))) H162 := hP
        have hD3 : va_D A (G127.set i_16 (su_11, .inl (γ.2.2.1, 66, .inr (.inl (vp_updL f_16 (nI z127).toNatClampNeg (v148 &&& 4294967295)))))) := hD2
        have hFR := hFR.tr (FR.set (c' := .inl (γ.2.2.1, 66, .inr (.inl (vp_updL f_16 (nI z127).toNatClampNeg (v148 &&& 4294967295))))) hg_16 ksu_11.1)
        have hTy := TY.set (c' := .inl (γ.2.2.1, 66, .inr (.inl (vp_updL f_16 (nI z127).toNatClampNeg (v148 &&& 4294967295))))) hTy hg_16 (ok_7 ksu_11 hn_16 _)
        have hD := hD3
        have hg_11 := set_keep (c' := .inl (γ.2.2.1, 66, .inr (.inl (vp_updL f_16 (nI z127).toNatClampNeg (v148 &&& 4294967295))))) hg_16 hg_11 (tK.ne ksu_11 kh (show (7 : Nat) ≠ 10 by decide))
        clear hD3 hD2
        generalize G127.set i_16 (su_11, .inl (γ.2.2.1, 66, .inr (.inl (vp_updL f_16 (nI z127).toNatClampNeg (v148 &&& 4294967295))))) = G_17 at hP hD hTy hFR hg_11
        refine lv_lload hx hb d_Rsa_prepare_163 (lv_at hl 0 rfl) ?_
        refine lv_bipush (v := 32) hx hb d_Rsa_prepare_165 (by decide) ?_
        refine lv_lushr (v := (v148.toUInt64 >>> ((32 : Int32).toInt64.toUInt64 &&& Int64.toUInt64 63)).toInt64) hx hb d_Rsa_prepare_167 rfl ?_
        refine lv_topl (fun v168 ev168 => ?_)
        refine lv_lstore (lv' := [(6, .long v168), (9, .long v148), (8, .int (nI z127)), (5, .int (nI z109)), (4, .int (nI k83)), (2, .long e5), (0, .ref h), (1, .int x)]) hx hb d_Rsa_prepare_168 hl (by decide) rfl (fun ls hl => ?_)
        refine lv_iinc (v := nI (z127 + 1)) (lv' := [(8, .int (nI (z127 + 1))), (6, .long v168), (9, .long v148), (5, .int (nI z109)), (4, .int (nI k83)), (2, .long e5), (0, .ref h), (1, .int x)]) hx hb d_Rsa_prepare_170 hl (k := 2) rfl (nI_1 _) (by decide) rfl (fun ls hl => ?_)
        refine lv_goto (tgt := 127) hx hb d_Rsa_prepare_173 (by decide) ?_
        exact ih127 (z127 + 1, v168, G_17) _ _ ls (by dsimp only; omega) ⟨by dsimp only; omega, hTy, hFR⟩ hP hD hS (lv_sub hl [0, 1, 3, 4, 5, 6, 7] rfl)
  · have p18 : ¬ (5 ≤ z15) := (fun q9 => c18 ((nI_leI (a := 5) (b := z15) (by omega) (by omega)).mpr q9))
    refine lv_aload_n hx hb d_Rsa_prepare_21 rfl (lv_at hl 2 rfl) ?_
    refine lv_aload_n hx hb d_Rsa_prepare_22 rfl (lv_at hl 2 rfl) ?_
    obtain ⟨i_18, mo_18, sq_18, ba_18, po_18, un_18, su_18, iv_18, kmo_18, ksq_18, kba_18, kpo_18, kun_18, ksu_18, hg_18⟩ := ty_10 hTy kh
    refine va_get (v := .long iv_18) hx hb htb i_Rsa hown hK hP i_18 hg_18 rfl 7 (by decide) (htb _ q1_92) (fun _ h9 => h9) rfl d_Rsa_prepare_23 ?_
    refine lv_ldc2 (v := 2) hx hb hown (htb _ q5_201) d_Rsa_prepare_26 ?_
    refine lv_lload_n hx hb d_Rsa_prepare_29 rfl (lv_at hl 1 rfl) ?_
    refine lv_aload_n hx hb d_Rsa_prepare_30 rfl (lv_at hl 2 rfl) ?_
    refine va_get (v := .long iv_18) hx hb htb i_Rsa hown hK hP i_18 hg_18 rfl 7 (by decide) (htb _ q1_92) (fun _ h9 => h9) rfl d_Rsa_prepare_31 ?_
    refine lv_lmul hx hb d_Rsa_prepare_34 ?_
    refine lv_lsub hx hb d_Rsa_prepare_35 ?_
    refine lv_lmul hx hb d_Rsa_prepare_36 ?_
    refine lv_topl (fun v37 ev37 => ?_)
    refine va_put (v := .long v37) (ty := .long) hx hb htb i_Rsa t_Rsa t_Rsa_ok n_Rsa hown hK hP hD hS i_18 hg_18 rfl 7 (by decide) (htb _ q1_92) (fun _ h9 => h9) rfl (by decide +kernel) rfl rfl (Nat.le_of_ble_eq_true rfl) d_Rsa_prepare_37 (fun H37 locs hP hD2 hS => ?_)
    have hP : va_P (dC, dI) classes (G15.set i_18 (h, .inr (7, [.ref mo_18, .ref sq_18, .ref ba_18, .ref po_18, .ref un_18, .ref su_18, .int (nI L), .long v37]))) H37 := hP
    have hD3 : va_D A (G15.set i_18 (h, .inr (7, [.ref mo_18, .ref sq_18, .ref ba_18, .ref po_18, .ref un_18, .ref su_18, .int (nI L), .long v37]))) := hD2
    have hFR := hFR.tr (FR.set (c' := .inr (7, [.ref mo_18, .ref sq_18, .ref ba_18, .ref po_18, .ref un_18, .ref su_18, .int (nI L), .long v37])) hg_18 kh.1)
    have hTy := TY.set (c' := .inr (7, [.ref mo_18, .ref sq_18, .ref ba_18, .ref po_18, .ref un_18, .ref su_18, .int (nI L), .long v37])) hTy hg_18 (ok_10 kh kmo_18 ksq_18 kba_18 kpo_18 kun_18 ksu_18)
    have hD := hD3
    have hg_18 := set_here (c' := .inr (7, [.ref mo_18, .ref sq_18, .ref ba_18, .ref po_18, .ref un_18, .ref su_18, .int (nI L), .long v37])) hg_18
    clear hD3 hD2
    generalize G15.set i_18 (h, .inr (7, [.ref mo_18, .ref sq_18, .ref ba_18, .ref po_18, .ref un_18, .ref su_18, .int (nI L), .long v37])) = G_19 at hP hD hTy hFR hg_18
    refine lv_iinc (v := nI (z15 + 1)) (lv' := [(4, .int (nI (z15 + 1))), (2, .long e5), (0, .ref h), (1, .int x)]) hx hb d_Rsa_prepare_40 hl (k := 0) rfl (nI_1 _) (by decide) rfl (fun ls hl => ?_)
    refine lv_goto (tgt := 15) hx hb d_Rsa_prepare_43 (by decide) ?_
    exact ih15 (z15 + 1, G_19) _ _ ls (by dsimp only; omega) ⟨by dsimp only; omega, hTy, hFR⟩ hP hD hS (lv_sub hl [0, 1, 2, 3] rfl)
def y_Rsa_isBelowModulus : MethodName := ⟨"TrustChain$Rsa", "isBelowModulus", "([J)Z"⟩
abbrev b_Rsa_isBelowModulus : ByteArray := prog_9_method_5_code
def w_Rsa_isBelowModulus : List Cond := Cond.code y_Rsa_isBelowModulus b_Rsa_isBelowModulus 3 ((some FieldType.boolean)) :: tb
theorem d_Rsa_isBelowModulus_0 : decode b_Rsa_isBelowModulus 0 = .ok (.aload_n 0, 1) := by decide +kernel
theorem d_Rsa_isBelowModulus_1 : decode b_Rsa_isBelowModulus 1 = .ok (.getfield 30, 3) := by decide +kernel
theorem d_Rsa_isBelowModulus_4 : decode b_Rsa_isBelowModulus 4 = .ok (.iconst 1, 1) := by decide +kernel
theorem d_Rsa_isBelowModulus_5 : decode b_Rsa_isBelowModulus 5 = .ok (.isub, 1) := by decide +kernel
theorem d_Rsa_isBelowModulus_6 : decode b_Rsa_isBelowModulus 6 = .ok (.istore_n 2, 1) := by decide +kernel
theorem d_Rsa_isBelowModulus_7 : decode b_Rsa_isBelowModulus 7 = .ok (.iload_n 2, 1) := by decide +kernel
theorem d_Rsa_isBelowModulus_8 : decode b_Rsa_isBelowModulus 8 = .ok (.ifCond .lt 41, 3) := by decide +kernel
theorem d_Rsa_isBelowModulus_11 : decode b_Rsa_isBelowModulus 11 = .ok (.aload_n 1, 1) := by decide +kernel
theorem d_Rsa_isBelowModulus_12 : decode b_Rsa_isBelowModulus 12 = .ok (.iload_n 2, 1) := by decide +kernel
theorem d_Rsa_isBelowModulus_13 : decode b_Rsa_isBelowModulus 13 = .ok (.laload, 1) := by decide +kernel
theorem d_Rsa_isBelowModulus_14 : decode b_Rsa_isBelowModulus 14 = .ok (.aload_n 0, 1) := by decide +kernel
theorem d_Rsa_isBelowModulus_15 : decode b_Rsa_isBelowModulus 15 = .ok (.getfield 11, 3) := by decide +kernel
theorem d_Rsa_isBelowModulus_18 : decode b_Rsa_isBelowModulus 18 = .ok (.iload_n 2, 1) := by decide +kernel
theorem d_Rsa_isBelowModulus_19 : decode b_Rsa_isBelowModulus 19 = .ok (.laload, 1) := by decide +kernel
theorem d_Rsa_isBelowModulus_20 : decode b_Rsa_isBelowModulus 20 = .ok (.lcmp, 1) := by decide +kernel
theorem d_Rsa_isBelowModulus_21 : decode b_Rsa_isBelowModulus 21 = .ok (.ifCond .eq 22, 3) := by decide +kernel
theorem d_Rsa_isBelowModulus_24 : decode b_Rsa_isBelowModulus 24 = .ok (.aload_n 1, 1) := by decide +kernel
theorem d_Rsa_isBelowModulus_25 : decode b_Rsa_isBelowModulus 25 = .ok (.iload_n 2, 1) := by decide +kernel
theorem d_Rsa_isBelowModulus_26 : decode b_Rsa_isBelowModulus 26 = .ok (.laload, 1) := by decide +kernel
theorem d_Rsa_isBelowModulus_27 : decode b_Rsa_isBelowModulus 27 = .ok (.aload_n 0, 1) := by decide +kernel
theorem d_Rsa_isBelowModulus_28 : decode b_Rsa_isBelowModulus 28 = .ok (.getfield 11, 3) := by decide +kernel
theorem d_Rsa_isBelowModulus_31 : decode b_Rsa_isBelowModulus 31 = .ok (.iload_n 2, 1) := by decide +kernel
theorem d_Rsa_isBelowModulus_32 : decode b_Rsa_isBelowModulus 32 = .ok (.laload, 1) := by decide +kernel
theorem d_Rsa_isBelowModulus_33 : decode b_Rsa_isBelowModulus 33 = .ok (.lcmp, 1) := by decide +kernel
theorem d_Rsa_isBelowModulus_34 : decode b_Rsa_isBelowModulus 34 = .ok (.ifCond .ge 7, 3) := by decide +kernel
theorem d_Rsa_isBelowModulus_37 : decode b_Rsa_isBelowModulus 37 = .ok (.iconst 1, 1) := by decide +kernel
theorem d_Rsa_isBelowModulus_38 : decode b_Rsa_isBelowModulus 38 = .ok (.goto 4, 3) := by decide +kernel
theorem d_Rsa_isBelowModulus_41 : decode b_Rsa_isBelowModulus 41 = .ok (.iconst 0, 1) := by decide +kernel
theorem d_Rsa_isBelowModulus_42 : decode b_Rsa_isBelowModulus 42 = .ok (.ireturn, 1) := by decide +kernel
theorem d_Rsa_isBelowModulus_43 : decode b_Rsa_isBelowModulus 43 = .ok (.iinc 2 (-1), 3) := by decide +kernel
theorem d_Rsa_isBelowModulus_46 : decode b_Rsa_isBelowModulus 46 = .ok (.goto (-39), 3) := by decide +kernel
theorem d_Rsa_isBelowModulus_49 : decode b_Rsa_isBelowModulus 49 = .ok (.iconst 0, 1) := by decide +kernel
theorem d_Rsa_isBelowModulus_50 : decode b_Rsa_isBelowModulus 50 = .ok (.ireturn, 1) := by decide +kernel
set_option maxHeartbeats 4000000 in
set_option maxRecDepth 100000 in
theorem m_Rsa_isBelowModulus (l : Launch) (dC : Nat → ClassId) (dI : Nat → Nat → Nat) (sb : sB) (γ : cG) (κ : kE) (Ad : List Nat) (ν : Nat → cN) (ω : Nat → List Nat) (L : Nat) (G : va_W) (h g : Nat)  (sz : Nat) (hTy : TY γ κ Ad ν ω L G) (kh : tK κ Ad h (10, 0, 0)) (kg : tK κ Ad g (7, 64, 0)) (hL : L ≤ 64) (hL1 : 1 ≤ L) : Met l y_Rsa_isBelowModulus w_Rsa_isBelowModulus ({ frames := 0, cells := 0, slots := 0, locals := 0 }) (mu_P [.ref h, .ref g] (dC, dI) sb G [(γ.1, .byte), (γ.2.1, .int), (γ.2.2.1, .long), (γ.2.2.2, .object "java/lang/Object")] sz) (va_Qi (fun r (G' : va_W) => TY γ κ Ad ν ω L G' ∧ FR Ad G G' ∧ (bz r (r = 1))) (mu_B (dC, dI) [(γ.1, .byte), (γ.2.1, .int), (γ.2.2.1, .long), (γ.2.2.2, .object "java/lang/Object")] (va_A G sz) (fun G' : va_W => G')) (va_A G sz)) 0 0 (va_A G sz) := by
  refine Met.ofW (cc := b_Rsa_isBelowModulus) (maxL := 3) (ret := (some FieldType.boolean)) (by decide) rfl ?_
  intro p e s m args below meth c s₁ B hml hv
  obtain ⟨rfl, hsz, hB0, hP, hK, hD0, hN, hT0⟩ := hv
  have hx := B.exec
  have hb := B.bytes
  have hr := B.returns
  have hts := atoms_spec (ws := w_Rsa_isBelowModulus) B.pre
  have tbin : ∀ w ∈ tb, w ∈ w_Rsa_isBelowModulus := fun w h => List.mem_cons_of_mem _ h
  have htb : ∀ w ∈ tb, w.before _ s = true := fun w h => hts w (tbin w h)
  have hown : s.vm.findClass "TrustChain$Rsa" = some m.cls := findClass_of_methodNamed B.named
  have hlocks := B.notSynchronized
  subst hsz
  have hD := hD0.self (sz := s.heap.size)
  generalize hAe : va_A G s.heap.size = A at hD ⊢
  have hA : ∀ q : Nat, s.heap.size ≤ q → A q := fun q h => by rw [← hAe]; exact Or.inr h
  have hAs : ∀ q : Nat, A q → sb.1 ≤ q := fun q h => by
    rw [← hAe] at h
    rcases h with ⟨k, e, h⟩ | h
    · exact hD0.2 k _ h
    · exact Nat.le_trans hB0 h
  have hS : va_S A s.heap s.heap [] := va_S.rf
  have hFR := FR.rf Ad G
  have hcs : 0 ≤ (headSpec w_Rsa_isBelowModulus ({ frames := 0, cells := 0, slots := 0, locals := 0 })).room.cells ∧ 0 ≤ (headSpec w_Rsa_isBelowModulus ({ frames := 0, cells := 0, slots := 0, locals := 0 })).room.slots := ⟨Nat.le_refl _, Nat.le_refl _⟩
  have hP : va_P (dC, dI) classes G s.heap := hP
  have hl := lv_entry ([.ref h, .ref g]) (n := 3) (Nat.le_of_ble_eq_true rfl)
  rw [lg_entry_eq]
  generalize (lg_sl ([.ref h, .ref g]) ++ List.replicate (3 - (lg_sl ([.ref h, .ref g])).length) Slot.unset).toArray = ls at hl ⊢
  have hl : lv_has ls 3 [(0, .ref h), (1, .ref g)] := hl
  refine lv_aload_n hx hb d_Rsa_isBelowModulus_0 rfl (lv_at hl 0 rfl) ?_
  obtain ⟨i_1, mo_1, sq_1, ba_1, po_1, un_1, su_1, iv_1, kmo_1, ksq_1, kba_1, kpo_1, kun_1, ksu_1, hg_1⟩ := ty_10 hTy kh
  refine va_get (v := .int (nI L)) hx hb htb i_Rsa hown hK hP i_1 hg_1 rfl 6 (by decide) (htb _ q1_91) (fun _ h9 => h9) rfl d_Rsa_isBelowModulus_1 ?_
  refine lv_iconst (v := 1) hx hb d_Rsa_isBelowModulus_4 (by decide) ?_
  refine lv_isub hx hb d_Rsa_isBelowModulus_5 ?_
  rw [show ((nI L) - 1 : Int32) = nI (L - 1) from pk_sub (a := L) (b := 1) (by omega)]
  refine lv_istore_n (lv' := [(2, .int (nI (L - 1))), (0, .ref h), (1, .ref g)]) hx hb d_Rsa_isBelowModulus_6 rfl hl (by decide) rfl (fun ls hl => ?_)
  have hl : lv_has ls 3 [(2, .int (jD L)), (0, .ref h), (1, .ref g)] := by rw [jD_pos (k := L) (by omega)]; exact hl
  refine w_loopW (α := Nat × va_W) (fun a9 => a9.1 ≤ L ∧ TY γ κ Ad ν ω L a9.2 ∧ FR Ad G a9.2) (fun a9 => a9.1) (fun a9 => [(2, .int (jD a9.1)), (0, .ref h), (1, .ref g)]) (fun _ => []) (fun a9 => a9.2) 3 7 (fun a9 HL7 locs ls hJ hP hD hS hl ih7 => ?_) (L, G) _ _ ls ⟨by omega, hTy, hFR⟩ hP hD hS (lv_sub hl [0, 1, 2] rfl)
  obtain ⟨z7, G7⟩ := a9
  obtain ⟨hz7, hTy, hFR⟩ := hJ
  dsimp only at hz7 hTy hFR hP hD hl ih7
  obtain _ | z7 := z7
  · have hl : lv_has ls 3 [(2, .int (-1)), (0, .ref h), (1, .ref g)] := hl
    refine lv_iload_n hx hb d_Rsa_isBelowModulus_7 rfl (lv_at hl 0 rfl) ?_
    refine lv_if_lt (tgt := 49) hx hb d_Rsa_isBelowModulus_8 (by decide) (fun c8 => ?_) (fun c8 => ?_)
    rotate_left
    · exact absurd c8 (by decide)
    refine lv_iconst (v := 0) hx hb d_Rsa_isBelowModulus_49 (by decide) ?_
    exact W.zret (v := 0) hx hb hr rfl (fun t ht hW => ⟨⟨_, G7, rfl, ⟨hTy, hFR, bz_f (by decide)⟩, by rw [ht]; exact hP, va_K.moved hW.alike hK, hD⟩, hS.F ht⟩) hS.2.2 d_Rsa_isBelowModulus_50
  · have hl : lv_has ls 3 [(2, .int (nI z7)), (0, .ref h), (1, .ref g)] := hl
    refine lv_iload_n hx hb d_Rsa_isBelowModulus_7 rfl (lv_at hl 0 rfl) ?_
    refine lv_if_lt (tgt := 49) hx hb d_Rsa_isBelowModulus_8 (by decide) (fun c8 => ?_) (fun c8 => ?_)
    · have p8 : z7 < 0 := ((nI_ltI (a := z7) (b := 0) (by omega) (by omega)).mp c8)
      refine lv_iconst (v := 0) hx hb d_Rsa_isBelowModulus_49 (by decide) ?_
      exact W.zret (v := 0) hx hb hr rfl (fun t ht hW => ⟨⟨_, G7, rfl, ⟨hTy, hFR, bz_f (by decide)⟩, by rw [ht]; exact hP, va_K.moved hW.alike hK, hD⟩, hS.F ht⟩) hS.2.2 d_Rsa_isBelowModulus_50
    · have p8 : ¬ (z7 < 0) := (fun q9 => c8 ((nI_ltI (a := z7) (b := 0) (by omega) (by omega)).mpr q9))
      refine lv_aload_n hx hb d_Rsa_isBelowModulus_11 rfl (lv_at hl 2 rfl) ?_
      refine lv_iload_n hx hb d_Rsa_isBelowModulus_12 rfl (lv_at hl 0 rfl) ?_
      obtain ⟨i_2, f_2, hn_2, hg_2⟩ := ty_7 hTy kg
      have h13 : vp_in (nI z7) 64 := vp_in_nI (by omega) (by omega)
      refine va_lald hx hb hK hP i_2 2 hg_2 rfl h13 d_Rsa_isBelowModulus_13 ?_
      refine lv_topl (fun e13 he13 => ?_)
      refine lv_aload_n hx hb d_Rsa_isBelowModulus_14 rfl (lv_at hl 1 rfl) ?_
      obtain ⟨i_3, mo_3, sq_3, ba_3, po_3, un_3, su_3, iv_3, kmo_3, ksq_3, kba_3, kpo_3, kun_3, ksu_3, hg_3⟩ := ty_10 hTy kh
      refine va_get (v := .ref mo_3) hx hb htb i_Rsa hown hK hP i_3 hg_3 rfl 0 (by decide) (htb _ q1_85) (fun _ h9 => h9) rfl d_Rsa_isBelowModulus_15 ?_
      refine lv_iload_n hx hb d_Rsa_isBelowModulus_18 rfl (lv_at hl 0 rfl) ?_
      obtain ⟨i_4, f_4, hn_4, hg_4⟩ := ty_7 hTy kmo_3
      have h19 : vp_in (nI z7) 64 := vp_in_nI (by omega) (by omega)
      refine va_lald hx hb hK hP i_4 2 hg_4 rfl h19 d_Rsa_isBelowModulus_19 ?_
      refine lv_topl (fun e19 he19 => ?_)
      refine W.lcmp hx hb d_Rsa_isBelowModulus_20 ?_
      refine lv_if_eq (tgt := 43) hx hb d_Rsa_isBelowModulus_21 (by decide) (fun c21 => ?_) (fun c21 => ?_)
      · have p21 : (lg_cmp e13 e19) = (0 : Int32) := c21
        refine lv_iinc (v := jD z7) (lv' := [(2, .int (jD z7)), (0, .ref h), (1, .ref g)]) hx hb d_Rsa_isBelowModulus_43 hl (k := 0) rfl (jD_dec _) (by decide) rfl (fun ls hl => ?_)
        refine lv_goto (tgt := 7) hx hb d_Rsa_isBelowModulus_46 (by decide) ?_
        exact ih7 (z7, G7) _ _ ls (by dsimp only; omega) ⟨by dsimp only; omega, hTy, hFR⟩ hP hD hS (lv_sub hl [0, 1, 2] rfl)
      · have p21 : ¬ ((lg_cmp e13 e19) = (0 : Int32)) := c21
        refine lv_aload_n hx hb d_Rsa_isBelowModulus_24 rfl (lv_at hl 2 rfl) ?_
        refine lv_iload_n hx hb d_Rsa_isBelowModulus_25 rfl (lv_at hl 0 rfl) ?_
        have h26 : vp_in (nI z7) 64 := vp_in_nI (by omega) (by omega)
        refine va_lald hx hb hK hP i_2 2 hg_2 rfl h26 d_Rsa_isBelowModulus_26 ?_
        refine lv_topl (fun e26 he26 => ?_)
        refine lv_aload_n hx hb d_Rsa_isBelowModulus_27 rfl (lv_at hl 1 rfl) ?_
        refine va_get (v := .ref mo_3) hx hb htb i_Rsa hown hK hP i_3 hg_3 rfl 0 (by decide) (htb _ q1_85) (fun _ h9 => h9) rfl d_Rsa_isBelowModulus_28 ?_
        refine lv_iload_n hx hb d_Rsa_isBelowModulus_31 rfl (lv_at hl 0 rfl) ?_
        have h32 : vp_in (nI z7) 64 := vp_in_nI (by omega) (by omega)
        refine va_lald hx hb hK hP i_4 2 hg_4 rfl h32 d_Rsa_isBelowModulus_32 ?_
        refine lv_topl (fun e32 he32 => ?_)
        refine W.lcmp hx hb d_Rsa_isBelowModulus_33 ?_
        refine w_join (J := fun jv34 => bz jv34 (jv34 = 1)) (pc := 42) (ls := ls) (rest := []) (fun jv34 hjv34 => ?_) (fun k42 => ?_)
        · skip
          exact W.zret (v := jv34) hx hb hr (bz_n hjv34) (fun t ht hW => ⟨⟨_, G7, rfl, ⟨hTy, hFR, hjv34⟩, by rw [ht]; exact hP, va_K.moved hW.alike hK, hD⟩, hS.F ht⟩) hS.2.2 d_Rsa_isBelowModulus_42
        · skip
          refine lv_if_ge (tgt := 41) hx hb d_Rsa_isBelowModulus_34 (by decide) (fun c34 => ?_) (fun c34 => ?_)
          · have p34 : (0 : Int32) ≤ (lg_cmp e26 e32) := c34
            refine lv_iconst (v := 0) hx hb d_Rsa_isBelowModulus_41 (by decide) ?_
            exact k42 _ (bz_f (by decide))
          · have p34 : ¬ ((0 : Int32) ≤ (lg_cmp e26 e32)) := c34
            refine lv_iconst (v := 1) hx hb d_Rsa_isBelowModulus_37 (by decide) ?_
            refine lv_goto (tgt := 42) hx hb d_Rsa_isBelowModulus_38 (by decide) ?_
            exact k42 _ (bz_t rfl)
def y_Rsa_load : MethodName := ⟨"TrustChain$Rsa", "load", "(LTrustChain$Slice;[J)V"⟩
abbrev b_Rsa_load : ByteArray := prog_9_method_4_code
def w_Rsa_load : List Cond := Cond.code y_Rsa_load b_Rsa_load 5 (none) :: tb
theorem d_Rsa_load_0 : decode b_Rsa_load 0 = .ok (.aload_n 2, 1) := by decide +kernel
theorem d_Rsa_load_1 : decode b_Rsa_load 1 = .ok (.lconst 0, 1) := by decide +kernel
theorem d_Rsa_load_2 : decode b_Rsa_load 2 = .ok (.invokestatic 100, 3) := by decide +kernel
theorem d_Rsa_load_5 : decode b_Rsa_load 5 = .ok (.aload_n 1, 1) := by decide +kernel
theorem d_Rsa_load_6 : decode b_Rsa_load 6 = .ok (.invokevirtual 56, 3) := by decide +kernel
theorem d_Rsa_load_9 : decode b_Rsa_load 9 = .ok (.istore_n 3, 1) := by decide +kernel
theorem d_Rsa_load_10 : decode b_Rsa_load 10 = .ok (.iconst 0, 1) := by decide +kernel
theorem d_Rsa_load_11 : decode b_Rsa_load 11 = .ok (.istore 4, 2) := by decide +kernel
theorem d_Rsa_load_13 : decode b_Rsa_load 13 = .ok (.iload 4, 2) := by decide +kernel
theorem d_Rsa_load_15 : decode b_Rsa_load 15 = .ok (.iload_n 3, 1) := by decide +kernel
theorem d_Rsa_load_16 : decode b_Rsa_load 16 = .ok (.if_icmp .ge 45, 3) := by decide +kernel
theorem d_Rsa_load_19 : decode b_Rsa_load 19 = .ok (.iload 4, 2) := by decide +kernel
theorem d_Rsa_load_21 : decode b_Rsa_load 21 = .ok (.sipush 256, 3) := by decide +kernel
theorem d_Rsa_load_24 : decode b_Rsa_load 24 = .ok (.if_icmp .ge 37, 3) := by decide +kernel
theorem d_Rsa_load_27 : decode b_Rsa_load 27 = .ok (.aload_n 2, 1) := by decide +kernel
theorem d_Rsa_load_28 : decode b_Rsa_load 28 = .ok (.iload 4, 2) := by decide +kernel
theorem d_Rsa_load_30 : decode b_Rsa_load 30 = .ok (.iconst 4, 1) := by decide +kernel
theorem d_Rsa_load_31 : decode b_Rsa_load 31 = .ok (.idiv, 1) := by decide +kernel
theorem d_Rsa_load_32 : decode b_Rsa_load 32 = .ok (.dup2, 1) := by decide +kernel
theorem d_Rsa_load_33 : decode b_Rsa_load 33 = .ok (.laload, 1) := by decide +kernel
theorem d_Rsa_load_34 : decode b_Rsa_load 34 = .ok (.aload_n 1, 1) := by decide +kernel
theorem d_Rsa_load_35 : decode b_Rsa_load 35 = .ok (.iload_n 3, 1) := by decide +kernel
theorem d_Rsa_load_36 : decode b_Rsa_load 36 = .ok (.iconst 1, 1) := by decide +kernel
theorem d_Rsa_load_37 : decode b_Rsa_load 37 = .ok (.isub, 1) := by decide +kernel
theorem d_Rsa_load_38 : decode b_Rsa_load 38 = .ok (.iload 4, 2) := by decide +kernel
theorem d_Rsa_load_40 : decode b_Rsa_load 40 = .ok (.isub, 1) := by decide +kernel
theorem d_Rsa_load_41 : decode b_Rsa_load 41 = .ok (.invokevirtual 106, 3) := by decide +kernel
theorem d_Rsa_load_44 : decode b_Rsa_load 44 = .ok (.i2l, 1) := by decide +kernel
theorem d_Rsa_load_45 : decode b_Rsa_load 45 = .ok (.bipush 8, 2) := by decide +kernel
theorem d_Rsa_load_47 : decode b_Rsa_load 47 = .ok (.iload 4, 2) := by decide +kernel
theorem d_Rsa_load_49 : decode b_Rsa_load 49 = .ok (.iconst 4, 1) := by decide +kernel
theorem d_Rsa_load_50 : decode b_Rsa_load 50 = .ok (.irem, 1) := by decide +kernel
theorem d_Rsa_load_51 : decode b_Rsa_load 51 = .ok (.imul, 1) := by decide +kernel
theorem d_Rsa_load_52 : decode b_Rsa_load 52 = .ok (.lshl, 1) := by decide +kernel
theorem d_Rsa_load_53 : decode b_Rsa_load 53 = .ok (.lor, 1) := by decide +kernel
theorem d_Rsa_load_54 : decode b_Rsa_load 54 = .ok (.lastore, 1) := by decide +kernel
theorem d_Rsa_load_55 : decode b_Rsa_load 55 = .ok (.iinc 4 1, 3) := by decide +kernel
theorem d_Rsa_load_58 : decode b_Rsa_load 58 = .ok (.goto (-45), 3) := by decide +kernel
theorem d_Rsa_load_61 : decode b_Rsa_load 61 = .ok (.return_, 1) := by decide +kernel
set_option maxHeartbeats 4000000 in
set_option maxRecDepth 100000 in
theorem m_Rsa_load (l : Launch) (dC : Nat → ClassId) (dI : Nat → Nat → Nat) (sb : sB) (γ : cG) (κ : kE) (Ad : List Nat) (ν : Nat → cN) (ω : Nat → List Nat) (L : Nat) (G : va_W) (h q g : Nat) (z : Nat) (sz : Nat) (hTy : TY γ κ Ad ν ω L G) (kh : tK κ Ad h (10, 0, 0)) (kq : tK κ Ad q (2, z, 0)) (kg : tK κ Ad g (7, 64, 0))  : Met l y_Rsa_load w_Rsa_load ({ frames := 1, cells := 0, slots := 0, locals := 24 }) (mu_P [.ref h, .ref q, .ref g] (dC, dI) sb G [(γ.1, .byte), (γ.2.1, .int), (γ.2.2.1, .long), (γ.2.2.2, .object "java/lang/Object")] sz) (va_Qv (fun (G' : va_W) => TY γ κ Ad ν ω L G' ∧ FR Ad G G' ∧ (True)) (mu_B (dC, dI) [(γ.1, .byte), (γ.2.1, .int), (γ.2.2.1, .long), (γ.2.2.2, .object "java/lang/Object")] (va_A G sz) (fun G' : va_W => G')) (va_A G sz)) 0 0 (va_A G sz) := by
  refine Met.ofW (cc := b_Rsa_load) (maxL := 5) (ret := none) (by decide) rfl ?_
  intro p e s m args below meth c s₁ B hml hv
  obtain ⟨rfl, hsz, hB0, hP, hK, hD0, hN, hT0⟩ := hv
  have hx := B.exec
  have hb := B.bytes
  have hr := B.returns
  have hts := atoms_spec (ws := w_Rsa_load) B.pre
  have tbin : ∀ w ∈ tb, w ∈ w_Rsa_load := fun w h => List.mem_cons_of_mem _ h
  have htb : ∀ w ∈ tb, w.before _ s = true := fun w h => hts w (tbin w h)
  have hown : s.vm.findClass "TrustChain$Rsa" = some m.cls := findClass_of_methodNamed B.named
  have hlocks := B.notSynchronized
  subst hsz
  have hD := hD0.self (sz := s.heap.size)
  generalize hAe : va_A G s.heap.size = A at hD ⊢
  have hA : ∀ q : Nat, s.heap.size ≤ q → A q := fun q h => by rw [← hAe]; exact Or.inr h
  have hAs : ∀ q : Nat, A q → sb.1 ≤ q := fun q h => by
    rw [← hAe] at h
    rcases h with ⟨k, e, h⟩ | h
    · exact hD0.2 k _ h
    · exact Nat.le_trans hB0 h
  have hS : va_S A s.heap s.heap [] := va_S.rf
  have hFR := FR.rf Ad G
  have hcs : 0 ≤ (headSpec w_Rsa_load ({ frames := 1, cells := 0, slots := 0, locals := 24 })).room.cells ∧ 0 ≤ (headSpec w_Rsa_load ({ frames := 1, cells := 0, slots := 0, locals := 24 })).room.slots := ⟨Nat.le_refl _, Nat.le_refl _⟩
  have hP : va_P (dC, dI) classes G s.heap := hP
  have hl := lv_entry ([.ref h, .ref q, .ref g]) (n := 5) (Nat.le_of_ble_eq_true rfl)
  rw [lg_entry_eq]
  generalize (lg_sl ([.ref h, .ref q, .ref g]) ++ List.replicate (5 - (lg_sl ([.ref h, .ref q, .ref g])).length) Slot.unset).toArray = ls at hl ⊢
  have hl : lv_has ls 5 [(0, .ref h), (1, .ref q), (2, .ref g)] := hl
  refine lv_aload_n hx hb d_Rsa_load_0 rfl (lv_at hl 2 rfl) ?_
  refine lv_lconst (v := 0) hx hb d_Rsa_load_1 (by decide) ?_
  have hFc := va_free (wc := G) hD hS hA (List.range G.length) (rg_is _)
  refine va_callv (mu_runS (As := [.ref g, .long 0]) (rest := []) ⟨hx, hb, hml, hown, hts⟩ tbin (m_fill l dC dI sb γ κ Ad ν ω L G g _ _ s.heap.size hTy kg (by omega)) q5_189 q5_190 q1_17 q5_191 (n := 2) (by decide +kernel) rfl ⟨rfl, rfl⟩ ⟨Nat.le_of_ble_eq_true rfl, Nat.le_of_ble_eq_true rfl⟩ ⟨Nat.le_of_ble_eq_true rfl, Nat.le_of_ble_eq_true rfl⟩ hN (hT0.keep hS hAs) hAs (Nat.le_trans hB0 hS.1) hK hP hD (List.range G.length) (rg_nd _) (rg_is _) [0, 1, 2, 3] rfl hl.1 rfl (Nat.le_of_ble_eq_true rfl) d_Rsa_load_2) hS (fun q _ h => hFc q h) hFc (fun G_1 tS H2 locs ht hvm hw2 hB hz1 hk1 hS => ?_)
  obtain ⟨hTy, hF9, hr2⟩ := hw2
  have hFR := hFR.tr hF9
  obtain ⟨hP1, hK1, hD1⟩ := hB
  rw [ht] at hP1
  have hP : va_P (dC, dI) classes G_1 H2 := hP1
  have hD : va_D A G_1 := hD1.weaken (fun _ _ _ h => hFc _ h)
  refine lv_aload_n hx hb d_Rsa_load_5 rfl (lv_at hl 1 rfl) ?_
  obtain ⟨i_2, t_2, n_2, f_2, kt_2, hb_2, hm_2, hg_2⟩ := ty_2 hTy kq
  refine vp_callSi (pu_callV (As := []) (rest := []) ⟨hx, hb, hml, hown, hts⟩ tbin (c_Slice_length l dC dI sb q t_2 f_2 (f_2 + z) (by omega)) q5_184 q3_144 q3_145 q1_22 q3_146 (n := 0) (by decide +kernel) rfl ⟨rfl, rfl⟩ ⟨Nat.le_of_ble_eq_true rfl, Nat.le_of_ble_eq_true rfl⟩ ⟨Nat.le_of_ble_eq_true rfl, Nat.le_of_ble_eq_true rfl⟩ hN (hT0.keep hS hAs) hK hP [i_2] (by simp only [List.filterMap_cons, List.filterMap_nil, hg_2]) [] rfl i_2 0 hg_2 rfl rfl hl.1 rfl (Nat.le_of_ble_eq_true rfl) d_Rsa_load_6) (fun r6 hr6 => ?_)
  rw [show (f_2 + z) - f_2 = z by omega] at hr6
  subst hr6
  refine lv_istore_n (lv' := [(3, .int (nI z)), (0, .ref h), (1, .ref q), (2, .ref g)]) hx hb d_Rsa_load_9 rfl hl (by decide) rfl (fun ls hl => ?_)
  refine lv_iconst (v := 0) hx hb d_Rsa_load_10 (by decide) ?_
  refine lv_istore (lv' := [(4, .int 0), (3, .int (nI z)), (0, .ref h), (1, .ref q), (2, .ref g)]) hx hb d_Rsa_load_11 hl (by decide) rfl (fun ls hl => ?_)
  refine w_loopW (α := Nat × va_W) (fun a9 => a9.1 ≤ 256 ∧ TY γ κ Ad ν ω L a9.2 ∧ FR Ad G a9.2) (fun a9 => 256 - a9.1) (fun a9 => [(4, .int (nI a9.1)), (3, .int (nI z)), (0, .ref h), (1, .ref q), (2, .ref g)]) (fun _ => []) (fun a9 => a9.2) 5 13 (fun a9 HL13 locs ls hJ hP hD hS hl ih13 => ?_) (0, G_1) _ _ ls ⟨by omega, hTy, hFR⟩ hP hD hS (lv_sub hl [0, 1, 2, 3, 4] rfl)
  obtain ⟨z13, G13⟩ := a9
  obtain ⟨hz13, hTy, hFR⟩ := hJ
  dsimp only at hz13 hTy hFR hP hD hl ih13
  refine lv_iload hx hb d_Rsa_load_13 (lv_at hl 0 rfl) ?_
  refine lv_iload_n hx hb d_Rsa_load_15 rfl (lv_at hl 1 rfl) ?_
  refine lv_icmp_ge (tgt := 61) hx hb d_Rsa_load_16 (by decide) (fun c16 => ?_) (fun c16 => ?_)
  · have p16 : z ≤ z13 := ((nI_leI (a := z) (b := z13) (by omega) (by omega)).mp c16)
    exact W.vret hx hb hr (fun t ht hW => ⟨⟨G13, rfl, ⟨hTy, hFR, trivial⟩, by rw [ht]; exact hP, va_K.moved hW.alike hK, hD⟩, hS.F ht⟩) hS.2.2 d_Rsa_load_61
  · have p16 : ¬ (z ≤ z13) := (fun q9 => c16 ((nI_leI (a := z) (b := z13) (by omega) (by omega)).mpr q9))
    refine lv_iload hx hb d_Rsa_load_19 (lv_at hl 0 rfl) ?_
    refine lv_sipush (v := 256) hx hb d_Rsa_load_21 (by decide) ?_
    refine lv_icmp_ge (tgt := 61) hx hb d_Rsa_load_24 (by decide) (fun c24 => ?_) (fun c24 => ?_)
    · have p24 : 256 ≤ z13 := ((nI_leI (a := 256) (b := z13) (by omega) (by omega)).mp c24)
      exact W.vret hx hb hr (fun t ht hW => ⟨⟨G13, rfl, ⟨hTy, hFR, trivial⟩, by rw [ht]; exact hP, va_K.moved hW.alike hK, hD⟩, hS.F ht⟩) hS.2.2 d_Rsa_load_61
    · have p24 : ¬ (256 ≤ z13) := (fun q9 => c24 ((nI_leI (a := 256) (b := z13) (by omega) (by omega)).mpr q9))
      refine lv_aload_n hx hb d_Rsa_load_27 rfl (lv_at hl 4 rfl) ?_
      refine lv_iload hx hb d_Rsa_load_28 (lv_at hl 0 rfl) ?_
      refine lv_iconst (v := 4) hx hb d_Rsa_load_30 (by decide) ?_
      refine lv_idiv hx hb d_Rsa_load_31 (by decide) ?_
      rw [show ((nI z13) / 4 : Int32) = nI (z13 / 4) from nI_idiv (a := z13) (b := 4) (by omega) (by omega) (by omega)]
      refine lv_dup2_11 hx hb d_Rsa_load_32 rfl rfl ?_
      obtain ⟨i_3, f_3, hn_3, hg_3⟩ := ty_7 hTy kg
      have h33 : vp_in (nI (z13 / 4)) 64 := vp_in_nI (by omega) (by omega)
      refine va_lald hx hb hK hP i_3 2 hg_3 rfl h33 d_Rsa_load_33 ?_
      refine lv_topl (fun e33 he33 => ?_)
      refine lv_aload_n hx hb d_Rsa_load_34 rfl (lv_at hl 3 rfl) ?_
      refine lv_iload_n hx hb d_Rsa_load_35 rfl (lv_at hl 1 rfl) ?_
      refine lv_iconst (v := 1) hx hb d_Rsa_load_36 (by decide) ?_
      refine lv_isub hx hb d_Rsa_load_37 ?_
      rw [show ((nI z) - 1 : Int32) = nI (z - 1) from pk_sub (a := z) (b := 1) (by omega)]
      refine lv_iload hx hb d_Rsa_load_38 (lv_at hl 0 rfl) ?_
      refine lv_isub hx hb d_Rsa_load_40 ?_
      rw [show ((nI (z - 1)) - (nI z13) : Int32) = nI ((z - 1) - z13) from pk_sub (a := (z - 1)) (b := z13) (by omega)]
      obtain ⟨i_4, t_4, n_4, f_4, kt_4, hb_4, hm_4, hg_4⟩ := ty_2 hTy kq
      obtain ⟨i_5, u_5, hu_5, hn_5, hg_5⟩ := ty_1 hTy kt_4
      refine vp_callSi (pu_callV (As := [.int (nI ((z - 1) - z13))]) (rest := [.long e33, .int (nI (z13 / 4)), .ref g]) ⟨hx, hb, hml, hown, hts⟩ tbin (c_Slice_at l dC dI sb q t_4 f_4 (f_4 + z) n_4 γ.1 u_5 (nI ((z - 1) - z13)) hu_5 (by omega) (by omega) (by omega)) q5_192 q3_149 q3_150 q1_22 q3_151 (n := 1) (by decide +kernel) rfl ⟨rfl, rfl⟩ ⟨Nat.le_of_ble_eq_true rfl, Nat.le_of_ble_eq_true rfl⟩ ⟨Nat.le_of_ble_eq_true rfl, Nat.le_of_ble_eq_true rfl⟩ hN (hT0.keep hS hAs) hK hP [i_4, i_5] (by simp only [List.filterMap_cons, List.filterMap_nil, hg_4, hg_5]) [0] rfl i_4 0 hg_4 rfl rfl hl.1 rfl (Nat.le_of_ble_eq_true rfl) d_Rsa_load_41) (fun r41 hr41 => ?_)
      refine lv_i2l (v := r41.toInt64) hx hb d_Rsa_load_44 rfl ?_
      refine lv_bipush (v := 8) hx hb d_Rsa_load_45 (by decide) ?_
      refine lv_iload hx hb d_Rsa_load_47 (lv_at hl 0 rfl) ?_
      refine lv_iconst (v := 4) hx hb d_Rsa_load_49 (by decide) ?_
      refine lv_irem hx hb d_Rsa_load_50 (by decide) ?_
      rw [show ((nI z13) - (nI z13) / 4 * 4 : Int32) = nI (z13 % 4) from nI_irem (a := z13) (b := 4) (by omega) (by omega) (by omega)]
      refine lv_imul hx hb d_Rsa_load_51 ?_
      rw [show (8 * (nI (z13 % 4)) : Int32) = nI (8 * (z13 % 4)) from nI_mul 8 (z13 % 4)]
      refine lv_lshl (v := r41.toInt64 <<< ((nI (8 * (z13 % 4))).toInt64 &&& 63)) hx hb d_Rsa_load_52 rfl ?_
      refine lv_lor hx hb d_Rsa_load_53 ?_
      have h54 : vp_in (nI (z13 / 4)) 64 := vp_in_nI (by omega) (by omega)
      refine va_last hx hb hK hP hD hS i_3 2 hg_3 rfl h54 d_Rsa_load_54 (fun H54 locs hP hD2 hS => ?_)
      have hP : va_P (dC, dI) classes (G13.set i_3 (g, .inl (γ.2.2.1, 64, .inr (.inl (vp_updL f_3 (nI (z13 / 4)).toNatClampNeg (e33 ||| (r41.toInt64 <<< ((nI (8 * (z13 % 4))).toInt64 &&& 63)))))))) H54 := hP
      have hD3 : va_D A (G13.set i_3 (g, .inl (γ.2.2.1, 64, .inr (.inl (vp_updL f_3 (nI (z13 / 4)).toNatClampNeg (e33 ||| (r41.toInt64 <<< ((nI (8 * (z13 % 4))).toInt64 &&& 63)))))))) := hD2
      have hFR := hFR.tr (FR.set (c' := .inl (γ.2.2.1, 64, .inr (.inl (vp_updL f_3 (nI (z13 / 4)).toNatClampNeg (e33 ||| (r41.toInt64 <<< ((nI (8 * (z13 % 4))).toInt64 &&& 63))))))) hg_3 kg.1)
      have hTy := TY.set (c' := .inl (γ.2.2.1, 64, .inr (.inl (vp_updL f_3 (nI (z13 / 4)).toNatClampNeg (e33 ||| (r41.toInt64 <<< ((nI (8 * (z13 % 4))).toInt64 &&& 63))))))) hTy hg_3 (ok_7 kg hn_3 _)
      have hD := hD3
      have hg_4 := set_keep (c' := .inl (γ.2.2.1, 64, .inr (.inl (vp_updL f_3 (nI (z13 / 4)).toNatClampNeg (e33 ||| (r41.toInt64 <<< ((nI (8 * (z13 % 4))).toInt64 &&& 63))))))) hg_3 hg_4 (tK.ne kg kq (show (7 : Nat) ≠ 2 by decide))
      have hg_5 := set_keep (c' := .inl (γ.2.2.1, 64, .inr (.inl (vp_updL f_3 (nI (z13 / 4)).toNatClampNeg (e33 ||| (r41.toInt64 <<< ((nI (8 * (z13 % 4))).toInt64 &&& 63))))))) hg_3 hg_5 (tK.ne kg kt_4 (show (7 : Nat) ≠ 1 by decide))
      clear hD3 hD2
      generalize G13.set i_3 (g, .inl (γ.2.2.1, 64, .inr (.inl (vp_updL f_3 (nI (z13 / 4)).toNatClampNeg (e33 ||| (r41.toInt64 <<< ((nI (8 * (z13 % 4))).toInt64 &&& 63))))))) = G_6 at hP hD hTy hFR hg_4 hg_5
      refine lv_iinc (v := nI (z13 + 1)) (lv' := [(4, .int (nI (z13 + 1))), (3, .int (nI z)), (0, .ref h), (1, .ref q), (2, .ref g)]) hx hb d_Rsa_load_55 hl (k := 0) rfl (nI_1 _) (by decide) rfl (fun ls hl => ?_)
      refine lv_goto (tgt := 13) hx hb d_Rsa_load_58 (by decide) ?_
      exact ih13 (z13 + 1, G_6) _ _ ls (by dsimp only; omega) ⟨by dsimp only; omega, hTy, hFR⟩ hP hD hS (lv_sub hl [0, 1, 2, 3, 4] rfl)
def y_Rsa_due : MethodName := ⟨"TrustChain$Rsa", "due", "([III)I"⟩
abbrev b_Rsa_due : ByteArray := prog_9_method_10_code
def w_Rsa_due : List Cond := Cond.code y_Rsa_due b_Rsa_due 4 ((some FieldType.int)) :: tb
theorem d_Rsa_due_0 : decode b_Rsa_due 0 = .ok (.iload_n 1, 1) := by decide +kernel
theorem d_Rsa_due_1 : decode b_Rsa_due 1 = .ok (.bipush 32, 2) := by decide +kernel
theorem d_Rsa_due_3 : decode b_Rsa_due 3 = .ok (.if_icmp .ge 23, 3) := by decide +kernel
theorem d_Rsa_due_6 : decode b_Rsa_due 6 = .ok (.aload_n 0, 1) := by decide +kernel
theorem d_Rsa_due_7 : decode b_Rsa_due 7 = .ok (.bipush 7, 2) := by decide +kernel
theorem d_Rsa_due_9 : decode b_Rsa_due 9 = .ok (.iload_n 1, 1) := by decide +kernel
theorem d_Rsa_due_10 : decode b_Rsa_due 10 = .ok (.iconst 4, 1) := by decide +kernel
theorem d_Rsa_due_11 : decode b_Rsa_due 11 = .ok (.idiv, 1) := by decide +kernel
theorem d_Rsa_due_12 : decode b_Rsa_due 12 = .ok (.isub, 1) := by decide +kernel
theorem d_Rsa_due_13 : decode b_Rsa_due 13 = .ok (.iaload, 1) := by decide +kernel
theorem d_Rsa_due_14 : decode b_Rsa_due 14 = .ok (.bipush 8, 2) := by decide +kernel
theorem d_Rsa_due_16 : decode b_Rsa_due 16 = .ok (.iload_n 1, 1) := by decide +kernel
theorem d_Rsa_due_17 : decode b_Rsa_due 17 = .ok (.iconst 4, 1) := by decide +kernel
theorem d_Rsa_due_18 : decode b_Rsa_due 18 = .ok (.irem, 1) := by decide +kernel
theorem d_Rsa_due_19 : decode b_Rsa_due 19 = .ok (.imul, 1) := by decide +kernel
theorem d_Rsa_due_20 : decode b_Rsa_due 20 = .ok (.iushr, 1) := by decide +kernel
theorem d_Rsa_due_21 : decode b_Rsa_due 21 = .ok (.sipush 255, 3) := by decide +kernel
theorem d_Rsa_due_24 : decode b_Rsa_due 24 = .ok (.iand, 1) := by decide +kernel
theorem d_Rsa_due_25 : decode b_Rsa_due 25 = .ok (.ireturn, 1) := by decide +kernel
theorem d_Rsa_due_26 : decode b_Rsa_due 26 = .ok (.iload_n 1, 1) := by decide +kernel
theorem d_Rsa_due_27 : decode b_Rsa_due 27 = .ok (.bipush 32, 2) := by decide +kernel
theorem d_Rsa_due_29 : decode b_Rsa_due 29 = .ok (.isub, 1) := by decide +kernel
theorem d_Rsa_due_30 : decode b_Rsa_due 30 = .ok (.istore_n 3, 1) := by decide +kernel
theorem d_Rsa_due_31 : decode b_Rsa_due 31 = .ok (.iload_n 3, 1) := by decide +kernel
theorem d_Rsa_due_32 : decode b_Rsa_due 32 = .ok (.getstatic 131, 3) := by decide +kernel
theorem d_Rsa_due_35 : decode b_Rsa_due 35 = .ok (.arraylength, 1) := by decide +kernel
theorem d_Rsa_due_36 : decode b_Rsa_due 36 = .ok (.if_icmp .ge 16, 3) := by decide +kernel
theorem d_Rsa_due_39 : decode b_Rsa_due 39 = .ok (.getstatic 131, 3) := by decide +kernel
theorem d_Rsa_due_42 : decode b_Rsa_due 42 = .ok (.getstatic 131, 3) := by decide +kernel
theorem d_Rsa_due_45 : decode b_Rsa_due 45 = .ok (.arraylength, 1) := by decide +kernel
theorem d_Rsa_due_46 : decode b_Rsa_due 46 = .ok (.iconst 1, 1) := by decide +kernel
theorem d_Rsa_due_47 : decode b_Rsa_due 47 = .ok (.isub, 1) := by decide +kernel
theorem d_Rsa_due_48 : decode b_Rsa_due 48 = .ok (.iload_n 3, 1) := by decide +kernel
theorem d_Rsa_due_49 : decode b_Rsa_due 49 = .ok (.isub, 1) := by decide +kernel
theorem d_Rsa_due_50 : decode b_Rsa_due 50 = .ok (.iaload, 1) := by decide +kernel
theorem d_Rsa_due_51 : decode b_Rsa_due 51 = .ok (.ireturn, 1) := by decide +kernel
theorem d_Rsa_due_52 : decode b_Rsa_due 52 = .ok (.iload_n 3, 1) := by decide +kernel
theorem d_Rsa_due_53 : decode b_Rsa_due 53 = .ok (.getstatic 131, 3) := by decide +kernel
theorem d_Rsa_due_56 : decode b_Rsa_due 56 = .ok (.arraylength, 1) := by decide +kernel
theorem d_Rsa_due_57 : decode b_Rsa_due 57 = .ok (.if_icmp .eq 10, 3) := by decide +kernel
theorem d_Rsa_due_60 : decode b_Rsa_due 60 = .ok (.iload_n 1, 1) := by decide +kernel
theorem d_Rsa_due_61 : decode b_Rsa_due 61 = .ok (.iload_n 2, 1) := by decide +kernel
theorem d_Rsa_due_62 : decode b_Rsa_due 62 = .ok (.iconst 1, 1) := by decide +kernel
theorem d_Rsa_due_63 : decode b_Rsa_due 63 = .ok (.isub, 1) := by decide +kernel
theorem d_Rsa_due_64 : decode b_Rsa_due 64 = .ok (.if_icmp .ne 5, 3) := by decide +kernel
theorem d_Rsa_due_67 : decode b_Rsa_due 67 = .ok (.iconst 0, 1) := by decide +kernel
theorem d_Rsa_due_68 : decode b_Rsa_due 68 = .ok (.ireturn, 1) := by decide +kernel
theorem d_Rsa_due_69 : decode b_Rsa_due 69 = .ok (.iload_n 1, 1) := by decide +kernel
theorem d_Rsa_due_70 : decode b_Rsa_due 70 = .ok (.iload_n 2, 1) := by decide +kernel
theorem d_Rsa_due_71 : decode b_Rsa_due 71 = .ok (.iconst 2, 1) := by decide +kernel
theorem d_Rsa_due_72 : decode b_Rsa_due 72 = .ok (.isub, 1) := by decide +kernel
theorem d_Rsa_due_73 : decode b_Rsa_due 73 = .ok (.if_icmp .ne 7, 3) := by decide +kernel
theorem d_Rsa_due_76 : decode b_Rsa_due 76 = .ok (.iconst 1, 1) := by decide +kernel
theorem d_Rsa_due_77 : decode b_Rsa_due 77 = .ok (.goto 6, 3) := by decide +kernel
theorem d_Rsa_due_80 : decode b_Rsa_due 80 = .ok (.sipush 255, 3) := by decide +kernel
theorem d_Rsa_due_83 : decode b_Rsa_due 83 = .ok (.ireturn, 1) := by decide +kernel
set_option maxHeartbeats 4000000 in
set_option maxRecDepth 100000 in
theorem p_Rsa_due (l : Launch) (dC : Nat → ClassId) (dI : Nat → Nat → Nat) (sb : sB) (γ : cG) (κ : kE) (Ad : List Nat) (ν : Nat → cN) (ω : Nat → List Nat) (L : Nat) (G : va_W) (a : Nat) (k z : Nat) (hTy : TY γ κ Ad ν ω L G) (ka : tK κ Ad a (6, 8, 0)) (hk : k < 256) (hz : z < 2 ^ 30) : Met l y_Rsa_due w_Rsa_due ({ frames := 0, cells := 0, slots := 0, locals := 0 }) (pu_P [.ref a, .int (nI k), .int (nI z)] (dC, dI) sb G [(γ.1, .byte), (γ.2.1, .int), (γ.2.2.1, .long), (γ.2.2.2, .object "java/lang/Object")]) (vp_Si (fun r => True)) 0 0 (fun _ => False) := by
  refine Met.ofW (cc := b_Rsa_due) (maxL := 4) (ret := (some FieldType.int)) (by decide) rfl ?_
  intro p e s m args below meth c s₁ B hml hv
  obtain ⟨rfl, hP, hK, hN, hT0⟩ := hv
  have hx := B.exec
  have hb := B.bytes
  have hr := B.returns
  have hts := atoms_spec (ws := w_Rsa_due) B.pre
  have tbin : ∀ w ∈ tb, w ∈ w_Rsa_due := fun w h => List.mem_cons_of_mem _ h
  have htb : ∀ w ∈ tb, w.before _ s = true := fun w h => hts w (tbin w h)
  have hown : s.vm.findClass "TrustChain$Rsa" = some m.cls := findClass_of_methodNamed B.named
  have hlocks := B.notSynchronized
  have hl := lv_entry ([.ref a, .int (nI k), .int (nI z)]) (n := 4) (Nat.le_of_ble_eq_true rfl)
  rw [lg_entry_eq]
  generalize (lg_sl ([.ref a, .int (nI k), .int (nI z)]) ++ List.replicate (4 - (lg_sl ([.ref a, .int (nI k), .int (nI z)])).length) Slot.unset).toArray = ls at hl ⊢
  have hl : lv_has ls 4 [(0, .ref a), (1, .int (nI k)), (2, .int (nI z))] := hl
  refine lv_iload_n hx hb d_Rsa_due_0 rfl (lv_at hl 1 rfl) ?_
  refine lv_bipush (v := 32) hx hb d_Rsa_due_1 (by decide) ?_
  refine lv_icmp_ge (tgt := 26) hx hb d_Rsa_due_3 (by decide) (fun c3 => ?_) (fun c3 => ?_)
  · have p3 : 32 ≤ k := ((nI_leI (a := 32) (b := k) (by omega) (by omega)).mp c3)
    refine lv_iload_n hx hb d_Rsa_due_26 rfl (lv_at hl 1 rfl) ?_
    refine lv_bipush (v := 32) hx hb d_Rsa_due_27 (by decide) ?_
    refine lv_isub hx hb d_Rsa_due_29 ?_
    rw [show ((nI k) - 32 : Int32) = nI (k - 32) from pk_sub (a := k) (b := 32) (by omega)]
    refine lv_istore_n (lv' := [(3, .int (nI (k - 32))), (0, .ref a), (1, .int (nI k)), (2, .int (nI z))]) hx hb d_Rsa_due_30 rfl hl (by decide) rfl (fun ls hl => ?_)
    refine lv_iload_n hx hb d_Rsa_due_31 rfl (lv_at hl 0 rfl) ?_
    refine va_gets hx hb hT0.2.2.2.2.1.1 va_S.rf hown (htb _ q5_221) (fun _ h9 => h9) d_Rsa_due_32 ?_
    refine va_tlen (v := 19) hx hb hT0.2.2.2.2.1.2 va_S.rf rfl d_Rsa_due_35 ?_
    refine lv_icmp_ge (tgt := 52) hx hb d_Rsa_due_36 (by decide) (fun c36 => ?_) (fun c36 => ?_)
    · have p36 : 19 ≤ (k - 32) := ((nI_leI (a := 19) (b := (k - 32)) (by omega) (by omega)).mp c36)
      refine lv_iload_n hx hb d_Rsa_due_52 rfl (lv_at hl 0 rfl) ?_
      refine va_gets hx hb hT0.2.2.2.2.1.1 va_S.rf hown (htb _ q5_221) (fun _ h9 => h9) d_Rsa_due_53 ?_
      refine va_tlen (v := 19) hx hb hT0.2.2.2.2.1.2 va_S.rf rfl d_Rsa_due_56 ?_
      refine lv_icmp_eq (tgt := 67) hx hb d_Rsa_due_57 (by decide) (fun c57 => ?_) (fun c57 => ?_)
      · have p57 : (k - 32) = 19 := ((nI_eq (a := (k - 32)) (b := 19) (by omega) (by omega)).mp c57)
        refine lv_iconst (v := 0) hx hb d_Rsa_due_67 (by decide) ?_
        exact W.iret (v := 0) hx hb hr (fun t ht hW => ⟨_, rfl, trivial, ht⟩) (fun q h => by cases h) d_Rsa_due_68
      · have p57 : ¬ ((k - 32) = 19) := (fun q9 => c57 ((nI_eq (a := (k - 32)) (b := 19) (by omega) (by omega)).mpr q9))
        refine lv_iload_n hx hb d_Rsa_due_60 rfl (lv_at hl 2 rfl) ?_
        refine lv_iload_n hx hb d_Rsa_due_61 rfl (lv_at hl 3 rfl) ?_
        refine lv_iconst (v := 1) hx hb d_Rsa_due_62 (by decide) ?_
        refine lv_isub hx hb d_Rsa_due_63 ?_
        refine lv_icmp_ne (tgt := 69) hx hb d_Rsa_due_64 (by decide) (fun c64 => ?_) (fun c64 => ?_)
        · have p64 : ¬ ((nI k) = ((nI z) - 1)) := c64
          refine lv_iload_n hx hb d_Rsa_due_69 rfl (lv_at hl 2 rfl) ?_
          refine lv_iload_n hx hb d_Rsa_due_70 rfl (lv_at hl 3 rfl) ?_
          refine lv_iconst (v := 2) hx hb d_Rsa_due_71 (by decide) ?_
          refine lv_isub hx hb d_Rsa_due_72 ?_
          refine lv_icmp_ne (tgt := 80) hx hb d_Rsa_due_73 (by decide) (fun c73 => ?_) (fun c73 => ?_)
          · have p73 : ¬ ((nI k) = ((nI z) - 2)) := c73
            refine lv_sipush (v := 255) hx hb d_Rsa_due_80 (by decide) ?_
            exact W.iret (v := 255) hx hb hr (fun t ht hW => ⟨_, rfl, trivial, ht⟩) (fun q h => by cases h) d_Rsa_due_83
          · have p73 : (nI k) = ((nI z) - 2) := c73
            refine lv_iconst (v := 1) hx hb d_Rsa_due_76 (by decide) ?_
            refine lv_goto (tgt := 83) hx hb d_Rsa_due_77 (by decide) ?_
            exact W.iret (v := 1) hx hb hr (fun t ht hW => ⟨_, rfl, trivial, ht⟩) (fun q h => by cases h) d_Rsa_due_83
        · have p64 : (nI k) = ((nI z) - 1) := c64
          refine lv_iconst (v := 0) hx hb d_Rsa_due_67 (by decide) ?_
          exact W.iret (v := 0) hx hb hr (fun t ht hW => ⟨_, rfl, trivial, ht⟩) (fun q h => by cases h) d_Rsa_due_68
    · have p36 : ¬ (19 ≤ (k - 32)) := (fun q9 => c36 ((nI_leI (a := 19) (b := (k - 32)) (by omega) (by omega)).mpr q9))
      refine va_gets hx hb hT0.2.2.2.2.1.1 va_S.rf hown (htb _ q5_221) (fun _ h9 => h9) d_Rsa_due_39 ?_
      refine va_gets hx hb hT0.2.2.2.2.1.1 va_S.rf hown (htb _ q5_221) (fun _ h9 => h9) d_Rsa_due_42 ?_
      refine va_tlen (v := 19) hx hb hT0.2.2.2.2.1.2 va_S.rf rfl d_Rsa_due_45 ?_
      refine lv_iconst (v := 1) hx hb d_Rsa_due_46 (by decide) ?_
      refine lv_isub hx hb d_Rsa_due_47 ?_
      rw [show (19 - 1 : Int32) = 18 from by decide]
      refine lv_iload_n hx hb d_Rsa_due_48 rfl (lv_at hl 0 rfl) ?_
      refine lv_isub hx hb d_Rsa_due_49 ?_
      rw [show (18 - (nI (k - 32)) : Int32) = nI (18 - (k - 32)) from pk_sub (a := 18) (b := (k - 32)) (by omega)]
      have h50 : vp_in (nI (18 - (k - 32))) 19 := vp_in_nI (by omega) (by omega)
      refine va_ti (v := .int (sv_PREFIX.getD (nI (18 - (k - 32))).toNatClampNeg 0)) hx hb hT0.2.2.2.2.1.2 va_S.rf h50 rfl d_Rsa_due_50 ?_
      exact W.iret (v := sv_PREFIX.getD (nI (18 - (k - 32))).toNatClampNeg 0) hx hb hr (fun t ht hW => ⟨_, rfl, trivial, ht⟩) (fun q h => by cases h) d_Rsa_due_51
  · have p3 : ¬ (32 ≤ k) := (fun q9 => c3 ((nI_leI (a := 32) (b := k) (by omega) (by omega)).mpr q9))
    refine lv_aload_n hx hb d_Rsa_due_6 rfl (lv_at hl 0 rfl) ?_
    refine lv_bipush (v := 7) hx hb d_Rsa_due_7 (by decide) ?_
    refine lv_iload_n hx hb d_Rsa_due_9 rfl (lv_at hl 1 rfl) ?_
    refine lv_iconst (v := 4) hx hb d_Rsa_due_10 (by decide) ?_
    refine lv_idiv hx hb d_Rsa_due_11 (by decide) ?_
    rw [show ((nI k) / 4 : Int32) = nI (k / 4) from nI_idiv (a := k) (b := 4) (by omega) (by omega) (by omega)]
    refine lv_isub hx hb d_Rsa_due_12 ?_
    rw [show (7 - (nI (k / 4)) : Int32) = nI (7 - (k / 4)) from pk_sub (a := 7) (b := (k / 4)) (by omega)]
    obtain ⟨i_1, f_1, hn_1, hg_1⟩ := ty_6 hTy ka
    have h13 : vp_in (nI (7 - (k / 4))) 8 := vp_in_nI (by omega) (by omega)
    refine va_iald hx hb hK hP i_1 1 hg_1 rfl h13 d_Rsa_due_13 ?_
    refine lv_topi (fun e13 he13 => ?_)
    refine lv_bipush (v := 8) hx hb d_Rsa_due_14 (by decide) ?_
    refine lv_iload_n hx hb d_Rsa_due_16 rfl (lv_at hl 1 rfl) ?_
    refine lv_iconst (v := 4) hx hb d_Rsa_due_17 (by decide) ?_
    refine lv_irem hx hb d_Rsa_due_18 (by decide) ?_
    rw [show ((nI k) - (nI k) / 4 * 4 : Int32) = nI (k % 4) from nI_irem (a := k) (b := 4) (by omega) (by omega) (by omega)]
    refine lv_imul hx hb d_Rsa_due_19 ?_
    rw [show (8 * (nI (k % 4)) : Int32) = nI (8 * (k % 4)) from nI_mul 8 (k % 4)]
    refine lv_iushr (v := (e13.toUInt32 >>> ((nI (8 * (k % 4))).toUInt32 &&& Int32.toUInt32 31)).toInt32) hx hb d_Rsa_due_20 rfl ?_
    refine lv_sipush (v := 255) hx hb d_Rsa_due_21 (by decide) ?_
    refine lv_iand hx hb d_Rsa_due_24 ?_
    exact W.iret (v := ((e13.toUInt32 >>> ((nI (8 * (k % 4))).toUInt32 &&& Int32.toUInt32 31)).toInt32) &&& 255) hx hb hr (fun t ht hW => ⟨_, rfl, trivial, ht⟩) (fun q h => by cases h) d_Rsa_due_25
def y_Rsa_hasForm : MethodName := ⟨"TrustChain$Rsa", "hasForm", "([II)Z"⟩
abbrev b_Rsa_hasForm : ByteArray := prog_9_method_9_code
def w_Rsa_hasForm : List Cond := Cond.code y_Rsa_hasForm b_Rsa_hasForm 5 ((some FieldType.boolean)) :: tb
theorem d_Rsa_hasForm_0 : decode b_Rsa_hasForm 0 = .ok (.iconst 0, 1) := by decide +kernel
theorem d_Rsa_hasForm_1 : decode b_Rsa_hasForm 1 = .ok (.istore_n 3, 1) := by decide +kernel
theorem d_Rsa_hasForm_2 : decode b_Rsa_hasForm 2 = .ok (.iload_n 3, 1) := by decide +kernel
theorem d_Rsa_hasForm_3 : decode b_Rsa_hasForm 3 = .ok (.iload_n 2, 1) := by decide +kernel
theorem d_Rsa_hasForm_4 : decode b_Rsa_hasForm 4 = .ok (.if_icmp .ge 51, 3) := by decide +kernel
theorem d_Rsa_hasForm_7 : decode b_Rsa_hasForm 7 = .ok (.iload_n 3, 1) := by decide +kernel
theorem d_Rsa_hasForm_8 : decode b_Rsa_hasForm 8 = .ok (.sipush 256, 3) := by decide +kernel
theorem d_Rsa_hasForm_11 : decode b_Rsa_hasForm 11 = .ok (.if_icmp .ge 44, 3) := by decide +kernel
theorem d_Rsa_hasForm_14 : decode b_Rsa_hasForm 14 = .ok (.aload_n 0, 1) := by decide +kernel
theorem d_Rsa_hasForm_15 : decode b_Rsa_hasForm 15 = .ok (.getfield 21, 3) := by decide +kernel
theorem d_Rsa_hasForm_18 : decode b_Rsa_hasForm 18 = .ok (.iload_n 3, 1) := by decide +kernel
theorem d_Rsa_hasForm_19 : decode b_Rsa_hasForm 19 = .ok (.iconst 4, 1) := by decide +kernel
theorem d_Rsa_hasForm_20 : decode b_Rsa_hasForm 20 = .ok (.idiv, 1) := by decide +kernel
theorem d_Rsa_hasForm_21 : decode b_Rsa_hasForm 21 = .ok (.laload, 1) := by decide +kernel
theorem d_Rsa_hasForm_22 : decode b_Rsa_hasForm 22 = .ok (.bipush 8, 2) := by decide +kernel
theorem d_Rsa_hasForm_24 : decode b_Rsa_hasForm 24 = .ok (.iload_n 3, 1) := by decide +kernel
theorem d_Rsa_hasForm_25 : decode b_Rsa_hasForm 25 = .ok (.iconst 4, 1) := by decide +kernel
theorem d_Rsa_hasForm_26 : decode b_Rsa_hasForm 26 = .ok (.irem, 1) := by decide +kernel
theorem d_Rsa_hasForm_27 : decode b_Rsa_hasForm 27 = .ok (.imul, 1) := by decide +kernel
theorem d_Rsa_hasForm_28 : decode b_Rsa_hasForm 28 = .ok (.lushr, 1) := by decide +kernel
theorem d_Rsa_hasForm_29 : decode b_Rsa_hasForm 29 = .ok (.l2i, 1) := by decide +kernel
theorem d_Rsa_hasForm_30 : decode b_Rsa_hasForm 30 = .ok (.sipush 255, 3) := by decide +kernel
theorem d_Rsa_hasForm_33 : decode b_Rsa_hasForm 33 = .ok (.iand, 1) := by decide +kernel
theorem d_Rsa_hasForm_34 : decode b_Rsa_hasForm 34 = .ok (.istore 4, 2) := by decide +kernel
theorem d_Rsa_hasForm_36 : decode b_Rsa_hasForm 36 = .ok (.iload 4, 2) := by decide +kernel
theorem d_Rsa_hasForm_38 : decode b_Rsa_hasForm 38 = .ok (.aload_n 1, 1) := by decide +kernel
theorem d_Rsa_hasForm_39 : decode b_Rsa_hasForm 39 = .ok (.iload_n 3, 1) := by decide +kernel
theorem d_Rsa_hasForm_40 : decode b_Rsa_hasForm 40 = .ok (.iload_n 2, 1) := by decide +kernel
theorem d_Rsa_hasForm_41 : decode b_Rsa_hasForm 41 = .ok (.invokestatic 127, 3) := by decide +kernel
theorem d_Rsa_hasForm_44 : decode b_Rsa_hasForm 44 = .ok (.if_icmp .eq 5, 3) := by decide +kernel
theorem d_Rsa_hasForm_47 : decode b_Rsa_hasForm 47 = .ok (.iconst 0, 1) := by decide +kernel
theorem d_Rsa_hasForm_48 : decode b_Rsa_hasForm 48 = .ok (.ireturn, 1) := by decide +kernel
theorem d_Rsa_hasForm_49 : decode b_Rsa_hasForm 49 = .ok (.iinc 3 1, 3) := by decide +kernel
theorem d_Rsa_hasForm_52 : decode b_Rsa_hasForm 52 = .ok (.goto (-50), 3) := by decide +kernel
theorem d_Rsa_hasForm_55 : decode b_Rsa_hasForm 55 = .ok (.iconst 1, 1) := by decide +kernel
theorem d_Rsa_hasForm_56 : decode b_Rsa_hasForm 56 = .ok (.ireturn, 1) := by decide +kernel
set_option maxHeartbeats 4000000 in
set_option maxRecDepth 100000 in
theorem p_Rsa_hasForm (l : Launch) (dC : Nat → ClassId) (dI : Nat → Nat → Nat) (sb : sB) (γ : cG) (κ : kE) (Ad : List Nat) (ν : Nat → cN) (ω : Nat → List Nat) (L : Nat) (G : va_W) (h a : Nat) (z : Nat) (hTy : TY γ κ Ad ν ω L G) (kh : tK κ Ad h (10, 0, 0)) (ka : tK κ Ad a (6, 8, 0)) (hz : z < 2 ^ 30) : Met l y_Rsa_hasForm w_Rsa_hasForm ({ frames := 1, cells := 0, slots := 0, locals := 23 }) (pu_P [.ref h, .ref a, .int (nI z)] (dC, dI) sb G [(γ.1, .byte), (γ.2.1, .int), (γ.2.2.1, .long), (γ.2.2.2, .object "java/lang/Object")]) (vp_Si (fun r => bz r (r = 1))) 0 0 (fun _ => False) := by
  refine Met.ofW (cc := b_Rsa_hasForm) (maxL := 5) (ret := (some FieldType.boolean)) (by decide) rfl ?_
  intro p e s m args below meth c s₁ B hml hv
  obtain ⟨rfl, hP, hK, hN, hT0⟩ := hv
  have hx := B.exec
  have hb := B.bytes
  have hr := B.returns
  have hts := atoms_spec (ws := w_Rsa_hasForm) B.pre
  have tbin : ∀ w ∈ tb, w ∈ w_Rsa_hasForm := fun w h => List.mem_cons_of_mem _ h
  have htb : ∀ w ∈ tb, w.before _ s = true := fun w h => hts w (tbin w h)
  have hown : s.vm.findClass "TrustChain$Rsa" = some m.cls := findClass_of_methodNamed B.named
  have hlocks := B.notSynchronized
  have hl := lv_entry ([.ref h, .ref a, .int (nI z)]) (n := 5) (Nat.le_of_ble_eq_true rfl)
  rw [lg_entry_eq]
  generalize (lg_sl ([.ref h, .ref a, .int (nI z)]) ++ List.replicate (5 - (lg_sl ([.ref h, .ref a, .int (nI z)])).length) Slot.unset).toArray = ls at hl ⊢
  have hl : lv_has ls 5 [(0, .ref h), (1, .ref a), (2, .int (nI z))] := hl
  refine lv_iconst (v := 0) hx hb d_Rsa_hasForm_0 (by decide) ?_
  refine lv_istore_n (lv' := [(3, .int 0), (0, .ref h), (1, .ref a), (2, .int (nI z))]) hx hb d_Rsa_hasForm_1 rfl hl (by decide) rfl (fun ls hl => ?_)
  refine w_loop (α := Nat) (fun z9 => z9 ≤ 256) (fun z9 => 256 - z9) (fun z9 => [(3, .int (nI z9)), (0, .ref h), (1, .ref a), (2, .int (nI z))]) (fun _ => []) 5 2 (fun z9 ls hJ hl ih => ?_) 0 ls (by omega) (lv_sub hl [0, 1, 2, 3] rfl)
  refine lv_iload_n hx hb d_Rsa_hasForm_2 rfl (lv_at hl 0 rfl) ?_
  refine lv_iload_n hx hb d_Rsa_hasForm_3 rfl (lv_at hl 3 rfl) ?_
  refine lv_icmp_ge (tgt := 55) hx hb d_Rsa_hasForm_4 (by decide) (fun c4 => ?_) (fun c4 => ?_)
  · have p4 : z ≤ z9 := ((nI_leI (a := z) (b := z9) (by omega) (by omega)).mp c4)
    refine lv_iconst (v := 1) hx hb d_Rsa_hasForm_55 (by decide) ?_
    exact W.zret (v := 1) hx hb hr rfl (fun t ht hW => ⟨_, rfl, bz_t rfl, ht⟩) (fun q h => by cases h) d_Rsa_hasForm_56
  · have p4 : ¬ (z ≤ z9) := (fun q9 => c4 ((nI_leI (a := z) (b := z9) (by omega) (by omega)).mpr q9))
    refine lv_iload_n hx hb d_Rsa_hasForm_7 rfl (lv_at hl 0 rfl) ?_
    refine lv_sipush (v := 256) hx hb d_Rsa_hasForm_8 (by decide) ?_
    refine lv_icmp_ge (tgt := 55) hx hb d_Rsa_hasForm_11 (by decide) (fun c11 => ?_) (fun c11 => ?_)
    · have p11 : 256 ≤ z9 := ((nI_leI (a := 256) (b := z9) (by omega) (by omega)).mp c11)
      refine lv_iconst (v := 1) hx hb d_Rsa_hasForm_55 (by decide) ?_
      exact W.zret (v := 1) hx hb hr rfl (fun t ht hW => ⟨_, rfl, bz_t rfl, ht⟩) (fun q h => by cases h) d_Rsa_hasForm_56
    · have p11 : ¬ (256 ≤ z9) := (fun q9 => c11 ((nI_leI (a := 256) (b := z9) (by omega) (by omega)).mpr q9))
      refine lv_aload_n hx hb d_Rsa_hasForm_14 rfl (lv_at hl 1 rfl) ?_
      obtain ⟨i_1, mo_1, sq_1, ba_1, po_1, un_1, su_1, iv_1, kmo_1, ksq_1, kba_1, kpo_1, kun_1, ksu_1, hg_1⟩ := ty_10 hTy kh
      refine va_get (v := .ref po_1) hx hb htb i_Rsa hown hK hP i_1 hg_1 rfl 3 (by decide) (htb _ q1_88) (fun _ h9 => h9) rfl d_Rsa_hasForm_15 ?_
      refine lv_iload_n hx hb d_Rsa_hasForm_18 rfl (lv_at hl 0 rfl) ?_
      refine lv_iconst (v := 4) hx hb d_Rsa_hasForm_19 (by decide) ?_
      refine lv_idiv hx hb d_Rsa_hasForm_20 (by decide) ?_
      rw [show ((nI z9) / 4 : Int32) = nI (z9 / 4) from nI_idiv (a := z9) (b := 4) (by omega) (by omega) (by omega)]
      obtain ⟨i_2, f_2, hn_2, hg_2⟩ := ty_7 hTy kpo_1
      have h21 : vp_in (nI (z9 / 4)) 64 := vp_in_nI (by omega) (by omega)
      refine va_lald hx hb hK hP i_2 2 hg_2 rfl h21 d_Rsa_hasForm_21 ?_
      refine lv_topl (fun e21 he21 => ?_)
      refine lv_bipush (v := 8) hx hb d_Rsa_hasForm_22 (by decide) ?_
      refine lv_iload_n hx hb d_Rsa_hasForm_24 rfl (lv_at hl 0 rfl) ?_
      refine lv_iconst (v := 4) hx hb d_Rsa_hasForm_25 (by decide) ?_
      refine lv_irem hx hb d_Rsa_hasForm_26 (by decide) ?_
      rw [show ((nI z9) - (nI z9) / 4 * 4 : Int32) = nI (z9 % 4) from nI_irem (a := z9) (b := 4) (by omega) (by omega) (by omega)]
      refine lv_imul hx hb d_Rsa_hasForm_27 ?_
      rw [show (8 * (nI (z9 % 4)) : Int32) = nI (8 * (z9 % 4)) from nI_mul 8 (z9 % 4)]
      refine lv_lushr (v := (e21.toUInt64 >>> ((nI (8 * (z9 % 4))).toInt64.toUInt64 &&& Int64.toUInt64 63)).toInt64) hx hb d_Rsa_hasForm_28 rfl ?_
      refine lv_l2i (v := ((e21.toUInt64 >>> ((nI (8 * (z9 % 4))).toInt64.toUInt64 &&& Int64.toUInt64 63)).toInt64).toInt32) hx hb d_Rsa_hasForm_29 rfl ?_
      refine lv_sipush (v := 255) hx hb d_Rsa_hasForm_30 (by decide) ?_
      refine lv_iand hx hb d_Rsa_hasForm_33 ?_
      refine lv_topi (fun v34 ev34 => ?_)
      refine lv_istore (lv' := [(4, .int v34), (3, .int (nI z9)), (0, .ref h), (1, .ref a), (2, .int (nI z))]) hx hb d_Rsa_hasForm_34 hl (by decide) rfl (fun ls hl => ?_)
      refine lv_iload hx hb d_Rsa_hasForm_36 (lv_at hl 0 rfl) ?_
      refine lv_aload_n hx hb d_Rsa_hasForm_38 rfl (lv_at hl 3 rfl) ?_
      refine lv_iload_n hx hb d_Rsa_hasForm_39 rfl (lv_at hl 1 rfl) ?_
      refine lv_iload_n hx hb d_Rsa_hasForm_40 rfl (lv_at hl 4 rfl) ?_
      refine vp_callSi (pu_callS (As := [.ref a, .int (nI z9), .int (nI z)]) (rest := [.int v34]) ⟨hx, hb, hml, hown, hts⟩ tbin (p_Rsa_due l dC dI sb γ κ Ad ν ω L G a _ _ hTy ka (by omega) (by omega)) q5_218 q5_219 q1_6 q5_220 (n := 3) (by decide +kernel) rfl ⟨rfl, rfl⟩ ⟨Nat.le_of_ble_eq_true rfl, Nat.le_of_ble_eq_true rfl⟩ ⟨Nat.le_of_ble_eq_true rfl, Nat.le_of_ble_eq_true rfl⟩ hN hT0 hK hP (List.range G.length) (rg_all G) [0, 1, 2, 3] rfl hl.1 rfl (Nat.le_of_ble_eq_true rfl) d_Rsa_hasForm_41) (fun r41 hr41 => ?_)
      refine lv_icmp_eq (tgt := 49) hx hb d_Rsa_hasForm_44 (by decide) (fun c44 => ?_) (fun c44 => ?_)
      · have p44 : v34 = r41 := c44
        refine lv_iinc (v := nI (z9 + 1)) (lv' := [(3, .int (nI (z9 + 1))), (4, .int v34), (0, .ref h), (1, .ref a), (2, .int (nI z))]) hx hb d_Rsa_hasForm_49 hl (k := 1) rfl (nI_1 _) (by decide) rfl (fun ls hl => ?_)
        refine lv_goto (tgt := 2) hx hb d_Rsa_hasForm_52 (by decide) ?_
        exact ih (z9 + 1) ls (by omega) (by omega) (lv_sub hl [0, 2, 3, 4] rfl)
      · have p44 : ¬ (v34 = r41) := c44
        refine lv_iconst (v := 0) hx hb d_Rsa_hasForm_47 (by decide) ?_
        exact W.zret (v := 0) hx hb hr rfl (fun t ht hW => ⟨_, rfl, bz_f (by decide), ht⟩) (fun q h => by cases h) d_Rsa_hasForm_48
def y_Rsa_verifies : MethodName := ⟨"TrustChain$Rsa", "verifies", "(LTrustChain$Paper;LTrustChain$Certificate;)Z"⟩
abbrev b_Rsa_verifies : ByteArray := prog_9_method_3_code
def w_Rsa_verifies : List Cond := Cond.code y_Rsa_verifies b_Rsa_verifies 6 ((some FieldType.boolean)) :: tb
theorem d_Rsa_verifies_0 : decode b_Rsa_verifies 0 = .ok (.aload_n 2, 1) := by decide +kernel
theorem d_Rsa_verifies_1 : decode b_Rsa_verifies 1 = .ok (.getfield 53, 3) := by decide +kernel
theorem d_Rsa_verifies_4 : decode b_Rsa_verifies 4 = .ok (.invokevirtual 56, 3) := by decide +kernel
theorem d_Rsa_verifies_7 : decode b_Rsa_verifies 7 = .ok (.istore_n 3, 1) := by decide +kernel
theorem d_Rsa_verifies_8 : decode b_Rsa_verifies 8 = .ok (.aload_n 1, 1) := by decide +kernel
theorem d_Rsa_verifies_9 : decode b_Rsa_verifies 9 = .ok (.getfield 62, 3) := by decide +kernel
theorem d_Rsa_verifies_12 : decode b_Rsa_verifies 12 = .ok (.invokevirtual 56, 3) := by decide +kernel
theorem d_Rsa_verifies_15 : decode b_Rsa_verifies 15 = .ok (.iload_n 3, 1) := by decide +kernel
theorem d_Rsa_verifies_16 : decode b_Rsa_verifies 16 = .ok (.if_icmp .ne 14, 3) := by decide +kernel
theorem d_Rsa_verifies_19 : decode b_Rsa_verifies 19 = .ok (.iload_n 3, 1) := by decide +kernel
theorem d_Rsa_verifies_20 : decode b_Rsa_verifies 20 = .ok (.sipush 256, 3) := by decide +kernel
theorem d_Rsa_verifies_23 : decode b_Rsa_verifies 23 = .ok (.if_icmp .gt 7, 3) := by decide +kernel
theorem d_Rsa_verifies_26 : decode b_Rsa_verifies 26 = .ok (.iload_n 3, 1) := by decide +kernel
theorem d_Rsa_verifies_27 : decode b_Rsa_verifies 27 = .ok (.ifCond .ne 5, 3) := by decide +kernel
theorem d_Rsa_verifies_30 : decode b_Rsa_verifies 30 = .ok (.iconst 0, 1) := by decide +kernel
theorem d_Rsa_verifies_31 : decode b_Rsa_verifies 31 = .ok (.ireturn, 1) := by decide +kernel
theorem d_Rsa_verifies_32 : decode b_Rsa_verifies 32 = .ok (.aload_n 0, 1) := by decide +kernel
theorem d_Rsa_verifies_33 : decode b_Rsa_verifies 33 = .ok (.iload_n 3, 1) := by decide +kernel
theorem d_Rsa_verifies_34 : decode b_Rsa_verifies 34 = .ok (.iconst 3, 1) := by decide +kernel
theorem d_Rsa_verifies_35 : decode b_Rsa_verifies 35 = .ok (.iadd, 1) := by decide +kernel
theorem d_Rsa_verifies_36 : decode b_Rsa_verifies 36 = .ok (.iconst 4, 1) := by decide +kernel
theorem d_Rsa_verifies_37 : decode b_Rsa_verifies 37 = .ok (.idiv, 1) := by decide +kernel
theorem d_Rsa_verifies_38 : decode b_Rsa_verifies 38 = .ok (.putfield 30, 3) := by decide +kernel
theorem d_Rsa_verifies_41 : decode b_Rsa_verifies 41 = .ok (.aload_n 0, 1) := by decide +kernel
theorem d_Rsa_verifies_42 : decode b_Rsa_verifies 42 = .ok (.aload_n 2, 1) := by decide +kernel
theorem d_Rsa_verifies_43 : decode b_Rsa_verifies 43 = .ok (.getfield 53, 3) := by decide +kernel
theorem d_Rsa_verifies_46 : decode b_Rsa_verifies 46 = .ok (.aload_n 0, 1) := by decide +kernel
theorem d_Rsa_verifies_47 : decode b_Rsa_verifies 47 = .ok (.getfield 11, 3) := by decide +kernel
theorem d_Rsa_verifies_50 : decode b_Rsa_verifies 50 = .ok (.invokevirtual 65, 3) := by decide +kernel
theorem d_Rsa_verifies_53 : decode b_Rsa_verifies 53 = .ok (.aload_n 0, 1) := by decide +kernel
theorem d_Rsa_verifies_54 : decode b_Rsa_verifies 54 = .ok (.aload_n 1, 1) := by decide +kernel
theorem d_Rsa_verifies_55 : decode b_Rsa_verifies 55 = .ok (.getfield 62, 3) := by decide +kernel
theorem d_Rsa_verifies_58 : decode b_Rsa_verifies 58 = .ok (.aload_n 0, 1) := by decide +kernel
theorem d_Rsa_verifies_59 : decode b_Rsa_verifies 59 = .ok (.getfield 18, 3) := by decide +kernel
theorem d_Rsa_verifies_62 : decode b_Rsa_verifies 62 = .ok (.invokevirtual 65, 3) := by decide +kernel
theorem d_Rsa_verifies_65 : decode b_Rsa_verifies 65 = .ok (.aload_n 0, 1) := by decide +kernel
theorem d_Rsa_verifies_66 : decode b_Rsa_verifies 66 = .ok (.aload_n 0, 1) := by decide +kernel
theorem d_Rsa_verifies_67 : decode b_Rsa_verifies 67 = .ok (.getfield 18, 3) := by decide +kernel
theorem d_Rsa_verifies_70 : decode b_Rsa_verifies 70 = .ok (.invokevirtual 69, 3) := by decide +kernel
theorem d_Rsa_verifies_73 : decode b_Rsa_verifies 73 = .ok (.ifCond .ne 5, 3) := by decide +kernel
theorem d_Rsa_verifies_76 : decode b_Rsa_verifies 76 = .ok (.iconst 0, 1) := by decide +kernel
theorem d_Rsa_verifies_77 : decode b_Rsa_verifies 77 = .ok (.ireturn, 1) := by decide +kernel
theorem d_Rsa_verifies_78 : decode b_Rsa_verifies 78 = .ok (.aload_n 0, 1) := by decide +kernel
theorem d_Rsa_verifies_79 : decode b_Rsa_verifies 79 = .ok (.aload_n 2, 1) := by decide +kernel
theorem d_Rsa_verifies_80 : decode b_Rsa_verifies 80 = .ok (.getfield 73, 3) := by decide +kernel
theorem d_Rsa_verifies_83 : decode b_Rsa_verifies 83 = .ok (.invokevirtual 76, 3) := by decide +kernel
theorem d_Rsa_verifies_86 : decode b_Rsa_verifies 86 = .ok (.iconst 0, 1) := by decide +kernel
theorem d_Rsa_verifies_87 : decode b_Rsa_verifies 87 = .ok (.istore 4, 2) := by decide +kernel
theorem d_Rsa_verifies_89 : decode b_Rsa_verifies 89 = .ok (.iload 4, 2) := by decide +kernel
theorem d_Rsa_verifies_91 : decode b_Rsa_verifies 91 = .ok (.iconst 5, 1) := by decide +kernel
theorem d_Rsa_verifies_92 : decode b_Rsa_verifies 92 = .ok (.if_icmp .ge 25, 3) := by decide +kernel
theorem d_Rsa_verifies_95 : decode b_Rsa_verifies 95 = .ok (.aload_n 0, 1) := by decide +kernel
theorem d_Rsa_verifies_96 : decode b_Rsa_verifies 96 = .ok (.aload_n 0, 1) := by decide +kernel
theorem d_Rsa_verifies_97 : decode b_Rsa_verifies 97 = .ok (.getfield 15, 3) := by decide +kernel
theorem d_Rsa_verifies_100 : decode b_Rsa_verifies 100 = .ok (.aload_n 0, 1) := by decide +kernel
theorem d_Rsa_verifies_101 : decode b_Rsa_verifies 101 = .ok (.getfield 15, 3) := by decide +kernel
theorem d_Rsa_verifies_104 : decode b_Rsa_verifies 104 = .ok (.aload_n 0, 1) := by decide +kernel
theorem d_Rsa_verifies_105 : decode b_Rsa_verifies 105 = .ok (.getfield 15, 3) := by decide +kernel
theorem d_Rsa_verifies_108 : decode b_Rsa_verifies 108 = .ok (.invokevirtual 80, 3) := by decide +kernel
theorem d_Rsa_verifies_111 : decode b_Rsa_verifies 111 = .ok (.iinc 4 1, 3) := by decide +kernel
theorem d_Rsa_verifies_114 : decode b_Rsa_verifies 114 = .ok (.goto (-25), 3) := by decide +kernel
theorem d_Rsa_verifies_117 : decode b_Rsa_verifies 117 = .ok (.aload_n 0, 1) := by decide +kernel
theorem d_Rsa_verifies_118 : decode b_Rsa_verifies 118 = .ok (.aload_n 0, 1) := by decide +kernel
theorem d_Rsa_verifies_119 : decode b_Rsa_verifies 119 = .ok (.getfield 18, 3) := by decide +kernel
theorem d_Rsa_verifies_122 : decode b_Rsa_verifies 122 = .ok (.aload_n 0, 1) := by decide +kernel
theorem d_Rsa_verifies_123 : decode b_Rsa_verifies 123 = .ok (.getfield 15, 3) := by decide +kernel
theorem d_Rsa_verifies_126 : decode b_Rsa_verifies 126 = .ok (.aload_n 0, 1) := by decide +kernel
theorem d_Rsa_verifies_127 : decode b_Rsa_verifies 127 = .ok (.getfield 18, 3) := by decide +kernel
theorem d_Rsa_verifies_130 : decode b_Rsa_verifies 130 = .ok (.invokevirtual 80, 3) := by decide +kernel
theorem d_Rsa_verifies_133 : decode b_Rsa_verifies 133 = .ok (.iconst 0, 1) := by decide +kernel
theorem d_Rsa_verifies_134 : decode b_Rsa_verifies 134 = .ok (.istore 4, 2) := by decide +kernel
theorem d_Rsa_verifies_136 : decode b_Rsa_verifies 136 = .ok (.bipush 30, 2) := by decide +kernel
theorem d_Rsa_verifies_138 : decode b_Rsa_verifies 138 = .ok (.istore 5, 2) := by decide +kernel
theorem d_Rsa_verifies_140 : decode b_Rsa_verifies 140 = .ok (.iload 5, 2) := by decide +kernel
theorem d_Rsa_verifies_142 : decode b_Rsa_verifies 142 = .ok (.ifCond .lt 87, 3) := by decide +kernel
theorem d_Rsa_verifies_145 : decode b_Rsa_verifies 145 = .ok (.iload 4, 2) := by decide +kernel
theorem d_Rsa_verifies_147 : decode b_Rsa_verifies 147 = .ok (.ifCond .eq 19, 3) := by decide +kernel
theorem d_Rsa_verifies_150 : decode b_Rsa_verifies 150 = .ok (.aload_n 0, 1) := by decide +kernel
theorem d_Rsa_verifies_151 : decode b_Rsa_verifies 151 = .ok (.aload_n 0, 1) := by decide +kernel
theorem d_Rsa_verifies_152 : decode b_Rsa_verifies 152 = .ok (.getfield 21, 3) := by decide +kernel
theorem d_Rsa_verifies_155 : decode b_Rsa_verifies 155 = .ok (.aload_n 0, 1) := by decide +kernel
theorem d_Rsa_verifies_156 : decode b_Rsa_verifies 156 = .ok (.getfield 21, 3) := by decide +kernel
theorem d_Rsa_verifies_159 : decode b_Rsa_verifies 159 = .ok (.aload_n 0, 1) := by decide +kernel
theorem d_Rsa_verifies_160 : decode b_Rsa_verifies 160 = .ok (.getfield 21, 3) := by decide +kernel
theorem d_Rsa_verifies_163 : decode b_Rsa_verifies 163 = .ok (.invokevirtual 80, 3) := by decide +kernel
theorem d_Rsa_verifies_166 : decode b_Rsa_verifies 166 = .ok (.aload_n 2, 1) := by decide +kernel
theorem d_Rsa_verifies_167 : decode b_Rsa_verifies 167 = .ok (.getfield 84, 3) := by decide +kernel
theorem d_Rsa_verifies_170 : decode b_Rsa_verifies 170 = .ok (.iload 5, 2) := by decide +kernel
theorem d_Rsa_verifies_172 : decode b_Rsa_verifies 172 = .ok (.ishr, 1) := by decide +kernel
theorem d_Rsa_verifies_173 : decode b_Rsa_verifies 173 = .ok (.iconst 1, 1) := by decide +kernel
theorem d_Rsa_verifies_174 : decode b_Rsa_verifies 174 = .ok (.iand, 1) := by decide +kernel
theorem d_Rsa_verifies_175 : decode b_Rsa_verifies 175 = .ok (.iconst 1, 1) := by decide +kernel
theorem d_Rsa_verifies_176 : decode b_Rsa_verifies 176 = .ok (.if_icmp .ne 47, 3) := by decide +kernel
theorem d_Rsa_verifies_179 : decode b_Rsa_verifies 179 = .ok (.iload 4, 2) := by decide +kernel
theorem d_Rsa_verifies_181 : decode b_Rsa_verifies 181 = .ok (.ifCond .eq 22, 3) := by decide +kernel
theorem d_Rsa_verifies_184 : decode b_Rsa_verifies 184 = .ok (.aload_n 0, 1) := by decide +kernel
theorem d_Rsa_verifies_185 : decode b_Rsa_verifies 185 = .ok (.aload_n 0, 1) := by decide +kernel
theorem d_Rsa_verifies_186 : decode b_Rsa_verifies 186 = .ok (.getfield 21, 3) := by decide +kernel
theorem d_Rsa_verifies_189 : decode b_Rsa_verifies 189 = .ok (.aload_n 0, 1) := by decide +kernel
theorem d_Rsa_verifies_190 : decode b_Rsa_verifies 190 = .ok (.getfield 18, 3) := by decide +kernel
theorem d_Rsa_verifies_193 : decode b_Rsa_verifies 193 = .ok (.aload_n 0, 1) := by decide +kernel
theorem d_Rsa_verifies_194 : decode b_Rsa_verifies 194 = .ok (.getfield 21, 3) := by decide +kernel
theorem d_Rsa_verifies_197 : decode b_Rsa_verifies 197 = .ok (.invokevirtual 80, 3) := by decide +kernel
theorem d_Rsa_verifies_200 : decode b_Rsa_verifies 200 = .ok (.goto 20, 3) := by decide +kernel
theorem d_Rsa_verifies_203 : decode b_Rsa_verifies 203 = .ok (.aload_n 0, 1) := by decide +kernel
theorem d_Rsa_verifies_204 : decode b_Rsa_verifies 204 = .ok (.getfield 18, 3) := by decide +kernel
theorem d_Rsa_verifies_207 : decode b_Rsa_verifies 207 = .ok (.iconst 0, 1) := by decide +kernel
theorem d_Rsa_verifies_208 : decode b_Rsa_verifies 208 = .ok (.aload_n 0, 1) := by decide +kernel
theorem d_Rsa_verifies_209 : decode b_Rsa_verifies 209 = .ok (.getfield 21, 3) := by decide +kernel
theorem d_Rsa_verifies_212 : decode b_Rsa_verifies 212 = .ok (.iconst 0, 1) := by decide +kernel
theorem d_Rsa_verifies_213 : decode b_Rsa_verifies 213 = .ok (.aload_n 0, 1) := by decide +kernel
theorem d_Rsa_verifies_214 : decode b_Rsa_verifies 214 = .ok (.getfield 30, 3) := by decide +kernel
theorem d_Rsa_verifies_217 : decode b_Rsa_verifies 217 = .ok (.invokestatic 87, 3) := by decide +kernel
theorem d_Rsa_verifies_220 : decode b_Rsa_verifies 220 = .ok (.iconst 1, 1) := by decide +kernel
theorem d_Rsa_verifies_221 : decode b_Rsa_verifies 221 = .ok (.istore 4, 2) := by decide +kernel
theorem d_Rsa_verifies_223 : decode b_Rsa_verifies 223 = .ok (.iinc 5 (-1), 3) := by decide +kernel
theorem d_Rsa_verifies_226 : decode b_Rsa_verifies 226 = .ok (.goto (-86), 3) := by decide +kernel
theorem d_Rsa_verifies_229 : decode b_Rsa_verifies 229 = .ok (.aload_n 0, 1) := by decide +kernel
theorem d_Rsa_verifies_230 : decode b_Rsa_verifies 230 = .ok (.aload_n 0, 1) := by decide +kernel
theorem d_Rsa_verifies_231 : decode b_Rsa_verifies 231 = .ok (.getfield 21, 3) := by decide +kernel
theorem d_Rsa_verifies_234 : decode b_Rsa_verifies 234 = .ok (.aload_n 0, 1) := by decide +kernel
theorem d_Rsa_verifies_235 : decode b_Rsa_verifies 235 = .ok (.getfield 24, 3) := by decide +kernel
theorem d_Rsa_verifies_238 : decode b_Rsa_verifies 238 = .ok (.aload_n 0, 1) := by decide +kernel
theorem d_Rsa_verifies_239 : decode b_Rsa_verifies 239 = .ok (.getfield 21, 3) := by decide +kernel
theorem d_Rsa_verifies_242 : decode b_Rsa_verifies 242 = .ok (.invokevirtual 80, 3) := by decide +kernel
theorem d_Rsa_verifies_245 : decode b_Rsa_verifies 245 = .ok (.aload_n 0, 1) := by decide +kernel
theorem d_Rsa_verifies_246 : decode b_Rsa_verifies 246 = .ok (.aload_n 1, 1) := by decide +kernel
theorem d_Rsa_verifies_247 : decode b_Rsa_verifies 247 = .ok (.getfield 93, 3) := by decide +kernel
theorem d_Rsa_verifies_250 : decode b_Rsa_verifies 250 = .ok (.iload_n 3, 1) := by decide +kernel
theorem d_Rsa_verifies_251 : decode b_Rsa_verifies 251 = .ok (.invokevirtual 96, 3) := by decide +kernel
theorem d_Rsa_verifies_254 : decode b_Rsa_verifies 254 = .ok (.ireturn, 1) := by decide +kernel
set_option maxHeartbeats 4000000 in
set_option maxRecDepth 100000 in
theorem m_verifiesC (l : Launch) (dC : Nat → ClassId) (dI : Nat → Nat → Nat) (sb : sB) (γ : cG) (κ : kE) (Ad : List Nat) (ν : Nat → cN) (ω : Nat → List Nat) (L : Nat) (G : va_W) (h g c9 : Nat) (K1 l1 K2 l2 : Nat) (sz : Nat) (hTy : TY γ κ Ad ν ω L G) (kh : tK κ Ad h (10, 0, 0)) (kg : tK κ Ad g (8, K1, l1)) (kc9 : tK κ Ad c9 (8, K2, l2)) (hL : L ≤ 64) (h1 : ∀ a, a ∈ Ad → (κ a).1 = 10 → a = h) : Met l y_Rsa_verifies w_Rsa_verifies ({ frames := 2, cells := 0, slots := 0, locals := 61 }) (mu_P [.ref h, .ref g, .ref c9] (dC, dI) sb G [(γ.1, .byte), (γ.2.1, .int), (γ.2.2.1, .long), (γ.2.2.2, .object "java/lang/Object")] sz) (va_Qi (fun r (G' : va_W) => (∃ L' : Nat, L' ≤ 64 ∧ TY γ κ Ad ν ω L' G') ∧ FR Ad G G' ∧ (bz r (r = 1))) (mu_B (dC, dI) [(γ.1, .byte), (γ.2.1, .int), (γ.2.2.1, .long), (γ.2.2.2, .object "java/lang/Object")] (va_A G sz) (fun G' : va_W => G')) (va_A G sz)) 0 0 (va_A G sz) := by
  refine Met.ofW (cc := b_Rsa_verifies) (maxL := 6) (ret := (some FieldType.boolean)) (by decide) rfl ?_
  intro p e s m args below meth c s₁ B hml hv
  obtain ⟨rfl, hsz, hB0, hP, hK, hD0, hN, hT0⟩ := hv
  have hx := B.exec
  have hb := B.bytes
  have hr := B.returns
  have hts := atoms_spec (ws := w_Rsa_verifies) B.pre
  have tbin : ∀ w ∈ tb, w ∈ w_Rsa_verifies := fun w h => List.mem_cons_of_mem _ h
  have htb : ∀ w ∈ tb, w.before _ s = true := fun w h => hts w (tbin w h)
  have hown : s.vm.findClass "TrustChain$Rsa" = some m.cls := findClass_of_methodNamed B.named
  have hlocks := B.notSynchronized
  subst hsz
  have hD := hD0.self (sz := s.heap.size)
  generalize hAe : va_A G s.heap.size = A at hD ⊢
  have hA : ∀ q : Nat, s.heap.size ≤ q → A q := fun q h => by rw [← hAe]; exact Or.inr h
  have hAs : ∀ q : Nat, A q → sb.1 ≤ q := fun q h => by
    rw [← hAe] at h
    rcases h with ⟨k, e, h⟩ | h
    · exact hD0.2 k _ h
    · exact Nat.le_trans hB0 h
  have hS : va_S A s.heap s.heap [] := va_S.rf
  have hFR := FR.rf Ad G
  have hcs : 0 ≤ (headSpec w_Rsa_verifies ({ frames := 2, cells := 0, slots := 0, locals := 61 })).room.cells ∧ 0 ≤ (headSpec w_Rsa_verifies ({ frames := 2, cells := 0, slots := 0, locals := 61 })).room.slots := ⟨Nat.le_refl _, Nat.le_refl _⟩
  have hP : va_P (dC, dI) classes G s.heap := hP
  have hl := lv_entry ([.ref h, .ref g, .ref c9]) (n := 6) (Nat.le_of_ble_eq_true rfl)
  rw [lg_entry_eq]
  generalize (lg_sl ([.ref h, .ref g, .ref c9]) ++ List.replicate (6 - (lg_sl ([.ref h, .ref g, .ref c9])).length) Slot.unset).toArray = ls at hl ⊢
  have hl : lv_has ls 6 [(0, .ref h), (1, .ref g), (2, .ref c9)] := hl
  refine lv_aload_n hx hb d_Rsa_verifies_0 rfl (lv_at hl 2 rfl) ?_
  obtain ⟨i_1, nm_1, pe_1, ec_1, se_1, su_1, mo_1, ok_1, ik_1, ha_1, si_1, en_1, bo_1, sg_1, is_1, iu_1, K_1, B_1, hg_1⟩ := ty_8 hTy kc9
  obtain ⟨⟨A_1, knm_1⟩, ⟨B1_1, B2_1, kpe_1⟩, ⟨C1_1, C2_1, kec_1⟩, kse_1, ⟨z1_1, ksu_1⟩, ⟨z2_1, kmo_1⟩, ⟨z3_1, kok_1⟩, ⟨z4_1, kik_1⟩, kha_1, ksi_1, ken_1, ⟨z5_1, kbo_1⟩, ⟨z6_1, ksg_1⟩, ⟨z7_1, kis_1⟩⟩ := K_1
  refine va_get (v := .ref mo_1) hx hb htb i_Certificate hown hK hP i_1 hg_1 rfl 5 (by decide) (htb _ q2_154) (fun _ h9 => h9) rfl d_Rsa_verifies_1 ?_
  obtain ⟨i_2, t_2, n_2, f_2, kt_2, hb_2, hm_2, hg_2⟩ := ty_2 hTy kmo_1
  refine vp_callSi (pu_callV (As := []) (rest := []) ⟨hx, hb, hml, hown, hts⟩ tbin (c_Slice_length l dC dI sb mo_1 t_2 f_2 (f_2 + z2_1) (by omega)) q5_184 q3_144 q3_145 q1_22 q3_146 (n := 0) (by decide +kernel) rfl ⟨rfl, rfl⟩ ⟨Nat.le_of_ble_eq_true rfl, Nat.le_of_ble_eq_true rfl⟩ ⟨Nat.le_of_ble_eq_true rfl, Nat.le_of_ble_eq_true rfl⟩ hN (hT0.keep hS hAs) hK hP [i_2] (by simp only [List.filterMap_cons, List.filterMap_nil, hg_2]) [] rfl i_2 0 hg_2 rfl rfl hl.1 rfl (Nat.le_of_ble_eq_true rfl) d_Rsa_verifies_4) (fun r4 hr4 => ?_)
  rw [show (f_2 + z2_1) - f_2 = z2_1 by omega] at hr4
  subst hr4
  refine lv_istore_n (lv' := [(3, .int (nI z2_1)), (0, .ref h), (1, .ref g), (2, .ref c9)]) hx hb d_Rsa_verifies_7 rfl hl (by decide) rfl (fun ls hl => ?_)
  refine lv_aload_n hx hb d_Rsa_verifies_8 rfl (lv_at hl 2 rfl) ?_
  obtain ⟨i_3, nm_3, pe_3, ec_3, se_3, su_3, mo_3, ok_3, ik_3, ha_3, si_3, en_3, bo_3, sg_3, is_3, iu_3, K_3, B_3, hg_3⟩ := ty_8 hTy kg
  obtain ⟨⟨A_3, knm_3⟩, ⟨B1_3, B2_3, kpe_3⟩, ⟨C1_3, C2_3, kec_3⟩, kse_3, ⟨z1_3, ksu_3⟩, ⟨z2_3, kmo_3⟩, ⟨z3_3, kok_3⟩, ⟨z4_3, kik_3⟩, kha_3, ksi_3, ken_3, ⟨z5_3, kbo_3⟩, ⟨z6_3, ksg_3⟩, ⟨z7_3, kis_3⟩⟩ := K_3
  refine va_get (v := .ref sg_3) hx hb htb i_Certificate hown hK hP i_3 hg_3 rfl 23 (by decide) (htb _ q2_209) (fun _ h9 => h9) rfl d_Rsa_verifies_9 ?_
  obtain ⟨i_4, t_4, n_4, f_4, kt_4, hb_4, hm_4, hg_4⟩ := ty_2 hTy ksg_3
  refine vp_callSi (pu_callV (As := []) (rest := []) ⟨hx, hb, hml, hown, hts⟩ tbin (c_Slice_length l dC dI sb sg_3 t_4 f_4 (f_4 + z6_3) (by omega)) q5_184 q3_144 q3_145 q1_22 q3_146 (n := 0) (by decide +kernel) rfl ⟨rfl, rfl⟩ ⟨Nat.le_of_ble_eq_true rfl, Nat.le_of_ble_eq_true rfl⟩ ⟨Nat.le_of_ble_eq_true rfl, Nat.le_of_ble_eq_true rfl⟩ hN (hT0.keep hS hAs) hK hP [i_4] (by simp only [List.filterMap_cons, List.filterMap_nil, hg_4]) [] rfl i_4 0 hg_4 rfl rfl hl.1 rfl (Nat.le_of_ble_eq_true rfl) d_Rsa_verifies_12) (fun r12 hr12 => ?_)
  rw [show (f_4 + z6_3) - f_4 = z6_3 by omega] at hr12
  subst hr12
  refine lv_iload_n hx hb d_Rsa_verifies_15 rfl (lv_at hl 0 rfl) ?_
  refine lv_icmp_ne (tgt := 30) hx hb d_Rsa_verifies_16 (by decide) (fun c16 => ?_) (fun c16 => ?_)
  · have p16 : ¬ (z6_3 = z2_1) := (fun q9 => c16 ((nI_eq (a := z6_3) (b := z2_1) (by omega) (by omega)).mpr q9))
    refine lv_iconst (v := 0) hx hb d_Rsa_verifies_30 (by decide) ?_
    exact W.zret (v := 0) hx hb hr rfl (fun t ht hW => ⟨⟨_, G, rfl, ⟨⟨_, hL, hTy⟩, hFR, bz_f (by decide)⟩, by rw [ht]; exact hP, va_K.moved hW.alike hK, hD⟩, hS.F ht⟩) hS.2.2 d_Rsa_verifies_31
  · have p16 : z6_3 = z2_1 := ((nI_eq (a := z6_3) (b := z2_1) (by omega) (by omega)).mp c16)
    refine lv_iload_n hx hb d_Rsa_verifies_19 rfl (lv_at hl 0 rfl) ?_
    refine lv_sipush (v := 256) hx hb d_Rsa_verifies_20 (by decide) ?_
    refine lv_icmp_gt (tgt := 30) hx hb d_Rsa_verifies_23 (by decide) (fun c23 => ?_) (fun c23 => ?_)
    · have p23 : 256 < z2_1 := ((nI_ltI (a := 256) (b := z2_1) (by omega) (by omega)).mp c23)
      refine lv_iconst (v := 0) hx hb d_Rsa_verifies_30 (by decide) ?_
      exact W.zret (v := 0) hx hb hr rfl (fun t ht hW => ⟨⟨_, G, rfl, ⟨⟨_, hL, hTy⟩, hFR, bz_f (by decide)⟩, by rw [ht]; exact hP, va_K.moved hW.alike hK, hD⟩, hS.F ht⟩) hS.2.2 d_Rsa_verifies_31
    · have p23 : ¬ (256 < z2_1) := (fun q9 => c23 ((nI_ltI (a := 256) (b := z2_1) (by omega) (by omega)).mpr q9))
      refine lv_iload_n hx hb d_Rsa_verifies_26 rfl (lv_at hl 0 rfl) ?_
      refine lv_if_ne (tgt := 32) hx hb d_Rsa_verifies_27 (by decide) (fun c27 => ?_) (fun c27 => ?_)
      · have p27 : ¬ (z2_1 = 0) := (fun q9 => c27 ((nI_eq (a := z2_1) (b := 0) (by omega) (by omega)).mpr q9))
        refine lv_aload_n hx hb d_Rsa_verifies_32 rfl (lv_at hl 1 rfl) ?_
        refine lv_iload_n hx hb d_Rsa_verifies_33 rfl (lv_at hl 0 rfl) ?_
        refine lv_iconst (v := 3) hx hb d_Rsa_verifies_34 (by decide) ?_
        refine lv_iadd hx hb d_Rsa_verifies_35 ?_
        rw [show ((nI z2_1) + 3 : Int32) = nI (z2_1 + 3) from nI_add z2_1 3]
        refine lv_iconst (v := 4) hx hb d_Rsa_verifies_36 (by decide) ?_
        refine lv_idiv hx hb d_Rsa_verifies_37 (by decide) ?_
        rw [show ((nI (z2_1 + 3)) / 4 : Int32) = nI ((z2_1 + 3) / 4) from nI_idiv (a := (z2_1 + 3)) (b := 4) (by omega) (by omega) (by omega)]
        obtain ⟨i_5, mo_5, sq_5, ba_5, po_5, un_5, su_5, iv_5, kmo_5, ksq_5, kba_5, kpo_5, kun_5, ksu_5, hg_5⟩ := ty_10 hTy kh
        obtain ⟨L38, eL38⟩ : ∃ k : Nat, k = ((z2_1 + 3) / 4) := ⟨_, rfl⟩
        rw [← eL38]
        have hL38 : L38 ≤ 64 := by omega
        have hM38 : 1 ≤ L38 := by omega
        refine va_put (v := .int (nI L38)) (ty := .int) hx hb htb i_Rsa t_Rsa t_Rsa_ok n_Rsa hown hK hP hD hS i_5 hg_5 rfl 6 (by decide) (htb _ q1_91) (fun _ h9 => h9) rfl (by decide +kernel) rfl rfl (Nat.le_of_ble_eq_true rfl) d_Rsa_verifies_38 (fun H38 locs hP hD2 hS => ?_)
        have hP : va_P (dC, dI) classes (G.set i_5 (h, .inr (7, [.ref mo_5, .ref sq_5, .ref ba_5, .ref po_5, .ref un_5, .ref su_5, .int (nI L38), .long iv_5]))) H38 := hP
        have hD3 : va_D A (G.set i_5 (h, .inr (7, [.ref mo_5, .ref sq_5, .ref ba_5, .ref po_5, .ref un_5, .ref su_5, .int (nI L38), .long iv_5]))) := hD2
        have hFR := hFR.tr (FR.set (c' := .inr (7, [.ref mo_5, .ref sq_5, .ref ba_5, .ref po_5, .ref un_5, .ref su_5, .int (nI L38), .long iv_5])) hg_5 kh.1)
        have hTy := TY.limbs (L' := L38) (c' := .inr (7, [.ref mo_5, .ref sq_5, .ref ba_5, .ref po_5, .ref un_5, .ref su_5, .int (nI L38), .long iv_5])) hTy hD hg_5 (ok_10 kh kmo_5 ksq_5 kba_5 kpo_5 kun_5 ksu_5) h1
        have hD := hD3
        have hg_1 := set_keep (c' := .inr (7, [.ref mo_5, .ref sq_5, .ref ba_5, .ref po_5, .ref un_5, .ref su_5, .int (nI L38), .long iv_5])) hg_5 hg_1 (tK.ne kh kc9 (show (10 : Nat) ≠ 8 by decide))
        have hg_2 := set_keep (c' := .inr (7, [.ref mo_5, .ref sq_5, .ref ba_5, .ref po_5, .ref un_5, .ref su_5, .int (nI L38), .long iv_5])) hg_5 hg_2 (tK.ne kh kmo_1 (show (10 : Nat) ≠ 2 by decide))
        have hg_3 := set_keep (c' := .inr (7, [.ref mo_5, .ref sq_5, .ref ba_5, .ref po_5, .ref un_5, .ref su_5, .int (nI L38), .long iv_5])) hg_5 hg_3 (tK.ne kh kg (show (10 : Nat) ≠ 8 by decide))
        have hg_4 := set_keep (c' := .inr (7, [.ref mo_5, .ref sq_5, .ref ba_5, .ref po_5, .ref un_5, .ref su_5, .int (nI L38), .long iv_5])) hg_5 hg_4 (tK.ne kh ksg_3 (show (10 : Nat) ≠ 2 by decide))
        have hg_5 := set_here (c' := .inr (7, [.ref mo_5, .ref sq_5, .ref ba_5, .ref po_5, .ref un_5, .ref su_5, .int (nI L38), .long iv_5])) hg_5
        clear hD3 hD2
        generalize G.set i_5 (h, .inr (7, [.ref mo_5, .ref sq_5, .ref ba_5, .ref po_5, .ref un_5, .ref su_5, .int (nI L38), .long iv_5])) = G_6 at hP hD hTy hFR hg_1 hg_2 hg_3 hg_4 hg_5
        refine lv_aload_n hx hb d_Rsa_verifies_41 rfl (lv_at hl 1 rfl) ?_
        refine lv_aload_n hx hb d_Rsa_verifies_42 rfl (lv_at hl 3 rfl) ?_
        refine va_get (v := .ref mo_1) hx hb htb i_Certificate hown hK hP i_1 hg_1 rfl 5 (by decide) (htb _ q2_154) (fun _ h9 => h9) rfl d_Rsa_verifies_43 ?_
        refine lv_aload_n hx hb d_Rsa_verifies_46 rfl (lv_at hl 1 rfl) ?_
        refine va_get (v := .ref mo_5) hx hb htb i_Rsa hown hK hP i_5 hg_5 rfl 0 (by decide) (htb _ q1_85) (fun _ h9 => h9) rfl d_Rsa_verifies_47 ?_
        have hFc := va_free (wc := G_6) hD hS hA (List.range G_6.length) (rg_is _)
        refine va_callv (mu_runV (As := [.ref mo_1, .ref mo_5]) (rest := []) ⟨hx, hb, hml, hown, hts⟩ tbin (m_Rsa_load l dC dI sb γ κ Ad ν ω L38 G_6 h mo_1 mo_5 _ H38.size hTy kh kmo_1 kmo_5 ) q5_185 q5_187 qp_21 q1_6 q5_188 (n := 2) (by decide +kernel) rfl ⟨rfl, rfl⟩ ⟨Nat.le_of_ble_eq_true rfl, Nat.le_of_ble_eq_true rfl⟩ ⟨Nat.le_of_ble_eq_true rfl, Nat.le_of_ble_eq_true rfl⟩ hN (hT0.keep hS hAs) hAs (Nat.le_trans hB0 hS.1) hK hP hD (List.range G_6.length) (rg_nd _) (rg_is _) [0, 1, 2, 3] rfl i_5 7 hg_5 rfl rfl hl.1 rfl (Nat.le_of_ble_eq_true rfl) d_Rsa_verifies_50) hS (fun q _ h => hFc q h) hFc (fun G_7 tS H50 locs ht hvm hw50 hB hz1 hk1 hS => ?_)
        obtain ⟨hTy, hF9, hr50⟩ := hw50
        have hFR := hFR.tr hF9
        obtain ⟨hP1, hK1, hD1⟩ := hB
        rw [ht] at hP1
        have hP : va_P (dC, dI) classes G_7 H50 := hP1
        have hD : va_D A G_7 := hD1.weaken (fun _ _ _ h => hFc _ h)
        refine lv_aload_n hx hb d_Rsa_verifies_53 rfl (lv_at hl 1 rfl) ?_
        refine lv_aload_n hx hb d_Rsa_verifies_54 rfl (lv_at hl 2 rfl) ?_
        obtain ⟨i_8, nm_8, pe_8, ec_8, se_8, su_8, mo_8, ok_8, ik_8, ha_8, si_8, en_8, bo_8, sg_8, is_8, iu_8, K_8, B_8, hg_8⟩ := ty_8 hTy kg
        obtain ⟨⟨A_8, knm_8⟩, ⟨B1_8, B2_8, kpe_8⟩, ⟨C1_8, C2_8, kec_8⟩, kse_8, ⟨z1_8, ksu_8⟩, ⟨z2_8, kmo_8⟩, ⟨z3_8, kok_8⟩, ⟨z4_8, kik_8⟩, kha_8, ksi_8, ken_8, ⟨z5_8, kbo_8⟩, ⟨z6_8, ksg_8⟩, ⟨z7_8, kis_8⟩⟩ := K_8
        refine va_get (v := .ref sg_8) hx hb htb i_Certificate hown hK hP i_8 hg_8 rfl 23 (by decide) (htb _ q2_209) (fun _ h9 => h9) rfl d_Rsa_verifies_55 ?_
        refine lv_aload_n hx hb d_Rsa_verifies_58 rfl (lv_at hl 1 rfl) ?_
        obtain ⟨i_9, mo_9, sq_9, ba_9, po_9, un_9, su_9, iv_9, kmo_9, ksq_9, kba_9, kpo_9, kun_9, ksu_9, hg_9⟩ := ty_10 hTy kh
        refine va_get (v := .ref ba_9) hx hb htb i_Rsa hown hK hP i_9 hg_9 rfl 2 (by decide) (htb _ q1_87) (fun _ h9 => h9) rfl d_Rsa_verifies_59 ?_
        have hFc := va_free (wc := G_7) hD hS hA (List.range G_7.length) (rg_is _)
        refine va_callv (mu_runV (As := [.ref sg_8, .ref ba_9]) (rest := []) ⟨hx, hb, hml, hown, hts⟩ tbin (m_Rsa_load l dC dI sb γ κ Ad ν ω L38 G_7 h sg_8 ba_9 _ H50.size hTy kh ksg_8 kba_9 ) q5_185 q5_187 qp_21 q1_6 q5_188 (n := 2) (by decide +kernel) rfl ⟨rfl, rfl⟩ ⟨Nat.le_of_ble_eq_true rfl, Nat.le_of_ble_eq_true rfl⟩ ⟨Nat.le_of_ble_eq_true rfl, Nat.le_of_ble_eq_true rfl⟩ hN (hT0.keep hS hAs) hAs (Nat.le_trans hB0 hS.1) hK hP hD (List.range G_7.length) (rg_nd _) (rg_is _) [0, 1, 2, 3] rfl i_9 7 hg_9 rfl rfl hl.1 rfl (Nat.le_of_ble_eq_true rfl) d_Rsa_verifies_62) hS (fun q _ h => hFc q h) hFc (fun G_10 tS H62 locs ht hvm hw62 hB hz1 hk1 hS => ?_)
        obtain ⟨hTy, hF9, hr62⟩ := hw62
        have hFR := hFR.tr hF9
        obtain ⟨hP1, hK1, hD1⟩ := hB
        rw [ht] at hP1
        have hP : va_P (dC, dI) classes G_10 H62 := hP1
        have hD : va_D A G_10 := hD1.weaken (fun _ _ _ h => hFc _ h)
        refine lv_aload_n hx hb d_Rsa_verifies_65 rfl (lv_at hl 1 rfl) ?_
        refine lv_aload_n hx hb d_Rsa_verifies_66 rfl (lv_at hl 1 rfl) ?_
        obtain ⟨i_11, mo_11, sq_11, ba_11, po_11, un_11, su_11, iv_11, kmo_11, ksq_11, kba_11, kpo_11, kun_11, ksu_11, hg_11⟩ := ty_10 hTy kh
        refine va_get (v := .ref ba_11) hx hb htb i_Rsa hown hK hP i_11 hg_11 rfl 2 (by decide) (htb _ q1_87) (fun _ h9 => h9) rfl d_Rsa_verifies_67 ?_
        have hFc := va_free (wc := G_10) hD hS hA (List.range G_10.length) (rg_is _)
        refine va_calli (mu_runV (As := [.ref ba_11]) (rest := []) ⟨hx, hb, hml, hown, hts⟩ tbin (m_Rsa_isBelowModulus l dC dI sb γ κ Ad ν ω L38 G_10 h ba_11  H62.size hTy kh kba_11 hL38 hM38) q5_193 q5_195 qp_22 q1_6 q5_196 (n := 1) (by decide +kernel) rfl ⟨rfl, rfl⟩ ⟨Nat.le_of_ble_eq_true rfl, Nat.le_of_ble_eq_true rfl⟩ ⟨Nat.le_of_ble_eq_true rfl, Nat.le_of_ble_eq_true rfl⟩ hN (hT0.keep hS hAs) hAs (Nat.le_trans hB0 hS.1) hK hP hD (List.range G_10.length) (rg_nd _) (rg_is _) [0, 1, 2, 3] rfl i_11 7 hg_11 rfl rfl hl.1 rfl (Nat.le_of_ble_eq_true rfl) d_Rsa_verifies_70) hS (fun q _ h => hFc q h) hFc (fun r70 G_12 tS H70 locs ht hvm hw70 hB hz1 hk1 hS => ?_)
        obtain ⟨hTy, hF9, hr70⟩ := hw70
        have hFR := hFR.tr hF9
        obtain ⟨hP1, hK1, hD1⟩ := hB
        rw [ht] at hP1
        have hP : va_P (dC, dI) classes G_12 H70 := hP1
        have hD : va_D A G_12 := hD1.weaken (fun _ _ _ h => hFc _ h)
        refine lv_if_ne (tgt := 78) hx hb d_Rsa_verifies_73 (by decide) (fun c73 => ?_) (fun c73 => ?_)
        · have p73 : ¬ (r70 = (0 : Int32)) := c73
          refine lv_aload_n hx hb d_Rsa_verifies_78 rfl (lv_at hl 1 rfl) ?_
          refine lv_aload_n hx hb d_Rsa_verifies_79 rfl (lv_at hl 3 rfl) ?_
          obtain ⟨i_13, nm_13, pe_13, ec_13, se_13, su_13, mo_13, ok_13, ik_13, ha_13, si_13, en_13, bo_13, sg_13, is_13, iu_13, K_13, B_13, hg_13⟩ := ty_8 hTy kc9
          obtain ⟨⟨A_13, knm_13⟩, ⟨B1_13, B2_13, kpe_13⟩, ⟨C1_13, C2_13, kec_13⟩, kse_13, ⟨z1_13, ksu_13⟩, ⟨z2_13, kmo_13⟩, ⟨z3_13, kok_13⟩, ⟨z4_13, kik_13⟩, kha_13, ksi_13, ken_13, ⟨z5_13, kbo_13⟩, ⟨z6_13, ksg_13⟩, ⟨z7_13, kis_13⟩⟩ := K_13
          refine va_get (v := .int ((ν c9).2.1)) hx hb htb i_Certificate hown hK hP i_13 hg_13 rfl 9 (by decide) (htb _ q2_164) (fun _ h9 => h9) rfl d_Rsa_verifies_80 ?_
          have hFc := va_free (wc := G_12) hD hS hA (List.range G_12.length) (rg_is _)
          obtain ⟨i_15, mo_15, sq_15, ba_15, po_15, un_15, su_15, iv_15, kmo_15, ksq_15, kba_15, kpo_15, kun_15, ksu_15, hg_15⟩ := ty_10 hTy kh
          refine va_callv (mu_runV (As := [.int ((ν c9).2.1)]) (rest := []) ⟨hx, hb, hml, hown, hts⟩ tbin (m_Rsa_prepare l dC dI sb γ κ Ad ν ω L38 G_12 h _ H70.size hTy kh hL38 hM38) q5_197 q5_199 qp_23 q1_6 q5_200 (n := 1) (by decide +kernel) rfl ⟨rfl, rfl⟩ ⟨Nat.le_of_ble_eq_true rfl, Nat.le_of_ble_eq_true rfl⟩ ⟨Nat.le_of_ble_eq_true rfl, Nat.le_of_ble_eq_true rfl⟩ hN (hT0.keep hS hAs) hAs (Nat.le_trans hB0 hS.1) hK hP hD (List.range G_12.length) (rg_nd _) (rg_is _) [0, 1, 2, 3] rfl i_15 7 hg_15 rfl rfl hl.1 rfl (Nat.le_of_ble_eq_true rfl) d_Rsa_verifies_83) hS (fun q _ h => hFc q h) hFc (fun G_14 tS H83 locs ht hvm hw83 hB hz1 hk1 hS => ?_)
          obtain ⟨hTy, hF9, hr83⟩ := hw83
          have hFR := hFR.tr hF9
          obtain ⟨hP1, hK1, hD1⟩ := hB
          rw [ht] at hP1
          have hP : va_P (dC, dI) classes G_14 H83 := hP1
          have hD : va_D A G_14 := hD1.weaken (fun _ _ _ h => hFc _ h)
          refine lv_iconst (v := 0) hx hb d_Rsa_verifies_86 (by decide) ?_
          refine lv_istore (lv' := [(4, .int 0), (3, .int (nI z2_1)), (0, .ref h), (1, .ref g), (2, .ref c9)]) hx hb d_Rsa_verifies_87 hl (by decide) rfl (fun ls hl => ?_)
          refine w_loopW (α := Nat × va_W) (fun a9 => a9.1 ≤ 5 ∧ TY γ κ Ad ν ω L38 a9.2 ∧ FR Ad G a9.2) (fun a9 => 5 - a9.1) (fun a9 => [(4, .int (nI a9.1)), (3, .int (nI z2_1)), (0, .ref h), (1, .ref g), (2, .ref c9)]) (fun _ => []) (fun a9 => a9.2) 6 89 (fun a9 HL89 locs ls hJ hP hD hS hl ih89 => ?_) (0, G_14) _ _ ls ⟨by omega, hTy, hFR⟩ hP hD hS (lv_sub hl [0, 1, 2, 3, 4] rfl)
          obtain ⟨z89, G89⟩ := a9
          obtain ⟨hz89, hTy, hFR⟩ := hJ
          dsimp only at hz89 hTy hFR hP hD hl ih89
          refine lv_iload hx hb d_Rsa_verifies_89 (lv_at hl 0 rfl) ?_
          refine lv_iconst (v := 5) hx hb d_Rsa_verifies_91 (by decide) ?_
          refine lv_icmp_ge (tgt := 117) hx hb d_Rsa_verifies_92 (by decide) (fun c92 => ?_) (fun c92 => ?_)
          · have p92 : 5 ≤ z89 := ((nI_leI (a := 5) (b := z89) (by omega) (by omega)).mp c92)
            refine lv_aload_n hx hb d_Rsa_verifies_117 rfl (lv_at hl 2 rfl) ?_
            refine lv_aload_n hx hb d_Rsa_verifies_118 rfl (lv_at hl 2 rfl) ?_
            obtain ⟨i_16, mo_16, sq_16, ba_16, po_16, un_16, su_16, iv_16, kmo_16, ksq_16, kba_16, kpo_16, kun_16, ksu_16, hg_16⟩ := ty_10 hTy kh
            refine va_get (v := .ref ba_16) hx hb htb i_Rsa hown hK hP i_16 hg_16 rfl 2 (by decide) (htb _ q1_87) (fun _ h9 => h9) rfl d_Rsa_verifies_119 ?_
            refine lv_aload_n hx hb d_Rsa_verifies_122 rfl (lv_at hl 2 rfl) ?_
            refine va_get (v := .ref sq_16) hx hb htb i_Rsa hown hK hP i_16 hg_16 rfl 1 (by decide) (htb _ q1_86) (fun _ h9 => h9) rfl d_Rsa_verifies_123 ?_
            refine lv_aload_n hx hb d_Rsa_verifies_126 rfl (lv_at hl 2 rfl) ?_
            refine va_get (v := .ref ba_16) hx hb htb i_Rsa hown hK hP i_16 hg_16 rfl 2 (by decide) (htb _ q1_87) (fun _ h9 => h9) rfl d_Rsa_verifies_127 ?_
            have hFc := va_free (wc := G89) hD hS hA (List.range G89.length) (rg_is _)
            refine va_callv (mu_runV (As := [.ref ba_16, .ref sq_16, .ref ba_16]) (rest := []) ⟨hx, hb, hml, hown, hts⟩ tbin (m_Rsa_multiply l dC dI sb γ κ Ad ν ω L38 G89 h ba_16 sq_16 ba_16  HL89.size hTy kh kba_16 ksq_16 kba_16 hL38 hM38) q5_209 q5_211 qp_25 q1_6 q5_212 (n := 3) (by decide +kernel) rfl ⟨rfl, rfl⟩ ⟨Nat.le_of_ble_eq_true rfl, Nat.le_of_ble_eq_true rfl⟩ ⟨Nat.le_of_ble_eq_true rfl, Nat.le_of_ble_eq_true rfl⟩ hN (hT0.keep hS hAs) hAs (Nat.le_trans hB0 hS.1) hK hP hD (List.range G89.length) (rg_nd _) (rg_is _) [0, 1, 2, 3] rfl i_16 7 hg_16 rfl rfl hl.1 rfl (Nat.le_of_ble_eq_true rfl) d_Rsa_verifies_130) hS (fun q _ h => hFc q h) hFc (fun G_17 tS H130 locs ht hvm hw130 hB hz1 hk1 hS => ?_)
            obtain ⟨hTy, hF9, hr130⟩ := hw130
            have hFR := hFR.tr hF9
            obtain ⟨hP1, hK1, hD1⟩ := hB
            rw [ht] at hP1
            have hP : va_P (dC, dI) classes G_17 H130 := hP1
            have hD : va_D A G_17 := hD1.weaken (fun _ _ _ h => hFc _ h)
            refine lv_iconst (v := 0) hx hb d_Rsa_verifies_133 (by decide) ?_
            refine lv_istore (lv' := [(4, .int 0), (3, .int (nI z2_1)), (0, .ref h), (1, .ref g), (2, .ref c9)]) hx hb d_Rsa_verifies_134 hl (by decide) rfl (fun ls hl => ?_)
            refine lv_bipush (v := 30) hx hb d_Rsa_verifies_136 (by decide) ?_
            refine lv_istore (lv' := [(5, .int 30), (4, .int 0), (3, .int (nI z2_1)), (0, .ref h), (1, .ref g), (2, .ref c9)]) hx hb d_Rsa_verifies_138 hl (by decide) rfl (fun ls hl => ?_)
            have hl : lv_has ls 6 [(5, .int (jD 31)), (4, .int 0), (3, .int (nI z2_1)), (0, .ref h), (1, .ref g), (2, .ref c9)] := hl
            refine w_loopW (α := Nat × Int32 × va_W) (fun a9 => a9.1 ≤ 31 ∧ TY γ κ Ad ν ω L38 a9.2.2 ∧ FR Ad G a9.2.2) (fun a9 => a9.1) (fun a9 => [(5, .int (jD a9.1)), (4, .int a9.2.1), (3, .int (nI z2_1)), (0, .ref h), (1, .ref g), (2, .ref c9)]) (fun _ => []) (fun a9 => a9.2.2) 6 140 (fun a9 HL140 locs ls hJ hP hD hS hl ih140 => ?_) (31, (0 : Int32), G_17) _ _ ls ⟨by omega, hTy, hFR⟩ hP hD hS (lv_sub hl [0, 1, 2, 3, 4, 5] rfl)
            obtain ⟨z140, x140_4, G140⟩ := a9
            obtain ⟨hz140, hTy, hFR⟩ := hJ
            dsimp only at hz140 hTy hFR hP hD hl ih140
            obtain _ | z140 := z140
            · have hl : lv_has ls 6 [(5, .int (-1)), (4, .int x140_4), (3, .int (nI z2_1)), (0, .ref h), (1, .ref g), (2, .ref c9)] := hl
              refine lv_iload hx hb d_Rsa_verifies_140 (lv_at hl 0 rfl) ?_
              refine lv_if_lt (tgt := 229) hx hb d_Rsa_verifies_142 (by decide) (fun c142 => ?_) (fun c142 => ?_)
              rotate_left
              · exact absurd c142 (by decide)
              refine lv_aload_n hx hb d_Rsa_verifies_229 rfl (lv_at hl 3 rfl) ?_
              refine lv_aload_n hx hb d_Rsa_verifies_230 rfl (lv_at hl 3 rfl) ?_
              obtain ⟨i_18, mo_18, sq_18, ba_18, po_18, un_18, su_18, iv_18, kmo_18, ksq_18, kba_18, kpo_18, kun_18, ksu_18, hg_18⟩ := ty_10 hTy kh
              refine va_get (v := .ref po_18) hx hb htb i_Rsa hown hK hP i_18 hg_18 rfl 3 (by decide) (htb _ q1_88) (fun _ h9 => h9) rfl d_Rsa_verifies_231 ?_
              refine lv_aload_n hx hb d_Rsa_verifies_234 rfl (lv_at hl 3 rfl) ?_
              refine va_get (v := .ref un_18) hx hb htb i_Rsa hown hK hP i_18 hg_18 rfl 4 (by decide) (htb _ q1_89) (fun _ h9 => h9) rfl d_Rsa_verifies_235 ?_
              refine lv_aload_n hx hb d_Rsa_verifies_238 rfl (lv_at hl 3 rfl) ?_
              refine va_get (v := .ref po_18) hx hb htb i_Rsa hown hK hP i_18 hg_18 rfl 3 (by decide) (htb _ q1_88) (fun _ h9 => h9) rfl d_Rsa_verifies_239 ?_
              have hFc := va_free (wc := G140) hD hS hA (List.range G140.length) (rg_is _)
              refine va_callv (mu_runV (As := [.ref po_18, .ref un_18, .ref po_18]) (rest := []) ⟨hx, hb, hml, hown, hts⟩ tbin (m_Rsa_multiply l dC dI sb γ κ Ad ν ω L38 G140 h po_18 un_18 po_18  HL140.size hTy kh kpo_18 kun_18 kpo_18 hL38 hM38) q5_209 q5_211 qp_25 q1_6 q5_212 (n := 3) (by decide +kernel) rfl ⟨rfl, rfl⟩ ⟨Nat.le_of_ble_eq_true rfl, Nat.le_of_ble_eq_true rfl⟩ ⟨Nat.le_of_ble_eq_true rfl, Nat.le_of_ble_eq_true rfl⟩ hN (hT0.keep hS hAs) hAs (Nat.le_trans hB0 hS.1) hK hP hD (List.range G140.length) (rg_nd _) (rg_is _) [0, 1, 2, 3] rfl i_18 7 hg_18 rfl rfl hl.1 rfl (Nat.le_of_ble_eq_true rfl) d_Rsa_verifies_242) hS (fun q _ h => hFc q h) hFc (fun G_19 tS H242 locs ht hvm hw242 hB hz1 hk1 hS => ?_)
              obtain ⟨hTy, hF9, hr242⟩ := hw242
              have hFR := hFR.tr hF9
              obtain ⟨hP1, hK1, hD1⟩ := hB
              rw [ht] at hP1
              have hP : va_P (dC, dI) classes G_19 H242 := hP1
              have hD : va_D A G_19 := hD1.weaken (fun _ _ _ h => hFc _ h)
              refine lv_aload_n hx hb d_Rsa_verifies_245 rfl (lv_at hl 3 rfl) ?_
              refine lv_aload_n hx hb d_Rsa_verifies_246 rfl (lv_at hl 4 rfl) ?_
              obtain ⟨i_20, nm_20, pe_20, ec_20, se_20, su_20, mo_20, ok_20, ik_20, ha_20, si_20, en_20, bo_20, sg_20, is_20, iu_20, K_20, B_20, hg_20⟩ := ty_8 hTy kg
              obtain ⟨⟨A_20, knm_20⟩, ⟨B1_20, B2_20, kpe_20⟩, ⟨C1_20, C2_20, kec_20⟩, kse_20, ⟨z1_20, ksu_20⟩, ⟨z2_20, kmo_20⟩, ⟨z3_20, kok_20⟩, ⟨z4_20, kik_20⟩, kha_20, ksi_20, ken_20, ⟨z5_20, kbo_20⟩, ⟨z6_20, ksg_20⟩, ⟨z7_20, kis_20⟩⟩ := K_20
              refine va_get (v := .ref ha_20) hx hb htb i_Certificate hown hK hP i_20 hg_20 rfl 19 (by decide) (htb _ q2_195) (fun _ h9 => h9) rfl d_Rsa_verifies_247 ?_
              refine lv_iload_n hx hb d_Rsa_verifies_250 rfl (lv_at hl 2 rfl) ?_
              obtain ⟨i_21, mo_21, sq_21, ba_21, po_21, un_21, su_21, iv_21, kmo_21, ksq_21, kba_21, kpo_21, kun_21, ksu_21, hg_21⟩ := ty_10 hTy kh
              refine vp_callSi (pu_callV (As := [.ref ha_20, .int (nI z2_1)]) (rest := []) ⟨hx, hb, hml, hown, hts⟩ tbin (p_Rsa_hasForm l dC dI sb γ κ Ad ν ω L38 G_19 h ha_20 _ hTy kh kha_20 (by omega)) q5_214 q5_216 qp_26 q1_6 q5_217 (n := 2) (by decide +kernel) rfl ⟨rfl, rfl⟩ ⟨Nat.le_of_ble_eq_true rfl, Nat.le_of_ble_eq_true rfl⟩ ⟨Nat.le_of_ble_eq_true rfl, Nat.le_of_ble_eq_true rfl⟩ hN (hT0.keep hS hAs) hK hP (List.range G_19.length) (rg_all G_19) [0, 1, 2, 3] rfl i_21 7 hg_21 rfl rfl hl.1 rfl (Nat.le_of_ble_eq_true rfl) d_Rsa_verifies_251) (fun r251 hr251 => ?_)
              exact W.zret (v := r251) hx hb hr (bz_n hr251) (fun t ht hW => ⟨⟨_, G_19, rfl, ⟨⟨_, hL38, hTy⟩, hFR, hr251⟩, by rw [ht]; exact hP, va_K.moved hW.alike hK, hD⟩, hS.F ht⟩) hS.2.2 d_Rsa_verifies_254
            · have hl : lv_has ls 6 [(5, .int (nI z140)), (4, .int x140_4), (3, .int (nI z2_1)), (0, .ref h), (1, .ref g), (2, .ref c9)] := hl
              refine lv_iload hx hb d_Rsa_verifies_140 (lv_at hl 0 rfl) ?_
              refine lv_if_lt (tgt := 229) hx hb d_Rsa_verifies_142 (by decide) (fun c142 => ?_) (fun c142 => ?_)
              · have p142 : z140 < 0 := ((nI_ltI (a := z140) (b := 0) (by omega) (by omega)).mp c142)
                refine lv_aload_n hx hb d_Rsa_verifies_229 rfl (lv_at hl 3 rfl) ?_
                refine lv_aload_n hx hb d_Rsa_verifies_230 rfl (lv_at hl 3 rfl) ?_
                obtain ⟨i_22, mo_22, sq_22, ba_22, po_22, un_22, su_22, iv_22, kmo_22, ksq_22, kba_22, kpo_22, kun_22, ksu_22, hg_22⟩ := ty_10 hTy kh
                refine va_get (v := .ref po_22) hx hb htb i_Rsa hown hK hP i_22 hg_22 rfl 3 (by decide) (htb _ q1_88) (fun _ h9 => h9) rfl d_Rsa_verifies_231 ?_
                refine lv_aload_n hx hb d_Rsa_verifies_234 rfl (lv_at hl 3 rfl) ?_
                refine va_get (v := .ref un_22) hx hb htb i_Rsa hown hK hP i_22 hg_22 rfl 4 (by decide) (htb _ q1_89) (fun _ h9 => h9) rfl d_Rsa_verifies_235 ?_
                refine lv_aload_n hx hb d_Rsa_verifies_238 rfl (lv_at hl 3 rfl) ?_
                refine va_get (v := .ref po_22) hx hb htb i_Rsa hown hK hP i_22 hg_22 rfl 3 (by decide) (htb _ q1_88) (fun _ h9 => h9) rfl d_Rsa_verifies_239 ?_
                have hFc := va_free (wc := G140) hD hS hA (List.range G140.length) (rg_is _)
                refine va_callv (mu_runV (As := [.ref po_22, .ref un_22, .ref po_22]) (rest := []) ⟨hx, hb, hml, hown, hts⟩ tbin (m_Rsa_multiply l dC dI sb γ κ Ad ν ω L38 G140 h po_22 un_22 po_22  HL140.size hTy kh kpo_22 kun_22 kpo_22 hL38 hM38) q5_209 q5_211 qp_25 q1_6 q5_212 (n := 3) (by decide +kernel) rfl ⟨rfl, rfl⟩ ⟨Nat.le_of_ble_eq_true rfl, Nat.le_of_ble_eq_true rfl⟩ ⟨Nat.le_of_ble_eq_true rfl, Nat.le_of_ble_eq_true rfl⟩ hN (hT0.keep hS hAs) hAs (Nat.le_trans hB0 hS.1) hK hP hD (List.range G140.length) (rg_nd _) (rg_is _) [0, 1, 2, 3] rfl i_22 7 hg_22 rfl rfl hl.1 rfl (Nat.le_of_ble_eq_true rfl) d_Rsa_verifies_242) hS (fun q _ h => hFc q h) hFc (fun G_23 tS H242 locs ht hvm hw242 hB hz1 hk1 hS => ?_)
                obtain ⟨hTy, hF9, hr242⟩ := hw242
                have hFR := hFR.tr hF9
                obtain ⟨hP1, hK1, hD1⟩ := hB
                rw [ht] at hP1
                have hP : va_P (dC, dI) classes G_23 H242 := hP1
                have hD : va_D A G_23 := hD1.weaken (fun _ _ _ h => hFc _ h)
                refine lv_aload_n hx hb d_Rsa_verifies_245 rfl (lv_at hl 3 rfl) ?_
                refine lv_aload_n hx hb d_Rsa_verifies_246 rfl (lv_at hl 4 rfl) ?_
                obtain ⟨i_24, nm_24, pe_24, ec_24, se_24, su_24, mo_24, ok_24, ik_24, ha_24, si_24, en_24, bo_24, sg_24, is_24, iu_24, K_24, B_24, hg_24⟩ := ty_8 hTy kg
                obtain ⟨⟨A_24, knm_24⟩, ⟨B1_24, B2_24, kpe_24⟩, ⟨C1_24, C2_24, kec_24⟩, kse_24, ⟨z1_24, ksu_24⟩, ⟨z2_24, kmo_24⟩, ⟨z3_24, kok_24⟩, ⟨z4_24, kik_24⟩, kha_24, ksi_24, ken_24, ⟨z5_24, kbo_24⟩, ⟨z6_24, ksg_24⟩, ⟨z7_24, kis_24⟩⟩ := K_24
                refine va_get (v := .ref ha_24) hx hb htb i_Certificate hown hK hP i_24 hg_24 rfl 19 (by decide) (htb _ q2_195) (fun _ h9 => h9) rfl d_Rsa_verifies_247 ?_
                refine lv_iload_n hx hb d_Rsa_verifies_250 rfl (lv_at hl 2 rfl) ?_
                obtain ⟨i_25, mo_25, sq_25, ba_25, po_25, un_25, su_25, iv_25, kmo_25, ksq_25, kba_25, kpo_25, kun_25, ksu_25, hg_25⟩ := ty_10 hTy kh
                refine vp_callSi (pu_callV (As := [.ref ha_24, .int (nI z2_1)]) (rest := []) ⟨hx, hb, hml, hown, hts⟩ tbin (p_Rsa_hasForm l dC dI sb γ κ Ad ν ω L38 G_23 h ha_24 _ hTy kh kha_24 (by omega)) q5_214 q5_216 qp_26 q1_6 q5_217 (n := 2) (by decide +kernel) rfl ⟨rfl, rfl⟩ ⟨Nat.le_of_ble_eq_true rfl, Nat.le_of_ble_eq_true rfl⟩ ⟨Nat.le_of_ble_eq_true rfl, Nat.le_of_ble_eq_true rfl⟩ hN (hT0.keep hS hAs) hK hP (List.range G_23.length) (rg_all G_23) [0, 1, 2, 3] rfl i_25 7 hg_25 rfl rfl hl.1 rfl (Nat.le_of_ble_eq_true rfl) d_Rsa_verifies_251) (fun r251 hr251 => ?_)
                exact W.zret (v := r251) hx hb hr (bz_n hr251) (fun t ht hW => ⟨⟨_, G_23, rfl, ⟨⟨_, hL38, hTy⟩, hFR, hr251⟩, by rw [ht]; exact hP, va_K.moved hW.alike hK, hD⟩, hS.F ht⟩) hS.2.2 d_Rsa_verifies_254
              · have p142 : ¬ (z140 < 0) := (fun q9 => c142 ((nI_ltI (a := z140) (b := 0) (by omega) (by omega)).mpr q9))
                refine lv_iload hx hb d_Rsa_verifies_145 (lv_at hl 1 rfl) ?_
                refine lv_if_eq (tgt := 166) hx hb d_Rsa_verifies_147 (by decide) (fun c147 => ?_) (fun c147 => ?_)
                · have p147 : x140_4 = (0 : Int32) := c147
                  refine lv_aload_n hx hb d_Rsa_verifies_166 rfl (lv_at hl 5 rfl) ?_
                  obtain ⟨i_26, nm_26, pe_26, ec_26, se_26, su_26, mo_26, ok_26, ik_26, ha_26, si_26, en_26, bo_26, sg_26, is_26, iu_26, K_26, B_26, hg_26⟩ := ty_8 hTy kc9
                  obtain ⟨⟨A_26, knm_26⟩, ⟨B1_26, B2_26, kpe_26⟩, ⟨C1_26, C2_26, kec_26⟩, kse_26, ⟨z1_26, ksu_26⟩, ⟨z2_26, kmo_26⟩, ⟨z3_26, kok_26⟩, ⟨z4_26, kik_26⟩, kha_26, ksi_26, ken_26, ⟨z5_26, kbo_26⟩, ⟨z6_26, ksg_26⟩, ⟨z7_26, kis_26⟩⟩ := K_26
                  refine va_get (v := .int ((ν c9).2.2.1)) hx hb htb i_Certificate hown hK hP i_26 hg_26 rfl 10 (by decide) (htb _ q2_167) (fun _ h9 => h9) rfl d_Rsa_verifies_167 ?_
                  refine lv_iload hx hb d_Rsa_verifies_170 (lv_at hl 0 rfl) ?_
                  refine lv_ishr hx hb d_Rsa_verifies_172 ?_
                  refine lv_iconst (v := 1) hx hb d_Rsa_verifies_173 (by decide) ?_
                  refine lv_iand hx hb d_Rsa_verifies_174 ?_
                  refine lv_iconst (v := 1) hx hb d_Rsa_verifies_175 (by decide) ?_
                  refine lv_icmp_ne (tgt := 223) hx hb d_Rsa_verifies_176 (by decide) (fun c176 => ?_) (fun c176 => ?_)
                  · have p176 : ¬ (((((ν c9).2.2.1) >>> ((nI z140) &&& 31)) &&& 1) = (1 : Int32)) := c176
                    refine lv_iinc (v := jD z140) (lv' := [(5, .int (jD z140)), (4, .int x140_4), (3, .int (nI z2_1)), (0, .ref h), (1, .ref g), (2, .ref c9)]) hx hb d_Rsa_verifies_223 hl (k := 0) rfl (jD_dec _) (by decide) rfl (fun ls hl => ?_)
                    refine lv_goto (tgt := 140) hx hb d_Rsa_verifies_226 (by decide) ?_
                    exact ih140 (z140, x140_4, G140) _ _ ls (by dsimp only; omega) ⟨by dsimp only; omega, hTy, hFR⟩ hP hD hS (lv_sub hl [0, 1, 2, 3, 4, 5] rfl)
                  · have p176 : ((((ν c9).2.2.1) >>> ((nI z140) &&& 31)) &&& 1) = (1 : Int32) := c176
                    refine lv_iload hx hb d_Rsa_verifies_179 (lv_at hl 1 rfl) ?_
                    refine lv_if_eq (tgt := 203) hx hb d_Rsa_verifies_181 (by decide) (fun c181 => ?_) (fun c181 => ?_)
                    · have p181 : x140_4 = (0 : Int32) := c181
                      refine lv_aload_n hx hb d_Rsa_verifies_203 rfl (lv_at hl 3 rfl) ?_
                      obtain ⟨i_27, mo_27, sq_27, ba_27, po_27, un_27, su_27, iv_27, kmo_27, ksq_27, kba_27, kpo_27, kun_27, ksu_27, hg_27⟩ := ty_10 hTy kh
                      refine va_get (v := .ref ba_27) hx hb htb i_Rsa hown hK hP i_27 hg_27 rfl 2 (by decide) (htb _ q1_87) (fun _ h9 => h9) rfl d_Rsa_verifies_204 ?_
                      refine lv_iconst (v := 0) hx hb d_Rsa_verifies_207 (by decide) ?_
                      refine lv_aload_n hx hb d_Rsa_verifies_208 rfl (lv_at hl 3 rfl) ?_
                      refine va_get (v := .ref po_27) hx hb htb i_Rsa hown hK hP i_27 hg_27 rfl 3 (by decide) (htb _ q1_88) (fun _ h9 => h9) rfl d_Rsa_verifies_209 ?_
                      refine lv_iconst (v := 0) hx hb d_Rsa_verifies_212 (by decide) ?_
                      refine lv_aload_n hx hb d_Rsa_verifies_213 rfl (lv_at hl 3 rfl) ?_
                      refine va_get (v := .int (nI L38)) hx hb htb i_Rsa hown hK hP i_27 hg_27 rfl 6 (by decide) (htb _ q1_91) (fun _ h9 => h9) rfl d_Rsa_verifies_214 ?_
                      obtain ⟨i_28, f_28, hn_28, hg_28⟩ := ty_7 hTy kba_27
                      obtain ⟨i_29, f_29, hn_29, hg_29⟩ := ty_7 hTy kpo_27
                      refine va_copyl (sp := 0) (dp := 0) (n := nI L38) hx hb (by rw [hml]; exact hl.1.symm) hown (htb _ q5_213) (htb _ q2_79) (htb _ q2_78) (htb _ q1_19) hK hP hD hS i_28 i_29 2 2 hg_28 hg_29 rfl rfl rfl (by decide) (by decide) (nI_pos (by omega)) (by rw [show (0 : Int32).toNatClampNeg = 0 from by decide, nI_clamp (by omega)]; omega) (by rw [show (0 : Int32).toNatClampNeg = 0 from by decide, nI_clamp (by omega)]; omega) (fun i hi => rfl) (Nat.le_of_ble_eq_true rfl) (Nat.le_of_ble_eq_true rfl) d_Rsa_verifies_217 (fun H217 locs hP hD2 hS => ?_)
                      have hP : va_P (dC, dI) classes (G140.set i_29 (po_27, .inl (γ.2.2.1, 64, .inr (.inl (va_cpy f_28 f_29 (0 : Int32).toNatClampNeg (0 : Int32).toNatClampNeg (nI L38).toNatClampNeg))))) H217 := hP
                      have hD3 : va_D A (G140.set i_29 (po_27, .inl (γ.2.2.1, 64, .inr (.inl (va_cpy f_28 f_29 (0 : Int32).toNatClampNeg (0 : Int32).toNatClampNeg (nI L38).toNatClampNeg))))) := hD2
                      have hFR := hFR.tr (FR.set (c' := .inl (γ.2.2.1, 64, .inr (.inl (va_cpy f_28 f_29 (0 : Int32).toNatClampNeg (0 : Int32).toNatClampNeg (nI L38).toNatClampNeg)))) hg_29 kpo_27.1)
                      have hTy := TY.set (c' := .inl (γ.2.2.1, 64, .inr (.inl (va_cpy f_28 f_29 (0 : Int32).toNatClampNeg (0 : Int32).toNatClampNeg (nI L38).toNatClampNeg)))) hTy hg_29 (ok_7 kpo_27 hn_29 _)
                      have hD := hD3
                      have hg_26 := set_keep (c' := .inl (γ.2.2.1, 64, .inr (.inl (va_cpy f_28 f_29 (0 : Int32).toNatClampNeg (0 : Int32).toNatClampNeg (nI L38).toNatClampNeg)))) hg_29 hg_26 (tK.ne kpo_27 kc9 (show (7 : Nat) ≠ 8 by decide))
                      have hg_27 := set_keep (c' := .inl (γ.2.2.1, 64, .inr (.inl (va_cpy f_28 f_29 (0 : Int32).toNatClampNeg (0 : Int32).toNatClampNeg (nI L38).toNatClampNeg)))) hg_29 hg_27 (tK.ne kpo_27 kh (show (7 : Nat) ≠ 10 by decide))
                      clear hD3 hD2
                      generalize G140.set i_29 (po_27, .inl (γ.2.2.1, 64, .inr (.inl (va_cpy f_28 f_29 (0 : Int32).toNatClampNeg (0 : Int32).toNatClampNeg (nI L38).toNatClampNeg)))) = G_30 at hP hD hTy hFR hg_26 hg_27
                      refine lv_iconst (v := 1) hx hb d_Rsa_verifies_220 (by decide) ?_
                      refine lv_istore (lv' := [(4, .int 1), (5, .int (nI z140)), (3, .int (nI z2_1)), (0, .ref h), (1, .ref g), (2, .ref c9)]) hx hb d_Rsa_verifies_221 hl (by decide) rfl (fun ls hl => ?_)
                      refine lv_iinc (v := jD z140) (lv' := [(5, .int (jD z140)), (4, .int 1), (3, .int (nI z2_1)), (0, .ref h), (1, .ref g), (2, .ref c9)]) hx hb d_Rsa_verifies_223 hl (k := 1) rfl (jD_dec _) (by decide) rfl (fun ls hl => ?_)
                      refine lv_goto (tgt := 140) hx hb d_Rsa_verifies_226 (by decide) ?_
                      exact ih140 (z140, (1 : Int32), G_30) _ _ ls (by dsimp only; omega) ⟨by dsimp only; omega, hTy, hFR⟩ hP hD hS (lv_sub hl [0, 1, 2, 3, 4, 5] rfl)
                    · have p181 : ¬ (x140_4 = (0 : Int32)) := c181
                      refine lv_aload_n hx hb d_Rsa_verifies_184 rfl (lv_at hl 3 rfl) ?_
                      refine lv_aload_n hx hb d_Rsa_verifies_185 rfl (lv_at hl 3 rfl) ?_
                      obtain ⟨i_31, mo_31, sq_31, ba_31, po_31, un_31, su_31, iv_31, kmo_31, ksq_31, kba_31, kpo_31, kun_31, ksu_31, hg_31⟩ := ty_10 hTy kh
                      refine va_get (v := .ref po_31) hx hb htb i_Rsa hown hK hP i_31 hg_31 rfl 3 (by decide) (htb _ q1_88) (fun _ h9 => h9) rfl d_Rsa_verifies_186 ?_
                      refine lv_aload_n hx hb d_Rsa_verifies_189 rfl (lv_at hl 3 rfl) ?_
                      refine va_get (v := .ref ba_31) hx hb htb i_Rsa hown hK hP i_31 hg_31 rfl 2 (by decide) (htb _ q1_87) (fun _ h9 => h9) rfl d_Rsa_verifies_190 ?_
                      refine lv_aload_n hx hb d_Rsa_verifies_193 rfl (lv_at hl 3 rfl) ?_
                      refine va_get (v := .ref po_31) hx hb htb i_Rsa hown hK hP i_31 hg_31 rfl 3 (by decide) (htb _ q1_88) (fun _ h9 => h9) rfl d_Rsa_verifies_194 ?_
                      have hFc := va_free (wc := G140) hD hS hA (List.range G140.length) (rg_is _)
                      refine va_callv (mu_runV (As := [.ref po_31, .ref ba_31, .ref po_31]) (rest := []) ⟨hx, hb, hml, hown, hts⟩ tbin (m_Rsa_multiply l dC dI sb γ κ Ad ν ω L38 G140 h po_31 ba_31 po_31  HL140.size hTy kh kpo_31 kba_31 kpo_31 hL38 hM38) q5_209 q5_211 qp_25 q1_6 q5_212 (n := 3) (by decide +kernel) rfl ⟨rfl, rfl⟩ ⟨Nat.le_of_ble_eq_true rfl, Nat.le_of_ble_eq_true rfl⟩ ⟨Nat.le_of_ble_eq_true rfl, Nat.le_of_ble_eq_true rfl⟩ hN (hT0.keep hS hAs) hAs (Nat.le_trans hB0 hS.1) hK hP hD (List.range G140.length) (rg_nd _) (rg_is _) [0, 1, 2, 3] rfl i_31 7 hg_31 rfl rfl hl.1 rfl (Nat.le_of_ble_eq_true rfl) d_Rsa_verifies_197) hS (fun q _ h => hFc q h) hFc (fun G_32 tS H197 locs ht hvm hw197 hB hz1 hk1 hS => ?_)
                      obtain ⟨hTy, hF9, hr197⟩ := hw197
                      have hFR := hFR.tr hF9
                      obtain ⟨hP1, hK1, hD1⟩ := hB
                      rw [ht] at hP1
                      have hP : va_P (dC, dI) classes G_32 H197 := hP1
                      have hD : va_D A G_32 := hD1.weaken (fun _ _ _ h => hFc _ h)
                      refine lv_goto (tgt := 220) hx hb d_Rsa_verifies_200 (by decide) ?_
                      refine lv_iconst (v := 1) hx hb d_Rsa_verifies_220 (by decide) ?_
                      refine lv_istore (lv' := [(4, .int 1), (5, .int (nI z140)), (3, .int (nI z2_1)), (0, .ref h), (1, .ref g), (2, .ref c9)]) hx hb d_Rsa_verifies_221 hl (by decide) rfl (fun ls hl => ?_)
                      refine lv_iinc (v := jD z140) (lv' := [(5, .int (jD z140)), (4, .int 1), (3, .int (nI z2_1)), (0, .ref h), (1, .ref g), (2, .ref c9)]) hx hb d_Rsa_verifies_223 hl (k := 1) rfl (jD_dec _) (by decide) rfl (fun ls hl => ?_)
                      refine lv_goto (tgt := 140) hx hb d_Rsa_verifies_226 (by decide) ?_
                      exact ih140 (z140, (1 : Int32), G_32) _ _ ls (by dsimp only; omega) ⟨by dsimp only; omega, hTy, hFR⟩ hP hD hS (lv_sub hl [0, 1, 2, 3, 4, 5] rfl)
                · have p147 : ¬ (x140_4 = (0 : Int32)) := c147
                  refine lv_aload_n hx hb d_Rsa_verifies_150 rfl (lv_at hl 3 rfl) ?_
                  refine lv_aload_n hx hb d_Rsa_verifies_151 rfl (lv_at hl 3 rfl) ?_
                  obtain ⟨i_33, mo_33, sq_33, ba_33, po_33, un_33, su_33, iv_33, kmo_33, ksq_33, kba_33, kpo_33, kun_33, ksu_33, hg_33⟩ := ty_10 hTy kh
                  refine va_get (v := .ref po_33) hx hb htb i_Rsa hown hK hP i_33 hg_33 rfl 3 (by decide) (htb _ q1_88) (fun _ h9 => h9) rfl d_Rsa_verifies_152 ?_
                  refine lv_aload_n hx hb d_Rsa_verifies_155 rfl (lv_at hl 3 rfl) ?_
                  refine va_get (v := .ref po_33) hx hb htb i_Rsa hown hK hP i_33 hg_33 rfl 3 (by decide) (htb _ q1_88) (fun _ h9 => h9) rfl d_Rsa_verifies_156 ?_
                  refine lv_aload_n hx hb d_Rsa_verifies_159 rfl (lv_at hl 3 rfl) ?_
                  refine va_get (v := .ref po_33) hx hb htb i_Rsa hown hK hP i_33 hg_33 rfl 3 (by decide) (htb _ q1_88) (fun _ h9 => h9) rfl d_Rsa_verifies_160 ?_
                  have hFc := va_free (wc := G140) hD hS hA (List.range G140.length) (rg_is _)
                  refine va_callv (mu_runV (As := [.ref po_33, .ref po_33, .ref po_33]) (rest := []) ⟨hx, hb, hml, hown, hts⟩ tbin (m_Rsa_multiply l dC dI sb γ κ Ad ν ω L38 G140 h po_33 po_33 po_33  HL140.size hTy kh kpo_33 kpo_33 kpo_33 hL38 hM38) q5_209 q5_211 qp_25 q1_6 q5_212 (n := 3) (by decide +kernel) rfl ⟨rfl, rfl⟩ ⟨Nat.le_of_ble_eq_true rfl, Nat.le_of_ble_eq_true rfl⟩ ⟨Nat.le_of_ble_eq_true rfl, Nat.le_of_ble_eq_true rfl⟩ hN (hT0.keep hS hAs) hAs (Nat.le_trans hB0 hS.1) hK hP hD (List.range G140.length) (rg_nd _) (rg_is _) [0, 1, 2, 3] rfl i_33 7 hg_33 rfl rfl hl.1 rfl (Nat.le_of_ble_eq_true rfl) d_Rsa_verifies_163) hS (fun q _ h => hFc q h) hFc (fun G_34 tS H163 locs ht hvm hw163 hB hz1 hk1 hS => ?_)
                  obtain ⟨hTy, hF9, hr163⟩ := hw163
                  have hFR := hFR.tr hF9
                  obtain ⟨hP1, hK1, hD1⟩ := hB
                  rw [ht] at hP1
                  have hP : va_P (dC, dI) classes G_34 H163 := hP1
                  have hD : va_D A G_34 := hD1.weaken (fun _ _ _ h => hFc _ h)
                  refine lv_aload_n hx hb d_Rsa_verifies_166 rfl (lv_at hl 5 rfl) ?_
                  obtain ⟨i_35, nm_35, pe_35, ec_35, se_35, su_35, mo_35, ok_35, ik_35, ha_35, si_35, en_35, bo_35, sg_35, is_35, iu_35, K_35, B_35, hg_35⟩ := ty_8 hTy kc9
                  obtain ⟨⟨A_35, knm_35⟩, ⟨B1_35, B2_35, kpe_35⟩, ⟨C1_35, C2_35, kec_35⟩, kse_35, ⟨z1_35, ksu_35⟩, ⟨z2_35, kmo_35⟩, ⟨z3_35, kok_35⟩, ⟨z4_35, kik_35⟩, kha_35, ksi_35, ken_35, ⟨z5_35, kbo_35⟩, ⟨z6_35, ksg_35⟩, ⟨z7_35, kis_35⟩⟩ := K_35
                  refine va_get (v := .int ((ν c9).2.2.1)) hx hb htb i_Certificate hown hK hP i_35 hg_35 rfl 10 (by decide) (htb _ q2_167) (fun _ h9 => h9) rfl d_Rsa_verifies_167 ?_
                  refine lv_iload hx hb d_Rsa_verifies_170 (lv_at hl 0 rfl) ?_
                  refine lv_ishr hx hb d_Rsa_verifies_172 ?_
                  refine lv_iconst (v := 1) hx hb d_Rsa_verifies_173 (by decide) ?_
                  refine lv_iand hx hb d_Rsa_verifies_174 ?_
                  refine lv_iconst (v := 1) hx hb d_Rsa_verifies_175 (by decide) ?_
                  refine lv_icmp_ne (tgt := 223) hx hb d_Rsa_verifies_176 (by decide) (fun c176 => ?_) (fun c176 => ?_)
                  · have p176 : ¬ (((((ν c9).2.2.1) >>> ((nI z140) &&& 31)) &&& 1) = (1 : Int32)) := c176
                    refine lv_iinc (v := jD z140) (lv' := [(5, .int (jD z140)), (4, .int x140_4), (3, .int (nI z2_1)), (0, .ref h), (1, .ref g), (2, .ref c9)]) hx hb d_Rsa_verifies_223 hl (k := 0) rfl (jD_dec _) (by decide) rfl (fun ls hl => ?_)
                    refine lv_goto (tgt := 140) hx hb d_Rsa_verifies_226 (by decide) ?_
                    exact ih140 (z140, x140_4, G_34) _ _ ls (by dsimp only; omega) ⟨by dsimp only; omega, hTy, hFR⟩ hP hD hS (lv_sub hl [0, 1, 2, 3, 4, 5] rfl)
                  · have p176 : ((((ν c9).2.2.1) >>> ((nI z140) &&& 31)) &&& 1) = (1 : Int32) := c176
                    refine lv_iload hx hb d_Rsa_verifies_179 (lv_at hl 1 rfl) ?_
                    refine lv_if_eq (tgt := 203) hx hb d_Rsa_verifies_181 (by decide) (fun c181 => ?_) (fun c181 => ?_)
                    · have p181 : x140_4 = (0 : Int32) := c181
                      refine lv_aload_n hx hb d_Rsa_verifies_203 rfl (lv_at hl 3 rfl) ?_
                      obtain ⟨i_36, mo_36, sq_36, ba_36, po_36, un_36, su_36, iv_36, kmo_36, ksq_36, kba_36, kpo_36, kun_36, ksu_36, hg_36⟩ := ty_10 hTy kh
                      refine va_get (v := .ref ba_36) hx hb htb i_Rsa hown hK hP i_36 hg_36 rfl 2 (by decide) (htb _ q1_87) (fun _ h9 => h9) rfl d_Rsa_verifies_204 ?_
                      refine lv_iconst (v := 0) hx hb d_Rsa_verifies_207 (by decide) ?_
                      refine lv_aload_n hx hb d_Rsa_verifies_208 rfl (lv_at hl 3 rfl) ?_
                      refine va_get (v := .ref po_36) hx hb htb i_Rsa hown hK hP i_36 hg_36 rfl 3 (by decide) (htb _ q1_88) (fun _ h9 => h9) rfl d_Rsa_verifies_209 ?_
                      refine lv_iconst (v := 0) hx hb d_Rsa_verifies_212 (by decide) ?_
                      refine lv_aload_n hx hb d_Rsa_verifies_213 rfl (lv_at hl 3 rfl) ?_
                      refine va_get (v := .int (nI L38)) hx hb htb i_Rsa hown hK hP i_36 hg_36 rfl 6 (by decide) (htb _ q1_91) (fun _ h9 => h9) rfl d_Rsa_verifies_214 ?_
                      obtain ⟨i_37, f_37, hn_37, hg_37⟩ := ty_7 hTy kba_36
                      obtain ⟨i_38, f_38, hn_38, hg_38⟩ := ty_7 hTy kpo_36
                      refine va_copyl (sp := 0) (dp := 0) (n := nI L38) hx hb (by rw [hml]; exact hl.1.symm) hown (htb _ q5_213) (htb _ q2_79) (htb _ q2_78) (htb _ q1_19) hK hP hD hS i_37 i_38 2 2 hg_37 hg_38 rfl rfl rfl (by decide) (by decide) (nI_pos (by omega)) (by rw [show (0 : Int32).toNatClampNeg = 0 from by decide, nI_clamp (by omega)]; omega) (by rw [show (0 : Int32).toNatClampNeg = 0 from by decide, nI_clamp (by omega)]; omega) (fun i hi => rfl) (Nat.le_of_ble_eq_true rfl) (Nat.le_of_ble_eq_true rfl) d_Rsa_verifies_217 (fun H217 locs hP hD2 hS => ?_)
                      have hP : va_P (dC, dI) classes (G_34.set i_38 (po_36, .inl (γ.2.2.1, 64, .inr (.inl (va_cpy f_37 f_38 (0 : Int32).toNatClampNeg (0 : Int32).toNatClampNeg (nI L38).toNatClampNeg))))) H217 := hP
                      have hD3 : va_D A (G_34.set i_38 (po_36, .inl (γ.2.2.1, 64, .inr (.inl (va_cpy f_37 f_38 (0 : Int32).toNatClampNeg (0 : Int32).toNatClampNeg (nI L38).toNatClampNeg))))) := hD2
                      have hFR := hFR.tr (FR.set (c' := .inl (γ.2.2.1, 64, .inr (.inl (va_cpy f_37 f_38 (0 : Int32).toNatClampNeg (0 : Int32).toNatClampNeg (nI L38).toNatClampNeg)))) hg_38 kpo_36.1)
                      have hTy := TY.set (c' := .inl (γ.2.2.1, 64, .inr (.inl (va_cpy f_37 f_38 (0 : Int32).toNatClampNeg (0 : Int32).toNatClampNeg (nI L38).toNatClampNeg)))) hTy hg_38 (ok_7 kpo_36 hn_38 _)
                      have hD := hD3
                      have hg_35 := set_keep (c' := .inl (γ.2.2.1, 64, .inr (.inl (va_cpy f_37 f_38 (0 : Int32).toNatClampNeg (0 : Int32).toNatClampNeg (nI L38).toNatClampNeg)))) hg_38 hg_35 (tK.ne kpo_36 kc9 (show (7 : Nat) ≠ 8 by decide))
                      have hg_36 := set_keep (c' := .inl (γ.2.2.1, 64, .inr (.inl (va_cpy f_37 f_38 (0 : Int32).toNatClampNeg (0 : Int32).toNatClampNeg (nI L38).toNatClampNeg)))) hg_38 hg_36 (tK.ne kpo_36 kh (show (7 : Nat) ≠ 10 by decide))
                      clear hD3 hD2
                      generalize G_34.set i_38 (po_36, .inl (γ.2.2.1, 64, .inr (.inl (va_cpy f_37 f_38 (0 : Int32).toNatClampNeg (0 : Int32).toNatClampNeg (nI L38).toNatClampNeg)))) = G_39 at hP hD hTy hFR hg_35 hg_36
                      refine lv_iconst (v := 1) hx hb d_Rsa_verifies_220 (by decide) ?_
                      refine lv_istore (lv' := [(4, .int 1), (5, .int (nI z140)), (3, .int (nI z2_1)), (0, .ref h), (1, .ref g), (2, .ref c9)]) hx hb d_Rsa_verifies_221 hl (by decide) rfl (fun ls hl => ?_)
                      refine lv_iinc (v := jD z140) (lv' := [(5, .int (jD z140)), (4, .int 1), (3, .int (nI z2_1)), (0, .ref h), (1, .ref g), (2, .ref c9)]) hx hb d_Rsa_verifies_223 hl (k := 1) rfl (jD_dec _) (by decide) rfl (fun ls hl => ?_)
                      refine lv_goto (tgt := 140) hx hb d_Rsa_verifies_226 (by decide) ?_
                      exact ih140 (z140, (1 : Int32), G_39) _ _ ls (by dsimp only; omega) ⟨by dsimp only; omega, hTy, hFR⟩ hP hD hS (lv_sub hl [0, 1, 2, 3, 4, 5] rfl)
                    · have p181 : ¬ (x140_4 = (0 : Int32)) := c181
                      refine lv_aload_n hx hb d_Rsa_verifies_184 rfl (lv_at hl 3 rfl) ?_
                      refine lv_aload_n hx hb d_Rsa_verifies_185 rfl (lv_at hl 3 rfl) ?_
                      obtain ⟨i_40, mo_40, sq_40, ba_40, po_40, un_40, su_40, iv_40, kmo_40, ksq_40, kba_40, kpo_40, kun_40, ksu_40, hg_40⟩ := ty_10 hTy kh
                      refine va_get (v := .ref po_40) hx hb htb i_Rsa hown hK hP i_40 hg_40 rfl 3 (by decide) (htb _ q1_88) (fun _ h9 => h9) rfl d_Rsa_verifies_186 ?_
                      refine lv_aload_n hx hb d_Rsa_verifies_189 rfl (lv_at hl 3 rfl) ?_
                      refine va_get (v := .ref ba_40) hx hb htb i_Rsa hown hK hP i_40 hg_40 rfl 2 (by decide) (htb _ q1_87) (fun _ h9 => h9) rfl d_Rsa_verifies_190 ?_
                      refine lv_aload_n hx hb d_Rsa_verifies_193 rfl (lv_at hl 3 rfl) ?_
                      refine va_get (v := .ref po_40) hx hb htb i_Rsa hown hK hP i_40 hg_40 rfl 3 (by decide) (htb _ q1_88) (fun _ h9 => h9) rfl d_Rsa_verifies_194 ?_
                      have hFc := va_free (wc := G_34) hD hS hA (List.range G_34.length) (rg_is _)
                      refine va_callv (mu_runV (As := [.ref po_40, .ref ba_40, .ref po_40]) (rest := []) ⟨hx, hb, hml, hown, hts⟩ tbin (m_Rsa_multiply l dC dI sb γ κ Ad ν ω L38 G_34 h po_40 ba_40 po_40  H163.size hTy kh kpo_40 kba_40 kpo_40 hL38 hM38) q5_209 q5_211 qp_25 q1_6 q5_212 (n := 3) (by decide +kernel) rfl ⟨rfl, rfl⟩ ⟨Nat.le_of_ble_eq_true rfl, Nat.le_of_ble_eq_true rfl⟩ ⟨Nat.le_of_ble_eq_true rfl, Nat.le_of_ble_eq_true rfl⟩ hN (hT0.keep hS hAs) hAs (Nat.le_trans hB0 hS.1) hK hP hD (List.range G_34.length) (rg_nd _) (rg_is _) [0, 1, 2, 3] rfl i_40 7 hg_40 rfl rfl hl.1 rfl (Nat.le_of_ble_eq_true rfl) d_Rsa_verifies_197) hS (fun q _ h => hFc q h) hFc (fun G_41 tS H197 locs ht hvm hw197 hB hz1 hk1 hS => ?_)
                      obtain ⟨hTy, hF9, hr197⟩ := hw197
                      have hFR := hFR.tr hF9
                      obtain ⟨hP1, hK1, hD1⟩ := hB
                      rw [ht] at hP1
                      have hP : va_P (dC, dI) classes G_41 H197 := hP1
                      have hD : va_D A G_41 := hD1.weaken (fun _ _ _ h => hFc _ h)
                      refine lv_goto (tgt := 220) hx hb d_Rsa_verifies_200 (by decide) ?_
                      refine lv_iconst (v := 1) hx hb d_Rsa_verifies_220 (by decide) ?_
                      refine lv_istore (lv' := [(4, .int 1), (5, .int (nI z140)), (3, .int (nI z2_1)), (0, .ref h), (1, .ref g), (2, .ref c9)]) hx hb d_Rsa_verifies_221 hl (by decide) rfl (fun ls hl => ?_)
                      refine lv_iinc (v := jD z140) (lv' := [(5, .int (jD z140)), (4, .int 1), (3, .int (nI z2_1)), (0, .ref h), (1, .ref g), (2, .ref c9)]) hx hb d_Rsa_verifies_223 hl (k := 1) rfl (jD_dec _) (by decide) rfl (fun ls hl => ?_)
                      refine lv_goto (tgt := 140) hx hb d_Rsa_verifies_226 (by decide) ?_
                      exact ih140 (z140, (1 : Int32), G_41) _ _ ls (by dsimp only; omega) ⟨by dsimp only; omega, hTy, hFR⟩ hP hD hS (lv_sub hl [0, 1, 2, 3, 4, 5] rfl)
          · have p92 : ¬ (5 ≤ z89) := (fun q9 => c92 ((nI_leI (a := 5) (b := z89) (by omega) (by omega)).mpr q9))
            refine lv_aload_n hx hb d_Rsa_verifies_95 rfl (lv_at hl 2 rfl) ?_
            refine lv_aload_n hx hb d_Rsa_verifies_96 rfl (lv_at hl 2 rfl) ?_
            obtain ⟨i_42, mo_42, sq_42, ba_42, po_42, un_42, su_42, iv_42, kmo_42, ksq_42, kba_42, kpo_42, kun_42, ksu_42, hg_42⟩ := ty_10 hTy kh
            refine va_get (v := .ref sq_42) hx hb htb i_Rsa hown hK hP i_42 hg_42 rfl 1 (by decide) (htb _ q1_86) (fun _ h9 => h9) rfl d_Rsa_verifies_97 ?_
            refine lv_aload_n hx hb d_Rsa_verifies_100 rfl (lv_at hl 2 rfl) ?_
            refine va_get (v := .ref sq_42) hx hb htb i_Rsa hown hK hP i_42 hg_42 rfl 1 (by decide) (htb _ q1_86) (fun _ h9 => h9) rfl d_Rsa_verifies_101 ?_
            refine lv_aload_n hx hb d_Rsa_verifies_104 rfl (lv_at hl 2 rfl) ?_
            refine va_get (v := .ref sq_42) hx hb htb i_Rsa hown hK hP i_42 hg_42 rfl 1 (by decide) (htb _ q1_86) (fun _ h9 => h9) rfl d_Rsa_verifies_105 ?_
            have hFc := va_free (wc := G89) hD hS hA (List.range G89.length) (rg_is _)
            refine va_callv (mu_runV (As := [.ref sq_42, .ref sq_42, .ref sq_42]) (rest := []) ⟨hx, hb, hml, hown, hts⟩ tbin (m_Rsa_multiply l dC dI sb γ κ Ad ν ω L38 G89 h sq_42 sq_42 sq_42  HL89.size hTy kh ksq_42 ksq_42 ksq_42 hL38 hM38) q5_209 q5_211 qp_25 q1_6 q5_212 (n := 3) (by decide +kernel) rfl ⟨rfl, rfl⟩ ⟨Nat.le_of_ble_eq_true rfl, Nat.le_of_ble_eq_true rfl⟩ ⟨Nat.le_of_ble_eq_true rfl, Nat.le_of_ble_eq_true rfl⟩ hN (hT0.keep hS hAs) hAs (Nat.le_trans hB0 hS.1) hK hP hD (List.range G89.length) (rg_nd _) (rg_is _) [0, 1, 2, 3] rfl i_42 7 hg_42 rfl rfl hl.1 rfl (Nat.le_of_ble_eq_true rfl) d_Rsa_verifies_108) hS (fun q _ h => hFc q h) hFc (fun G_43 tS H108 locs ht hvm hw108 hB hz1 hk1 hS => ?_)
            obtain ⟨hTy, hF9, hr108⟩ := hw108
            have hFR := hFR.tr hF9
            obtain ⟨hP1, hK1, hD1⟩ := hB
            rw [ht] at hP1
            have hP : va_P (dC, dI) classes G_43 H108 := hP1
            have hD : va_D A G_43 := hD1.weaken (fun _ _ _ h => hFc _ h)
            refine lv_iinc (v := nI (z89 + 1)) (lv' := [(4, .int (nI (z89 + 1))), (3, .int (nI z2_1)), (0, .ref h), (1, .ref g), (2, .ref c9)]) hx hb d_Rsa_verifies_111 hl (k := 0) rfl (nI_1 _) (by decide) rfl (fun ls hl => ?_)
            refine lv_goto (tgt := 89) hx hb d_Rsa_verifies_114 (by decide) ?_
            exact ih89 (z89 + 1, G_43) _ _ ls (by dsimp only; omega) ⟨by dsimp only; omega, hTy, hFR⟩ hP hD hS (lv_sub hl [0, 1, 2, 3, 4] rfl)
        · have p73 : r70 = (0 : Int32) := c73
          refine lv_iconst (v := 0) hx hb d_Rsa_verifies_76 (by decide) ?_
          exact W.zret (v := 0) hx hb hr rfl (fun t ht hW => ⟨⟨_, G_12, rfl, ⟨⟨_, hL38, hTy⟩, hFR, bz_f (by decide)⟩, by rw [ht]; exact hP, va_K.moved hW.alike hK, hD⟩, hS.F ht⟩) hS.2.2 d_Rsa_verifies_77
      · have p27 : z2_1 = 0 := ((nI_eq (a := z2_1) (b := 0) (by omega) (by omega)).mp c27)
        refine lv_iconst (v := 0) hx hb d_Rsa_verifies_30 (by decide) ?_
        exact W.zret (v := 0) hx hb hr rfl (fun t ht hW => ⟨⟨_, G, rfl, ⟨⟨_, hL, hTy⟩, hFR, bz_f (by decide)⟩, by rw [ht]; exact hP, va_K.moved hW.alike hK, hD⟩, hS.F ht⟩) hS.2.2 d_Rsa_verifies_31
set_option maxHeartbeats 4000000 in
set_option maxRecDepth 100000 in
theorem m_verifiesP (l : Launch) (dC : Nat → ClassId) (dI : Nat → Nat → Nat) (sb : sB) (γ : cG) (κ : kE) (Ad : List Nat) (ν : Nat → cN) (ω : Nat → List Nat) (L : Nat) (G : va_W) (h g c9 : Nat) (K1 K2 l2 : Nat) (sz : Nat) (hTy : TY γ κ Ad ν ω L G) (kh : tK κ Ad h (10, 0, 0)) (kg : tK κ Ad g (9, K1, 0)) (kc9 : tK κ Ad c9 (8, K2, l2)) (hL : L ≤ 64) (h1 : ∀ a, a ∈ Ad → (κ a).1 = 10 → a = h) : Met l y_Rsa_verifies w_Rsa_verifies ({ frames := 2, cells := 0, slots := 0, locals := 61 }) (mu_P [.ref h, .ref g, .ref c9] (dC, dI) sb G [(γ.1, .byte), (γ.2.1, .int), (γ.2.2.1, .long), (γ.2.2.2, .object "java/lang/Object")] sz) (va_Qi (fun r (G' : va_W) => (∃ L' : Nat, L' ≤ 64 ∧ TY γ κ Ad ν ω L' G') ∧ FR Ad G G' ∧ (bz r (r = 1))) (mu_B (dC, dI) [(γ.1, .byte), (γ.2.1, .int), (γ.2.2.1, .long), (γ.2.2.2, .object "java/lang/Object")] (va_A G sz) (fun G' : va_W => G')) (va_A G sz)) 0 0 (va_A G sz) := by
  refine Met.ofW (cc := b_Rsa_verifies) (maxL := 6) (ret := (some FieldType.boolean)) (by decide) rfl ?_
  intro p e s m args below meth c s₁ B hml hv
  obtain ⟨rfl, hsz, hB0, hP, hK, hD0, hN, hT0⟩ := hv
  have hx := B.exec
  have hb := B.bytes
  have hr := B.returns
  have hts := atoms_spec (ws := w_Rsa_verifies) B.pre
  have tbin : ∀ w ∈ tb, w ∈ w_Rsa_verifies := fun w h => List.mem_cons_of_mem _ h
  have htb : ∀ w ∈ tb, w.before _ s = true := fun w h => hts w (tbin w h)
  have hown : s.vm.findClass "TrustChain$Rsa" = some m.cls := findClass_of_methodNamed B.named
  have hlocks := B.notSynchronized
  subst hsz
  have hD := hD0.self (sz := s.heap.size)
  generalize hAe : va_A G s.heap.size = A at hD ⊢
  have hA : ∀ q : Nat, s.heap.size ≤ q → A q := fun q h => by rw [← hAe]; exact Or.inr h
  have hAs : ∀ q : Nat, A q → sb.1 ≤ q := fun q h => by
    rw [← hAe] at h
    rcases h with ⟨k, e, h⟩ | h
    · exact hD0.2 k _ h
    · exact Nat.le_trans hB0 h
  have hS : va_S A s.heap s.heap [] := va_S.rf
  have hFR := FR.rf Ad G
  have hcs : 0 ≤ (headSpec w_Rsa_verifies ({ frames := 2, cells := 0, slots := 0, locals := 61 })).room.cells ∧ 0 ≤ (headSpec w_Rsa_verifies ({ frames := 2, cells := 0, slots := 0, locals := 61 })).room.slots := ⟨Nat.le_refl _, Nat.le_refl _⟩
  have hP : va_P (dC, dI) classes G s.heap := hP
  have hl := lv_entry ([.ref h, .ref g, .ref c9]) (n := 6) (Nat.le_of_ble_eq_true rfl)
  rw [lg_entry_eq]
  generalize (lg_sl ([.ref h, .ref g, .ref c9]) ++ List.replicate (6 - (lg_sl ([.ref h, .ref g, .ref c9])).length) Slot.unset).toArray = ls at hl ⊢
  have hl : lv_has ls 6 [(0, .ref h), (1, .ref g), (2, .ref c9)] := hl
  refine lv_aload_n hx hb d_Rsa_verifies_0 rfl (lv_at hl 2 rfl) ?_
  obtain ⟨i_1, nm_1, pe_1, ec_1, se_1, su_1, mo_1, ok_1, ik_1, ha_1, si_1, en_1, bo_1, sg_1, is_1, iu_1, K_1, B_1, hg_1⟩ := ty_8 hTy kc9
  obtain ⟨⟨A_1, knm_1⟩, ⟨B1_1, B2_1, kpe_1⟩, ⟨C1_1, C2_1, kec_1⟩, kse_1, ⟨z1_1, ksu_1⟩, ⟨z2_1, kmo_1⟩, ⟨z3_1, kok_1⟩, ⟨z4_1, kik_1⟩, kha_1, ksi_1, ken_1, ⟨z5_1, kbo_1⟩, ⟨z6_1, ksg_1⟩, ⟨z7_1, kis_1⟩⟩ := K_1
  refine va_get (v := .ref mo_1) hx hb htb i_Certificate hown hK hP i_1 hg_1 rfl 5 (by decide) (htb _ q2_154) (fun _ h9 => h9) rfl d_Rsa_verifies_1 ?_
  obtain ⟨i_2, t_2, n_2, f_2, kt_2, hb_2, hm_2, hg_2⟩ := ty_2 hTy kmo_1
  refine vp_callSi (pu_callV (As := []) (rest := []) ⟨hx, hb, hml, hown, hts⟩ tbin (c_Slice_length l dC dI sb mo_1 t_2 f_2 (f_2 + z2_1) (by omega)) q5_184 q3_144 q3_145 q1_22 q3_146 (n := 0) (by decide +kernel) rfl ⟨rfl, rfl⟩ ⟨Nat.le_of_ble_eq_true rfl, Nat.le_of_ble_eq_true rfl⟩ ⟨Nat.le_of_ble_eq_true rfl, Nat.le_of_ble_eq_true rfl⟩ hN (hT0.keep hS hAs) hK hP [i_2] (by simp only [List.filterMap_cons, List.filterMap_nil, hg_2]) [] rfl i_2 0 hg_2 rfl rfl hl.1 rfl (Nat.le_of_ble_eq_true rfl) d_Rsa_verifies_4) (fun r4 hr4 => ?_)
  rw [show (f_2 + z2_1) - f_2 = z2_1 by omega] at hr4
  subst hr4
  refine lv_istore_n (lv' := [(3, .int (nI z2_1)), (0, .ref h), (1, .ref g), (2, .ref c9)]) hx hb d_Rsa_verifies_7 rfl hl (by decide) rfl (fun ls hl => ?_)
  refine lv_aload_n hx hb d_Rsa_verifies_8 rfl (lv_at hl 2 rfl) ?_
  obtain ⟨i_3, ha_3, si_3, en_3, bo_3, sg_3, is_3, kha_3, ksi_3, ken_3, ⟨z5_3, kbo_3⟩, ⟨z6_3, ksg_3⟩, ⟨z7_3, kis_3⟩, hg_3⟩ := ty_9 hTy kg
  refine va_get (v := .ref sg_3) hx hb htb i_Paper hown hK hP i_3 hg_3 rfl 4 (by decide) (htb _ q2_209) (fun _ h9 => h9) rfl d_Rsa_verifies_9 ?_
  obtain ⟨i_4, t_4, n_4, f_4, kt_4, hb_4, hm_4, hg_4⟩ := ty_2 hTy ksg_3
  refine vp_callSi (pu_callV (As := []) (rest := []) ⟨hx, hb, hml, hown, hts⟩ tbin (c_Slice_length l dC dI sb sg_3 t_4 f_4 (f_4 + z6_3) (by omega)) q5_184 q3_144 q3_145 q1_22 q3_146 (n := 0) (by decide +kernel) rfl ⟨rfl, rfl⟩ ⟨Nat.le_of_ble_eq_true rfl, Nat.le_of_ble_eq_true rfl⟩ ⟨Nat.le_of_ble_eq_true rfl, Nat.le_of_ble_eq_true rfl⟩ hN (hT0.keep hS hAs) hK hP [i_4] (by simp only [List.filterMap_cons, List.filterMap_nil, hg_4]) [] rfl i_4 0 hg_4 rfl rfl hl.1 rfl (Nat.le_of_ble_eq_true rfl) d_Rsa_verifies_12) (fun r12 hr12 => ?_)
  rw [show (f_4 + z6_3) - f_4 = z6_3 by omega] at hr12
  subst hr12
  refine lv_iload_n hx hb d_Rsa_verifies_15 rfl (lv_at hl 0 rfl) ?_
  refine lv_icmp_ne (tgt := 30) hx hb d_Rsa_verifies_16 (by decide) (fun c16 => ?_) (fun c16 => ?_)
  · have p16 : ¬ (z6_3 = z2_1) := (fun q9 => c16 ((nI_eq (a := z6_3) (b := z2_1) (by omega) (by omega)).mpr q9))
    refine lv_iconst (v := 0) hx hb d_Rsa_verifies_30 (by decide) ?_
    exact W.zret (v := 0) hx hb hr rfl (fun t ht hW => ⟨⟨_, G, rfl, ⟨⟨_, hL, hTy⟩, hFR, bz_f (by decide)⟩, by rw [ht]; exact hP, va_K.moved hW.alike hK, hD⟩, hS.F ht⟩) hS.2.2 d_Rsa_verifies_31
  · have p16 : z6_3 = z2_1 := ((nI_eq (a := z6_3) (b := z2_1) (by omega) (by omega)).mp c16)
    refine lv_iload_n hx hb d_Rsa_verifies_19 rfl (lv_at hl 0 rfl) ?_
    refine lv_sipush (v := 256) hx hb d_Rsa_verifies_20 (by decide) ?_
    refine lv_icmp_gt (tgt := 30) hx hb d_Rsa_verifies_23 (by decide) (fun c23 => ?_) (fun c23 => ?_)
    · have p23 : 256 < z2_1 := ((nI_ltI (a := 256) (b := z2_1) (by omega) (by omega)).mp c23)
      refine lv_iconst (v := 0) hx hb d_Rsa_verifies_30 (by decide) ?_
      exact W.zret (v := 0) hx hb hr rfl (fun t ht hW => ⟨⟨_, G, rfl, ⟨⟨_, hL, hTy⟩, hFR, bz_f (by decide)⟩, by rw [ht]; exact hP, va_K.moved hW.alike hK, hD⟩, hS.F ht⟩) hS.2.2 d_Rsa_verifies_31
    · have p23 : ¬ (256 < z2_1) := (fun q9 => c23 ((nI_ltI (a := 256) (b := z2_1) (by omega) (by omega)).mpr q9))
      refine lv_iload_n hx hb d_Rsa_verifies_26 rfl (lv_at hl 0 rfl) ?_
      refine lv_if_ne (tgt := 32) hx hb d_Rsa_verifies_27 (by decide) (fun c27 => ?_) (fun c27 => ?_)
      · have p27 : ¬ (z2_1 = 0) := (fun q9 => c27 ((nI_eq (a := z2_1) (b := 0) (by omega) (by omega)).mpr q9))
        refine lv_aload_n hx hb d_Rsa_verifies_32 rfl (lv_at hl 1 rfl) ?_
        refine lv_iload_n hx hb d_Rsa_verifies_33 rfl (lv_at hl 0 rfl) ?_
        refine lv_iconst (v := 3) hx hb d_Rsa_verifies_34 (by decide) ?_
        refine lv_iadd hx hb d_Rsa_verifies_35 ?_
        rw [show ((nI z2_1) + 3 : Int32) = nI (z2_1 + 3) from nI_add z2_1 3]
        refine lv_iconst (v := 4) hx hb d_Rsa_verifies_36 (by decide) ?_
        refine lv_idiv hx hb d_Rsa_verifies_37 (by decide) ?_
        rw [show ((nI (z2_1 + 3)) / 4 : Int32) = nI ((z2_1 + 3) / 4) from nI_idiv (a := (z2_1 + 3)) (b := 4) (by omega) (by omega) (by omega)]
        obtain ⟨i_5, mo_5, sq_5, ba_5, po_5, un_5, su_5, iv_5, kmo_5, ksq_5, kba_5, kpo_5, kun_5, ksu_5, hg_5⟩ := ty_10 hTy kh
        obtain ⟨L38, eL38⟩ : ∃ k : Nat, k = ((z2_1 + 3) / 4) := ⟨_, rfl⟩
        rw [← eL38]
        have hL38 : L38 ≤ 64 := by omega
        have hM38 : 1 ≤ L38 := by omega
        refine va_put (v := .int (nI L38)) (ty := .int) hx hb htb i_Rsa t_Rsa t_Rsa_ok n_Rsa hown hK hP hD hS i_5 hg_5 rfl 6 (by decide) (htb _ q1_91) (fun _ h9 => h9) rfl (by decide +kernel) rfl rfl (Nat.le_of_ble_eq_true rfl) d_Rsa_verifies_38 (fun H38 locs hP hD2 hS => ?_)
        have hP : va_P (dC, dI) classes (G.set i_5 (h, .inr (7, [.ref mo_5, .ref sq_5, .ref ba_5, .ref po_5, .ref un_5, .ref su_5, .int (nI L38), .long iv_5]))) H38 := hP
        have hD3 : va_D A (G.set i_5 (h, .inr (7, [.ref mo_5, .ref sq_5, .ref ba_5, .ref po_5, .ref un_5, .ref su_5, .int (nI L38), .long iv_5]))) := hD2
        have hFR := hFR.tr (FR.set (c' := .inr (7, [.ref mo_5, .ref sq_5, .ref ba_5, .ref po_5, .ref un_5, .ref su_5, .int (nI L38), .long iv_5])) hg_5 kh.1)
        have hTy := TY.limbs (L' := L38) (c' := .inr (7, [.ref mo_5, .ref sq_5, .ref ba_5, .ref po_5, .ref un_5, .ref su_5, .int (nI L38), .long iv_5])) hTy hD hg_5 (ok_10 kh kmo_5 ksq_5 kba_5 kpo_5 kun_5 ksu_5) h1
        have hD := hD3
        have hg_1 := set_keep (c' := .inr (7, [.ref mo_5, .ref sq_5, .ref ba_5, .ref po_5, .ref un_5, .ref su_5, .int (nI L38), .long iv_5])) hg_5 hg_1 (tK.ne kh kc9 (show (10 : Nat) ≠ 8 by decide))
        have hg_2 := set_keep (c' := .inr (7, [.ref mo_5, .ref sq_5, .ref ba_5, .ref po_5, .ref un_5, .ref su_5, .int (nI L38), .long iv_5])) hg_5 hg_2 (tK.ne kh kmo_1 (show (10 : Nat) ≠ 2 by decide))
        have hg_3 := set_keep (c' := .inr (7, [.ref mo_5, .ref sq_5, .ref ba_5, .ref po_5, .ref un_5, .ref su_5, .int (nI L38), .long iv_5])) hg_5 hg_3 (tK.ne kh kg (show (10 : Nat) ≠ 9 by decide))
        have hg_4 := set_keep (c' := .inr (7, [.ref mo_5, .ref sq_5, .ref ba_5, .ref po_5, .ref un_5, .ref su_5, .int (nI L38), .long iv_5])) hg_5 hg_4 (tK.ne kh ksg_3 (show (10 : Nat) ≠ 2 by decide))
        have hg_5 := set_here (c' := .inr (7, [.ref mo_5, .ref sq_5, .ref ba_5, .ref po_5, .ref un_5, .ref su_5, .int (nI L38), .long iv_5])) hg_5
        clear hD3 hD2
        generalize G.set i_5 (h, .inr (7, [.ref mo_5, .ref sq_5, .ref ba_5, .ref po_5, .ref un_5, .ref su_5, .int (nI L38), .long iv_5])) = G_6 at hP hD hTy hFR hg_1 hg_2 hg_3 hg_4 hg_5
        refine lv_aload_n hx hb d_Rsa_verifies_41 rfl (lv_at hl 1 rfl) ?_
        refine lv_aload_n hx hb d_Rsa_verifies_42 rfl (lv_at hl 3 rfl) ?_
        refine va_get (v := .ref mo_1) hx hb htb i_Certificate hown hK hP i_1 hg_1 rfl 5 (by decide) (htb _ q2_154) (fun _ h9 => h9) rfl d_Rsa_verifies_43 ?_
        refine lv_aload_n hx hb d_Rsa_verifies_46 rfl (lv_at hl 1 rfl) ?_
        refine va_get (v := .ref mo_5) hx hb htb i_Rsa hown hK hP i_5 hg_5 rfl 0 (by decide) (htb _ q1_85) (fun _ h9 => h9) rfl d_Rsa_verifies_47 ?_
        have hFc := va_free (wc := G_6) hD hS hA (List.range G_6.length) (rg_is _)
        refine va_callv (mu_runV (As := [.ref mo_1, .ref mo_5]) (rest := []) ⟨hx, hb, hml, hown, hts⟩ tbin (m_Rsa_load l dC dI sb γ κ Ad ν ω L38 G_6 h mo_1 mo_5 _ H38.size hTy kh kmo_1 kmo_5 ) q5_185 q5_187 qp_21 q1_6 q5_188 (n := 2) (by decide +kernel) rfl ⟨rfl, rfl⟩ ⟨Nat.le_of_ble_eq_true rfl, Nat.le_of_ble_eq_true rfl⟩ ⟨Nat.le_of_ble_eq_true rfl, Nat.le_of_ble_eq_true rfl⟩ hN (hT0.keep hS hAs) hAs (Nat.le_trans hB0 hS.1) hK hP hD (List.range G_6.length) (rg_nd _) (rg_is _) [0, 1, 2, 3] rfl i_5 7 hg_5 rfl rfl hl.1 rfl (Nat.le_of_ble_eq_true rfl) d_Rsa_verifies_50) hS (fun q _ h => hFc q h) hFc (fun G_7 tS H50 locs ht hvm hw50 hB hz1 hk1 hS => ?_)
        obtain ⟨hTy, hF9, hr50⟩ := hw50
        have hFR := hFR.tr hF9
        obtain ⟨hP1, hK1, hD1⟩ := hB
        rw [ht] at hP1
        have hP : va_P (dC, dI) classes G_7 H50 := hP1
        have hD : va_D A G_7 := hD1.weaken (fun _ _ _ h => hFc _ h)
        refine lv_aload_n hx hb d_Rsa_verifies_53 rfl (lv_at hl 1 rfl) ?_
        refine lv_aload_n hx hb d_Rsa_verifies_54 rfl (lv_at hl 2 rfl) ?_
        obtain ⟨i_8, ha_8, si_8, en_8, bo_8, sg_8, is_8, kha_8, ksi_8, ken_8, ⟨z5_8, kbo_8⟩, ⟨z6_8, ksg_8⟩, ⟨z7_8, kis_8⟩, hg_8⟩ := ty_9 hTy kg
        refine va_get (v := .ref sg_8) hx hb htb i_Paper hown hK hP i_8 hg_8 rfl 4 (by decide) (htb _ q2_209) (fun _ h9 => h9) rfl d_Rsa_verifies_55 ?_
        refine lv_aload_n hx hb d_Rsa_verifies_58 rfl (lv_at hl 1 rfl) ?_
        obtain ⟨i_9, mo_9, sq_9, ba_9, po_9, un_9, su_9, iv_9, kmo_9, ksq_9, kba_9, kpo_9, kun_9, ksu_9, hg_9⟩ := ty_10 hTy kh
        refine va_get (v := .ref ba_9) hx hb htb i_Rsa hown hK hP i_9 hg_9 rfl 2 (by decide) (htb _ q1_87) (fun _ h9 => h9) rfl d_Rsa_verifies_59 ?_
        have hFc := va_free (wc := G_7) hD hS hA (List.range G_7.length) (rg_is _)
        refine va_callv (mu_runV (As := [.ref sg_8, .ref ba_9]) (rest := []) ⟨hx, hb, hml, hown, hts⟩ tbin (m_Rsa_load l dC dI sb γ κ Ad ν ω L38 G_7 h sg_8 ba_9 _ H50.size hTy kh ksg_8 kba_9 ) q5_185 q5_187 qp_21 q1_6 q5_188 (n := 2) (by decide +kernel) rfl ⟨rfl, rfl⟩ ⟨Nat.le_of_ble_eq_true rfl, Nat.le_of_ble_eq_true rfl⟩ ⟨Nat.le_of_ble_eq_true rfl, Nat.le_of_ble_eq_true rfl⟩ hN (hT0.keep hS hAs) hAs (Nat.le_trans hB0 hS.1) hK hP hD (List.range G_7.length) (rg_nd _) (rg_is _) [0, 1, 2, 3] rfl i_9 7 hg_9 rfl rfl hl.1 rfl (Nat.le_of_ble_eq_true rfl) d_Rsa_verifies_62) hS (fun q _ h => hFc q h) hFc (fun G_10 tS H62 locs ht hvm hw62 hB hz1 hk1 hS => ?_)
        obtain ⟨hTy, hF9, hr62⟩ := hw62
        have hFR := hFR.tr hF9
        obtain ⟨hP1, hK1, hD1⟩ := hB
        rw [ht] at hP1
        have hP : va_P (dC, dI) classes G_10 H62 := hP1
        have hD : va_D A G_10 := hD1.weaken (fun _ _ _ h => hFc _ h)
        refine lv_aload_n hx hb d_Rsa_verifies_65 rfl (lv_at hl 1 rfl) ?_
        refine lv_aload_n hx hb d_Rsa_verifies_66 rfl (lv_at hl 1 rfl) ?_
        obtain ⟨i_11, mo_11, sq_11, ba_11, po_11, un_11, su_11, iv_11, kmo_11, ksq_11, kba_11, kpo_11, kun_11, ksu_11, hg_11⟩ := ty_10 hTy kh
        refine va_get (v := .ref ba_11) hx hb htb i_Rsa hown hK hP i_11 hg_11 rfl 2 (by decide) (htb _ q1_87) (fun _ h9 => h9) rfl d_Rsa_verifies_67 ?_
        have hFc := va_free (wc := G_10) hD hS hA (List.range G_10.length) (rg_is _)
        refine va_calli (mu_runV (As := [.ref ba_11]) (rest := []) ⟨hx, hb, hml, hown, hts⟩ tbin (m_Rsa_isBelowModulus l dC dI sb γ κ Ad ν ω L38 G_10 h ba_11  H62.size hTy kh kba_11 hL38 hM38) q5_193 q5_195 qp_22 q1_6 q5_196 (n := 1) (by decide +kernel) rfl ⟨rfl, rfl⟩ ⟨Nat.le_of_ble_eq_true rfl, Nat.le_of_ble_eq_true rfl⟩ ⟨Nat.le_of_ble_eq_true rfl, Nat.le_of_ble_eq_true rfl⟩ hN (hT0.keep hS hAs) hAs (Nat.le_trans hB0 hS.1) hK hP hD (List.range G_10.length) (rg_nd _) (rg_is _) [0, 1, 2, 3] rfl i_11 7 hg_11 rfl rfl hl.1 rfl (Nat.le_of_ble_eq_true rfl) d_Rsa_verifies_70) hS (fun q _ h => hFc q h) hFc (fun r70 G_12 tS H70 locs ht hvm hw70 hB hz1 hk1 hS => ?_)
        obtain ⟨hTy, hF9, hr70⟩ := hw70
        have hFR := hFR.tr hF9
        obtain ⟨hP1, hK1, hD1⟩ := hB
        rw [ht] at hP1
        have hP : va_P (dC, dI) classes G_12 H70 := hP1
        have hD : va_D A G_12 := hD1.weaken (fun _ _ _ h => hFc _ h)
        refine lv_if_ne (tgt := 78) hx hb d_Rsa_verifies_73 (by decide) (fun c73 => ?_) (fun c73 => ?_)
        · have p73 : ¬ (r70 = (0 : Int32)) := c73
          refine lv_aload_n hx hb d_Rsa_verifies_78 rfl (lv_at hl 1 rfl) ?_
          refine lv_aload_n hx hb d_Rsa_verifies_79 rfl (lv_at hl 3 rfl) ?_
          obtain ⟨i_13, nm_13, pe_13, ec_13, se_13, su_13, mo_13, ok_13, ik_13, ha_13, si_13, en_13, bo_13, sg_13, is_13, iu_13, K_13, B_13, hg_13⟩ := ty_8 hTy kc9
          obtain ⟨⟨A_13, knm_13⟩, ⟨B1_13, B2_13, kpe_13⟩, ⟨C1_13, C2_13, kec_13⟩, kse_13, ⟨z1_13, ksu_13⟩, ⟨z2_13, kmo_13⟩, ⟨z3_13, kok_13⟩, ⟨z4_13, kik_13⟩, kha_13, ksi_13, ken_13, ⟨z5_13, kbo_13⟩, ⟨z6_13, ksg_13⟩, ⟨z7_13, kis_13⟩⟩ := K_13
          refine va_get (v := .int ((ν c9).2.1)) hx hb htb i_Certificate hown hK hP i_13 hg_13 rfl 9 (by decide) (htb _ q2_164) (fun _ h9 => h9) rfl d_Rsa_verifies_80 ?_
          have hFc := va_free (wc := G_12) hD hS hA (List.range G_12.length) (rg_is _)
          obtain ⟨i_15, mo_15, sq_15, ba_15, po_15, un_15, su_15, iv_15, kmo_15, ksq_15, kba_15, kpo_15, kun_15, ksu_15, hg_15⟩ := ty_10 hTy kh
          refine va_callv (mu_runV (As := [.int ((ν c9).2.1)]) (rest := []) ⟨hx, hb, hml, hown, hts⟩ tbin (m_Rsa_prepare l dC dI sb γ κ Ad ν ω L38 G_12 h _ H70.size hTy kh hL38 hM38) q5_197 q5_199 qp_23 q1_6 q5_200 (n := 1) (by decide +kernel) rfl ⟨rfl, rfl⟩ ⟨Nat.le_of_ble_eq_true rfl, Nat.le_of_ble_eq_true rfl⟩ ⟨Nat.le_of_ble_eq_true rfl, Nat.le_of_ble_eq_true rfl⟩ hN (hT0.keep hS hAs) hAs (Nat.le_trans hB0 hS.1) hK hP hD (List.range G_12.length) (rg_nd _) (rg_is _) [0, 1, 2, 3] rfl i_15 7 hg_15 rfl rfl hl.1 rfl (Nat.le_of_ble_eq_true rfl) d_Rsa_verifies_83) hS (fun q _ h => hFc q h) hFc (fun G_14 tS H83 locs ht hvm hw83 hB hz1 hk1 hS => ?_)
          obtain ⟨hTy, hF9, hr83⟩ := hw83
          have hFR := hFR.tr hF9
          obtain ⟨hP1, hK1, hD1⟩ := hB
          rw [ht] at hP1
          have hP : va_P (dC, dI) classes G_14 H83 := hP1
          have hD : va_D A G_14 := hD1.weaken (fun _ _ _ h => hFc _ h)
          refine lv_iconst (v := 0) hx hb d_Rsa_verifies_86 (by decide) ?_
          refine lv_istore (lv' := [(4, .int 0), (3, .int (nI z2_1)), (0, .ref h), (1, .ref g), (2, .ref c9)]) hx hb d_Rsa_verifies_87 hl (by decide) rfl (fun ls hl => ?_)
          refine w_loopW (α := Nat × va_W) (fun a9 => a9.1 ≤ 5 ∧ TY γ κ Ad ν ω L38 a9.2 ∧ FR Ad G a9.2) (fun a9 => 5 - a9.1) (fun a9 => [(4, .int (nI a9.1)), (3, .int (nI z2_1)), (0, .ref h), (1, .ref g), (2, .ref c9)]) (fun _ => []) (fun a9 => a9.2) 6 89 (fun a9 HL89 locs ls hJ hP hD hS hl ih89 => ?_) (0, G_14) _ _ ls ⟨by omega, hTy, hFR⟩ hP hD hS (lv_sub hl [0, 1, 2, 3, 4] rfl)
          obtain ⟨z89, G89⟩ := a9
          obtain ⟨hz89, hTy, hFR⟩ := hJ
          dsimp only at hz89 hTy hFR hP hD hl ih89
          refine lv_iload hx hb d_Rsa_verifies_89 (lv_at hl 0 rfl) ?_
          refine lv_iconst (v := 5) hx hb d_Rsa_verifies_91 (by decide) ?_
          refine lv_icmp_ge (tgt := 117) hx hb d_Rsa_verifies_92 (by decide) (fun c92 => ?_) (fun c92 => ?_)
          · have p92 : 5 ≤ z89 := ((nI_leI (a := 5) (b := z89) (by omega) (by omega)).mp c92)
            refine lv_aload_n hx hb d_Rsa_verifies_117 rfl (lv_at hl 2 rfl) ?_
            refine lv_aload_n hx hb d_Rsa_verifies_118 rfl (lv_at hl 2 rfl) ?_
            obtain ⟨i_16, mo_16, sq_16, ba_16, po_16, un_16, su_16, iv_16, kmo_16, ksq_16, kba_16, kpo_16, kun_16, ksu_16, hg_16⟩ := ty_10 hTy kh
            refine va_get (v := .ref ba_16) hx hb htb i_Rsa hown hK hP i_16 hg_16 rfl 2 (by decide) (htb _ q1_87) (fun _ h9 => h9) rfl d_Rsa_verifies_119 ?_
            refine lv_aload_n hx hb d_Rsa_verifies_122 rfl (lv_at hl 2 rfl) ?_
            refine va_get (v := .ref sq_16) hx hb htb i_Rsa hown hK hP i_16 hg_16 rfl 1 (by decide) (htb _ q1_86) (fun _ h9 => h9) rfl d_Rsa_verifies_123 ?_
            refine lv_aload_n hx hb d_Rsa_verifies_126 rfl (lv_at hl 2 rfl) ?_
            refine va_get (v := .ref ba_16) hx hb htb i_Rsa hown hK hP i_16 hg_16 rfl 2 (by decide) (htb _ q1_87) (fun _ h9 => h9) rfl d_Rsa_verifies_127 ?_
            have hFc := va_free (wc := G89) hD hS hA (List.range G89.length) (rg_is _)
            refine va_callv (mu_runV (As := [.ref ba_16, .ref sq_16, .ref ba_16]) (rest := []) ⟨hx, hb, hml, hown, hts⟩ tbin (m_Rsa_multiply l dC dI sb γ κ Ad ν ω L38 G89 h ba_16 sq_16 ba_16  HL89.size hTy kh kba_16 ksq_16 kba_16 hL38 hM38) q5_209 q5_211 qp_25 q1_6 q5_212 (n := 3) (by decide +kernel) rfl ⟨rfl, rfl⟩ ⟨Nat.le_of_ble_eq_true rfl, Nat.le_of_ble_eq_true rfl⟩ ⟨Nat.le_of_ble_eq_true rfl, Nat.le_of_ble_eq_true rfl⟩ hN (hT0.keep hS hAs) hAs (Nat.le_trans hB0 hS.1) hK hP hD (List.range G89.length) (rg_nd _) (rg_is _) [0, 1, 2, 3] rfl i_16 7 hg_16 rfl rfl hl.1 rfl (Nat.le_of_ble_eq_true rfl) d_Rsa_verifies_130) hS (fun q _ h => hFc q h) hFc (fun G_17 tS H130 locs ht hvm hw130 hB hz1 hk1 hS => ?_)
            obtain ⟨hTy, hF9, hr130⟩ := hw130
            have hFR := hFR.tr hF9
            obtain ⟨hP1, hK1, hD1⟩ := hB
            rw [ht] at hP1
            have hP : va_P (dC, dI) classes G_17 H130 := hP1
            have hD : va_D A G_17 := hD1.weaken (fun _ _ _ h => hFc _ h)
            refine lv_iconst (v := 0) hx hb d_Rsa_verifies_133 (by decide) ?_
            refine lv_istore (lv' := [(4, .int 0), (3, .int (nI z2_1)), (0, .ref h), (1, .ref g), (2, .ref c9)]) hx hb d_Rsa_verifies_134 hl (by decide) rfl (fun ls hl => ?_)
            refine lv_bipush (v := 30) hx hb d_Rsa_verifies_136 (by decide) ?_
            refine lv_istore (lv' := [(5, .int 30), (4, .int 0), (3, .int (nI z2_1)), (0, .ref h), (1, .ref g), (2, .ref c9)]) hx hb d_Rsa_verifies_138 hl (by decide) rfl (fun ls hl => ?_)
            have hl : lv_has ls 6 [(5, .int (jD 31)), (4, .int 0), (3, .int (nI z2_1)), (0, .ref h), (1, .ref g), (2, .ref c9)] := hl
            refine w_loopW (α := Nat × Int32 × va_W) (fun a9 => a9.1 ≤ 31 ∧ TY γ κ Ad ν ω L38 a9.2.2 ∧ FR Ad G a9.2.2) (fun a9 => a9.1) (fun a9 => [(5, .int (jD a9.1)), (4, .int a9.2.1), (3, .int (nI z2_1)), (0, .ref h), (1, .ref g), (2, .ref c9)]) (fun _ => []) (fun a9 => a9.2.2) 6 140 (fun a9 HL140 locs ls hJ hP hD hS hl ih140 => ?_) (31, (0 : Int32), G_17) _ _ ls ⟨by omega, hTy, hFR⟩ hP hD hS (lv_sub hl [0, 1, 2, 3, 4, 5] rfl)
            obtain ⟨z140, x140_4, G140⟩ := a9
            obtain ⟨hz140, hTy, hFR⟩ := hJ
            dsimp only at hz140 hTy hFR hP hD hl ih140
            obtain _ | z140 := z140
            · have hl : lv_has ls 6 [(5, .int (-1)), (4, .int x140_4), (3, .int (nI z2_1)), (0, .ref h), (1, .ref g), (2, .ref c9)] := hl
              refine lv_iload hx hb d_Rsa_verifies_140 (lv_at hl 0 rfl) ?_
              refine lv_if_lt (tgt := 229) hx hb d_Rsa_verifies_142 (by decide) (fun c142 => ?_) (fun c142 => ?_)
              rotate_left
              · exact absurd c142 (by decide)
              refine lv_aload_n hx hb d_Rsa_verifies_229 rfl (lv_at hl 3 rfl) ?_
              refine lv_aload_n hx hb d_Rsa_verifies_230 rfl (lv_at hl 3 rfl) ?_
              obtain ⟨i_18, mo_18, sq_18, ba_18, po_18, un_18, su_18, iv_18, kmo_18, ksq_18, kba_18, kpo_18, kun_18, ksu_18, hg_18⟩ := ty_10 hTy kh
              refine va_get (v := .ref po_18) hx hb htb i_Rsa hown hK hP i_18 hg_18 rfl 3 (by decide) (htb _ q1_88) (fun _ h9 => h9) rfl d_Rsa_verifies_231 ?_
              refine lv_aload_n hx hb d_Rsa_verifies_234 rfl (lv_at hl 3 rfl) ?_
              refine va_get (v := .ref un_18) hx hb htb i_Rsa hown hK hP i_18 hg_18 rfl 4 (by decide) (htb _ q1_89) (fun _ h9 => h9) rfl d_Rsa_verifies_235 ?_
              refine lv_aload_n hx hb d_Rsa_verifies_238 rfl (lv_at hl 3 rfl) ?_
              refine va_get (v := .ref po_18) hx hb htb i_Rsa hown hK hP i_18 hg_18 rfl 3 (by decide) (htb _ q1_88) (fun _ h9 => h9) rfl d_Rsa_verifies_239 ?_
              have hFc := va_free (wc := G140) hD hS hA (List.range G140.length) (rg_is _)
              refine va_callv (mu_runV (As := [.ref po_18, .ref un_18, .ref po_18]) (rest := []) ⟨hx, hb, hml, hown, hts⟩ tbin (m_Rsa_multiply l dC dI sb γ κ Ad ν ω L38 G140 h po_18 un_18 po_18  HL140.size hTy kh kpo_18 kun_18 kpo_18 hL38 hM38) q5_209 q5_211 qp_25 q1_6 q5_212 (n := 3) (by decide +kernel) rfl ⟨rfl, rfl⟩ ⟨Nat.le_of_ble_eq_true rfl, Nat.le_of_ble_eq_true rfl⟩ ⟨Nat.le_of_ble_eq_true rfl, Nat.le_of_ble_eq_true rfl⟩ hN (hT0.keep hS hAs) hAs (Nat.le_trans hB0 hS.1) hK hP hD (List.range G140.length) (rg_nd _) (rg_is _) [0, 1, 2, 3] rfl i_18 7 hg_18 rfl rfl hl.1 rfl (Nat.le_of_ble_eq_true rfl) d_Rsa_verifies_242) hS (fun q _ h => hFc q h) hFc (fun G_19 tS H242 locs ht hvm hw242 hB hz1 hk1 hS => ?_)
              obtain ⟨hTy, hF9, hr242⟩ := hw242
              have hFR := hFR.tr hF9
              obtain ⟨hP1, hK1, hD1⟩ := hB
              rw [ht] at hP1
              have hP : va_P (dC, dI) classes G_19 H242 := hP1
              have hD : va_D A G_19 := hD1.weaken (fun _ _ _ h => hFc _ h)
              refine lv_aload_n hx hb d_Rsa_verifies_245 rfl (lv_at hl 3 rfl) ?_
              refine lv_aload_n hx hb d_Rsa_verifies_246 rfl (lv_at hl 4 rfl) ?_
              obtain ⟨i_20, ha_20, si_20, en_20, bo_20, sg_20, is_20, kha_20, ksi_20, ken_20, ⟨z5_20, kbo_20⟩, ⟨z6_20, ksg_20⟩, ⟨z7_20, kis_20⟩, hg_20⟩ := ty_9 hTy kg
              refine va_get (v := .ref ha_20) hx hb htb i_Paper hown hK hP i_20 hg_20 rfl 0 (by decide) (htb _ q2_195) (fun _ h9 => h9) rfl d_Rsa_verifies_247 ?_
              refine lv_iload_n hx hb d_Rsa_verifies_250 rfl (lv_at hl 2 rfl) ?_
              obtain ⟨i_21, mo_21, sq_21, ba_21, po_21, un_21, su_21, iv_21, kmo_21, ksq_21, kba_21, kpo_21, kun_21, ksu_21, hg_21⟩ := ty_10 hTy kh
              refine vp_callSi (pu_callV (As := [.ref ha_20, .int (nI z2_1)]) (rest := []) ⟨hx, hb, hml, hown, hts⟩ tbin (p_Rsa_hasForm l dC dI sb γ κ Ad ν ω L38 G_19 h ha_20 _ hTy kh kha_20 (by omega)) q5_214 q5_216 qp_26 q1_6 q5_217 (n := 2) (by decide +kernel) rfl ⟨rfl, rfl⟩ ⟨Nat.le_of_ble_eq_true rfl, Nat.le_of_ble_eq_true rfl⟩ ⟨Nat.le_of_ble_eq_true rfl, Nat.le_of_ble_eq_true rfl⟩ hN (hT0.keep hS hAs) hK hP (List.range G_19.length) (rg_all G_19) [0, 1, 2, 3] rfl i_21 7 hg_21 rfl rfl hl.1 rfl (Nat.le_of_ble_eq_true rfl) d_Rsa_verifies_251) (fun r251 hr251 => ?_)
              exact W.zret (v := r251) hx hb hr (bz_n hr251) (fun t ht hW => ⟨⟨_, G_19, rfl, ⟨⟨_, hL38, hTy⟩, hFR, hr251⟩, by rw [ht]; exact hP, va_K.moved hW.alike hK, hD⟩, hS.F ht⟩) hS.2.2 d_Rsa_verifies_254
            · have hl : lv_has ls 6 [(5, .int (nI z140)), (4, .int x140_4), (3, .int (nI z2_1)), (0, .ref h), (1, .ref g), (2, .ref c9)] := hl
              refine lv_iload hx hb d_Rsa_verifies_140 (lv_at hl 0 rfl) ?_
              refine lv_if_lt (tgt := 229) hx hb d_Rsa_verifies_142 (by decide) (fun c142 => ?_) (fun c142 => ?_)
              · have p142 : z140 < 0 := ((nI_ltI (a := z140) (b := 0) (by omega) (by omega)).mp c142)
                refine lv_aload_n hx hb d_Rsa_verifies_229 rfl (lv_at hl 3 rfl) ?_
                refine lv_aload_n hx hb d_Rsa_verifies_230 rfl (lv_at hl 3 rfl) ?_
                obtain ⟨i_22, mo_22, sq_22, ba_22, po_22, un_22, su_22, iv_22, kmo_22, ksq_22, kba_22, kpo_22, kun_22, ksu_22, hg_22⟩ := ty_10 hTy kh
                refine va_get (v := .ref po_22) hx hb htb i_Rsa hown hK hP i_22 hg_22 rfl 3 (by decide) (htb _ q1_88) (fun _ h9 => h9) rfl d_Rsa_verifies_231 ?_
                refine lv_aload_n hx hb d_Rsa_verifies_234 rfl (lv_at hl 3 rfl) ?_
                refine va_get (v := .ref un_22) hx hb htb i_Rsa hown hK hP i_22 hg_22 rfl 4 (by decide) (htb _ q1_89) (fun _ h9 => h9) rfl d_Rsa_verifies_235 ?_
                refine lv_aload_n hx hb d_Rsa_verifies_238 rfl (lv_at hl 3 rfl) ?_
                refine va_get (v := .ref po_22) hx hb htb i_Rsa hown hK hP i_22 hg_22 rfl 3 (by decide) (htb _ q1_88) (fun _ h9 => h9) rfl d_Rsa_verifies_239 ?_
                have hFc := va_free (wc := G140) hD hS hA (List.range G140.length) (rg_is _)
                refine va_callv (mu_runV (As := [.ref po_22, .ref un_22, .ref po_22]) (rest := []) ⟨hx, hb, hml, hown, hts⟩ tbin (m_Rsa_multiply l dC dI sb γ κ Ad ν ω L38 G140 h po_22 un_22 po_22  HL140.size hTy kh kpo_22 kun_22 kpo_22 hL38 hM38) q5_209 q5_211 qp_25 q1_6 q5_212 (n := 3) (by decide +kernel) rfl ⟨rfl, rfl⟩ ⟨Nat.le_of_ble_eq_true rfl, Nat.le_of_ble_eq_true rfl⟩ ⟨Nat.le_of_ble_eq_true rfl, Nat.le_of_ble_eq_true rfl⟩ hN (hT0.keep hS hAs) hAs (Nat.le_trans hB0 hS.1) hK hP hD (List.range G140.length) (rg_nd _) (rg_is _) [0, 1, 2, 3] rfl i_22 7 hg_22 rfl rfl hl.1 rfl (Nat.le_of_ble_eq_true rfl) d_Rsa_verifies_242) hS (fun q _ h => hFc q h) hFc (fun G_23 tS H242 locs ht hvm hw242 hB hz1 hk1 hS => ?_)
                obtain ⟨hTy, hF9, hr242⟩ := hw242
                have hFR := hFR.tr hF9
                obtain ⟨hP1, hK1, hD1⟩ := hB
                rw [ht] at hP1
                have hP : va_P (dC, dI) classes G_23 H242 := hP1
                have hD : va_D A G_23 := hD1.weaken (fun _ _ _ h => hFc _ h)
                refine lv_aload_n hx hb d_Rsa_verifies_245 rfl (lv_at hl 3 rfl) ?_
                refine lv_aload_n hx hb d_Rsa_verifies_246 rfl (lv_at hl 4 rfl) ?_
                obtain ⟨i_24, ha_24, si_24, en_24, bo_24, sg_24, is_24, kha_24, ksi_24, ken_24, ⟨z5_24, kbo_24⟩, ⟨z6_24, ksg_24⟩, ⟨z7_24, kis_24⟩, hg_24⟩ := ty_9 hTy kg
                refine va_get (v := .ref ha_24) hx hb htb i_Paper hown hK hP i_24 hg_24 rfl 0 (by decide) (htb _ q2_195) (fun _ h9 => h9) rfl d_Rsa_verifies_247 ?_
                refine lv_iload_n hx hb d_Rsa_verifies_250 rfl (lv_at hl 2 rfl) ?_
                obtain ⟨i_25, mo_25, sq_25, ba_25, po_25, un_25, su_25, iv_25, kmo_25, ksq_25, kba_25, kpo_25, kun_25, ksu_25, hg_25⟩ := ty_10 hTy kh
                refine vp_callSi (pu_callV (As := [.ref ha_24, .int (nI z2_1)]) (rest := []) ⟨hx, hb, hml, hown, hts⟩ tbin (p_Rsa_hasForm l dC dI sb γ κ Ad ν ω L38 G_23 h ha_24 _ hTy kh kha_24 (by omega)) q5_214 q5_216 qp_26 q1_6 q5_217 (n := 2) (by decide +kernel) rfl ⟨rfl, rfl⟩ ⟨Nat.le_of_ble_eq_true rfl, Nat.le_of_ble_eq_true rfl⟩ ⟨Nat.le_of_ble_eq_true rfl, Nat.le_of_ble_eq_true rfl⟩ hN (hT0.keep hS hAs) hK hP (List.range G_23.length) (rg_all G_23) [0, 1, 2, 3] rfl i_25 7 hg_25 rfl rfl hl.1 rfl (Nat.le_of_ble_eq_true rfl) d_Rsa_verifies_251) (fun r251 hr251 => ?_)
                exact W.zret (v := r251) hx hb hr (bz_n hr251) (fun t ht hW => ⟨⟨_, G_23, rfl, ⟨⟨_, hL38, hTy⟩, hFR, hr251⟩, by rw [ht]; exact hP, va_K.moved hW.alike hK, hD⟩, hS.F ht⟩) hS.2.2 d_Rsa_verifies_254
              · have p142 : ¬ (z140 < 0) := (fun q9 => c142 ((nI_ltI (a := z140) (b := 0) (by omega) (by omega)).mpr q9))
                refine lv_iload hx hb d_Rsa_verifies_145 (lv_at hl 1 rfl) ?_
                refine lv_if_eq (tgt := 166) hx hb d_Rsa_verifies_147 (by decide) (fun c147 => ?_) (fun c147 => ?_)
                · have p147 : x140_4 = (0 : Int32) := c147
                  refine lv_aload_n hx hb d_Rsa_verifies_166 rfl (lv_at hl 5 rfl) ?_
                  obtain ⟨i_26, nm_26, pe_26, ec_26, se_26, su_26, mo_26, ok_26, ik_26, ha_26, si_26, en_26, bo_26, sg_26, is_26, iu_26, K_26, B_26, hg_26⟩ := ty_8 hTy kc9
                  obtain ⟨⟨A_26, knm_26⟩, ⟨B1_26, B2_26, kpe_26⟩, ⟨C1_26, C2_26, kec_26⟩, kse_26, ⟨z1_26, ksu_26⟩, ⟨z2_26, kmo_26⟩, ⟨z3_26, kok_26⟩, ⟨z4_26, kik_26⟩, kha_26, ksi_26, ken_26, ⟨z5_26, kbo_26⟩, ⟨z6_26, ksg_26⟩, ⟨z7_26, kis_26⟩⟩ := K_26
                  refine va_get (v := .int ((ν c9).2.2.1)) hx hb htb i_Certificate hown hK hP i_26 hg_26 rfl 10 (by decide) (htb _ q2_167) (fun _ h9 => h9) rfl d_Rsa_verifies_167 ?_
                  refine lv_iload hx hb d_Rsa_verifies_170 (lv_at hl 0 rfl) ?_
                  refine lv_ishr hx hb d_Rsa_verifies_172 ?_
                  refine lv_iconst (v := 1) hx hb d_Rsa_verifies_173 (by decide) ?_
                  refine lv_iand hx hb d_Rsa_verifies_174 ?_
                  refine lv_iconst (v := 1) hx hb d_Rsa_verifies_175 (by decide) ?_
                  refine lv_icmp_ne (tgt := 223) hx hb d_Rsa_verifies_176 (by decide) (fun c176 => ?_) (fun c176 => ?_)
                  · have p176 : ¬ (((((ν c9).2.2.1) >>> ((nI z140) &&& 31)) &&& 1) = (1 : Int32)) := c176
                    refine lv_iinc (v := jD z140) (lv' := [(5, .int (jD z140)), (4, .int x140_4), (3, .int (nI z2_1)), (0, .ref h), (1, .ref g), (2, .ref c9)]) hx hb d_Rsa_verifies_223 hl (k := 0) rfl (jD_dec _) (by decide) rfl (fun ls hl => ?_)
                    refine lv_goto (tgt := 140) hx hb d_Rsa_verifies_226 (by decide) ?_
                    exact ih140 (z140, x140_4, G140) _ _ ls (by dsimp only; omega) ⟨by dsimp only; omega, hTy, hFR⟩ hP hD hS (lv_sub hl [0, 1, 2, 3, 4, 5] rfl)
                  · have p176 : ((((ν c9).2.2.1) >>> ((nI z140) &&& 31)) &&& 1) = (1 : Int32) := c176
                    refine lv_iload hx hb d_Rsa_verifies_179 (lv_at hl 1 rfl) ?_
                    refine lv_if_eq (tgt := 203) hx hb d_Rsa_verifies_181 (by decide) (fun c181 => ?_) (fun c181 => ?_)
                    · have p181 : x140_4 = (0 : Int32) := c181
                      refine lv_aload_n hx hb d_Rsa_verifies_203 rfl (lv_at hl 3 rfl) ?_
                      obtain ⟨i_27, mo_27, sq_27, ba_27, po_27, un_27, su_27, iv_27, kmo_27, ksq_27, kba_27, kpo_27, kun_27, ksu_27, hg_27⟩ := ty_10 hTy kh
                      refine va_get (v := .ref ba_27) hx hb htb i_Rsa hown hK hP i_27 hg_27 rfl 2 (by decide) (htb _ q1_87) (fun _ h9 => h9) rfl d_Rsa_verifies_204 ?_
                      refine lv_iconst (v := 0) hx hb d_Rsa_verifies_207 (by decide) ?_
                      refine lv_aload_n hx hb d_Rsa_verifies_208 rfl (lv_at hl 3 rfl) ?_
                      refine va_get (v := .ref po_27) hx hb htb i_Rsa hown hK hP i_27 hg_27 rfl 3 (by decide) (htb _ q1_88) (fun _ h9 => h9) rfl d_Rsa_verifies_209 ?_
                      refine lv_iconst (v := 0) hx hb d_Rsa_verifies_212 (by decide) ?_
                      refine lv_aload_n hx hb d_Rsa_verifies_213 rfl (lv_at hl 3 rfl) ?_
                      refine va_get (v := .int (nI L38)) hx hb htb i_Rsa hown hK hP i_27 hg_27 rfl 6 (by decide) (htb _ q1_91) (fun _ h9 => h9) rfl d_Rsa_verifies_214 ?_
                      obtain ⟨i_28, f_28, hn_28, hg_28⟩ := ty_7 hTy kba_27
                      obtain ⟨i_29, f_29, hn_29, hg_29⟩ := ty_7 hTy kpo_27
                      refine va_copyl (sp := 0) (dp := 0) (n := nI L38) hx hb (by rw [hml]; exact hl.1.symm) hown (htb _ q5_213) (htb _ q2_79) (htb _ q2_78) (htb _ q1_19) hK hP hD hS i_28 i_29 2 2 hg_28 hg_29 rfl rfl rfl (by decide) (by decide) (nI_pos (by omega)) (by rw [show (0 : Int32).toNatClampNeg = 0 from by decide, nI_clamp (by omega)]; omega) (by rw [show (0 : Int32).toNatClampNeg = 0 from by decide, nI_clamp (by omega)]; omega) (fun i hi => rfl) (Nat.le_of_ble_eq_true rfl) (Nat.le_of_ble_eq_true rfl) d_Rsa_verifies_217 (fun H217 locs hP hD2 hS => ?_)
                      have hP : va_P (dC, dI) classes (G140.set i_29 (po_27, .inl (γ.2.2.1, 64, .inr (.inl (va_cpy f_28 f_29 (0 : Int32).toNatClampNeg (0 : Int32).toNatClampNeg (nI L38).toNatClampNeg))))) H217 := hP
                      have hD3 : va_D A (G140.set i_29 (po_27, .inl (γ.2.2.1, 64, .inr (.inl (va_cpy f_28 f_29 (0 : Int32).toNatClampNeg (0 : Int32).toNatClampNeg (nI L38).toNatClampNeg))))) := hD2
                      have hFR := hFR.tr (FR.set (c' := .inl (γ.2.2.1, 64, .inr (.inl (va_cpy f_28 f_29 (0 : Int32).toNatClampNeg (0 : Int32).toNatClampNeg (nI L38).toNatClampNeg)))) hg_29 kpo_27.1)
                      have hTy := TY.set (c' := .inl (γ.2.2.1, 64, .inr (.inl (va_cpy f_28 f_29 (0 : Int32).toNatClampNeg (0 : Int32).toNatClampNeg (nI L38).toNatClampNeg)))) hTy hg_29 (ok_7 kpo_27 hn_29 _)
                      have hD := hD3
                      have hg_26 := set_keep (c' := .inl (γ.2.2.1, 64, .inr (.inl (va_cpy f_28 f_29 (0 : Int32).toNatClampNeg (0 : Int32).toNatClampNeg (nI L38).toNatClampNeg)))) hg_29 hg_26 (tK.ne kpo_27 kc9 (show (7 : Nat) ≠ 8 by decide))
                      have hg_27 := set_keep (c' := .inl (γ.2.2.1, 64, .inr (.inl (va_cpy f_28 f_29 (0 : Int32).toNatClampNeg (0 : Int32).toNatClampNeg (nI L38).toNatClampNeg)))) hg_29 hg_27 (tK.ne kpo_27 kh (show (7 : Nat) ≠ 10 by decide))
                      clear hD3 hD2
                      generalize G140.set i_29 (po_27, .inl (γ.2.2.1, 64, .inr (.inl (va_cpy f_28 f_29 (0 : Int32).toNatClampNeg (0 : Int32).toNatClampNeg (nI L38).toNatClampNeg)))) = G_30 at hP hD hTy hFR hg_26 hg_27
                      refine lv_iconst (v := 1) hx hb d_Rsa_verifies_220 (by decide) ?_
                      refine lv_istore (lv' := [(4, .int 1), (5, .int (nI z140)), (3, .int (nI z2_1)), (0, .ref h), (1, .ref g), (2, .ref c9)]) hx hb d_Rsa_verifies_221 hl (by decide) rfl (fun ls hl => ?_)
                      refine lv_iinc (v := jD z140) (lv' := [(5, .int (jD z140)), (4, .int 1), (3, .int (nI z2_1)), (0, .ref h), (1, .ref g), (2, .ref c9)]) hx hb d_Rsa_verifies_223 hl (k := 1) rfl (jD_dec _) (by decide) rfl (fun ls hl => ?_)
                      refine lv_goto (tgt := 140) hx hb d_Rsa_verifies_226 (by decide) ?_
                      exact ih140 (z140, (1 : Int32), G_30) _ _ ls (by dsimp only; omega) ⟨by dsimp only; omega, hTy, hFR⟩ hP hD hS (lv_sub hl [0, 1, 2, 3, 4, 5] rfl)
                    · have p181 : ¬ (x140_4 = (0 : Int32)) := c181
                      refine lv_aload_n hx hb d_Rsa_verifies_184 rfl (lv_at hl 3 rfl) ?_
                      refine lv_aload_n hx hb d_Rsa_verifies_185 rfl (lv_at hl 3 rfl) ?_
                      obtain ⟨i_31, mo_31, sq_31, ba_31, po_31, un_31, su_31, iv_31, kmo_31, ksq_31, kba_31, kpo_31, kun_31, ksu_31, hg_31⟩ := ty_10 hTy kh
                      refine va_get (v := .ref po_31) hx hb htb i_Rsa hown hK hP i_31 hg_31 rfl 3 (by decide) (htb _ q1_88) (fun _ h9 => h9) rfl d_Rsa_verifies_186 ?_
                      refine lv_aload_n hx hb d_Rsa_verifies_189 rfl (lv_at hl 3 rfl) ?_
                      refine va_get (v := .ref ba_31) hx hb htb i_Rsa hown hK hP i_31 hg_31 rfl 2 (by decide) (htb _ q1_87) (fun _ h9 => h9) rfl d_Rsa_verifies_190 ?_
                      refine lv_aload_n hx hb d_Rsa_verifies_193 rfl (lv_at hl 3 rfl) ?_
                      refine va_get (v := .ref po_31) hx hb htb i_Rsa hown hK hP i_31 hg_31 rfl 3 (by decide) (htb _ q1_88) (fun _ h9 => h9) rfl d_Rsa_verifies_194 ?_
                      have hFc := va_free (wc := G140) hD hS hA (List.range G140.length) (rg_is _)
                      refine va_callv (mu_runV (As := [.ref po_31, .ref ba_31, .ref po_31]) (rest := []) ⟨hx, hb, hml, hown, hts⟩ tbin (m_Rsa_multiply l dC dI sb γ κ Ad ν ω L38 G140 h po_31 ba_31 po_31  HL140.size hTy kh kpo_31 kba_31 kpo_31 hL38 hM38) q5_209 q5_211 qp_25 q1_6 q5_212 (n := 3) (by decide +kernel) rfl ⟨rfl, rfl⟩ ⟨Nat.le_of_ble_eq_true rfl, Nat.le_of_ble_eq_true rfl⟩ ⟨Nat.le_of_ble_eq_true rfl, Nat.le_of_ble_eq_true rfl⟩ hN (hT0.keep hS hAs) hAs (Nat.le_trans hB0 hS.1) hK hP hD (List.range G140.length) (rg_nd _) (rg_is _) [0, 1, 2, 3] rfl i_31 7 hg_31 rfl rfl hl.1 rfl (Nat.le_of_ble_eq_true rfl) d_Rsa_verifies_197) hS (fun q _ h => hFc q h) hFc (fun G_32 tS H197 locs ht hvm hw197 hB hz1 hk1 hS => ?_)
                      obtain ⟨hTy, hF9, hr197⟩ := hw197
                      have hFR := hFR.tr hF9
                      obtain ⟨hP1, hK1, hD1⟩ := hB
                      rw [ht] at hP1
                      have hP : va_P (dC, dI) classes G_32 H197 := hP1
                      have hD : va_D A G_32 := hD1.weaken (fun _ _ _ h => hFc _ h)
                      refine lv_goto (tgt := 220) hx hb d_Rsa_verifies_200 (by decide) ?_
                      refine lv_iconst (v := 1) hx hb d_Rsa_verifies_220 (by decide) ?_
                      refine lv_istore (lv' := [(4, .int 1), (5, .int (nI z140)), (3, .int (nI z2_1)), (0, .ref h), (1, .ref g), (2, .ref c9)]) hx hb d_Rsa_verifies_221 hl (by decide) rfl (fun ls hl => ?_)
                      refine lv_iinc (v := jD z140) (lv' := [(5, .int (jD z140)), (4, .int 1), (3, .int (nI z2_1)), (0, .ref h), (1, .ref g), (2, .ref c9)]) hx hb d_Rsa_verifies_223 hl (k := 1) rfl (jD_dec _) (by decide) rfl (fun ls hl => ?_)
                      refine lv_goto (tgt := 140) hx hb d_Rsa_verifies_226 (by decide) ?_
                      exact ih140 (z140, (1 : Int32), G_32) _ _ ls (by dsimp only; omega) ⟨by dsimp only; omega, hTy, hFR⟩ hP hD hS (lv_sub hl [0, 1, 2, 3, 4, 5] rfl)
                · have p147 : ¬ (x140_4 = (0 : Int32)) := c147
                  refine lv_aload_n hx hb d_Rsa_verifies_150 rfl (lv_at hl 3 rfl) ?_
                  refine lv_aload_n hx hb d_Rsa_verifies_151 rfl (lv_at hl 3 rfl) ?_
                  obtain ⟨i_33, mo_33, sq_33, ba_33, po_33, un_33, su_33, iv_33, kmo_33, ksq_33, kba_33, kpo_33, kun_33, ksu_33, hg_33⟩ := ty_10 hTy kh
                  refine va_get (v := .ref po_33) hx hb htb i_Rsa hown hK hP i_33 hg_33 rfl 3 (by decide) (htb _ q1_88) (fun _ h9 => h9) rfl d_Rsa_verifies_152 ?_
                  refine lv_aload_n hx hb d_Rsa_verifies_155 rfl (lv_at hl 3 rfl) ?_
                  refine va_get (v := .ref po_33) hx hb htb i_Rsa hown hK hP i_33 hg_33 rfl 3 (by decide) (htb _ q1_88) (fun _ h9 => h9) rfl d_Rsa_verifies_156 ?_
                  refine lv_aload_n hx hb d_Rsa_verifies_159 rfl (lv_at hl 3 rfl) ?_
                  refine va_get (v := .ref po_33) hx hb htb i_Rsa hown hK hP i_33 hg_33 rfl 3 (by decide) (htb _ q1_88) (fun _ h9 => h9) rfl d_Rsa_verifies_160 ?_
                  have hFc := va_free (wc := G140) hD hS hA (List.range G140.length) (rg_is _)
                  refine va_callv (mu_runV (As := [.ref po_33, .ref po_33, .ref po_33]) (rest := []) ⟨hx, hb, hml, hown, hts⟩ tbin (m_Rsa_multiply l dC dI sb γ κ Ad ν ω L38 G140 h po_33 po_33 po_33  HL140.size hTy kh kpo_33 kpo_33 kpo_33 hL38 hM38) q5_209 q5_211 qp_25 q1_6 q5_212 (n := 3) (by decide +kernel) rfl ⟨rfl, rfl⟩ ⟨Nat.le_of_ble_eq_true rfl, Nat.le_of_ble_eq_true rfl⟩ ⟨Nat.le_of_ble_eq_true rfl, Nat.le_of_ble_eq_true rfl⟩ hN (hT0.keep hS hAs) hAs (Nat.le_trans hB0 hS.1) hK hP hD (List.range G140.length) (rg_nd _) (rg_is _) [0, 1, 2, 3] rfl i_33 7 hg_33 rfl rfl hl.1 rfl (Nat.le_of_ble_eq_true rfl) d_Rsa_verifies_163) hS (fun q _ h => hFc q h) hFc (fun G_34 tS H163 locs ht hvm hw163 hB hz1 hk1 hS => ?_)
                  obtain ⟨hTy, hF9, hr163⟩ := hw163
                  have hFR := hFR.tr hF9
                  obtain ⟨hP1, hK1, hD1⟩ := hB
                  rw [ht] at hP1
                  have hP : va_P (dC, dI) classes G_34 H163 := hP1
                  have hD : va_D A G_34 := hD1.weaken (fun _ _ _ h => hFc _ h)
                  refine lv_aload_n hx hb d_Rsa_verifies_166 rfl (lv_at hl 5 rfl) ?_
                  obtain ⟨i_35, nm_35, pe_35, ec_35, se_35, su_35, mo_35, ok_35, ik_35, ha_35, si_35, en_35, bo_35, sg_35, is_35, iu_35, K_35, B_35, hg_35⟩ := ty_8 hTy kc9
                  obtain ⟨⟨A_35, knm_35⟩, ⟨B1_35, B2_35, kpe_35⟩, ⟨C1_35, C2_35, kec_35⟩, kse_35, ⟨z1_35, ksu_35⟩, ⟨z2_35, kmo_35⟩, ⟨z3_35, kok_35⟩, ⟨z4_35, kik_35⟩, kha_35, ksi_35, ken_35, ⟨z5_35, kbo_35⟩, ⟨z6_35, ksg_35⟩, ⟨z7_35, kis_35⟩⟩ := K_35
                  refine va_get (v := .int ((ν c9).2.2.1)) hx hb htb i_Certificate hown hK hP i_35 hg_35 rfl 10 (by decide) (htb _ q2_167) (fun _ h9 => h9) rfl d_Rsa_verifies_167 ?_
                  refine lv_iload hx hb d_Rsa_verifies_170 (lv_at hl 0 rfl) ?_
                  refine lv_ishr hx hb d_Rsa_verifies_172 ?_
                  refine lv_iconst (v := 1) hx hb d_Rsa_verifies_173 (by decide) ?_
                  refine lv_iand hx hb d_Rsa_verifies_174 ?_
                  refine lv_iconst (v := 1) hx hb d_Rsa_verifies_175 (by decide) ?_
                  refine lv_icmp_ne (tgt := 223) hx hb d_Rsa_verifies_176 (by decide) (fun c176 => ?_) (fun c176 => ?_)
                  · have p176 : ¬ (((((ν c9).2.2.1) >>> ((nI z140) &&& 31)) &&& 1) = (1 : Int32)) := c176
                    refine lv_iinc (v := jD z140) (lv' := [(5, .int (jD z140)), (4, .int x140_4), (3, .int (nI z2_1)), (0, .ref h), (1, .ref g), (2, .ref c9)]) hx hb d_Rsa_verifies_223 hl (k := 0) rfl (jD_dec _) (by decide) rfl (fun ls hl => ?_)
                    refine lv_goto (tgt := 140) hx hb d_Rsa_verifies_226 (by decide) ?_
                    exact ih140 (z140, x140_4, G_34) _ _ ls (by dsimp only; omega) ⟨by dsimp only; omega, hTy, hFR⟩ hP hD hS (lv_sub hl [0, 1, 2, 3, 4, 5] rfl)
                  · have p176 : ((((ν c9).2.2.1) >>> ((nI z140) &&& 31)) &&& 1) = (1 : Int32) := c176
                    refine lv_iload hx hb d_Rsa_verifies_179 (lv_at hl 1 rfl) ?_
                    refine lv_if_eq (tgt := 203) hx hb d_Rsa_verifies_181 (by decide) (fun c181 => ?_) (fun c181 => ?_)
                    · have p181 : x140_4 = (0 : Int32) := c181
                      refine lv_aload_n hx hb d_Rsa_verifies_203 rfl (lv_at hl 3 rfl) ?_
                      obtain ⟨i_36, mo_36, sq_36, ba_36, po_36, un_36, su_36, iv_36, kmo_36, ksq_36, kba_36, kpo_36, kun_36, ksu_36, hg_36⟩ := ty_10 hTy kh
                      refine va_get (v := .ref ba_36) hx hb htb i_Rsa hown hK hP i_36 hg_36 rfl 2 (by decide) (htb _ q1_87) (fun _ h9 => h9) rfl d_Rsa_verifies_204 ?_
                      refine lv_iconst (v := 0) hx hb d_Rsa_verifies_207 (by decide) ?_
                      refine lv_aload_n hx hb d_Rsa_verifies_208 rfl (lv_at hl 3 rfl) ?_
                      refine va_get (v := .ref po_36) hx hb htb i_Rsa hown hK hP i_36 hg_36 rfl 3 (by decide) (htb _ q1_88) (fun _ h9 => h9) rfl d_Rsa_verifies_209 ?_
                      refine lv_iconst (v := 0) hx hb d_Rsa_verifies_212 (by decide) ?_
                      refine lv_aload_n hx hb d_Rsa_verifies_213 rfl (lv_at hl 3 rfl) ?_
                      refine va_get (v := .int (nI L38)) hx hb htb i_Rsa hown hK hP i_36 hg_36 rfl 6 (by decide) (htb _ q1_91) (fun _ h9 => h9) rfl d_Rsa_verifies_214 ?_
                      obtain ⟨i_37, f_37, hn_37, hg_37⟩ := ty_7 hTy kba_36
                      obtain ⟨i_38, f_38, hn_38, hg_38⟩ := ty_7 hTy kpo_36
                      refine va_copyl (sp := 0) (dp := 0) (n := nI L38) hx hb (by rw [hml]; exact hl.1.symm) hown (htb _ q5_213) (htb _ q2_79) (htb _ q2_78) (htb _ q1_19) hK hP hD hS i_37 i_38 2 2 hg_37 hg_38 rfl rfl rfl (by decide) (by decide) (nI_pos (by omega)) (by rw [show (0 : Int32).toNatClampNeg = 0 from by decide, nI_clamp (by omega)]; omega) (by rw [show (0 : Int32).toNatClampNeg = 0 from by decide, nI_clamp (by omega)]; omega) (fun i hi => rfl) (Nat.le_of_ble_eq_true rfl) (Nat.le_of_ble_eq_true rfl) d_Rsa_verifies_217 (fun H217 locs hP hD2 hS => ?_)
                      have hP : va_P (dC, dI) classes (G_34.set i_38 (po_36, .inl (γ.2.2.1, 64, .inr (.inl (va_cpy f_37 f_38 (0 : Int32).toNatClampNeg (0 : Int32).toNatClampNeg (nI L38).toNatClampNeg))))) H217 := hP
                      have hD3 : va_D A (G_34.set i_38 (po_36, .inl (γ.2.2.1, 64, .inr (.inl (va_cpy f_37 f_38 (0 : Int32).toNatClampNeg (0 : Int32).toNatClampNeg (nI L38).toNatClampNeg))))) := hD2
                      have hFR := hFR.tr (FR.set (c' := .inl (γ.2.2.1, 64, .inr (.inl (va_cpy f_37 f_38 (0 : Int32).toNatClampNeg (0 : Int32).toNatClampNeg (nI L38).toNatClampNeg)))) hg_38 kpo_36.1)
                      have hTy := TY.set (c' := .inl (γ.2.2.1, 64, .inr (.inl (va_cpy f_37 f_38 (0 : Int32).toNatClampNeg (0 : Int32).toNatClampNeg (nI L38).toNatClampNeg)))) hTy hg_38 (ok_7 kpo_36 hn_38 _)
                      have hD := hD3
                      have hg_35 := set_keep (c' := .inl (γ.2.2.1, 64, .inr (.inl (va_cpy f_37 f_38 (0 : Int32).toNatClampNeg (0 : Int32).toNatClampNeg (nI L38).toNatClampNeg)))) hg_38 hg_35 (tK.ne kpo_36 kc9 (show (7 : Nat) ≠ 8 by decide))
                      have hg_36 := set_keep (c' := .inl (γ.2.2.1, 64, .inr (.inl (va_cpy f_37 f_38 (0 : Int32).toNatClampNeg (0 : Int32).toNatClampNeg (nI L38).toNatClampNeg)))) hg_38 hg_36 (tK.ne kpo_36 kh (show (7 : Nat) ≠ 10 by decide))
                      clear hD3 hD2
                      generalize G_34.set i_38 (po_36, .inl (γ.2.2.1, 64, .inr (.inl (va_cpy f_37 f_38 (0 : Int32).toNatClampNeg (0 : Int32).toNatClampNeg (nI L38).toNatClampNeg)))) = G_39 at hP hD hTy hFR hg_35 hg_36
                      refine lv_iconst (v := 1) hx hb d_Rsa_verifies_220 (by decide) ?_
                      refine lv_istore (lv' := [(4, .int 1), (5, .int (nI z140)), (3, .int (nI z2_1)), (0, .ref h), (1, .ref g), (2, .ref c9)]) hx hb d_Rsa_verifies_221 hl (by decide) rfl (fun ls hl => ?_)
                      refine lv_iinc (v := jD z140) (lv' := [(5, .int (jD z140)), (4, .int 1), (3, .int (nI z2_1)), (0, .ref h), (1, .ref g), (2, .ref c9)]) hx hb d_Rsa_verifies_223 hl (k := 1) rfl (jD_dec _) (by decide) rfl (fun ls hl => ?_)
                      refine lv_goto (tgt := 140) hx hb d_Rsa_verifies_226 (by decide) ?_
                      exact ih140 (z140, (1 : Int32), G_39) _ _ ls (by dsimp only; omega) ⟨by dsimp only; omega, hTy, hFR⟩ hP hD hS (lv_sub hl [0, 1, 2, 3, 4, 5] rfl)
                    · have p181 : ¬ (x140_4 = (0 : Int32)) := c181
                      refine lv_aload_n hx hb d_Rsa_verifies_184 rfl (lv_at hl 3 rfl) ?_
                      refine lv_aload_n hx hb d_Rsa_verifies_185 rfl (lv_at hl 3 rfl) ?_
                      obtain ⟨i_40, mo_40, sq_40, ba_40, po_40, un_40, su_40, iv_40, kmo_40, ksq_40, kba_40, kpo_40, kun_40, ksu_40, hg_40⟩ := ty_10 hTy kh
                      refine va_get (v := .ref po_40) hx hb htb i_Rsa hown hK hP i_40 hg_40 rfl 3 (by decide) (htb _ q1_88) (fun _ h9 => h9) rfl d_Rsa_verifies_186 ?_
                      refine lv_aload_n hx hb d_Rsa_verifies_189 rfl (lv_at hl 3 rfl) ?_
                      refine va_get (v := .ref ba_40) hx hb htb i_Rsa hown hK hP i_40 hg_40 rfl 2 (by decide) (htb _ q1_87) (fun _ h9 => h9) rfl d_Rsa_verifies_190 ?_
                      refine lv_aload_n hx hb d_Rsa_verifies_193 rfl (lv_at hl 3 rfl) ?_
                      refine va_get (v := .ref po_40) hx hb htb i_Rsa hown hK hP i_40 hg_40 rfl 3 (by decide) (htb _ q1_88) (fun _ h9 => h9) rfl d_Rsa_verifies_194 ?_
                      have hFc := va_free (wc := G_34) hD hS hA (List.range G_34.length) (rg_is _)
                      refine va_callv (mu_runV (As := [.ref po_40, .ref ba_40, .ref po_40]) (rest := []) ⟨hx, hb, hml, hown, hts⟩ tbin (m_Rsa_multiply l dC dI sb γ κ Ad ν ω L38 G_34 h po_40 ba_40 po_40  H163.size hTy kh kpo_40 kba_40 kpo_40 hL38 hM38) q5_209 q5_211 qp_25 q1_6 q5_212 (n := 3) (by decide +kernel) rfl ⟨rfl, rfl⟩ ⟨Nat.le_of_ble_eq_true rfl, Nat.le_of_ble_eq_true rfl⟩ ⟨Nat.le_of_ble_eq_true rfl, Nat.le_of_ble_eq_true rfl⟩ hN (hT0.keep hS hAs) hAs (Nat.le_trans hB0 hS.1) hK hP hD (List.range G_34.length) (rg_nd _) (rg_is _) [0, 1, 2, 3] rfl i_40 7 hg_40 rfl rfl hl.1 rfl (Nat.le_of_ble_eq_true rfl) d_Rsa_verifies_197) hS (fun q _ h => hFc q h) hFc (fun G_41 tS H197 locs ht hvm hw197 hB hz1 hk1 hS => ?_)
                      obtain ⟨hTy, hF9, hr197⟩ := hw197
                      have hFR := hFR.tr hF9
                      obtain ⟨hP1, hK1, hD1⟩ := hB
                      rw [ht] at hP1
                      have hP : va_P (dC, dI) classes G_41 H197 := hP1
                      have hD : va_D A G_41 := hD1.weaken (fun _ _ _ h => hFc _ h)
                      refine lv_goto (tgt := 220) hx hb d_Rsa_verifies_200 (by decide) ?_
                      refine lv_iconst (v := 1) hx hb d_Rsa_verifies_220 (by decide) ?_
                      refine lv_istore (lv' := [(4, .int 1), (5, .int (nI z140)), (3, .int (nI z2_1)), (0, .ref h), (1, .ref g), (2, .ref c9)]) hx hb d_Rsa_verifies_221 hl (by decide) rfl (fun ls hl => ?_)
                      refine lv_iinc (v := jD z140) (lv' := [(5, .int (jD z140)), (4, .int 1), (3, .int (nI z2_1)), (0, .ref h), (1, .ref g), (2, .ref c9)]) hx hb d_Rsa_verifies_223 hl (k := 1) rfl (jD_dec _) (by decide) rfl (fun ls hl => ?_)
                      refine lv_goto (tgt := 140) hx hb d_Rsa_verifies_226 (by decide) ?_
                      exact ih140 (z140, (1 : Int32), G_41) _ _ ls (by dsimp only; omega) ⟨by dsimp only; omega, hTy, hFR⟩ hP hD hS (lv_sub hl [0, 1, 2, 3, 4, 5] rfl)
          · have p92 : ¬ (5 ≤ z89) := (fun q9 => c92 ((nI_leI (a := 5) (b := z89) (by omega) (by omega)).mpr q9))
            refine lv_aload_n hx hb d_Rsa_verifies_95 rfl (lv_at hl 2 rfl) ?_
            refine lv_aload_n hx hb d_Rsa_verifies_96 rfl (lv_at hl 2 rfl) ?_
            obtain ⟨i_42, mo_42, sq_42, ba_42, po_42, un_42, su_42, iv_42, kmo_42, ksq_42, kba_42, kpo_42, kun_42, ksu_42, hg_42⟩ := ty_10 hTy kh
            refine va_get (v := .ref sq_42) hx hb htb i_Rsa hown hK hP i_42 hg_42 rfl 1 (by decide) (htb _ q1_86) (fun _ h9 => h9) rfl d_Rsa_verifies_97 ?_
            refine lv_aload_n hx hb d_Rsa_verifies_100 rfl (lv_at hl 2 rfl) ?_
            refine va_get (v := .ref sq_42) hx hb htb i_Rsa hown hK hP i_42 hg_42 rfl 1 (by decide) (htb _ q1_86) (fun _ h9 => h9) rfl d_Rsa_verifies_101 ?_
            refine lv_aload_n hx hb d_Rsa_verifies_104 rfl (lv_at hl 2 rfl) ?_
            refine va_get (v := .ref sq_42) hx hb htb i_Rsa hown hK hP i_42 hg_42 rfl 1 (by decide) (htb _ q1_86) (fun _ h9 => h9) rfl d_Rsa_verifies_105 ?_
            have hFc := va_free (wc := G89) hD hS hA (List.range G89.length) (rg_is _)
            refine va_callv (mu_runV (As := [.ref sq_42, .ref sq_42, .ref sq_42]) (rest := []) ⟨hx, hb, hml, hown, hts⟩ tbin (m_Rsa_multiply l dC dI sb γ κ Ad ν ω L38 G89 h sq_42 sq_42 sq_42  HL89.size hTy kh ksq_42 ksq_42 ksq_42 hL38 hM38) q5_209 q5_211 qp_25 q1_6 q5_212 (n := 3) (by decide +kernel) rfl ⟨rfl, rfl⟩ ⟨Nat.le_of_ble_eq_true rfl, Nat.le_of_ble_eq_true rfl⟩ ⟨Nat.le_of_ble_eq_true rfl, Nat.le_of_ble_eq_true rfl⟩ hN (hT0.keep hS hAs) hAs (Nat.le_trans hB0 hS.1) hK hP hD (List.range G89.length) (rg_nd _) (rg_is _) [0, 1, 2, 3] rfl i_42 7 hg_42 rfl rfl hl.1 rfl (Nat.le_of_ble_eq_true rfl) d_Rsa_verifies_108) hS (fun q _ h => hFc q h) hFc (fun G_43 tS H108 locs ht hvm hw108 hB hz1 hk1 hS => ?_)
            obtain ⟨hTy, hF9, hr108⟩ := hw108
            have hFR := hFR.tr hF9
            obtain ⟨hP1, hK1, hD1⟩ := hB
            rw [ht] at hP1
            have hP : va_P (dC, dI) classes G_43 H108 := hP1
            have hD : va_D A G_43 := hD1.weaken (fun _ _ _ h => hFc _ h)
            refine lv_iinc (v := nI (z89 + 1)) (lv' := [(4, .int (nI (z89 + 1))), (3, .int (nI z2_1)), (0, .ref h), (1, .ref g), (2, .ref c9)]) hx hb d_Rsa_verifies_111 hl (k := 0) rfl (nI_1 _) (by decide) rfl (fun ls hl => ?_)
            refine lv_goto (tgt := 89) hx hb d_Rsa_verifies_114 (by decide) ?_
            exact ih89 (z89 + 1, G_43) _ _ ls (by dsimp only; omega) ⟨by dsimp only; omega, hTy, hFR⟩ hP hD hS (lv_sub hl [0, 1, 2, 3, 4] rfl)
        · have p73 : r70 = (0 : Int32) := c73
          refine lv_iconst (v := 0) hx hb d_Rsa_verifies_76 (by decide) ?_
          exact W.zret (v := 0) hx hb hr rfl (fun t ht hW => ⟨⟨_, G_12, rfl, ⟨⟨_, hL38, hTy⟩, hFR, bz_f (by decide)⟩, by rw [ht]; exact hP, va_K.moved hW.alike hK, hD⟩, hS.F ht⟩) hS.2.2 d_Rsa_verifies_77
      · have p27 : z2_1 = 0 := ((nI_eq (a := z2_1) (b := 0) (by omega) (by omega)).mp c27)
        refine lv_iconst (v := 0) hx hb d_Rsa_verifies_30 (by decide) ?_
        exact W.zret (v := 0) hx hb hr rfl (fun t ht hW => ⟨⟨_, G, rfl, ⟨⟨_, hL, hTy⟩, hFR, bz_f (by decide)⟩, by rw [ht]; exact hP, va_K.moved hW.alike hK, hD⟩, hS.F ht⟩) hS.2.2 d_Rsa_verifies_31
def y_Rsa_isSigned : MethodName := ⟨"TrustChain$Rsa", "isSigned", "(LTrustChain$Paper;LTrustChain$Certificate;)Z"⟩
abbrev b_Rsa_isSigned : ByteArray := prog_9_method_2_code
def w_Rsa_isSigned : List Cond := Cond.code y_Rsa_isSigned b_Rsa_isSigned 4 ((some FieldType.boolean)) :: tb
theorem d_Rsa_isSigned_0 : decode b_Rsa_isSigned 0 = .ok (.aload_n 2, 1) := by decide +kernel
theorem d_Rsa_isSigned_1 : decode b_Rsa_isSigned 1 = .ok (.getfield 38, 3) := by decide +kernel
theorem d_Rsa_isSigned_4 : decode b_Rsa_isSigned 4 = .ok (.istore_n 3, 1) := by decide +kernel
theorem d_Rsa_isSigned_5 : decode b_Rsa_isSigned 5 = .ok (.iload_n 3, 1) := by decide +kernel
theorem d_Rsa_isSigned_6 : decode b_Rsa_isSigned 6 = .ok (.ifCond .lt 12, 3) := by decide +kernel
theorem d_Rsa_isSigned_9 : decode b_Rsa_isSigned 9 = .ok (.iload_n 3, 1) := by decide +kernel
theorem d_Rsa_isSigned_10 : decode b_Rsa_isSigned 10 = .ok (.aload_n 1, 1) := by decide +kernel
theorem d_Rsa_isSigned_11 : decode b_Rsa_isSigned 11 = .ok (.getfield 43, 3) := by decide +kernel
theorem d_Rsa_isSigned_14 : decode b_Rsa_isSigned 14 = .ok (.arraylength, 1) := by decide +kernel
theorem d_Rsa_isSigned_15 : decode b_Rsa_isSigned 15 = .ok (.if_icmp .lt 5, 3) := by decide +kernel
theorem d_Rsa_isSigned_18 : decode b_Rsa_isSigned 18 = .ok (.iconst 0, 1) := by decide +kernel
theorem d_Rsa_isSigned_19 : decode b_Rsa_isSigned 19 = .ok (.ireturn, 1) := by decide +kernel
theorem d_Rsa_isSigned_20 : decode b_Rsa_isSigned 20 = .ok (.aload_n 1, 1) := by decide +kernel
theorem d_Rsa_isSigned_21 : decode b_Rsa_isSigned 21 = .ok (.getfield 43, 3) := by decide +kernel
theorem d_Rsa_isSigned_24 : decode b_Rsa_isSigned 24 = .ok (.iload_n 3, 1) := by decide +kernel
theorem d_Rsa_isSigned_25 : decode b_Rsa_isSigned 25 = .ok (.iaload, 1) := by decide +kernel
theorem d_Rsa_isSigned_26 : decode b_Rsa_isSigned 26 = .ok (.ifCond .ne 23, 3) := by decide +kernel
theorem d_Rsa_isSigned_29 : decode b_Rsa_isSigned 29 = .ok (.aload_n 1, 1) := by decide +kernel
theorem d_Rsa_isSigned_30 : decode b_Rsa_isSigned 30 = .ok (.getfield 43, 3) := by decide +kernel
theorem d_Rsa_isSigned_33 : decode b_Rsa_isSigned 33 = .ok (.iload_n 3, 1) := by decide +kernel
theorem d_Rsa_isSigned_34 : decode b_Rsa_isSigned 34 = .ok (.aload_n 0, 1) := by decide +kernel
theorem d_Rsa_isSigned_35 : decode b_Rsa_isSigned 35 = .ok (.aload_n 1, 1) := by decide +kernel
theorem d_Rsa_isSigned_36 : decode b_Rsa_isSigned 36 = .ok (.aload_n 2, 1) := by decide +kernel
theorem d_Rsa_isSigned_37 : decode b_Rsa_isSigned 37 = .ok (.invokevirtual 49, 3) := by decide +kernel
theorem d_Rsa_isSigned_40 : decode b_Rsa_isSigned 40 = .ok (.ifCond .eq 7, 3) := by decide +kernel
theorem d_Rsa_isSigned_43 : decode b_Rsa_isSigned 43 = .ok (.iconst 1, 1) := by decide +kernel
theorem d_Rsa_isSigned_44 : decode b_Rsa_isSigned 44 = .ok (.goto 4, 3) := by decide +kernel
theorem d_Rsa_isSigned_47 : decode b_Rsa_isSigned 47 = .ok (.iconst 2, 1) := by decide +kernel
theorem d_Rsa_isSigned_48 : decode b_Rsa_isSigned 48 = .ok (.iastore, 1) := by decide +kernel
theorem d_Rsa_isSigned_49 : decode b_Rsa_isSigned 49 = .ok (.aload_n 1, 1) := by decide +kernel
theorem d_Rsa_isSigned_50 : decode b_Rsa_isSigned 50 = .ok (.getfield 43, 3) := by decide +kernel
theorem d_Rsa_isSigned_53 : decode b_Rsa_isSigned 53 = .ok (.iload_n 3, 1) := by decide +kernel
theorem d_Rsa_isSigned_54 : decode b_Rsa_isSigned 54 = .ok (.iaload, 1) := by decide +kernel
theorem d_Rsa_isSigned_55 : decode b_Rsa_isSigned 55 = .ok (.iconst 1, 1) := by decide +kernel
theorem d_Rsa_isSigned_56 : decode b_Rsa_isSigned 56 = .ok (.if_icmp .ne 7, 3) := by decide +kernel
theorem d_Rsa_isSigned_59 : decode b_Rsa_isSigned 59 = .ok (.iconst 1, 1) := by decide +kernel
theorem d_Rsa_isSigned_60 : decode b_Rsa_isSigned 60 = .ok (.goto 4, 3) := by decide +kernel
theorem d_Rsa_isSigned_63 : decode b_Rsa_isSigned 63 = .ok (.iconst 0, 1) := by decide +kernel
theorem d_Rsa_isSigned_64 : decode b_Rsa_isSigned 64 = .ok (.ireturn, 1) := by decide +kernel
set_option maxHeartbeats 4000000 in
set_option maxRecDepth 100000 in
theorem m_isSignedC (l : Launch) (dC : Nat → ClassId) (dI : Nat → Nat → Nat) (sb : sB) (γ : cG) (κ : kE) (Ad : List Nat) (ν : Nat → cN) (ω : Nat → List Nat) (L : Nat) (G : va_W) (h g c9 : Nat) (K1 l1 K2 l2 : Nat) (sz : Nat) (hTy : TY γ κ Ad ν ω L G) (kh : tK κ Ad h (10, 0, 0)) (kg : tK κ Ad g (8, K1, l1)) (kc9 : tK κ Ad c9 (8, K2, l2)) (hL : L ≤ 64) (h1 : ∀ a, a ∈ Ad → (κ a).1 = 10 → a = h) : Met l y_Rsa_isSigned w_Rsa_isSigned ({ frames := 3, cells := 0, slots := 0, locals := 86 }) (mu_P [.ref h, .ref g, .ref c9] (dC, dI) sb G [(γ.1, .byte), (γ.2.1, .int), (γ.2.2.1, .long), (γ.2.2.2, .object "java/lang/Object")] sz) (va_Qi (fun r (G' : va_W) => (∃ L' : Nat, L' ≤ 64 ∧ TY γ κ Ad ν ω L' G') ∧ FR Ad G G' ∧ (bz r (r = 1))) (mu_B (dC, dI) [(γ.1, .byte), (γ.2.1, .int), (γ.2.2.1, .long), (γ.2.2.2, .object "java/lang/Object")] (va_A G sz) (fun G' : va_W => G')) (va_A G sz)) 0 0 (va_A G sz) := by
  refine Met.ofW (cc := b_Rsa_isSigned) (maxL := 4) (ret := (some FieldType.boolean)) (by decide) rfl ?_
  intro p e s m args below meth c s₁ B hml hv
  obtain ⟨rfl, hsz, hB0, hP, hK, hD0, hN, hT0⟩ := hv
  have hx := B.exec
  have hb := B.bytes
  have hr := B.returns
  have hts := atoms_spec (ws := w_Rsa_isSigned) B.pre
  have tbin : ∀ w ∈ tb, w ∈ w_Rsa_isSigned := fun w h => List.mem_cons_of_mem _ h
  have htb : ∀ w ∈ tb, w.before _ s = true := fun w h => hts w (tbin w h)
  have hown : s.vm.findClass "TrustChain$Rsa" = some m.cls := findClass_of_methodNamed B.named
  have hlocks := B.notSynchronized
  subst hsz
  have hD := hD0.self (sz := s.heap.size)
  generalize hAe : va_A G s.heap.size = A at hD ⊢
  have hA : ∀ q : Nat, s.heap.size ≤ q → A q := fun q h => by rw [← hAe]; exact Or.inr h
  have hAs : ∀ q : Nat, A q → sb.1 ≤ q := fun q h => by
    rw [← hAe] at h
    rcases h with ⟨k, e, h⟩ | h
    · exact hD0.2 k _ h
    · exact Nat.le_trans hB0 h
  have hS : va_S A s.heap s.heap [] := va_S.rf
  have hFR := FR.rf Ad G
  have hcs : 0 ≤ (headSpec w_Rsa_isSigned ({ frames := 3, cells := 0, slots := 0, locals := 86 })).room.cells ∧ 0 ≤ (headSpec w_Rsa_isSigned ({ frames := 3, cells := 0, slots := 0, locals := 86 })).room.slots := ⟨Nat.le_refl _, Nat.le_refl _⟩
  have hP : va_P (dC, dI) classes G s.heap := hP
  have hl := lv_entry ([.ref h, .ref g, .ref c9]) (n := 4) (Nat.le_of_ble_eq_true rfl)
  rw [lg_entry_eq]
  generalize (lg_sl ([.ref h, .ref g, .ref c9]) ++ List.replicate (4 - (lg_sl ([.ref h, .ref g, .ref c9])).length) Slot.unset).toArray = ls at hl ⊢
  have hl : lv_has ls 4 [(0, .ref h), (1, .ref g), (2, .ref c9)] := hl
  refine lv_aload_n hx hb d_Rsa_isSigned_0 rfl (lv_at hl 2 rfl) ?_
  obtain ⟨i_1, nm_1, pe_1, ec_1, se_1, su_1, mo_1, ok_1, ik_1, ha_1, si_1, en_1, bo_1, sg_1, is_1, iu_1, K_1, B_1, hg_1⟩ := ty_8 hTy kc9
  obtain ⟨⟨A_1, knm_1⟩, ⟨B1_1, B2_1, kpe_1⟩, ⟨C1_1, C2_1, kec_1⟩, kse_1, ⟨z1_1, ksu_1⟩, ⟨z2_1, kmo_1⟩, ⟨z3_1, kok_1⟩, ⟨z4_1, kik_1⟩, kha_1, ksi_1, ken_1, ⟨z5_1, kbo_1⟩, ⟨z6_1, ksg_1⟩, ⟨z7_1, kis_1⟩⟩ := K_1
  refine va_get (v := .int ((ν c9).2.2.2.2.2.2.2.2.2.2.2.2)) hx hb htb i_Certificate hown hK hP i_1 hg_1 rfl 17 (by decide) (htb _ q2_186) (fun _ h9 => h9) rfl d_Rsa_isSigned_1 ?_
  refine lv_topi (fun v4 ev4 => ?_)
  refine lv_istore_n (lv' := [(3, .int v4), (0, .ref h), (1, .ref g), (2, .ref c9)]) hx hb d_Rsa_isSigned_4 rfl hl (by decide) rfl (fun ls hl => ?_)
  refine lv_iload_n hx hb d_Rsa_isSigned_5 rfl (lv_at hl 0 rfl) ?_
  refine lv_if_lt (tgt := 18) hx hb d_Rsa_isSigned_6 (by decide) (fun c6 => ?_) (fun c6 => ?_)
  · have p6 : v4 < (0 : Int32) := c6
    refine lv_iconst (v := 0) hx hb d_Rsa_isSigned_18 (by decide) ?_
    exact W.zret (v := 0) hx hb hr rfl (fun t ht hW => ⟨⟨_, G, rfl, ⟨⟨_, hL, hTy⟩, hFR, bz_f (by decide)⟩, by rw [ht]; exact hP, va_K.moved hW.alike hK, hD⟩, hS.F ht⟩) hS.2.2 d_Rsa_isSigned_19
  · have p6 : ¬ (v4 < (0 : Int32)) := c6
    refine lv_iload_n hx hb d_Rsa_isSigned_9 rfl (lv_at hl 0 rfl) ?_
    refine lv_aload_n hx hb d_Rsa_isSigned_10 rfl (lv_at hl 2 rfl) ?_
    obtain ⟨i_2, nm_2, pe_2, ec_2, se_2, su_2, mo_2, ok_2, ik_2, ha_2, si_2, en_2, bo_2, sg_2, is_2, iu_2, K_2, B_2, hg_2⟩ := ty_8 hTy kg
    obtain ⟨⟨A_2, knm_2⟩, ⟨B1_2, B2_2, kpe_2⟩, ⟨C1_2, C2_2, kec_2⟩, kse_2, ⟨z1_2, ksu_2⟩, ⟨z2_2, kmo_2⟩, ⟨z3_2, kok_2⟩, ⟨z4_2, kik_2⟩, kha_2, ksi_2, ken_2, ⟨z5_2, kbo_2⟩, ⟨z6_2, ksg_2⟩, ⟨z7_2, kis_2⟩⟩ := K_2
    refine va_get (v := .ref si_2) hx hb htb i_Certificate hown hK hP i_2 hg_2 rfl 20 (by decide) (htb _ q2_198) (fun _ h9 => h9) rfl d_Rsa_isSigned_11 ?_
    obtain ⟨i_3, f_3, hn_3, hg_3⟩ := ty_6 hTy ksi_2
    refine va_alen (v := nI 16) hx hb hK hP i_3 1 hg_3 rfl rfl d_Rsa_isSigned_14 ?_
    refine lv_icmp_lt (tgt := 20) hx hb d_Rsa_isSigned_15 (by decide) (fun c15 => ?_) (fun c15 => ?_)
    · have p15 : v4 < (nI 16) := c15
      refine lv_aload_n hx hb d_Rsa_isSigned_20 rfl (lv_at hl 2 rfl) ?_
      refine va_get (v := .ref si_2) hx hb htb i_Certificate hown hK hP i_2 hg_2 rfl 20 (by decide) (htb _ q2_198) (fun _ h9 => h9) rfl d_Rsa_isSigned_21 ?_
      refine lv_iload_n hx hb d_Rsa_isSigned_24 rfl (lv_at hl 0 rfl) ?_
      have h25 : vp_in v4 16 := vp_in_of2 p6 p15 (by omega)
      refine va_iald hx hb hK hP i_3 1 hg_3 rfl h25 d_Rsa_isSigned_25 ?_
      refine lv_topi (fun e25 he25 => ?_)
      refine lv_if_ne (tgt := 49) hx hb d_Rsa_isSigned_26 (by decide) (fun c26 => ?_) (fun c26 => ?_)
      · have p26 : ¬ (e25 = (0 : Int32)) := c26
        refine lv_aload_n hx hb d_Rsa_isSigned_49 rfl (lv_at hl 2 rfl) ?_
        refine va_get (v := .ref si_2) hx hb htb i_Certificate hown hK hP i_2 hg_2 rfl 20 (by decide) (htb _ q2_198) (fun _ h9 => h9) rfl d_Rsa_isSigned_50 ?_
        refine lv_iload_n hx hb d_Rsa_isSigned_53 rfl (lv_at hl 0 rfl) ?_
        have h54 : vp_in v4 16 := vp_in_of2 p6 p15 (by omega)
        refine va_iald hx hb hK hP i_3 1 hg_3 rfl h54 d_Rsa_isSigned_54 ?_
        refine lv_topi (fun e54 he54 => ?_)
        refine lv_iconst (v := 1) hx hb d_Rsa_isSigned_55 (by decide) ?_
        refine w_join (J := fun jv56 => bz jv56 (jv56 = 1)) (pc := 64) (ls := ls) (rest := []) (fun jv56 hjv56 => ?_) (fun k64 => ?_)
        · skip
          exact W.zret (v := jv56) hx hb hr (bz_n hjv56) (fun t ht hW => ⟨⟨_, G, rfl, ⟨⟨_, hL, hTy⟩, hFR, hjv56⟩, by rw [ht]; exact hP, va_K.moved hW.alike hK, hD⟩, hS.F ht⟩) hS.2.2 d_Rsa_isSigned_64
        · skip
          refine lv_icmp_ne (tgt := 63) hx hb d_Rsa_isSigned_56 (by decide) (fun c56 => ?_) (fun c56 => ?_)
          · have p56 : ¬ (e54 = (1 : Int32)) := c56
            refine lv_iconst (v := 0) hx hb d_Rsa_isSigned_63 (by decide) ?_
            exact k64 _ (bz_f (by decide))
          · have p56 : e54 = (1 : Int32) := c56
            refine lv_iconst (v := 1) hx hb d_Rsa_isSigned_59 (by decide) ?_
            refine lv_goto (tgt := 64) hx hb d_Rsa_isSigned_60 (by decide) ?_
            exact k64 _ (bz_t rfl)
      · have p26 : e25 = (0 : Int32) := c26
        refine lv_aload_n hx hb d_Rsa_isSigned_29 rfl (lv_at hl 2 rfl) ?_
        refine va_get (v := .ref si_2) hx hb htb i_Certificate hown hK hP i_2 hg_2 rfl 20 (by decide) (htb _ q2_198) (fun _ h9 => h9) rfl d_Rsa_isSigned_30 ?_
        refine lv_iload_n hx hb d_Rsa_isSigned_33 rfl (lv_at hl 0 rfl) ?_
        refine lv_aload_n hx hb d_Rsa_isSigned_34 rfl (lv_at hl 1 rfl) ?_
        refine lv_aload_n hx hb d_Rsa_isSigned_35 rfl (lv_at hl 2 rfl) ?_
        refine lv_aload_n hx hb d_Rsa_isSigned_36 rfl (lv_at hl 3 rfl) ?_
        have hFc := va_free (wc := G) hD hS hA (List.range G.length) (rg_is _)
        obtain ⟨i_5, mo_5, sq_5, ba_5, po_5, un_5, su_5, iv_5, kmo_5, ksq_5, kba_5, kpo_5, kun_5, ksu_5, hg_5⟩ := ty_10 hTy kh
        refine va_calli (mu_runV (As := [.ref g, .ref c9]) (rest := [.int v4, .ref si_2]) ⟨hx, hb, hml, hown, hts⟩ tbin (m_verifiesC l dC dI sb γ κ Ad ν ω L G h g c9 _ _ _ _ s.heap.size hTy kh kg kc9 hL h1) q5_180 q5_182 qp_20 q1_6 q5_183 (n := 2) (by decide +kernel) rfl ⟨rfl, rfl⟩ ⟨Nat.le_of_ble_eq_true rfl, Nat.le_of_ble_eq_true rfl⟩ ⟨Nat.le_of_ble_eq_true rfl, Nat.le_of_ble_eq_true rfl⟩ hN (hT0.keep hS hAs) hAs (Nat.le_trans hB0 hS.1) hK hP hD (List.range G.length) (rg_nd _) (rg_is _) [0, 1, 2, 3] rfl i_5 7 hg_5 rfl rfl hl.1 rfl (Nat.le_of_ble_eq_true rfl) d_Rsa_isSigned_37) hS (fun q _ h => hFc q h) hFc (fun r37 G_4 tS H37 locs ht hvm hw37 hB hz1 hk1 hS => ?_)
        obtain ⟨⟨L37, hL37, hTy⟩, hF9, hr37⟩ := hw37
        have hFR := hFR.tr hF9
        obtain ⟨hP1, hK1, hD1⟩ := hB
        rw [ht] at hP1
        have hP : va_P (dC, dI) classes G_4 H37 := hP1
        have hD : va_D A G_4 := hD1.weaken (fun _ _ _ h => hFc _ h)
        refine lv_if_eq (tgt := 47) hx hb d_Rsa_isSigned_40 (by decide) (fun c40 => ?_) (fun c40 => ?_)
        · have p40 : r37 = (0 : Int32) := c40
          refine lv_iconst (v := 2) hx hb d_Rsa_isSigned_47 (by decide) ?_
          obtain ⟨i_6, f_6, hn_6, hg_6⟩ := ty_6 hTy ksi_2
          have h48 : vp_in v4 16 := vp_in_of2 p6 p15 (by omega)
          refine va_iast hx hb hK hP hD hS i_6 1 hg_6 rfl h48 d_Rsa_isSigned_48 (fun H48 locs hP hD2 hS => ?_)
          have hP : va_P (dC, dI) classes (G_4.set i_6 (si_2, .inl (γ.2.1, 16, .inl (upd f_6 v4.toNatClampNeg 2)))) H48 := hP
          have hD3 : va_D A (G_4.set i_6 (si_2, .inl (γ.2.1, 16, .inl (upd f_6 v4.toNatClampNeg 2)))) := hD2
          have hFR := hFR.tr (FR.set (c' := .inl (γ.2.1, 16, .inl (upd f_6 v4.toNatClampNeg 2))) hg_6 ksi_2.1)
          have hTy := TY.set (c' := .inl (γ.2.1, 16, .inl (upd f_6 v4.toNatClampNeg 2))) hTy hg_6 (ok_6 ksi_2 hn_6 _)
          have hD := hD3
          clear hD3 hD2
          generalize G_4.set i_6 (si_2, .inl (γ.2.1, 16, .inl (upd f_6 v4.toNatClampNeg 2))) = G_7 at hP hD hTy hFR 
          refine lv_aload_n hx hb d_Rsa_isSigned_49 rfl (lv_at hl 2 rfl) ?_
          obtain ⟨i_8, nm_8, pe_8, ec_8, se_8, su_8, mo_8, ok_8, ik_8, ha_8, si_8, en_8, bo_8, sg_8, is_8, iu_8, K_8, B_8, hg_8⟩ := ty_8 hTy kg
          obtain ⟨⟨A_8, knm_8⟩, ⟨B1_8, B2_8, kpe_8⟩, ⟨C1_8, C2_8, kec_8⟩, kse_8, ⟨z1_8, ksu_8⟩, ⟨z2_8, kmo_8⟩, ⟨z3_8, kok_8⟩, ⟨z4_8, kik_8⟩, kha_8, ksi_8, ken_8, ⟨z5_8, kbo_8⟩, ⟨z6_8, ksg_8⟩, ⟨z7_8, kis_8⟩⟩ := K_8
          refine va_get (v := .ref si_8) hx hb htb i_Certificate hown hK hP i_8 hg_8 rfl 20 (by decide) (htb _ q2_198) (fun _ h9 => h9) rfl d_Rsa_isSigned_50 ?_
          refine lv_iload_n hx hb d_Rsa_isSigned_53 rfl (lv_at hl 0 rfl) ?_
          obtain ⟨i_9, f_9, hn_9, hg_9⟩ := ty_6 hTy ksi_8
          have h54 : vp_in v4 16 := vp_in_of2 p6 p15 (by omega)
          refine va_iald hx hb hK hP i_9 1 hg_9 rfl h54 d_Rsa_isSigned_54 ?_
          refine lv_topi (fun e54 he54 => ?_)
          refine lv_iconst (v := 1) hx hb d_Rsa_isSigned_55 (by decide) ?_
          refine w_join (J := fun jv56 => bz jv56 (jv56 = 1)) (pc := 64) (ls := ls) (rest := []) (fun jv56 hjv56 => ?_) (fun k64 => ?_)
          · skip
            exact W.zret (v := jv56) hx hb hr (bz_n hjv56) (fun t ht hW => ⟨⟨_, G_7, rfl, ⟨⟨_, hL37, hTy⟩, hFR, hjv56⟩, by rw [ht]; exact hP, va_K.moved hW.alike hK, hD⟩, hS.F ht⟩) hS.2.2 d_Rsa_isSigned_64
          · skip
            refine lv_icmp_ne (tgt := 63) hx hb d_Rsa_isSigned_56 (by decide) (fun c56 => ?_) (fun c56 => ?_)
            · have p56 : ¬ (e54 = (1 : Int32)) := c56
              refine lv_iconst (v := 0) hx hb d_Rsa_isSigned_63 (by decide) ?_
              exact k64 _ (bz_f (by decide))
            · have p56 : e54 = (1 : Int32) := c56
              refine lv_iconst (v := 1) hx hb d_Rsa_isSigned_59 (by decide) ?_
              refine lv_goto (tgt := 64) hx hb d_Rsa_isSigned_60 (by decide) ?_
              exact k64 _ (bz_t rfl)
        · have p40 : ¬ (r37 = (0 : Int32)) := c40
          refine lv_iconst (v := 1) hx hb d_Rsa_isSigned_43 (by decide) ?_
          refine lv_goto (tgt := 48) hx hb d_Rsa_isSigned_44 (by decide) ?_
          obtain ⟨i_10, f_10, hn_10, hg_10⟩ := ty_6 hTy ksi_2
          have h48 : vp_in v4 16 := vp_in_of2 p6 p15 (by omega)
          refine va_iast hx hb hK hP hD hS i_10 1 hg_10 rfl h48 d_Rsa_isSigned_48 (fun H48 locs hP hD2 hS => ?_)
          have hP : va_P (dC, dI) classes (G_4.set i_10 (si_2, .inl (γ.2.1, 16, .inl (upd f_10 v4.toNatClampNeg 1)))) H48 := hP
          have hD3 : va_D A (G_4.set i_10 (si_2, .inl (γ.2.1, 16, .inl (upd f_10 v4.toNatClampNeg 1)))) := hD2
          have hFR := hFR.tr (FR.set (c' := .inl (γ.2.1, 16, .inl (upd f_10 v4.toNatClampNeg 1))) hg_10 ksi_2.1)
          have hTy := TY.set (c' := .inl (γ.2.1, 16, .inl (upd f_10 v4.toNatClampNeg 1))) hTy hg_10 (ok_6 ksi_2 hn_10 _)
          have hD := hD3
          clear hD3 hD2
          generalize G_4.set i_10 (si_2, .inl (γ.2.1, 16, .inl (upd f_10 v4.toNatClampNeg 1))) = G_11 at hP hD hTy hFR 
          refine lv_aload_n hx hb d_Rsa_isSigned_49 rfl (lv_at hl 2 rfl) ?_
          obtain ⟨i_12, nm_12, pe_12, ec_12, se_12, su_12, mo_12, ok_12, ik_12, ha_12, si_12, en_12, bo_12, sg_12, is_12, iu_12, K_12, B_12, hg_12⟩ := ty_8 hTy kg
          obtain ⟨⟨A_12, knm_12⟩, ⟨B1_12, B2_12, kpe_12⟩, ⟨C1_12, C2_12, kec_12⟩, kse_12, ⟨z1_12, ksu_12⟩, ⟨z2_12, kmo_12⟩, ⟨z3_12, kok_12⟩, ⟨z4_12, kik_12⟩, kha_12, ksi_12, ken_12, ⟨z5_12, kbo_12⟩, ⟨z6_12, ksg_12⟩, ⟨z7_12, kis_12⟩⟩ := K_12
          refine va_get (v := .ref si_12) hx hb htb i_Certificate hown hK hP i_12 hg_12 rfl 20 (by decide) (htb _ q2_198) (fun _ h9 => h9) rfl d_Rsa_isSigned_50 ?_
          refine lv_iload_n hx hb d_Rsa_isSigned_53 rfl (lv_at hl 0 rfl) ?_
          obtain ⟨i_13, f_13, hn_13, hg_13⟩ := ty_6 hTy ksi_12
          have h54 : vp_in v4 16 := vp_in_of2 p6 p15 (by omega)
          refine va_iald hx hb hK hP i_13 1 hg_13 rfl h54 d_Rsa_isSigned_54 ?_
          refine lv_topi (fun e54 he54 => ?_)
          refine lv_iconst (v := 1) hx hb d_Rsa_isSigned_55 (by decide) ?_
          refine w_join (J := fun jv56 => bz jv56 (jv56 = 1)) (pc := 64) (ls := ls) (rest := []) (fun jv56 hjv56 => ?_) (fun k64 => ?_)
          · skip
            exact W.zret (v := jv56) hx hb hr (bz_n hjv56) (fun t ht hW => ⟨⟨_, G_11, rfl, ⟨⟨_, hL37, hTy⟩, hFR, hjv56⟩, by rw [ht]; exact hP, va_K.moved hW.alike hK, hD⟩, hS.F ht⟩) hS.2.2 d_Rsa_isSigned_64
          · skip
            refine lv_icmp_ne (tgt := 63) hx hb d_Rsa_isSigned_56 (by decide) (fun c56 => ?_) (fun c56 => ?_)
            · have p56 : ¬ (e54 = (1 : Int32)) := c56
              refine lv_iconst (v := 0) hx hb d_Rsa_isSigned_63 (by decide) ?_
              exact k64 _ (bz_f (by decide))
            · have p56 : e54 = (1 : Int32) := c56
              refine lv_iconst (v := 1) hx hb d_Rsa_isSigned_59 (by decide) ?_
              refine lv_goto (tgt := 64) hx hb d_Rsa_isSigned_60 (by decide) ?_
              exact k64 _ (bz_t rfl)
    · have p15 : ¬ (v4 < (nI 16)) := c15
      refine lv_iconst (v := 0) hx hb d_Rsa_isSigned_18 (by decide) ?_
      exact W.zret (v := 0) hx hb hr rfl (fun t ht hW => ⟨⟨_, G, rfl, ⟨⟨_, hL, hTy⟩, hFR, bz_f (by decide)⟩, by rw [ht]; exact hP, va_K.moved hW.alike hK, hD⟩, hS.F ht⟩) hS.2.2 d_Rsa_isSigned_19
set_option maxHeartbeats 4000000 in
set_option maxRecDepth 100000 in
theorem m_isSignedP (l : Launch) (dC : Nat → ClassId) (dI : Nat → Nat → Nat) (sb : sB) (γ : cG) (κ : kE) (Ad : List Nat) (ν : Nat → cN) (ω : Nat → List Nat) (L : Nat) (G : va_W) (h g c9 : Nat) (K1 K2 l2 : Nat) (sz : Nat) (hTy : TY γ κ Ad ν ω L G) (kh : tK κ Ad h (10, 0, 0)) (kg : tK κ Ad g (9, K1, 0)) (kc9 : tK κ Ad c9 (8, K2, l2)) (hL : L ≤ 64) (h1 : ∀ a, a ∈ Ad → (κ a).1 = 10 → a = h) : Met l y_Rsa_isSigned w_Rsa_isSigned ({ frames := 3, cells := 0, slots := 0, locals := 86 }) (mu_P [.ref h, .ref g, .ref c9] (dC, dI) sb G [(γ.1, .byte), (γ.2.1, .int), (γ.2.2.1, .long), (γ.2.2.2, .object "java/lang/Object")] sz) (va_Qi (fun r (G' : va_W) => (∃ L' : Nat, L' ≤ 64 ∧ TY γ κ Ad ν ω L' G') ∧ FR Ad G G' ∧ (bz r (r = 1))) (mu_B (dC, dI) [(γ.1, .byte), (γ.2.1, .int), (γ.2.2.1, .long), (γ.2.2.2, .object "java/lang/Object")] (va_A G sz) (fun G' : va_W => G')) (va_A G sz)) 0 0 (va_A G sz) := by
  refine Met.ofW (cc := b_Rsa_isSigned) (maxL := 4) (ret := (some FieldType.boolean)) (by decide) rfl ?_
  intro p e s m args below meth c s₁ B hml hv
  obtain ⟨rfl, hsz, hB0, hP, hK, hD0, hN, hT0⟩ := hv
  have hx := B.exec
  have hb := B.bytes
  have hr := B.returns
  have hts := atoms_spec (ws := w_Rsa_isSigned) B.pre
  have tbin : ∀ w ∈ tb, w ∈ w_Rsa_isSigned := fun w h => List.mem_cons_of_mem _ h
  have htb : ∀ w ∈ tb, w.before _ s = true := fun w h => hts w (tbin w h)
  have hown : s.vm.findClass "TrustChain$Rsa" = some m.cls := findClass_of_methodNamed B.named
  have hlocks := B.notSynchronized
  subst hsz
  have hD := hD0.self (sz := s.heap.size)
  generalize hAe : va_A G s.heap.size = A at hD ⊢
  have hA : ∀ q : Nat, s.heap.size ≤ q → A q := fun q h => by rw [← hAe]; exact Or.inr h
  have hAs : ∀ q : Nat, A q → sb.1 ≤ q := fun q h => by
    rw [← hAe] at h
    rcases h with ⟨k, e, h⟩ | h
    · exact hD0.2 k _ h
    · exact Nat.le_trans hB0 h
  have hS : va_S A s.heap s.heap [] := va_S.rf
  have hFR := FR.rf Ad G
  have hcs : 0 ≤ (headSpec w_Rsa_isSigned ({ frames := 3, cells := 0, slots := 0, locals := 86 })).room.cells ∧ 0 ≤ (headSpec w_Rsa_isSigned ({ frames := 3, cells := 0, slots := 0, locals := 86 })).room.slots := ⟨Nat.le_refl _, Nat.le_refl _⟩
  have hP : va_P (dC, dI) classes G s.heap := hP
  have hl := lv_entry ([.ref h, .ref g, .ref c9]) (n := 4) (Nat.le_of_ble_eq_true rfl)
  rw [lg_entry_eq]
  generalize (lg_sl ([.ref h, .ref g, .ref c9]) ++ List.replicate (4 - (lg_sl ([.ref h, .ref g, .ref c9])).length) Slot.unset).toArray = ls at hl ⊢
  have hl : lv_has ls 4 [(0, .ref h), (1, .ref g), (2, .ref c9)] := hl
  refine lv_aload_n hx hb d_Rsa_isSigned_0 rfl (lv_at hl 2 rfl) ?_
  obtain ⟨i_1, nm_1, pe_1, ec_1, se_1, su_1, mo_1, ok_1, ik_1, ha_1, si_1, en_1, bo_1, sg_1, is_1, iu_1, K_1, B_1, hg_1⟩ := ty_8 hTy kc9
  obtain ⟨⟨A_1, knm_1⟩, ⟨B1_1, B2_1, kpe_1⟩, ⟨C1_1, C2_1, kec_1⟩, kse_1, ⟨z1_1, ksu_1⟩, ⟨z2_1, kmo_1⟩, ⟨z3_1, kok_1⟩, ⟨z4_1, kik_1⟩, kha_1, ksi_1, ken_1, ⟨z5_1, kbo_1⟩, ⟨z6_1, ksg_1⟩, ⟨z7_1, kis_1⟩⟩ := K_1
  refine va_get (v := .int ((ν c9).2.2.2.2.2.2.2.2.2.2.2.2)) hx hb htb i_Certificate hown hK hP i_1 hg_1 rfl 17 (by decide) (htb _ q2_186) (fun _ h9 => h9) rfl d_Rsa_isSigned_1 ?_
  refine lv_topi (fun v4 ev4 => ?_)
  refine lv_istore_n (lv' := [(3, .int v4), (0, .ref h), (1, .ref g), (2, .ref c9)]) hx hb d_Rsa_isSigned_4 rfl hl (by decide) rfl (fun ls hl => ?_)
  refine lv_iload_n hx hb d_Rsa_isSigned_5 rfl (lv_at hl 0 rfl) ?_
  refine lv_if_lt (tgt := 18) hx hb d_Rsa_isSigned_6 (by decide) (fun c6 => ?_) (fun c6 => ?_)
  · have p6 : v4 < (0 : Int32) := c6
    refine lv_iconst (v := 0) hx hb d_Rsa_isSigned_18 (by decide) ?_
    exact W.zret (v := 0) hx hb hr rfl (fun t ht hW => ⟨⟨_, G, rfl, ⟨⟨_, hL, hTy⟩, hFR, bz_f (by decide)⟩, by rw [ht]; exact hP, va_K.moved hW.alike hK, hD⟩, hS.F ht⟩) hS.2.2 d_Rsa_isSigned_19
  · have p6 : ¬ (v4 < (0 : Int32)) := c6
    refine lv_iload_n hx hb d_Rsa_isSigned_9 rfl (lv_at hl 0 rfl) ?_
    refine lv_aload_n hx hb d_Rsa_isSigned_10 rfl (lv_at hl 2 rfl) ?_
    obtain ⟨i_2, ha_2, si_2, en_2, bo_2, sg_2, is_2, kha_2, ksi_2, ken_2, ⟨z5_2, kbo_2⟩, ⟨z6_2, ksg_2⟩, ⟨z7_2, kis_2⟩, hg_2⟩ := ty_9 hTy kg
    refine va_get (v := .ref si_2) hx hb htb i_Paper hown hK hP i_2 hg_2 rfl 1 (by decide) (htb _ q2_198) (fun _ h9 => h9) rfl d_Rsa_isSigned_11 ?_
    obtain ⟨i_3, f_3, hn_3, hg_3⟩ := ty_6 hTy ksi_2
    refine va_alen (v := nI 16) hx hb hK hP i_3 1 hg_3 rfl rfl d_Rsa_isSigned_14 ?_
    refine lv_icmp_lt (tgt := 20) hx hb d_Rsa_isSigned_15 (by decide) (fun c15 => ?_) (fun c15 => ?_)
    · have p15 : v4 < (nI 16) := c15
      refine lv_aload_n hx hb d_Rsa_isSigned_20 rfl (lv_at hl 2 rfl) ?_
      refine va_get (v := .ref si_2) hx hb htb i_Paper hown hK hP i_2 hg_2 rfl 1 (by decide) (htb _ q2_198) (fun _ h9 => h9) rfl d_Rsa_isSigned_21 ?_
      refine lv_iload_n hx hb d_Rsa_isSigned_24 rfl (lv_at hl 0 rfl) ?_
      have h25 : vp_in v4 16 := vp_in_of2 p6 p15 (by omega)
      refine va_iald hx hb hK hP i_3 1 hg_3 rfl h25 d_Rsa_isSigned_25 ?_
      refine lv_topi (fun e25 he25 => ?_)
      refine lv_if_ne (tgt := 49) hx hb d_Rsa_isSigned_26 (by decide) (fun c26 => ?_) (fun c26 => ?_)
      · have p26 : ¬ (e25 = (0 : Int32)) := c26
        refine lv_aload_n hx hb d_Rsa_isSigned_49 rfl (lv_at hl 2 rfl) ?_
        refine va_get (v := .ref si_2) hx hb htb i_Paper hown hK hP i_2 hg_2 rfl 1 (by decide) (htb _ q2_198) (fun _ h9 => h9) rfl d_Rsa_isSigned_50 ?_
        refine lv_iload_n hx hb d_Rsa_isSigned_53 rfl (lv_at hl 0 rfl) ?_
        have h54 : vp_in v4 16 := vp_in_of2 p6 p15 (by omega)
        refine va_iald hx hb hK hP i_3 1 hg_3 rfl h54 d_Rsa_isSigned_54 ?_
        refine lv_topi (fun e54 he54 => ?_)
        refine lv_iconst (v := 1) hx hb d_Rsa_isSigned_55 (by decide) ?_
        refine w_join (J := fun jv56 => bz jv56 (jv56 = 1)) (pc := 64) (ls := ls) (rest := []) (fun jv56 hjv56 => ?_) (fun k64 => ?_)
        · skip
          exact W.zret (v := jv56) hx hb hr (bz_n hjv56) (fun t ht hW => ⟨⟨_, G, rfl, ⟨⟨_, hL, hTy⟩, hFR, hjv56⟩, by rw [ht]; exact hP, va_K.moved hW.alike hK, hD⟩, hS.F ht⟩) hS.2.2 d_Rsa_isSigned_64
        · skip
          refine lv_icmp_ne (tgt := 63) hx hb d_Rsa_isSigned_56 (by decide) (fun c56 => ?_) (fun c56 => ?_)
          · have p56 : ¬ (e54 = (1 : Int32)) := c56
            refine lv_iconst (v := 0) hx hb d_Rsa_isSigned_63 (by decide) ?_
            exact k64 _ (bz_f (by decide))
          · have p56 : e54 = (1 : Int32) := c56
            refine lv_iconst (v := 1) hx hb d_Rsa_isSigned_59 (by decide) ?_
            refine lv_goto (tgt := 64) hx hb d_Rsa_isSigned_60 (by decide) ?_
            exact k64 _ (bz_t rfl)
      · have p26 : e25 = (0 : Int32) := c26
        refine lv_aload_n hx hb d_Rsa_isSigned_29 rfl (lv_at hl 2 rfl) ?_
        refine va_get (v := .ref si_2) hx hb htb i_Paper hown hK hP i_2 hg_2 rfl 1 (by decide) (htb _ q2_198) (fun _ h9 => h9) rfl d_Rsa_isSigned_30 ?_
        refine lv_iload_n hx hb d_Rsa_isSigned_33 rfl (lv_at hl 0 rfl) ?_
        refine lv_aload_n hx hb d_Rsa_isSigned_34 rfl (lv_at hl 1 rfl) ?_
        refine lv_aload_n hx hb d_Rsa_isSigned_35 rfl (lv_at hl 2 rfl) ?_
        refine lv_aload_n hx hb d_Rsa_isSigned_36 rfl (lv_at hl 3 rfl) ?_
        have hFc := va_free (wc := G) hD hS hA (List.range G.length) (rg_is _)
        obtain ⟨i_5, mo_5, sq_5, ba_5, po_5, un_5, su_5, iv_5, kmo_5, ksq_5, kba_5, kpo_5, kun_5, ksu_5, hg_5⟩ := ty_10 hTy kh
        refine va_calli (mu_runV (As := [.ref g, .ref c9]) (rest := [.int v4, .ref si_2]) ⟨hx, hb, hml, hown, hts⟩ tbin (m_verifiesP l dC dI sb γ κ Ad ν ω L G h g c9 _ _ _ s.heap.size hTy kh kg kc9 hL h1) q5_180 q5_182 qp_20 q1_6 q5_183 (n := 2) (by decide +kernel) rfl ⟨rfl, rfl⟩ ⟨Nat.le_of_ble_eq_true rfl, Nat.le_of_ble_eq_true rfl⟩ ⟨Nat.le_of_ble_eq_true rfl, Nat.le_of_ble_eq_true rfl⟩ hN (hT0.keep hS hAs) hAs (Nat.le_trans hB0 hS.1) hK hP hD (List.range G.length) (rg_nd _) (rg_is _) [0, 1, 2, 3] rfl i_5 7 hg_5 rfl rfl hl.1 rfl (Nat.le_of_ble_eq_true rfl) d_Rsa_isSigned_37) hS (fun q _ h => hFc q h) hFc (fun r37 G_4 tS H37 locs ht hvm hw37 hB hz1 hk1 hS => ?_)
        obtain ⟨⟨L37, hL37, hTy⟩, hF9, hr37⟩ := hw37
        have hFR := hFR.tr hF9
        obtain ⟨hP1, hK1, hD1⟩ := hB
        rw [ht] at hP1
        have hP : va_P (dC, dI) classes G_4 H37 := hP1
        have hD : va_D A G_4 := hD1.weaken (fun _ _ _ h => hFc _ h)
        refine lv_if_eq (tgt := 47) hx hb d_Rsa_isSigned_40 (by decide) (fun c40 => ?_) (fun c40 => ?_)
        · have p40 : r37 = (0 : Int32) := c40
          refine lv_iconst (v := 2) hx hb d_Rsa_isSigned_47 (by decide) ?_
          obtain ⟨i_6, f_6, hn_6, hg_6⟩ := ty_6 hTy ksi_2
          have h48 : vp_in v4 16 := vp_in_of2 p6 p15 (by omega)
          refine va_iast hx hb hK hP hD hS i_6 1 hg_6 rfl h48 d_Rsa_isSigned_48 (fun H48 locs hP hD2 hS => ?_)
          have hP : va_P (dC, dI) classes (G_4.set i_6 (si_2, .inl (γ.2.1, 16, .inl (upd f_6 v4.toNatClampNeg 2)))) H48 := hP
          have hD3 : va_D A (G_4.set i_6 (si_2, .inl (γ.2.1, 16, .inl (upd f_6 v4.toNatClampNeg 2)))) := hD2
          have hFR := hFR.tr (FR.set (c' := .inl (γ.2.1, 16, .inl (upd f_6 v4.toNatClampNeg 2))) hg_6 ksi_2.1)
          have hTy := TY.set (c' := .inl (γ.2.1, 16, .inl (upd f_6 v4.toNatClampNeg 2))) hTy hg_6 (ok_6 ksi_2 hn_6 _)
          have hD := hD3
          clear hD3 hD2
          generalize G_4.set i_6 (si_2, .inl (γ.2.1, 16, .inl (upd f_6 v4.toNatClampNeg 2))) = G_7 at hP hD hTy hFR 
          refine lv_aload_n hx hb d_Rsa_isSigned_49 rfl (lv_at hl 2 rfl) ?_
          obtain ⟨i_8, ha_8, si_8, en_8, bo_8, sg_8, is_8, kha_8, ksi_8, ken_8, ⟨z5_8, kbo_8⟩, ⟨z6_8, ksg_8⟩, ⟨z7_8, kis_8⟩, hg_8⟩ := ty_9 hTy kg
          refine va_get (v := .ref si_8) hx hb htb i_Paper hown hK hP i_8 hg_8 rfl 1 (by decide) (htb _ q2_198) (fun _ h9 => h9) rfl d_Rsa_isSigned_50 ?_
          refine lv_iload_n hx hb d_Rsa_isSigned_53 rfl (lv_at hl 0 rfl) ?_
          obtain ⟨i_9, f_9, hn_9, hg_9⟩ := ty_6 hTy ksi_8
          have h54 : vp_in v4 16 := vp_in_of2 p6 p15 (by omega)
          refine va_iald hx hb hK hP i_9 1 hg_9 rfl h54 d_Rsa_isSigned_54 ?_
          refine lv_topi (fun e54 he54 => ?_)
          refine lv_iconst (v := 1) hx hb d_Rsa_isSigned_55 (by decide) ?_
          refine w_join (J := fun jv56 => bz jv56 (jv56 = 1)) (pc := 64) (ls := ls) (rest := []) (fun jv56 hjv56 => ?_) (fun k64 => ?_)
          · skip
            exact W.zret (v := jv56) hx hb hr (bz_n hjv56) (fun t ht hW => ⟨⟨_, G_7, rfl, ⟨⟨_, hL37, hTy⟩, hFR, hjv56⟩, by rw [ht]; exact hP, va_K.moved hW.alike hK, hD⟩, hS.F ht⟩) hS.2.2 d_Rsa_isSigned_64
          · skip
            refine lv_icmp_ne (tgt := 63) hx hb d_Rsa_isSigned_56 (by decide) (fun c56 => ?_) (fun c56 => ?_)
            · have p56 : ¬ (e54 = (1 : Int32)) := c56
              refine lv_iconst (v := 0) hx hb d_Rsa_isSigned_63 (by decide) ?_
              exact k64 _ (bz_f (by decide))
            · have p56 : e54 = (1 : Int32) := c56
              refine lv_iconst (v := 1) hx hb d_Rsa_isSigned_59 (by decide) ?_
              refine lv_goto (tgt := 64) hx hb d_Rsa_isSigned_60 (by decide) ?_
              exact k64 _ (bz_t rfl)
        · have p40 : ¬ (r37 = (0 : Int32)) := c40
          refine lv_iconst (v := 1) hx hb d_Rsa_isSigned_43 (by decide) ?_
          refine lv_goto (tgt := 48) hx hb d_Rsa_isSigned_44 (by decide) ?_
          obtain ⟨i_10, f_10, hn_10, hg_10⟩ := ty_6 hTy ksi_2
          have h48 : vp_in v4 16 := vp_in_of2 p6 p15 (by omega)
          refine va_iast hx hb hK hP hD hS i_10 1 hg_10 rfl h48 d_Rsa_isSigned_48 (fun H48 locs hP hD2 hS => ?_)
          have hP : va_P (dC, dI) classes (G_4.set i_10 (si_2, .inl (γ.2.1, 16, .inl (upd f_10 v4.toNatClampNeg 1)))) H48 := hP
          have hD3 : va_D A (G_4.set i_10 (si_2, .inl (γ.2.1, 16, .inl (upd f_10 v4.toNatClampNeg 1)))) := hD2
          have hFR := hFR.tr (FR.set (c' := .inl (γ.2.1, 16, .inl (upd f_10 v4.toNatClampNeg 1))) hg_10 ksi_2.1)
          have hTy := TY.set (c' := .inl (γ.2.1, 16, .inl (upd f_10 v4.toNatClampNeg 1))) hTy hg_10 (ok_6 ksi_2 hn_10 _)
          have hD := hD3
          clear hD3 hD2
          generalize G_4.set i_10 (si_2, .inl (γ.2.1, 16, .inl (upd f_10 v4.toNatClampNeg 1))) = G_11 at hP hD hTy hFR 
          refine lv_aload_n hx hb d_Rsa_isSigned_49 rfl (lv_at hl 2 rfl) ?_
          obtain ⟨i_12, ha_12, si_12, en_12, bo_12, sg_12, is_12, kha_12, ksi_12, ken_12, ⟨z5_12, kbo_12⟩, ⟨z6_12, ksg_12⟩, ⟨z7_12, kis_12⟩, hg_12⟩ := ty_9 hTy kg
          refine va_get (v := .ref si_12) hx hb htb i_Paper hown hK hP i_12 hg_12 rfl 1 (by decide) (htb _ q2_198) (fun _ h9 => h9) rfl d_Rsa_isSigned_50 ?_
          refine lv_iload_n hx hb d_Rsa_isSigned_53 rfl (lv_at hl 0 rfl) ?_
          obtain ⟨i_13, f_13, hn_13, hg_13⟩ := ty_6 hTy ksi_12
          have h54 : vp_in v4 16 := vp_in_of2 p6 p15 (by omega)
          refine va_iald hx hb hK hP i_13 1 hg_13 rfl h54 d_Rsa_isSigned_54 ?_
          refine lv_topi (fun e54 he54 => ?_)
          refine lv_iconst (v := 1) hx hb d_Rsa_isSigned_55 (by decide) ?_
          refine w_join (J := fun jv56 => bz jv56 (jv56 = 1)) (pc := 64) (ls := ls) (rest := []) (fun jv56 hjv56 => ?_) (fun k64 => ?_)
          · skip
            exact W.zret (v := jv56) hx hb hr (bz_n hjv56) (fun t ht hW => ⟨⟨_, G_11, rfl, ⟨⟨_, hL37, hTy⟩, hFR, hjv56⟩, by rw [ht]; exact hP, va_K.moved hW.alike hK, hD⟩, hS.F ht⟩) hS.2.2 d_Rsa_isSigned_64
          · skip
            refine lv_icmp_ne (tgt := 63) hx hb d_Rsa_isSigned_56 (by decide) (fun c56 => ?_) (fun c56 => ?_)
            · have p56 : ¬ (e54 = (1 : Int32)) := c56
              refine lv_iconst (v := 0) hx hb d_Rsa_isSigned_63 (by decide) ?_
              exact k64 _ (bz_f (by decide))
            · have p56 : e54 = (1 : Int32) := c56
              refine lv_iconst (v := 1) hx hb d_Rsa_isSigned_59 (by decide) ?_
              refine lv_goto (tgt := 64) hx hb d_Rsa_isSigned_60 (by decide) ?_
              exact k64 _ (bz_t rfl)
    · have p15 : ¬ (v4 < (nI 16)) := c15
      refine lv_iconst (v := 0) hx hb d_Rsa_isSigned_18 (by decide) ?_
      exact W.zret (v := 0) hx hb hr rfl (fun t ht hW => ⟨⟨_, G, rfl, ⟨⟨_, hL, hTy⟩, hFR, bz_f (by decide)⟩, by rw [ht]; exact hP, va_K.moved hW.alike hK, hD⟩, hS.F ht⟩) hS.2.2 d_Rsa_isSigned_19
