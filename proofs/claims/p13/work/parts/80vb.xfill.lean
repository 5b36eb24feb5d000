/-! Arrays.fill, exactly. -/
set_option maxHeartbeats 4000000 in
set_option maxRecDepth 100000 in
theorem x_fill (l : Launch) (dC : Nat → ClassId) (dI : Nat → Nat → Nat) (sb : sB) (t n : Nat) (cJ : ClassId) (f : Nat → Int64) (v : Int64) (sz : Nat) (hn : n < 2 ^ 30) : Met l y_Arrays_fill w_Arrays_fill ({ frames := 0, cells := 0, slots := 0, locals := 0 }) (mu_P [.ref t, .long v] (dC, dI) sb [(t, .inl (cJ, n, .inr (.inl f)))] [(cJ, .long)] sz) (va_Qv (fun (_u : Unit) => True) (mu_B (dC, dI) [(cJ, .long)] (va_A [(t, .inl (cJ, n, .inr (.inl f)))] sz) (fun _ : Unit => [(t, .inl (cJ, n, .inr (.inl (flL f v n))))])) (va_A [(t, .inl (cJ, n, .inr (.inl f)))] sz)) 0 0 (va_A [(t, .inl (cJ, n, .inr (.inl f)))] sz) := by
  refine Met.ofW (cc := b_Arrays_fill) (maxL := 5) (ret := none) (by decide) rfl ?_
  intro p e s m args below meth c s₁ B hml hv
  obtain ⟨rfl, hsz, hB0, hP, hK, hD0, hN, hT0⟩ := hv
  have hx := B.exec
  have hb := B.bytes
  have hr := B.returns
  have hts := atoms_spec (ws := w_Arrays_fill) B.pre
  have tbin : ∀ w ∈ tb, w ∈ w_Arrays_fill := fun w h => List.mem_cons_of_mem _ h
  have htb : ∀ w ∈ tb, w.before _ s = true := fun w h => hts w (tbin w h)
  have hown : s.vm.findClass "java/util/Arrays" = some m.cls := findClass_of_methodNamed B.named
  have hlocks := B.notSynchronized
  subst hsz
  have hD := hD0.self (sz := s.heap.size)
  generalize hAe : va_A [(t, .inl (cJ, n, .inr (.inl f)))] s.heap.size = A at hD ⊢
  have hA : ∀ q : Nat, s.heap.size ≤ q → A q := fun q h => by rw [← hAe]; exact Or.inr h
  have hAs : ∀ q : Nat, A q → sb.1 ≤ q := fun q h => by
    rw [← hAe] at h
    rcases h with ⟨k, e, h⟩ | h
    · exact hD0.2 k _ h
    · exact Nat.le_trans hB0 h
  have hS : va_S A s.heap s.heap [] := va_S.rf
  have hcs : 0 ≤ (headSpec w_Arrays_fill ({ frames := 0, cells := 0, slots := 0, locals := 0 })).room.cells ∧ 0 ≤ (headSpec w_Arrays_fill ({ frames := 0, cells := 0, slots := 0, locals := 0 })).room.slots := ⟨Nat.le_refl _, Nat.le_refl _⟩
  have hP : va_P (dC, dI) classes [(t, .inl (cJ, n, .inr (.inl f)))] s.heap := hP
  have hl := lv_entry ([.ref t, .long v]) (n := 5) (Nat.le_of_ble_eq_true rfl)
  rw [lg_entry_eq]
  generalize (lg_sl ([.ref t, .long v]) ++ List.replicate (5 - (lg_sl ([.ref t, .long v])).length) Slot.unset).toArray = ls at hl ⊢
  have hl : lv_has ls 5 [(0, .ref t), (1, .long v)] := hl
  refine lv_iconst (v := 0) hx hb d_Arrays_fill_0 (by decide) ?_
  refine lv_istore_n (lv' := [(3, .int 0), (0, .ref t), (1, .long v)]) hx hb d_Arrays_fill_1 rfl hl (by decide) rfl (fun ls hl => ?_)
  rw [← flL_0 f v] at hP hD
  have hP : va_P (dC, dI) classes [(t, .inl (cJ, n, .inr (.inl (flL f v 0))))] s.heap := hP
  have hD : va_D A [(t, .inl (cJ, n, .inr (.inl (flL f v 0))))] := hD
  refine lv_aload_n hx hb d_Arrays_fill_2 rfl (lv_at hl 1 rfl) ?_
  refine va_alen (v := nI n) hx hb hK hP 0 0 rfl rfl rfl d_Arrays_fill_3 ?_
  refine lv_istore (lv' := [(4, .int (nI n)), (3, .int 0), (0, .ref t), (1, .long v)]) hx hb d_Arrays_fill_4 hl (by decide) rfl (fun ls hl => ?_)
  refine w_loopW (α := Nat) (fun k => k ≤ n) (fun k => n - k) (fun k => [(0, .ref t), (1, .long v), (3, .int (nI k)), (4, .int (nI n))]) (fun _ => []) (fun k => [(t, .inl (cJ, n, .inr (.inl (flL f v k))))]) 5 6 (fun k HL6 locs ls hJ hP hD hS hl ih => ?_) 0 _ _ ls (Nat.zero_le _) hP hD hS (lv_sub hl [2, 3, 1, 0] rfl)
  have hP : va_P (dC, dI) classes [(t, .inl (cJ, n, .inr (.inl (flL f v k))))] HL6 := hP
  have hD : va_D A [(t, .inl (cJ, n, .inr (.inl (flL f v k))))] := hD
  refine lv_iload_n hx hb d_Arrays_fill_6 rfl (lv_at hl 2 rfl) ?_
  refine lv_iload hx hb d_Arrays_fill_7 (lv_at hl 3 rfl) ?_
  refine lv_icmp_ge (tgt := 22) hx hb d_Arrays_fill_9 (by decide) (fun c9 => ?_) (fun c9 => ?_)
  · have p9 : n ≤ k := ((nI_leI (a := n) (b := k) (by omega) (by omega)).mp c9)
    have hkn : k = n := by omega
    subst hkn
    exact W.vret hx hb hr (fun t ht hW => ⟨⟨(), rfl, trivial, by rw [ht]; exact hP, va_K.moved hW.alike hK, hD⟩, hS.F ht⟩) hS.2.2 d_Arrays_fill_22
  · have p9 : ¬ (n ≤ k) := (fun q9 => c9 ((nI_leI (a := n) (b := k) (by omega) (by omega)).mpr q9))
    refine lv_aload_n hx hb d_Arrays_fill_12 rfl (lv_at hl 0 rfl) ?_
    refine lv_iload_n hx hb d_Arrays_fill_13 rfl (lv_at hl 2 rfl) ?_
    refine lv_lload_n hx hb d_Arrays_fill_14 rfl (lv_at hl 1 rfl) ?_
    have h15 : vp_in (nI k) n := vp_in_nI (by omega) (by omega)
    refine va_last hx hb hK hP hD hS 0 0 rfl rfl h15 d_Arrays_fill_15 (fun H15 locs hP hD hS => ?_)
    rw [nI_clamp (by omega), flL_s] at hP hD
    have hP : va_P (dC, dI) classes [(t, .inl (cJ, n, .inr (.inl (flL f v (k + 1)))))] H15 := hP
    have hD : va_D A [(t, .inl (cJ, n, .inr (.inl (flL f v (k + 1)))))] := hD
    refine lv_iinc (v := nI (k + 1)) (lv' := [(3, .int (nI (k + 1))), (0, .ref t), (1, .long v), (4, .int (nI n))]) hx hb d_Arrays_fill_16 hl (k := 2) rfl (nI_1 _) (by decide) rfl (fun ls hl => ?_)
    refine lv_goto (tgt := 6) hx hb d_Arrays_fill_19 (by decide) ?_
    exact ih (k + 1) _ _ ls (by omega) (by omega) hP hD hS (lv_sub hl [1, 2, 0, 3] rfl)
