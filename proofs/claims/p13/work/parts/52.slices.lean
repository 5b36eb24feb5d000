/-! Pure calls over worlds with blocks; lists of slices; a loop's function. -/
section PUD
variable {p : Program} {l : Launch} {e : Env} {R : Room} {s : State} {m : MethodId} {args : Array Value} {below : List Frame} {meth : Method} {c : Code} {H : Heap} {locs : List Loc} {cells slots : Nat} {Q : State → Prop}
variable {pc : Nat} {ls : Array Slot} {rest st0 : List Value} {cc bytes : ByteArray} {nL maxL index : Nat} {Ts : List Cond} {own C : String} {y : MethodName} {ret : Option FieldType} {rm : Room} {D : va_G} {ws wsB : va_W} {tys tysB : List (ClassId × FieldType)} {As : List Value} {b : Nat} {fs : List Value} {q : vw_C} {n : Nat} {sb : sB}
theorem pu_preD {av : List Value} (hN : nwOK sb s) (hT : stOK sb s H) (hK : va_K D classes tysB s) (hP : va_P D classes ws H) (ts : List Nat) (ht : ts.filterMap (fun i => tysB[i]?) = tys) :
    ∀ U : State, U.heap = H → s.WarmedH U.vm → pu_P av D sb ws tys av.toArray U := fun U hU hW => ⟨rfl, by rw [hU]; exact hP, va_K.moved hW.alike (hK.sub ts ht), hN.warm hW, by rw [hU]; exact hT.moved hW.alike⟩
theorem pd_callU {owner : String} {x : MethodName} {Qc : Array Value → State → Outcome → State → Prop} (S : CallFix p m c cc nL s args Ts own) (hM : Met l y (Cond.code y bytes maxL ret :: tb) rm (pu_P (.ref b :: As) D sb ws tys) Qc 0 0 (fun _ => False))
    (hCU : va_CU R s args own C owner index x y bytes maxL ret (Cond.code y bytes maxL ret :: tb) rm 0 0 n) (hn : As.length = n) (hf : cells ≤ R.cells ∧ slots ≤ R.slots)
    (hN : nwOK sb s) (hT : stOK sb s H) (hK : va_K D classes tysB s) (hP : va_P D classes wsB H) (hPc : va_P D classes ws H) (ts : List Nat) (ht : ts.filterMap (fun i => tysB[i]?) = tys)
    (q0 ci : Nat) (he : wsB[q0]? = some (b, .inr (ci, fs))) (hc : classes[ci]? = some q) (hq : q.1 = C)
    (hsize : ls.size = nL) (hstack : st0 = As.reverse ++ .ref b :: rest) (hW : (rest.map fun v => v.category).sum ≤ 8) (hdg : decode cc pc = .ok (.invokevirtual index, 3)) :
    CallRun p l e R s m args below meth c H locs cells slots 0 0 (F0 m pc ls st0) rest (Qc (Value.ref b :: As).toArray) (fun _ => False) := by
  subst hstack
  subst hn
  subst hq
  exact va_Run.run (va_runU (As := As) (rest := rest) S hM hCU ⟨pu_blind, va_recv hK hP hc he, pu_preD hN hT hK hPc ts ht⟩ rfl rfl hsize rfl (lv_room hW) hdg ⟨hf.1, hf.2⟩)
end PUD
theorem va_P.pick {D : va_G} {ws : va_W} {H : Heap} {q : Nat × va_E} (h : va_P D classes ws H) (hm : q ∈ ws) : va_P D classes (q :: ws) H := fun k z hk => by
  cases k with
  | zero =>
    obtain ⟨j, hj⟩ := List.getElem?_of_mem hm
    cases hk
    exact h j _ hj
  | succ k => exact h k z hk
/-- a slice of the text at t -/
def slc (t q a b : Nat) : Nat × va_E := (q, .inr (0, [.ref t, .int (nI a), .int (nI b)]))
/-- a list's entries: slices of the text, as the pool pl holds them -/
def elS (t n : Nat) (pl : va_W) (o : alD) (D : List (Nat × Nat)) : Prop := alI o D.length ∧ ∀ i, i < D.length → (D.getD i (0, 0)).1 ≤ (D.getD i (0, 0)).2 ∧ (D.getD i (0, 0)).2 ≤ n ∧ ∃ q, alF o i = some q ∧ slc t q (D.getD i (0, 0)).1 (D.getD i (0, 0)).2 ∈ pl
theorem elS.toF {t n : Nat} {pl W : va_W} {o : alD} {D : List (Nat × Nat)} (h : elS t n pl o D) (hm : ∀ q ∈ pl, q ∈ W) : elF W 0 (alF o) D.length := fun i y hi hy => by
  obtain ⟨-, -, q, h1, h2⟩ := h.2 i hi
  rw [h1] at hy
  cases hy
  obtain ⟨k, hk⟩ := List.getElem?_of_mem (hm _ h2)
  exact ⟨k, _, hk⟩
theorem elS.mono {t n : Nat} {pl pl' : va_W} {o : alD} {D : List (Nat × Nat)} (h : elS t n pl o D) (hm : ∀ q ∈ pl, q ∈ pl') : elS t n pl' o D := ⟨h.1, fun i hi => by
  obtain ⟨a, b, q, h1, h2⟩ := h.2 i hi
  exact ⟨a, b, q, h1, hm _ h2⟩⟩
theorem elS.nil (t n : Nat) (pl : va_W) : elS t n pl none [] := ⟨rfl, fun i hi => absurd hi (Nat.not_lt_zero i)⟩
theorem getD_snoc {α : Type} (D : List α) (x d : α) (i : Nat) : (i < D.length → (D ++ [x]).getD i d = D.getD i d) ∧ (i = D.length → (D ++ [x]).getD i d = x) := by
  refine ⟨fun h => ?_, fun h => ?_⟩
  · simp [List.getD_eq_getElem?_getD, List.getElem?_append_left h]
  · subst h
    simp [List.getD_eq_getElem?_getD]
theorem elS.snoc {t n : Nat} {pl pl' : va_W} {o o' : alD} {D : List (Nat × Nat)} {q a b : Nat} (h : elS t n pl o D) (hm : ∀ q ∈ pl, q ∈ pl') (hi : alI o' (D.length + 1)) (hf : ∀ j, j < D.length → alF o' j = alF o j) (hv : alF o' D.length = some q) (hq : slc t q a b ∈ pl') (hab : a ≤ b) (hb : b ≤ n) : elS t n pl' o' (D ++ [(a, b)]) := by
  refine ⟨by rw [List.length_append]; exact hi, fun i hi => ?_⟩
  rw [List.length_append] at hi
  have hi : i < D.length + 1 := hi
  rcases Nat.lt_succ_iff_lt_or_eq.mp hi with h1 | h1
  · rw [(getD_snoc D (a, b) (0, 0) i).1 h1, hf i h1]
    obtain ⟨a1, b1, q1, h2, h3⟩ := h.2 i h1
    exact ⟨a1, b1, q1, h2, hm _ h3⟩
  · rw [(getD_snoc D (a, b) (0, 0) i).2 h1]
    subst h1
    exact ⟨hab, hb, q, hv, hq⟩
/-- for (k = 0; k < N and (first or M); k++) B -/
noncomputable def loopF {σ : Type} (B : σ → σ) (M : σ → Prop) : Nat → Bool → σ → σ
  | 0, _, s => s
  | f + 1, b, s => @ite _ (b = true ∨ M s) (Classical.propDecidable _) (loopF B M f false (B s)) s
theorem loop_go {σ : Type} {B : σ → σ} {M : σ → Prop} {N k : Nat} {b : Bool} {s r : σ} (h : loopF B M (N - k) b s = r) (hk : k < N) (hp : b = true ∨ M s) : loopF B M (N - (k + 1)) false (B s) = r := by
  rw [← h, show N - k = (N - (k + 1)) + 1 by omega]
  exact (if_pos hp).symm
theorem loop_at {σ : Type} {B : σ → σ} {M : σ → Prop} {N k : Nat} {b : Bool} {s r : σ} (h : loopF B M (N - k) b s = r) (hk : k < N) (hp : ¬ (b = true ∨ M s)) : s = r := by
  rw [← h, show N - k = (N - (k + 1)) + 1 by omega]
  exact (if_neg hp).symm
theorem loop_end {σ : Type} {B : σ → σ} {M : σ → Prop} {N k : Nat} {b : Bool} {s r : σ} (h : loopF B M (N - k) b s = r) (hk : k = N) : s = r := by
  rw [← h, hk, Nat.sub_self]
  rfl

def visN (u : Nat → Nat) (a b : Nat) : Prop := ∀ j, j < b - a → 33 ≤ u (a + j) ∧ u (a + j) ≤ 126
def sameS (u : Nat → Nat) (p : Nat × Nat) (a b : Nat) : Prop := p.2 - p.1 = b - a ∧ eqN u u p.1 a (p.2 - p.1)
def repP (u : Nat → Nat) (D : List (Nat × Nat)) (a b : Nat) : Prop := ∃ i, i < D.length ∧ sameS u (D.getD i (0, 0)) a b
def y_CertificateReader_isVisible : MethodName := ⟨"TrustChain$CertificateReader", "isVisible", "(LTrustChain$Slice;)Z"⟩
abbrev b_CertificateReader_isVisible : ByteArray := prog_3_method_11_code
def w_CertificateReader_isVisible : List Cond := Cond.code y_CertificateReader_isVisible b_CertificateReader_isVisible 2 ((some FieldType.boolean)) :: tb
theorem d_CertificateReader_isVisible_0 : decode b_CertificateReader_isVisible 0 = .ok (.iconst 0, 1) := by decide +kernel
theorem d_CertificateReader_isVisible_1 : decode b_CertificateReader_isVisible 1 = .ok (.istore_n 1, 1) := by decide +kernel
theorem d_CertificateReader_isVisible_2 : decode b_CertificateReader_isVisible 2 = .ok (.iload_n 1, 1) := by decide +kernel
theorem d_CertificateReader_isVisible_3 : decode b_CertificateReader_isVisible 3 = .ok (.aload_n 0, 1) := by decide +kernel
theorem d_CertificateReader_isVisible_4 : decode b_CertificateReader_isVisible 4 = .ok (.invokevirtual 153, 3) := by decide +kernel
theorem d_CertificateReader_isVisible_7 : decode b_CertificateReader_isVisible 7 = .ok (.if_icmp .ge 31, 3) := by decide +kernel
theorem d_CertificateReader_isVisible_10 : decode b_CertificateReader_isVisible 10 = .ok (.aload_n 0, 1) := by decide +kernel
theorem d_CertificateReader_isVisible_11 : decode b_CertificateReader_isVisible 11 = .ok (.iload_n 1, 1) := by decide +kernel
theorem d_CertificateReader_isVisible_12 : decode b_CertificateReader_isVisible 12 = .ok (.invokevirtual 144, 3) := by decide +kernel
theorem d_CertificateReader_isVisible_15 : decode b_CertificateReader_isVisible 15 = .ok (.bipush 33, 2) := by decide +kernel
theorem d_CertificateReader_isVisible_17 : decode b_CertificateReader_isVisible 17 = .ok (.if_icmp .lt 13, 3) := by decide +kernel
theorem d_CertificateReader_isVisible_20 : decode b_CertificateReader_isVisible 20 = .ok (.aload_n 0, 1) := by decide +kernel
theorem d_CertificateReader_isVisible_21 : decode b_CertificateReader_isVisible 21 = .ok (.iload_n 1, 1) := by decide +kernel
theorem d_CertificateReader_isVisible_22 : decode b_CertificateReader_isVisible 22 = .ok (.invokevirtual 144, 3) := by decide +kernel
theorem d_CertificateReader_isVisible_25 : decode b_CertificateReader_isVisible 25 = .ok (.bipush 126, 2) := by decide +kernel
theorem d_CertificateReader_isVisible_27 : decode b_CertificateReader_isVisible 27 = .ok (.if_icmp .le 5, 3) := by decide +kernel
theorem d_CertificateReader_isVisible_30 : decode b_CertificateReader_isVisible 30 = .ok (.iconst 0, 1) := by decide +kernel
theorem d_CertificateReader_isVisible_31 : decode b_CertificateReader_isVisible 31 = .ok (.ireturn, 1) := by decide +kernel
theorem d_CertificateReader_isVisible_32 : decode b_CertificateReader_isVisible 32 = .ok (.iinc 1 1, 3) := by decide +kernel
theorem d_CertificateReader_isVisible_35 : decode b_CertificateReader_isVisible 35 = .ok (.goto (-33), 3) := by decide +kernel
theorem d_CertificateReader_isVisible_38 : decode b_CertificateReader_isVisible 38 = .ok (.iconst 1, 1) := by decide +kernel
theorem d_CertificateReader_isVisible_39 : decode b_CertificateReader_isVisible 39 = .ok (.ireturn, 1) := by decide +kernel
set_option maxHeartbeats 4000000 in
set_option maxRecDepth 100000 in
theorem c_isVisible (l : Launch) (dC : Nat → ClassId) (dI : Nat → Nat → Nat) (sb : sB) (q t a b n : Nat) (cB : ClassId) (u : Nat → Nat) (hu : ∀ j, u j < 256) (hab : a ≤ b) (hbn : b ≤ n) (hn : n < 2 ^ 30) : Met l y_CertificateReader_isVisible w_CertificateReader_isVisible ({ frames := 1, cells := 0, slots := 0, locals := 22 }) (pu_P [.ref q] (dC, dI) sb [(q, .inr (0, [.ref t, .int (nI a), .int (nI b)])), (t, .inl (cB, n, .inl (tx u)))] [(cB, .byte)]) (vp_Si (fun r => bz r (visN u a b))) 0 0 (fun _ => False) := by
  refine Met.ofW (cc := b_CertificateReader_isVisible) (maxL := 2) (ret := (some FieldType.boolean)) (by decide) rfl ?_
  intro p e s m args below meth c s₁ B hml hv
  obtain ⟨rfl, hP, hK, hN, hT0⟩ := hv
  have hx := B.exec
  have hb := B.bytes
  have hr := B.returns
  have hts := atoms_spec (ws := w_CertificateReader_isVisible) B.pre
  have tbin : ∀ w ∈ tb, w ∈ w_CertificateReader_isVisible := fun w h => List.mem_cons_of_mem _ h
  have htb : ∀ w ∈ tb, w.before _ s = true := fun w h => hts w (tbin w h)
  have hown : s.vm.findClass "TrustChain$CertificateReader" = some m.cls := findClass_of_methodNamed B.named
  have hlocks := B.notSynchronized
  have hcs : 0 ≤ (headSpec w_CertificateReader_isVisible ({ frames := 1, cells := 0, slots := 0, locals := 22 })).room.cells ∧ 0 ≤ (headSpec w_CertificateReader_isVisible ({ frames := 1, cells := 0, slots := 0, locals := 22 })).room.slots := ⟨Nat.zero_le _, Nat.zero_le _⟩
  have hP : va_P (dC, dI) classes [(q, .inr (0, [.ref t, .int (nI a), .int (nI b)])), (t, .inl (cB, n, .inl (tx u)))] s.heap := hP
  have hl := lv_entry ([.ref q]) (n := 2) (Nat.le_of_ble_eq_true rfl)
  rw [lg_entry_eq]
  generalize (lg_sl ([.ref q]) ++ List.replicate (2 - (lg_sl ([.ref q])).length) Slot.unset).toArray = ls at hl ⊢
  have hl : lv_has ls 2 [(0, .ref q)] := hl
  refine lv_iconst (v := 0) hx hb d_CertificateReader_isVisible_0 (by decide) ?_
  refine lv_istore_n (lv' := [(1, .int 0), (0, .ref q)]) hx hb d_CertificateReader_isVisible_1 rfl hl (by decide) rfl (fun ls hl => ?_)
  refine w_loop (α := Nat) (fun k => k ≤ b - a ∧ ∀ j, j < k → 33 ≤ u (a + j) ∧ u (a + j) ≤ 126) (fun k => b - a - k) (fun k => [(0, .ref q), (1, .int (nI k))]) (fun _ => []) 2 2 (fun k ls hJ hl ih => ?_) 0 ls (⟨Nat.zero_le _, fun j hj => absurd hj (Nat.not_lt_zero j)⟩) (lv_sub hl [1, 0] rfl)
  have hk9 := hJ.1
  refine lv_iload_n hx hb d_CertificateReader_isVisible_2 rfl (lv_at hl 1 rfl) ?_
  refine lv_aload_n hx hb d_CertificateReader_isVisible_3 rfl (lv_at hl 0 rfl) ?_
  refine vp_callSi (pu_callV (As := []) (rest := [.int (nI k)]) ⟨hx, hb, hml, hown, hts⟩ tbin (c_Slice_length l dC dI sb q t a b (by omega)) q4_49 q3_144 q3_145 q1_22 q3_146 (n := 0) (by decide +kernel) rfl ⟨rfl, rfl⟩ ⟨Nat.le_of_ble_eq_true rfl, Nat.le_of_ble_eq_true rfl⟩ ⟨Nat.le_of_ble_eq_true rfl, Nat.le_of_ble_eq_true rfl⟩ hN hT0 hK hP [0] rfl [] rfl 0 0 rfl rfl rfl hl.1 rfl (Nat.le_of_ble_eq_true rfl) d_CertificateReader_isVisible_4) (fun r4 hr4 => ?_)
  subst hr4
  refine lv_icmp_ge (tgt := 38) hx hb d_CertificateReader_isVisible_7 (by decide) (fun c7 => ?_) (fun c7 => ?_)
  · have p7 : (b - a) ≤ k := ((nI_leI (a := (b - a)) (b := k) (by omega) (by omega)).mp c7)
    refine lv_iconst (v := 1) hx hb d_CertificateReader_isVisible_38 (by decide) ?_
    exact W.zret (v := 1) hx hb hr (by decide) (fun t ht hW => ⟨_, rfl, bz_t (fun j hj => hJ.2 j (by omega)), ht⟩) (fun q h => by cases h) d_CertificateReader_isVisible_39
  · have p7 : ¬ ((b - a) ≤ k) := (fun q9 => c7 ((nI_leI (a := (b - a)) (b := k) (by omega) (by omega)).mpr q9))
    have hlt : k < b - a := by omega
    have huk := hu (a + k)
    refine lv_aload_n hx hb d_CertificateReader_isVisible_10 rfl (lv_at hl 0 rfl) ?_
    refine lv_iload_n hx hb d_CertificateReader_isVisible_11 rfl (lv_at hl 1 rfl) ?_
    refine vp_callSi (pu_callV (As := [.int (nI k)]) (rest := []) ⟨hx, hb, hml, hown, hts⟩ tbin (c_Slice_at l dC dI sb q t a b n cB u (nI k) hu hab hbn (by omega)) q4_48 q3_149 q3_150 q1_22 q3_151 (n := 1) (by decide +kernel) rfl ⟨rfl, rfl⟩ ⟨Nat.le_of_ble_eq_true rfl, Nat.le_of_ble_eq_true rfl⟩ ⟨Nat.le_of_ble_eq_true rfl, Nat.le_of_ble_eq_true rfl⟩ hN hT0 hK hP [0, 1] rfl [0] rfl 0 0 rfl rfl rfl hl.1 rfl (Nat.le_of_ble_eq_true rfl) d_CertificateReader_isVisible_12) (fun r12 hr12 => ?_)
    rw [sl_at_nI (by omega), if_pos (by omega)] at hr12
    subst hr12
    refine lv_bipush (v := 33) hx hb d_CertificateReader_isVisible_15 (by decide) ?_
    refine lv_icmp_lt (tgt := 30) hx hb d_CertificateReader_isVisible_17 (by decide) (fun c17 => ?_) (fun c17 => ?_)
    · have p17 : (u (a + k)) < 33 := ((nI_ltI (a := (u (a + k))) (b := 33) (by omega) (by omega)).mp c17)
      refine lv_iconst (v := 0) hx hb d_CertificateReader_isVisible_30 (by decide) ?_
      exact W.zret (v := 0) hx hb hr (by decide) (fun t ht hW => ⟨_, rfl, bz_f (fun z9 => by have := z9 k hlt; omega), ht⟩) (fun q h => by cases h) d_CertificateReader_isVisible_31
    · have p17 : ¬ ((u (a + k)) < 33) := (fun q9 => c17 ((nI_ltI (a := (u (a + k))) (b := 33) (by omega) (by omega)).mpr q9))
      refine lv_aload_n hx hb d_CertificateReader_isVisible_20 rfl (lv_at hl 0 rfl) ?_
      refine lv_iload_n hx hb d_CertificateReader_isVisible_21 rfl (lv_at hl 1 rfl) ?_
      refine vp_callSi (pu_callV (As := [.int (nI k)]) (rest := []) ⟨hx, hb, hml, hown, hts⟩ tbin (c_Slice_at l dC dI sb q t a b n cB u (nI k) hu hab hbn (by omega)) q4_48 q3_149 q3_150 q1_22 q3_151 (n := 1) (by decide +kernel) rfl ⟨rfl, rfl⟩ ⟨Nat.le_of_ble_eq_true rfl, Nat.le_of_ble_eq_true rfl⟩ ⟨Nat.le_of_ble_eq_true rfl, Nat.le_of_ble_eq_true rfl⟩ hN hT0 hK hP [0, 1] rfl [0] rfl 0 0 rfl rfl rfl hl.1 rfl (Nat.le_of_ble_eq_true rfl) d_CertificateReader_isVisible_22) (fun r22 hr22 => ?_)
      rw [sl_at_nI (by omega), if_pos (by omega)] at hr22
      subst hr22
      refine lv_bipush (v := 126) hx hb d_CertificateReader_isVisible_25 (by decide) ?_
      refine lv_icmp_le (tgt := 32) hx hb d_CertificateReader_isVisible_27 (by decide) (fun c27 => ?_) (fun c27 => ?_)
      · have p27 : (u (a + k)) ≤ 126 := ((nI_leI (a := (u (a + k))) (b := 126) (by omega) (by omega)).mp c27)
        refine lv_iinc (v := nI (k + 1)) (lv' := [(1, .int (nI (k + 1))), (0, .ref q)]) hx hb d_CertificateReader_isVisible_32 hl (k := 1) rfl (nI_1 _) (by decide) rfl (fun ls hl => ?_)
        refine lv_goto (tgt := 2) hx hb d_CertificateReader_isVisible_35 (by decide) ?_
        exact ih (k + 1) ls (by omega) (⟨by omega, fun j hj => (Nat.lt_succ_iff_lt_or_eq.mp hj).elim (hJ.2 j) (fun e9 => by rw [e9]; omega)⟩) (lv_sub hl [1, 0] rfl)
      · have p27 : ¬ ((u (a + k)) ≤ 126) := (fun q9 => c27 ((nI_leI (a := (u (a + k))) (b := 126) (by omega) (by omega)).mpr q9))
        refine lv_iconst (v := 0) hx hb d_CertificateReader_isVisible_30 (by decide) ?_
        exact W.zret (v := 0) hx hb hr (by decide) (fun t ht hW => ⟨_, rfl, bz_f (fun z9 => by have := z9 k hlt; omega), ht⟩) (fun q h => by cases h) d_CertificateReader_isVisible_31
def y_Reader_isRepeated : MethodName := ⟨"TrustChain$Reader", "isRepeated", "(LTrustChain$Slice;)Z"⟩
abbrev b_Reader_isRepeated : ByteArray := prog_8_method_32_code
def w_Reader_isRepeated : List Cond := Cond.code y_Reader_isRepeated b_Reader_isRepeated 3 ((some FieldType.boolean)) :: tb
theorem d_Reader_isRepeated_0 : decode b_Reader_isRepeated 0 = .ok (.iconst 0, 1) := by decide +kernel
theorem d_Reader_isRepeated_1 : decode b_Reader_isRepeated 1 = .ok (.istore_n 2, 1) := by decide +kernel
theorem d_Reader_isRepeated_2 : decode b_Reader_isRepeated 2 = .ok (.iload_n 2, 1) := by decide +kernel
theorem d_Reader_isRepeated_3 : decode b_Reader_isRepeated 3 = .ok (.aload_n 0, 1) := by decide +kernel
theorem d_Reader_isRepeated_4 : decode b_Reader_isRepeated 4 = .ok (.getfield 33, 3) := by decide +kernel
theorem d_Reader_isRepeated_7 : decode b_Reader_isRepeated 7 = .ok (.invokevirtual 178, 3) := by decide +kernel
theorem d_Reader_isRepeated_10 : decode b_Reader_isRepeated 10 = .ok (.if_icmp .ge 29, 3) := by decide +kernel
theorem d_Reader_isRepeated_13 : decode b_Reader_isRepeated 13 = .ok (.aload_n 0, 1) := by decide +kernel
theorem d_Reader_isRepeated_14 : decode b_Reader_isRepeated 14 = .ok (.getfield 33, 3) := by decide +kernel
theorem d_Reader_isRepeated_17 : decode b_Reader_isRepeated 17 = .ok (.iload_n 2, 1) := by decide +kernel
theorem d_Reader_isRepeated_18 : decode b_Reader_isRepeated 18 = .ok (.invokevirtual 181, 3) := by decide +kernel
theorem d_Reader_isRepeated_21 : decode b_Reader_isRepeated 21 = .ok (.checkcast 57, 3) := by decide +kernel
theorem d_Reader_isRepeated_24 : decode b_Reader_isRepeated 24 = .ok (.aload_n 1, 1) := by decide +kernel
theorem d_Reader_isRepeated_25 : decode b_Reader_isRepeated 25 = .ok (.invokevirtual 185, 3) := by decide +kernel
theorem d_Reader_isRepeated_28 : decode b_Reader_isRepeated 28 = .ok (.ifCond .eq 5, 3) := by decide +kernel
theorem d_Reader_isRepeated_31 : decode b_Reader_isRepeated 31 = .ok (.iconst 1, 1) := by decide +kernel
theorem d_Reader_isRepeated_32 : decode b_Reader_isRepeated 32 = .ok (.ireturn, 1) := by decide +kernel
theorem d_Reader_isRepeated_33 : decode b_Reader_isRepeated 33 = .ok (.iinc 2 1, 3) := by decide +kernel
theorem d_Reader_isRepeated_36 : decode b_Reader_isRepeated 36 = .ok (.goto (-34), 3) := by decide +kernel
theorem d_Reader_isRepeated_39 : decode b_Reader_isRepeated 39 = .ok (.iconst 0, 1) := by decide +kernel
theorem d_Reader_isRepeated_40 : decode b_Reader_isRepeated 40 = .ok (.ireturn, 1) := by decide +kernel
set_option maxHeartbeats 4000000 in
set_option maxRecDepth 100000 in
theorem cC_isRepeated (l : Launch) (dC : Nat → ClassId) (dI : Nat → Nat → Nat) (sb : sB) (h res t ki n : Nat) (x : rS) (pa ma ex ie : Int32) (cB : ClassId) (u : Nat → Nat) (kd a b : Nat) (mo : Int32) (cO : ClassId) (o : alD) (D : List (Nat × Nat)) (pl : va_W) (hu : ∀ j, u j < 256) (hn : n < 2 ^ 30) (hi : rdInv n x) (hab : a ≤ b) (hbn : b ≤ n) (hE : elS t n pl o D) : Met l y_Reader_isRepeated w_Reader_isRepeated ({ frames := 3, cells := 0, slots := 0, locals := 70 }) (pu_P [.ref h, .ref kd] (dC, dI) sb (([(h, .inr (4, [.ref res, .ref t, .int (nI x.1), .int (nI x.2.1), .int (wI x.2.2), .int pa, .int ma, .int ex, .ref ki])), (t, .inl (cB, n, .inl (tx u))), (kd, .inr (0, [.ref t, .int (nI a), .int (nI b)])), (ki, .inr (11, [.ref (alO sb o), .int (nI D.length), .int mo]))] : va_W) ++ (alC cO o ++ (pl ++ []))) [(cB, .byte), (cO, .object "java/lang/Object")]) (vp_Si (fun r => bz r (repP u D a b))) 0 0 (fun _ => False) := by
  refine Met.ofW (cc := b_Reader_isRepeated) (maxL := 3) (ret := (some FieldType.boolean)) (by decide) rfl ?_
  intro p e s m args below meth c s₁ B hml hv
  obtain ⟨rfl, hP, hK, hN, hT0⟩ := hv
  have hx := B.exec
  have hb := B.bytes
  have hr := B.returns
  have hts := atoms_spec (ws := w_Reader_isRepeated) B.pre
  have tbin : ∀ w ∈ tb, w ∈ w_Reader_isRepeated := fun w h => List.mem_cons_of_mem _ h
  have htb : ∀ w ∈ tb, w.before _ s = true := fun w h => hts w (tbin w h)
  have hown : s.vm.findClass "TrustChain$Reader" = some m.cls := findClass_of_methodNamed B.named
  have hlocks := B.notSynchronized
  have hcs : 0 ≤ (headSpec w_Reader_isRepeated ({ frames := 3, cells := 0, slots := 0, locals := 70 })).room.cells ∧ 0 ≤ (headSpec w_Reader_isRepeated ({ frames := 3, cells := 0, slots := 0, locals := 70 })).room.slots := ⟨Nat.zero_le _, Nat.zero_le _⟩
  have hP : va_P (dC, dI) classes (([(h, .inr (4, [.ref res, .ref t, .int (nI x.1), .int (nI x.2.1), .int (wI x.2.2), .int pa, .int ma, .int ex, .ref ki])), (t, .inl (cB, n, .inl (tx u))), (kd, .inr (0, [.ref t, .int (nI a), .int (nI b)])), (ki, .inr (11, [.ref (alO sb o), .int (nI D.length), .int mo]))] : va_W) ++ (alC cO o ++ (pl ++ []))) s.heap := hP
  have hl := lv_entry ([.ref h, .ref kd]) (n := 3) (Nat.le_of_ble_eq_true rfl)
  rw [lg_entry_eq]
  generalize (lg_sl ([.ref h, .ref kd]) ++ List.replicate (3 - (lg_sl ([.ref h, .ref kd])).length) Slot.unset).toArray = ls at hl ⊢
  have hl : lv_has ls 3 [(0, .ref h), (1, .ref kd)] := hl
  refine lv_iconst (v := 0) hx hb d_Reader_isRepeated_0 (by decide) ?_
  refine lv_istore_n (lv' := [(2, .int 0), (0, .ref h), (1, .ref kd)]) hx hb d_Reader_isRepeated_1 rfl hl (by decide) rfl (fun ls hl => ?_)
  refine w_loop (α := Nat) (fun k => k ≤ D.length ∧ ∀ j, j < k → ¬ sameS u (D.getD j (0, 0)) a b) (fun k => D.length - k) (fun k => [(0, .ref h), (1, .ref kd), (2, .int (nI k))]) (fun _ => []) 3 2 (fun k ls hJ hl ih => ?_) 0 ls (⟨Nat.zero_le _, fun j hj => absurd hj (Nat.not_lt_zero j)⟩) (lv_sub hl [1, 2, 0] rfl)
  have hk9 := hJ.1
  have hz9 := hE.1.z
  refine lv_iload_n hx hb d_Reader_isRepeated_2 rfl (lv_at hl 2 rfl) ?_
  refine lv_aload_n hx hb d_Reader_isRepeated_3 rfl (lv_at hl 0 rfl) ?_
  refine va_get (v := .ref ki) hx hb htb i_CertificateReader hown hK hP 0 rfl rfl 8 (by decide) (htb _ q3_84) (fun _ h9 => h9) rfl d_Reader_isRepeated_4 ?_
  refine vp_callSi (pu_callV (As := []) (rest := [.int (nI k)]) ⟨hx, hb, hml, hown, hts⟩ tbin (c_AL_size l dC dI sb ki (alO sb o) D.length mo) q4_208 q2_54 q2_55 q1_4 q2_56 (n := 0) (by decide +kernel) rfl ⟨rfl, rfl⟩ ⟨Nat.le_of_ble_eq_true rfl, Nat.le_of_ble_eq_true rfl⟩ ⟨Nat.le_of_ble_eq_true rfl, Nat.le_of_ble_eq_true rfl⟩ hN hT0 hK hP [3] rfl [] rfl 3 11 rfl rfl rfl hl.1 rfl (Nat.le_of_ble_eq_true rfl) d_Reader_isRepeated_7) (fun r7 hr7 => ?_)
  subst hr7
  refine lv_icmp_ge (tgt := 39) hx hb d_Reader_isRepeated_10 (by decide) (fun c10 => ?_) (fun c10 => ?_)
  · refine lv_iconst (v := 0) hx hb d_Reader_isRepeated_39 (by decide) ?_
    exact W.zret (v := 0) hx hb hr (by decide) (fun t ht hW => ⟨_, rfl, bz_f (fun z9 => z9.elim (fun j h9 => hJ.2 j (by have := h9.1; rw [nI_leI (by omega) (by omega)] at c10; omega) h9.2)), ht⟩) (fun q h => by cases h) d_Reader_isRepeated_40
  · have hlt : k < D.length := by rw [nI_leI (by omega) (by omega)] at c10; omega
    obtain ⟨d, rfl⟩ : ∃ d, o = some d := by
      cases o with
      | none => exact absurd (show D.length = 0 from hE.1) (by omega)
      | some d => exact ⟨d, rfl⟩
    obtain ⟨ha9, hb9, q, hq1, hq2⟩ := hE.2 k hlt
    have hP : va_P (dC, dI) classes (([(q, .inr (0, [.ref t, .int (nI (D.getD k (0, 0)).1), .int (nI (D.getD k (0, 0)).2)])), (h, .inr (4, [.ref res, .ref t, .int (nI x.1), .int (nI x.2.1), .int (wI x.2.2), .int pa, .int ma, .int ex, .ref ki])), (t, .inl (cB, n, .inl (tx u))), (kd, .inr (0, [.ref t, .int (nI a), .int (nI b)])), (ki, .inr (11, [.ref d.1, .int (nI D.length), .int mo])), (d.1, .inl (cO, d.2.1, .inr (.inr (.inr (.inr d.2.2)))))] : va_W) ++ (pl ++ [])) s.heap := hP.pick (List.mem_append_right _ (List.mem_append_right _ (List.mem_append_left _ hq2)))
    refine lv_aload_n hx hb d_Reader_isRepeated_13 rfl (lv_at hl 0 rfl) ?_
    refine va_get (v := .ref ki) hx hb htb i_CertificateReader hown hK hP 1 rfl rfl 8 (by decide) (htb _ q3_84) (fun _ h9 => h9) rfl d_Reader_isRepeated_14 ?_
    refine lv_iload_n hx hb d_Reader_isRepeated_17 rfl (lv_at hl 2 rfl) ?_
    refine va_csr (pu_callV (As := [.int (nI k)]) (rest := []) ⟨hx, hb, hml, hown, hts⟩ tbin (c_AL_get l dC dI sb ki d.1 D.length d.2.1 k q mo cO d.2.2 hlt hE.1.1 (by have := hE.1.2.2; omega) hq1) q4_209 q4_210 q4_211 q1_4 q4_212 (n := 1) (by decide +kernel) rfl ⟨rfl, rfl⟩ ⟨Nat.le_of_ble_eq_true rfl, Nat.le_of_ble_eq_true rfl⟩ ⟨Nat.le_of_ble_eq_true rfl, Nat.le_of_ble_eq_true rfl⟩ hN hT0 hK hP [4, 5] rfl [1] rfl 4 11 rfl rfl rfl hl.1 rfl (Nat.le_of_ble_eq_true rfl) d_Reader_isRepeated_18) (fun r18 hr18 => ?_)
    obtain rfl := Eq.symm hr18
    refine va_castY (C := "TrustChain$Slice") hx hb hown (htb _ q3_137) (hN.1 _ qn9_222) (va_recv (ci := 0) hK hP rfl (show ((([(q, .inr (0, [.ref t, .int (nI (D.getD k (0, 0)).1), .int (nI (D.getD k (0, 0)).2)])), (h, .inr (4, [.ref res, .ref t, .int (nI x.1), .int (nI x.2.1), .int (wI x.2.2), .int pa, .int ma, .int ex, .ref ki])), (t, .inl (cB, n, .inl (tx u))), (kd, .inr (0, [.ref t, .int (nI a), .int (nI b)])), (ki, .inr (11, [.ref d.1, .int (nI D.length), .int mo])), (d.1, .inl (cO, d.2.1, .inr (.inr (.inr (.inr d.2.2)))))] : va_W) ++ (pl ++ [])) : va_W)[0]? = some _ from rfl)) d_Reader_isRepeated_21 ?_
    refine lv_aload_n hx hb d_Reader_isRepeated_24 rfl (lv_at hl 1 rfl) ?_
    refine vp_callSi (pu_callV (As := [.ref kd]) (rest := []) ⟨hx, hb, hml, hown, hts⟩ tbin (c_Slice_same l dC dI sb q kd t t (D.getD k (0, 0)).1 (D.getD k (0, 0)).2 n a b n cB cB u u hu (by omega) (by omega) (by omega) hu (by omega) (by omega) (by omega)) q4_223 q4_27 q4_28 q1_22 q4_29 (n := 1) (by decide +kernel) rfl ⟨rfl, rfl⟩ ⟨Nat.le_of_ble_eq_true rfl, Nat.le_of_ble_eq_true rfl⟩ ⟨Nat.le_of_ble_eq_true rfl, Nat.le_of_ble_eq_true rfl⟩ hN hT0 hK hP [0, 2, 3, 2] rfl [0, 0] rfl 0 0 rfl rfl rfl hl.1 rfl (Nat.le_of_ble_eq_true rfl) d_Reader_isRepeated_25) (fun r25 hr25 => ?_)
    have hr25 : bz r25 (sameS u (D.getD k (0, 0)) a b) := hr25
    refine lv_if_eq (tgt := 33) hx hb d_Reader_isRepeated_28 (by decide) (fun c28 => ?_) (fun c28 => ?_)
    · refine lv_iinc (v := nI (k + 1)) (lv' := [(2, .int (nI (k + 1))), (0, .ref h), (1, .ref kd)]) hx hb d_Reader_isRepeated_33 hl (k := 2) rfl (nI_1 _) (by decide) rfl (fun ls hl => ?_)
      refine lv_goto (tgt := 2) hx hb d_Reader_isRepeated_36 (by decide) ?_
      exact ih (k + 1) ls (by omega) (⟨by omega, fun j hj => (Nat.lt_succ_iff_lt_or_eq.mp hj).elim (hJ.2 j) (fun e9 => by rw [e9]; exact bz_0 hr25 (by first | exact c28 | exact Classical.not_not.mp c28))⟩) (lv_sub hl [1, 2, 0] rfl)
    · refine lv_iconst (v := 1) hx hb d_Reader_isRepeated_31 (by decide) ?_
      exact W.zret (v := 1) hx hb hr (by decide) (fun t ht hW => ⟨_, rfl, bz_t ⟨k, hlt, bz_1 hr25 c28⟩, ht⟩) (fun q h => by cases h) d_Reader_isRepeated_32
set_option maxHeartbeats 4000000 in
set_option maxRecDepth 100000 in
theorem cL_isRepeated (l : Launch) (dC : Nat → ClassId) (dI : Nat → Nat → Nat) (sb : sB) (h res t ki n : Nat) (x : rS) (pa ma ex ie : Int32) (cB : ClassId) (u : Nat → Nat) (kd a b : Nat) (mo : Int32) (cO : ClassId) (o : alD) (D : List (Nat × Nat)) (pl : va_W) (hu : ∀ j, u j < 256) (hn : n < 2 ^ 30) (hi : rdInv n x) (hab : a ≤ b) (hbn : b ≤ n) (hE : elS t n pl o D) : Met l y_Reader_isRepeated w_Reader_isRepeated ({ frames := 3, cells := 0, slots := 0, locals := 70 }) (pu_P [.ref h, .ref kd] (dC, dI) sb (([(h, .inr (5, [.ref res, .int ie, .ref t, .int (nI x.1), .int (nI x.2.1), .int (wI x.2.2), .int pa, .int ma, .int ex, .ref ki])), (t, .inl (cB, n, .inl (tx u))), (kd, .inr (0, [.ref t, .int (nI a), .int (nI b)])), (ki, .inr (11, [.ref (alO sb o), .int (nI D.length), .int mo]))] : va_W) ++ (alC cO o ++ (pl ++ []))) [(cB, .byte), (cO, .object "java/lang/Object")]) (vp_Si (fun r => bz r (repP u D a b))) 0 0 (fun _ => False) := by
  refine Met.ofW (cc := b_Reader_isRepeated) (maxL := 3) (ret := (some FieldType.boolean)) (by decide) rfl ?_
  intro p e s m args below meth c s₁ B hml hv
  obtain ⟨rfl, hP, hK, hN, hT0⟩ := hv
  have hx := B.exec
  have hb := B.bytes
  have hr := B.returns
  have hts := atoms_spec (ws := w_Reader_isRepeated) B.pre
  have tbin : ∀ w ∈ tb, w ∈ w_Reader_isRepeated := fun w h => List.mem_cons_of_mem _ h
  have htb : ∀ w ∈ tb, w.before _ s = true := fun w h => hts w (tbin w h)
  have hown : s.vm.findClass "TrustChain$Reader" = some m.cls := findClass_of_methodNamed B.named
  have hlocks := B.notSynchronized
  have hcs : 0 ≤ (headSpec w_Reader_isRepeated ({ frames := 3, cells := 0, slots := 0, locals := 70 })).room.cells ∧ 0 ≤ (headSpec w_Reader_isRepeated ({ frames := 3, cells := 0, slots := 0, locals := 70 })).room.slots := ⟨Nat.zero_le _, Nat.zero_le _⟩
  have hP : va_P (dC, dI) classes (([(h, .inr (5, [.ref res, .int ie, .ref t, .int (nI x.1), .int (nI x.2.1), .int (wI x.2.2), .int pa, .int ma, .int ex, .ref ki])), (t, .inl (cB, n, .inl (tx u))), (kd, .inr (0, [.ref t, .int (nI a), .int (nI b)])), (ki, .inr (11, [.ref (alO sb o), .int (nI D.length), .int mo]))] : va_W) ++ (alC cO o ++ (pl ++ []))) s.heap := hP
  have hl := lv_entry ([.ref h, .ref kd]) (n := 3) (Nat.le_of_ble_eq_true rfl)
  rw [lg_entry_eq]
  generalize (lg_sl ([.ref h, .ref kd]) ++ List.replicate (3 - (lg_sl ([.ref h, .ref kd])).length) Slot.unset).toArray = ls at hl ⊢
  have hl : lv_has ls 3 [(0, .ref h), (1, .ref kd)] := hl
  refine lv_iconst (v := 0) hx hb d_Reader_isRepeated_0 (by decide) ?_
  refine lv_istore_n (lv' := [(2, .int 0), (0, .ref h), (1, .ref kd)]) hx hb d_Reader_isRepeated_1 rfl hl (by decide) rfl (fun ls hl => ?_)
  refine w_loop (α := Nat) (fun k => k ≤ D.length ∧ ∀ j, j < k → ¬ sameS u (D.getD j (0, 0)) a b) (fun k => D.length - k) (fun k => [(0, .ref h), (1, .ref kd), (2, .int (nI k))]) (fun _ => []) 3 2 (fun k ls hJ hl ih => ?_) 0 ls (⟨Nat.zero_le _, fun j hj => absurd hj (Nat.not_lt_zero j)⟩) (lv_sub hl [1, 2, 0] rfl)
  have hk9 := hJ.1
  have hz9 := hE.1.z
  refine lv_iload_n hx hb d_Reader_isRepeated_2 rfl (lv_at hl 2 rfl) ?_
  refine lv_aload_n hx hb d_Reader_isRepeated_3 rfl (lv_at hl 0 rfl) ?_
  refine va_get (v := .ref ki) hx hb htb i_ListReader hown hK hP 0 rfl rfl 9 (by decide) (htb _ q3_84) (fun _ h9 => h9) rfl d_Reader_isRepeated_4 ?_
  refine vp_callSi (pu_callV (As := []) (rest := [.int (nI k)]) ⟨hx, hb, hml, hown, hts⟩ tbin (c_AL_size l dC dI sb ki (alO sb o) D.length mo) q4_208 q2_54 q2_55 q1_4 q2_56 (n := 0) (by decide +kernel) rfl ⟨rfl, rfl⟩ ⟨Nat.le_of_ble_eq_true rfl, Nat.le_of_ble_eq_true rfl⟩ ⟨Nat.le_of_ble_eq_true rfl, Nat.le_of_ble_eq_true rfl⟩ hN hT0 hK hP [3] rfl [] rfl 3 11 rfl rfl rfl hl.1 rfl (Nat.le_of_ble_eq_true rfl) d_Reader_isRepeated_7) (fun r7 hr7 => ?_)
  subst hr7
  refine lv_icmp_ge (tgt := 39) hx hb d_Reader_isRepeated_10 (by decide) (fun c10 => ?_) (fun c10 => ?_)
  · refine lv_iconst (v := 0) hx hb d_Reader_isRepeated_39 (by decide) ?_
    exact W.zret (v := 0) hx hb hr (by decide) (fun t ht hW => ⟨_, rfl, bz_f (fun z9 => z9.elim (fun j h9 => hJ.2 j (by have := h9.1; rw [nI_leI (by omega) (by omega)] at c10; omega) h9.2)), ht⟩) (fun q h => by cases h) d_Reader_isRepeated_40
  · have hlt : k < D.length := by rw [nI_leI (by omega) (by omega)] at c10; omega
    obtain ⟨d, rfl⟩ : ∃ d, o = some d := by
      cases o with
      | none => exact absurd (show D.length = 0 from hE.1) (by omega)
      | some d => exact ⟨d, rfl⟩
    obtain ⟨ha9, hb9, q, hq1, hq2⟩ := hE.2 k hlt
    have hP : va_P (dC, dI) classes (([(q, .inr (0, [.ref t, .int (nI (D.getD k (0, 0)).1), .int (nI (D.getD k (0, 0)).2)])), (h, .inr (5, [.ref res, .int ie, .ref t, .int (nI x.1), .int (nI x.2.1), .int (wI x.2.2), .int pa, .int ma, .int ex, .ref ki])), (t, .inl (cB, n, .inl (tx u))), (kd, .inr (0, [.ref t, .int (nI a), .int (nI b)])), (ki, .inr (11, [.ref d.1, .int (nI D.length), .int mo])), (d.1, .inl (cO, d.2.1, .inr (.inr (.inr (.inr d.2.2)))))] : va_W) ++ (pl ++ [])) s.heap := hP.pick (List.mem_append_right _ (List.mem_append_right _ (List.mem_append_left _ hq2)))
    refine lv_aload_n hx hb d_Reader_isRepeated_13 rfl (lv_at hl 0 rfl) ?_
    refine va_get (v := .ref ki) hx hb htb i_ListReader hown hK hP 1 rfl rfl 9 (by decide) (htb _ q3_84) (fun _ h9 => h9) rfl d_Reader_isRepeated_14 ?_
    refine lv_iload_n hx hb d_Reader_isRepeated_17 rfl (lv_at hl 2 rfl) ?_
    refine va_csr (pu_callV (As := [.int (nI k)]) (rest := []) ⟨hx, hb, hml, hown, hts⟩ tbin (c_AL_get l dC dI sb ki d.1 D.length d.2.1 k q mo cO d.2.2 hlt hE.1.1 (by have := hE.1.2.2; omega) hq1) q4_209 q4_210 q4_211 q1_4 q4_212 (n := 1) (by decide +kernel) rfl ⟨rfl, rfl⟩ ⟨Nat.le_of_ble_eq_true rfl, Nat.le_of_ble_eq_true rfl⟩ ⟨Nat.le_of_ble_eq_true rfl, Nat.le_of_ble_eq_true rfl⟩ hN hT0 hK hP [4, 5] rfl [1] rfl 4 11 rfl rfl rfl hl.1 rfl (Nat.le_of_ble_eq_true rfl) d_Reader_isRepeated_18) (fun r18 hr18 => ?_)
    obtain rfl := Eq.symm hr18
    refine va_castY (C := "TrustChain$Slice") hx hb hown (htb _ q3_137) (hN.1 _ qn9_222) (va_recv (ci := 0) hK hP rfl (show ((([(q, .inr (0, [.ref t, .int (nI (D.getD k (0, 0)).1), .int (nI (D.getD k (0, 0)).2)])), (h, .inr (5, [.ref res, .int ie, .ref t, .int (nI x.1), .int (nI x.2.1), .int (wI x.2.2), .int pa, .int ma, .int ex, .ref ki])), (t, .inl (cB, n, .inl (tx u))), (kd, .inr (0, [.ref t, .int (nI a), .int (nI b)])), (ki, .inr (11, [.ref d.1, .int (nI D.length), .int mo])), (d.1, .inl (cO, d.2.1, .inr (.inr (.inr (.inr d.2.2)))))] : va_W) ++ (pl ++ [])) : va_W)[0]? = some _ from rfl)) d_Reader_isRepeated_21 ?_
    refine lv_aload_n hx hb d_Reader_isRepeated_24 rfl (lv_at hl 1 rfl) ?_
    refine vp_callSi (pu_callV (As := [.ref kd]) (rest := []) ⟨hx, hb, hml, hown, hts⟩ tbin (c_Slice_same l dC dI sb q kd t t (D.getD k (0, 0)).1 (D.getD k (0, 0)).2 n a b n cB cB u u hu (by omega) (by omega) (by omega) hu (by omega) (by omega) (by omega)) q4_223 q4_27 q4_28 q1_22 q4_29 (n := 1) (by decide +kernel) rfl ⟨rfl, rfl⟩ ⟨Nat.le_of_ble_eq_true rfl, Nat.le_of_ble_eq_true rfl⟩ ⟨Nat.le_of_ble_eq_true rfl, Nat.le_of_ble_eq_true rfl⟩ hN hT0 hK hP [0, 2, 3, 2] rfl [0, 0] rfl 0 0 rfl rfl rfl hl.1 rfl (Nat.le_of_ble_eq_true rfl) d_Reader_isRepeated_25) (fun r25 hr25 => ?_)
    have hr25 : bz r25 (sameS u (D.getD k (0, 0)) a b) := hr25
    refine lv_if_eq (tgt := 33) hx hb d_Reader_isRepeated_28 (by decide) (fun c28 => ?_) (fun c28 => ?_)
    · refine lv_iinc (v := nI (k + 1)) (lv' := [(2, .int (nI (k + 1))), (0, .ref h), (1, .ref kd)]) hx hb d_Reader_isRepeated_33 hl (k := 2) rfl (nI_1 _) (by decide) rfl (fun ls hl => ?_)
      refine lv_goto (tgt := 2) hx hb d_Reader_isRepeated_36 (by decide) ?_
      exact ih (k + 1) ls (by omega) (⟨by omega, fun j hj => (Nat.lt_succ_iff_lt_or_eq.mp hj).elim (hJ.2 j) (fun e9 => by rw [e9]; exact bz_0 hr25 (by first | exact c28 | exact Classical.not_not.mp c28))⟩) (lv_sub hl [1, 2, 0] rfl)
    · refine lv_iconst (v := 1) hx hb d_Reader_isRepeated_31 (by decide) ?_
      exact W.zret (v := 1) hx hb hr (by decide) (fun t ht hW => ⟨_, rfl, bz_t ⟨k, hlt, bz_1 hr25 c28⟩, ht⟩) (fun q h => by cases h) d_Reader_isRepeated_32
