/-! Contents stay where their cells' contents stay (p11 to p13; draft; behind 84a9). -/
/-- contents that stay: all kinds but rows, and of lists of slices their array -/
def wK4 (κ : kE) (Ad : List Nat) (ω Ω : Nat → List Nat) : Prop := (∀ a, a ∈ Ad → ((κ a).1 = 1 ∨ (κ a).1 = 2 ∨ (κ a).1 = 3 ∨ (κ a).1 = 5 ∨ (κ a).1 = 8 ∨ (κ a).1 = 9) → Ω a = ω a) ∧ ∀ a, a ∈ Ad → (κ a).1 = 4 → (Ω a).getD 0 0 = (ω a).getD 0 0
/-- kinds that stay -/
def kK4 (κ : kE) (Ad : List Nat) (κ' : kE) : Prop := ∀ a, a ∈ Ad → ((κ a).1 = 2 ∨ (κ a).1 = 4 ∨ (κ a).1 = 8 ∨ (κ a).1 = 9) → κ' a = κ a
theorem kK4.rf (κ : kE) (Ad : List Nat) : kK4 κ Ad κ := fun _ _ _ => rfl
section KEEP
variable {γ : cG} {κ κ' : kE} {Ad : List Nat} {ν ν' : Nat → cN} {ω Ω : Nat → List Nat} {L : Nat} {G : va_W}
theorem sO_k {s : Nat} (hT : TY γ κ Ad ν ω L G) (hs : ∃ z, tK κ Ad s (2, z, 1)) (hw : wK4 κ Ad ω Ω) (hk : kK4 κ Ad κ') : sO κ' Ω s = sO κ ω s := by
  obtain ⟨z, ks⟩ := hs
  obtain ⟨i, t, n, f, kt, -, -, e, -⟩ := ty_2x hT ks
  unfold sO
  rw [hw.1 s ks.1 (Or.inr (Or.inl (by rw [ks.2]))), hk s ks.1 (Or.inl (by rw [ks.2])), e]
  show rgM (fun j => (Ω t).getD j 0) f _ = rgM (fun j => (ω t).getD j 0) f _
  rw [hw.1 t kt.1 (Or.inl (by rw [kt.2]))]
theorem lO_k {l K g : Nat} (hT : TY γ κ Ad ν ω L G) (kl : tK κ Ad l (4, K, g)) (hw : wK4 κ Ad ω Ω) (hk : kK4 κ Ad κ') : lO κ' Ω l = lO κ ω l := by
  obtain ⟨i, m, -, h2, -⟩ := ty_4x hT kl
  unfold lO
  rw [hk l kl.1 (Or.inr (Or.inl (by rw [kl.2]))), hw.2 l kl.1 (by rw [kl.2]), kl.2]
  refine List.map_congr_left (fun j hj => ?_)
  have hj : j < K := List.mem_range.mp hj
  obtain ⟨cap, ka⟩ := h2 (by omega)
  obtain ⟨i2, f, -, -, h3, -⟩ := ty_3x hT ka
  rw [hw.1 _ ka.1 (Or.inr (Or.inr (Or.inl (by rw [ka.2]))))]
  exact sO_k hT (h3 j hj).2 hw hk
theorem nO_k {a K1 K2 : Nat} (hT : TY γ κ Ad ν ω L G) (ka : tK κ Ad a (5, K1, K2)) (hw : wK4 κ Ad ω Ω) (hk : kK4 κ Ad κ') : lO κ' Ω ((Ω a).getD 0 0) = lO κ ω ((ω a).getD 0 0) ∧ lO κ' Ω ((Ω a).getD 1 0) = lO κ ω ((ω a).getD 1 0) := by
  obtain ⟨i, k1, k2, -⟩ := ty_5x hT ka
  rw [hw.1 a ka.1 (Or.inr (Or.inr (Or.inr (Or.inl (by rw [ka.2])))))]
  exact ⟨lO_k hT k1 hw hk, lO_k hT k2 hw hk⟩
theorem cO_k {c K len : Nat} (hT : TY γ κ Ad ν ω L G) (kc : tK κ Ad c (8, K, len)) (hw : wK4 κ Ad ω Ω) (hk : kK4 κ Ad κ') (hn : ν' c = ν c) : cO κ' ν' Ω c = cO κ ν ω c := by
  obtain ⟨i, bo, ⟨⟨A, k1⟩, ⟨B1, B2, k2⟩, ⟨C1, C2, k3⟩, k4, k5, k6, k7, k8, k9, k10, k11, k12, k13⟩, -⟩ := ty_8x hT kc
  have n1 := nO_k hT k1 hw hk
  have n2 := nO_k hT k2 hw hk
  have n3 := nO_k hT k3 hw hk
  have e := hw.1 c kc.1 (Or.inr (Or.inr (Or.inr (Or.inr (Or.inl (by rw [kc.2]))))))
  unfold cO
  rw [e, hn, sO_k hT k13 hw hk, sO_k hT k5 hw hk, sO_k hT ⟨_, k4⟩ hw hk, sO_k hT k7 hw hk, sO_k hT k8 hw hk, n1.1, n1.2, n2.1, n2.2, n3.1, n3.2]
theorem qO_k {g K : Nat} (hT : TY γ κ Ad ν ω L G) (kg : tK κ Ad g (9, K, 0)) (hw : wK4 κ Ad ω Ω) (hk : kK4 κ Ad κ') (hn : ν' g = ν g) : qO κ' ν' Ω g = qO κ ν ω g := by
  obtain ⟨i, bo, ⟨k1, k2, k3, k4, k5⟩, -⟩ := ty_9x hT kg
  have e := hw.1 g kg.1 (Or.inr (Or.inr (Or.inr (Or.inr (Or.inr (by rw [kg.2]))))))
  unfold qO
  rw [e, hn, sO_k hT k5 hw hk, lO_k hT k3 hw hk]
/-- what a list of slices that a reader left holds -/
theorem lO_of {sb : sB} {l t n : Nat} {v : Nat → Nat} {pl : va_W} {o : alD} {D : List (Nat × Nat)} (kl : tK κ Ad l (4, D.length, 0)) (hl : (ω l).getD 0 0 = alO sb o) (hE : elS t n pl o D) (hp : ∀ q a b, slc t q a b ∈ pl → a ≤ b → b ≤ n → tK κ Ad q (2, b - a, 1) ∧ ω q = [t, a]) (ha : ∀ d, o = some d → ∀ i q, i < d.2.1 → d.2.2 i = some q → q = (ω d.1).getD i 0) (ht : ∀ j, j < n → v j = (ω t).getD j 0) : lO κ ω l = D.map (fun d => rgM v d.1 (d.2 - d.1)) := by
  apply List.ext_getElem?
  intro i
  by_cases hi : i < D.length
  · rw [lO_get kl hi, List.getElem?_map, List.getElem?_eq_getElem hi, hl]
    obtain ⟨h1, h2, q, h3, h4⟩ := hE.2 i hi
    cases o with
    | none =>
      have h9 : D.length = 0 := hE.1
      omega
    | some d =>
      have hc : D.length ≤ d.2.1 ∧ 10 ≤ d.2.1 ∧ d.2.1 < 2 ^ 24 := hE.1
      have e := ha d rfl i q (by omega) h3
      obtain ⟨k9, w9⟩ := hp q _ _ h4 h1 h2
      show some (sO κ ω ((ω d.1).getD i 0)) = _
      have e2 : D.getD i (0, 0) = D[i] := by rw [List.getD_eq_getElem?_getD, List.getElem?_eq_getElem hi]; rfl
      (rw [← e, sO_u k9 w9 ht (by omega), e2]) <;> rfl
  · rw [List.getElem?_eq_none (by rw [lO_len kl]; omega), List.getElem?_eq_none (by rw [List.length_map]; omega)]
/-- a certificate's issuers anew: omega of its own (empty) list of entries -/
theorem TY.setiu {A : Nat → Prop} {i a K len : Nat} {c c' : va_E} {Ω : Nat → List Nat} (h : TY γ κ Ad ν ω L G) (hD : va_D A G) (hg : G[i]? = some (a, c)) (ka : tK κ Ad a (8, K, len)) (hn : ∀ b, b ≠ (ω a).getD 12 0 → Ω b = ω b) (h0 : (Ω ((ω a).getD 12 0)).getD 0 0 = (ω ((ω a).getD 12 0)).getD 0 0) (hl : ∀ b, b ∈ Ad → (κ b).1 = 14 ∨ (κ b).1 = 16 → (κ (κ b).2.2).1 ≠ 4) (ho : tOK γ κ Ad ν Ω L a c') : TY γ κ Ad ν Ω L (G.set i (a, c')) := by
  have ke := en_k h ka.1 (by rw [ka.2])
  refine ⟨fun b hb => ?_, fun q hq hqa => ?_⟩
  · by_cases hab : a = b
    · subst hab
      exact ⟨c', List.mem_of_getElem? (set_here hg)⟩
    · obtain ⟨d, hd⟩ := h.1 b hb
      obtain ⟨j, hj⟩ := List.getElem?_of_mem hd
      exact ⟨d, List.mem_of_getElem? (set_keep hg hj hab)⟩
  · obtain ⟨j, hj⟩ := List.getElem?_of_mem hq
    by_cases hij : i = j
    · subst hij
      rw [set_here hg] at hj
      cases hj
      exact ho
    · rw [List.getElem?_set_ne hij] at hj
      have hne : q.1 ≠ a := fun e => hij (hD.1 i j _ _ hg hj e.symm)
      have hoq := h.2 q (List.mem_of_getElem? hj) hqa
      by_cases he : q.1 = (ω a).getD 12 0
      · unfold tOK at hoq ⊢
        rw [he, ke.2] at hoq ⊢
        obtain ⟨g1, q9, m, g2, g3, g4⟩ := hoq
        exact ⟨g1, q9, m, g2, by rw [h0]; exact g3, g4⟩
      · refine hoq.mono (fun _ _ => rfl) (fun _ h => h) hqa rfl (hn _ he) (fun hk => hn _ (fun e => hl _ hqa hk (by rw [e, ke.2]))) (fun h8 => ?_)
        have k2 := en_k h hqa h8
        rw [hn _ (fun e => by
          have k9 := k2.2
          rw [e, ke.2] at k9
          have := congrArg (fun z => z.2.2) k9
          have : a + 1 = q.1 + 1 := this
          exact hne (by omega))]
end KEEP
/-- the bits of who may follow whom, when the first z have been looked at -/
def lkP (B : Nat → Nat → Prop) (fo : Nat → Nat → Prop) (m z d k : Nat) : Prop := B d k ∨ (d < z ∧ k = m ∧ fo m d) ∨ (d = m ∧ k < z ∧ fo k m)
theorem lkP_0 {B fo : Nat → Nat → Prop} {m d k : Nat} : lkP B fo m 0 d k ↔ B d k := by
  unfold lkP
  constructor
  · rintro (h | ⟨h, -⟩ | ⟨-, h, -⟩)
    · exact h
    · omega
    · omega
  · exact Or.inl
theorem lkP_1 {B fo : Nat → Nat → Prop} {m z d k : Nat} : lkP B fo m (z + 1) d k ↔ (lkP B fo m z d k ∨ (fo m z ∧ d = z ∧ k = m)) ∨ (fo z m ∧ d = m ∧ k = z) := by
  unfold lkP
  constructor
  · rintro (h | ⟨h1, h2, h3⟩ | ⟨h1, h2, h3⟩)
    · exact Or.inl (Or.inl (Or.inl h))
    · by_cases e : d = z
      · subst e
        exact Or.inl (Or.inr ⟨h3, rfl, h2⟩)
      · exact Or.inl (Or.inl (Or.inr (Or.inl ⟨by omega, h2, h3⟩)))
    · by_cases e : k = z
      · subst e
        exact Or.inr ⟨h3, h1, rfl⟩
      · exact Or.inl (Or.inl (Or.inr (Or.inr ⟨h1, by omega, h3⟩)))
  · rintro ((( h | ⟨h1, h2, h3⟩ | ⟨h1, h2, h3⟩) | ⟨h1, h2, h3⟩) | ⟨h1, h2, h3⟩)
    · exact Or.inl h
    · exact Or.inr (Or.inl ⟨by omega, h2, h3⟩)
    · exact Or.inr (Or.inr ⟨h1, by omega, h3⟩)
    · subst h2
      exact Or.inr (Or.inl ⟨by omega, h3, h1⟩)
    · subst h3
      exact Or.inr (Or.inr ⟨h2, by omega, h1⟩)
theorem okw_up {κ : kE} {ω Ω Ω' : Nat → List Nat} {e : Nat} (h : (∀ b, (κ b).1 ≠ 4 → Ω b = ω b) ∧ (∀ b, (Ω b).getD 0 0 = (ω b).getD 0 0)) (hn : ∀ b, b ≠ e → Ω' b = Ω b) (h0 : (Ω' e).getD 0 0 = (Ω e).getD 0 0) (h4 : (κ e).1 = 4) : (∀ b, (κ b).1 ≠ 4 → Ω' b = ω b) ∧ (∀ b, (Ω' b).getD 0 0 = (ω b).getD 0 0) := by
  refine ⟨fun b hb => (hn b (fun e9 => hb (by rw [e9]; exact h4))).trans (h.1 b hb), fun b => ?_⟩
  by_cases e9 : b = e
  · rw [e9, h0]; exact h.2 e
  · rw [hn b e9]; exact h.2 b
theorem okw_k {κ : kE} {Ad : List Nat} {ω Ω : Nat → List Nat} (h : (∀ b, (κ b).1 ≠ 4 → Ω b = ω b) ∧ (∀ b, (Ω b).getD 0 0 = (ω b).getD 0 0)) : wK4 κ Ad ω Ω := ⟨fun a _ hk => h.1 a (by rcases hk with e | e | e | e | e | e <;> (rw [e]; decide)), fun a _ _ => h.2 a⟩
/-- one bit more of one -/
theorem bits_up {f f' : Nat → Int32} {P : Nat → Nat → Prop} {n d0 j : Nat} {v : Int32} (hj : j < 16) (hB : ∀ d, d < n → ∀ k, k < 16 → (bJ (f d) k = true ↔ P d k)) (h0 : f' d0 = v) (hv : v = f d0 ||| ((1 : Int32) <<< (nI j &&& 31))) (hne : ∀ d, d < n → d ≠ d0 → f' d = f d) (hd0 : d0 < n) : ∀ d, d < n → ∀ k, k < 16 → (bJ (f' d) k = true ↔ P d k ∨ (d = d0 ∧ k = j)) := fun d hd k hk => by
  by_cases e : d = d0
  · subst e
    rw [h0, hv, bJ_or, Bool.or_eq_true_iff, hB d hd k hk, bJ_sh (by omega) (by omega), decide_eq_true_eq]
    constructor
    · rintro (h | h)
      · exact Or.inl h
      · exact Or.inr ⟨rfl, h.symm⟩
    · rintro (h | h)
      · exact Or.inl h
      · exact Or.inr h.2.symm
  · rw [hne d hd e, hB d hd k hk]
    exact ⟨Or.inl, fun h => h.elim id (fun h => absurd h.1 e)⟩
section LKS
variable {B fo : Nat → Nat → Prop} {m z d k : Nat}
theorem lk_yy (h1 : fo m z) (h2 : fo z m) : ((lkP B fo m z d k ∨ (d = z ∧ k = m)) ∨ (d = m ∧ k = z)) ↔ lkP B fo m (z + 1) d k := by
  rw [lkP_1]
  simp [h1, h2]
theorem lk_yn (h1 : fo m z) (h2 : ¬ fo z m) : (lkP B fo m z d k ∨ (d = z ∧ k = m)) ↔ lkP B fo m (z + 1) d k := by
  rw [lkP_1]
  simp [h1, h2]
theorem lk_ny (h1 : ¬ fo m z) (h2 : fo z m) : (lkP B fo m z d k ∨ (d = m ∧ k = z)) ↔ lkP B fo m (z + 1) d k := by
  rw [lkP_1]
  simp [h1, h2]
theorem lk_nn (h1 : ¬ fo m z) (h2 : ¬ fo z m) : lkP B fo m z d k ↔ lkP B fo m (z + 1) d k := by
  rw [lkP_1]
  simp [h1, h2]
end LKS
theorem gda9 {l : List Nat} {v k : Nat} (h : k < l.length) : (l ++ [v]).getD k 0 = l.getD k 0 := by
  rw [List.getD_eq_getElem?_getD, List.getD_eq_getElem?_getD, List.getElem?_append_left h]
theorem gde9 {l : List Nat} {v : Nat} : (l ++ [v]).getD l.length 0 = v := by
  rw [List.getD_eq_getElem?_getD, List.getElem?_append_right (Nat.le_refl _)]
  simp
/-- what a text's pieces say -/
def rgS (v : Nat → Nat) (s : Nat × Nat) : List Nat := rgM v s.1 (s.2 - s.1)
def cQm (v : Nat → Nat) (is su se ok ik : Nat × Nat) (D1 D2 D3 D4 D5 D6 : List (Nat × Nat)) (fi la : Int64) (ma ca ln us ps : Int32) : cQ := (rgS v is, rgS v su, rgS v se, rgS v ok, rgS v ik, D1.map (fun d => rgM v d.1 (d.2 - d.1)), D2.map (fun d => rgM v d.1 (d.2 - d.1)), D3.map (fun d => rgM v d.1 (d.2 - d.1)), D4.map (fun d => rgM v d.1 (d.2 - d.1)), D5.map (fun d => rgM v d.1 (d.2 - d.1)), D6.map (fun d => rgM v d.1 (d.2 - d.1)), fi, la, ma, ca, ln, us, ps, rgS v su)
def lQm (v : Nat → Nat) (is : Nat × Nat) (D1 : List (Nat × Nat)) (fi la : Int64) (ma : Int32) : lQ := (rgS v is, D1.map (fun d => rgM v d.1 (d.2 - d.1)), fi, la, ma)
/-- other numbers -/
def cNm (q : cQ) (n : cN) : cQ := (q.is, q.su, q.se, q.ok, q.ik, q.dn, q.di, q.pn, q.pd, q.xn, q.xd, n.2.2.2.2.2.2.2.2.2.1, n.2.2.2.2.2.2.2.2.2.2.1, n.2.2.2.2.2.2.2.2.2.2.2.1, n.2.2.2.1, n.2.2.2.2.1, n.2.2.2.2.2.1, n.1, q.sc)
theorem cO_kn {γ : cG} {κ κ' : kE} {Ad : List Nat} {ν ν' : Nat → cN} {ω Ω : Nat → List Nat} {L : Nat} {G : va_W} {c K len : Nat} (hT : TY γ κ Ad ν ω L G) (kc : tK κ Ad c (8, K, len)) (hw : wK4 κ Ad ω Ω) (hk : kK4 κ Ad κ') : cO κ' ν' Ω c = cNm (cO κ ν ω c) (ν' c) := by
  have e := cO_k (ν' := fun b => if b = c then ν c else ν' b) hT kc hw hk (if_pos rfl)
  have e2 : cO κ' ν' Ω c = cNm (cO κ' (fun b => if b = c then ν c else ν' b) Ω c) (ν' c) := rfl
  rw [e2, e]
def qNm (q : lQ) (n : cN) : lQ := (q.is, q.en, n.2.2.2.2.2.2.2.2.2.1, n.2.2.2.2.2.2.2.2.2.2.1, n.2.2.2.2.2.2.2.2.2.2.2.1)
theorem qO_kn {γ : cG} {κ κ' : kE} {Ad : List Nat} {ν ν' : Nat → cN} {ω Ω : Nat → List Nat} {L : Nat} {G : va_W} {c K : Nat} (hT : TY γ κ Ad ν ω L G) (kc : tK κ Ad c (9, K, 0)) (hw : wK4 κ Ad ω Ω) (hk : kK4 κ Ad κ') : qO κ' ν' Ω c = qNm (qO κ ν ω c) (ν' c) := by
  have e := qO_k (ν' := fun b => if b = c then ν c else ν' b) hT kc hw hk (if_pos rfl)
  have e2 : qO κ' ν' Ω c = qNm (qO κ' (fun b => if b = c then ν c else ν' b) Ω c) (ν' c) := rfl
  rw [e2, e]
