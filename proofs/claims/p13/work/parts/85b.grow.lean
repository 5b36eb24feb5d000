/-! Worlds that get new kinds, cell by cell; a list of certificates, or of papers, with one more entry. -/
def KX (κ : kE) (Ad : List Nat) (κ' : kE) (Ad' : List Nat) (W : va_W) : Prop := (∀ b, b ∈ Ad → κ' b = κ b) ∧ (∀ b, b ∈ Ad → b ∈ Ad') ∧ (∀ q : Nat × va_E, q ∈ W → q.1 ∉ Ad → q.1 ∉ Ad') ∧ ∀ a, a ∈ Ad' → ((κ' a).1 = 10 ∨ (κ' a).1 = 14 ∨ (κ' a).1 = 16) → a ∈ Ad
section GROW
variable {γ : cG} {sb : sB} {κ κ' κ1 κ2 : kE} {Ad Ad' Ad1 Ad2 : List Nat} {ν ν' : Nat → cN} {ω ω' : Nat → List Nat} {L : Nat} {G W W' : va_W} {a : Nat} {c e : va_E} {A : Nat → Prop} {k : Nat × Nat × Nat}
theorem KX.rf (κ : kE) (Ad : List Nat) (W : va_W) : KX κ Ad κ Ad W := ⟨fun _ _ => rfl, fun _ h => h, fun _ _ h => h, fun _ h _ => h⟩
theorem KX.tr (h : KX κ Ad κ1 Ad1 W) (g : KX κ1 Ad1 κ2 Ad2 W') (hW : ∀ q, q ∈ W → q ∈ W') : KX κ Ad κ2 Ad2 W := ⟨fun b hb => (g.1 b (h.2.1 b hb)).trans (h.1 b hb), fun b hb => g.2.1 b (h.2.1 b hb), fun q hq hn => g.2.2.1 q (hW q hq) (h.2.2.1 q hq hn), fun a ha hk => by
  have h1 := g.2.2.2 a ha hk
  exact h.2.2.2 a h1 (by rw [← g.1 a h1]; exact hk)⟩
/-- nor a certificate or a paper -/
def KX9 (κ : kE) (Ad : List Nat) (κ' : kE) (Ad' : List Nat) (W : va_W) : Prop := KX κ Ad κ' Ad' W ∧ ∀ a, a ∈ Ad' → (κ' a).1 = 8 ∨ (κ' a).1 = 9 → a ∈ Ad
theorem KX9.rf (κ : kE) (Ad : List Nat) (W : va_W) : KX9 κ Ad κ Ad W := ⟨KX.rf κ Ad W, fun _ h _ => h⟩
theorem KX9.tr (h : KX9 κ Ad κ1 Ad1 W) (g : KX9 κ1 Ad1 κ2 Ad2 W') (hW : ∀ q, q ∈ W → q ∈ W') : KX9 κ Ad κ2 Ad2 W := ⟨h.1.tr g.1 hW, fun a ha hk => by
  have h1 := g.2 a ha hk
  exact h.2 a h1 (by rw [← g.1.1 a h1]; exact hk)⟩
theorem KX9.up (h : KX9 κ Ad κ' Ad' W) (hk : tK κ Ad a k) : tK κ' Ad' a k := tK.up h.1.1 h.1.2.1 hk
theorem KX.up (h : KX κ Ad κ' Ad' W) (hk : tK κ Ad a k) : tK κ' Ad' a k := tK.up h.1 h.2.1 hk
theorem va_D.tl {x : Nat × va_E} (h : va_D A (x :: W)) : va_D A W := ⟨fun i j p q hi hj e => by
  have := h.1 (i + 1) (j + 1) p q hi hj e
  omega, fun i q hi => h.2 (i + 1) q hi⟩
theorem va_D.bk : ∀ {W1 : va_W}, va_D A (W1 ++ W) → va_D A W
  | [], h => h
  | _ :: _, h => va_D.bk (W1 := _) h.tl
/-- one more cell, with a kind -/
theorem TY.consE8 (h : TY γ κ Ad ν ω L W) (hD : va_D A ((a, c) :: W)) (hk : ¬ (k.1 = 10 ∨ k.1 = 14 ∨ k.1 = 16)) (ho : ∀ κ' Ad', KX κ Ad κ' Ad' W → tK κ' Ad' a k → tOK γ κ' Ad' ν ω L a c) : ∃ κ' Ad', KX κ Ad κ' Ad' W ∧ TY γ κ' Ad' ν ω L ((a, c) :: W) ∧ tK κ' Ad' a k ∧ ∀ b, b ∈ Ad' → b = a ∨ b ∈ Ad := by
  have ha : a ∉ Ad := nin_new hD h
  have hX : KX κ Ad (kU κ a k) (a :: Ad) W := ⟨kU_in ha, fun b hb => List.mem_cons_of_mem _ hb, fun q hq hn hm => by
    rcases List.mem_cons.mp hm with e | e
    · exact nw_ne hD hq e
    · exact hn e, fun b hb hk9 => by
    rcases List.mem_cons.mp hb with e | e
    · rw [e, kU_at] at hk9
      exact absurd hk9 hk
    · exact e⟩
  have hK : tK (kU κ a k) (a :: Ad) a k := ⟨List.mem_cons_self, kU_at⟩
  refine ⟨kU κ a k, a :: Ad, hX, ⟨fun b hb => ?_, fun q hq hqa => ?_⟩, hK, fun b hb => List.mem_cons.mp hb⟩
  · rcases List.mem_cons.mp hb with e | e
    · rw [e]; exact ⟨c, List.mem_cons_self⟩
    · obtain ⟨d, hd⟩ := h.1 b e
      exact ⟨d, List.mem_cons_of_mem _ hd⟩
  · rcases List.mem_cons.mp hq with e | e
    · rw [e]
      exact ho _ _ hX hK
    · rcases List.mem_cons.mp hqa with g | g
      · exact absurd g (nw_ne hD e)
      · exact (h.2 q e g).mono hX.1 hX.2.1 g rfl rfl (fun _ => rfl) (fun _ => rfl)
/-- one more cell, with a kind, not a certificate -/
theorem TY.consE (h : TY γ κ Ad ν ω L W) (hD : va_D A ((a, c) :: W)) (hk : ¬ (k.1 = 10 ∨ k.1 = 14 ∨ k.1 = 16 ∨ k.1 = 8 ∨ k.1 = 9)) (ho : ∀ κ' Ad', KX κ Ad κ' Ad' W → tK κ' Ad' a k → tOK γ κ' Ad' ν ω L a c) : ∃ κ' Ad', KX9 κ Ad κ' Ad' W ∧ TY γ κ' Ad' ν ω L ((a, c) :: W) ∧ tK κ' Ad' a k := by
  obtain ⟨κ', Ad', h1, h2, h3, h4⟩ := h.consE8 hD (fun e => hk (e.elim Or.inl (fun e => e.elim (fun e => Or.inr (Or.inl e)) (fun e => Or.inr (Or.inr (Or.inl e)))))) ho
  refine ⟨κ', Ad', ⟨h1, fun b hb hb8 => ?_⟩, h2, h3⟩
  rcases h4 b hb with e | e
  · rw [e, h3.2] at hb8
    exact absurd (Or.inr (Or.inr (Or.inr hb8))) hk
  · exact e
/-- one more cell, without a kind -/
theorem TY.consN (h : TY γ κ Ad ν ω L W) (hD : va_D A ((a, c) :: W)) : TY γ κ Ad ν ω L ((a, c) :: W) := h.consX (nin_new hD h)
theorem TY.blkN : ∀ {B : va_W}, TY γ κ Ad ν ω L W → va_D A (B ++ W) → TY γ κ Ad ν ω L (B ++ W)
  | [], h, _ => h
  | (_, _) :: _, h, hD => (TY.blkN h hD.tl).consN hD
/-- the numbers of others -/
theorem TY.nuX (h : TY γ κ Ad ν ω L W) (hn : ∀ b, b ∈ Ad → ν' b = ν b) : TY γ κ Ad ν' ω L W := ⟨h.1, fun q hq ha => (h.2 q hq ha).nu (hn _ ha)⟩
theorem nI_inj9 {a b : Nat} (ha : a < 2 ^ 31) (hb : b < 2 ^ 31) (h : nI a = nI b) : a = b := (nI_eq ha hb).mp h
/-- the pool: each slice of the text gets its kind -/
theorem TY.pool {t n : Nat} (hn : n < 2 ^ 18) : ∀ {B : va_W} {κ : kE} {Ad : List Nat}, TY γ κ Ad ν ω L W → tK κ Ad t (1, n, 1) → (∀ q a b, slc t q a b ∈ B → a ≤ b → b ≤ n → ω q = [t, a]) → va_D A (B ++ W) → ∃ κ' Ad', KX9 κ Ad κ' Ad' W ∧ TY γ κ' Ad' ν ω L (B ++ W) ∧ ∀ q a b, slc t q a b ∈ B → a ≤ b → b ≤ n → tK κ' Ad' q (2, b - a, 1)
  | [], κ, Ad, h, _, _, _ => ⟨κ, Ad, KX9.rf _ _ _, h, fun _ _ _ h => by cases h⟩
  | (y, cy) :: B, κ, Ad, h, ht, hw, hD => by
    obtain ⟨κ1, Ad1, x1, h1, g1⟩ := TY.pool hn (B := B) h ht (fun q a b hq => hw q a b (List.mem_cons_of_mem _ hq)) hD.tl
    by_cases hs : ∃ a b, cy = .inr (0, [.ref t, .int (nI a), .int (nI b)]) ∧ a ≤ b ∧ b ≤ n
    · obtain ⟨a, b, rfl, hab, hbn⟩ := hs
      obtain ⟨κ2, Ad2, x2, h2, k2⟩ := h1.consE (k := (2, b - a, 1)) hD (by simp) (fun κ' Ad' hX hK => by
        unfold tOK
        rw [hK.2]
        exact ⟨t, n, a, 1, hX.up (x1.up ht), by omega, hn, fun _ => ⟨rfl, hw y a b List.mem_cons_self hab hbn⟩, by rw [show a + (b - a) = b by omega]⟩)
      refine ⟨κ2, Ad2, x1.tr x2 (fun q hq => List.mem_append_right _ hq), h2, fun q a' b' hq h3 h4 => ?_⟩
      rcases List.mem_cons.mp hq with e | e
      · unfold slc at e
        simp only [Prod.mk.injEq, Sum.inr.injEq, List.cons.injEq, Value.int.injEq, and_true, true_and] at e
        obtain ⟨rfl, e1, e2⟩ := e
        have := nI_inj9 (by omega) (by omega) e1
        have := nI_inj9 (by omega) (by omega) e2
        subst_vars
        exact k2
      · exact x2.up (g1 q a' b' e h3 h4)
    · refine ⟨κ1, Ad1, x1, h1.consN hD, fun q a' b' hq h3 h4 => ?_⟩
      rcases List.mem_cons.mp hq with e | e
      · exact absurd ⟨a', b', (congrArg Prod.snd e).symm, h3, h4⟩ hs
      · exact g1 q a' b' e h3 h4
/-- the array of a list of slices -/
theorem TY.arrS {t n : Nat} {pl : va_W} {o : alD} {D : List (Nat × Nat)} (h : TY γ κ Ad ν ω L W) (hE : elS t n pl o D) (hp : ∀ q a b, slc t q a b ∈ pl → a ≤ b → b ≤ n → tK κ Ad q (2, b - a, 1)) (hw : ∀ d, o = some d → ∀ i q, i < d.2.1 → d.2.2 i = some q → q = (ω d.1).getD i 0) (hD : va_D A (alC γ.2.2.2 o ++ W)) : ∃ κ' Ad', KX9 κ Ad κ' Ad' W ∧ TY γ κ' Ad' ν ω L (alC γ.2.2.2 o ++ W) ∧ (0 < D.length → tK κ' Ad' (alO sb o) (3, alK o, D.length)) := by
  cases o with
  | none =>
    have : D.length = 0 := hE.1
    exact ⟨κ, Ad, KX9.rf _ _ _, h, fun z => by omega⟩
  | some d =>
    have hi : D.length ≤ d.2.1 ∧ 10 ≤ d.2.1 ∧ d.2.1 < 2 ^ 24 := hE.1
    obtain ⟨κ2, Ad2, x2, h2, k2⟩ := h.consE (k := (3, d.2.1, D.length)) (a := d.1) (c := .inl (γ.2.2.2, d.2.1, .inr (.inr (.inr (.inr d.2.2))))) hD (by simp) (fun κ' Ad' hX hK => by
      unfold tOK
      rw [hK.2]
      refine ⟨hi.1, by omega, d.2.2, fun i hi9 => ?_, rfl⟩
      obtain ⟨h1, h2, q, h3, h4⟩ := hE.2 i hi9
      exact ⟨q, _, h3, hX.up (hp q _ _ h4 h1 h2), hw d rfl i q (by have := hE.1; have := hi.1; omega) h3⟩)
    exact ⟨κ2, Ad2, x2, h2, fun _ => k2⟩
/-- a list of slices -/
theorem TY.lst {l g : Nat} {m : Int32} {o : alD} {K : Nat} (h : TY γ κ Ad ν ω L W) (hw : alO sb o = (ω l).getD 0 0) (hK : K < 2 ^ 30) (ho : 0 < K → tK κ Ad (alO sb o) (3, alK o, K)) (hD : va_D A ((l, .inr (11, [.ref (alO sb o), .int (nI K), .int m])) :: W)) : ∃ κ' Ad', KX9 κ Ad κ' Ad' W ∧ TY γ κ' Ad' ν ω L ((l, .inr (11, [.ref (alO sb o), .int (nI K), .int m])) :: W) ∧ tK κ' Ad' l (4, K, g) :=
  h.consE (k := (4, K, g)) hD (by simp) (fun κ' Ad' hX hK9 => by
    unfold tOK
    rw [hK9.2]
    exact ⟨hK, _, m, fun z => ⟨_, hX.up (ho z)⟩, hw, rfl⟩)
theorem TY.nset {l l1 l2 K1 K2 : Nat} (h : TY γ κ Ad ν ω L W) (hw : l1 = (ω l).getD 0 0 ∧ l2 = (ω l).getD 1 0) (h1 : tK κ Ad l1 (4, K1, 0)) (h2 : tK κ Ad l2 (4, K2, 0)) (hD : va_D A ((l, .inr (1, [.ref l1, .ref l2])) :: W)) : ∃ κ' Ad', KX9 κ Ad κ' Ad' W ∧ TY γ κ' Ad' ν ω L ((l, .inr (1, [.ref l1, .ref l2])) :: W) ∧ tK κ' Ad' l (5, K1, K2) :=
  h.consE (k := (5, K1, K2)) hD (by simp) (fun κ' Ad' hX hK9 => by
    unfold tOK
    rw [hK9.2]
    exact ⟨l1, l2, hX.up h1, hX.up h2, hw, rfl⟩)
theorem TY.ints {l n : Nat} {f : Nat → Int32} (h : TY γ κ Ad ν ω L W) (hn : n < 2 ^ 30) (h8 : n = 8 → ∀ j, j < 8 → f j = wN (ν l) j) (h16 : n = 16 → ∀ j, j < 16 → f j = nI ((ω l).getD j 0)) (hD : va_D A ((l, .inl (γ.2.1, n, .inl f)) :: W)) : ∃ κ' Ad', KX9 κ Ad κ' Ad' W ∧ TY γ κ' Ad' ν ω L ((l, .inl (γ.2.1, n, .inl f)) :: W) ∧ tK κ' Ad' l (6, n, 0) :=
  h.consE (k := (6, n, 0)) hD (by simp) (fun κ' Ad' hX hK9 => by
    unfold tOK
    rw [hK9.2]
    exact ⟨hn, f, ⟨h8, fun e => absurd rfl e, fun e _ => h16 e⟩, rfl⟩)
theorem TY.intsS {l r : Nat} {f : Nat → Int32} (h : TY γ κ Ad ν ω L W) (hs : sgR (ω l) f) (hD : va_D A ((l, .inl (γ.2.1, 16, .inl f)) :: W)) : ∃ κ' Ad', KX9 κ Ad κ' Ad' W ∧ TY γ κ' Ad' ν ω L ((l, .inl (γ.2.1, 16, .inl f)) :: W) ∧ tK κ' Ad' l (6, 16, r + 1) :=
  h.consE (k := (6, 16, r + 1)) hD (by simp) (fun κ' Ad' hX hK9 => by
    unfold tOK
    rw [hK9.2]
    exact ⟨by decide, f, ⟨fun e => absurd e (by decide), fun _ => hs, fun _ e => absurd e (Nat.succ_ne_zero r)⟩, rfl⟩)
theorem TY.text {l n : Nat} {u : Nat → Nat} (h : TY γ κ Ad ν ω L W) (hn : n < 2 ^ 18) (hu : ∀ j, u j < 256) (hD : va_D A ((l, .inl (γ.1, n, .inl (tx u))) :: W)) : ∃ κ' Ad', KX9 κ Ad κ' Ad' W ∧ TY γ κ' Ad' ν ω L ((l, .inl (γ.1, n, .inl (tx u))) :: W) ∧ tK κ' Ad' l (1, n, 0) :=
  h.consE (k := (1, n, 0)) hD (by simp) (fun κ' Ad' hX hK9 => by
    unfold tOK
    rw [hK9.2]
    exact ⟨hn, u, hu, fun e => absurd e (by decide), rfl⟩)
theorem TY.textX {l n : Nat} {u : Nat → Nat} (h : TY γ κ Ad ν ω L W) (hn : n < 2 ^ 18) (hu : ∀ j, u j < 256) (hw : ∀ j, j < n → u j = (ω l).getD j 0) (hD : va_D A ((l, .inl (γ.1, n, .inl (tx u))) :: W)) : ∃ κ' Ad', KX9 κ Ad κ' Ad' W ∧ TY γ κ' Ad' ν ω L ((l, .inl (γ.1, n, .inl (tx u))) :: W) ∧ tK κ' Ad' l (1, n, 1) :=
  h.consE (k := (1, n, 1)) hD (by simp) (fun κ' Ad' hX hK9 => by
    unfold tOK
    rw [hK9.2]
    exact ⟨hn, u, hu, fun _ => hw, rfl⟩)
theorem TY.slice {l t n a b gt : Nat} (h : TY γ κ Ad ν ω L W) (ht : tK κ Ad t (1, n, gt)) (hab : a ≤ b) (hbn : b ≤ n) (hn : n < 2 ^ 18) (hD : va_D A ((l, .inr (0, [.ref t, .int (nI a), .int (nI b)])) :: W)) : ∃ κ' Ad', KX9 κ Ad κ' Ad' W ∧ TY γ κ' Ad' ν ω L ((l, .inr (0, [.ref t, .int (nI a), .int (nI b)])) :: W) ∧ tK κ' Ad' l (2, b - a, 0) :=
  h.consE (k := (2, b - a, 0)) hD (by simp) (fun κ' Ad' hX hK9 => by
    unfold tOK
    rw [hK9.2]
    exact ⟨t, n, a, gt, hX.up ht, by omega, hn, fun e => absurd e (by decide), by rw [show a + (b - a) = b by omega]⟩)
theorem TY.sliceX {l t n a b : Nat} (h : TY γ κ Ad ν ω L W) (ht : tK κ Ad t (1, n, 1)) (hab : a ≤ b) (hbn : b ≤ n) (hn : n < 2 ^ 18) (hw : ω l = [t, a]) (hD : va_D A ((l, .inr (0, [.ref t, .int (nI a), .int (nI b)])) :: W)) : ∃ κ' Ad', KX9 κ Ad κ' Ad' W ∧ TY γ κ' Ad' ν ω L ((l, .inr (0, [.ref t, .int (nI a), .int (nI b)])) :: W) ∧ tK κ' Ad' l (2, b - a, 1) :=
  h.consE (k := (2, b - a, 1)) hD (by simp) (fun κ' Ad' hX hK9 => by
    unfold tOK
    rw [hK9.2]
    exact ⟨t, n, a, 1, hX.up ht, by omega, hn, fun _ => ⟨rfl, hw⟩, by rw [show a + (b - a) = b by omega]⟩)
/-- what fits without the array of a kind -/
theorem tOK.monoR {c9 l9 : Nat} (h : tOK γ κ Ad ν ω L a e) (hN : KN κ Ad ω c9 l9) (h9 : c9 = 14 ∨ c9 = 16) (hal : a ≠ l9) (hac : (κ a).1 ≠ c9) (hk : ∀ b, b ∈ Ad → (κ b).1 ≠ c9 → κ' b = κ b ∧ b ∈ Ad') (ha : a ∈ Ad) (hw : ω' a = ω a) (hl : (κ a).1 = 14 ∨ (κ a).1 = 16 → ω' (κ a).2.2 = ω (κ a).2.2) (h8 : (κ a).1 = 8 → (ω' ((ω a).getD 12 0)).getD 1 0 = (ω ((ω a).getD 12 0)).getD 1 0) : tOK γ κ' Ad' ν ω' L a e := by
  have U : ∀ {b : Nat} {k : Nat × Nat × Nat}, k.1 ≠ 14 → k.1 ≠ 16 → tK κ Ad b k → tK κ' Ad' b k := fun {b k} h1 h2 h => by
    have hb : (κ b).1 ≠ c9 := fun e => by
      rw [h.2] at e
      rcases h9 with q | q
      · exact h1 (by rw [e]; exact q)
      · exact h2 (by rw [e]; exact q)
    exact ⟨(hk _ h.1 hb).2, by rw [(hk _ h.1 hb).1]; exact h.2⟩
  have V : ∀ {b z cap : Nat}, tK κ Ad b (z, cap, a) → tK κ' Ad' b (z, cap, a) := fun {b z cap} h => by
    have hb : (κ b).1 ≠ c9 := fun e => by
      have := (hN b h.1 e).1
      rw [h.2] at this
      exact hal this
    exact ⟨(hk _ h.1 hb).2, by rw [(hk _ h.1 hb).1]; exact h.2⟩
  unfold tOK at h ⊢
  rw [(hk a ha hac).1, hw]
  revert h hl hac h8
  generalize κ a = k
  obtain ⟨c, p, q⟩ := k
  intro h hac hl g8
  dsimp only at hl g8
  match c, h with
  | 0, _ => exact True.intro
  | 1, h => exact h
  | 2, h =>
    obtain ⟨t, n, f, gt, h1, h2⟩ := h
    exact ⟨t, n, f, gt, U (k := (1, n, gt)) (by show 1 ≠ 14; decide) (by show 1 ≠ 16; decide) h1, h2⟩
  | 3, h =>
    obtain ⟨h1, h2, f, h3, h4⟩ := h
    exact ⟨h1, h2, f, fun i hi => (h3 i hi).elim (fun s h => h.elim (fun len h => ⟨s, len, h.1, U (k := (2, len, 1)) (by show 2 ≠ 14; decide) (by show 2 ≠ 16; decide) h.2.1, h.2.2⟩)), h4⟩
  | 4, h =>
    obtain ⟨h1, q, m, h2, h3⟩ := h
    exact ⟨h1, q, m, fun z => (h2 z).elim (fun cap h => ⟨cap, U (by simp) (by simp) h⟩), h3⟩
  | 5, h =>
    obtain ⟨l1, l2, h1, h2, h3⟩ := h
    exact ⟨l1, l2, U (by simp) (by simp) h1, U (by simp) (by simp) h2, h3⟩
  | 6, h => exact h
  | 7, h => exact h
  | 8, h =>
    obtain ⟨nm, pe, ec, se, su, mo, ok, ik, ha, si, en, bo, sg, is, iu, ⟨⟨a1, h1⟩, ⟨a2, a3, h2⟩, ⟨a4, a5, h3⟩, h4, ⟨a6, h5⟩, ⟨a7, h6⟩, ⟨a8, h7⟩, ⟨a9, h8⟩, h9, h10, h11, ⟨a10, h12⟩, ⟨a11, h13⟩, ⟨a12, h14⟩⟩, hB, he⟩ := h
    have U5 : ∀ {b p q : Nat}, tK κ Ad b (5, p, q) → tK κ' Ad' b (5, p, q) := fun h => U (by simp) (by simp) h
    have U2 : ∀ {b p q : Nat}, tK κ Ad b (2, p, q) → tK κ' Ad' b (2, p, q) := fun h => U (by simp) (by simp) h
    have U6 : ∀ {b p q : Nat}, tK κ Ad b (6, p, q) → tK κ' Ad' b (6, p, q) := fun h => U (by simp) (by simp) h
    have U4 : ∀ {b p q : Nat}, tK κ Ad b (4, p, q) → tK κ' Ad' b (4, p, q) := fun h => U (by simp) (by simp) h
    exact ⟨nm, pe, ec, se, su, mo, ok, ik, ha, si, en, bo, sg, is, iu, ⟨⟨a1, U5 h1⟩, ⟨a2, a3, U5 h2⟩, ⟨a4, a5, U5 h3⟩, U2 h4, ⟨a6, U2 h5⟩, ⟨a7, U2 h6⟩, ⟨a8, U2 h7⟩, ⟨a9, U2 h8⟩, U6 h9, U6 h10, U4 h11, ⟨a10, U2 h12⟩, ⟨a11, U2 h13⟩, ⟨a12, U2 h14⟩⟩, ⟨hB.1, hB.2.1, hB.2.2.1, hB.2.2.2.1, hB.2.2.2.2.trans (by
      have h9 := g8 rfl
      rw [hB.2.2.2.1] at h9
      rw [show (ω' en).getD 1 0 = (ω en).getD 1 0 from h9])⟩, he⟩
  | 9, h =>
    obtain ⟨ha, si, en, bo, sg, is, ⟨h1, h2, h3, ⟨z1, h4⟩, ⟨z2, h5⟩, ⟨z3, h6⟩, h7⟩, he⟩ := h
    exact ⟨ha, si, en, bo, sg, is, ⟨U (by simp) (by simp) h1, U (k := (6, 16, a + 1)) (by show 6 ≠ 14; decide) (by show 6 ≠ 16; decide) h2, U (k := (4, p, 0)) (by show 4 ≠ 14; decide) (by show 4 ≠ 16; decide) h3, ⟨z1, U (k := (2, z1, 0)) (by show 2 ≠ 14; decide) (by show 2 ≠ 16; decide) h4⟩, ⟨z2, U (k := (2, z2, 1)) (by show 2 ≠ 14; decide) (by show 2 ≠ 16; decide) h5⟩, ⟨z3, U (k := (2, z3, 1)) (by show 2 ≠ 14; decide) (by show 2 ≠ 16; decide) h6⟩, h7⟩, he⟩
  | 10, h =>
    obtain ⟨mo, sq, ba, po, un, su, iv, ⟨h1, h2, h3, h4, h5, h6⟩, h7⟩ := h
    exact ⟨mo, sq, ba, po, un, su, iv, ⟨U (by simp) (by simp) h1, U (by simp) (by simp) h2, U (by simp) (by simp) h3, U (by simp) (by simp) h4, U (by simp) (by simp) h5, U (by simp) (by simp) h6⟩, h7⟩
  | 11, h =>
    obtain ⟨sc, h1, h2⟩ := h
    exact ⟨sc, U (by simp) (by simp) h1, h2⟩
  | 12, h => exact h
  | 13, h =>
    obtain ⟨nx, h1, h2⟩ := h
    exact ⟨nx, ⟨U (by simp) (by simp) h1.1, h1.2⟩, h2⟩
  | 14, h =>
    obtain ⟨h1, h2, f, h3, h4⟩ := h
    have hl := hl (by simp)
    refine ⟨by rw [hl]; exact h1, h2, f, fun i hi => ?_, h4⟩
    rw [hl] at hi ⊢
    obtain ⟨h5, p, q, h6⟩ := h3 i hi
    exact ⟨h5, p, q, U (k := (8, p, q)) (by show 8 ≠ 14; decide) (by show 8 ≠ 16; decide) h6⟩
  | 15, h =>
    obtain ⟨h1, q, m, h2, h3, h4⟩ := h
    exact ⟨h1, q, m, h2, fun z => (h3 z).elim (fun cap h => ⟨cap, V h⟩), h4⟩
  | 16, h =>
    obtain ⟨h1, h2, f, h3, h4⟩ := h
    have hl := hl (by simp)
    refine ⟨by rw [hl]; exact h1, h2, f, fun i hi => ?_, h4⟩
    rw [hl] at hi ⊢
    obtain ⟨h5, p, h6⟩ := h3 i hi
    exact ⟨h5, p, U (k := (9, p, 0)) (by show 9 ≠ 14; decide) (by show 9 ≠ 16; decide) h6⟩
  | 17, h =>
    obtain ⟨h1, q, m, h2, h3, h4⟩ := h
    exact ⟨h1, q, m, h2, fun z => (h3 z).elim (fun cap h => ⟨cap, V h⟩), h4⟩
  | _ + 18, _ => exact True.intro
/-- one entry more -/
def wU (ω : Nat → List Nat) (l v : Nat) : Nat → List Nat := fun b => if b = l then ω l ++ [v] else ω b
theorem ty_al15 {ce : Nat} (h : TY γ κ Ad ν ω L G) (kce : tK κ Ad ce (15, sb.2 5, 0)) : ∃ (o : alD) (m : Int32) (R : va_W), G.Perm ((ce, .inr (11, [.ref (alO sb o), .int (nI (ω ce).length), .int m])) :: (alC γ.2.2.2 o ++ R)) ∧ alI o (ω ce).length ∧ (ω ce).length < 2 ^ 20 ∧ (∀ i, i < (ω ce).length → alF o i = some ((ω ce).getD i 0) ∧ ∃ p q, tK κ Ad ((ω ce).getD i 0) (8, p, q)) ∧ (o = none → (ω ce).length = 0) ∧ (∀ d, o = some d → tK κ Ad d.1 (14, d.2.1, ce)) := by
  obtain ⟨i, q, m, h1, h2, h3, hg⟩ := ty_15e h kce
  have p1 := er_perm G i _ hg
  by_cases hz : (ω ce).length = 0
  · obtain rfl := h2 hz
    exact ⟨none, m, G.eraseIdx i, p1, hz, h1, fun i hi => by omega, fun _ => hz, fun d e => by cases e⟩
  · obtain ⟨cap, kq⟩ := h3 (by omega)
    obtain ⟨j, f, a1, a2, a3, a4⟩ := ty_14e h kq
    have hm : (q, (.inl (γ.2.2.2, cap, .inr (.inr (.inr (.inr f)))) : va_E)) ∈ G.eraseIdx i := by
      rcases List.mem_cons.mp (p1.mem_iff.mp (List.mem_of_getElem? a4)) with e | e
      · cases e
      · exact e
    obtain ⟨j2, hj2⟩ := List.getElem?_of_mem hm
    have p2 := er_perm _ j2 _ hj2
    exact ⟨some (q, cap, f), m, (G.eraseIdx i).eraseIdx j2, p1.trans (p2.cons _), ⟨a1, a2.1, a2.2⟩, h1, a3, fun e => (by cases e), fun d e => by cases e; exact kq⟩
theorem TY.add15 {ce li : Nat} (h : TY γ κ Ad ν ω L G) (kce : tK κ Ad ce (15, sb.2 5, 0)) (hN : KN κ Ad ω 14 ce) (hM : KN κ Ad ω 16 li) (hne : li ≠ ce) {o : alD} {m : Int32} {R : va_W} (hp : G.Perm ((ce, .inr (11, [.ref (alO sb o), .int (nI (ω ce).length), .int m])) :: (alC γ.2.2.2 o ++ R))) (hF : ∀ i, i < (ω ce).length → alF o i = some ((ω ce).getD i 0) ∧ ∃ p q, tK κ Ad ((ω ce).getD i 0) (8, p, q)) (hro : ∀ d, o = some d → tK κ Ad d.1 (14, d.2.1, ce)) (hno : o = none → (ω ce).length = 0)
    {o' : alD} {m' : Int32} {v : Nat} (hD : va_D A ((ce, .inr (11, [.ref (alO sb o'), .int (nI ((ω ce).length + 1)), .int m'])) :: (alC γ.2.2.2 o' ++ R))) (hi : alI o' ((ω ce).length + 1)) (hf : ∀ j, j < (ω ce).length → alF o' j = alF o j) (hv : alF o' (ω ce).length = some v) (kv : ∃ p q, tK κ Ad (v) (8, p, q)) (hz : (ω ce).length + 1 < 2 ^ 20) :
    ∃ κ' Ad', (∀ b, b ∈ Ad → (κ b).1 ≠ 14 → κ' b = κ b ∧ b ∈ Ad') ∧ (∀ q : Nat × va_E, q ∈ R → q.1 ∉ Ad → q.1 ∉ Ad') ∧ (∀ b, b ∈ Ad' → ((κ' b).1 = 10 ∨ (κ' b).1 = 8 ∨ (κ' b).1 = 9) → b ∈ Ad ∧ κ' b = κ b) ∧ KN κ' Ad' (wU ω ce v) 14 ce ∧ KN κ' Ad' (wU ω ce v) 16 li ∧ TY γ κ' Ad' ν (wU ω ce v) L ((ce, .inr (11, [.ref (alO sb o'), .int (nI ((ω ce).length + 1)), .int m'])) :: (alC γ.2.2.2 o' ++ R)) := by
  obtain _ | ⟨q', cap', f'⟩ := o'
  · have hi : (ω ce).length + 1 = 0 := hi
    omega
  have hi : (ω ce).length + 1 ≤ cap' ∧ 10 ≤ cap' ∧ cap' < 2 ^ 24 := hi
  have hcn : q' ≠ ce := fun e => by
    have := hD.1 0 1 _ _ (show _ = some _ from rfl) (show _ = some _ from rfl) (show ce = q' from e.symm)
    omega
  have hRq : ∀ q : Nat × va_E, q ∈ R → q.1 ≠ q' ∧ q.1 ≠ ce := fun q hq => by
    obtain ⟨j, hj⟩ := List.getElem?_of_mem hq
    refine ⟨fun e => ?_, fun e => ?_⟩
    · have := hD.1 1 (j + 2) _ _ (show _ = some _ from rfl) (show _ = some q from hj) (show q' = q.1 from e.symm)
      omega
    · have := hD.1 0 (j + 2) _ _ (show _ = some _ from rfl) (show _ = some q from hj) (show ce = q.1 from e.symm)
      omega
  -- where the old kinds' cells are
  have hold : ∀ b, b ∈ Ad → (κ b).1 ≠ 14 → b = ce ∨ ∃ c, (b, c) ∈ R := fun b hb hk => by
    obtain ⟨c, hc⟩ := h.1 b hb
    rcases List.mem_cons.mp (hp.mem_iff.mp hc) with e | e
    · exact Or.inl (congrArg Prod.fst e)
    · rcases List.mem_append.mp e with e | e
      · cases o with
        | none => cases e
        | some d =>
          have e := congrArg Prod.fst (List.mem_singleton.mp e)
          have e : b = d.1 := e
          exact absurd (by rw [e, (hro d rfl).2]) hk
      · exact Or.inr ⟨c, e⟩
  have hq9 : ∀ b, b ∈ Ad → (κ b).1 ≠ 14 → b ≠ q' := fun b hb hk e => by
    rcases hold b hb hk with g | ⟨c, g⟩
    · exact hcn (e ▸ g)
    · exact (hRq _ g).1 e
  have hk14 : ∀ b, b ∈ Ad → (κ b).1 ≠ 14 → kU κ q' (14, cap', ce) b = κ b ∧ b ∈ q' :: Ad.filter (fun b => decide ((κ b).1 ≠ 14)) := fun b hb hk => ⟨if_neg (hq9 b hb hk), List.mem_cons_of_mem _ (List.mem_filter.mpr ⟨hb, by simpa using hk⟩)⟩
  have hin : ∀ b, b ∈ q' :: Ad.filter (fun b => decide ((κ b).1 ≠ 14)) → b ≠ q' → b ∈ Ad ∧ (κ b).1 ≠ 14 := fun b hb hq => by
    rcases List.mem_cons.mp hb with e | e
    · exact absurd e hq
    · have := List.mem_filter.mp e
      exact ⟨this.1, by simpa using this.2⟩
  have hKq : tK (kU κ q' (14, cap', ce)) (q' :: Ad.filter (fun b => decide ((κ b).1 ≠ 14))) q' (14, cap', ce) := ⟨List.mem_cons_self, kU_at⟩
  have hup : ∀ {b : Nat} {k : Nat × Nat × Nat}, k.1 ≠ 14 → tK κ Ad b k → tK (kU κ q' (14, cap', ce)) (q' :: Ad.filter (fun b => decide ((κ b).1 ≠ 14))) b k := fun {b k} h1 h2 => by
    have := hk14 b h2.1 (by rw [h2.2]; exact h1)
    exact ⟨this.2, by rw [this.1]; exact h2.2⟩
  have hlen : (wU ω ce v ce).length = (ω ce).length + 1 := by unfold wU; rw [if_pos rfl, List.length_append]; rfl
  have hwn : ∀ b, b ≠ ce → wU ω ce v b = ω b := fun b hb => if_neg hb
  refine ⟨kU κ q' (14, cap', ce), q' :: Ad.filter (fun b => decide ((κ b).1 ≠ 14)), hk14, fun q hq hn hm => hn (hin _ hm (hRq q hq).1).1, fun b hb hk => ?_, fun b hb hk => ?_, fun b hb hk => ?_, fun b hb => ?_, fun q hq hqa => ?_⟩
  · by_cases e : b = q'
    · rw [e, kU_at] at hk
      exact absurd hk (by simp)
    · have g := hin b hb e
      exact ⟨g.1, (hk14 b g.1 g.2).1⟩
  · have u : ∀ b, b ∈ q' :: Ad.filter (fun b => decide ((κ b).1 ≠ 14)) → (kU κ q' (14, cap', ce) b).1 = 14 → b = q' := fun b hb hk => by
      by_cases e : b = q'
      · exact e
      · have g := hin b hb e
        rw [(hk14 b g.1 g.2).1] at hk
        exact absurd hk g.2
    have e := u b hb hk
    refine ⟨by rw [e, kU_at], by omega, fun c hc hk9 => by rw [e, u c hc hk9]⟩
  · have z : ∀ b, b ∈ q' :: Ad.filter (fun b => decide ((κ b).1 ≠ 14)) → (kU κ q' (14, cap', ce) b).1 = 16 → b ∈ Ad ∧ (κ b).1 = 16 ∧ kU κ q' (14, cap', ce) b = κ b := fun b hb hk => by
      by_cases e : b = q'
      · rw [e, kU_at] at hk
        exact absurd hk (by simp)
      · have g := hin b hb e
        have g2 := (hk14 b g.1 g.2).1
        rw [g2] at hk
        exact ⟨g.1, hk, g2⟩
    have zb := z b hb hk
    have n := hM b zb.1 zb.2.1
    exact ⟨by rw [zb.2.2]; exact n.1, by rw [hwn _ hne]; exact n.2.1, fun c hc hk9 => n.2.2 c (z c hc hk9).1 (z c hc hk9).2.1⟩
  · by_cases e : b = q'
    · rw [e]; exact ⟨_, List.mem_cons_of_mem _ (List.mem_append_left _ (List.mem_singleton.mpr rfl))⟩
    · have g := hin b hb e
      rcases hold b g.1 g.2 with e2 | ⟨c, e2⟩
      · rw [e2]; exact ⟨_, List.mem_cons_self⟩
      · exact ⟨c, List.mem_cons_of_mem _ (List.mem_append_right _ e2)⟩
  · rcases List.mem_cons.mp hq with e | e
    · rw [e]
      have kce' := hup (by simp) kce
      unfold tOK
      rw [kce'.2]
      show _ < _ ∧ _
      rw [hlen]
      exact ⟨hz, q', m', fun z => by omega, fun _ => ⟨cap', hKq⟩, rfl⟩
    · rcases List.mem_append.mp e with e | e
      · have e := List.mem_singleton.mp e
        rw [e]
        show tOK _ _ _ _ _ _ q' _
        unfold tOK
        rw [hKq.2]
        show _ ≤ _ ∧ _
        rw [hlen]
        refine ⟨hi.1, hi.2, f', fun i hi9 => ?_, rfl⟩
        have eg : (wU ω ce v ce).getD i 0 = if i < (ω ce).length then (ω ce).getD i 0 else v := by unfold wU; rw [if_pos rfl]; exact gD_snoc hi9
        rw [eg]
        by_cases g : i < (ω ce).length
        · rw [if_pos g]
          obtain ⟨g1, p9, q9, k9⟩ := hF i g
          exact ⟨(hf i g).trans g1, p9, q9, hup (by simp) k9⟩
        · rw [if_neg g]
          obtain ⟨p9, q9, k9⟩ := kv
          have : i = (ω ce).length := by omega
          subst this
          exact ⟨hv, p9, q9, hup (by simp) k9⟩
      · have hm : q ∈ G := hp.mem_iff.mpr (List.mem_cons_of_mem _ (List.mem_append_right _ e))
        have hr := hRq q e
        have g := hin _ hqa hr.1
        refine (h.2 q hm g.1).monoR hN (by simp) hr.2 g.2 hk14 g.1 (hwn _ hr.2) (fun hk => ?_) (fun h8 => by rw [hwn _ (fun e => by have k9 := (en_k h g.1 h8).2; rw [e, kce.2] at k9; exact absurd (congrArg Prod.fst k9) (by simp))])
        rcases hk with hk | hk
        · exact absurd hk g.2
        · rw [(hM _ g.1 hk).1]; exact hwn _ hne
theorem ty_al17 {ce : Nat} (h : TY γ κ Ad ν ω L G) (kce : tK κ Ad ce (17, sb.2 5, 0)) : ∃ (o : alD) (m : Int32) (R : va_W), G.Perm ((ce, .inr (11, [.ref (alO sb o), .int (nI (ω ce).length), .int m])) :: (alC γ.2.2.2 o ++ R)) ∧ alI o (ω ce).length ∧ (ω ce).length < 2 ^ 20 ∧ (∀ i, i < (ω ce).length → alF o i = some ((ω ce).getD i 0) ∧ ∃ p, tK κ Ad ((ω ce).getD i 0) (9, p, 0)) ∧ (o = none → (ω ce).length = 0) ∧ (∀ d, o = some d → tK κ Ad d.1 (16, d.2.1, ce)) := by
  obtain ⟨i, q, m, h1, h2, h3, hg⟩ := ty_17e h kce
  have p1 := er_perm G i _ hg
  by_cases hz : (ω ce).length = 0
  · obtain rfl := h2 hz
    exact ⟨none, m, G.eraseIdx i, p1, hz, h1, fun i hi => by omega, fun _ => hz, fun d e => by cases e⟩
  · obtain ⟨cap, kq⟩ := h3 (by omega)
    obtain ⟨j, f, a1, a2, a3, a4⟩ := ty_16e h kq
    have hm : (q, (.inl (γ.2.2.2, cap, .inr (.inr (.inr (.inr f)))) : va_E)) ∈ G.eraseIdx i := by
      rcases List.mem_cons.mp (p1.mem_iff.mp (List.mem_of_getElem? a4)) with e | e
      · cases e
      · exact e
    obtain ⟨j2, hj2⟩ := List.getElem?_of_mem hm
    have p2 := er_perm _ j2 _ hj2
    exact ⟨some (q, cap, f), m, (G.eraseIdx i).eraseIdx j2, p1.trans (p2.cons _), ⟨a1, a2.1, a2.2⟩, h1, a3, fun e => (by cases e), fun d e => by cases e; exact kq⟩
theorem TY.add17 {ce li : Nat} (h : TY γ κ Ad ν ω L G) (kce : tK κ Ad ce (17, sb.2 5, 0)) (hN : KN κ Ad ω 16 ce) (hM : KN κ Ad ω 14 li) (hne : li ≠ ce) {o : alD} {m : Int32} {R : va_W} (hp : G.Perm ((ce, .inr (11, [.ref (alO sb o), .int (nI (ω ce).length), .int m])) :: (alC γ.2.2.2 o ++ R))) (hF : ∀ i, i < (ω ce).length → alF o i = some ((ω ce).getD i 0) ∧ ∃ p, tK κ Ad ((ω ce).getD i 0) (9, p, 0)) (hro : ∀ d, o = some d → tK κ Ad d.1 (16, d.2.1, ce)) (hno : o = none → (ω ce).length = 0)
    {o' : alD} {m' : Int32} {v : Nat} (hD : va_D A ((ce, .inr (11, [.ref (alO sb o'), .int (nI ((ω ce).length + 1)), .int m'])) :: (alC γ.2.2.2 o' ++ R))) (hi : alI o' ((ω ce).length + 1)) (hf : ∀ j, j < (ω ce).length → alF o' j = alF o j) (hv : alF o' (ω ce).length = some v) (kv : ∃ p, tK κ Ad (v) (9, p, 0)) (hz : (ω ce).length + 1 < 2 ^ 20) :
    ∃ κ' Ad', (∀ b, b ∈ Ad → (κ b).1 ≠ 16 → κ' b = κ b ∧ b ∈ Ad') ∧ (∀ q : Nat × va_E, q ∈ R → q.1 ∉ Ad → q.1 ∉ Ad') ∧ (∀ b, b ∈ Ad' → ((κ' b).1 = 10 ∨ (κ' b).1 = 8 ∨ (κ' b).1 = 9) → b ∈ Ad ∧ κ' b = κ b) ∧ KN κ' Ad' (wU ω ce v) 16 ce ∧ KN κ' Ad' (wU ω ce v) 14 li ∧ TY γ κ' Ad' ν (wU ω ce v) L ((ce, .inr (11, [.ref (alO sb o'), .int (nI ((ω ce).length + 1)), .int m'])) :: (alC γ.2.2.2 o' ++ R)) := by
  obtain _ | ⟨q', cap', f'⟩ := o'
  · have hi : (ω ce).length + 1 = 0 := hi
    omega
  have hi : (ω ce).length + 1 ≤ cap' ∧ 10 ≤ cap' ∧ cap' < 2 ^ 24 := hi
  have hcn : q' ≠ ce := fun e => by
    have := hD.1 0 1 _ _ (show _ = some _ from rfl) (show _ = some _ from rfl) (show ce = q' from e.symm)
    omega
  have hRq : ∀ q : Nat × va_E, q ∈ R → q.1 ≠ q' ∧ q.1 ≠ ce := fun q hq => by
    obtain ⟨j, hj⟩ := List.getElem?_of_mem hq
    refine ⟨fun e => ?_, fun e => ?_⟩
    · have := hD.1 1 (j + 2) _ _ (show _ = some _ from rfl) (show _ = some q from hj) (show q' = q.1 from e.symm)
      omega
    · have := hD.1 0 (j + 2) _ _ (show _ = some _ from rfl) (show _ = some q from hj) (show ce = q.1 from e.symm)
      omega
  -- where the old kinds' cells are
  have hold : ∀ b, b ∈ Ad → (κ b).1 ≠ 16 → b = ce ∨ ∃ c, (b, c) ∈ R := fun b hb hk => by
    obtain ⟨c, hc⟩ := h.1 b hb
    rcases List.mem_cons.mp (hp.mem_iff.mp hc) with e | e
    · exact Or.inl (congrArg Prod.fst e)
    · rcases List.mem_append.mp e with e | e
      · cases o with
        | none => cases e
        | some d =>
          have e := congrArg Prod.fst (List.mem_singleton.mp e)
          have e : b = d.1 := e
          exact absurd (by rw [e, (hro d rfl).2]) hk
      · exact Or.inr ⟨c, e⟩
  have hq9 : ∀ b, b ∈ Ad → (κ b).1 ≠ 16 → b ≠ q' := fun b hb hk e => by
    rcases hold b hb hk with g | ⟨c, g⟩
    · exact hcn (e ▸ g)
    · exact (hRq _ g).1 e
  have hk14 : ∀ b, b ∈ Ad → (κ b).1 ≠ 16 → kU κ q' (16, cap', ce) b = κ b ∧ b ∈ q' :: Ad.filter (fun b => decide ((κ b).1 ≠ 16)) := fun b hb hk => ⟨if_neg (hq9 b hb hk), List.mem_cons_of_mem _ (List.mem_filter.mpr ⟨hb, by simpa using hk⟩)⟩
  have hin : ∀ b, b ∈ q' :: Ad.filter (fun b => decide ((κ b).1 ≠ 16)) → b ≠ q' → b ∈ Ad ∧ (κ b).1 ≠ 16 := fun b hb hq => by
    rcases List.mem_cons.mp hb with e | e
    · exact absurd e hq
    · have := List.mem_filter.mp e
      exact ⟨this.1, by simpa using this.2⟩
  have hKq : tK (kU κ q' (16, cap', ce)) (q' :: Ad.filter (fun b => decide ((κ b).1 ≠ 16))) q' (16, cap', ce) := ⟨List.mem_cons_self, kU_at⟩
  have hup : ∀ {b : Nat} {k : Nat × Nat × Nat}, k.1 ≠ 16 → tK κ Ad b k → tK (kU κ q' (16, cap', ce)) (q' :: Ad.filter (fun b => decide ((κ b).1 ≠ 16))) b k := fun {b k} h1 h2 => by
    have := hk14 b h2.1 (by rw [h2.2]; exact h1)
    exact ⟨this.2, by rw [this.1]; exact h2.2⟩
  have hlen : (wU ω ce v ce).length = (ω ce).length + 1 := by unfold wU; rw [if_pos rfl, List.length_append]; rfl
  have hwn : ∀ b, b ≠ ce → wU ω ce v b = ω b := fun b hb => if_neg hb
  refine ⟨kU κ q' (16, cap', ce), q' :: Ad.filter (fun b => decide ((κ b).1 ≠ 16)), hk14, fun q hq hn hm => hn (hin _ hm (hRq q hq).1).1, fun b hb hk => ?_, fun b hb hk => ?_, fun b hb hk => ?_, fun b hb => ?_, fun q hq hqa => ?_⟩
  · by_cases e : b = q'
    · rw [e, kU_at] at hk
      exact absurd hk (by simp)
    · have g := hin b hb e
      exact ⟨g.1, (hk14 b g.1 g.2).1⟩
  · have u : ∀ b, b ∈ q' :: Ad.filter (fun b => decide ((κ b).1 ≠ 16)) → (kU κ q' (16, cap', ce) b).1 = 16 → b = q' := fun b hb hk => by
      by_cases e : b = q'
      · exact e
      · have g := hin b hb e
        rw [(hk14 b g.1 g.2).1] at hk
        exact absurd hk g.2
    have e := u b hb hk
    refine ⟨by rw [e, kU_at], by omega, fun c hc hk9 => by rw [e, u c hc hk9]⟩
  · have z : ∀ b, b ∈ q' :: Ad.filter (fun b => decide ((κ b).1 ≠ 16)) → (kU κ q' (16, cap', ce) b).1 = 14 → b ∈ Ad ∧ (κ b).1 = 14 ∧ kU κ q' (16, cap', ce) b = κ b := fun b hb hk => by
      by_cases e : b = q'
      · rw [e, kU_at] at hk
        exact absurd hk (by simp)
      · have g := hin b hb e
        have g2 := (hk14 b g.1 g.2).1
        rw [g2] at hk
        exact ⟨g.1, hk, g2⟩
    have zb := z b hb hk
    have n := hM b zb.1 zb.2.1
    exact ⟨by rw [zb.2.2]; exact n.1, by rw [hwn _ hne]; exact n.2.1, fun c hc hk9 => n.2.2 c (z c hc hk9).1 (z c hc hk9).2.1⟩
  · by_cases e : b = q'
    · rw [e]; exact ⟨_, List.mem_cons_of_mem _ (List.mem_append_left _ (List.mem_singleton.mpr rfl))⟩
    · have g := hin b hb e
      rcases hold b g.1 g.2 with e2 | ⟨c, e2⟩
      · rw [e2]; exact ⟨_, List.mem_cons_self⟩
      · exact ⟨c, List.mem_cons_of_mem _ (List.mem_append_right _ e2)⟩
  · rcases List.mem_cons.mp hq with e | e
    · rw [e]
      have kce' := hup (by simp) kce
      unfold tOK
      rw [kce'.2]
      show _ < _ ∧ _
      rw [hlen]
      exact ⟨hz, q', m', fun z => by omega, fun _ => ⟨cap', hKq⟩, rfl⟩
    · rcases List.mem_append.mp e with e | e
      · have e := List.mem_singleton.mp e
        rw [e]
        show tOK _ _ _ _ _ _ q' _
        unfold tOK
        rw [hKq.2]
        show _ ≤ _ ∧ _
        rw [hlen]
        refine ⟨hi.1, hi.2, f', fun i hi9 => ?_, rfl⟩
        have eg : (wU ω ce v ce).getD i 0 = if i < (ω ce).length then (ω ce).getD i 0 else v := by unfold wU; rw [if_pos rfl]; exact gD_snoc hi9
        rw [eg]
        by_cases g : i < (ω ce).length
        · rw [if_pos g]
          obtain ⟨g1, p9, k9⟩ := hF i g
          exact ⟨(hf i g).trans g1, p9, hup (by simp) k9⟩
        · rw [if_neg g]
          obtain ⟨p9, k9⟩ := kv
          have : i = (ω ce).length := by omega
          subst this
          exact ⟨hv, p9, hup (by simp) k9⟩
      · have hm : q ∈ G := hp.mem_iff.mpr (List.mem_cons_of_mem _ (List.mem_append_right _ e))
        have hr := hRq q e
        have g := hin _ hqa hr.1
        refine (h.2 q hm g.1).monoR hN (by simp) hr.2 g.2 hk14 g.1 (hwn _ hr.2) (fun hk => ?_) (fun h8 => by rw [hwn _ (fun e => by have k9 := (en_k h g.1 h8).2; rw [e, kce.2] at k9; exact absurd (congrArg Prod.fst k9) (by simp))])
        rcases hk with hk | hk
        · rw [(hM _ g.1 hk).1]; exact hwn _ hne
        · exact absurd hk g.2
end GROW
