/-! A Text that was stored gets its kinds; cells are picked out of the world. -/
theorem va_D.un {A : Nat → Prop} {G : va_W} {a : Nat} {c c' : va_E} (hD : va_D A G) (h : (a, c) ∈ G) (h' : (a, c') ∈ G) : c = c' := by
  obtain ⟨i, hi⟩ := List.getElem?_of_mem h
  obtain ⟨j, hj⟩ := List.getElem?_of_mem h'
  have e : i = j := hD.1 i j _ _ hi hj rfl
  subst e
  rw [hi] at hj
  exact congrArg Prod.snd (Option.some.inj hj)
/-- cells with distinct addresses lie before the rest -/
theorem pickL : ∀ {l G : va_W}, (∀ c, c ∈ l → c ∈ G) → (l.map Prod.fst).Nodup → ∃ R, G.Perm (l ++ R)
  | [], G, _, _ => ⟨G, List.Perm.refl _⟩
  | a :: l, G, h, hn => by
    obtain ⟨R, hR⟩ := pick1 (h a (List.mem_cons_self))
    have hn1 : a.1 ∉ l.map Prod.fst := (List.nodup_cons.mp hn).1
    have hn2 : (l.map Prod.fst).Nodup := (List.nodup_cons.mp hn).2
    obtain ⟨R2, hR2⟩ := pickL (l := l) (G := R) (fun c hc => pick_in hR (h c (List.mem_cons_of_mem _ hc)) (fun e => hn1 (by rw [← e]; exact List.mem_map_of_mem hc))) hn2
    exact ⟨R2, hR.trans (hR2.cons _)⟩
def kG (κ : kE) (t : Nat) (x : TD) : kE := fun b => if b = t then (20, 0, 0) else match (List.range 12).find? (fun j => x.A j == b) with
  | some j => (18, t, j)
  | none => κ b
def aG (Ad : List Nat) (t : Nat) (x : TD) : List Nat := t :: ((List.range 12).map x.A ++ Ad)
def tG (τ : Nat → TD) (t : Nat) (x : TD) : Nat → TD := fun b => if b = t then x else τ b
section GRW
variable {γ : cG} {κ : kE} {Ad : List Nat} {τ : Nat → TD} {G : va_W} {t : Nat} {x : TD}
theorem kG_t : kG κ t x t = (20, 0, 0) := if_pos rfl
theorem tG_t : tG τ t x t = x := if_pos rfl
theorem kG_A (hinj : ∀ i j, i < 12 → j < 12 → x.A i = x.A j → i = j) (ht : ∀ j, j < 12 → x.A j ≠ t) {j : Nat} (hj : j < 12) : kG κ t x (x.A j) = (18, t, j) := by
  unfold kG
  rw [if_neg (ht j hj)]
  have : (List.range 12).find? (fun i => x.A i == x.A j) = some j := by
    cases hf : (List.range 12).find? (fun i => x.A i == x.A j) with
    | none =>
      have := List.find?_eq_none.mp hf j (List.mem_range.mpr hj)
      simp at this
    | some i =>
      have h1 := List.find?_some hf
      have h2 := List.mem_of_find?_eq_some hf
      rw [hinj i j (List.mem_range.mp h2) hj (by simpa using h1)]
  rw [this]
theorem kG_old (h1 : t ∉ Ad) (h2 : ∀ j, j < 12 → x.A j ∉ Ad) {b : Nat} (hb : b ∈ Ad) : kG κ t x b = κ b := by
  unfold kG
  rw [if_neg (fun e => h1 (by rw [← e]; exact hb))]
  have : (List.range 12).find? (fun i => x.A i == b) = none := List.find?_eq_none.mpr (fun i hi => by
    intro e
    have e : x.A i = b := by simpa using e
    exact h2 i (List.mem_range.mp hi) (by rw [e]; exact hb))
  rw [this]
theorem aG_old {b : Nat} (hb : b ∈ Ad) : b ∈ aG Ad t x := List.mem_cons_of_mem _ (List.mem_append_right _ hb)
theorem aG_A {j : Nat} (hj : j < 12) : x.A j ∈ aG Ad t x := List.mem_cons_of_mem _ (List.mem_append_left _ (List.mem_map_of_mem (List.mem_range.mpr hj)))
theorem tG_old (h1 : t ∉ Ad) {b : Nat} (hb : b ∈ Ad) : tG τ t x b = τ b := if_neg (fun e => h1 (by rw [← e]; exact hb))
theorem tK_t : tK (kG κ t x) (aG Ad t x) t (20, 0, 0) := ⟨List.mem_cons_self, kG_t⟩
theorem tK_A (hinj : ∀ i j, i < 12 → j < 12 → x.A i = x.A j → i = j) (ht : ∀ j, j < 12 → x.A j ≠ t) {j : Nat} (hj : j < 12) : tK (kG κ t x) (aG Ad t x) (x.A j) (18, t, j) := ⟨aG_A hj, kG_A hinj ht hj⟩
theorem tK_old (h1 : t ∉ Ad) (h2 : ∀ j, j < 12 → x.A j ∉ Ad) {b : Nat} {k : Nat × Nat × Nat} (hk : tK κ Ad b k) : tK (kG κ t x) (aG Ad t x) b k := ⟨aG_old hk.1, by rw [kG_old h1 h2 hk.1]; exact hk.2⟩
theorem TR.gr {A : Nat → Prop} (h : TR γ κ Ad τ G) (hD : va_D A G) (hc : (t, tcell x) ∈ G) (ha : ∀ j, j < 12 → (x.A j, .inl (γ.2.1, tlen j, .inl (x.D j))) ∈ G) (h1 : t ∉ Ad) (h2 : ∀ j, j < 12 → x.A j ∉ Ad) (hinj : ∀ i j, i < 12 → j < 12 → x.A i = x.A j → i = j) (ht : ∀ j, j < 12 → x.A j ≠ t) : TR γ (kG κ t x) (aG Ad t x) (tG τ t x) G := by
  refine ⟨fun b hb => ?_, fun q hq hqa => ?_⟩
  · rcases List.mem_cons.mp hb with e | e
    · rw [e]; exact ⟨_, hc⟩
    · rcases List.mem_append.mp e with e | e
      · obtain ⟨j, hj, rfl⟩ := List.mem_map.mp e
        exact ⟨_, ha j (List.mem_range.mp hj)⟩
      · exact h.1 b e
  · obtain ⟨b, e9⟩ := q
    rcases List.mem_cons.mp hqa with e | e
    · obtain rfl : b = t := e
      obtain rfl := hD.un hq hc
      unfold tOR
      rw [kG_t, tG_t]
      exact ⟨fun j hj => tK_A hinj ht hj, rfl⟩
    · rcases List.mem_append.mp e with e | e
      · obtain ⟨j, hj, e⟩ := List.mem_map.mp e
        have hj := List.mem_range.mp hj
        obtain rfl : x.A j = b := e
        obtain rfl := hD.un hq (ha j hj)
        unfold tOR
        rw [kG_A hinj ht hj]
        exact ⟨List.mem_cons_self, by rw [tG_t]⟩
      · exact (h.2 _ hq e).mono (fun b hb => kG_old h1 h2 hb) (fun b hb => aG_old hb) e (fun b hb => tG_old h1 hb)
theorem STc.gr {K : Nat} {f : Nat → Option Nat} (h : STc κ Ad τ K f) (h1 : t ∉ Ad) (h2 : ∀ j, j < 12 → x.A j ∉ Ad) : STc (kG κ t x) (aG Ad t x) (tG τ t x) K f := fun i hi => by
  obtain ⟨s, e, hk, hc⟩ := h i hi
  exact ⟨s, e, tK_old h1 h2 hk, by rw [tG_old h1 hk.1]; exact hc⟩
theorem STl.gr {K : Nat} {f : Nat → Option Nat} (h : STl κ Ad τ K f) (h1 : t ∉ Ad) (h2 : ∀ j, j < 12 → x.A j ∉ Ad) : STl (kG κ t x) (aG Ad t x) (tG τ t x) K f := fun i hi => by
  obtain ⟨s, e, hk, hc⟩ := h i hi
  exact ⟨s, e, tK_old h1 h2 hk, by rw [tG_old h1 hk.1]; exact hc⟩
theorem STc.add {K : Nat} {f : Nat → Option Nat} (h : STc κ Ad τ K f) (ht : tK κ Ad t (20, 0, 0)) (hc : TC (τ t)) : STc κ Ad τ (K + 1) (va_up f K (some t)) := fun i hi => by
  by_cases e : i = K
  · subst e
    exact ⟨t, by unfold va_up; rw [if_pos rfl], ht, hc⟩
  · obtain ⟨s, e2, hk, hc⟩ := h i (by omega)
    exact ⟨s, by unfold va_up; rw [if_neg e]; exact e2, hk, hc⟩
theorem STl.add {K : Nat} {f : Nat → Option Nat} (h : STl κ Ad τ K f) (ht : tK κ Ad t (20, 0, 0)) (hc : TL (τ t)) : STl κ Ad τ (K + 1) (va_up f K (some t)) := fun i hi => by
  by_cases e : i = K
  · subst e
    exact ⟨t, by unfold va_up; rw [if_pos rfl], ht, hc⟩
  · obtain ⟨s, e2, hk, hc⟩ := h i (by omega)
    exact ⟨s, by unfold va_up; rw [if_neg e]; exact e2, hk, hc⟩
end GRW
/-- the class' kinds stay where its cells do -/
theorem TY.keep {γ : cG} {κ : kE} {Ad : List Nat} {ν : Nat → cN} {ω : Nat → List Nat} {L : Nat} {G G' : va_W} {A : Nat → Prop} (h : TY γ κ Ad ν ω L G) (hD : va_D A G') (hk : ∀ q, q.1 ∈ Ad → q ∈ G → q ∈ G') : TY γ κ Ad ν ω L G' := by
  refine ⟨fun b hb => ?_, fun q hq hqa => ?_⟩
  · obtain ⟨d, hd⟩ := h.1 b hb
    exact ⟨d, hk _ hb hd⟩
  · obtain ⟨b, e9⟩ := q
    obtain ⟨d, hd⟩ := h.1 b hqa
    obtain rfl := hD.un hq (hk (b, d) hqa hd)
    exact h.2 _ hd hqa
