/-! The rows of verdicts: their lists grow with the certificates. -/
/-- what a key's numbers are -/
def kFx (n : cN) (om : Nat → Nat) (lm : Nat) : Prop := ∃ ex bt : Nat, n.2.2.1 = nI ex ∧ n.2.1 = nI bt ∧ (62 ≤ lm ∧ lm ≤ 256) ∧ (1 ≤ ex ∧ ex < 2 ^ 31) ∧ (1 ≤ bt ∧ bt ≤ 8 * lm) ∧ 2 ^ (bt - 1) < vB 256 om lm ∧ vB 256 om lm % 2 = 1
/-- the k-th entry of a row's list is the verdict -/
def vdX (κ : kE) (ν : Nat → cN) (ω : Nat → List Nat) (g c k : Nat) : Prop := ((ω ((ω g).getD 1 0)).getD k 0 = 1 ∧ SGX κ ν ω g c) ∨ ((ω ((ω g).getD 1 0)).getD k 0 = 2 ∧ ¬ SGX κ ν ω g c)
def XI (κ : kE) (Ad : List Nat) (ν : Nat → cN) (ω : Nat → List Nat) (ce : Nat) : Prop :=
  (∀ a, a ∈ Ad → (κ a).1 = 8 → ∃ k, k < (ω ce).length ∧ a = (ω ce).getD k 0) ∧
  (∀ k, k < (ω ce).length → (ν ((ω ce).getD k 0)).2.2.2.2.2.2.2.2.2.2.2.2 = nI k ∧ kFx (ν ((ω ce).getD k 0)) (slO ω ((ω ((ω ce).getD k 0)).getD 2 0) (κ ((ω ((ω ce).getD k 0)).getD 2 0)).2.1) (κ ((ω ((ω ce).getD k 0)).getD 2 0)).2.1) ∧
  ∀ g, g ∈ Ad → (κ g).1 = 8 ∨ (κ g).1 = 9 → (ω ((ω g).getD 1 0)).length = (ω ce).length ∧ ∀ k, k < (ω ce).length → vdX κ ν ω g ((ω ce).getD k 0) k
theorem XI.xc {κ : kE} {Ad : List Nat} {ν : Nat → cN} {ω : Nat → List Nat} {ce : Nat} (h : XI κ Ad ν ω ce) (h16 : (ω ce).length ≤ 16) : XC κ Ad ν ω := by
  intro c K2 l2 hc
  obtain ⟨k, hk, rfl⟩ := h.1 c hc.1 (by rw [hc.2])
  obtain ⟨hn, ex, bt, e1, e2, h3, h4, h5, h6, h7⟩ := h.2.1 k hk
  exact ⟨ex, bt, k, _, e1, e2, hn, by omega, rfl, h3, h4, h5, h6, h7, fun g hg hk8 => ⟨by rw [(h.2.2 g hg hk8).1]; exact hk, (h.2.2 g hg hk8).2 k hk⟩⟩
section XIE
variable {γ : cG} {κ : kE} {Ad : List Nat} {ν : Nat → cN} {ω ω2 : Nat → List Nat} {L : Nat} {G : va_W}
/-- what a paper's words are -/
theorem pa_en {g : Nat} (h : TY γ κ Ad ν ω L G) (hg : g ∈ Ad) (hk : (κ g).1 = 8 ∨ (κ g).1 = 9) : tK κ Ad ((ω g).getD 0 0) (6, 8, 0) ∧ tK κ Ad ((ω g).getD 1 0) (6, 16, g + 1) ∧ (∃ z, tK κ Ad ((ω g).getD 3 0) (2, z, 1)) ∧ ((κ g).1 = 8 → ∃ z, tK κ Ad ((ω g).getD 2 0) (2, z, 1)) := by
  obtain ⟨⟨c, p, q⟩, hkg⟩ : ∃ z, z = κ g := ⟨_, rfl⟩
  rw [← hkg] at hk ⊢
  dsimp only at hk ⊢
  rcases hk with rfl | rfl
  · obtain ⟨i, nm, pe, ec, se, su, mo, ok, ik, ha, si, en, bo, sg, is, iu, h1, h2, -⟩ := ty_8 h ⟨hg, hkg.symm⟩
    rw [h2.2.2.2.1]
    exact ⟨h1.2.2.2.2.2.2.2.2.1, h1.2.2.2.2.2.2.2.2.2.1, h1.2.2.2.2.2.2.2.2.2.2.2.2.1, fun _ => h1.2.2.2.2.2.1⟩
  · obtain ⟨c, hc⟩ := h.1 g hg
    have ho := h.2 _ hc hg
    unfold tOK at ho
    dsimp only at ho
    rw [← hkg] at ho
    obtain ⟨ha, si, en, bo, sg, is, ⟨h1, h2, -, -, h5, -, h8⟩, -⟩ := ho
    rw [h8]
    exact ⟨h1, h2, h5, fun e => absurd e (by decide)⟩
/-- contents that stay -/
def wK (κ : kE) (Ad : List Nat) (ω ω2 : Nat → List Nat) : Prop := ∀ a, a ∈ Ad → ((κ a).1 = 1 ∨ (κ a).1 = 2 ∨ (κ a).1 = 8 ∨ (κ a).1 = 9) → ω2 a = ω a
theorem wK_6 (h : ∀ a, (κ a).1 ≠ 6 → ω2 a = ω a) : wK κ Ad ω ω2 := fun a _ hk => h a (by rcases hk with e | e | e | e <;> rw [e] <;> decide)
/-- where the contents of texts, slices and papers stay, the verdict stays -/
theorem slO_k {q len : Nat} (h : TY γ κ Ad ν ω L G) (hq : ∃ z, tK κ Ad q (2, z, 1)) (hw : wK κ Ad ω ω2) : slO ω2 q len = slO ω q len := by
  obtain ⟨z, kq⟩ := hq
  obtain ⟨i, t, n, f, kt, -, -, e, -⟩ := ty_2x h kq
  funext j
  unfold slO
  rw [hw q kq.1 (Or.inr (Or.inl (by rw [kq.2]))), e]
  show (if _ then (ω2 t).getD _ 0 else 0) = if _ then (ω t).getD _ 0 else 0
  rw [hw t kt.1 (Or.inl (by rw [kt.2]))]
theorem SGX_k {κ' : kE} {ν' : Nat → cN} {g c : Nat} (h : TY γ κ Ad ν ω L G) (hg : g ∈ Ad) (hgk : (κ g).1 = 8 ∨ (κ g).1 = 9) (hc : c ∈ Ad) (hck : (κ c).1 = 8) (hw : wK κ Ad ω ω2) (hk : ∀ a, a ∈ Ad → (κ a).1 = 2 → κ' a = κ a) (hn : ∀ a, a ∈ Ad → (κ a).1 = 6 ∨ (κ a).1 = 8 → ν' a = ν a) : SGX κ' ν' ω2 g c ↔ SGX κ ν ω g c := by
  have e1 : ω2 g = ω g := hw g hg (by rcases hgk with e | e <;> rw [e] <;> decide)
  have e2 : ω2 c = ω c := hw c hc (by rw [hck]; decide)
  have pg := pa_en h hg hgk
  obtain ⟨zm, km⟩ := (pa_en h hc (Or.inl hck)).2.2.2 hck
  obtain ⟨zs, ks⟩ := pg.2.2.1
  unfold SGX
  rw [e1, e2, slO_k h ⟨zm, km⟩ hw, slO_k h ⟨zs, ks⟩ hw, hk _ km.1 (by rw [km.2]), hk _ ks.1 (by rw [ks.2]), hn _ pg.1.1 (Or.inl (by rw [pg.1.2])), hn c hc (Or.inr hck)]
end XIE
