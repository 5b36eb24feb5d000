/-! What the reference's Texts say (p11 to p13; draft; behind 86z). -/
noncomputable def kyT (u : Nat → Nat) (a b : Int32) : List Nat := @ite _ (a < 0) (Classical.propDecidable _) [] (1 :: rgM u a.toNatClampNeg (b.toNatClampNeg - a.toNatClampNeg))
def tkS (x : TD) (i : Nat) (k : Int32) (h : Bool) : Bool := decide (x.D 7 i &&& 1 = k) && (decide (1 < x.D 7 i) == h)
/-- trees: whole, and by their contents -/
def trT (x : TD) (k : Int32) (h : Bool) : List (List Nat) := ((List.range x.nt).filter (fun i => tkS x i k h)).map (fun i => rgM x.u (x.ta i) (x.tz i - x.ta i))
def trH (x : TD) (k : Int32) (h : Bool) : List (List Nat) := ((List.range x.nt).filter (fun i => tkS x i k h)).map (fun i => rgM x.u (hdr x.u (x.ta i)) (x.tz i - hdr x.u (x.ta i)))
noncomputable def cT (x : TD) : cQ := (rgM x.u x.is (x.ie - x.is), rgM x.u x.su (x.ue - x.su), rgM x.u x.sr (x.re - x.sr), kyT x.u (x.I 31) (x.I 32), kyT x.u (x.I 33) (x.I 34), (List.range x.nd).map (fun i => rgM x.u (x.da i) (x.de i - x.da i)), (List.range x.ni).map (fun i => rgM x.u (hdr x.u (x.ia i)) (x.ib i - hdr x.u (x.ia i))), trT x 0 false, trH x 1 false, trT x 0 true, trH x 1 true, x.J 7, x.J 8, x.I 30, x.I 40, x.I 25, x.I 26, x.I 16, rgM x.u (hdr x.u x.su) (x.ue - hdr x.u x.su))
def lTx (x : TD) : lQ := (rgM x.u x.is (x.ie - x.is), (List.range x.ne).map (fun i => rgM x.u (x.ea i) (x.eb i - x.ea i)), x.J 7, x.J 8, x.I 30)
/-- the stored Texts by their numbers -/
noncomputable def cXf (τ : Nat → TD) (f : Nat → Option Nat) : Nat → cQ := fun k => cT (τ ((f k).getD 0))
def lXf (τ : Nat → TD) (f : Nat → Option Nat) : Nat → lQ := fun k => lTx (τ ((f k).getD 0))
theorem fl_nil {n : Nat} {q : Nat → Bool} {f : Nat → List Nat} : ((List.range n).filter q).map f = [] ↔ ¬ ∃ i, i < n ∧ q i = true := by
  rw [List.map_eq_nil_iff, List.filter_eq_nil_iff]
  constructor
  · rintro h ⟨i, h1, h2⟩
    exact h i (List.mem_range.mpr h1) h2
  · intro h i hi q9
    exact h ⟨i, List.mem_range.mp hi, q9⟩
theorem fl_ex {n : Nat} {q : Nat → Bool} {f : Nat → List Nat} {P : List Nat → Prop} : (∃ t, t ∈ ((List.range n).filter q).map f ∧ P t) ↔ ∃ i, i < n ∧ q i = true ∧ P (f i) := by
  constructor
  · rintro ⟨t, h1, h2⟩
    obtain ⟨i, h3, rfl⟩ := List.mem_map.mp h1
    obtain ⟨h4, h5⟩ := List.mem_filter.mp h3
    exact ⟨i, List.mem_range.mp h4, h5, h2⟩
  · rintro ⟨i, h1, h2, h3⟩
    exact ⟨f i, List.mem_map.mpr ⟨i, List.mem_filter.mpr ⟨List.mem_range.mpr h1, h2⟩, rfl⟩, h3⟩
theorem tk_t {x : TD} {i : Nat} {k : Int32} : tkS x i k true = true ↔ x.D 7 i &&& 1 = k ∧ 1 < x.D 7 i := by
  unfold tkS
  simp
theorem tk_f {x : TD} {i : Nat} {k : Int32} : tkS x i k false = true ↔ x.D 7 i &&& 1 = k ∧ ¬ 1 < x.D 7 i := by
  unfold tkS
  simp
theorem may_fin {n : Nat} {x : TD} {k : Int32} {f : Nat → List Nat} {P : List Nat → Prop} (h : ∀ i, i < n → x.D 7 i &&& 1 = k → 1 < x.D 7 i → ¬ P (f i)) : ((∃ i, i < n ∧ x.D 7 i &&& 1 = k ∧ ¬ 1 < x.D 7 i ∧ P (f i)) ∨ ¬ (∃ i, i < n ∧ x.D 7 i &&& 1 = k ∧ ¬ 1 < x.D 7 i)) ↔ ((((List.range n).filter (fun i => tkS x i k false)).map f = [] ∨ ∃ t, t ∈ ((List.range n).filter (fun i => tkS x i k false)).map f ∧ P t) ∧ ¬ ∃ t, t ∈ ((List.range n).filter (fun i => tkS x i k true)).map f ∧ P t) := by
  rw [fl_nil, fl_ex, fl_ex]
  simp only [tk_t, tk_f]
  constructor
  · intro q
    refine ⟨?_, fun ⟨i, h1, ⟨h2, h3⟩, h4⟩ => h i h1 h2 h3 h4⟩
    rcases q with ⟨i, h1, h2, h3, h4⟩ | q
    · exact Or.inr ⟨i, h1, ⟨h2, h3⟩, h4⟩
    · exact Or.inl q
  · rintro ⟨q, -⟩
    rcases q with q | ⟨i, h1, ⟨h2, h3⟩, h4⟩
    · exact Or.inr q
    · exact Or.inl ⟨i, h1, h2, h3, h4⟩
theorem may_no {n i : Nat} {x : TD} {k : Int32} {f : Nat → List Nat} {P : List Nat → Prop} {Q : Prop} (h1 : i < n) (h2 : x.D 7 i &&& 1 = k) (h3 : 1 < x.D 7 i) (h4 : P (f i)) : ¬ (Q ∧ ¬ ∃ t, t ∈ ((List.range n).filter (fun i => tkS x i k true)).map f ∧ P t) := fun q => q.2 (fl_ex.mpr ⟨i, h1, tk_t.mpr ⟨h2, h3⟩, h4⟩)
theorem zP_or (P Q : Prop) : zP P ||| zP Q = zP (P ∨ Q) := by
  by_cases hp : P <;> by_cases hq : Q
  · (rw [← zP_t hp, ← zP_t hq, ← zP_t (show P ∨ Q from Or.inl hp)]) <;> rfl
  · (rw [← zP_t hp, ← zP_f hq, ← zP_t (show P ∨ Q from Or.inl hp)]) <;> rfl
  · (rw [← zP_f hp, ← zP_t hq, ← zP_t (show P ∨ Q from Or.inr hq)]) <;> rfl
  · (rw [← zP_f hp, ← zP_f hq, ← zP_f (show ¬ (P ∨ Q) from fun h => h.elim hp hq)]) <;> rfl
theorem ex_s {P : Nat → Prop} {z : Nat} : (∃ i, i < z + 1 ∧ P i) ↔ (∃ i, i < z ∧ P i) ∨ P z := by
  constructor
  · rintro ⟨i, h1, h2⟩
    by_cases e : i = z
    · subst e; exact Or.inr h2
    · exact Or.inl ⟨i, by omega, h2⟩
  · rintro (⟨i, h1, h2⟩ | h)
    · exact ⟨i, by omega, h2⟩
    · exact ⟨z, by omega, h⟩
theorem ex_s0 {P : Nat → Prop} {z : Nat} (h : ¬ P z) : (∃ i, i < z ∧ P i) ↔ ∃ i, i < z + 1 ∧ P i := by
  rw [ex_s]
  exact ⟨Or.inl, fun q => q.elim id (fun q => absurd q h)⟩
theorem ky_nil {u : Nat → Nat} {a b : Int32} : kyT u a b = [] ↔ a < 0 := by
  unfold kyT
  by_cases h : a < 0
  · rw [if_pos h]; exact ⟨fun _ => h, fun _ => rfl⟩
  · rw [if_neg h]; exact ⟨fun q => (by cases q), fun q => absurd q h⟩
theorem ky_eq {u v : Nat → Nat} {a b c d : Nat} (ha : a < 2 ^ 20) (hb : b < 2 ^ 20) (hc : c < 2 ^ 20) (hd : d < 2 ^ 20) : kyT u (nI a) (nI b) = kyT v (nI c) (nI d) ↔ rgM u a (b - a) = rgM v c (d - c) := by
  have n0 : ∀ k : Nat, k < 2 ^ 20 → ¬ nI k < 0 := fun k hk q => by
    have q2 : nI k < nI 0 := q
    rw [nI_ltI (by omega) (by omega)] at q2
    omega
  unfold kyT
  rw [if_neg (n0 a ha), if_neg (n0 c hc), nI_clamp (by omega), nI_clamp (by omega), nI_clamp (by omega), nI_clamp (by omega)]
  constructor
  · intro h
    exact (List.cons.inj h).2
  · intro h
    rw [h]
/-- the way as a list of numbers -/
def wyR (wl : List Nat) (K9 : Nat) (fw : Nat → Int32) : Prop := ∀ j, j < wl.length → wl.getD j 0 < K9 ∧ fw j = nI (wl.getD j 0)
