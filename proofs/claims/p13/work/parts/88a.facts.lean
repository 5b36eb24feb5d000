/-! What a text that the reference could read is like. -/
def ok9 {α : Type} (x : Nat ⊕ α) (P : α → Prop) : Prop := ∀ a, x = .inr a → P a
theorem ok9_T {α : Type} {x : Nat ⊕ α} : ok9 x (fun _ => True) := fun _ _ => trivial
theorem ok9_no {α : Type} {w : Nat} {P : α → Prop} : ok9 (.inl w) P := fun _ h => by cases h
theorem ok9_yes {α : Type} {a : α} {P : α → Prop} (h : P a) : ok9 (.inr a) P := fun b e => by cases e; exact h
theorem ok9_eb {α β : Type} {x : Nat ⊕ α} {f : α → Nat ⊕ β} {P : α → Prop} {Q : β → Prop} (h : ok9 x P) (g : ∀ a, P a → ok9 (f a) Q) : ok9 (eb x f) Q := fun b e => by
  cases x with
  | inl w => cases e
  | inr a => exact g a (h a rfl) b e
theorem ok9_ite {α : Type} {C : Prop} {d : Decidable C} {A B : Nat ⊕ α} {P : α → Prop} (h : C → ok9 A P) (g : ¬ C → ok9 B P) : ok9 (@ite _ C d A B) P := by
  by_cases c : C
  · rw [if_pos c]; exact h c
  · rw [if_neg c]; exact g c
theorem ok9_loop {α : Type} {B : α → Nat ⊕ α} {M : α → Prop} {J : α → Prop} (hB : ∀ s, J s → M s → ok9 (B s) J) : ∀ (f : Nat) (s : α), J s → ok9 (loopE B M f s) J
  | 0, s, hs => by
    intro a h
    unfold loopE at h
    first
    | (cases h; exact hs)
    | cases h
  | f + 1, s, hs => by
    unfold loopE
    by_cases c : M s
    · rw [if_pos c]
      exact ok9_eb (hB s hs c) (fun a ha => ok9_loop hB f a ha)
    · rw [if_neg c]
      exact ok9_yes hs
theorem el_ok {u : Nat → Nat} {pp tg en : Nat} : ok9 (tx_element u pp tg en) (fun z => z.1 = hdr u pp ∧ pp + 2 ≤ z.1 ∧ z.1 ≤ z.2 ∧ z.2 ≤ en) := by
  unfold tx_element hdr
  refine ok9_ite (fun h1 => ?_) (fun _ => ok9_no)
  refine ok9_ite (fun _ => ok9_no) (fun h2 => ?_)
  refine ok9_ite (fun h3 => ?_) (fun h3 => ?_)
  · refine ok9_ite (fun _ => ok9_no) (fun _ => ?_)
    refine ok9_ite (fun h4 => ok9_yes ⟨?_, ?_, ?_, h4⟩) (fun _ => ok9_no)
    · rw [if_neg (by omega), if_pos h3]
    · show pp + 2 ≤ pp + 2 + 1; omega
    · show pp + 2 + 1 ≤ _; omega
  · refine ok9_ite (fun h5 => ?_) (fun h5 => ?_)
    · refine ok9_ite (fun _ => ok9_no) (fun _ => ?_)
      refine ok9_ite (fun h4 => ok9_yes ⟨?_, ?_, ?_, h4⟩) (fun _ => ok9_no)
      · rw [if_pos h5]
      · show pp + 2 ≤ pp + 2 + 2; omega
      · show pp + 2 + 2 ≤ _; omega
    · refine ok9_ite (fun _ => ?_) (fun _ => ok9_no)
      refine ok9_ite (fun h4 => ok9_yes ⟨?_, ?_, ?_, h4⟩) (fun _ => ok9_no)
      · rw [if_neg h5, if_neg h3]
      · show pp + 2 ≤ pp + 2; omega
      · show pp + 2 ≤ _; omega
theorem name_ok {u : Nat → Nat} {pp en : Nat} : ok9 (tx_name u pp en) (fun z => hdr u pp ≤ z.2.2 ∧ z.2.2 ≤ en) := by
  unfold tx_name
  exact ok9_eb el_ok (fun z4 h4 => ok9_eb ok9_T (fun s _ => ok9_yes ⟨by show _ ≤ z4.2; omega, h4.2.2.2⟩))
theorem bits_ok {u : Nat → Nat} {pp en : Nat} : ok9 (tx_bits u pp en) (fun z => pp + 3 ≤ z.1 ∧ z.1 ≤ z.2 ∧ z.2 ≤ en) := by
  unfold tx_bits
  refine ok9_eb el_ok (fun z4 h4 => ok9_ite (fun _ => ok9_no) (fun h => ok9_yes ⟨?_, ?_, h4.2.2.2⟩))
  · show pp + 3 ≤ z4.1 + 1; omega
  · show z4.1 + 1 ≤ z4.2
    have : ¬ z4.1 = z4.2 := fun e => h (Or.inl e)
    omega
theorem int_ok {u : Nat → Nat} {pp en : Nat} : ok9 (tx_integer u pp en) (fun z => pp + 2 ≤ z.1 ∧ z.1 < z.2 ∧ z.2 ≤ en ∧ (u z.1 = 0 → z.1 + 1 < z.2 → 128 ≤ u (z.1 + 1))) := by
  unfold tx_integer
  refine ok9_eb el_ok (fun z4 h4 => ok9_ite (fun _ => ok9_no) (fun h => ok9_yes ⟨h4.2.1, ?_, h4.2.2.2, fun h0 h1 => ?_⟩))
  · show z4.1 < z4.2
    have : ¬ z4.2 - z4.1 = 0 := fun e => h (Or.inl e)
    omega
  · refine Classical.byContradiction (fun h2 => h (Or.inr ⟨?_, Or.inl ⟨h0, Or.inl (by show u (z4.1 + 1) < 128; exact Nat.not_le.mp h2)⟩⟩))
    have h1 : z4.1 + 1 < z4.2 := h1
    show ¬ z4.2 - z4.1 ≤ 1
    omega
theorem vis_ok {u : Nat → Nat} {fa fb fp least : Nat} : ok9 (tx_visible u fa fb fp least) (fun _ => least ≤ fb - fa) := by
  unfold tx_visible
  refine ok9_eb (P := fun s : Nat × Int32 => s.2 ≠ 0 → least ≤ fb - fa) (ok9_loop (J := fun s : Nat × Int32 => s.2 ≠ 0 → least ≤ fb - fa) (fun s hs _ => ok9_yes (fun h => hs (fun e => h (by show s.2 &&& _ = 0; rw [e]; exact Int32.zero_and)))) _ _ (fun h => ?_)) (fun s hs => ok9_ite (fun _ => ok9_no) (fun h => ok9_yes (hs h)))
  refine Classical.byContradiction (fun h2 => h ?_)
  show zP _ = 0
  exact (zP_f (fun q => q (by omega))).symm
/-- what holds of the names that were gathered up to p -/
def dnJ (u : Nat → Nat) (p : Nat) (D E : List (Nat × Nat)) : Prop := 3 * D.length ≤ p ∧ 4 * E.length ≤ p ∧ ∀ d, d ∈ E → hdr u d.1 ≤ d.2
theorem dnJ.up {u : Nat → Nat} {p q : Nat} {D E : List (Nat × Nat)} (h : dnJ u p D E) (hq : p ≤ q) : dnJ u q D E := ⟨Nat.le_trans h.1 hq, Nat.le_trans h.2.1 hq, h.2.2⟩
theorem names_ok {u : Nat → Nat} {pp en : Nat} {D E : List (Nat × Nat)} (h : dnJ u pp D E) : ok9 (tx_names u pp en D E) (fun z => dnJ u z.1 z.2.1 z.2.2 ∧ pp ≤ z.1 ∧ z.1 ≤ en) := by
  unfold tx_names
  refine ok9_eb el_ok (fun z4 h4 => ok9_ite (fun _ => ok9_no) (fun h5 => ?_))
  refine ok9_eb (P := fun s : Nat × List (Nat × Nat) × List (Nat × Nat) => dnJ u s.1 s.2.1 s.2.2 ∧ pp ≤ s.1 ∧ s.1 ≤ z4.2) (ok9_loop (J := fun s : Nat × List (Nat × Nat) × List (Nat × Nat) => dnJ u s.1 s.2.1 s.2.2 ∧ pp ≤ s.1 ∧ s.1 ≤ z4.2) (fun s hs hM => ?_) _ _ ⟨h.up (by show pp ≤ z4.1; omega), by show pp ≤ z4.1; omega, h4.2.2.1⟩) (fun s hs => ok9_yes ⟨hs.1, hs.2.1, by show s.1 ≤ en; have := hs.2.2; omega⟩)
  obtain ⟨hs, hp1, hp2⟩ := hs
  refine ok9_ite (fun _ => ok9_no) (fun _ => ok9_eb el_ok (fun z97 h97 => ok9_ite (fun _ => ?_) (fun _ => ok9_ite (fun _ => ok9_ite (fun _ => ok9_no) (fun _ => ok9_yes ⟨hs.up (by show s.1 ≤ z97.2; omega), by show pp ≤ z97.2; omega, h97.2.2.2⟩)) (fun _ => ?_))))
  · refine ok9_eb name_ok (fun z129 h129 => ok9_eb ok9_T (fun _ _ => ok9_yes ⟨?_, by show pp ≤ z97.2; omega, h97.2.2.2⟩))
    have hg := hdr_ge u z97.1
    refine ⟨?_, ?_, fun d hd => ?_⟩
    · have := hs.1
      show 3 * s.2.1.length ≤ z97.2
      omega
    · have := hs.2.1
      show 4 * (s.2.2 ++ [_]).length ≤ z97.2
      rw [List.length_append, List.length_singleton]
      omega
    · rcases List.mem_append.mp hd with q | q
      · exact hs.2.2 d q
      · rw [List.mem_singleton.mp q]
        exact h129.1
  · refine ok9_eb vis_ok (fun _ hv => ok9_ite (fun _ => ok9_yes ⟨?_, by show pp ≤ z97.2; omega, h97.2.2.2⟩) (fun _ => ok9_yes ⟨hs.up (by show s.1 ≤ z97.2; omega), by show pp ≤ z97.2; omega, h97.2.2.2⟩))
    refine ⟨?_, ?_, hs.2.2⟩
    · have := hs.1
      show 3 * (s.2.1 ++ [_]).length ≤ z97.2
      rw [List.length_append, List.length_singleton]
      omega
    · have := hs.2.1
      show 4 * s.2.2.length ≤ z97.2
      omega
def trJ (u : Nat → Nat) (p : Nat) (E : List (Nat × Nat × Nat)) : Prop := 4 * E.length ≤ p ∧ ∀ d, d ∈ E → d.2.2 < 4 ∧ (d.2.2 % 2 = 1 → hdr u d.1 ≤ d.2.1)
theorem trJ.up {u : Nat → Nat} {p q : Nat} {E : List (Nat × Nat × Nat)} (h : trJ u p E) (hq : p ≤ q) : trJ u q E := ⟨Nat.le_trans h.1 hq, h.2⟩
theorem trJ.add {u : Nat → Nat} {p q : Nat} {E : List (Nat × Nat × Nat)} {d : Nat × Nat × Nat} (h : trJ u p E) (hq : p + 4 ≤ q) (h1 : d.2.2 < 4) (h2 : d.2.2 % 2 = 1 → hdr u d.1 ≤ d.2.1) : trJ u q (E ++ [d]) := ⟨by
  have := h.1
  rw [List.length_append, List.length_singleton]
  omega, fun e he => by
  rcases List.mem_append.mp he with x | x
  · exact h.2 e x
  · rw [List.mem_singleton.mp x]
    exact ⟨h1, h2⟩⟩
theorem trees_ok {u : Nat → Nat} {pp en tg : Nat} {E : List (Nat × Nat × Nat)} (h : trJ u pp E) : ok9 (tx_trees u pp en tg E) (fun z => trJ u z.1 z.2 ∧ pp ≤ z.1 ∧ z.1 ≤ en) := by
  unfold tx_trees
  refine ok9_eb el_ok (fun z4 h4 => ok9_ite (fun _ => ok9_no) (fun h5 => ?_))
  refine ok9_eb (P := fun s : Nat × List (Nat × Nat × Nat) => trJ u s.1 s.2 ∧ pp ≤ s.1 ∧ s.1 ≤ z4.2) (ok9_loop (J := fun s : Nat × List (Nat × Nat × Nat) => trJ u s.1 s.2 ∧ pp ≤ s.1 ∧ s.1 ≤ z4.2) (fun s hs hM => ?_) _ _ ⟨h.up (by show pp ≤ z4.1; omega), by show pp ≤ z4.1; omega, h4.2.2.1⟩) (fun s hs => ok9_yes ⟨hs.1, hs.2.1, by show s.1 ≤ en; have := hs.2.2; omega⟩)
  obtain ⟨hs, hp1, hp2⟩ := hs
  refine ok9_eb el_ok (fun z50 h50 => ok9_ite (fun _ => ok9_ite (fun _ => ok9_no) (fun _ => ?_)) (fun _ => ok9_eb ok9_T (fun _ _ => ok9_no)))
  dsimp only
  have hv : ∀ (C : Prop) (a b : Nat), (@ite _ C (Classical.propDecidable _) a b) = a ∨ (@ite _ C (Classical.propDecidable _) a b) = b := fun C a b => by
    by_cases c : C
    · exact Or.inl (if_pos c)
    · exact Or.inr (if_neg c)
  have hp3 : pp ≤ z50.2 := by omega
  refine ok9_eb el_ok (fun z126 h126 => ok9_ite (fun _ => ok9_eb ok9_T (fun _ _ => ok9_ite (fun _ => ok9_eb ok9_T (fun _ _ => ok9_yes ⟨hs.add ?_ ?_ ?_, hp3, h50.2.2.2⟩)) (fun hn => ?_))) (fun _ => ok9_eb name_ok (fun z198 h198 => ok9_eb ok9_T (fun _ _ => ok9_eb ok9_T (fun _ _ => ok9_yes ⟨hs.add ?_ ?_ ?_, hp3, h50.2.2.2⟩)))))
  · show s.1 + 4 ≤ z50.2; omega
  · rcases hv (tg = 160) 0 2 with q | q <;> rw [q] <;> dsimp only <;> omega
  · intro q9
    rcases hv (tg = 160) 0 2 with q | q <;> rw [q] at q9 <;> dsimp only at q9 <;> omega
  · exact absurd (by assumption) hn
  · show s.1 + 4 ≤ z50.2; omega
  · rcases hv (tg = 160) 0 2 with q | q <;> rw [q] <;> rcases hv (u z50.1 = 130) 0 1 with q' | q' <;> rw [q'] <;> dsimp only <;> omega
  · exact fun _ => h198.1
theorem con_ok {u : Nat → Nat} {pp en : Nat} {E : List (Nat × Nat × Nat)} (h : trJ u pp E) : ok9 (tx_constraints u pp en E) (fun z => trJ u z.1 z.2 ∧ pp ≤ z.1 ∧ z.1 ≤ en) := by
  unfold tx_constraints
  refine ok9_eb el_ok (fun z4 h4 => ok9_ite (fun _ => ok9_no) (fun h5 => ?_))
  have e1 : pp ≤ z4.1 := by omega
  have e2 : pp ≤ z4.2 := by omega
  have e3 : ∀ T, trJ u pp T → trJ u z4.2 T ∧ pp ≤ z4.2 ∧ z4.2 ≤ en := fun T h => ⟨h.up e2, e2, h4.2.2.2⟩
  have e4 : ∀ (p : Nat) T, trJ u p T → p ≤ z4.2 → trJ u z4.2 T ∧ pp ≤ z4.2 ∧ z4.2 ≤ en := fun p T h hp => ⟨h.up hp, e2, h4.2.2.2⟩
  have two : ∀ (p : Nat) T, trJ u p T → p ≤ z4.2 → ok9 (@ite _ (p < z4.2) (Classical.propDecidable _) (@ite _ (u p = 161) (Classical.propDecidable _) (eb (tx_trees u p z4.2 161 T) (fun z79 => (eb (tx_done u z79.1 z4.2) (fun z89 => (.inr (z4.2, z79.2)))))) (eb (tx_done u p z4.2) (fun z89 => (.inr (z4.2, T))))) (eb (tx_done u p z4.2) (fun z89 => (.inr (z4.2, T))))) (fun z => trJ u z.1 z.2 ∧ pp ≤ z.1 ∧ z.1 ≤ en) := fun p T hT hp =>
    ok9_ite (fun _ => ok9_ite (fun _ => ok9_eb (trees_ok hT) (fun z79 h79 => ok9_eb ok9_T (fun _ _ => ok9_yes (e4 _ _ h79.1 h79.2.2)))) (fun _ => ok9_eb ok9_T (fun _ _ => ok9_yes (e4 _ _ hT hp)))) (fun _ => ok9_eb ok9_T (fun _ _ => ok9_yes (e4 _ _ hT hp)))
  refine ok9_ite (fun _ => ok9_ite (fun _ => ok9_eb (trees_ok (h.up e1)) (fun z55 h55 => two _ _ h55.1 h55.2.2)) (fun _ => two _ _ (h.up e1) h4.2.2.1)) (fun _ => ?_)
  exact ok9_ite (fun _ => ok9_ite (fun _ => ok9_eb ok9_T (fun _ _ => ok9_no)) (fun _ => ok9_eb ok9_T (fun _ _ => ok9_yes (e4 _ _ (h.up e1) h4.2.2.1)))) (fun _ => ok9_eb ok9_T (fun _ _ => ok9_yes (e4 _ _ (h.up e1) h4.2.2.1)))
theorem zP_b9 (P : Prop) : b01 (zP P) := by
  by_cases h : P
  · exact Or.inr (zP_t h).symm
  · exact Or.inl (zP_f h).symm
theorem bas_ok {u : Nat → Nat} {pp en : Nat} {x : Int32} : ok9 (tx_basic u pp en x) (fun z => b01 z.2.1 ∧ pp ≤ z.1 ∧ z.1 ≤ en) := by
  unfold tx_basic
  refine ok9_eb el_ok (fun z4 h4 => ?_)
  have e2 : pp ≤ z4.2 := by omega
  have f1 : ∀ (P : Prop) (y : Int32), b01 ((z4.2, zP P, y) : Nat × Int32 × Int32).2.1 ∧ pp ≤ ((z4.2, zP P, y) : Nat × Int32 × Int32).1 ∧ ((z4.2, zP P, y) : Nat × Int32 × Int32).1 ≤ en := fun P y => ⟨zP_b9 P, e2, h4.2.2.2⟩
  refine ok9_ite (fun _ => ok9_ite (fun _ => ok9_eb ok9_T (fun z58 _ => ok9_ite (fun _ => ok9_no) (fun _ => ok9_ite (fun _ => ok9_eb ok9_T (fun _ _ => ok9_yes (f1 _ _))) (fun _ => ok9_eb ok9_T (fun _ _ => ok9_eb ok9_T (fun _ _ => ok9_yes (f1 _ _))))))) (fun _ => ok9_ite (fun _ => ok9_eb ok9_T (fun _ _ => ok9_yes (f1 _ _))) (fun _ => ok9_no))) (fun _ => ok9_ite (fun _ => ok9_eb ok9_T (fun _ _ => ok9_yes ⟨Or.inl rfl, e2, h4.2.2.2⟩)) (fun _ => ok9_no))
theorem usa_ok {u : Nat → Nat} {pp en : Nat} : ok9 (tx_usage u pp en) (fun z => pp ≤ z.1 ∧ z.1 ≤ en) := by
  unfold tx_usage
  refine ok9_eb el_ok (fun z hz => ?_)
  have e2 : pp ≤ z.2 := by omega
  have e3 := hz.2.2.2
  repeat' first
    | exact ok9_no
    | exact ok9_yes ⟨e2, e3⟩
    | refine ok9_ite (fun _ => ?_) (fun _ => ?_)
    | refine ok9_eb ok9_T (fun _ _ => ?_)
def kJ (x y : Int32) : Prop := x < 0 ∨ ∃ a b, x = nI a ∧ y = nI b ∧ a ≤ b ∧ b ≤ 2048
/-- what holds of all that the extensions have left, up to p -/
def XJ (u : Nat → Nat) (p : Nat) (ca ok okE ik ikE : Int32) (D E : List (Nat × Nat)) (T : List (Nat × Nat × Nat)) : Prop := b01 ca ∧ kJ ok okE ∧ kJ ik ikE ∧ dnJ u p D E ∧ trJ u p T
theorem XJ.up {u : Nat → Nat} {p q : Nat} {ca ok okE ik ikE : Int32} {D E : List (Nat × Nat)} {T : List (Nat × Nat × Nat)} (h : XJ u p ca ok okE ik ikE D E T) (hq : p ≤ q) : XJ u q ca ok okE ik ikE D E T := ⟨h.1, h.2.1, h.2.2.1, h.2.2.2.1.up hq, h.2.2.2.2.up hq⟩
abbrev cnT : Type := Nat × Int32 × Int32 × Int32 × Int32 × Int32 × Int32 × Int32 × List (Nat × Nat) × List (Nat × Nat) × List (Nat × Nat × Nat)
def cnP (u : Nat → Nat) (pp en : Nat) (z : cnT) : Prop := XJ u z.1 z.2.1 z.2.2.2.2.1 z.2.2.2.2.2.1 z.2.2.2.2.2.2.1 z.2.2.2.2.2.2.2.1 z.2.2.2.2.2.2.2.2.1 z.2.2.2.2.2.2.2.2.2.1 z.2.2.2.2.2.2.2.2.2.2 ∧ pp ≤ z.1 ∧ z.1 ≤ en
theorem cnt_ok {u : Nat → Nat} {pp en : Nat} {kn ca le us ok okE ik ikE : Int32} {D E : List (Nat × Nat)} {T : List (Nat × Nat × Nat)} (h : XJ u pp ca ok okE ik ikE D E T) (he : en ≤ 2048) : ok9 (tx_content u pp kn en D E T ca le us ok okE ik ikE) (cnP u pp en) := by
  unfold tx_content
  refine ok9_ite (fun _ => ok9_eb el_ok (fun z hz => ok9_ite (fun _ => ok9_no) (fun _ => ok9_yes ?_))) (fun _ => ?_)
  · have e2 : pp ≤ z.2 := by omega
    exact ⟨⟨h.1, Or.inr ⟨z.1, z.2, rfl, rfl, hz.2.2.1, by omega⟩, h.2.2.1, h.2.2.2.1.up e2, h.2.2.2.2.up e2⟩, e2, hz.2.2.2⟩
  refine ok9_ite (fun _ => ok9_eb (usa_ok) (fun z hz => ok9_yes ⟨h.up hz.1, hz⟩)) (fun _ => ?_)
  refine ok9_ite (fun _ => ok9_eb (names_ok h.2.2.2.1) (fun z hz => ok9_yes ⟨⟨h.1, h.2.1, h.2.2.1, hz.1, h.2.2.2.2.up hz.2.1⟩, hz.2⟩)) (fun _ => ?_)
  refine ok9_ite (fun _ => ok9_eb bas_ok (fun z hz => ok9_yes ⟨⟨hz.1, h.2.1, h.2.2.1, h.2.2.2.1.up hz.2.1, h.2.2.2.2.up hz.2.1⟩, hz.2⟩)) (fun _ => ?_)
  refine ok9_ite (fun _ => ok9_eb (con_ok h.2.2.2.2) (fun z hz => ok9_yes ⟨⟨h.1, h.2.1, h.2.2.1, h.2.2.2.1.up hz.2.1, hz.1⟩, hz.2⟩)) (fun _ => ?_)
  refine ok9_ite (fun _ => ok9_eb el_ok (fun z hz => ok9_eb el_ok (fun y hy => ok9_ite (fun _ => ok9_no) (fun _ => ok9_eb ok9_T (fun _ _ => ok9_yes ?_))))) (fun _ => ?_)
  · have e2 : pp ≤ z.2 := by omega
    exact ⟨⟨h.1, h.2.1, Or.inr ⟨y.1, y.2, rfl, rfl, hy.2.2.1, by omega⟩, h.2.2.2.1.up e2, h.2.2.2.2.up e2⟩, e2, hz.2.2.2⟩
  refine ok9_ite (fun _ => ok9_eb int_ok (fun z hz => ok9_ite (fun _ => ok9_no) (fun _ => ok9_yes ⟨h.up (by show pp ≤ z.2; omega), by show pp ≤ z.2; omega, hz.2.2.1⟩))) (fun _ => ?_)
  exact ok9_eb el_ok (fun z hz => ok9_ite (fun _ => ok9_no) (fun _ => ok9_yes ⟨h.up (by show pp ≤ z.2; omega), by show pp ≤ z.2; omega, hz.2.2.2⟩))
theorem oid_ok {u : Nat → Nat} {pp en : Nat} : ok9 (tx_oid u pp en) (fun z => pp ≤ z.1 ∧ z.1 ≤ z.2 ∧ z.2 ≤ en) := by
  unfold tx_oid
  refine ok9_eb el_ok (fun z hz => ?_)
  have e1 : pp ≤ z.1 := by omega
  repeat' first
    | exact ok9_no
    | exact ok9_yes ⟨e1, hz.2.2.1, hz.2.2.2⟩
    | refine ok9_ite (fun _ => ?_) (fun _ => ?_)
    | refine ok9_eb ok9_T (fun _ _ => ?_)
abbrev exS : Type := Nat × Int32 × List (Nat × Nat) × List (Nat × Nat) × List (Nat × Nat) × List (Nat × Nat × Nat) × Int32 × Int32 × Int32 × Int32 × Int32 × Int32 × Int32
def exJ (u : Nat → Nat) (pp en : Nat) (s : exS) : Prop := XJ u s.1 s.2.2.2.2.2.2.1 s.2.2.2.2.2.2.2.2.2.1 s.2.2.2.2.2.2.2.2.2.2.1 s.2.2.2.2.2.2.2.2.2.2.2.1 s.2.2.2.2.2.2.2.2.2.2.2.2 s.2.2.2.1 s.2.2.2.2.1 s.2.2.2.2.2.1 ∧ pp ≤ s.1 ∧ s.1 ≤ en
abbrev exR : Type := Int32 × List (Nat × Nat) × List (Nat × Nat) × List (Nat × Nat × Nat) × Int32 × Int32 × Int32 × Int32 × Int32 × Int32 × Int32
def exQ (u : Nat → Nat) (p : Nat) (s : exR) : Prop := XJ u p s.2.2.2.2.1 s.2.2.2.2.2.2.2.1 s.2.2.2.2.2.2.2.2.1 s.2.2.2.2.2.2.2.2.2.1 s.2.2.2.2.2.2.2.2.2.2 s.2.1 s.2.2.1 s.2.2.2.1
abbrev exO : Type := Nat × Int32 × Int32 × Int32 × Int32 × Int32 × Int32 × Int32 × Int32 × List (Nat × Nat) × List (Nat × Nat) × List (Nat × Nat × Nat) × List (Nat × Nat)
def exP (u : Nat → Nat) (pp en : Nat) (z : exO) : Prop := XJ u z.1 z.2.2.1 z.2.2.2.2.2.1 z.2.2.2.2.2.2.1 z.2.2.2.2.2.2.2.1 z.2.2.2.2.2.2.2.2.1 z.2.2.2.2.2.2.2.2.2.1 z.2.2.2.2.2.2.2.2.2.2.1 z.2.2.2.2.2.2.2.2.2.2.2.1 ∧ pp ≤ z.1 ∧ z.1 ≤ en
theorem ext_ok {u : Nat → Nat} {pp en wh : Nat} {ma ca le us ok okE ik ikE : Int32} {D E : List (Nat × Nat)} {T : List (Nat × Nat × Nat)} (h : XJ u pp ca ok okE ik ikE D E T) (he : en ≤ 2048) : ok9 (tx_extensions u pp en wh D E T ma ca le us ok okE ik ikE) (exP u pp en) := by
  unfold tx_extensions
  refine ok9_eb el_ok (fun z4 h4 => ok9_ite (fun _ => ok9_no) (fun h5 => ?_))
  refine ok9_eb (P := exJ u pp z4.2) (ok9_loop (J := exJ u pp z4.2) (fun s hs hM => ?_) _ _ ⟨h.up (by show pp ≤ z4.1; omega), by show pp ≤ z4.1; omega, h4.2.2.1⟩) (fun s hs => ok9_yes ⟨hs.1, hs.2.1, by show s.1 ≤ en; have := hs.2.2; omega⟩)
  obtain ⟨hs, hp1, hp2⟩ := hs
  refine ok9_eb el_ok (fun z56 h56 => ok9_eb oid_ok (fun z87 h87 => ok9_eb (P := fun s107 : Nat × Int32 => s.1 ≤ s107.1) ?_ (fun s107 h107 => ok9_eb el_ok (fun z190 h190 => ?_))))
  · refine ok9_ite (fun _ => ok9_ite (fun _ => ok9_eb el_ok (fun z133 h133 => ok9_ite (fun _ => ok9_no) (fun _ => ok9_yes (by show s.1 ≤ z133.2; omega)))) (fun _ => ok9_yes (by show s.1 ≤ z87.2; omega))) (fun _ => ok9_yes (by show s.1 ≤ z87.2; omega))
  · dsimp only
    have e1 : s.1 ≤ z190.1 := by omega
    have e2 : z190.2 ≤ z56.2 := h190.2.2.2
    have e3 : s.1 ≤ z190.2 := by omega
    refine ok9_eb (P := exQ u z190.2) ?_ (fun s254 h254 => ok9_eb ok9_T (fun _ _ => ok9_eb ok9_T (fun _ _ => ok9_yes ⟨h254.up e2, by show pp ≤ z56.2; omega, h56.2.2.2⟩)))
    refine ok9_ite (fun _ => ok9_ite (fun _ => ok9_yes (hs.up e3)) (fun _ => ok9_yes (hs.up e3))) (fun _ => ?_)
    refine ok9_eb (cnt_ok (hs.up e1) (by omega)) (fun z295 h295 => ok9_eb ok9_T (fun _ _ => ok9_yes ?_))
    exact h295.1.up h295.2.2
theorem hi_ok {v : Nat} (hv : v < 256) : ok9 (loopE (α := Nat × Nat) (fun s79 : Nat × Nat => ((.inr ((s79.1 + 1), (s79.2 / 2))) : Nat ⊕ (Nat × Nat))) (fun s79 => ¬ (s79.2 ≤ 0)) 300 (0, v)) (fun s => s.1 ≤ 8 ∧ (0 < v → 1 ≤ s.1)) := by
  have J : ∀ (f : Nat) (s : Nat × Nat), (s.2 < 256 ∧ s.1 + (8 - lzD s.2) ≤ 8 ∧ (0 < v → 1 ≤ s.1)) → ok9 (loopE (α := Nat × Nat) (fun s79 : Nat × Nat => ((.inr ((s79.1 + 1), (s79.2 / 2))) : Nat ⊕ (Nat × Nat))) (fun s79 => ¬ (s79.2 ≤ 0)) f s) (fun s => s.2 < 256 ∧ s.1 + (8 - lzD s.2) ≤ 8 ∧ (0 < v → 1 ≤ s.1)) := fun f s hs => ok9_loop (J := fun s => s.2 < 256 ∧ s.1 + (8 - lzD s.2) ≤ 8 ∧ (0 < v → 1 ≤ s.1)) (fun s hs hM => ok9_yes ⟨by show s.2 / 2 < 256; omega, by
    have := lz_s s.2 hs.1 (by omega)
    show s.1 + 1 + (8 - lzD (s.2 / 2)) ≤ 8
    omega, fun _ => by show 1 ≤ s.1 + 1; omega⟩) f s hs
  show ok9 (loopE _ _ (299 + 1) _) _
  unfold loopE
  by_cases c : v ≤ 0
  · rw [if_neg (fun q => q c)]
    exact ok9_yes ⟨by show 0 ≤ 8; omega, fun h => by omega⟩
  · rw [if_pos c]
    refine ok9_eb (P := fun s => s.2 < 256 ∧ s.1 + (8 - lzD s.2) ≤ 8 ∧ (0 < v → 1 ≤ s.1)) (ok9_yes ⟨by show v / 2 < 256; omega, by
      have := lz_s v hv (by omega)
      show 0 + 1 + (8 - lzD (v / 2)) ≤ 8
      omega, fun _ => by show 1 ≤ 0 + 1; omega⟩) (fun s hs => fun a ha => by
      have := J 299 s hs a ha
      exact ⟨by omega, this.2.2⟩)
theorem key_ok {u : Nat → Nat} (hu : ∀ j, u j < 256) {pp en : Nat} : ok9 (tx_key u pp en) (fun z => (2 ≤ z.2.1 ∧ z.2.1 + 62 ≤ z.2.2.1 ∧ z.2.2.1 ≤ z.2.1 + 256) ∧ 1 ≤ u z.2.1 ∧ (∃ e, z.2.2.2 = nI e ∧ 3 ≤ e ∧ e < 2 ^ 31)) := by
  unfold tx_key
  refine ok9_eb el_ok (fun z4 h4 => ok9_eb int_ok (fun z27 h27 => ok9_eb (P := fun s46 : Nat => z27.1 ≤ s46 ∧ (s46 < z27.2 → 1 ≤ u s46)) ?_ (fun s46 h46 => ?_)))
  · refine ok9_ite (fun h0 => ok9_yes ⟨by show z27.1 ≤ z27.1 + 1; omega, fun h => ?_⟩) (fun h0 => ok9_yes ⟨Nat.le_refl _, fun _ => by show 1 ≤ u z27.1; omega⟩)
    have := h27.2.2.2 h0 h
    show 1 ≤ u (z27.1 + 1)
    omega
  · dsimp only
    by_cases c : z27.2 ≤ s46
    · rw [if_pos c]
      refine ok9_eb ok9_T (fun s79 _ => ?_)
      rw [if_pos c]
      refine ok9_ite (fun _ => ok9_no) (fun q => absurd (Or.inr (Or.inr (fun w => by omega))) q)
    · rw [if_neg c]
      refine ok9_eb (hi_ok (hu s46)) (fun s79 h79 => ?_)
      rw [if_neg c]
      refine ok9_ite (fun _ => ok9_no) (fun q => ?_)
      have hr : 496 ≤ 8 * (z27.2 - s46 - 1) + s79.1 ∧ 8 * (z27.2 - s46 - 1) + s79.1 ≤ 2048 := Classical.byContradiction (fun w => q (Or.inr (Or.inr w)))
      have hb := h46.2 (by omega)
      have h1 := h79.2 hb
      refine ok9_eb ok9_T (fun z186 _ => ok9_eb ok9_T (fun s203 _ => ok9_ite (fun _ => ok9_no) (fun q2 => ok9_eb ok9_T (fun _ _ => ok9_yes ⟨⟨?_, ?_, ?_⟩, hb, ?_⟩))))
      · show 2 ≤ s46; omega
      · show s46 + 62 ≤ z27.2; omega
      · show z27.2 ≤ s46 + 256; omega
      · have c1 : ¬ (lg_cmp s203.2 3) < (0 : Int32) := fun w => q2 (Or.inr (Or.inr (Or.inl w)))
        have c2 : (lg_cmp s203.2 2147483647) ≤ (0 : Int32) := Classical.byContradiction (fun w => q2 (Or.inr (Or.inr (Or.inr w))))
        rw [lg_cmp_lt, Int64.lt_iff_toInt_lt, show (3 : Int64).toInt = 3 from by decide] at c1
        have c2 := Int32.not_lt.mpr c2
        rw [lg_cmp_gt, Int64.lt_iff_toInt_lt, show (2147483647 : Int64).toInt = 2147483647 from by decide] at c2
        refine ⟨s203.2.toInt.toNat, ?_, by omega, by omega⟩
        show s203.2.toInt32 = _
        apply Int32.toInt_inj.mp
        rw [Int64.toInt_toInt32, nI_toInt (by omega), Int.bmod_eq_of_le (by omega) (by omega)]
        omega
theorem x0 {u : Nat → Nat} {p : Nat} {a b : Int32} : XJ u p 0 (-1) a (-1) b [] [] [] := ⟨Or.inl rfl, Or.inl (by decide), Or.inl (by decide), ⟨Nat.zero_le _, Nat.zero_le _, fun _ h => by cases h⟩, ⟨Nat.zero_le _, fun _ h => by cases h⟩⟩
def crP (u : Nat → Nat) (z : Nat × Nat × Nat × Nat × Nat × Nat × Nat × Nat × Nat × Nat × Int64 × Int64 × Int32 × Int32 × Int32 × Int32 × Int32 × Int32 × Int32 × Int32 × Int32 × Int32 × List (Nat × Nat) × List (Nat × Nat) × List (Nat × Nat × Nat)) : Prop := hdr u z.2.2.2.2.2.1 ≤ z.2.2.2.2.2.2.1 ∧ (2 ≤ z.2.2.2.2.2.2.2.2.1 ∧ z.2.2.2.2.2.2.2.2.1 + 62 ≤ z.2.2.2.2.2.2.2.2.2.1 ∧ z.2.2.2.2.2.2.2.2.2.1 ≤ z.2.2.2.2.2.2.2.2.1 + 256) ∧ 1 ≤ u z.2.2.2.2.2.2.2.2.1 ∧ (∃ e, z.2.2.2.2.2.2.2.2.2.2.2.2.1 = nI e ∧ 3 ≤ e ∧ e < 2 ^ 31) ∧ XJ u 2048 z.2.2.2.2.2.2.2.2.2.2.2.2.2.2.2.1 z.2.2.2.2.2.2.2.2.2.2.2.2.2.2.2.2.2.2.1 z.2.2.2.2.2.2.2.2.2.2.2.2.2.2.2.2.2.2.2.1 z.2.2.2.2.2.2.2.2.2.2.2.2.2.2.2.2.2.2.2.2.1 z.2.2.2.2.2.2.2.2.2.2.2.2.2.2.2.2.2.2.2.2.2.1 z.2.2.2.2.2.2.2.2.2.2.2.2.2.2.2.2.2.2.2.2.2.2.1 z.2.2.2.2.2.2.2.2.2.2.2.2.2.2.2.2.2.2.2.2.2.2.2.1 z.2.2.2.2.2.2.2.2.2.2.2.2.2.2.2.2.2.2.2.2.2.2.2.2
theorem cr_ok {u : Nat → Nat} (hu : ∀ j, u j < 256) {pp en : Nat} (he : en ≤ 2048) {a b e1 e2 e3 e4 : Int32} : ok9 (tx_certificate u pp en [] [] [] e1 e2 0 e3 e4 (-1) a (-1) b) (crP u) := by
  unfold tx_certificate
  refine ok9_eb el_ok (fun z5 h5 => ok9_eb ok9_T (fun z30 _ => ok9_eb ok9_T (fun z38 _ => ok9_eb ok9_T (fun z46 _ => ok9_eb ok9_T (fun z75 _ => ok9_eb ok9_T (fun z83 _ => ok9_eb el_ok (fun z95 h95 => ok9_eb ok9_T (fun z118 _ => ok9_eb ok9_T (fun z136 _ => ok9_eb ok9_T (fun z154 _ => ok9_eb name_ok (fun z162 h162 => ok9_eb el_ok (fun z198 h198 => ok9_eb ok9_T (fun z224 _ => ok9_eb ok9_T (fun z232 _ => ok9_eb (key_ok hu) (fun z255 h255 => ok9_eb ok9_T (fun z263 _ => ok9_eb ok9_T (fun z271 _ => ok9_ite (fun _ => ok9_yes ⟨h162.1, h255.1, h255.2.1, h255.2.2, x0⟩) (fun _ => ok9_eb el_ok (fun z294 h294 => ok9_eb (ext_ok x0 (by omega)) (fun z318 h318 => ok9_eb ok9_T (fun _ _ => ok9_yes ⟨h162.1, h255.1, h255.2.1, h255.2.2, h318.1.up (by have := h318.2.2; omega)⟩)))))))))))))))))))))
def rcP (u : Nat → Nat) (z : Nat × Nat × Nat × Nat × Nat × Nat × Nat × Nat × Nat × Int64 × Int64 × Int32 × Int32 × Int32 × Int32 × Int32 × Int32 × Int32 × Int32 × Int32 × Int32 × Nat × Nat × Nat × Nat × List (Nat × Nat) × List (Nat × Nat) × List (Nat × Nat × Nat)) : Prop := (hdr u z.2.2.2.2.1 ≤ z.2.2.2.2.2.1 ∧ (2 ≤ z.2.2.2.2.2.2.2.1 ∧ z.2.2.2.2.2.2.2.1 + 62 ≤ z.2.2.2.2.2.2.2.2.1 ∧ z.2.2.2.2.2.2.2.2.1 ≤ z.2.2.2.2.2.2.2.1 + 256) ∧ 1 ≤ u z.2.2.2.2.2.2.2.1 ∧ (∃ e, z.2.2.2.2.2.2.2.2.2.2.2.1 = nI e ∧ 3 ≤ e ∧ e < 2 ^ 31) ∧ XJ u 2048 z.2.2.2.2.2.2.2.2.2.2.2.2.2.2.1 z.2.2.2.2.2.2.2.2.2.2.2.2.2.2.2.2.2.1 z.2.2.2.2.2.2.2.2.2.2.2.2.2.2.2.2.2.2.1 z.2.2.2.2.2.2.2.2.2.2.2.2.2.2.2.2.2.2.2.1 z.2.2.2.2.2.2.2.2.2.2.2.2.2.2.2.2.2.2.2.2.1 z.2.2.2.2.2.2.2.2.2.2.2.2.2.2.2.2.2.2.2.2.2.2.2.2.2.1 z.2.2.2.2.2.2.2.2.2.2.2.2.2.2.2.2.2.2.2.2.2.2.2.2.2.2.1 z.2.2.2.2.2.2.2.2.2.2.2.2.2.2.2.2.2.2.2.2.2.2.2.2.2.2.2) ∧ 2 ≤ z.2.2.2.2.2.2.2.2.2.2.2.2.2.2.2.2.2.2.2.2.2.2.2.1
/-- a certificate's text that was read -/
theorem rc_ok {u : Nat → Nat} (hu : ∀ j, u j < 256) {n : Nat} (hn : n ≤ 2048) {a b : Int32} : ok9 (tx_readC u n a b) (rcP u) := by
  unfold tx_readC
  exact ok9_eb el_ok (fun z77 h77 => ok9_eb el_ok (fun z102 h102 => ok9_eb (cr_ok hu (by omega)) (fun z157 h157 => ok9_eb ok9_T (fun _ _ => ok9_eb ok9_T (fun z181 _ => ok9_eb bits_ok (fun z189 h189 => ok9_eb ok9_T (fun _ _ => ok9_eb ok9_T (fun _ _ => ok9_yes ⟨h157, by show 2 ≤ z189.1; omega⟩))))))))
theorem time_ok {u : Nat → Nat} {pp en : Nat} : ok9 (tx_time u pp en) (fun z => pp + 15 ≤ z.1 ∧ z.1 ≤ en) := by
  unfold tx_time
  refine ok9_ite (fun _ => ok9_ite (fun _ => ok9_no) (fun _ => ?_)) (fun _ => ?_)
  · dsimp only
    refine ok9_eb el_ok (fun z43 h43 => ok9_ite (fun _ => ok9_no) (fun q => ?_))
    have hq : z43.2 - z43.1 = 13 ∨ z43.2 - z43.1 = 15 := by
      have q1 : z43.2 - z43.1 = _ := Classical.byContradiction (fun w => q (Or.inl w))
      by_cases c : u pp = 23
      · rw [if_pos c] at q1; exact Or.inl q1
      · rw [if_neg c] at q1; exact Or.inr q1
    have hz : pp + 15 ≤ z43.2 := by omega
    have hz2 := h43.2.2.2
    clear q hq
    repeat' first
      | exact ok9_no
      | exact ok9_yes ⟨hz, hz2⟩
      | refine ok9_eb ok9_T (fun _ _ => ?_)
      | refine ok9_ite (fun _ => ?_) (fun _ => ?_)
  · repeat' first
      | exact ok9_no
      | refine ok9_eb ok9_T (fun _ _ => ?_)
      | refine ok9_ite (fun _ => ?_) (fun _ => ?_)
theorem ser_ok {u : Nat → Nat} {pp en : Nat} : ok9 (tx_serial u pp en) (fun z => pp + 3 ≤ z.2 ∧ z.2 ≤ en) := by
  unfold tx_serial
  exact ok9_eb int_ok (fun z hz => ok9_ite (fun _ => ok9_no) (fun _ => ok9_yes ⟨by show pp + 3 ≤ z.2; omega, hz.2.2.1⟩))
def lsJ (u : Nat → Nat) (en : Nat) (s : exS) : Prop := exJ u 0 en s ∧ 20 * s.2.2.1.length ≤ s.1
def lsP (z : Nat × Nat × Nat × Int64 × Int64 × Int32 × Int32 × Int32 × Int32 × Int32 × Int32 × Int32 × Int32 × List (Nat × Nat) × List (Nat × Nat) × List (Nat × Nat × Nat) × List (Nat × Nat)) : Prop := 20 * z.2.2.2.2.2.2.2.2.2.2.2.2.2.2.2.2.length ≤ 2048 ∧ kJ z.2.2.2.2.2.2.2.2.2.2.2.1 z.2.2.2.2.2.2.2.2.2.2.2.2.1
theorem ls_ok {u : Nat → Nat} {pp en : Nat} (he : en ≤ 2048) {a b e2 e3 e4 : Int32} : ok9 (tx_list u pp en [] [] [] [] e2 0 e3 e4 (-1) a (-1) b) lsP := by
  unfold tx_list
  refine ok9_eb ok9_T (fun z4 _ => ok9_eb ok9_T (fun z15 _ => ok9_eb ok9_T (fun z23 _ => ok9_eb ok9_T (fun z31 _ => ok9_eb time_ok (fun z49 h49 => ok9_eb (P := lsJ u en) ?_ (fun s65 h65 => ?_))))))
  · have i0 : ∀ p, p ≤ en → lsJ u en (p, e2, [], [], [], [], 0, e3, e4, -1, a, -1, b) := fun p hp => ⟨⟨x0, Nat.zero_le _, hp⟩, Nat.zero_le _⟩
    refine ok9_ite (fun _ => ok9_ite (fun _ => ok9_eb el_ok (fun z79 h79 => ok9_ite (fun _ => ok9_no) (fun _ => ?_))) (fun _ => ok9_yes (i0 _ h49.2))) (fun _ => ok9_yes (i0 _ h49.2))
    refine ok9_eb (P := lsJ u z79.2) (ok9_loop (J := lsJ u z79.2) (fun s hs hM => ?_) _ _ ⟨⟨x0, Nat.zero_le _, h79.2.2.1⟩, Nat.zero_le _⟩) (fun s hs => ok9_yes ⟨⟨hs.1.1, Nat.zero_le _, by show s.1 ≤ en; have := hs.1.2.2; omega⟩, hs.2⟩)
    obtain ⟨⟨hx, -, hp⟩, hl⟩ := hs
    refine ok9_eb el_ok (fun z126 h126 => ok9_eb ser_ok (fun z149 h149 => ok9_eb time_ok (fun z192 h192 => ?_)))
    have e1 : s.1 ≤ z126.2 := by omega
    have e2 : s.1 ≤ z192.1 := by omega
    have e3 : 20 * (s.2.2.1 ++ [(z149.1, z149.2)]).length ≤ z126.2 := by
      rw [List.length_append, List.length_singleton]
      omega
    refine ok9_ite (fun _ => ok9_eb ok9_T (fun _ _ => ok9_yes ⟨⟨hx.up e1, Nat.zero_le _, h126.2.2.2⟩, e3⟩)) (fun _ => ok9_eb (ext_ok (hx.up e2) (by omega)) (fun z209 h209 => ok9_eb ok9_T (fun _ _ => ok9_yes ⟨⟨h209.1.up h209.2.2, Nat.zero_le _, h126.2.2.2⟩, e3⟩)))
  · obtain ⟨⟨hx, -, hp⟩, hl⟩ := h65
    refine ok9_ite (fun _ => ok9_yes ⟨by show 20 * s65.2.2.1.length ≤ 2048; omega, hx.2.2.1⟩) (fun _ => ok9_eb el_ok (fun z243 h243 => ok9_eb (ext_ok (hx.up (by show s65.1 ≤ z243.1; omega)) (by omega)) (fun z267 h267 => ok9_eb ok9_T (fun _ _ => ok9_yes ⟨by show 20 * s65.2.2.1.length ≤ 2048; omega, h267.1.2.2.1⟩))))
def rlP (z : Nat × Nat × Int64 × Int64 × Int32 × Int32 × Int32 × Int32 × Int32 × Int32 × Int32 × Int32 × Nat × Nat × Nat × Nat × List (Nat × Nat)) : Prop := z.2.2.2.2.2.2.2.2.2.2.2.2.2.2.2.2.length ≤ 200 ∧ kJ z.2.2.2.2.2.2.2.2.2.2.1 z.2.2.2.2.2.2.2.2.2.2.2.1 ∧ 2 ≤ z.2.2.2.2.2.2.2.2.2.2.2.2.2.2.1
/-- a list's text that was read -/
theorem rl_ok {u : Nat → Nat} {n : Nat} (hn : n ≤ 2048) {a b : Int32} : ok9 (tx_readL u n a b) rlP := by
  unfold tx_readL
  exact ok9_eb el_ok (fun z77 h77 => ok9_eb el_ok (fun z102 h102 => ok9_eb (ls_ok (by omega)) (fun z143 h143 => ok9_eb ok9_T (fun _ _ => ok9_eb ok9_T (fun z181 _ => ok9_eb bits_ok (fun z189 h189 => ok9_eb ok9_T (fun _ _ => ok9_eb ok9_T (fun _ _ => ok9_yes ⟨by have := h143.1; dsimp only; omega, h143.2, by show 2 ≤ z189.1; omega⟩))))))))
