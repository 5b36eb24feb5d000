/-! The class' readers and the reference's: the same answers. -/
/-- the class stands at x' where the reference answers R -/
def agr {α : Type} (x' : rS) (R : Nat ⊕ α) (P : α → Prop) : Prop := match R with
  | .inl w => x'.2.2 = some w
  | .inr a => x'.2.2 = none ∧ P a
/-- what is wrong stays so -/
def stk (x y : rS) : Prop := ∀ w, x.2.2 = some w → y.2.2 = some w
theorem stk.rf (x : rS) : stk x x := fun _ h => h
theorem stk.tr {x y z : rS} (h : stk x y) (g : stk y z) : stk x z := fun w q => g w (h w q)
theorem opn_stk (u : Nat → Nat) (n : Nat) (x : rS) (tg en : Nat) : stk x (rd_opn u n x tg en).1 := fun w h => by
  obtain ⟨p, s, v⟩ := x
  have h : v = some w := h
  subst h
  rfl
theorem lea_stk (x : rS) (e : Nat) (b : Int32) : stk x (rd_lea x e b) := fun w h => by
  obtain ⟨p, s, v⟩ := x
  have h : v = some w := h
  subst h
  rfl
theorem fin_stk (x : rS) (e : Nat) : stk x (rd_fin x e) := fun w h => by
  obtain ⟨p, s, v⟩ := x
  have h : v = some w := h
  subst h
  rfl
theorem req_stk (x : rS) (b : Int32) : stk x (rd_req x b) := fun w h => by
  obtain ⟨p, s, v⟩ := x
  have h : v = some w := h
  subst h
  rfl
theorem ref_stk (x : rS) (k : Nat) : stk x (rd_ref x k) := fun w h => by
  obtain ⟨p, s, v⟩ := x
  have h : v = some w := h
  subst h
  rfl
theorem agr.no {α β : Type} {x y : rS} {w : Nat} {f : α → Nat ⊕ β} {P : β → Prop} {R : Nat ⊕ α} (h : x.2.2 = some w) (hR : R = .inl w) (hs : stk x y) : agr y (eb R f) P := by
  rw [eb_no hR]
  exact hs w h
theorem agr.ok {α β : Type} {y : rS} {a : α} {f : α → Nat ⊕ β} {P : β → Prop} {R : Nat ⊕ α} (hR : R = .inr a) (h : agr y (f a) P) : agr y (eb R f) P := by
  rw [eb_ok hR]
  exact h
/-- one step: where the reference stops the class is wrong there, else both go on -/
theorem agr.step {α β : Type} {x y : rS} {R : Nat ⊕ α} {Q : α → Prop} {f : α → Nat ⊕ β} {P : β → Prop} (h : agr x R Q) (hs : stk x y) (hk : ∀ a, R = .inr a → x.2.2 = none → Q a → agr y (f a) P) : agr y (eb R f) P := by
  cases hR : R with
  | inl w => rw [hR] at h; exact agr.no h rfl hs
  | inr a => rw [hR] at h; exact agr.ok rfl (hk a hR h.1 h.2)
theorem rS_of {x : rS} (h : x.2.2 = none) : x = (x.1, x.2.1, none) := by
  obtain ⟨p, s, v⟩ := x
  have h : v = none := h
  subst h
  rfl
/-- an element -/
theorem el_eq (u : Nat → Nat) {n p s tg en : Nat} (he : en ≤ n) : agr (rd_opn u n (p, s, none) tg en).1 (tx_element u p tg en) (fun z => (rd_opn u n (p, s, none) tg en).1.1 = z.1 ∧ (rd_opn u n (p, s, none) tg en).2 = z.2 ∧ (rd_opn u n (p, s, none) tg en).1.2.1 = p) := by
  unfold tx_element
  simp only [rd_opn]
  by_cases h1 : p < en
  · rw [if_pos h1, if_neg (show ¬ en ≤ p by omega)]
    by_cases h2 : ¬ u p = tg ∨ ¬ p + 1 < en
    · rw [if_pos h2]
      cases hq : hx u n p with
      | none => exact rfl
      | some z =>
        obtain ⟨k, m⟩ := z
        dsimp only
        rw [if_neg (fun q => h2.elim (fun a => a q.1) (fun a => by
          have hk : 2 ≤ k := by
            unfold hx at hq
            split at hq
            · split at hq
              · split at hq
                · cases hq; decide
                · cases hq
              · split at hq
                · split at hq
                  · cases hq; decide
                  · cases hq
                · split at hq
                  · cases hq; decide
                  · cases hq
            · cases hq
          omega))]
        exact rfl
    · rw [if_neg h2]
      have h3 : u p = tg := Classical.byContradiction (fun q => h2 (Or.inl q))
      have h4 : p + 1 < en := Classical.byContradiction (fun q => h2 (Or.inr q))
      unfold hx
      rw [if_pos (show p + 1 < n by omega)]
      by_cases c1 : u (p + 1) = 129
      · rw [if_pos c1, if_pos c1]
        by_cases c2 : en ≤ p + 2 ∨ ¬ 128 ≤ u (p + 2)
        · rw [if_pos c2]
          by_cases c3 : p + 2 < n ∧ 128 ≤ u (p + 2)
          · rw [if_pos c3]
            dsimp only
            rw [if_neg (fun q => by omega)]
            exact rfl
          · rw [if_neg c3]
            exact rfl
        · rw [if_neg c2, if_pos (show p + 2 < n ∧ 128 ≤ u (p + 2) by omega)]
          dsimp only
          by_cases c4 : p + 2 + 1 + u (p + 2) ≤ en
          · rw [if_pos c4, if_pos (show u p = tg ∧ p + 3 + u (p + 2) ≤ en from ⟨h3, by omega⟩)]
            exact ⟨rfl, by show p + 3 = p + 2 + 1; omega, by show p + 3 + u (p + 2) = p + 2 + 1 + u (p + 2); omega, rfl⟩
          · rw [if_neg c4, if_neg (fun q => by omega)]
            exact rfl
      · rw [if_neg c1, if_neg c1]
        by_cases c5 : u (p + 1) = 130
        · rw [if_pos c5, if_pos c5]
          by_cases c2 : en ≤ p + 2 + 1 ∨ u (p + 2) = 0
          · rw [if_pos c2]
            by_cases c3 : p + 3 < n ∧ 1 ≤ u (p + 2)
            · rw [if_pos c3]
              dsimp only
              rw [if_neg (fun q => by omega)]
              exact rfl
            · rw [if_neg c3]
              exact rfl
          · rw [if_neg c2, if_pos (show p + 3 < n ∧ 1 ≤ u (p + 2) by omega)]
            dsimp only
            have e3 : u (p + 2 + 1) = u (p + 3) := rfl
            rw [e3]
            by_cases c4 : p + 2 + 2 + (u (p + 2) * 256 + u (p + 3)) ≤ en
            · rw [if_pos c4, if_pos (show u p = tg ∧ p + 4 + (u (p + 2) * 256 + u (p + 3)) ≤ en from ⟨h3, by omega⟩)]
              exact ⟨rfl, by show p + 4 = p + 2 + 2; omega, by show p + 4 + (u (p + 2) * 256 + u (p + 3)) = p + 2 + 2 + (u (p + 2) * 256 + u (p + 3)); omega, rfl⟩
            · rw [if_neg c4, if_neg (fun q => by omega)]
              exact rfl
        · rw [if_neg c5, if_neg c5]
          by_cases c6 : u (p + 1) ≤ 127
          · rw [if_pos c6, if_pos (show u (p + 1) < 128 by omega)]
            dsimp only
            by_cases c4 : p + 2 + u (p + 1) ≤ en
            · rw [if_pos c4, if_pos (show u p = tg ∧ p + 2 + u (p + 1) ≤ en from ⟨h3, c4⟩)]
              exact ⟨rfl, rfl, rfl, rfl⟩
            · rw [if_neg c4, if_neg (fun q => c4 q.2)]
              exact rfl
          · rw [if_neg c6, if_neg (show ¬ u (p + 1) < 128 by omega)]
            exact rfl
  · rw [if_neg h1, if_pos (show en ≤ p by omega)]
    exact rfl
theorem el_facts {u : Nat → Nat} {p tg en : Nat} {z : Nat × Nat} (h : tx_element u p tg en = .inr z) : p + 2 ≤ z.1 ∧ z.1 ≤ z.2 ∧ z.2 ≤ en ∧ u p = tg := by
  have h0 := el_eq u (n := en) (p := p) (s := 0) (tg := tg) (en := en) (Nat.le_refl _)
  have hb := opn_bd u en (p, 0, none) tg en
  rw [h] at h0
  obtain ⟨q1, q2, q3, q4⟩ := h0
  have q5 := hb.2.2.2.2 q1
  have q6 := hb.2.2.2.1
  refine ⟨by have : p + 2 ≤ _ := q5.1; omega, by omega, by omega, ?_⟩
  unfold tx_element at h
  by_cases h1 : p < en
  · rw [if_pos h1] at h
    by_cases h2 : ¬ u p = tg ∨ ¬ p + 1 < en
    · rw [if_pos h2] at h; cases h
    · exact Classical.byContradiction (fun q => h2 (Or.inl q))
  · rw [if_neg h1] at h; cases h
theorem oc_in' {u : Nat → Nat} {n k : Nat} (h : k < n) : oc u n k = nI (u k) := if_pos h
theorem zP_ne {P : Prop} (h : P) : zP P ≠ 0 := by rw [← zP_t h]; decide
theorem lea_ok {p s e : Nat} {b : Int32} (h : b ≠ 0) : rd_lea (p, s, none) e b = (e, s, none) := if_neg h
theorem lea_no {p s e : Nat} {b : Int32} (h : b = 0) : rd_lea (p, s, none) e b = (p, s, some s) := if_pos h
theorem req_ok {p s : Nat} {b : Int32} (h : b ≠ 0) : rd_req (p, s, none) b = (p, s, none) := if_neg h
theorem req_no {p s : Nat} {b : Int32} (h : b = 0) : rd_req (p, s, none) b = (p, s, some s) := if_pos h
/-- an element whose octets are asked something: class P, reference the opposite -/
theorem prim_eq {β : Type} {u : Nat → Nat} {n p s tg en : Nat} (he : en ≤ n) {P : Nat → Nat → Prop} {N : Nat × Nat → Prop} {g : Nat × Nat → β} (hP : ∀ z, tx_element u p tg en = .inr z → (P z.1 z.2 ↔ ¬ N z)) :
    agr (rd_lea (rd_opn u n (p, s, none) tg en).1 (rd_opn u n (p, s, none) tg en).2 (zP (P (rd_opn u n (p, s, none) tg en).1.1 (rd_opn u n (p, s, none) tg en).2)))
      (eb (tx_element u p tg en) (fun z => @ite _ (N z) (Classical.propDecidable _) (.inl p) (.inr (g z))))
      (fun b => ∃ z, tx_element u p tg en = .inr z ∧ b = g z ∧ ¬ N z ∧ rd_lea (rd_opn u n (p, s, none) tg en).1 (rd_opn u n (p, s, none) tg en).2 (zP (P (rd_opn u n (p, s, none) tg en).1.1 (rd_opn u n (p, s, none) tg en).2)) = (z.2, p, none) ∧ (rd_opn u n (p, s, none) tg en).1.1 = z.1 ∧ (rd_opn u n (p, s, none) tg en).2 = z.2) := by
  have h0 := el_eq u (n := n) (p := p) (s := s) (tg := tg) (en := en) he
  generalize rd_opn u n (p, s, none) tg en = o at h0 ⊢
  refine agr.step h0 (lea_stk _ _ _) (fun z hz hn hq => ?_)
  obtain ⟨q1, q2, q3⟩ := hq
  have ho := rS_of hn
  rw [q1, q2, ho, q3]
  by_cases hN : N z
  · rw [if_pos hN, show rd_lea (o.1.1, p, none) z.2 (zP (P z.1 z.2)) = (o.1.1, p, some p) from lea_no (zP_f (fun q => (hP z hz).mp q hN)).symm]
    exact rfl
  · rw [if_neg hN, show rd_lea (o.1.1, p, none) z.2 (zP (P z.1 z.2)) = (z.2, p, none) from lea_ok (zP_ne ((hP z hz).mpr hN))]
    exact ⟨rfl, z, hz, rfl, hN, rfl, rfl, rfl⟩
theorem oc_0 {u : Nat → Nat} {n k : Nat} (hu : ∀ j, u j < 256) (h : k < n) : (oc u n k = 0 ↔ u k = 0) := by
  rw [oc_in' h, show (0 : Int32) = nI 0 from rfl, nI_eq (by have := hu k; omega) (by omega)]
theorem oc_255 {u : Nat → Nat} {n k : Nat} (hu : ∀ j, u j < 256) (h : k < n) : (oc u n k = 255 ↔ u k = 255) := by
  rw [oc_in' h, show (255 : Int32) = nI 255 from rfl, nI_eq (by have := hu k; omega) (by omega)]
theorem oc_128n {u : Nat → Nat} {n k : Nat} (hu : ∀ j, u j < 256) (h : k < n) : (128 ≤ oc u n k ↔ 128 ≤ u k) := by
  rw [oc_in' h, show (128 : Int32) = nI 128 from rfl, nI_leI (by omega) (by have := hu k; omega)]
/-- what the reference refuses in an INTEGER -/
def intN (u : Nat → Nat) (z : Nat × Nat) : Prop := (z.2 - z.1) = 0 ∨ (¬ (z.2 - z.1) ≤ 1 ∧ (((u z.1) = 0 ∧ ((u (z.1 + 1)) < 128 ∨ ((u z.1) = 255 ∧ ¬ (u (z.1 + 1)) ≤ 127))) ∨ (¬ (u z.1) = 0 ∧ ((u z.1) = 255 ∧ ¬ (u (z.1 + 1)) ≤ 127))))
theorem num_iff {u : Nat → Nat} {n : Nat} (hu : ∀ j, u j < 256) {z : Nat × Nat} (h1 : z.1 ≤ z.2) (h2 : z.2 ≤ n) : numOK u n z.1 z.2 ↔ ¬ intN u z := by
  unfold numOK intN
  by_cases c : 1 < z.2 - z.1
  · rw [oc_0 hu (show z.1 < n by omega), oc_255 hu (show z.1 < n by omega), oc_128n hu (show z.1 + 1 < n by omega)]
    omega
  · constructor
    · intro h; omega
    · intro h
      exact ⟨by omega, fun q => c q.1⟩
/-- INTEGER -/
theorem nm_eq {u : Nat → Nat} (hu : ∀ j, u j < 256) {n p s en : Nat} (he : en ≤ n) : agr (rd_nm u n (p, s, none) 2 en).1 (tx_integer u p en) (fun z => rd_nm u n (p, s, none) 2 en = ((z.2, p, none), z.1, z.2) ∧ p + 2 ≤ z.1 ∧ z.1 < z.2 ∧ z.2 ≤ en ∧ ¬ intN u z) := by
  have h := prim_eq (β := Nat × Nat) (u := u) (n := n) (p := p) (s := s) (tg := 2) (en := en) he (P := numOK u n) (N := intN u) (g := fun z => (z.1, z.2)) (fun z hz => by
    have f := el_facts hz
    exact num_iff hu f.2.1 (by omega))
  have e : tx_integer u p en = eb (tx_element u p 2 en) (fun z => @ite _ (intN u z) (Classical.propDecidable _) (.inl p) (.inr (z.1, z.2))) := rfl
  rw [e]
  unfold agr at h ⊢
  cases hR : eb (tx_element u p 2 en) (fun z => @ite _ (intN u z) (Classical.propDecidable _) (.inl p) (.inr (z.1, z.2))) with
  | inl w => rw [hR] at h; exact h
  | inr b =>
    rw [hR] at h
    obtain ⟨h1, z, hz, hb, hN, hl, q1, q2⟩ := h
    have f := el_facts hz
    subst hb
    refine ⟨h1, ?_, f.1, ?_, f.2.2.1, hN⟩
    · show (rd_lea _ _ _, _, _) = ((z.2, p, none), z.1, z.2)
      rw [hl, q1, q2]
    · have : ¬ (z.2 - z.1) = 0 := fun q => hN (Or.inl q)
      have := f.2.1
      show z.1 < z.2
      omega
theorem nm_stk (u : Nat → Nat) (n : Nat) (x : rS) (tg en : Nat) : stk x (rd_nm u n x tg en).1 := (opn_stk u n x tg en).tr (lea_stk _ _ _)
