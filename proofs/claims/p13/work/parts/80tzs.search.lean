/-! The search: the reference's recursion, and the class' steps with a stack (draft, for p11 to p13). -/
/-- puts, chains, what was kept: the way (its last one first), the verdict, the fault's place -/
abbrev sS : Type := Nat × Nat × List Nat × Int32 × Int32
def thn (q : Bool × sS) (f : sS → Bool × sS) : Bool × sS := if q.1 = true then q else f q.2
theorem thn_f {s : sS} {f : sS → Bool × sS} : thn (false, s) f = f s := if_neg (show ¬ (false = true) by decide)
theorem thn_as (q : Bool × sS) (f g : sS → Bool × sS) : thn (thn q f) g = thn q (fun s => thn (f s) g) := by
  unfold thn
  by_cases h : q.1 = true
  · rw [if_pos h, if_pos h, if_pos h]
  · rw [if_neg h, if_neg h]
/-- one chain is judged -/
noncomputable def sJ (fl : List Nat → Int32 × Int32) (w : List Nat) (s : sS) : Bool × sS := @ite _ ((fl w).1 ≠ 0 ∧ s.2.1 ≠ 0) (Classical.propDecidable _) (false, (s.1, s.2.1 + 1, s.2.2)) (@decide ((fl w).1 = 0) (Classical.propDecidable _), (s.1, s.2.1 + 1, w, (fl w).1, (fl w).2))
/-- k may follow on the way w (its last one first) -/
def mayF (fo : Nat → Nat → Prop) (w : List Nat) (k : Nat) : Prop := k ∉ w ∧ fo (w.headD 0) k
/-- the loop over the candidates, m of them left -/
noncomputable def lpR (n : Nat) (fo : Nat → Nat → Prop) (rec : List Nat → sS → Bool × sS) (w : List Nat) : Nat → sS → Bool × sS
  | 0, s => (false, s)
  | m + 1, s => @ite _ (mayF fo w (n - (m + 1))) (Classical.propDecidable _) (@ite _ (s.1 = 1000) (Classical.propDecidable _) (false, s) (thn (rec ((n - (m + 1)) :: w) (s.1 + 1, s.2)) (lpR n fo rec w m))) (lpR n fo rec w m s)
/-- the reference's goOn, r deep at most -/
noncomputable def gR (n : Nat) (fo : Nat → Nat → Prop) (tr : Nat → Prop) (fl : List Nat → Int32 × Int32) : Nat → List Nat → sS → Bool × sS
  | 0, w, s => @ite _ (tr (w.headD 0)) (Classical.propDecidable _) (sJ fl w s) (false, s)
  | r + 1, w, s => @ite _ (tr (w.headD 0)) (Classical.propDecidable _) (sJ fl w s) (lpR n fo (gR n fo tr fl r) w n s)
section SRC
variable {n D : Nat} {fo : Nat → Nat → Prop} {tr : Nat → Prop} {fl : List Nat → Int32 × Int32}
theorem lp_full {rec : List Nat → sS → Bool × sS} {w : List Nat} {s : sS} (h : s.1 = 1000) : ∀ m, lpR n fo rec w m s = (false, s)
  | 0 => rfl
  | m + 1 => by
    unfold lpR
    by_cases c : mayF fo w (n - (m + 1))
    · rw [if_pos c, if_pos h]
    · rw [if_neg c]
      exact lp_full h m
theorem lp_none {rec : List Nat → sS → Bool × sS} {w : List Nat} {s : sS} : ∀ m, m ≤ n → (∀ k, n - m ≤ k → k < n → ¬ mayF fo w k) → lpR n fo rec w m s = (false, s)
  | 0, _, _ => rfl
  | m + 1, hm, h => by
    unfold lpR
    rw [if_neg (h (n - (m + 1)) (Nat.le_refl _) (by omega))]
    exact lp_none m (by omega) (fun k hk hn => h k (by omega) hn)
theorem lp_at {rec : List Nat → sS → Bool × sS} {w : List Nat} {s : sS} {k : Nat} (hk : k < n) (hw : mayF fo w k) (hs : s.1 ≠ 1000) : ∀ m, m ≤ n → n - m ≤ k → (∀ j, n - m ≤ j → j < k → ¬ mayF fo w j) → lpR n fo rec w m s = thn (rec (k :: w) (s.1 + 1, s.2)) (lpR n fo rec w (n - (k + 1)))
  | 0, _, h1, _ => by omega
  | m + 1, hm, h1, h2 => by
    by_cases e : n - (m + 1) = k
    · unfold lpR
      rw [e, if_pos hw, if_neg hs, show m = n - (k + 1) by omega]
    · unfold lpR
      rw [if_neg (h2 (n - (m + 1)) (Nat.le_refl _) (by omega))]
      exact lp_at hk hw hs m (by omega) (by omega) (fun j hj hjk => h2 j (by omega) hjk)
/-- what is left to do: the stack's top first, each with its next candidate -/
noncomputable def ctR (n D : Nat) (fo : Nat → Nat → Prop) (tr : Nat → Prop) (fl : List Nat → Int32 × Int32) : List (Nat × Nat) → sS → Bool × sS
  | [], s => (false, s)
  | (c, nx) :: σ, s => thn (@ite _ (tr c) (Classical.propDecidable _) (false, s) (@ite _ (D ≤ σ.length + 1) (Classical.propDecidable _) (false, s) (lpR n fo (gR n fo tr fl (D - (σ.length + 2))) (c :: σ.map Prod.fst) (n - nx) s))) (ctR n D fo tr fl σ)
/-- no candidate: the top goes -/
theorem ct_none {c nx : Nat} {σ : List (Nat × Nat)} {s : sS} (hnx : nx ≤ n) (hs : s.1 ≤ 1000) (h : 1000 ≤ s.1 ∨ D ≤ σ.length + 1 ∨ tr c ∨ ∀ k, nx ≤ k → k < n → ¬ mayF fo (c :: σ.map Prod.fst) k) : ctR n D fo tr fl ((c, nx) :: σ) s = ctR n D fo tr fl σ s := by
  have e : (@ite _ (tr c) (Classical.propDecidable _) (false, s) (@ite _ (D ≤ σ.length + 1) (Classical.propDecidable _) (false, s) (lpR n fo (gR n fo tr fl (D - (σ.length + 2))) (c :: σ.map Prod.fst) (n - nx) s))) = (false, s) := by
    by_cases h1 : tr c
    · rw [if_pos h1]
    · rw [if_neg h1]
      by_cases h2 : D ≤ σ.length + 1
      · rw [if_pos h2]
      · rw [if_neg h2]
        rcases h with h | h | h | h
        · exact lp_full (by omega) _
        · exact absurd h h2
        · exact absurd h h1
        · exact lp_none _ (by omega) (fun k hk hn => h k (by omega) hn)
  show thn _ _ = _
  rw [e, thn_f]
/-- a candidate: it is put; if it is trusted, the chain is judged -/
theorem ct_some {c nx k : Nat} {σ : List (Nat × Nat)} {s : sS} (hp : s.1 < 1000) (hD : ¬ D ≤ σ.length + 1) (hc : ¬ tr c) (hnx : nx ≤ k) (hk : k < n) (hw : mayF fo (c :: σ.map Prod.fst) k) (hj : ∀ j, nx ≤ j → j < k → ¬ mayF fo (c :: σ.map Prod.fst) j) :
    ctR n D fo tr fl ((c, nx) :: σ) s = @ite _ (tr k) (Classical.propDecidable _) (thn (sJ fl (k :: c :: σ.map Prod.fst) (s.1 + 1, s.2)) (ctR n D fo tr fl ((k, 0) :: (c, k + 1) :: σ))) (ctR n D fo tr fl ((k, 0) :: (c, k + 1) :: σ) (s.1 + 1, s.2)) := by
  have e1 : ctR n D fo tr fl ((c, nx) :: σ) s = thn (gR n fo tr fl (D - (σ.length + 2)) (k :: c :: σ.map Prod.fst) (s.1 + 1, s.2)) (ctR n D fo tr fl ((c, k + 1) :: σ)) := by
    show thn _ _ = _
    rw [if_neg hc, if_neg hD, lp_at hk hw (by omega) (n - nx) (by omega) (by omega) (fun j h1 h2 => hj j (by omega) h2), thn_as]
    congr 1
    funext s2
    show thn _ _ = thn _ _
    rw [if_neg hc, if_neg hD]
  have e2 : ∀ s2, ctR n D fo tr fl ((k, 0) :: (c, k + 1) :: σ) s2 = thn (@ite _ (tr k) (Classical.propDecidable _) (false, s2) (@ite _ (D ≤ σ.length + 1 + 1) (Classical.propDecidable _) (false, s2) (lpR n fo (gR n fo tr fl (D - (σ.length + 1 + 2))) (k :: c :: σ.map Prod.fst) n s2))) (ctR n D fo tr fl ((c, k + 1) :: σ)) := fun s2 => rfl
  by_cases ht : tr k
  · rw [if_pos ht, e1]
    have eg : gR n fo tr fl (D - (σ.length + 2)) (k :: c :: σ.map Prod.fst) (s.1 + 1, s.2) = sJ fl (k :: c :: σ.map Prod.fst) (s.1 + 1, s.2) := by
      cases D - (σ.length + 2) with
      | zero => exact if_pos ht
      | succ r => exact if_pos ht
    rw [eg]
    congr 1
    funext s2
    rw [e2, if_pos ht, thn_f]
  · rw [if_neg ht, e1, e2, if_neg ht]
    congr 1
    by_cases hd : D ≤ σ.length + 1 + 1
    · rw [if_pos hd, show D - (σ.length + 2) = 0 by omega]
      exact if_neg ht
    · rw [if_neg hd, show D - (σ.length + 2) = (D - (σ.length + 1 + 2)) + 1 by omega]
      exact if_neg ht
/-- the start -/
theorem ct_begin {t : Nat} {s : sS} (hD : 1 ≤ D) : gR n fo tr fl (D - 1) [t] s = @ite _ (tr t) (Classical.propDecidable _) (sJ fl [t] s) (ctR n D fo tr fl [(t, 0)] s) := by
  by_cases ht : tr t
  · rw [if_pos ht]
    cases D - 1 with
    | zero => exact if_pos ht
    | succ r => exact if_pos ht
  · rw [if_neg ht]
    have e : ctR n D fo tr fl [(t, 0)] s = (@ite _ (D ≤ 0 + 1) (Classical.propDecidable _) (false, s) (lpR n fo (gR n fo tr fl (D - (0 + 2))) [t] n s)) := by
      show thn (@ite _ (tr t) (Classical.propDecidable _) (false, s) (@ite _ (D ≤ 0 + 1) (Classical.propDecidable _) (false, s) (lpR n fo (gR n fo tr fl (D - (0 + 2))) [t] n s))) (ctR n D fo tr fl []) = _
      rw [if_neg ht]
      generalize (@ite _ (D ≤ 0 + 1) (Classical.propDecidable _) (false, s) (lpR n fo (gR n fo tr fl (D - (0 + 2))) [t] n s)) = q
      unfold thn
      by_cases h : q.1 = true
      · rw [if_pos h]
      · rw [if_neg h]
        obtain ⟨a, b⟩ := q
        have h9 : a = false := by simpa using h
        subst h9
        rfl
    rw [e]
    by_cases hd : D ≤ 0 + 1
    · rw [if_pos hd, show D - 1 = 0 by omega]
      exact if_neg ht
    · rw [if_neg hd, show D - 1 = (D - (0 + 2)) + 1 by omega]
      exact if_neg ht
end SRC
