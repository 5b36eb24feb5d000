/-! The class' readers and the reference's: extensions. -/
noncomputable def ex3 (u : Nat → Nat) (wh p9 : Nat) (g9 : Int32) (E9 a9 b9 : Nat) (s44 : Nat × Int32 × List (Nat × Nat) × List (Nat × Nat) × List (Nat × Nat) × List (Nat × Nat × Nat) × Int32 × Int32 × Int32 × Int32 × Int32 × Int32 × Int32) : Nat ⊕ (Nat × Int32 × List (Nat × Nat) × List (Nat × Nat) × List (Nat × Nat) × List (Nat × Nat × Nat) × Int32 × Int32 × Int32 × Int32 × Int32 × Int32 × Int32) := (eb (tx_element u p9 4 E9) (fun z190 => (let vj204 := (@ite _ ((b9 - a9) = 3) (Classical.propDecidable _) (@ite _ ((u a9) = 85) (Classical.propDecidable _) (@ite _ ((u (a9 + 1)) = 29) (Classical.propDecidable _) (nI (u (a9 + 2))) ((-1 : Int32))) ((-1 : Int32))) ((-1 : Int32))); (eb ((@ite _ ((knZ wh vj204) = (0 : Int32)) (Classical.propDecidable _) (@ite _ (g9 = (0 : Int32)) (Classical.propDecidable _) (.inr (s44.2.1, s44.2.2.2.1, s44.2.2.2.2.1, s44.2.2.2.2.2.1, s44.2.2.2.2.2.2.1, s44.2.2.2.2.2.2.2.1, s44.2.2.2.2.2.2.2.2.1, s44.2.2.2.2.2.2.2.2.2.1, s44.2.2.2.2.2.2.2.2.2.2.1, s44.2.2.2.2.2.2.2.2.2.2.2.1, s44.2.2.2.2.2.2.2.2.2.2.2.2)) (.inr (s44.2.1 + 1, s44.2.2.2.1, s44.2.2.2.2.1, s44.2.2.2.2.2.1, s44.2.2.2.2.2.2.1, s44.2.2.2.2.2.2.2.1, s44.2.2.2.2.2.2.2.2.1, s44.2.2.2.2.2.2.2.2.2.1, s44.2.2.2.2.2.2.2.2.2.2.1, s44.2.2.2.2.2.2.2.2.2.2.2.1, s44.2.2.2.2.2.2.2.2.2.2.2.2))) (eb (tx_content u z190.1 vj204 z190.2 s44.2.2.2.1 s44.2.2.2.2.1 s44.2.2.2.2.2.1 s44.2.2.2.2.2.2.1 s44.2.2.2.2.2.2.2.1 s44.2.2.2.2.2.2.2.2.1 s44.2.2.2.2.2.2.2.2.2.1 s44.2.2.2.2.2.2.2.2.2.2.1 s44.2.2.2.2.2.2.2.2.2.2.2.1 s44.2.2.2.2.2.2.2.2.2.2.2.2) (fun z295 => (eb (tx_done u z295.1 z190.2) (fun z304 => (.inr (s44.2.1, z295.2.2.2.2.2.2.2.2.1, z295.2.2.2.2.2.2.2.2.2.1, z295.2.2.2.2.2.2.2.2.2.2, z295.2.1, z295.2.2.1, z295.2.2.2.1, z295.2.2.2.2.1, z295.2.2.2.2.2.1, z295.2.2.2.2.2.2.1, z295.2.2.2.2.2.2.2.1))))))) : Nat ⊕ (Int32 × List (Nat × Nat) × List (Nat × Nat) × List (Nat × Nat × Nat) × Int32 × Int32 × Int32 × Int32 × Int32 × Int32 × Int32)) (fun s254 => (eb (tx_done u z190.2 E9) (fun z321 => (eb (loopE (α := Nat) (fun s332 : Nat => ((@ite _ (sameP u u ((s44.2.2.1.getD s332 (0, 0)).1) ((s44.2.2.1.getD s332 (0, 0)).2) a9 b9) (Classical.propDecidable _) (.inl s44.1) (.inr (s332 + 1))) : Nat ⊕ (Nat))) (fun s332 => ¬ (s44.2.2.1.length ≤ s332)) 400 0) (fun s332 => (.inr (E9, s254.1, (s44.2.2.1 ++ [(a9, b9)]), s254.2.1, s254.2.2.1, s254.2.2.2.1, s254.2.2.2.2.1, s254.2.2.2.2.2.1, s254.2.2.2.2.2.2.1, s254.2.2.2.2.2.2.2.1, s254.2.2.2.2.2.2.2.2.1, s254.2.2.2.2.2.2.2.2.2.1, s254.2.2.2.2.2.2.2.2.2.2)))))))))))
noncomputable def exB (u : Nat → Nat) (wh e9 : Nat) : Nat × Int32 × List (Nat × Nat) × List (Nat × Nat) × List (Nat × Nat) × List (Nat × Nat × Nat) × Int32 × Int32 × Int32 × Int32 × Int32 × Int32 × Int32 → Nat ⊕ (Nat × Int32 × List (Nat × Nat) × List (Nat × Nat) × List (Nat × Nat) × List (Nat × Nat × Nat) × Int32 × Int32 × Int32 × Int32 × Int32 × Int32 × Int32) := (fun s44 : Nat × Int32 × List (Nat × Nat) × List (Nat × Nat) × List (Nat × Nat) × List (Nat × Nat × Nat) × Int32 × Int32 × Int32 × Int32 × Int32 × Int32 × Int32 => ((eb (tx_element u s44.1 48 e9) (fun z56 => (eb (tx_oid u z56.1 z56.2) (fun z87 => (eb ((@ite _ (z87.2 < z56.2) (Classical.propDecidable _) (@ite _ ((u z87.2) = 1) (Classical.propDecidable _) (eb (tx_element u z87.2 1 z56.2) (fun z133 => (@ite _ (¬ ((z133.2 - z133.1) = 1) ∨ (¬ ((u z133.1) = 255))) (Classical.propDecidable _) (.inl z87.2) (.inr (z133.2, zP ((u z87.2) = 1)))))) (.inr (z87.2, zP ((u z87.2) = 1)))) (.inr (z87.2, 0))) : Nat ⊕ (Nat × Int32)) (fun s107 => (ex3 u wh s107.1 s107.2 z56.2 z87.1 z87.2 s44))))))) : Nat ⊕ (Nat × Int32 × List (Nat × Nat) × List (Nat × Nat) × List (Nat × Nat) × List (Nat × Nat × Nat) × Int32 × Int32 × Int32 × Int32 × Int32 × Int32 × Int32)))
theorem kd_eq (u : Nat → Nat) (a b : Nat) : (@ite _ ((b - a) = 3) (Classical.propDecidable _) (@ite _ ((u a) = 85) (Classical.propDecidable _) (@ite _ ((u (a + 1)) = 29) (Classical.propDecidable _) (nI (u (a + 2))) ((-1 : Int32))) ((-1 : Int32))) ((-1 : Int32))) = kdN u a b := by
  unfold kdN
  by_cases h1 : b - a = 3
  · rw [if_pos h1]
    by_cases h2 : u a = 85
    · rw [if_pos h2]
      by_cases h3 : u (a + 1) = 29
      · rw [if_pos h3, if_pos ⟨h1, h2, h3⟩]
      · rw [if_neg h3, if_neg (fun q => h3 q.2.2)]
    · rw [if_neg h2, if_neg (fun q => h2 q.2.1)]
  · rw [if_neg h1, if_neg (fun q => h1 q.1)]
theorem rep_loop {u : Nat → Nat} {L : List (Nat × Nat)} {a b x0 : Nat} : ∀ (f i : Nat), L.length - i ≤ f → ((∃ k, i ≤ k ∧ k < L.length ∧ sameS u (L.getD k (0, 0)) a b) → loopE (α := Nat) (fun s332 : Nat => ((@ite _ (sameP u u ((L.getD s332 (0, 0)).1) ((L.getD s332 (0, 0)).2) a b) (Classical.propDecidable _) (.inl x0) (.inr (s332 + 1))) : Nat ⊕ (Nat))) (fun s332 => ¬ (L.length ≤ s332)) f i = .inl x0) ∧ ((¬ ∃ k, i ≤ k ∧ k < L.length ∧ sameS u (L.getD k (0, 0)) a b) → ∃ j, loopE (α := Nat) (fun s332 : Nat => ((@ite _ (sameP u u ((L.getD s332 (0, 0)).1) ((L.getD s332 (0, 0)).2) a b) (Classical.propDecidable _) (.inl x0) (.inr (s332 + 1))) : Nat ⊕ (Nat))) (fun s332 => ¬ (L.length ≤ s332)) f i = .inr j)
  | 0, i, h => ⟨fun ⟨k, h1, h2, _⟩ => absurd h2 (by omega), fun _ => ⟨i, rfl⟩⟩
  | f + 1, i, h => by
    by_cases hi : L.length ≤ i
    · exact ⟨fun ⟨k, h1, h2, _⟩ => absurd h2 (by omega), fun _ => ⟨i, if_neg (fun q => q hi)⟩⟩
    · have ih := rep_loop (u := u) (L := L) (a := a) (b := b) (x0 := x0) f (i + 1) (by omega)
      by_cases hs : sameS u (L.getD i (0, 0)) a b
      · refine ⟨fun _ => (if_pos hi).trans (eb_no (if_pos hs)), fun q => absurd ⟨i, Nat.le_refl _, by omega, hs⟩ q⟩
      · refine ⟨fun ⟨k, h1, h2, h3⟩ => ?_, fun q => ?_⟩
        · refine (if_pos hi).trans ((eb_ok (if_neg hs)).trans (ih.1 ⟨k, ?_, h2, h3⟩))
          rcases Nat.lt_or_eq_of_le h1 with r | r
          · exact r
          · rw [← r] at h3; exact absurd h3 hs
        · obtain ⟨j, e⟩ := ih.2 (fun ⟨k, h1, h2, h3⟩ => q ⟨k, by omega, h2, h3⟩)
          exact ⟨j, (if_pos hi).trans ((eb_ok (if_neg hs)).trans e)⟩
theorem rep_q {u : Nat → Nat} {L : List (Nat × Nat)} {a b x0 : Nat} (hL : L.length ≤ 400) : (repP u L a b → loopE (α := Nat) (fun s332 : Nat => ((@ite _ (sameP u u ((L.getD s332 (0, 0)).1) ((L.getD s332 (0, 0)).2) a b) (Classical.propDecidable _) (.inl x0) (.inr (s332 + 1))) : Nat ⊕ (Nat))) (fun s332 => ¬ (L.length ≤ s332)) 400 0 = .inl x0) ∧ (¬ repP u L a b → ∃ j, loopE (α := Nat) (fun s332 : Nat => ((@ite _ (sameP u u ((L.getD s332 (0, 0)).1) ((L.getD s332 (0, 0)).2) a b) (Classical.propDecidable _) (.inl x0) (.inr (s332 + 1))) : Nat ⊕ (Nat))) (fun s332 => ¬ (L.length ≤ s332)) 400 0 = .inr j) := by
  have hl := rep_loop (u := u) (L := L) (a := a) (b := b) (x0 := x0)
  have hf : L.length - 0 ≤ 400 := by omega
  generalize (400 : Nat) = f9 at hf ⊢
  have h := hl f9 0 hf
  exact ⟨fun ⟨i, h1, h2⟩ => h.1 ⟨i, Nat.zero_le _, h1, h2⟩, fun q => h.2 (fun ⟨i, _, h1, h2⟩ => q ⟨i, h1, h2⟩)⟩
/-! The certificate's. -/
noncomputable def exC4 (u : Nat → Nat) (K : (rS × (Nat × Nat) × (Nat × Nat) × Int32 × Int32 × Int32 × (List (Nat × Nat)) × (List (Nat × Nat)) × (List (Nat × Nat)) × (List (Nat × Nat)) × (List (Nat × Nat)) × (List (Nat × Nat))) × Int32) (zE E x0 a b : Nat) (fl ma ex : Int32) (L : List (Nat × Nat)) : rS × Int32 × Int32 × (List (Nat × Nat)) × (Nat × Nat) × (Nat × Nat) × Int32 × Int32 × Int32 × (List (Nat × Nat)) × (List (Nat × Nat)) × (List (Nat × Nat)) × (List (Nat × Nat)) × (List (Nat × Nat)) × (List (Nat × Nat)) :=
  @ite _ (K.2 = (0 : Int32)) (Classical.propDecidable _) (@ite _ (repP u L a b) (Classical.propDecidable _) (rd_ref (rd_fin (rd_lea K.1.1 zE (1 : Int32)) E) x0, ma + fl, ex + 1, (L ++ [(a, b)]), K.1.2.1, K.1.2.2.1, K.1.2.2.2.1, K.1.2.2.2.2.1, K.1.2.2.2.2.2.1, K.1.2.2.2.2.2.2.1, K.1.2.2.2.2.2.2.2.1, K.1.2.2.2.2.2.2.2.2.1, K.1.2.2.2.2.2.2.2.2.2.1, K.1.2.2.2.2.2.2.2.2.2.2.1, K.1.2.2.2.2.2.2.2.2.2.2.2) (rd_fin (rd_lea K.1.1 zE (1 : Int32)) E, ma + fl, ex + 1, (L ++ [(a, b)]), K.1.2.1, K.1.2.2.1, K.1.2.2.2.1, K.1.2.2.2.2.1, K.1.2.2.2.2.2.1, K.1.2.2.2.2.2.2.1, K.1.2.2.2.2.2.2.2.1, K.1.2.2.2.2.2.2.2.2.1, K.1.2.2.2.2.2.2.2.2.2.1, K.1.2.2.2.2.2.2.2.2.2.2.1, K.1.2.2.2.2.2.2.2.2.2.2.2)) (@ite _ (repP u L a b) (Classical.propDecidable _) (rd_ref (rd_fin (rd_fin K.1.1 zE) E) x0, ma, ex + 1, (L ++ [(a, b)]), K.1.2.1, K.1.2.2.1, K.1.2.2.2.1, K.1.2.2.2.2.1, K.1.2.2.2.2.2.1, K.1.2.2.2.2.2.2.1, K.1.2.2.2.2.2.2.2.1, K.1.2.2.2.2.2.2.2.2.1, K.1.2.2.2.2.2.2.2.2.2.1, K.1.2.2.2.2.2.2.2.2.2.2.1, K.1.2.2.2.2.2.2.2.2.2.2.2) (rd_fin (rd_fin K.1.1 zE) E, ma, ex + 1, (L ++ [(a, b)]), K.1.2.1, K.1.2.2.1, K.1.2.2.2.1, K.1.2.2.2.2.1, K.1.2.2.2.2.2.1, K.1.2.2.2.2.2.2.1, K.1.2.2.2.2.2.2.2.1, K.1.2.2.2.2.2.2.2.2.1, K.1.2.2.2.2.2.2.2.2.2.1, K.1.2.2.2.2.2.2.2.2.2.2.1, K.1.2.2.2.2.2.2.2.2.2.2.2))
theorem exC4_stk {u : Nat → Nat} {K : (rS × (Nat × Nat) × (Nat × Nat) × Int32 × Int32 × Int32 × (List (Nat × Nat)) × (List (Nat × Nat)) × (List (Nat × Nat)) × (List (Nat × Nat)) × (List (Nat × Nat)) × (List (Nat × Nat))) × Int32} {zE E x0 a b : Nat} {fl ma ex : Int32} {L : List (Nat × Nat)} : stk K.1.1 (exC4 u K zE E x0 a b fl ma ex L).1 := by
  unfold exC4
  split
  · split
    · exact (lea_stk _ _ _).tr ((fin_stk _ _).tr (ref_stk _ _))
    · exact (lea_stk _ _ _).tr (fin_stk _ _)
  · split
    · exact (fin_stk _ _).tr ((fin_stk _ _).tr (ref_stk _ _))
    · exact (fin_stk _ _).tr (fin_stk _ _)
noncomputable def exC3 (u : Nat → Nat) (n : Nat) (y : rS) (E x0 a b : Nat) (fl ma ex : Int32) (L : List (Nat × Nat)) (ok ik : Nat × Nat) (ca pn us : Int32) (D1 D2 D3 D4 D5 D6 : List (Nat × Nat)) := exC4 u (rd_kn u n (kdN u a b) (rd_opn u n y 4 E).2 (rd_opn u n y 4 E).1 ok ik ca pn us D1 D2 D3 D4 D5 D6) (rd_opn u n y 4 E).2 E x0 a b fl ma ex L
theorem exC3_stk {u : Nat → Nat} {n : Nat} {y : rS} {E x0 a b : Nat} {fl ma ex : Int32} {L : List (Nat × Nat)} {ok ik : Nat × Nat} {ca pn us : Int32} {D1 D2 D3 D4 D5 D6 : List (Nat × Nat)} : stk y (exC3 u n y E x0 a b fl ma ex L ok ik ca pn us D1 D2 D3 D4 D5 D6).1 := (opn_stk u n y 4 E).tr ((kn_stk u n _ _ _ _ _ _ _ _ _ _ _ _ _ _).tr exC4_stk)
theorem rbC_eq (u : Nat → Nat) (n e : Nat) (s : rS × Int32 × Int32 × (List (Nat × Nat)) × (Nat × Nat) × (Nat × Nat) × Int32 × Int32 × Int32 × (List (Nat × Nat)) × (List (Nat × Nat)) × (List (Nat × Nat)) × (List (Nat × Nat)) × (List (Nat × Nat)) × (List (Nat × Nat))) : rb_extC u n e s = (let z46 := rd_opn u n s.1 48 e; (let z56 := rd_opn u n z46.1 6 z46.2; (let z93 := rd_lea z56.1 z56.2 (zP (oidOK u z56.1.1 z56.2)); (@ite _ (z93.2.2 = none ∧ z93.1 < z46.2 ∧ u z93.1 = 1) (Classical.propDecidable _) (exC3 u n (rd_flag u n z93 z46.2) z46.2 s.1.1 z56.1.1 z56.2 1 s.2.1 s.2.2.1 s.2.2.2.1 s.2.2.2.2.1 s.2.2.2.2.2.1 s.2.2.2.2.2.2.1 s.2.2.2.2.2.2.2.1 s.2.2.2.2.2.2.2.2.1 s.2.2.2.2.2.2.2.2.2.1 s.2.2.2.2.2.2.2.2.2.2.1 s.2.2.2.2.2.2.2.2.2.2.2.1 s.2.2.2.2.2.2.2.2.2.2.2.2.1 s.2.2.2.2.2.2.2.2.2.2.2.2.2.1 s.2.2.2.2.2.2.2.2.2.2.2.2.2.2) (exC3 u n z93 z46.2 s.1.1 z56.1.1 z56.2 0 s.2.1 s.2.2.1 s.2.2.2.1 s.2.2.2.2.1 s.2.2.2.2.2.1 s.2.2.2.2.2.2.1 s.2.2.2.2.2.2.2.1 s.2.2.2.2.2.2.2.2.1 s.2.2.2.2.2.2.2.2.2.1 s.2.2.2.2.2.2.2.2.2.2.1 s.2.2.2.2.2.2.2.2.2.2.2.1 s.2.2.2.2.2.2.2.2.2.2.2.2.1 s.2.2.2.2.2.2.2.2.2.2.2.2.2.1 s.2.2.2.2.2.2.2.2.2.2.2.2.2.2))))) := rfl
def eR (s : rS × Int32 × Int32 × (List (Nat × Nat)) × (Nat × Nat) × (Nat × Nat) × Int32 × Int32 × Int32 × (List (Nat × Nat)) × (List (Nat × Nat)) × (List (Nat × Nat)) × (List (Nat × Nat)) × (List (Nat × Nat)) × (List (Nat × Nat))) (t : Nat × Int32 × List (Nat × Nat) × List (Nat × Nat) × List (Nat × Nat) × List (Nat × Nat × Nat) × Int32 × Int32 × Int32 × Int32 × Int32 × Int32 × Int32) : Prop := s.2.1 = t.2.1 ∧ s.2.2.1 = nI t.2.2.1.length ∧ s.2.2.2.1 = t.2.2.1 ∧ s.2.2.2.2.2.2.1 = t.2.2.2.2.2.2.1 ∧ s.2.2.2.2.2.2.2.1 = t.2.2.2.2.2.2.2.1 ∧ s.2.2.2.2.2.2.2.2.1 = t.2.2.2.2.2.2.2.2.1 ∧ s.2.2.2.2.2.2.2.2.2.1 = t.2.2.2.1
theorem kn_1 {u : Nat → Nat} {n : Nat} {kn : Int32} {en : Nat} {x : rS} {ok ik : Nat × Nat} {ca pn us : Int32} {D1 D2 D3 D4 D5 D6 : List (Nat × Nat)} (hk : knS kn) : (rd_kn u n kn en x ok ik ca pn us D1 D2 D3 D4 D5 D6).2 = 1 := by
  unfold rd_kn
  split
  · rfl
  · split
    · rfl
    · split
      · rfl
      · split
        · rfl
        · split
          · dsimp only
            split
            · split
              · rfl
              · rfl
            · rfl
          · split
            · rfl
            · rename_i h1 h2 h3 h4 h5 h6
              rcases hk with h | h | h | h | h | h
              · exact absurd h h4
              · exact absurd h h2
              · exact absurd h h3
              · exact absurd h h5
              · exact absurd h h1
              · exact absurd h h6
theorem kn_0 {u : Nat → Nat} {n : Nat} {kn : Int32} {en : Nat} {x : rS} {ok ik : Nat × Nat} {ca pn us : Int32} {D1 D2 D3 D4 D5 D6 : List (Nat × Nat)} (hk : ¬ knS kn) : rd_kn u n kn en x ok ik ca pn us D1 D2 D3 D4 D5 D6 = ((x, ok, ik, ca, pn, us, D1, D2, D3, D4, D5, D6), 0) := (if_neg (fun q => hk (Or.inr (Or.inr (Or.inr (Or.inr (Or.inl q))))))).trans ((if_neg (fun q => hk (Or.inr (Or.inl q)))).trans ((if_neg (fun q => hk (Or.inr (Or.inr (Or.inl q))))).trans ((if_neg (fun q => hk (Or.inl q))).trans ((if_neg (fun q => hk (Or.inr (Or.inr (Or.inr (Or.inl q)))))).trans (if_neg (fun q => hk (Or.inr (Or.inr (Or.inr (Or.inr (Or.inr q))))))))))) 
theorem knZ0 (kn : Int32) : knZ 0 kn = zP (knS kn) := if_pos rfl
theorem ap_len {α : Type} (L : List α) (x : α) : nI L.length + 1 = nI (L ++ [x]).length := by
  rw [List.length_append]
  exact nI_1 _
theorem ex3C_q {u : Nat → Nat} (hu : ∀ j, u j < 256) {n p s0 E x0 a b : Nat} {fl f ma : Int32} {L : List (Nat × Nat)} {ok ik : Nat × Nat} {ca pn us k1 k2 k3 k4 : Int32} {D1 D2 D3 D4 D5 D6 dirs : List (Nat × Nat)} {T : List (Nat × Nat × Nat)} (hE : E ≤ n) (hn : n ≤ 2048) (hL : L.length ≤ 400) (hfl : (fl = 0 ∧ f = 0) ∨ (fl = 1 ∧ ¬ f = 0)) : agr (exC3 u n (p, s0, none) E x0 a b fl ma (nI L.length) L ok ik ca pn us D1 D2 D3 D4 D5 D6).1 (ex3 u 0 p f E a b (x0, ma, L, D1, dirs, T, ca, pn, us, k1, k2, k3, k4)) (fun t' => (∃ s', (exC3 u n (p, s0, none) E x0 a b fl ma (nI L.length) L ok ik ca pn us D1 D2 D3 D4 D5 D6).1 = (t'.1, s', none)) ∧ t'.1 = E ∧ p + 2 ≤ E ∧ eR (exC3 u n (p, s0, none) E x0 a b fl ma (nI L.length) L ok ik ca pn us D1 D2 D3 D4 D5 D6) t' ∧ t'.2.2.1 = L ++ [(a, b)]) := by
  unfold ex3 exC3
  dsimp only
  refine agr.step (el_q (s := s0) hE) (fun w9 h9 => ((kn_stk u n _ _ _ _ _ _ _ _ _ _ _ _ _ _).tr exC4_stk) w9 h9) (fun z hz hn1 hq => ?_)
  obtain ⟨q1, q2, q3, q4, q5⟩ := hq
  rw [q1]
  dsimp only
  rw [kd_eq]
  have hrl := rep_q (u := u) (L := L) (a := a) (b := b) (x0 := x0) hL
  by_cases hk : knS (kdN u a b)
  · rw [if_neg (show ¬ knZ 0 (kdN u a b) = 0 by rw [knZ0]; exact zP_ne hk)]
    have hK := kn_q hu (n := n) (p := z.1) (s := p) (en := z.2) (kn := kdN u a b) (ok := ok) (ik := ik) (ca := ca) (pn := pn) (us := us) (k1 := k1) (k2 := k2) (k3 := k3) (k4 := k4) (D1 := D1) (D2 := D2) (D3 := D3) (D4 := D4) (D5 := D5) (D6 := D6) (dirs := dirs) (T := T) (by omega) hn hk
    have hK1 := kn_1 (u := u) (n := n) (en := z.2) (x := (z.1, p, none)) (ok := ok) (ik := ik) (ca := ca) (pn := pn) (us := us) (D1 := D1) (D2 := D2) (D3 := D3) (D4 := D4) (D5 := D5) (D6 := D6) hk
    generalize rd_kn u n (kdN u a b) z.2 (z.1, p, none) ok ik ca pn us D1 D2 D3 D4 D5 D6 = K at hK hK1 ⊢
    have e4 := fun {α : Type} (A B : α) => (if_neg (show ¬ K.2 = (0 : Int32) by rw [hK1]; decide) : @ite α (K.2 = (0 : Int32)) (Classical.propDecidable _) A B = B)
    unfold exC4
    rw [e4]
    refine agr.step (x := rd_fin K.1.1 z.2) (Q := fun v => ∃ y s', K.1.1 = (z.2, s', none) ∧ knQ K z.1 z.2 y ∧ v = (ma, y.2.2.2.2.2.2.2.2.1, y.2.2.2.2.2.2.2.2.2.1, y.2.2.2.2.2.2.2.2.2.2, y.2.1, y.2.2.1, y.2.2.2.1, y.2.2.2.2.1, y.2.2.2.2.2.1, y.2.2.2.2.2.2.1, y.2.2.2.2.2.2.2.1)) ?_ ?_ ?_
    · refine agr.step hK (fin_stk _ _) (fun y hy hn2 hq2 => ?_)
      obtain ⟨⟨s', g1⟩, g2, g3, g4, g5, g6, g7, g8⟩ := hq2
      rw [g1]
      refine agr.step (fin_q (u := u) (p := y.1) (s := s') (en := z.2)) (stk.rf _) (fun _ _ _ hq3 => ?_)
      have ey : y.1 = z.2 := by omega
      rw [hq3.1]
      exact ⟨rfl, y, s', by rw [ey], ⟨⟨s', g1⟩, g2, g3, g4, g5, g6, g7, g8⟩, rfl⟩
    · split
      · exact (fin_stk _ _).tr (ref_stk _ _)
      · exact fin_stk _ _
    · intro v hv hn2 hq2
      obtain ⟨y, s', g0, ⟨g1, g2, g3, g4, g5, g6, g7, g8⟩, rfl⟩ := hq2
      rw [g0, show rd_fin (z.2, s', none) z.2 = (z.2, s', none) from if_neg (Nat.lt_irrefl _)]
      refine agr.step (fin_q (u := u) (p := z.2) (s := s') (en := E)) (fun w9 h9 => ?_) (fun _ _ _ hq3 => ?_)
      · split
        · exact ref_stk _ _ w9 h9
        · exact h9
      · have ez : z.2 = E := by omega
        rw [hq3.1]
        by_cases hr : repP u L a b
        · rw [if_pos hr]
          exact agr.no (x := (z.2, s', some x0)) rfl (hrl.1 hr) (stk.rf _)
        · rw [if_neg hr]
          obtain ⟨j, ej⟩ := hrl.2 hr
          refine agr.ok ej ?_
          exact ⟨rfl, ⟨s', by rw [ez]⟩, rfl, by omega, ⟨rfl, ap_len _ _, rfl, g3, g4, g5, g6⟩, rfl⟩
  · rw [if_pos (show knZ 0 (kdN u a b) = 0 by rw [knZ0]; exact zPf0 hk), kn_0 hk]
    unfold exC4
    rw [if_pos rfl]
    dsimp only
    rw [show rd_lea (z.1, p, none) z.2 (1 : Int32) = (z.2, p, none) from lea_ok (by decide)]
    have eA : (@ite (Nat ⊕ (Int32 × List (Nat × Nat) × List (Nat × Nat) × List (Nat × Nat × Nat) × Int32 × Int32 × Int32 × Int32 × Int32 × Int32 × Int32)) (f = (0 : Int32)) (Classical.propDecidable _) (.inr (ma, D1, dirs, T, ca, pn, us, k1, k2, k3, k4)) (.inr (ma + 1, D1, dirs, T, ca, pn, us, k1, k2, k3, k4))) = .inr (ma + fl, D1, dirs, T, ca, pn, us, k1, k2, k3, k4) := by
      rcases hfl with ⟨h1, h2⟩ | ⟨h1, h2⟩
      · rw [if_pos h2, h1, Int32.add_zero]
      · rw [if_neg h2, h1]
    refine agr.ok eA ?_
    refine agr.step (fin_q (u := u) (p := z.2) (s := p) (en := E)) (fun w9 h9 => ?_) (fun _ _ _ hq3 => ?_)
    · split
      · exact ref_stk _ _ w9 h9
      · exact h9
    · have ez : z.2 = E := by omega
      rw [hq3.1]
      by_cases hr : repP u L a b
      · rw [if_pos hr]
        exact agr.no (x := (z.2, p, some x0)) rfl (hrl.1 hr) (stk.rf _)
      · rw [if_neg hr]
        obtain ⟨j, ej⟩ := hrl.2 hr
        refine agr.ok ej ?_
        exact ⟨rfl, ⟨p, by rw [ez]⟩, rfl, by omega, ⟨rfl, ap_len _ _, rfl, rfl, rfl, rfl, rfl⟩, rfl⟩
/-- the flag that an extension may bear -/
theorem fl_q {u : Nat → Nat} (hu : ∀ j, u j < 256) {n p s E : Nat} (hE : E ≤ n) (hm : p < E) (h1 : u p = 1) : agr (rd_flag u n (p, s, none) E) (@ite (Nat ⊕ (Nat × Int32)) (p < E) (Classical.propDecidable _) (@ite _ ((u p) = 1) (Classical.propDecidable _) (eb (tx_element u p 1 E) (fun z133 => (@ite _ (¬ ((z133.2 - z133.1) = 1) ∨ (¬ ((u z133.1) = 255))) (Classical.propDecidable _) (.inl p) (.inr (z133.2, zP ((u p) = 1)))))) (.inr (p, zP ((u p) = 1)))) (.inr (p, 0))) (fun v => rd_flag u n (p, s, none) E = (v.1, p, none) ∧ ¬ v.2 = 0 ∧ p + 2 ≤ v.1 ∧ v.1 ≤ E) := by
  refine agr.pos hm (agr.pos h1 ?_)
  have hf := flag_q hu (n := n) (p := p) (s := s) (en := E) hE
  cases hR : tx_element u p 1 E with
  | inl w => rw [hR] at hf; exact hf
  | inr y =>
    rw [hR] at hf
    refine agr.ok rfl ?_
    have hf : agr (rd_flag u n (p, s, none) E) (@ite _ (¬ ((y.2 - y.1) = 1) ∨ (¬ ((u y.1) = 255))) (Classical.propDecidable _) (.inl p) (.inr y.2)) _ := hf
    by_cases hb : ¬ ((y.2 - y.1) = 1) ∨ (¬ ((u y.1) = 255))
    · rw [if_pos hb] at hf
      exact agr.pos hb hf
    · rw [if_neg hb] at hf
      exact agr.neg hb ⟨hf.1, hf.2.1, zP_ne h1, hf.2.2⟩
theorem nfl {u : Nat → Nat} {p E : Nat} (h : ¬ (p < E ∧ u p = 1)) : (@ite (Nat ⊕ (Nat × Int32)) (p < E) (Classical.propDecidable _) (@ite _ ((u p) = 1) (Classical.propDecidable _) (eb (tx_element u p 1 E) (fun z133 => (@ite _ (¬ ((z133.2 - z133.1) = 1) ∨ (¬ ((u z133.1) = 255))) (Classical.propDecidable _) (.inl p) (.inr (z133.2, zP ((u p) = 1)))))) (.inr (p, zP ((u p) = 1)))) (.inr (p, 0))) = .inr (p, 0) := by
  by_cases hm : p < E
  · have h1 : ¬ u p = 1 := fun q => h ⟨hm, q⟩
    rw [if_pos hm, if_neg h1, zPf0 h1]
  · rw [if_neg hm]
theorem rbC_stk {u : Nat → Nat} {n e : Nat} (s : rS × Int32 × Int32 × (List (Nat × Nat)) × (Nat × Nat) × (Nat × Nat) × Int32 × Int32 × Int32 × (List (Nat × Nat)) × (List (Nat × Nat)) × (List (Nat × Nat)) × (List (Nat × Nat)) × (List (Nat × Nat)) × (List (Nat × Nat))) : stk s.1 (rb_extC u n e s).1 := by
  intro w h
  rw [rbC_eq]
  have h1 := opn_stk u n s.1 48 e w h
  generalize rd_opn u n s.1 48 e = o at h1 ⊢
  have h2 := opn_stk u n o.1 6 o.2 w h1
  dsimp only
  generalize rd_opn u n o.1 6 o.2 = d at h2 ⊢
  have h3 := lea_stk d.1 d.2 (zP (oidOK u d.1.1 d.2)) w h2
  generalize rd_lea d.1 d.2 (zP (oidOK u d.1.1 d.2)) = y at h3 ⊢
  split
  · exact ((flag_stk u n _ _).tr exC3_stk) w h3
  · exact exC3_stk w h3
def eI (e : Nat) (s : rS × Int32 × Int32 × (List (Nat × Nat)) × (Nat × Nat) × (Nat × Nat) × Int32 × Int32 × Int32 × (List (Nat × Nat)) × (List (Nat × Nat)) × (List (Nat × Nat)) × (List (Nat × Nat)) × (List (Nat × Nat)) × (List (Nat × Nat))) (t : Nat × Int32 × List (Nat × Nat) × List (Nat × Nat) × List (Nat × Nat) × List (Nat × Nat × Nat) × Int32 × Int32 × Int32 × Int32 × Int32 × Int32 × Int32) : Prop := (∃ s', s.1 = (t.1, s', none)) ∧ t.1 ≤ e ∧ 7 * t.2.2.1.length ≤ t.1 ∧ eR s t
theorem rbC_q {u : Nat → Nat} (hu : ∀ j, u j < 256) {n e : Nat} (he : e ≤ n) (hn : n ≤ 2048) (s : rS × Int32 × Int32 × (List (Nat × Nat)) × (Nat × Nat) × (Nat × Nat) × Int32 × Int32 × Int32 × (List (Nat × Nat)) × (List (Nat × Nat)) × (List (Nat × Nat)) × (List (Nat × Nat)) × (List (Nat × Nat)) × (List (Nat × Nat))) (t : Nat × Int32 × List (Nat × Nat) × List (Nat × Nat) × List (Nat × Nat) × List (Nat × Nat × Nat) × Int32 × Int32 × Int32 × Int32 × Int32 × Int32 × Int32) (h : eI e s t) : agr (rb_extC u n e s).1 (exB u 0 e t) (fun t' => eI e (rb_extC u n e s) t' ∧ t.1 < t'.1) := by
  obtain ⟨x, ma, ex, L, ok, ik, ca, pn, us, D1, D2, D3, D4, D5, D6⟩ := s
  obtain ⟨t1, ma', L', dns, dirs, T, ca', ln, us', k1, k2, k3, k4⟩ := t
  obtain ⟨⟨s', h0⟩, h1, h2, h3, h4, h5, h6, h7, h8, h9⟩ := h
  change x = (t1, s', none) at h0
  change ma = ma' at h3
  change ex = nI L'.length at h4
  change L = L' at h5
  change ca = ca' at h6
  change pn = ln at h7
  change us = us' at h8
  change D1 = dns at h9
  change t1 ≤ e at h1
  change 7 * L'.length ≤ t1 at h2
  subst h0 h3 h5 h6 h7 h8 h9 h4
  rw [rbC_eq]
  unfold exB
  dsimp only
  refine agr.step (el_q (s := s') he) (fun w9 h9 => ?_) (fun z hz hn1 hq => ?_)
  · generalize rd_opn u n (t1, s', none) 48 e = o at h9 ⊢
    have h2 := opn_stk u n o.1 6 o.2 w9 h9
    generalize rd_opn u n o.1 6 o.2 = d at h2 ⊢
    have h3 := lea_stk d.1 d.2 (zP (oidOK u d.1.1 d.2)) w9 h2
    generalize rd_lea d.1 d.2 (zP (oidOK u d.1.1 d.2)) = y at h3 ⊢
    split
    · exact ((flag_stk u n _ _).tr exC3_stk) w9 h3
    · exact exC3_stk w9 h3
  obtain ⟨q1, q2, q3, q4, q5⟩ := hq
  rw [q1]
  dsimp only
  refine agr.step (oid_q (u := u) (n := n) (p := z.1) (s := t1) (en := z.2) (by omega) hn) ?_ (fun d hd hn2 hq2 => ?_)
  · split
    · exact (flag_stk u n _ _).tr exC3_stk
    · exact exC3_stk
  obtain ⟨r1, r2, r3, r4, r5, r6⟩ := hq2
  rw [r1]
  dsimp only
  rw [r2]
  dsimp only
  by_cases hc : d.2 < z.2 ∧ u d.2 = 1
  · rw [if_pos ⟨rfl, hc⟩]
    refine agr.step (fl_q hu (n := n) (p := d.2) (s := z.1) (E := z.2) (by omega) hc.1 hc.2) exC3_stk (fun v hv hn3 hq3 => ?_)
    obtain ⟨g1, g2, g3, g4⟩ := hq3
    rw [g1]
    refine agr.imp (ex3C_q hu (n := n) (p := v.1) (s0 := d.2) (E := z.2) (x0 := t1) (a := d.1) (b := d.2) (fl := 1) (f := v.2) (by omega) hn (by omega) (Or.inr ⟨rfl, g2⟩)) (fun t' hq4 => ?_)
    obtain ⟨i1, i2, i3, i4, i5⟩ := hq4
    refine ⟨⟨i1, by omega, ?_, i4⟩, by show t1 < t'.1; omega⟩
    rw [i5, List.length_append]
    show 7 * (L.length + 1) ≤ t'.1
    omega
  · rw [if_neg (fun q => hc q.2)]
    refine agr.ok (nfl hc) ?_
    refine agr.imp (ex3C_q hu (n := n) (p := d.2) (s0 := z.1) (E := z.2) (x0 := t1) (a := d.1) (b := d.2) (fl := 0) (f := 0) (by omega) hn (by omega) (Or.inl ⟨rfl, rfl⟩)) (fun t' hq4 => ?_)
    obtain ⟨i1, i2, i3, i4, i5⟩ := hq4
    refine ⟨⟨i1, by omega, ?_, i4⟩, by show t1 < t'.1; omega⟩
    rw [i5, List.length_append]
    show 7 * (L.length + 1) ≤ t'.1
    omega
theorem extC_stk (u : Nat → Nat) (n : Nat) (x : rS) (en : Nat) (ma ex : Int32) (ok ik : Nat × Nat) (ca pn us : Int32) (D1 D2 D3 D4 D5 D6 : List (Nat × Nat)) : stk x (rd_extC u n x en ma ex ok ik ca pn us D1 D2 D3 D4 D5 D6).1 := by
  intro w h
  have h1 := opn_stk u n x 48 en w h
  unfold rd_extC
  generalize rd_opn u n x 48 en = o at h1 ⊢
  obtain ⟨f9, hf9⟩ : ∃ f9, 2048 = f9 + 1 := ⟨2047, rfl⟩
  rw [hf9, show loopF (rb_extC u n o.2) (fun s9 => mr s9.1 o.2) (f9 + 1) true (o.1, ma, ex, ([] : List (Nat × Nat)), ok, ik, ca, pn, us, D1, D2, D3, D4, D5, D6) = loopF (rb_extC u n o.2) (fun s9 => mr s9.1 o.2) f9 false (rb_extC u n o.2 (o.1, ma, ex, ([] : List (Nat × Nat)), ok, ik, ca, pn, us, D1, D2, D3, D4, D5, D6)) from if_pos (Or.inl rfl)]
  exact lpF_stk (st := Prod.fst) f9 _ w (rbC_stk _ w h1)
theorem extC_q {u : Nat → Nat} (hu : ∀ j, u j < 256) {n p s en : Nat} {ma : Int32} {ok ik : Nat × Nat} {ca pn us k1 k2 k3 k4 : Int32} {D1 D2 D3 D4 D5 D6 dirs : List (Nat × Nat)} {T : List (Nat × Nat × Nat)} (he : en ≤ n) (hn : n ≤ 2048) : agr (rd_extC u n (p, s, none) en ma 0 ok ik ca pn us D1 D2 D3 D4 D5 D6).1 (tx_extensions u p en 0 D1 dirs T ma ca pn us k1 k2 k3 k4) (fun z => (∃ s', (rd_extC u n (p, s, none) en ma 0 ok ik ca pn us D1 D2 D3 D4 D5 D6).1 = (z.1, s', none)) ∧ eR (rd_extC u n (p, s, none) en ma 0 ok ik ca pn us D1 D2 D3 D4 D5 D6) (z.1, z.2.1, z.2.2.2.2.2.2.2.2.2.2.2.2, z.2.2.2.2.2.2.2.2.2.1, z.2.2.2.2.2.2.2.2.2.2.1, z.2.2.2.2.2.2.2.2.2.2.2.1, z.2.2.1, z.2.2.2.1, z.2.2.2.2.1, 0, 0, 0, 0) ∧ p + 2 ≤ z.1 ∧ z.1 ≤ en) := by
  have e9 : tx_extensions u p en 0 D1 dirs T ma ca pn us k1 k2 k3 k4 = (eb (tx_element u p 48 en) (fun z4 => (@ite _ (z4.1 = z4.2) (Classical.propDecidable _) (.inl z4.2) (eb (loopE (exB u 0 z4.2) (fun t => ¬ (z4.2 ≤ t.1)) 2048 (z4.1, ma, ([] : List (Nat × Nat)), D1, dirs, T, ca, pn, us, k1, k2, k3, k4)) (fun s44 => (.inr (s44.1, s44.2.1, s44.2.2.2.2.2.2.1, s44.2.2.2.2.2.2.2.1, s44.2.2.2.2.2.2.2.2.1, s44.2.2.2.2.2.2.2.2.2.1, s44.2.2.2.2.2.2.2.2.2.2.1, s44.2.2.2.2.2.2.2.2.2.2.2.1, s44.2.2.2.2.2.2.2.2.2.2.2.2, s44.2.2.2.1, s44.2.2.2.2.1, s44.2.2.2.2.2.1, s44.2.2.1))))))) := rfl
  rw [e9]
  unfold rd_extC
  obtain ⟨f9, hf9⟩ : ∃ f9, 2048 = f9 + 1 := ⟨2047, rfl⟩
  rw [hf9] at hn ⊢
  refine agr.step (el_q (s := s) he) (fun w9 h9 => ?_) (fun z hz hn1 hq => ?_)
  · generalize rd_opn u n (p, s, none) 48 en = o at h9 ⊢
    rw [show loopF (rb_extC u n o.2) (fun s9 => mr s9.1 o.2) (f9 + 1) true (o.1, ma, 0, ([] : List (Nat × Nat)), ok, ik, ca, pn, us, D1, D2, D3, D4, D5, D6) = loopF (rb_extC u n o.2) (fun s9 => mr s9.1 o.2) f9 false (rb_extC u n o.2 (o.1, ma, 0, ([] : List (Nat × Nat)), ok, ik, ca, pn, us, D1, D2, D3, D4, D5, D6)) from if_pos (Or.inl rfl)]
    exact lpF_stk (st := Prod.fst) f9 _ w9 (rbC_stk _ w9 h9)
  · obtain ⟨q1, q2, q3, q4, q5⟩ := hq
    rw [q1]
    dsimp only
    have hn' : n ≤ 2048 := by omega
    have hI0 : eI z.2 ((z.1, p, none), ma, 0, ([] : List (Nat × Nat)), ok, ik, ca, pn, us, D1, D2, D3, D4, D5, D6) (z.1, ma, ([] : List (Nat × Nat)), D1, dirs, T, ca, pn, us, k1, k2, k3, k4) := ⟨⟨p, rfl⟩, q3, Nat.zero_le _, rfl, rfl, rfl, rfl, rfl, rfl, rfl⟩
    by_cases hz0 : z.1 = z.2
    · refine agr.pos hz0 ?_
      rw [show loopF (rb_extC u n z.2) (fun s9 => mr s9.1 z.2) (f9 + 1) true ((z.1, p, none), ma, 0, ([] : List (Nat × Nat)), ok, ik, ca, pn, us, D1, D2, D3, D4, D5, D6) = loopF (rb_extC u n z.2) (fun s9 => mr s9.1 z.2) f9 false (rb_extC u n z.2 ((z.1, p, none), ma, 0, ([] : List (Nat × Nat)), ok, ik, ca, pn, us, D1, D2, D3, D4, D5, D6)) from if_pos (Or.inl rfl)]
      refine lpF_stk (st := Prod.fst) f9 _ z.2 ?_
      have hb := rbC_q hu (n := n) (e := z.2) (by omega) hn' _ _ hI0
      have e : exB u 0 z.2 (z.1, ma, ([] : List (Nat × Nat)), D1, dirs, T, ca, pn, us, k1, k2, k3, k4) = .inl z.2 := by
        unfold exB
        refine eb_no ?_
        unfold tx_element
        rw [if_neg (by show ¬ z.1 < z.2; omega)]
      rw [e] at hb
      exact hb
    · refine agr.neg hz0 ?_
      rw [loopF_t (M := fun s9 : rS × Int32 × Int32 × (List (Nat × Nat)) × (Nat × Nat) × (Nat × Nat) × Int32 × Int32 × Int32 × (List (Nat × Nat)) × (List (Nat × Nat)) × (List (Nat × Nat)) × (List (Nat × Nat)) × (List (Nat × Nat)) × (List (Nat × Nat)) => mr s9.1 z.2) (s := ((z.1, p, none), ma, 0, ([] : List (Nat × Nat)), ok, ik, ca, pn, us, D1, D2, D3, D4, D5, D6)) ⟨rfl, by show z.1 < z.2; omega⟩]
      have hLp := loop_q (B := rb_extC u n z.2) (st := Prod.fst) (RB := exB u 0 z.2) (pos := Prod.fst) (e := z.2) (I := eI z.2) (fun s t h => by
        obtain ⟨⟨s', h1⟩, h2, _⟩ := h
        rw [h1]
        exact ⟨rfl, rfl, h2⟩) (fun s t h hp => rbC_q hu (n := n) (e := z.2) (by omega) hn' s t h) (f9 + 1) _ _ hI0 (by show z.2 - z.1 ≤ f9 + 1; omega)
      refine agr.step hLp (stk.rf _) (fun v hv hn2 hq2 => ?_)
      obtain ⟨⟨g1, g2, g3, g4⟩, g5⟩ := hq2
      exact ⟨hn2, g1, g4, by show p + 2 ≤ v.1; rw [g5]; omega, by show v.1 ≤ en; omega⟩
