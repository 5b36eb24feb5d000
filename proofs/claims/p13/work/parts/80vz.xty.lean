/-! Rsa.isSigned over the typed world: the verdict. -/
section MSF
variable {l : Launch} {y : MethodName} {w : List Cond} {rm : Room} {As : List Value} {D : va_G} {sb : sB} {tys tysB : List (ClassId × FieldType)} {G : va_W} {sz : Nat} {S : Type} {F : S → va_W} {ws R9 F0 : va_W}
theorem met_subF {post : Int32 → S → Prop} {post' : Int32 → va_W → Prop} (h : Met l y w rm (mf_P F0 As D sb ws tys sz) (va_Qi post (mu_B D tys (va_A ws sz) F) (va_A ws sz)) 0 0 (va_A ws sz)) (hp : G.Perm (ws ++ R9)) (hF : ∀ q, q ∈ F0 → q ∈ R9) (ts : List Nat) (ht : ts.filterMap (fun i => tysB[i]?) = tys) (g : ∀ r u, va_D (va_A G sz) (F u ++ R9) → post r u → post' r (F u ++ R9)) : Met l y w rm (mu_P As D sb G tysB sz) (va_Qi post' (mu_B D tysB (va_A G sz) (fun G' : va_W => G')) (va_A G sz)) 0 0 (va_A G sz) := by
  show MetFree _ _ _ (mu_P As D sb G tysB sz) _ (fun a st o t => va_Qi post' (mu_B D tysB (va_A G sz) (fun G' : va_W => G')) (va_A G sz) a st o t ∧ ∃ L, FrameEnd st o t L 0 0 ∧ ∀ q ∈ L, (va_A G sz) q.base)
  refine q_mfimp h (fun a s q => ?_) (fun a s o t q0 q => ?_)
  · obtain ⟨q0, q1, q2, qP, qK, qD, qN, qT⟩ := q
    have qP2 := va_P.perm hp qP
    exact ⟨⟨q0, q1, q2, fun k x hx => qP2 k x (by rw [List.getElem?_append_left (List.getElem?_eq_some_iff.mp hx).1]; exact hx), qK.sub ts ht, (va_D.perm hp qD).sub (List.range ws.length) (rg_nd _) (q_rgl ws R9), qN, qT⟩, (fr_in (U := s) hp hF (by first | exact q1 | exact q1.symm) qP qD).1, (fr_in (U := s) hp hF (by first | exact q1 | exact q1.symm) qP qD).2⟩
  · obtain ⟨p0, rfl, p2, qP, qK, qD, qN, qT⟩ := q0
    obtain ⟨⟨⟨r, u, h1, h2, h3⟩, h4⟩, L, h5, h6⟩ := q
    obtain ⟨j1, j2⟩ := q_join (va_P.perm hp qP) (q_D hp qD) h4.2 (q_sub hp) h3.1 h3.2.2
    exact ⟨⟨⟨r, F u ++ R9, h1, g r u j2 h2, j1, va_K.moved (State.WarmedH.alike h5.2.1) qK, j2⟩, h4.1, fun x hx hn => h4.2 x hx (fun hq => hn (q_sub hp x hq))⟩, L, h5, fun x hx => q_sub hp _ (h6 x hx)⟩
end MSF
/-- a paper (or certificate) g is signed by the certificate c -/
def SGX (κ : kE) (ν : Nat → cN) (ω : Nat → List Nat) (g c : Nat) : Prop := sgV (wN (ν ((ω g).getD 0 0))) (slO ω ((ω c).getD 2 0) (κ ((ω c).getD 2 0)).2.1) (κ ((ω c).getD 2 0)).2.1 (slO ω ((ω g).getD 3 0) (κ ((ω g).getD 3 0)).2.1) (κ ((ω g).getD 3 0)).2.1 (ν c).2.2.1.toNatClampNeg
/-- the verdicts are what the contents say; the numbers of a certificate's key -/
def XC (κ : kE) (Ad : List Nat) (ν : Nat → cN) (ω : Nat → List Nat) : Prop := ∀ c K2 l2, tK κ Ad c (8, K2, l2) → ∃ ex bt wn lm : Nat, (ν c).2.2.1 = nI ex ∧ (ν c).2.1 = nI bt ∧ (ν c).2.2.2.2.2.2.2.2.2.2.2.2 = nI wn ∧ wn < 16 ∧ lm = (κ ((ω c).getD 2 0)).2.1 ∧ (62 ≤ lm ∧ lm ≤ 256) ∧ (1 ≤ ex ∧ ex < 2 ^ 31) ∧ (1 ≤ bt ∧ bt ≤ 8 * lm) ∧ 2 ^ (bt - 1) < vB 256 (slO ω ((ω c).getD 2 0) lm) lm ∧ vB 256 (slO ω ((ω c).getD 2 0) lm) lm % 2 = 1 ∧ ∀ g, g ∈ Ad → (κ g).1 = 8 ∨ (κ g).1 = 9 → wn < (ω ((ω g).getD 1 0)).length ∧ (((ω ((ω g).getD 1 0)).getD wn 0 = 1 ∧ SGX κ ν ω g c) ∨ ((ω ((ω g).getD 1 0)).getD wn 0 = 2 ∧ ¬ SGX κ ν ω g c))
theorem TY.swapL {γ : cG} {κ : kE} {Ad : List Nat} {ν : Nat → cN} {ω : Nat → List Nat} {L L' h : Nat} {G R9 ws ws' : va_W} (hT : TY γ κ Ad ν ω L G) (hp : G.Perm (ws ++ R9)) (hm : ws'.map Prod.fst = ws.map Prod.fst) (ho : ∀ q, q ∈ ws' → q.1 ∈ Ad → tOK γ κ Ad ν ω L' q.1 q.2) (h1 : ∀ a, a ∈ Ad → (κ a).1 = 10 → a = h) (hR : ∀ q, q ∈ R9 → q.1 ≠ h) : TY γ κ Ad ν ω L' (ws' ++ R9) := by
  refine ⟨fun b hb => ?_, fun q hq hqa => ?_⟩
  · obtain ⟨c, hc⟩ := hT.1 b hb
    rcases List.mem_append.mp (hp.mem_iff.mp hc) with e | e
    · have h1 : b ∈ ws'.map Prod.fst := by rw [hm]; exact List.mem_map.mpr ⟨_, e, rfl⟩
      obtain ⟨q, hq, e9⟩ := List.mem_map.mp h1
      exact ⟨q.2, List.mem_append_left _ (by rw [← e9]; exact hq)⟩
    · exact ⟨c, List.mem_append_right _ e⟩
  · rcases List.mem_append.mp hq with e | e
    · exact ho q e hqa
    · exact (hT.2 q (hp.mem_iff.mpr (List.mem_append_right _ e)) hqa).limbs (fun k => hR q e (h1 _ hqa k))
theorem rest_ne {A : Nat → Prop} {ws R9 : va_W} (hD2 : va_D A (ws ++ R9)) {q x : Nat × va_E} (hq : q ∈ R9) (hx : x ∈ ws) : q.1 ≠ x.1 := fun e => by
  obtain ⟨i, hi⟩ := List.getElem?_of_mem hq
  obtain ⟨j, hj⟩ := List.getElem?_of_mem hx
  have hjl := (List.getElem?_eq_some_iff.mp hj).1
  have h1 : (ws ++ R9)[ws.length + i]? = some q := by rw [List.getElem?_append_right (by omega), Nat.add_sub_cancel_left]; exact hi
  have h2 : (ws ++ R9)[j]? = some x := by rw [List.getElem?_append_left hjl]; exact hj
  have h3 := hD2.1 _ _ _ _ h1 h2 e
  omega
theorem in_rest {G ws R9 : va_W} (hp : G.Perm (ws ++ R9)) {q : Nat × va_E} (hq : q ∈ G) (hn : q.1 ∉ ws.map Prod.fst) : q ∈ R9 := by
  rcases List.mem_append.mp (hp.mem_iff.mp hq) with e | e
  · exact absurd (List.mem_map.mpr ⟨q, e, rfl⟩) hn
  · exact e
theorem slO_u {ω : Nat → List Nat} {q t f len n : Nat} {u : Nat → Nat} (hw : ω q = [t, f]) (hu : ∀ j, j < n → u j = (ω t).getD j 0) (hf : f + len ≤ n) : ∀ i, i < f + len - f → slO ω q len i = u (f + len - 1 - i) := fun i hi => by
  unfold slO
  rw [if_pos (by omega), hw]
  show (ω t).getD (f + len - 1 - i) 0 = _
  rw [hu _ (by omega)]
theorem slO_lt {ω : Nat → List Nat} {q t f len n : Nat} {u : Nat → Nat} (hw : ω q = [t, f]) (hu : ∀ j, j < n → u j = (ω t).getD j 0) (hu8 : ∀ j, u j < 256) (hf : f + len ≤ n) : ∀ i, slO ω q len i < 256 := fun i => by
  by_cases h : i < len
  · rw [slO_u hw hu hf i (by omega)]; exact hu8 _
  · unfold slO
    rw [if_neg h]
    decide
theorem sgR_new {l : List Nat} {f f' : Nat → Int32} {wn : Nat} {P : Prop} (h : sgR l f) (hl : wn < l.length) (hv : (l.getD wn 0 = 1 ∧ P) ∨ (l.getD wn 0 = 2 ∧ ¬ P)) (hn : ((f' wn = 1 ∧ P) ∨ (f' wn = 2 ∧ ¬ P)) ∧ ∀ j, j ≠ wn → f' j = f j) : sgR l f' := fun j hj => by
  by_cases e : j = wn
  · subst e
    refine Or.inr ⟨hl, ?_⟩
    rcases hn.1 with ⟨h1, h2⟩ | ⟨h1, h2⟩ <;> rcases hv with ⟨h3, h4⟩ | ⟨h3, h4⟩
    · rw [h1, h3]; rfl
    · exact absurd h2 h4
    · exact absurd h4 h2
    · rw [h1, h3]; rfl
  · rw [hn.2 j e]; exact h j hj
theorem sgR_row {l : List Nat} {f : Nat → Int32} {wn : Nat} {P : Prop} (h : sgR l f) (h16 : wn < 16) (hv : (l.getD wn 0 = 1 ∧ P) ∨ (l.getD wn 0 = 2 ∧ ¬ P)) : f wn = 0 ∨ (f wn = 1 ∧ P) ∨ (f wn = 2 ∧ ¬ P) := by
  rcases h wn h16 with e | ⟨-, e⟩
  · exact Or.inl e
  · rcases hv with ⟨h3, h4⟩ | ⟨h3, h4⟩
    · exact Or.inr (Or.inl ⟨by rw [e, h3]; rfl, h4⟩)
    · exact Or.inr (Or.inr ⟨by rw [e, h3]; rfl, h4⟩)
theorem dueN_h {h h' : Nat → Int32} (e : ∀ j, j < 8 → h j = h' j) (c i : Nat) : dueN h c i = dueN h' c i := by
  unfold dueN hoN
  rw [e (7 - i / 4) (by omega)]
theorem sgV_h {h h' : Nat → Int32} (e : ∀ j, j < 8 → h j = h' j) {om os : Nat → Nat} {cm cs ex : Nat} : sgV h om cm os cs ex ↔ sgV h' om cm os cs ex := by
  unfold sgV
  rw [show (dueN h cm) = dueN h' cm from funext fun i => dueN_h e cm i]
