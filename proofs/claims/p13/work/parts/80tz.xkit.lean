/-! Cells picked out of a world, frames, lists of contents (early copies of later texts, under their own names). -/
theorem q_rgl (G R : va_W) : (List.range G.length).map (fun i => (G ++ R)[i]?) = G.map some := by
  apply List.ext_getElem?
  intro k
  rw [List.getElem?_map, List.getElem?_map]
  by_cases h : k < G.length
  · rw [List.getElem?_range h]
    show some ((G ++ R)[k]?) = (G[k]?).map some
    rw [List.getElem?_append_left h, List.getElem?_eq_getElem h]
    rfl
  · rw [List.getElem?_eq_none (by rw [List.length_range]; omega), List.getElem?_eq_none (by omega)]
    rfl
theorem q_join {A : Nat → Prop} {D : va_G} {G R G' : va_W} {H H1 : Heap} (hP : va_P D classes (G ++ R) H) (hD : va_D A (G ++ R)) (hk : ∀ q : Nat, q < H.size → ¬ va_A G H.size q → H1[q]? = H[q]?) (hF : ∀ q, va_A G H.size q → A q) (hP1 : va_P D classes G' H1) (hD1 : va_D (va_A G H.size) G') : va_P D classes (G' ++ R) H1 ∧ va_D A (G' ++ R) := va_joinF (wc := G) hP hD (List.range G.length) (rg_is G) hk hF hP1 hD1
theorem q_mfimp {l : Launch} {x : MethodName} {S : Spec} {P P' : Array Value → State → Prop} {K : Program → Env → List Frame → State → Array Value → Prop} {Q Q' : Array Value → State → Outcome → State → Prop} (h : MetFree l x S P K Q) (g : ∀ a s, P' a s → P a s) (g' : ∀ a s o t, P' a s → Q a s o t → Q' a s o t) : MetFree l x S P' K Q' := by
  intro p e h1 h2 h3 s m args below h4 h5 h6 h7
  obtain ⟨n, o, a, b, c, d⟩ := h p e h1 h2 h3 s m args below h4 h5 (g _ _ h6) h7
  exact ⟨n, o, a, b, c, g' _ _ _ _ h6 d⟩
theorem q_er : ∀ (G : va_W) (i : Nat) (x : Nat × va_E), G[i]? = some x → G.Perm (x :: G.eraseIdx i)
  | [], _, _, h => by cases h
  | y :: G, 0, x, h => by
    cases h
    exact List.Perm.refl _
  | y :: G, i + 1, x, h => ((q_er G i x h).cons y).trans (List.Perm.swap x y _)
theorem q_pick1 {G : va_W} {a : Nat × va_E} (h : a ∈ G) : ∃ R, G.Perm (a :: R) := by
  obtain ⟨i, hi⟩ := List.getElem?_of_mem h
  exact ⟨_, q_er G i _ hi⟩
theorem q_pickin {G R : va_W} {a b : Nat × va_E} (hp : G.Perm (a :: R)) (h : b ∈ G) (hne : b.1 ≠ a.1) : b ∈ R := by
  rcases List.mem_cons.mp (hp.mem_iff.mp h) with e | e
  · exact absurd (by rw [e]) hne
  · exact e
theorem q_pickL : ∀ {l G : va_W}, (∀ c, c ∈ l → c ∈ G) → (l.map Prod.fst).Nodup → ∃ R, G.Perm (l ++ R)
  | [], G, _, _ => ⟨G, List.Perm.refl _⟩
  | a :: l, G, h, hn => by
    obtain ⟨R, hR⟩ := q_pick1 (h a (List.mem_cons_self))
    have hn1 : a.1 ∉ l.map Prod.fst := (List.nodup_cons.mp hn).1
    have hn2 : (l.map Prod.fst).Nodup := (List.nodup_cons.mp hn).2
    obtain ⟨R2, hR2⟩ := q_pickL (l := l) (G := R) (fun c hc => q_pickin hR (h c (List.mem_cons_of_mem _ hc)) (fun e => hn1 (by rw [← e]; exact List.mem_map_of_mem hc))) hn2
    exact ⟨R2, hR.trans (hR2.cons _)⟩
theorem q_nek {κ : kE} {Ad : List Nat} {a b : Nat} {k k' : Nat × Nat × Nat} (h : tK κ Ad a k) (g : tK κ Ad b k') (hk : k ≠ k') : a ≠ b := fun e => hk (by rw [← h.2, ← g.2, e])
theorem q_fan {p : Nat × va_E → Prop} : ∀ c, c ∈ ([] : va_W) → p c := fun c h => by cases h
theorem q_fac {p : Nat × va_E → Prop} {x : Nat × va_E} {l : va_W} (h : p x) (t : ∀ c, c ∈ l → p c) : ∀ c, c ∈ x :: l → p c := fun c hc => by
  rcases List.mem_cons.mp hc with e | e
  · rw [e]; exact h
  · exact t c e
theorem q_nmn {x : Nat} : x ∉ ([] : List Nat) := fun h => by cases h
theorem q_nmc {x y : Nat} {l : List Nat} (h : x ≠ y) (t : x ∉ l) : x ∉ y :: l := fun hm => by
  rcases List.mem_cons.mp hm with e | e
  · exact h e
  · exact t e
section QSB
variable {G ws R9 : va_W} {sz : Nat}
theorem q_sub (hp : G.Perm (ws ++ R9)) : ∀ q, va_A ws sz q → va_A G sz q := fun q h => by
  rcases h with ⟨k, e, h⟩ | h
  · obtain ⟨j, hj⟩ := List.getElem?_of_mem (hp.symm.subset (List.mem_append_left _ (List.mem_of_getElem? h)))
    exact Or.inl ⟨j, e, hj⟩
  · exact Or.inr h
theorem q_D {A : Nat → Prop} (hp : G.Perm (ws ++ R9)) (h : va_D A G) : va_D (va_A G sz) (ws ++ R9) := (va_D.perm hp h).weaken (fun k q hk _ => by
  obtain ⟨j, hj⟩ := List.getElem?_of_mem (hp.symm.subset (List.mem_of_getElem? hk))
  exact Or.inl ⟨j, q.2, hj⟩)
theorem fr_in {A : Nat → Prop} {D : va_G} {F0 : va_W} {U : State} (hp : G.Perm (ws ++ R9)) (hF : ∀ q, q ∈ F0 → q ∈ R9) (hsz : sz = U.heap.size) (qP : va_P D classes G U.heap) (qD : va_D A G) : va_P D classes F0 U.heap ∧ ∀ (k : Nat) (q : Nat × va_E), F0[k]? = some q → ¬ va_A ws sz q.1 := by
  have qP2 := va_P.perm hp qP
  have qD2 := va_D.perm hp qD
  refine ⟨fun k x hx => ?_, fun k x hx hv => ?_⟩
  · obtain ⟨i, hi⟩ := List.getElem?_of_mem (List.mem_append_right ws (hF x (List.mem_of_getElem? hx)))
    exact qP2 i x hi
  · obtain ⟨i, hi⟩ := List.getElem?_of_mem (hF x (List.mem_of_getElem? hx))
    have hi' : (ws ++ R9)[ws.length + i]? = some x := by
      rw [List.getElem?_append_right (by omega), Nat.add_sub_cancel_left]
      exact hi
    rcases hv with ⟨k2, e2, h2⟩ | h2
    · have hk2 := (List.getElem?_eq_some_iff.mp h2).1
      have h3 : (ws ++ R9)[k2]? = some (x.1, e2) := by rw [List.getElem?_append_left hk2]; exact h2
      have h4 := qD2.1 k2 (ws.length + i) _ _ h3 hi' rfl
      omega
    · have h4 := (qP2 _ x hi').lt
      omega
end QSB
theorem gD_map (v : Nat → Nat) (n : Nat) : ∀ j, j < n → v j = ((List.range n).map v).getD j 0 := fun j hj => by
  rw [List.getD_eq_getElem?_getD, List.getElem?_map, List.getElem?_range hj]
  rfl
/-- the octets of a slice, counted from its end -/
def slO (ω : Nat → List Nat) (q len i : Nat) : Nat := if i < len then (ω ((ω q).getD 0 0)).getD ((ω q).getD 1 0 + len - 1 - i) 0 else 0
/-- a slice's octets, counted from its end -/
def ocE (v : Nat → Nat) (s : Nat × Nat) : Nat → Nat := fun i => if i < s.2 - s.1 then v (s.2 - 1 - i) else 0
theorem slO_e {Ω : Nat → List Nat} {q t n : Nat} {s : Nat × Nat} {v : Nat → Nat} (h1 : Ω q = [t, s.1]) (ht : ∀ j, j < n → v j = (Ω t).getD j 0) (hs : s.1 ≤ s.2 ∧ s.2 ≤ n) : slO Ω q (s.2 - s.1) = ocE v s := by
  funext i
  unfold slO ocE
  by_cases hi : i < s.2 - s.1
  · rw [if_pos hi, if_pos hi, h1]
    show (Ω t).getD (s.1 + (s.2 - s.1) - 1 - i) 0 = v (s.2 - 1 - i)
    rw [← ht _ (by omega), show s.1 + (s.2 - s.1) - 1 - i = s.2 - 1 - i by omega]
  · rw [if_neg hi, if_neg hi]
theorem q_gan {α : Type} {p : α → Prop} : ∀ c, c ∈ ([] : List α) → p c := fun c h => by cases h
theorem q_gac {α : Type} {p : α → Prop} {x : α} {l : List α} (h : p x) (t : ∀ c, c ∈ l → p c) : ∀ c, c ∈ x :: l → p c := fun c hc => by
  rcases List.mem_cons.mp hc with e | e
  · rw [e]; exact h
  · exact t c e
theorem q_Dag {A : Nat → Prop} {w1 w2 : va_W} {q : Nat} {e e' : va_E} (h : va_D A (w1 ++ (q, e) :: w2)) : va_D A (w1 ++ (q, e') :: w2) := by
  have g : ∀ (k : Nat) (z : Nat × va_E), (w1 ++ (q, e') :: w2)[k]? = some z → ∃ z' : Nat × va_E, (w1 ++ (q, e) :: w2)[k]? = some z' ∧ z'.1 = z.1 := fun k z hk => by
    by_cases hl : k < w1.length
    · rw [List.getElem?_append_left hl] at hk
      exact ⟨z, by rw [List.getElem?_append_left hl]; exact hk, rfl⟩
    · rw [List.getElem?_append_right (by omega)] at hk
      cases hj : k - w1.length with
      | zero => rw [hj] at hk; cases hk; exact ⟨(q, e), by rw [List.getElem?_append_right (by omega), hj]; rfl, rfl⟩
      | succ i => rw [hj] at hk; exact ⟨z, by rw [List.getElem?_append_right (by omega), hj]; exact hk, rfl⟩
  refine ⟨fun i j p q hi hj e => ?_, fun k z hk => ?_⟩
  · obtain ⟨p', a1, a2⟩ := g i p hi
    obtain ⟨q', b1, b2⟩ := g j q hj
    exact h.1 i j p' q' a1 b1 (by rw [a2, b2]; exact e)
  · obtain ⟨z', a1, a2⟩ := g k z hk
    rw [← a2]
    exact h.2 k z' a1
