/-! The reference's side of the law: one invariant. -/
abbrev mC (a : Nat → Nat) (sp : Nat) (mer : Int32) (fd : Nat) (wr : Int32) (nc nl : Nat) (mqs msz : Int32) (cz : Nat) (mch mft mpt mdp mvd : Int32) (nw : Int64) (mmk : Int32) : va_E := .inr (12, (.int mer :: .int (nI fd) :: .int wr :: .int (nI nc) :: .int (nI nl) :: .ref (a 1) :: .ref (a 2) :: .ref (a 3) :: .ref sp :: .int mqs :: .ref (a 5) :: .ref (a 6) :: .ref (a 7) :: .ref (a 8) :: .ref (a 9) :: .ref (a 10) :: .ref (a 11) :: .ref (a 12) :: .ref (a 13) :: .ref (a 14) :: .ref (a 15) :: .ref (a 16) :: .ref (a 17) :: .int msz :: .int (nI cz) :: .int mch :: .int mft :: .int mpt :: .int mdp :: .int mvd :: .long nw :: .int mmk :: []))
/-- its rows of ints that have a kind -/
def RT (κ : kE) (Ad : List Nat) (a : Nat → Nat) : Prop := tK κ Ad (a 6) (6, 2176, 0) ∧ tK κ Ad (a 7) (6, 64, 0) ∧ tK κ Ad (a 8) (6, 8, 0) ∧ tK κ Ad (a 9) (6, 8, 1) ∧ tK κ Ad (a 10) (6, 64, 2) ∧ tK κ Ad (a 11) (6, 600, 3) ∧ tK κ Ad (a 12) (6, 600, 5) ∧ tK κ Ad (a 14) (6, 600, 4) ∧ tK κ Ad (a 15) (6, 600, 6) ∧ True
/-- its other cells, the spare Text with them -/
def RB (γ : cG) (gT : ClassId) (Ad : List Nat) (a : Nat → Nat) (sp : Nat) (x : TD) (fS fV : Nat → Option Nat) (fm fr fw ff : Nat → Int32) (fu wx : Nat → Nat) (G : va_W) : Prop :=
  Xc Ad (a 1) (.inl (γ.2.1, 2060, .inl (tI fu))) G ∧ Xc Ad (a 2) (.inl (gT, 16, .inr (.inr (.inr (.inr fS))))) G ∧ Xc Ad (a 3) (.inl (gT, 8, .inr (.inr (.inr (.inr fV))))) G ∧ (Xc Ad (a 13) (.inl (γ.2.1, 600, .inl fm)) G ∧ bR fm) ∧ (Xc Ad (a 5) (.inl (γ.2.1, 600, .inl fr)) G ∧ bR fr) ∧ Xc Ad (a 16) (.inl (γ.2.1, 16, .inl fw)) G ∧ Xc Ad (a 17) (.inl (γ.2.1, 16, .inl ff)) G ∧ Xc Ad sp (tcell x) G ∧ (∀ j, j < 12 → Xc Ad (x.A j) (.inl (γ.2.1, tlen j, .inl (x.D j))) G) ∧ (x.D 0 = tI wx ∧ x.I 42 = 0) ∧ (∀ j, wx j < 256) ∧ ∀ j, fu j < 256
/-- they are apart -/
def RN (mo : Nat) (a : Nat → Nat) (sp : Nat) (x : TD) : Prop := [mo, a 1, a 2, a 3, a 13, a 5, a 16, a 17].Nodup ∧ (sp :: (List.range 12).map x.A).Nodup ∧ ∀ b, b ∈ (sp :: (List.range 12).map x.A) → b ∉ [mo, a 1, a 2, a 3, a 13, a 5, a 16, a 17]
def RI (γ : cG) (gT : ClassId) (mo : Nat) (fu : Nat → Nat) (fd : Nat) (wr : Int32) (nc nl : Nat) (xc xl : Nat → TD) (wx : Nat → Nat) (vs : sS) (er : Int32) (G : va_W) : Prop :=
  ∃ (κ : kE) (Ad : List Nat) (τ : Nat → TD) (a : Nat → Nat) (sp : Nat) (x : TD) (fS fV : Nat → Option Nat) (fm fr fw ff : Nat → Int32) (cz : Nat) (mqs msz mch mft mpt mdp mvd mmk : Int32) (nw : Int64), TR γ κ Ad τ G ∧ Xc Ad mo (mC a sp er fd wr nc nl mqs msz cz mch mft mpt mdp mvd nw mmk) G ∧ RB γ gT Ad a sp x fS fV fm fr fw ff fu wx G ∧ RN mo a sp x ∧ RT κ Ad a ∧ STc κ Ad τ nc fS ∧ STl κ Ad τ nl fV ∧ (nc ≤ 16 ∧ nl ≤ 8 ∧ cz ≤ 16 ∧ fd ≤ 2060 ∧ (cz = vs.2.2.1.length ∧ mch = nI vs.2.1 ∧ mft = vs.2.2.2.2) ∧ fdR vs.2.2.1 ff) ∧ (∀ k, k < nc → ∀ t, fS k = some t → xc k = τ t) ∧ (∀ k, k < nl → ∀ t, fV k = some t → xl k = τ t) ∧ (∀ i j, i < nc → j < nc → fS i = fS j → i = j) ∧ ∀ i j, i < nc → j < nl → fS i ≠ fV j
theorem Xc.fl9 {Ad X : List Nat} {b : Nat} {c : va_E} {G G' : va_W} (h : Xc Ad b c G) (hn : b ∉ X) (f : FL Ad X G G') : Xc Ad b c G' := ⟨h.1, f (b, c) h.1 hn h.2⟩
theorem rn7 {mo o s v m r w z : Nat} (h : [mo, o, s, v, m, r, w, z].Nodup) : (mo ≠ o ∧ mo ≠ s ∧ mo ≠ v ∧ mo ≠ m ∧ mo ≠ r ∧ mo ≠ w ∧ mo ≠ z) ∧ (o ≠ s ∧ o ≠ v ∧ o ≠ m ∧ o ≠ r ∧ o ≠ w ∧ o ≠ z) ∧ (s ≠ v ∧ s ≠ m ∧ s ≠ r ∧ s ≠ w ∧ s ≠ z) ∧ (v ≠ m ∧ v ≠ r ∧ v ≠ w ∧ v ≠ z) ∧ (m ≠ r ∧ m ≠ w ∧ m ≠ z) ∧ (r ≠ w ∧ r ≠ z) ∧ w ≠ z := by
  refine ⟨⟨?_, ?_, ?_, ?_, ?_, ?_, ?_⟩, ⟨?_, ?_, ?_, ?_, ?_, ?_⟩, ⟨?_, ?_, ?_, ?_, ?_⟩, ⟨?_, ?_, ?_, ?_⟩, ⟨?_, ?_, ?_⟩, ⟨?_, ?_⟩, ?_⟩ <;> (intro e; subst e; simp at h)
theorem no1 {b c : Nat} (h : c ≠ b) : b ∉ [c] := fun hm => h (List.mem_singleton.mp hm).symm
theorem no2 {b c d : Nat} (h : c ≠ b) (h' : d ≠ b) : b ∉ [c, d] := fun hm => by
  rcases List.mem_cons.mp hm with e | e
  · exact h e.symm
  · exact no1 h' e
theorem no3 {b c d e : Nat} (h : c ≠ b) (h' : d ≠ b) (h2 : e ≠ b) : b ∉ [c, d, e] := fun hm => by
  rcases List.mem_cons.mp hm with e | e
  · exact h e.symm
  · exact no2 h' h2 e
theorem no4 {b c d e f : Nat} (h : c ≠ b) (h' : d ≠ b) (h2 : e ≠ b) (h3 : f ≠ b) : b ∉ [c, d, e, f] := fun hm => by
  rcases List.mem_cons.mp hm with e | e
  · exact h e.symm
  · exact no3 h' h2 h3 e
theorem no5 {b c d e f g : Nat} (h : c ≠ b) (h' : d ≠ b) (h2 : e ≠ b) (h3 : f ≠ b) (h4 : g ≠ b) : b ∉ [c, d, e, f, g] := fun hm => by
  rcases List.mem_cons.mp hm with e | e
  · exact h e.symm
  · exact no4 h' h2 h3 h4 e
section RBS
variable {γ : cG} {gT : ClassId} {Ad : List Nat} {a : Nat → Nat} {sp mo : Nat} {x : TD} {fS fV : Nat → Option Nat} {fm fr fw ff fm' fr' fw' ff' : Nat → Int32} {fu fu' wx : Nat → Nat} {G G' : va_W}
theorem RN.sp9 (_ : RN mo a sp x) : sp ∈ (sp :: (List.range 12).map x.A) := List.mem_cons_self
theorem RN.A (_ : RN mo a sp x) {j : Nat} (hj : j < 12) : x.A j ∈ (sp :: (List.range 12).map x.A) := List.mem_cons_of_mem _ (List.mem_map_of_mem (List.mem_range.mpr hj))
theorem RN.no (h : RN mo a sp x) {X : List Nat} (hX : ∀ c, c ∈ X → c ∈ [mo, a 1, a 2, a 3, a 13, a 5, a 16, a 17]) {b : Nat} (hb : b ∈ (sp :: (List.range 12).map x.A)) : b ∉ X := fun hm => h.2.2 b hb (hX b hm)
theorem RB.f1 (h : RB γ gT Ad a sp x fS fV fm fr fw ff fu wx G) (hn : RN mo a sp x) (f : FL Ad [mo] G G') : RB γ gT Ad a sp x fS fV fm fr fw ff fu wx G' := by
  have e7 := rn7 hn.1
  obtain ⟨k1, k2, k3, ⟨k13, b13⟩, ⟨k5, b5⟩, k16, k17, ks, kA, hd, hw, hu⟩ := h
  exact ⟨k1.fl9 (no1 e7.1.1) f, k2.fl9 (no1 e7.1.2.1) f, k3.fl9 (no1 e7.1.2.2.1) f, ⟨k13.fl9 (no1 e7.1.2.2.2.1) f, b13⟩, ⟨k5.fl9 (no1 e7.1.2.2.2.2.1) f, b5⟩, k16.fl9 (no1 e7.1.2.2.2.2.2.1) f, k17.fl9 (no1 e7.1.2.2.2.2.2.2) f, ks.fl9 (hn.no (fun c hc => by simp only [List.mem_cons, List.not_mem_nil, or_false] at hc ⊢; simp [hc]) hn.sp9) f, fun j hj => (kA j hj).fl9 (hn.no (fun c hc => by simp only [List.mem_cons, List.not_mem_nil, or_false] at hc ⊢; simp [hc]) (hn.A hj)) f, hd, hw, hu⟩
theorem RB.f2 (h : RB γ gT Ad a sp x fS fV fm fr fw ff fu wx G) (hn : RN mo a sp x) (f : FL Ad [mo, a 13, a 5] G G') (g1 : Xc Ad (a 13) (.inl (γ.2.1, 600, .inl fm')) G' ∧ bR fm') (g2 : Xc Ad (a 5) (.inl (γ.2.1, 600, .inl fr')) G' ∧ bR fr') : RB γ gT Ad a sp x fS fV fm' fr' fw ff fu wx G' := by
  have e7 := rn7 hn.1
  obtain ⟨k1, k2, k3, ⟨k13, b13⟩, ⟨k5, b5⟩, k16, k17, ks, kA, hd, hw, hu⟩ := h
  exact ⟨k1.fl9 (no3 e7.1.1 (Ne.symm (e7.2.1.2.2.1)) (Ne.symm (e7.2.1.2.2.2.1))) f, k2.fl9 (no3 e7.1.2.1 (Ne.symm (e7.2.2.1.2.1)) (Ne.symm (e7.2.2.1.2.2.1))) f, k3.fl9 (no3 e7.1.2.2.1 (Ne.symm (e7.2.2.2.1.1)) (Ne.symm (e7.2.2.2.1.2.1))) f, g1, g2, k16.fl9 (no3 e7.1.2.2.2.2.2.1 e7.2.2.2.2.1.2.1 e7.2.2.2.2.2.1.1) f, k17.fl9 (no3 e7.1.2.2.2.2.2.2 e7.2.2.2.2.1.2.2 e7.2.2.2.2.2.1.2) f, ks.fl9 (hn.no (fun c hc => by simp only [List.mem_cons, List.not_mem_nil, or_false] at hc ⊢; rcases hc with h | h | h <;> simp [h]) hn.sp9) f, fun j hj => (kA j hj).fl9 (hn.no (fun c hc => by simp only [List.mem_cons, List.not_mem_nil, or_false] at hc ⊢; rcases hc with h | h | h <;> simp [h]) (hn.A hj)) f, hd, hw, hu⟩
theorem RB.f3 (h : RB γ gT Ad a sp x fS fV fm fr fw ff fu wx G) (hn : RN mo a sp x) (f : FL Ad [mo, a 13, a 5, a 16] G G') (g1 : Xc Ad (a 13) (.inl (γ.2.1, 600, .inl fm')) G' ∧ bR fm') (g2 : Xc Ad (a 5) (.inl (γ.2.1, 600, .inl fr')) G' ∧ bR fr') (g3 : Xc Ad (a 16) (.inl (γ.2.1, 16, .inl fw')) G') : RB γ gT Ad a sp x fS fV fm' fr' fw' ff fu wx G' := by
  have e7 := rn7 hn.1
  obtain ⟨k1, k2, k3, ⟨k13, b13⟩, ⟨k5, b5⟩, k16, k17, ks, kA, hd, hw, hu⟩ := h
  exact ⟨k1.fl9 (no4 e7.1.1 (Ne.symm (e7.2.1.2.2.1)) (Ne.symm (e7.2.1.2.2.2.1)) (Ne.symm (e7.2.1.2.2.2.2.1))) f, k2.fl9 (no4 e7.1.2.1 (Ne.symm (e7.2.2.1.2.1)) (Ne.symm (e7.2.2.1.2.2.1)) (Ne.symm (e7.2.2.1.2.2.2.1))) f, k3.fl9 (no4 e7.1.2.2.1 (Ne.symm (e7.2.2.2.1.1)) (Ne.symm (e7.2.2.2.1.2.1)) (Ne.symm (e7.2.2.2.1.2.2.1))) f, g1, g2, g3, k17.fl9 (no4 e7.1.2.2.2.2.2.2 e7.2.2.2.2.1.2.2 e7.2.2.2.2.2.1.2 e7.2.2.2.2.2.2) f, ks.fl9 (hn.no (fun c hc => by simp only [List.mem_cons, List.not_mem_nil, or_false] at hc ⊢; rcases hc with h | h | h | h <;> simp [h]) hn.sp9) f, fun j hj => (kA j hj).fl9 (hn.no (fun c hc => by simp only [List.mem_cons, List.not_mem_nil, or_false] at hc ⊢; rcases hc with h | h | h | h <;> simp [h]) (hn.A hj)) f, hd, hw, hu⟩
theorem RB.f5 (h : RB γ gT Ad a sp x fS fV fm fr fw ff fu wx G) (hn : RN mo a sp x) (f : FL Ad [mo, a 13, a 5, a 16, a 17] G G') (g1 : Xc Ad (a 13) (.inl (γ.2.1, 600, .inl fm')) G' ∧ bR fm') (g2 : Xc Ad (a 5) (.inl (γ.2.1, 600, .inl fr')) G' ∧ bR fr') (g3 : Xc Ad (a 16) (.inl (γ.2.1, 16, .inl fw')) G') (g4 : Xc Ad (a 17) (.inl (γ.2.1, 16, .inl ff')) G') : RB γ gT Ad a sp x fS fV fm' fr' fw' ff' fu wx G' := by
  have e7 := rn7 hn.1
  obtain ⟨k1, k2, k3, ⟨k13, b13⟩, ⟨k5, b5⟩, k16, k17, ks, kA, hd, hw, hu⟩ := h
  exact ⟨k1.fl9 (no5 e7.1.1 (Ne.symm (e7.2.1.2.2.1)) (Ne.symm (e7.2.1.2.2.2.1)) (Ne.symm (e7.2.1.2.2.2.2.1)) (Ne.symm (e7.2.1.2.2.2.2.2))) f, k2.fl9 (no5 e7.1.2.1 (Ne.symm (e7.2.2.1.2.1)) (Ne.symm (e7.2.2.1.2.2.1)) (Ne.symm (e7.2.2.1.2.2.2.1)) (Ne.symm (e7.2.2.1.2.2.2.2))) f, k3.fl9 (no5 e7.1.2.2.1 (Ne.symm (e7.2.2.2.1.1)) (Ne.symm (e7.2.2.2.1.2.1)) (Ne.symm (e7.2.2.2.1.2.2.1)) (Ne.symm (e7.2.2.2.1.2.2.2))) f, g1, g2, g3, g4, ks.fl9 (hn.no (fun c hc => by simp only [List.mem_cons, List.not_mem_nil, or_false] at hc ⊢; rcases hc with h | h | h | h | h <;> simp [h]) hn.sp9) f, fun j hj => (kA j hj).fl9 (hn.no (fun c hc => by simp only [List.mem_cons, List.not_mem_nil, or_false] at hc ⊢; rcases hc with h | h | h | h | h <;> simp [h]) (hn.A hj)) f, hd, hw, hu⟩
theorem RB.f4 (h : RB γ gT Ad a sp x fS fV fm fr fw ff fu wx G) (hn : RN mo a sp x) (f : FL Ad [mo, a 1] G G') (g1 : Xc Ad (a 1) (.inl (γ.2.1, 2060, .inl (tI fu'))) G') (hu' : ∀ j, fu' j < 256) : RB γ gT Ad a sp x fS fV fm fr fw ff fu' wx G' := by
  have e7 := rn7 hn.1
  obtain ⟨k1, k2, k3, ⟨k13, b13⟩, ⟨k5, b5⟩, k16, k17, ks, kA, hd, hw, hu⟩ := h
  exact ⟨g1, k2.fl9 (no2 e7.1.2.1 e7.2.1.1) f, k3.fl9 (no2 e7.1.2.2.1 e7.2.1.2.1) f, ⟨k13.fl9 (no2 e7.1.2.2.2.1 e7.2.1.2.2.1) f, b13⟩, ⟨k5.fl9 (no2 e7.1.2.2.2.2.1 e7.2.1.2.2.2.1) f, b5⟩, k16.fl9 (no2 e7.1.2.2.2.2.2.1 e7.2.1.2.2.2.2.1) f, k17.fl9 (no2 e7.1.2.2.2.2.2.2 e7.2.1.2.2.2.2.2) f, ks.fl9 (hn.no (fun c hc => by simp only [List.mem_cons, List.not_mem_nil, or_false] at hc ⊢; rcases hc with h | h <;> simp [h]) hn.sp9) f, fun j hj => (kA j hj).fl9 (hn.no (fun c hc => by simp only [List.mem_cons, List.not_mem_nil, or_false] at hc ⊢; rcases hc with h | h <;> simp [h]) (hn.A hj)) f, hd, hw, hu'⟩
end RBS
theorem TC.tr {x : TD} (h : TC x) {v : Int32} (hv : b01 v) : TC (tUp x v) := TC.of (x := tUp x v) h.hu h.d h.e12 h.e13 h.e21 h.e22 h.e23 h.e24 h.b1 h.b2 h.b3 h.k1 h.e10 h.e11 h.e14 h.e15 h.e18 h.e19 h.e20 h.e27 h.e28 h.e35 h.b4 h.b5 h.b6 h.b7 h.b8 h.b9 h.k2 h.c1 hv h.l1 h.l2 h.l3
theorem TL.tr {x : TD} (h : TL x) {v : Int32} : TL (tUp x v) := TL.of (x := tUp x v) h.hu h.d h.e12 h.e13 h.e21 h.e22 h.e23 h.e24 h.b1 h.b2 h.b3 h.k1 h.e36 h.b4 h.l1
theorem STc.tr {κ : kE} {Ad : List Nat} {τ : Nat → TD} {K : Nat} {f : Nat → Option Nat} (h : STc κ Ad τ K f) {v : Int32} (hv : b01 v) (t : Nat) : STc κ Ad (tTr τ t v) K f := fun i hi => by
  obtain ⟨t', e, k, c⟩ := h i hi
  refine ⟨t', e, k, ?_⟩
  unfold tTr
  split
  · rename_i e9
    rw [e9] at c
    exact c.tr hv
  · exact c
theorem STl.tr {κ : kE} {Ad : List Nat} {τ : Nat → TD} {K : Nat} {f : Nat → Option Nat} (h : STl κ Ad τ K f) {v : Int32} (t : Nat) : STl κ Ad (tTr τ t v) K f := fun i hi => by
  obtain ⟨t', e, k, c⟩ := h i hi
  refine ⟨t', e, k, ?_⟩
  unfold tTr
  split
  · rename_i e9
    rw [e9] at c
    exact c.tr
  · exact c
theorem dis_l {A : Nat → Prop} {l R : va_W} (hD : va_D A (l ++ R)) {p q : Nat × va_E} (hp : p ∈ l) (hq : q ∈ R) : p.1 ≠ q.1 := fun e => by
  obtain ⟨i, hi⟩ := List.getElem?_of_mem hp
  obtain ⟨j, hj⟩ := List.getElem?_of_mem hq
  have hl := (List.getElem?_eq_some_iff.mp hi).1
  have h1 : (l ++ R)[i]? = some p := by rw [List.getElem?_append_left hl]; exact hi
  have h2 : (l ++ R)[l.length + j]? = some q := by rw [List.getElem?_append_right (Nat.le_add_right _ _), Nat.add_sub_cancel_left]; exact hj
  have := hD.1 i (l.length + j) p q h1 h2 e
  omega
theorem nd_l {A : Nat → Prop} {l R : va_W} (hD : va_D A (l ++ R)) : (l.map Prod.fst).Nodup := by
  rw [List.nodup_iff_pairwise_ne, List.pairwise_map]
  rw [List.pairwise_iff_getElem]
  intro i j hi hj hij e
  have h1 : (l ++ R)[i]? = some l[i] := by rw [List.getElem?_append_left hi]; exact List.getElem?_eq_getElem hi
  have h2 : (l ++ R)[j]? = some l[j] := by rw [List.getElem?_append_left hj]; exact List.getElem?_eq_getElem hj
  have := hD.1 i j _ _ h1 h2 e
  omega
theorem nd_td {l : List Nat} (h : l.Nodup) (k : Nat) {b c : Nat} (hb : b ∈ l.drop k) (hc : c ∈ l.take k) : b ≠ c := by
  rw [← List.take_append_drop k l] at h
  exact fun e => (List.nodup_append.mp h).2.2 c hc b hb e.symm
abbrev w0C (γ : cG) (gT : ClassId) (a : Nat → Nat) (fu : Nat → Nat) (g : Nat → Option Nat) (sp : Nat) (x : TD) (mo : Nat) (c : va_E) : va_W := [(mo, c), (a 1, .inl (γ.2.1, 2060, .inl (tI fu))), (a 2, .inl (gT, 16, .inr (.inr (.inr (.inr g))))), (sp, tcell x), (x.A 0, .inl (γ.2.1, tlen 0, .inl (x.D 0))), (x.A 1, .inl (γ.2.1, tlen 1, .inl (x.D 1))), (x.A 2, .inl (γ.2.1, tlen 2, .inl (x.D 2))), (x.A 3, .inl (γ.2.1, tlen 3, .inl (x.D 3))), (x.A 4, .inl (γ.2.1, tlen 4, .inl (x.D 4))), (x.A 5, .inl (γ.2.1, tlen 5, .inl (x.D 5))), (x.A 6, .inl (γ.2.1, tlen 6, .inl (x.D 6))), (x.A 7, .inl (γ.2.1, tlen 7, .inl (x.D 7))), (x.A 8, .inl (γ.2.1, tlen 8, .inl (x.D 8))), (x.A 9, .inl (γ.2.1, tlen 9, .inl (x.D 9))), (x.A 10, .inl (γ.2.1, tlen 10, .inl (x.D 10))), (x.A 11, .inl (γ.2.1, tlen 11, .inl (x.D 11)))]
abbrev wFC (γ : cG) (gT : ClassId) (a : Nat → Nat) (fu : Nat → Nat) (g : Nat → Option Nat) (sp : Nat) (x : TD) (mo : Nat) (c : va_E) : va_W := [(a 1, .inl (γ.2.1, 2060, .inl (tI fu))), (a 2, .inl (gT, 16, .inr (.inr (.inr (.inr g))))), (sp, tcell x), (x.A 0, .inl (γ.2.1, tlen 0, .inl (x.D 0))), (x.A 10, .inl (γ.2.1, tlen 10, .inl (x.D 10))), (x.A 11, .inl (γ.2.1, tlen 11, .inl (x.D 11))), (x.A 1, .inl (γ.2.1, tlen 1, .inl (x.D 1))), (x.A 2, .inl (γ.2.1, tlen 2, .inl (x.D 2))), (x.A 3, .inl (γ.2.1, tlen 3, .inl (x.D 3))), (x.A 4, .inl (γ.2.1, tlen 4, .inl (x.D 4))), (x.A 5, .inl (γ.2.1, tlen 5, .inl (x.D 5))), (x.A 6, .inl (γ.2.1, tlen 6, .inl (x.D 6))), (x.A 7, .inl (γ.2.1, tlen 7, .inl (x.D 7))), (x.A 8, .inl (γ.2.1, tlen 8, .inl (x.D 8))), (x.A 9, .inl (γ.2.1, tlen 9, .inl (x.D 9))), (mo, c)]
abbrev wTC (γ : cG) (gT : ClassId) (a : Nat → Nat) (fu : Nat → Nat) (g : Nat → Option Nat) (sp : Nat) (x : TD) (mo : Nat) (c : va_E) (s1 : Nat) (xn : TD) : va_W := [(a 1, .inl (γ.2.1, 2060, .inl (tI fu))), (a 2, .inl (gT, 16, .inr (.inr (.inr (.inr g))))), (sp, tcell x), (x.A 0, .inl (γ.2.1, tlen 0, .inl (x.D 0))), (x.A 10, .inl (γ.2.1, tlen 10, .inl (x.D 10))), (x.A 11, .inl (γ.2.1, tlen 11, .inl (x.D 11))), (x.A 1, .inl (γ.2.1, tlen 1, .inl (x.D 1))), (x.A 2, .inl (γ.2.1, tlen 2, .inl (x.D 2))), (x.A 3, .inl (γ.2.1, tlen 3, .inl (x.D 3))), (x.A 4, .inl (γ.2.1, tlen 4, .inl (x.D 4))), (x.A 5, .inl (γ.2.1, tlen 5, .inl (x.D 5))), (x.A 6, .inl (γ.2.1, tlen 6, .inl (x.D 6))), (x.A 7, .inl (γ.2.1, tlen 7, .inl (x.D 7))), (x.A 8, .inl (γ.2.1, tlen 8, .inl (x.D 8))), (x.A 9, .inl (γ.2.1, tlen 9, .inl (x.D 9))), (mo, c), (s1, tcell xn), (xn.A 0, .inl (γ.2.1, tlen 0, .inl (xn.D 0))), (xn.A 1, .inl (γ.2.1, tlen 1, .inl (xn.D 1))), (xn.A 2, .inl (γ.2.1, tlen 2, .inl (xn.D 2))), (xn.A 3, .inl (γ.2.1, tlen 3, .inl (xn.D 3))), (xn.A 4, .inl (γ.2.1, tlen 4, .inl (xn.D 4))), (xn.A 5, .inl (γ.2.1, tlen 5, .inl (xn.D 5))), (xn.A 6, .inl (γ.2.1, tlen 6, .inl (xn.D 6))), (xn.A 7, .inl (γ.2.1, tlen 7, .inl (xn.D 7))), (xn.A 8, .inl (γ.2.1, tlen 8, .inl (xn.D 8))), (xn.A 9, .inl (γ.2.1, tlen 9, .inl (xn.D 9))), (xn.A 10, .inl (γ.2.1, tlen 10, .inl (xn.D 10))), (xn.A 11, .inl (γ.2.1, tlen 11, .inl (xn.D 11)))]
abbrev w0L (γ : cG) (gT : ClassId) (a : Nat → Nat) (fu : Nat → Nat) (g : Nat → Option Nat) (sp : Nat) (x : TD) (mo : Nat) (c : va_E) : va_W := [(mo, c), (a 1, .inl (γ.2.1, 2060, .inl (tI fu))), (a 3, .inl (gT, 8, .inr (.inr (.inr (.inr g))))), (sp, tcell x), (x.A 0, .inl (γ.2.1, tlen 0, .inl (x.D 0))), (x.A 1, .inl (γ.2.1, tlen 1, .inl (x.D 1))), (x.A 2, .inl (γ.2.1, tlen 2, .inl (x.D 2))), (x.A 3, .inl (γ.2.1, tlen 3, .inl (x.D 3))), (x.A 4, .inl (γ.2.1, tlen 4, .inl (x.D 4))), (x.A 5, .inl (γ.2.1, tlen 5, .inl (x.D 5))), (x.A 6, .inl (γ.2.1, tlen 6, .inl (x.D 6))), (x.A 7, .inl (γ.2.1, tlen 7, .inl (x.D 7))), (x.A 8, .inl (γ.2.1, tlen 8, .inl (x.D 8))), (x.A 9, .inl (γ.2.1, tlen 9, .inl (x.D 9))), (x.A 10, .inl (γ.2.1, tlen 10, .inl (x.D 10))), (x.A 11, .inl (γ.2.1, tlen 11, .inl (x.D 11)))]
abbrev wFL (γ : cG) (gT : ClassId) (a : Nat → Nat) (fu : Nat → Nat) (g : Nat → Option Nat) (sp : Nat) (x : TD) (mo : Nat) (c : va_E) : va_W := [(a 1, .inl (γ.2.1, 2060, .inl (tI fu))), (a 3, .inl (gT, 8, .inr (.inr (.inr (.inr g))))), (sp, tcell x), (x.A 0, .inl (γ.2.1, tlen 0, .inl (x.D 0))), (x.A 10, .inl (γ.2.1, tlen 10, .inl (x.D 10))), (x.A 11, .inl (γ.2.1, tlen 11, .inl (x.D 11))), (x.A 1, .inl (γ.2.1, tlen 1, .inl (x.D 1))), (x.A 2, .inl (γ.2.1, tlen 2, .inl (x.D 2))), (x.A 3, .inl (γ.2.1, tlen 3, .inl (x.D 3))), (x.A 4, .inl (γ.2.1, tlen 4, .inl (x.D 4))), (x.A 5, .inl (γ.2.1, tlen 5, .inl (x.D 5))), (x.A 6, .inl (γ.2.1, tlen 6, .inl (x.D 6))), (x.A 7, .inl (γ.2.1, tlen 7, .inl (x.D 7))), (x.A 8, .inl (γ.2.1, tlen 8, .inl (x.D 8))), (x.A 9, .inl (γ.2.1, tlen 9, .inl (x.D 9))), (mo, c)]
abbrev wTL (γ : cG) (gT : ClassId) (a : Nat → Nat) (fu : Nat → Nat) (g : Nat → Option Nat) (sp : Nat) (x : TD) (mo : Nat) (c : va_E) (s1 : Nat) (xn : TD) : va_W := [(a 1, .inl (γ.2.1, 2060, .inl (tI fu))), (a 3, .inl (gT, 8, .inr (.inr (.inr (.inr g))))), (sp, tcell x), (x.A 0, .inl (γ.2.1, tlen 0, .inl (x.D 0))), (x.A 10, .inl (γ.2.1, tlen 10, .inl (x.D 10))), (x.A 11, .inl (γ.2.1, tlen 11, .inl (x.D 11))), (x.A 1, .inl (γ.2.1, tlen 1, .inl (x.D 1))), (x.A 2, .inl (γ.2.1, tlen 2, .inl (x.D 2))), (x.A 3, .inl (γ.2.1, tlen 3, .inl (x.D 3))), (x.A 4, .inl (γ.2.1, tlen 4, .inl (x.D 4))), (x.A 5, .inl (γ.2.1, tlen 5, .inl (x.D 5))), (x.A 6, .inl (γ.2.1, tlen 6, .inl (x.D 6))), (x.A 7, .inl (γ.2.1, tlen 7, .inl (x.D 7))), (x.A 8, .inl (γ.2.1, tlen 8, .inl (x.D 8))), (x.A 9, .inl (γ.2.1, tlen 9, .inl (x.D 9))), (mo, c), (s1, tcell xn), (xn.A 0, .inl (γ.2.1, tlen 0, .inl (xn.D 0))), (xn.A 1, .inl (γ.2.1, tlen 1, .inl (xn.D 1))), (xn.A 2, .inl (γ.2.1, tlen 2, .inl (xn.D 2))), (xn.A 3, .inl (γ.2.1, tlen 3, .inl (xn.D 3))), (xn.A 4, .inl (γ.2.1, tlen 4, .inl (xn.D 4))), (xn.A 5, .inl (γ.2.1, tlen 5, .inl (xn.D 5))), (xn.A 6, .inl (γ.2.1, tlen 6, .inl (xn.D 6))), (xn.A 7, .inl (γ.2.1, tlen 7, .inl (xn.D 7))), (xn.A 8, .inl (γ.2.1, tlen 8, .inl (xn.D 8))), (xn.A 9, .inl (γ.2.1, tlen 9, .inl (xn.D 9))), (xn.A 10, .inl (γ.2.1, tlen 10, .inl (xn.D 10))), (xn.A 11, .inl (γ.2.1, tlen 11, .inl (xn.D 11)))]
theorem lt12 {j : Nat} (h : j < 12) : j = 0 ∨ j = 1 ∨ j = 2 ∨ j = 3 ∨ j = 4 ∨ j = 5 ∨ j = 6 ∨ j = 7 ∨ j = 8 ∨ j = 9 ∨ j = 10 ∨ j = 11 := by omega
theorem w0C_in {γ : cG} {gT : ClassId} {κ : kE} {Ad : List Nat} {τ : Nat → TD} {a : Nat → Nat} {sp mo : Nat} {x : TD} {fS fV : Nat → Option Nat} {fm fr fw ff : Nat → Int32} {fu wx : Nat → Nat} {G R9 : va_W} {c : va_E} (hTy : TR γ κ Ad τ G) (kmo : Xc Ad mo c G) (kb : RB γ gT Ad a sp x fS fV fm fr fw ff fu wx G) (hn : RN mo a sp x) (hp : G.Perm (w0C γ gT a fu fS sp x mo c ++ R9)) {q : Nat × va_E} (hq : q ∈ G) (h : q.1 ∉ [mo, a 1, a 2] ++ (sp :: (List.range 12).map x.A)) : q ∈ R9 := by
  rcases List.mem_append.mp (hp.subset hq) with e | e
  · exact absurd (show q.1 ∈ [mo, a 1, a 2] ++ (sp :: (List.range 12).map x.A) from List.mem_map_of_mem (f := Prod.fst) e) h
  · exact e
theorem w0C_Ad {γ : cG} {gT : ClassId} {κ : kE} {Ad : List Nat} {τ : Nat → TD} {a : Nat → Nat} {sp mo : Nat} {x : TD} {fS fV : Nat → Option Nat} {fm fr fw ff : Nat → Int32} {fu wx : Nat → Nat} {G R9 : va_W} {c : va_E} (hTy : TR γ κ Ad τ G) (kmo : Xc Ad mo c G) (kb : RB γ gT Ad a sp x fS fV fm fr fw ff fu wx G) (hn : RN mo a sp x) (hp : G.Perm (w0C γ gT a fu fS sp x mo c ++ R9)) {b : Nat} (hb : b ∈ Ad) : b ∉ [mo, a 1, a 2] ++ (sp :: (List.range 12).map x.A) := fun hm => by
  obtain ⟨k1, k2, k3, ⟨k13, b13⟩, ⟨k5, b5⟩, k16, k17, ks, kA, hd, hw, hu⟩ := kb
  rcases List.mem_append.mp hm with e | e
  · rcases List.mem_cons.mp e with e | e
    · exact kmo.1 (e ▸ hb)
    · rcases List.mem_cons.mp e with e | e
      · exact k1.1 (e ▸ hb)
      · exact k2.1 ((List.mem_singleton.mp e) ▸ hb)
  · rcases List.mem_cons.mp e with e | e
    · exact ks.1 (e ▸ hb)
    · obtain ⟨j, hj, e⟩ := List.mem_map.mp e
      exact (kA j (List.mem_range.mp hj)).1 (by rw [e]; exact hb)
theorem w0C_ot {a : Nat → Nat} {sp mo : Nat} {x : TD} (hn : RN mo a sp x) {b : Nat} (hb : b = a 3 ∨ b = a 13 ∨ b = a 5 ∨ b = a 16 ∨ b = a 17) : b ∉ [mo, a 1, a 2] ++ (sp :: (List.range 12).map x.A) := fun hm => by
  have e7 := rn7 hn.1
  rcases List.mem_append.mp hm with e | e
  · rcases hb with rfl | rfl | rfl | rfl | rfl
    · exact (no3 e7.1.2.2.1 e7.2.1.2.1 e7.2.2.1.1) e
    · exact (no3 e7.1.2.2.2.1 e7.2.1.2.2.1 e7.2.2.1.2.1) e
    · exact (no3 e7.1.2.2.2.2.1 e7.2.1.2.2.2.1 e7.2.2.1.2.2.1) e
    · exact (no3 e7.1.2.2.2.2.2.1 e7.2.1.2.2.2.2.1 e7.2.2.1.2.2.2.1) e
    · exact (no3 e7.1.2.2.2.2.2.2 e7.2.1.2.2.2.2.2 e7.2.2.1.2.2.2.2) e
  · refine hn.2.2 b e ?_
    rcases hb with rfl | rfl | rfl | rfl | rfl <;> simp
theorem RBFC {γ : cG} {gT : ClassId} {κ : kE} {Ad : List Nat} {τ : Nat → TD} {a : Nat → Nat} {sp mo : Nat} {x x' : TD} {fS fV : Nat → Option Nat} {fm fr fw ff : Nat → Int32} {fu wx wx' : Nat → Nat} {G R9 : va_W} {c c' : va_E} {A' : Nat → Prop} (hTy : TR γ κ Ad τ G) (kmo : Xc Ad mo c G) (kb : RB γ gT Ad a sp x fS fV fm fr fw ff fu wx G) (hn : RN mo a sp x) (hp : G.Perm (w0C γ gT a fu fS sp x mo c ++ R9)) (hA : ∀ j, j < 12 → x'.A j = x.A j) (hx0 : x'.D 0 = tI wx' ∧ x'.I 42 = 0) (hwx : ∀ j, wx' j < 256) (hD' : va_D A' (wFC γ gT a fu fS sp x' mo c' ++ R9)) : TR γ κ Ad τ (wFC γ gT a fu fS sp x' mo c' ++ R9) ∧ Xc Ad mo c' (wFC γ gT a fu fS sp x' mo c' ++ R9) ∧ RB γ gT Ad a sp x' fS fV fm fr fw ff fu wx' (wFC γ gT a fu fS sp x' mo c' ++ R9) ∧ RN mo a sp x' := by
  have hin : ∀ q : Nat × va_E, q ∈ G → q.1 ∉ [mo, a 1, a 2] ++ (sp :: (List.range 12).map x.A) → q ∈ wFC γ gT a fu fS sp x' mo c' ++ R9 := fun q hq h => List.mem_append_right _ (w0C_in hTy kmo kb hn hp hq h)
  have hTy' := TR.keep hTy hD' (fun q ha hq => hin q hq (w0C_Ad hTy kmo kb hn hp ha))
  obtain ⟨k1, k2, k3, ⟨k13, b13⟩, ⟨k5, b5⟩, k16, k17, ks, kA, hd, hw, hu⟩ := kb
  have hA2 : (List.range 12).map x'.A = (List.range 12).map x.A := List.map_congr_left (fun j hj => hA j (List.mem_range.mp hj))
  refine ⟨hTy', ⟨kmo.1, List.mem_append_left _ (List.mem_of_getElem? (i := 15) rfl)⟩, ⟨⟨k1.1, List.mem_append_left _ (List.mem_of_getElem? (i := 0) rfl)⟩, ⟨k2.1, List.mem_append_left _ (List.mem_of_getElem? (i := 1) rfl)⟩, ⟨k3.1, hin _ k3.2 (w0C_ot hn (by simp))⟩, ⟨⟨k13.1, hin _ k13.2 (w0C_ot hn (by simp))⟩, b13⟩, ⟨⟨k5.1, hin _ k5.2 (w0C_ot hn (by simp))⟩, b5⟩, ⟨k16.1, hin _ k16.2 (w0C_ot hn (by simp))⟩, ⟨k17.1, hin _ k17.2 (w0C_ot hn (by simp))⟩, ⟨ks.1, List.mem_append_left _ (List.mem_of_getElem? (i := 2) rfl)⟩, fun j hj => ⟨by rw [hA j hj]; exact (kA j hj).1, List.mem_append_left _ ?_⟩, hx0, hwx, hu⟩, ⟨hn.1, by rw [hA2]; exact hn.2.1, by rw [hA2]; exact hn.2.2⟩⟩
  rcases lt12 hj with rfl | rfl | rfl | rfl | rfl | rfl | rfl | rfl | rfl | rfl | rfl | rfl
  · exact List.mem_of_getElem? (i := 3) rfl
  · exact List.mem_of_getElem? (i := 6) rfl
  · exact List.mem_of_getElem? (i := 7) rfl
  · exact List.mem_of_getElem? (i := 8) rfl
  · exact List.mem_of_getElem? (i := 9) rfl
  · exact List.mem_of_getElem? (i := 10) rfl
  · exact List.mem_of_getElem? (i := 11) rfl
  · exact List.mem_of_getElem? (i := 12) rfl
  · exact List.mem_of_getElem? (i := 13) rfl
  · exact List.mem_of_getElem? (i := 14) rfl
  · exact List.mem_of_getElem? (i := 4) rfl
  · exact List.mem_of_getElem? (i := 5) rfl
theorem RBTC {γ : cG} {gT : ClassId} {κ : kE} {Ad : List Nat} {τ : Nat → TD} {a : Nat → Nat} {sp mo : Nat} {x xm xn : TD} {s1 : Nat} {fS fV fS' : Nat → Option Nat} {fm fr fw ff : Nat → Int32} {fu wx wx' : Nat → Nat} {G R9 : va_W} {c c' : va_E} {A' : Nat → Prop} (hTy : TR γ κ Ad τ G) (kmo : Xc Ad mo c G) (kb : RB γ gT Ad a sp x fS fV fm fr fw ff fu wx G) (hn : RN mo a sp x) (hp : G.Perm (w0C γ gT a fu fS sp x mo c ++ R9)) (hA : ∀ j, j < 12 → xm.A j = x.A j) (hx0 : xn.D 0 = tI wx' ∧ xn.I 42 = 0) (hwx : ∀ j, wx' j < 256) (hD' : va_D A' (wTC γ gT a fu fS' sp xm mo c' s1 xn ++ R9)) : (TR γ (kG κ sp xm) (aG Ad sp xm) (tG τ sp xm) (wTC γ gT a fu fS' sp xm mo c' s1 xn ++ R9) ∧ Xc (aG Ad sp xm) mo c' (wTC γ gT a fu fS' sp xm mo c' s1 xn ++ R9) ∧ RB γ gT (aG Ad sp xm) a s1 xn fS' fV fm fr fw ff fu wx' (wTC γ gT a fu fS' sp xm mo c' s1 xn ++ R9) ∧ RN mo a s1 xn) ∧ (sp ∉ Ad ∧ ∀ j, j < 12 → xm.A j ∉ Ad) := by
  have hin : ∀ q : Nat × va_E, q ∈ G → q.1 ∉ [mo, a 1, a 2] ++ (sp :: (List.range 12).map x.A) → q ∈ R9 := fun q hq h => w0C_in hTy kmo kb hn hp hq h
  have hAd : ∀ b, b ∈ Ad → ∃ e, (b, e) ∈ R9 := fun b hb => by
    obtain ⟨e, he⟩ := hTy.1 b hb
    exact ⟨e, hin _ he (w0C_Ad hTy kmo kb hn hp hb)⟩
  have hTy' : TR γ κ Ad τ (wTC γ gT a fu fS' sp xm mo c' s1 xn ++ R9) := TR.keep hTy hD' (fun q ha hq => List.mem_append_right _ (hin q hq (w0C_Ad hTy kmo kb hn hp ha)))
  obtain ⟨k1, k2, k3, ⟨k13, b13⟩, ⟨k5, b5⟩, k16, k17, ks, kA, hd, hw, hu⟩ := kb
  have hnd := nd_l hD'
  have hA2 : (List.range 12).map xm.A = (List.range 12).map x.A := List.map_congr_left (fun j hj => hA j (List.mem_range.mp hj))
  have hN2 : (sp :: (List.range 12).map xm.A).Nodup := by rw [hA2]; exact hn.2.1
  have hrow : ∀ j, j < 12 → (xm.A j, (.inl (γ.2.1, tlen j, .inl (xm.D j)) : va_E)) ∈ wTC γ gT a fu fS' sp xm mo c' s1 xn := fun j hj => by
    rcases lt12 hj with rfl | rfl | rfl | rfl | rfl | rfl | rfl | rfl | rfl | rfl | rfl | rfl
    · exact List.mem_of_getElem? (i := 3) rfl
    · exact List.mem_of_getElem? (i := 6) rfl
    · exact List.mem_of_getElem? (i := 7) rfl
    · exact List.mem_of_getElem? (i := 8) rfl
    · exact List.mem_of_getElem? (i := 9) rfl
    · exact List.mem_of_getElem? (i := 10) rfl
    · exact List.mem_of_getElem? (i := 11) rfl
    · exact List.mem_of_getElem? (i := 12) rfl
    · exact List.mem_of_getElem? (i := 13) rfl
    · exact List.mem_of_getElem? (i := 14) rfl
    · exact List.mem_of_getElem? (i := 4) rfl
    · exact List.mem_of_getElem? (i := 5) rfl
  have hrow2 : ∀ j, j < 12 → (xn.A j, (.inl (γ.2.1, tlen j, .inl (xn.D j)) : va_E)) ∈ (wTC γ gT a fu fS' sp xm mo c' s1 xn).drop 16 := fun j hj => by
    rcases lt12 hj with rfl | rfl | rfl | rfl | rfl | rfl | rfl | rfl | rfl | rfl | rfl | rfl
    · exact List.mem_of_getElem? (i := 1) rfl
    · exact List.mem_of_getElem? (i := 2) rfl
    · exact List.mem_of_getElem? (i := 3) rfl
    · exact List.mem_of_getElem? (i := 4) rfl
    · exact List.mem_of_getElem? (i := 5) rfl
    · exact List.mem_of_getElem? (i := 6) rfl
    · exact List.mem_of_getElem? (i := 7) rfl
    · exact List.mem_of_getElem? (i := 8) rfl
    · exact List.mem_of_getElem? (i := 9) rfl
    · exact List.mem_of_getElem? (i := 10) rfl
    · exact List.mem_of_getElem? (i := 11) rfl
    · exact List.mem_of_getElem? (i := 12) rfl
  have hnn : (s1 :: (List.range 12).map xn.A).Nodup := List.Nodup.sublist (List.drop_sublist 16 ((wTC γ gT a fu fS' sp xm mo c' s1 xn).map Prod.fst)) hnd
  have hnew : ∀ b, b ∈ (s1 :: (List.range 12).map xn.A) → b ∈ ((wTC γ gT a fu fS' sp xm mo c' s1 xn).map Prod.fst).drop 16 := fun b hb => hb
  have hold : ∀ b, b ∈ [mo, a 1, a 2] ++ (sp :: (List.range 12).map xm.A) → b ∈ ((wTC γ gT a fu fS' sp xm mo c' s1 xn).map Prod.fst).take 16 := fun b hb => by
    rcases List.mem_append.mp hb with e | e
    · rcases List.mem_cons.mp e with e | e
      · rw [e]; exact List.mem_of_getElem? (i := 15) rfl
      · rcases List.mem_cons.mp e with e | e
        · rw [e]; exact List.mem_of_getElem? (i := 0) rfl
        · rw [List.mem_singleton.mp e]; exact List.mem_of_getElem? (i := 1) rfl
    · rcases List.mem_cons.mp e with e | e
      · rw [e]; exact List.mem_of_getElem? (i := 2) rfl
      · obtain ⟨j, hj, e⟩ := List.mem_map.mp e
        rw [← e]
        rcases lt12 (List.mem_range.mp hj) with rfl | rfl | rfl | rfl | rfl | rfl | rfl | rfl | rfl | rfl | rfl | rfl
        · exact List.mem_of_getElem? (i := 3) rfl
        · exact List.mem_of_getElem? (i := 6) rfl
        · exact List.mem_of_getElem? (i := 7) rfl
        · exact List.mem_of_getElem? (i := 8) rfl
        · exact List.mem_of_getElem? (i := 9) rfl
        · exact List.mem_of_getElem? (i := 10) rfl
        · exact List.mem_of_getElem? (i := 11) rfl
        · exact List.mem_of_getElem? (i := 12) rfl
        · exact List.mem_of_getElem? (i := 13) rfl
        · exact List.mem_of_getElem? (i := 14) rfl
        · exact List.mem_of_getElem? (i := 4) rfl
        · exact List.mem_of_getElem? (i := 5) rfl
  have hnR : ∀ b, b ∈ (s1 :: (List.range 12).map xn.A) → ∀ q, q ∈ R9 → b ≠ q.1 := fun b hb q hq => by
    obtain ⟨p, hp9, e⟩ := List.mem_map.mp (List.mem_of_mem_drop (hnew b hb))
    rw [← e]
    exact dis_l hD' hp9 hq
  have hno : ∀ b, b ∈ (s1 :: (List.range 12).map xn.A) → ∀ d, d ∈ [mo, a 1, a 2] ++ (sp :: (List.range 12).map xm.A) → b ≠ d := fun b hb d hd9 => nd_td hnd 16 (hnew b hb) (hold d hd9)
  have hag : ∀ b, b ∉ Ad → b ∉ (sp :: (List.range 12).map xm.A) → b ∉ aG Ad sp xm := fun b h1 h2 hm => by
    rcases List.mem_cons.mp hm with e | e
    · exact h2 (e ▸ List.mem_cons_self)
    · rcases List.mem_append.mp e with e | e
      · exact h2 (List.mem_cons_of_mem _ e)
      · exact h1 e
  have hnA : ∀ b, b ∈ (s1 :: (List.range 12).map xn.A) → b ∉ aG Ad sp xm := fun b hb => hag b (fun h => by
    obtain ⟨e, he⟩ := hAd b h
    exact hnR b hb _ he rfl) (fun h => hno b hb b (List.mem_append_right _ h) rfl)
  have h71 : ∀ b, b ∈ [mo, a 1, a 2, a 3, a 13, a 5, a 16, a 17] → b ∉ (sp :: (List.range 12).map xm.A) := fun b hb hm => by
    rw [hA2] at hm
    exact hn.2.2 b hm hb
  have hsA : sp ∉ Ad ∧ ∀ j, j < 12 → xm.A j ∉ Ad := ⟨ks.1, fun j hj => by rw [hA j hj]; exact (kA j hj).1⟩
  have hnd2 := List.nodup_cons.mp hN2
  have hinj : ∀ i j, i < 12 → j < 12 → xm.A i = xm.A j → i = j := fun i j hi hj e => by
    have h9 := List.nodup_iff_pairwise_ne.mp hnd2.2
    rw [List.pairwise_map, List.pairwise_iff_getElem] at h9
    rcases Nat.lt_trichotomy i j with h | h | h
    · exact absurd (by rw [List.getElem_range, List.getElem_range]; exact e) (h9 i j (by rw [List.length_range]; exact hi) (by rw [List.length_range]; exact hj) h)
    · exact h
    · exact absurd (by rw [List.getElem_range, List.getElem_range]; exact e.symm) (h9 j i (by rw [List.length_range]; exact hj) (by rw [List.length_range]; exact hi) h)
  have hTr := TR.gr hTy' hD' (List.mem_append_left _ (List.mem_of_getElem? (i := 2) rfl)) (fun j hj => List.mem_append_left _ (hrow j hj)) hsA.1 hsA.2 hinj (fun j hj e => hnd2.1 (by rw [← e]; exact List.mem_map_of_mem (List.mem_range.mpr hj)))
  refine ⟨⟨hTr, ⟨hag _ kmo.1 (h71 _ (by simp)), List.mem_append_left _ (List.mem_of_getElem? (i := 15) rfl)⟩, ⟨⟨hag _ k1.1 (h71 _ (by simp)), List.mem_append_left _ (List.mem_of_getElem? (i := 0) rfl)⟩, ⟨hag _ k2.1 (h71 _ (by simp)), List.mem_append_left _ (List.mem_of_getElem? (i := 1) rfl)⟩, ⟨hag _ k3.1 (h71 _ (by simp)), List.mem_append_right _ (hin _ k3.2 (w0C_ot hn (by simp)))⟩, ⟨⟨hag _ k13.1 (h71 _ (by simp)), List.mem_append_right _ (hin _ k13.2 (w0C_ot hn (by simp)))⟩, b13⟩, ⟨⟨hag _ k5.1 (h71 _ (by simp)), List.mem_append_right _ (hin _ k5.2 (w0C_ot hn (by simp)))⟩, b5⟩, ⟨hag _ k16.1 (h71 _ (by simp)), List.mem_append_right _ (hin _ k16.2 (w0C_ot hn (by simp)))⟩, ⟨hag _ k17.1 (h71 _ (by simp)), List.mem_append_right _ (hin _ k17.2 (w0C_ot hn (by simp)))⟩, ⟨hnA _ List.mem_cons_self, List.mem_append_left _ (List.mem_of_getElem? (i := 16) rfl)⟩, fun j hj => ⟨hnA _ (List.mem_cons_of_mem _ (List.mem_map_of_mem (List.mem_range.mpr hj))), List.mem_append_left _ (List.mem_of_mem_drop (hrow2 j hj))⟩, hx0, hwx, hu⟩, ⟨hn.1, hnn, fun b hb h => ?_⟩⟩, hsA⟩
  have hq : ∀ q : Nat × va_E, q ∈ R9 → b ≠ q.1 := hnR b hb
  have ho := hno b hb
  rcases List.mem_cons.mp h with e | h
  · exact ho _ (List.mem_append_left _ (List.mem_cons_self)) e
  rcases List.mem_cons.mp h with e | h
  · exact ho _ (List.mem_append_left _ (List.mem_cons_of_mem _ List.mem_cons_self)) e
  rcases List.mem_cons.mp h with e | h
  · exact ho _ (List.mem_append_left _ (List.mem_cons_of_mem _ (List.mem_cons_of_mem _ List.mem_cons_self))) e
  rcases List.mem_cons.mp h with e | h
  · exact hq _ (hin _ k3.2 (w0C_ot hn (by simp))) e
  rcases List.mem_cons.mp h with e | h
  · exact hq _ (hin _ k13.2 (w0C_ot hn (by simp))) e
  rcases List.mem_cons.mp h with e | h
  · exact hq _ (hin _ k5.2 (w0C_ot hn (by simp))) e
  rcases List.mem_cons.mp h with e | h
  · exact hq _ (hin _ k16.2 (w0C_ot hn (by simp))) e
  have e := List.mem_singleton.mp h
  exact hq _ (hin _ k17.2 (w0C_ot hn (by simp))) e
theorem w0L_in {γ : cG} {gT : ClassId} {κ : kE} {Ad : List Nat} {τ : Nat → TD} {a : Nat → Nat} {sp mo : Nat} {x : TD} {fS fV : Nat → Option Nat} {fm fr fw ff : Nat → Int32} {fu wx : Nat → Nat} {G R9 : va_W} {c : va_E} (hTy : TR γ κ Ad τ G) (kmo : Xc Ad mo c G) (kb : RB γ gT Ad a sp x fS fV fm fr fw ff fu wx G) (hn : RN mo a sp x) (hp : G.Perm (w0L γ gT a fu fV sp x mo c ++ R9)) {q : Nat × va_E} (hq : q ∈ G) (h : q.1 ∉ [mo, a 1, a 3] ++ (sp :: (List.range 12).map x.A)) : q ∈ R9 := by
  rcases List.mem_append.mp (hp.subset hq) with e | e
  · exact absurd (show q.1 ∈ [mo, a 1, a 3] ++ (sp :: (List.range 12).map x.A) from List.mem_map_of_mem (f := Prod.fst) e) h
  · exact e
theorem w0L_Ad {γ : cG} {gT : ClassId} {κ : kE} {Ad : List Nat} {τ : Nat → TD} {a : Nat → Nat} {sp mo : Nat} {x : TD} {fS fV : Nat → Option Nat} {fm fr fw ff : Nat → Int32} {fu wx : Nat → Nat} {G R9 : va_W} {c : va_E} (hTy : TR γ κ Ad τ G) (kmo : Xc Ad mo c G) (kb : RB γ gT Ad a sp x fS fV fm fr fw ff fu wx G) (hn : RN mo a sp x) (hp : G.Perm (w0L γ gT a fu fV sp x mo c ++ R9)) {b : Nat} (hb : b ∈ Ad) : b ∉ [mo, a 1, a 3] ++ (sp :: (List.range 12).map x.A) := fun hm => by
  obtain ⟨k1, k2, k3, ⟨k13, b13⟩, ⟨k5, b5⟩, k16, k17, ks, kA, hd, hw, hu⟩ := kb
  rcases List.mem_append.mp hm with e | e
  · rcases List.mem_cons.mp e with e | e
    · exact kmo.1 (e ▸ hb)
    · rcases List.mem_cons.mp e with e | e
      · exact k1.1 (e ▸ hb)
      · exact k3.1 ((List.mem_singleton.mp e) ▸ hb)
  · rcases List.mem_cons.mp e with e | e
    · exact ks.1 (e ▸ hb)
    · obtain ⟨j, hj, e⟩ := List.mem_map.mp e
      exact (kA j (List.mem_range.mp hj)).1 (by rw [e]; exact hb)
theorem w0L_ot {a : Nat → Nat} {sp mo : Nat} {x : TD} (hn : RN mo a sp x) {b : Nat} (hb : b = a 2 ∨ b = a 13 ∨ b = a 5 ∨ b = a 16 ∨ b = a 17) : b ∉ [mo, a 1, a 3] ++ (sp :: (List.range 12).map x.A) := fun hm => by
  have e7 := rn7 hn.1
  rcases List.mem_append.mp hm with e | e
  · rcases hb with rfl | rfl | rfl | rfl | rfl
    · exact (no3 e7.1.2.1 e7.2.1.1 (Ne.symm (e7.2.2.1.1))) e
    · exact (no3 e7.1.2.2.2.1 e7.2.1.2.2.1 e7.2.2.2.1.1) e
    · exact (no3 e7.1.2.2.2.2.1 e7.2.1.2.2.2.1 e7.2.2.2.1.2.1) e
    · exact (no3 e7.1.2.2.2.2.2.1 e7.2.1.2.2.2.2.1 e7.2.2.2.1.2.2.1) e
    · exact (no3 e7.1.2.2.2.2.2.2 e7.2.1.2.2.2.2.2 e7.2.2.2.1.2.2.2) e
  · refine hn.2.2 b e ?_
    rcases hb with rfl | rfl | rfl | rfl | rfl <;> simp
theorem RBFL {γ : cG} {gT : ClassId} {κ : kE} {Ad : List Nat} {τ : Nat → TD} {a : Nat → Nat} {sp mo : Nat} {x x' : TD} {fS fV : Nat → Option Nat} {fm fr fw ff : Nat → Int32} {fu wx wx' : Nat → Nat} {G R9 : va_W} {c c' : va_E} {A' : Nat → Prop} (hTy : TR γ κ Ad τ G) (kmo : Xc Ad mo c G) (kb : RB γ gT Ad a sp x fS fV fm fr fw ff fu wx G) (hn : RN mo a sp x) (hp : G.Perm (w0L γ gT a fu fV sp x mo c ++ R9)) (hA : ∀ j, j < 12 → x'.A j = x.A j) (hx0 : x'.D 0 = tI wx' ∧ x'.I 42 = 0) (hwx : ∀ j, wx' j < 256) (hD' : va_D A' (wFL γ gT a fu fV sp x' mo c' ++ R9)) : TR γ κ Ad τ (wFL γ gT a fu fV sp x' mo c' ++ R9) ∧ Xc Ad mo c' (wFL γ gT a fu fV sp x' mo c' ++ R9) ∧ RB γ gT Ad a sp x' fS fV fm fr fw ff fu wx' (wFL γ gT a fu fV sp x' mo c' ++ R9) ∧ RN mo a sp x' := by
  have hin : ∀ q : Nat × va_E, q ∈ G → q.1 ∉ [mo, a 1, a 3] ++ (sp :: (List.range 12).map x.A) → q ∈ wFL γ gT a fu fV sp x' mo c' ++ R9 := fun q hq h => List.mem_append_right _ (w0L_in hTy kmo kb hn hp hq h)
  have hTy' := TR.keep hTy hD' (fun q ha hq => hin q hq (w0L_Ad hTy kmo kb hn hp ha))
  obtain ⟨k1, k2, k3, ⟨k13, b13⟩, ⟨k5, b5⟩, k16, k17, ks, kA, hd, hw, hu⟩ := kb
  have hA2 : (List.range 12).map x'.A = (List.range 12).map x.A := List.map_congr_left (fun j hj => hA j (List.mem_range.mp hj))
  refine ⟨hTy', ⟨kmo.1, List.mem_append_left _ (List.mem_of_getElem? (i := 15) rfl)⟩, ⟨⟨k1.1, List.mem_append_left _ (List.mem_of_getElem? (i := 0) rfl)⟩, ⟨k2.1, hin _ k2.2 (w0L_ot hn (by simp))⟩, ⟨k3.1, List.mem_append_left _ (List.mem_of_getElem? (i := 1) rfl)⟩, ⟨⟨k13.1, hin _ k13.2 (w0L_ot hn (by simp))⟩, b13⟩, ⟨⟨k5.1, hin _ k5.2 (w0L_ot hn (by simp))⟩, b5⟩, ⟨k16.1, hin _ k16.2 (w0L_ot hn (by simp))⟩, ⟨k17.1, hin _ k17.2 (w0L_ot hn (by simp))⟩, ⟨ks.1, List.mem_append_left _ (List.mem_of_getElem? (i := 2) rfl)⟩, fun j hj => ⟨by rw [hA j hj]; exact (kA j hj).1, List.mem_append_left _ ?_⟩, hx0, hwx, hu⟩, ⟨hn.1, by rw [hA2]; exact hn.2.1, by rw [hA2]; exact hn.2.2⟩⟩
  rcases lt12 hj with rfl | rfl | rfl | rfl | rfl | rfl | rfl | rfl | rfl | rfl | rfl | rfl
  · exact List.mem_of_getElem? (i := 3) rfl
  · exact List.mem_of_getElem? (i := 6) rfl
  · exact List.mem_of_getElem? (i := 7) rfl
  · exact List.mem_of_getElem? (i := 8) rfl
  · exact List.mem_of_getElem? (i := 9) rfl
  · exact List.mem_of_getElem? (i := 10) rfl
  · exact List.mem_of_getElem? (i := 11) rfl
  · exact List.mem_of_getElem? (i := 12) rfl
  · exact List.mem_of_getElem? (i := 13) rfl
  · exact List.mem_of_getElem? (i := 14) rfl
  · exact List.mem_of_getElem? (i := 4) rfl
  · exact List.mem_of_getElem? (i := 5) rfl
theorem RBTL {γ : cG} {gT : ClassId} {κ : kE} {Ad : List Nat} {τ : Nat → TD} {a : Nat → Nat} {sp mo : Nat} {x xm xn : TD} {s1 : Nat} {fS fV fV' : Nat → Option Nat} {fm fr fw ff : Nat → Int32} {fu wx wx' : Nat → Nat} {G R9 : va_W} {c c' : va_E} {A' : Nat → Prop} (hTy : TR γ κ Ad τ G) (kmo : Xc Ad mo c G) (kb : RB γ gT Ad a sp x fS fV fm fr fw ff fu wx G) (hn : RN mo a sp x) (hp : G.Perm (w0L γ gT a fu fV sp x mo c ++ R9)) (hA : ∀ j, j < 12 → xm.A j = x.A j) (hx0 : xn.D 0 = tI wx' ∧ xn.I 42 = 0) (hwx : ∀ j, wx' j < 256) (hD' : va_D A' (wTL γ gT a fu fV' sp xm mo c' s1 xn ++ R9)) : (TR γ (kG κ sp xm) (aG Ad sp xm) (tG τ sp xm) (wTL γ gT a fu fV' sp xm mo c' s1 xn ++ R9) ∧ Xc (aG Ad sp xm) mo c' (wTL γ gT a fu fV' sp xm mo c' s1 xn ++ R9) ∧ RB γ gT (aG Ad sp xm) a s1 xn fS fV' fm fr fw ff fu wx' (wTL γ gT a fu fV' sp xm mo c' s1 xn ++ R9) ∧ RN mo a s1 xn) ∧ (sp ∉ Ad ∧ ∀ j, j < 12 → xm.A j ∉ Ad) := by
  have hin : ∀ q : Nat × va_E, q ∈ G → q.1 ∉ [mo, a 1, a 3] ++ (sp :: (List.range 12).map x.A) → q ∈ R9 := fun q hq h => w0L_in hTy kmo kb hn hp hq h
  have hAd : ∀ b, b ∈ Ad → ∃ e, (b, e) ∈ R9 := fun b hb => by
    obtain ⟨e, he⟩ := hTy.1 b hb
    exact ⟨e, hin _ he (w0L_Ad hTy kmo kb hn hp hb)⟩
  have hTy' : TR γ κ Ad τ (wTL γ gT a fu fV' sp xm mo c' s1 xn ++ R9) := TR.keep hTy hD' (fun q ha hq => List.mem_append_right _ (hin q hq (w0L_Ad hTy kmo kb hn hp ha)))
  obtain ⟨k1, k2, k3, ⟨k13, b13⟩, ⟨k5, b5⟩, k16, k17, ks, kA, hd, hw, hu⟩ := kb
  have hnd := nd_l hD'
  have hA2 : (List.range 12).map xm.A = (List.range 12).map x.A := List.map_congr_left (fun j hj => hA j (List.mem_range.mp hj))
  have hN2 : (sp :: (List.range 12).map xm.A).Nodup := by rw [hA2]; exact hn.2.1
  have hrow : ∀ j, j < 12 → (xm.A j, (.inl (γ.2.1, tlen j, .inl (xm.D j)) : va_E)) ∈ wTL γ gT a fu fV' sp xm mo c' s1 xn := fun j hj => by
    rcases lt12 hj with rfl | rfl | rfl | rfl | rfl | rfl | rfl | rfl | rfl | rfl | rfl | rfl
    · exact List.mem_of_getElem? (i := 3) rfl
    · exact List.mem_of_getElem? (i := 6) rfl
    · exact List.mem_of_getElem? (i := 7) rfl
    · exact List.mem_of_getElem? (i := 8) rfl
    · exact List.mem_of_getElem? (i := 9) rfl
    · exact List.mem_of_getElem? (i := 10) rfl
    · exact List.mem_of_getElem? (i := 11) rfl
    · exact List.mem_of_getElem? (i := 12) rfl
    · exact List.mem_of_getElem? (i := 13) rfl
    · exact List.mem_of_getElem? (i := 14) rfl
    · exact List.mem_of_getElem? (i := 4) rfl
    · exact List.mem_of_getElem? (i := 5) rfl
  have hrow2 : ∀ j, j < 12 → (xn.A j, (.inl (γ.2.1, tlen j, .inl (xn.D j)) : va_E)) ∈ (wTL γ gT a fu fV' sp xm mo c' s1 xn).drop 16 := fun j hj => by
    rcases lt12 hj with rfl | rfl | rfl | rfl | rfl | rfl | rfl | rfl | rfl | rfl | rfl | rfl
    · exact List.mem_of_getElem? (i := 1) rfl
    · exact List.mem_of_getElem? (i := 2) rfl
    · exact List.mem_of_getElem? (i := 3) rfl
    · exact List.mem_of_getElem? (i := 4) rfl
    · exact List.mem_of_getElem? (i := 5) rfl
    · exact List.mem_of_getElem? (i := 6) rfl
    · exact List.mem_of_getElem? (i := 7) rfl
    · exact List.mem_of_getElem? (i := 8) rfl
    · exact List.mem_of_getElem? (i := 9) rfl
    · exact List.mem_of_getElem? (i := 10) rfl
    · exact List.mem_of_getElem? (i := 11) rfl
    · exact List.mem_of_getElem? (i := 12) rfl
  have hnn : (s1 :: (List.range 12).map xn.A).Nodup := List.Nodup.sublist (List.drop_sublist 16 ((wTL γ gT a fu fV' sp xm mo c' s1 xn).map Prod.fst)) hnd
  have hnew : ∀ b, b ∈ (s1 :: (List.range 12).map xn.A) → b ∈ ((wTL γ gT a fu fV' sp xm mo c' s1 xn).map Prod.fst).drop 16 := fun b hb => hb
  have hold : ∀ b, b ∈ [mo, a 1, a 3] ++ (sp :: (List.range 12).map xm.A) → b ∈ ((wTL γ gT a fu fV' sp xm mo c' s1 xn).map Prod.fst).take 16 := fun b hb => by
    rcases List.mem_append.mp hb with e | e
    · rcases List.mem_cons.mp e with e | e
      · rw [e]; exact List.mem_of_getElem? (i := 15) rfl
      · rcases List.mem_cons.mp e with e | e
        · rw [e]; exact List.mem_of_getElem? (i := 0) rfl
        · rw [List.mem_singleton.mp e]; exact List.mem_of_getElem? (i := 1) rfl
    · rcases List.mem_cons.mp e with e | e
      · rw [e]; exact List.mem_of_getElem? (i := 2) rfl
      · obtain ⟨j, hj, e⟩ := List.mem_map.mp e
        rw [← e]
        rcases lt12 (List.mem_range.mp hj) with rfl | rfl | rfl | rfl | rfl | rfl | rfl | rfl | rfl | rfl | rfl | rfl
        · exact List.mem_of_getElem? (i := 3) rfl
        · exact List.mem_of_getElem? (i := 6) rfl
        · exact List.mem_of_getElem? (i := 7) rfl
        · exact List.mem_of_getElem? (i := 8) rfl
        · exact List.mem_of_getElem? (i := 9) rfl
        · exact List.mem_of_getElem? (i := 10) rfl
        · exact List.mem_of_getElem? (i := 11) rfl
        · exact List.mem_of_getElem? (i := 12) rfl
        · exact List.mem_of_getElem? (i := 13) rfl
        · exact List.mem_of_getElem? (i := 14) rfl
        · exact List.mem_of_getElem? (i := 4) rfl
        · exact List.mem_of_getElem? (i := 5) rfl
  have hnR : ∀ b, b ∈ (s1 :: (List.range 12).map xn.A) → ∀ q, q ∈ R9 → b ≠ q.1 := fun b hb q hq => by
    obtain ⟨p, hp9, e⟩ := List.mem_map.mp (List.mem_of_mem_drop (hnew b hb))
    rw [← e]
    exact dis_l hD' hp9 hq
  have hno : ∀ b, b ∈ (s1 :: (List.range 12).map xn.A) → ∀ d, d ∈ [mo, a 1, a 3] ++ (sp :: (List.range 12).map xm.A) → b ≠ d := fun b hb d hd9 => nd_td hnd 16 (hnew b hb) (hold d hd9)
  have hag : ∀ b, b ∉ Ad → b ∉ (sp :: (List.range 12).map xm.A) → b ∉ aG Ad sp xm := fun b h1 h2 hm => by
    rcases List.mem_cons.mp hm with e | e
    · exact h2 (e ▸ List.mem_cons_self)
    · rcases List.mem_append.mp e with e | e
      · exact h2 (List.mem_cons_of_mem _ e)
      · exact h1 e
  have hnA : ∀ b, b ∈ (s1 :: (List.range 12).map xn.A) → b ∉ aG Ad sp xm := fun b hb => hag b (fun h => by
    obtain ⟨e, he⟩ := hAd b h
    exact hnR b hb _ he rfl) (fun h => hno b hb b (List.mem_append_right _ h) rfl)
  have h71 : ∀ b, b ∈ [mo, a 1, a 2, a 3, a 13, a 5, a 16, a 17] → b ∉ (sp :: (List.range 12).map xm.A) := fun b hb hm => by
    rw [hA2] at hm
    exact hn.2.2 b hm hb
  have hsA : sp ∉ Ad ∧ ∀ j, j < 12 → xm.A j ∉ Ad := ⟨ks.1, fun j hj => by rw [hA j hj]; exact (kA j hj).1⟩
  have hnd2 := List.nodup_cons.mp hN2
  have hinj : ∀ i j, i < 12 → j < 12 → xm.A i = xm.A j → i = j := fun i j hi hj e => by
    have h9 := List.nodup_iff_pairwise_ne.mp hnd2.2
    rw [List.pairwise_map, List.pairwise_iff_getElem] at h9
    rcases Nat.lt_trichotomy i j with h | h | h
    · exact absurd (by rw [List.getElem_range, List.getElem_range]; exact e) (h9 i j (by rw [List.length_range]; exact hi) (by rw [List.length_range]; exact hj) h)
    · exact h
    · exact absurd (by rw [List.getElem_range, List.getElem_range]; exact e.symm) (h9 j i (by rw [List.length_range]; exact hj) (by rw [List.length_range]; exact hi) h)
  have hTr := TR.gr hTy' hD' (List.mem_append_left _ (List.mem_of_getElem? (i := 2) rfl)) (fun j hj => List.mem_append_left _ (hrow j hj)) hsA.1 hsA.2 hinj (fun j hj e => hnd2.1 (by rw [← e]; exact List.mem_map_of_mem (List.mem_range.mpr hj)))
  refine ⟨⟨hTr, ⟨hag _ kmo.1 (h71 _ (by simp)), List.mem_append_left _ (List.mem_of_getElem? (i := 15) rfl)⟩, ⟨⟨hag _ k1.1 (h71 _ (by simp)), List.mem_append_left _ (List.mem_of_getElem? (i := 0) rfl)⟩, ⟨hag _ k2.1 (h71 _ (by simp)), List.mem_append_right _ (hin _ k2.2 (w0L_ot hn (by simp)))⟩, ⟨hag _ k3.1 (h71 _ (by simp)), List.mem_append_left _ (List.mem_of_getElem? (i := 1) rfl)⟩, ⟨⟨hag _ k13.1 (h71 _ (by simp)), List.mem_append_right _ (hin _ k13.2 (w0L_ot hn (by simp)))⟩, b13⟩, ⟨⟨hag _ k5.1 (h71 _ (by simp)), List.mem_append_right _ (hin _ k5.2 (w0L_ot hn (by simp)))⟩, b5⟩, ⟨hag _ k16.1 (h71 _ (by simp)), List.mem_append_right _ (hin _ k16.2 (w0L_ot hn (by simp)))⟩, ⟨hag _ k17.1 (h71 _ (by simp)), List.mem_append_right _ (hin _ k17.2 (w0L_ot hn (by simp)))⟩, ⟨hnA _ List.mem_cons_self, List.mem_append_left _ (List.mem_of_getElem? (i := 16) rfl)⟩, fun j hj => ⟨hnA _ (List.mem_cons_of_mem _ (List.mem_map_of_mem (List.mem_range.mpr hj))), List.mem_append_left _ (List.mem_of_mem_drop (hrow2 j hj))⟩, hx0, hwx, hu⟩, ⟨hn.1, hnn, fun b hb h => ?_⟩⟩, hsA⟩
  have hq : ∀ q : Nat × va_E, q ∈ R9 → b ≠ q.1 := hnR b hb
  have ho := hno b hb
  rcases List.mem_cons.mp h with e | h
  · exact ho _ (List.mem_append_left _ (List.mem_cons_self)) e
  rcases List.mem_cons.mp h with e | h
  · exact ho _ (List.mem_append_left _ (List.mem_cons_of_mem _ List.mem_cons_self)) e
  rcases List.mem_cons.mp h with e | h
  · exact hq _ (hin _ k2.2 (w0L_ot hn (by simp))) e
  rcases List.mem_cons.mp h with e | h
  · exact ho _ (List.mem_append_left _ (List.mem_cons_of_mem _ (List.mem_cons_of_mem _ List.mem_cons_self))) e
  rcases List.mem_cons.mp h with e | h
  · exact hq _ (hin _ k13.2 (w0L_ot hn (by simp))) e
  rcases List.mem_cons.mp h with e | h
  · exact hq _ (hin _ k5.2 (w0L_ot hn (by simp))) e
  rcases List.mem_cons.mp h with e | h
  · exact hq _ (hin _ k16.2 (w0L_ot hn (by simp))) e
  have e := List.mem_singleton.mp h
  exact hq _ (hin _ k17.2 (w0L_ot hn (by simp))) e
