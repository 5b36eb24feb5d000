/-! TrustChain's whole state: kinds that grow; frames that leave its own object and Search's path out. -/
section KUP
variable {γ : cG} {sb : sB} {κ κ' : kE} {Ad Ad' : List Nat} {ν ν' : Nat → cN} {ω ω' : Nat → List Nat} {L : Nat} {G : va_W} {a : Nat} {e : va_E}
theorem tK.up {k : Nat × Nat × Nat} (hk : ∀ b, b ∈ Ad → κ' b = κ b) (hA : ∀ b, b ∈ Ad → b ∈ Ad') (h : tK κ Ad a k) : tK κ' Ad' a k := ⟨hA _ h.1, by rw [hk _ h.1]; exact h.2⟩
theorem tOK.mono (h : tOK γ κ Ad ν ω L a e) (hk : ∀ b, b ∈ Ad → κ' b = κ b) (hA : ∀ b, b ∈ Ad → b ∈ Ad') (ha : a ∈ Ad) (hn : ν' a = ν a) (hw : ω' a = ω a) (hl : (κ a).1 = 14 ∨ (κ a).1 = 16 → ω' (κ a).2.2 = ω (κ a).2.2) (h8 : (κ a).1 = 8 → (ω' ((ω a).getD 12 0)).getD 1 0 = (ω ((ω a).getD 12 0)).getD 1 0) : tOK γ κ' Ad' ν' ω' L a e := by
  have U : ∀ {b : Nat} {k : Nat × Nat × Nat}, tK κ Ad b k → tK κ' Ad' b k := fun h => h.up hk hA
  unfold tOK at h ⊢
  rw [hk a ha, hn, hw]
  revert h hl h8
  generalize κ a = k
  obtain ⟨c, p, q⟩ := k
  intro h hl g8
  dsimp only at hl g8
  match c, h with
  | 0, _ => exact True.intro
  | 1, h => exact h
  | 2, h =>
    obtain ⟨t, n, f, gt, h1, h2⟩ := h
    exact ⟨t, n, f, gt, U h1, h2⟩
  | 3, h =>
    obtain ⟨h1, h2, f, h3, h4⟩ := h
    exact ⟨h1, h2, f, fun i hi => (h3 i hi).elim (fun s h => h.elim (fun len h => ⟨s, len, h.1, U h.2.1, h.2.2⟩)), h4⟩
  | 4, h =>
    obtain ⟨h1, q, m, h2, h3⟩ := h
    exact ⟨h1, q, m, fun z => (h2 z).elim (fun cap h => ⟨cap, U h⟩), h3⟩
  | 5, h =>
    obtain ⟨l1, l2, h1, h2, h3⟩ := h
    exact ⟨l1, l2, U h1, U h2, h3⟩
  | 6, h => exact h
  | 7, h => exact h
  | 8, h =>
    obtain ⟨nm, pe, ec, se, su, mo, ok, ik, ha, si, en, bo, sg, is, iu, ⟨⟨a1, h1⟩, ⟨a2, a3, h2⟩, ⟨a4, a5, h3⟩, h4, ⟨a6, h5⟩, ⟨a7, h6⟩, ⟨a8, h7⟩, ⟨a9, h8⟩, h9, h10, h11, ⟨a10, h12⟩, ⟨a11, h13⟩, ⟨a12, h14⟩⟩, hB, he⟩ := h
    exact ⟨nm, pe, ec, se, su, mo, ok, ik, ha, si, en, bo, sg, is, iu, ⟨⟨a1, U h1⟩, ⟨a2, a3, U h2⟩, ⟨a4, a5, U h3⟩, U h4, ⟨a6, U h5⟩, ⟨a7, U h6⟩, ⟨a8, U h7⟩, ⟨a9, U h8⟩, U h9, U h10, U h11, ⟨a10, U h12⟩, ⟨a11, U h13⟩, ⟨a12, U h14⟩⟩, ⟨hB.1, hB.2.1, hB.2.2.1, hB.2.2.2.1, hB.2.2.2.2.trans (by
      have h9 := g8 rfl
      rw [hB.2.2.2.1] at h9
      rw [show (ω' en).getD 1 0 = (ω en).getD 1 0 from h9])⟩, he⟩
  | 9, h =>
    obtain ⟨ha, si, en, bo, sg, is, ⟨h1, h2, h3, ⟨z1, h4⟩, ⟨z2, h5⟩, ⟨z3, h6⟩, h7⟩, he⟩ := h
    exact ⟨ha, si, en, bo, sg, is, ⟨U h1, U h2, U h3, ⟨z1, U h4⟩, ⟨z2, U h5⟩, ⟨z3, U h6⟩, h7⟩, he⟩
  | 10, h =>
    obtain ⟨mo, sq, ba, po, un, su, iv, ⟨h1, h2, h3, h4, h5, h6⟩, h7⟩ := h
    exact ⟨mo, sq, ba, po, un, su, iv, ⟨U h1, U h2, U h3, U h4, U h5, U h6⟩, h7⟩
  | 11, h =>
    obtain ⟨sc, h1, h2⟩ := h
    exact ⟨sc, U h1, h2⟩
  | 12, h => exact h
  | 13, h =>
    obtain ⟨nx, h1, h2⟩ := h
    exact ⟨nx, ⟨U h1.1, h1.2⟩, h2⟩
  | 14, h =>
    obtain ⟨h1, h2, f, h3, h4⟩ := h
    have hl := hl (by simp)
    refine ⟨by rw [hl]; exact h1, h2, f, fun i hi => ?_, h4⟩
    rw [hl] at hi ⊢
    obtain ⟨h5, p, q, h6⟩ := h3 i hi
    exact ⟨h5, p, q, U h6⟩
  | 15, h =>
    obtain ⟨h1, q, m, h2, h3, h4⟩ := h
    exact ⟨h1, q, m, h2, fun z => (h3 z).elim (fun cap h => ⟨cap, U h⟩), h4⟩
  | 16, h =>
    obtain ⟨h1, h2, f, h3, h4⟩ := h
    have hl := hl (by simp)
    refine ⟨by rw [hl]; exact h1, h2, f, fun i hi => ?_, h4⟩
    rw [hl] at hi ⊢
    obtain ⟨h5, p, h6⟩ := h3 i hi
    exact ⟨h5, p, U h6⟩
  | 17, h =>
    obtain ⟨h1, q, m, h2, h3, h4⟩ := h
    exact ⟨h1, q, m, h2, fun z => (h3 z).elim (fun cap h => ⟨cap, U h⟩), h4⟩
  | _ + 18, _ => exact True.intro
/-- new cells, new kinds -/
theorem TY.grow {N : va_W} (h : TY γ κ Ad ν ω L G) (hk : ∀ b, b ∈ Ad → κ' b = κ b) (hA : ∀ b, b ∈ Ad → b ∈ Ad') (hn : ∀ b, b ∈ Ad → ν' b = ν b) (hw : ∀ b, b ∈ Ad → ω' b = ω b ∧ ((κ b).1 = 14 ∨ (κ b).1 = 16 → ω' (κ b).2.2 = ω (κ b).2.2) ∧ ((κ b).1 = 8 → (ω' ((ω b).getD 12 0)).getD 1 0 = (ω ((ω b).getD 12 0)).getD 1 0))
    (h1 : ∀ b, b ∈ Ad' → b ∉ Ad → ∃ c, (b, c) ∈ N) (h2 : ∀ q, q ∈ N → q.1 ∈ Ad' → tOK γ κ' Ad' ν' ω' L q.1 q.2) (h3 : ∀ q : Nat × va_E, q ∈ G → q.1 ∈ Ad' → q.1 ∈ Ad) : TY γ κ' Ad' ν' ω' L (N ++ G) := by
  refine ⟨fun b hb => ?_, fun q hq hqa => ?_⟩
  · by_cases hb9 : b ∈ Ad
    · obtain ⟨c, hc⟩ := h.1 b hb9
      exact ⟨c, List.mem_append_right _ hc⟩
    · obtain ⟨c, hc⟩ := h1 b hb hb9
      exact ⟨c, List.mem_append_left _ hc⟩
  · rcases List.mem_append.mp hq with g | g
    · exact h2 q g hqa
    · have ha := h3 q g hqa
      exact (h.2 q g ha).mono hk hA ha (hn _ ha) (hw _ ha).1 (hw _ ha).2.1 (hw _ ha).2.2
end KUP
/-- what has no kind stays, but for one object, one list and arrays of references -/
def FRq (γ : cG) (Ad : List Nat) (x l : Nat) (G G' : va_W) : Prop := ∀ q : Nat × va_E, q.1 ∉ Ad → q.1 ≠ x → q.1 ≠ l → (∀ z f, q.2 ≠ .inl (γ.2.2.2, z, .inr (.inr (.inr (.inr f))))) → q ∈ G → q ∈ G'
theorem FRq.rf (γ : cG) (Ad : List Nat) (x l : Nat) (G : va_W) : FRq γ Ad x l G G := fun _ _ _ _ _ h => h
theorem FRq.tr {γ : cG} {Ad : List Nat} {x l : Nat} {G1 G2 G3 : va_W} (h : FRq γ Ad x l G1 G2) (g : FRq γ Ad x l G2 G3) : FRq γ Ad x l G1 G3 := fun q a b c d z => g q a b c d (h q a b c d z)
theorem FR.q {γ : cG} {Ad : List Nat} {x l : Nat} {G G' : va_W} (h : FR Ad G G') : FRq γ Ad x l G G' := fun q a _ _ _ z => h q a z
theorem FRs.q {γ : cG} {Ad : List Nat} {x l : Nat} {G G' : va_W} (h : FRs γ Ad l G G') : FRq γ Ad x l G G' := fun q a _ b c z => h q a b c z
theorem FX.q {γ : cG} {Ad : List Nat} {x l : Nat} {G G' : va_W} (h : FX Ad x G G') : FRq γ Ad x l G G' := fun q a b _ _ z => h q a b z
/-- the class' state: its world, Rsa's limbs, the path's array and entries, TrustChain's own numbers -/
abbrev cU : Type := va_W × Nat × alD × List Nat × Int32 × Int32 × Int32 × Int32 × Int32
/-- one array of a kind, and whose it is -/
def KN (κ : kE) (Ad : List Nat) (ω : Nat → List Nat) (c l : Nat) : Prop := ∀ a, a ∈ Ad → (κ a).1 = c → (κ a).2.2 = l ∧ 0 < (ω l).length ∧ ∀ b, b ∈ Ad → (κ b).1 = c → a = b
/-- what the kinds are -/
def CKx (sb : sB) (κ : kE) (Ad : List Nat) (ω : Nat → List Nat) (ho ce li sh rs se ch fo q0 pl : Nat) : Prop := (tK κ Ad ho (1, 32, 0) ∧ tK κ Ad ce (15, sb.2 5, 0) ∧ tK κ Ad li (17, sb.2 5, 0) ∧ tK κ Ad sh (11, 0, 0) ∧ tK κ Ad rs (10, 0, 0) ∧ tK κ Ad se (13, pl, 0) ∧ tK κ Ad ch (12, 0, 0) ∧ tK κ Ad fo (6, 16, 0)) ∧ (∀ a, a ∈ Ad → (κ a).1 = 10 → a = rs) ∧ (ω ce).length ≤ 16 ∧ (ω li).length ≤ 8 ∧ q0 ≠ pl ∧ KN κ Ad ω 14 ce ∧ KN κ Ad ω 16 li
/-- what the world is -/
def CWx (γ : cG) (sb : sB) (κ : kE) (Ad : List Nat) (ν : Nat → cN) (ω : Nat → List Nat) (fe ho ce li sh rs se ch fo q0 pl : Nat) (u : cU) : Prop := TY γ κ Ad ν ω u.2.1 u.1 ∧ u.2.1 ≤ 64 ∧ Xc Ad q0 (.inr (10, [.ref fe, .ref ho, .ref ce, .ref li, .ref sh, .ref rs, .ref se, .ref ch, .ref fo, .int u.2.2.2.2.1, .int u.2.2.2.2.2.1, .int u.2.2.2.2.2.2.1, .int u.2.2.2.2.2.2.2.1, .int u.2.2.2.2.2.2.2.2])) u.1 ∧ PLx γ sb κ Ad 8 pl u.2.2.1 u.2.2.2.1 u.1 ∧ u.2.2.2.1.length ≤ 16
theorem fC_le (o : alD) : fC o ≤ 3 ∧ fS o ≤ 47 := by
  unfold fC fS
  refine ⟨?_, ?_⟩ <;> (split; omega; split; omega; split <;> omega)
/-! new objects: first without a kind -/
section NEWX
variable {γ : cG} {sb : sB} {κ : kE} {Ad : List Nat} {ν : Nat → cN} {ω : Nat → List Nat} {L : Nat} {G : va_W} {a l : Nat} {c c' : va_E} {o : alD} {as : List Nat} {A : Nat → Prop}
theorem TY.consX (h : TY γ κ Ad ν ω L G) (ha : a ∉ Ad) : TY γ κ Ad ν ω L ([(a, c)] ++ G) := ⟨fun b hb => (h.1 b hb).elim (fun d hd => ⟨d, List.mem_append_right _ hd⟩), fun q hq hqa => by
  rcases List.mem_append.mp hq with g | g
  · exact absurd hqa (by rw [List.mem_singleton.mp g]; exact ha)
  · exact h.2 q g hqa⟩
theorem nin_new (hD : va_D A ([(a, c)] ++ G)) (h : TY γ κ Ad ν ω L G) : a ∉ Ad := fun ha => by
  obtain ⟨d, hd⟩ := h.1 a ha
  obtain ⟨j, hj⟩ := List.getElem?_of_mem hd
  have := hD.1 0 (j + 1) _ _ (show _ = some _ from rfl) (show _ = some (a, d) from hj) rfl
  omega
theorem PLx.consX (h : PLx γ sb κ Ad 8 l o as G) : PLx γ sb κ Ad 8 l o as ([(a, c)] ++ G) := by
  obtain ⟨h1, ⟨m, h2⟩, h3, h4⟩ := h
  exact ⟨h1, ⟨m, List.mem_append_right _ h2⟩, fun q hq => ⟨List.mem_append_right _ (h3 q hq).1, (h3 q hq).2⟩, h4⟩
theorem Xc.consX {b : Nat} {e : va_E} (h : Xc Ad b e G) : Xc Ad b e ([(a, c)] ++ G) := ⟨h.1, List.mem_append_right _ h.2⟩
theorem FRq.consX {x : Nat} : FRq γ Ad x l G ([(a, c)] ++ G) := fun _ _ _ _ _ h => List.mem_append_right _ h
theorem er_perm : ∀ (G : va_W) (i : Nat) (x : Nat × va_E), G[i]? = some x → G.Perm (x :: G.eraseIdx i)
  | [], _, _, h => by cases h
  | y :: G, 0, x, h => by
    cases h
    exact List.Perm.refl _
  | y :: G, i + 1, x, h => ((er_perm G i x h).cons y).trans (List.Perm.swap x y _)
theorem er_set : ∀ (G : va_W) (i : Nat) (x : Nat × va_E), (G.set i x).eraseIdx i = G.eraseIdx i
  | [], _, _ => rfl
  | _ :: _, 0, _ => rfl
  | y :: G, i + 1, x => congrArg (y :: ·) (er_set G i x)
/-- a call that changes one cell -/
theorem va_joinX {D : va_G} {H H1 : Heap} {i : Nat} (hP : va_P D classes G H) (hD : va_D A G) (hg : G[i]? = some (a, c)) (hk : ∀ q : Nat, q < H.size → ¬ va_A [(a, c)] H.size q → H1[q]? = H[q]?) (hF : ∀ q, va_A [(a, c)] H.size q → A q) (hP1 : va_P D classes [(a, c')] H1) (hD1 : va_D (va_A [(a, c)] H.size) [(a, c')]) : va_P D classes (G.set i (a, c')) H1 ∧ va_D A (G.set i (a, c')) := by
  have p1 : G.Perm ([(a, c)] ++ G.eraseIdx i) := er_perm G i _ hg
  have p2 : ([(a, c')] ++ G.eraseIdx i).Perm (G.set i (a, c')) := by
    have := er_perm (G.set i (a, c')) i _ (set_here hg)
    rw [er_set] at this
    exact this.symm
  obtain ⟨hP2, hD2⟩ := va_joinF (wc := [(a, c)]) (hP.perm p1) (hD.perm p1) [0] rfl hk hF hP1 hD1
  exact ⟨hP2.perm p2, hD2.perm p2⟩
theorem Xc.setX {b i : Nat} {e : va_E} (h : Xc Ad b e G) (hg : G[i]? = some (a, c)) (hne : (b, e) ≠ (a, c)) : Xc Ad b e (G.set i (a, c')) := ⟨h.1, mem_setX hg h.2 hne⟩
/-- its kind -/
def kU (κ : kE) (a : Nat) (k : Nat × Nat × Nat) : kE := fun b => if b = a then k else κ b
theorem kU_in {k : Nat × Nat × Nat} (ha : a ∉ Ad) : ∀ b, b ∈ Ad → kU κ a k b = κ b := fun b hb => if_neg (fun e => ha (by rw [← e]; exact hb))
theorem kU_at {k : Nat × Nat × Nat} : kU κ a k a = k := if_pos rfl
theorem TY.new {i : Nat} {k : Nat × Nat × Nat} (h : TY γ κ Ad ν ω L G) (hD : va_D A G) (hg : G[i]? = some (a, c)) (ha : a ∉ Ad) (ho : tOK γ (kU κ a k) (a :: Ad) ν ω L a c) : TY γ (kU κ a k) (a :: Ad) ν ω L G := by
  refine ⟨fun b hb => ?_, fun q hq hqa => ?_⟩
  · rcases List.mem_cons.mp hb with e | e
    · rw [e]; exact ⟨c, List.mem_of_getElem? hg⟩
    · exact h.1 b e
  · rcases List.mem_cons.mp hqa with e | e
    · obtain ⟨j, hj⟩ := List.getElem?_of_mem hq
      have := hD.1 i j _ _ hg hj e.symm
      subst this
      rw [hg] at hj
      cases hj
      exact ho
    · exact (h.2 q hq e).mono (kU_in ha) (fun b hb => List.mem_cons_of_mem _ hb) e rfl rfl (fun _ => rfl) (fun _ => rfl)
end NEWX
