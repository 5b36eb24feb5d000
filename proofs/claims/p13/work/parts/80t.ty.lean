/-! Worlds whose cells fit their kinds: what a method keeps that is only to return. -/
/-- the kind of an address: a number, and two numbers more -/
abbrev kE : Type := Nat → Nat × Nat × Nat
def tK (κ : kE) (Ad : List Nat) (a : Nat) (k : Nat × Nat × Nat) : Prop := a ∈ Ad ∧ κ a = k
/-- what a certificate's numbers are: parts of the subject, bits, exponent, ca, path length, usage, extensions, self issued, trusted, first, last, matters, number -/
abbrev cN : Type := Int32 × Int32 × Int32 × Int32 × Int32 × Int32 × Int32 × Int32 × Int32 × Int64 × Int64 × Int32 × Int32
/-- the class ids of byte[], int[], long[], Object[] -/
abbrev cG : Type := ClassId × ClassId × ClassId × ClassId
def b01 (x : Int32) : Prop := x = 0 ∨ x = 1
/-- the eight words that an address' numbers hold (a hash) -/
def wN (n : cN) : Nat → Int32
  | 0 => n.1
  | 1 => n.2.1
  | 2 => n.2.2.1
  | 3 => n.2.2.2.1
  | 4 => n.2.2.2.2.1
  | 5 => n.2.2.2.2.2.1
  | 6 => n.2.2.2.2.2.2.1
  | 7 => n.2.2.2.2.2.2.2.1
  | _ + 8 => 0
def nW (f : Nat → Int32) : cN := (f 0, f 1, f 2, f 3, f 4, f 5, f 6, f 7, 0, 0, 0, 0, 0)
theorem wN_W (f : Nat → Int32) : ∀ j, j < 8 → f j = wN (nW f) j := fun j hj => by
  rcases (show j = 0 ∨ j = 1 ∨ j = 2 ∨ j = 3 ∨ j = 4 ∨ j = 5 ∨ j = 6 ∨ j = 7 by omega) with rfl | rfl | rfl | rfl | rfl | rfl | rfl | rfl <;> rfl
/-- a row of verdicts: 0 (not asked yet), or what the list says -/
def sgR (l : List Nat) (f : Nat → Int32) : Prop := ∀ j, j < 16 → f j = 0 ∨ (j < l.length ∧ f j = nI (l.getD j 0))
def tOK (γ : cG) (κ : kE) (Ad : List Nat) (ν : Nat → cN) (ω : Nat → List Nat) (L : Nat) (a : Nat) (e : va_E) : Prop := match κ a with
  | (1, n, g) => n < 2 ^ 18 ∧ ∃ u : Nat → Nat, (∀ j, u j < 256) ∧ (g = 1 → ∀ j, j < n → u j = (ω a).getD j 0) ∧ e = .inl (γ.1, n, .inl (tx u))
  | (2, len, g) => ∃ t n f gt : Nat, tK κ Ad t (1, n, gt) ∧ f + len ≤ n ∧ n < 2 ^ 18 ∧ (g = 1 → gt = 1 ∧ ω a = [t, f]) ∧ e = .inr (0, [.ref t, .int (nI f), .int (nI (f + len))])
  | (3, cap, K) => K ≤ cap ∧ cap < 2 ^ 30 ∧ ∃ f : Nat → Option Nat, (∀ i, i < K → ∃ s len, f i = some s ∧ tK κ Ad s (2, len, 1) ∧ s = (ω a).getD i 0) ∧ e = .inl (γ.2.2.2, cap, .inr (.inr (.inr (.inr f))))
  | (4, K, _) => K < 2 ^ 30 ∧ ∃ (q : Nat) (m : Int32), (0 < K → ∃ cap, tK κ Ad q (3, cap, K)) ∧ q = (ω a).getD 0 0 ∧ e = .inr (11, [.ref q, .int (nI K), .int m])
  | (5, K1, K2) => ∃ l1 l2 : Nat, tK κ Ad l1 (4, K1, 0) ∧ tK κ Ad l2 (4, K2, 0) ∧ (l1 = (ω a).getD 0 0 ∧ l2 = (ω a).getD 1 0) ∧ e = .inr (1, [.ref l1, .ref l2])
  | (6, n, g) => n < 2 ^ 30 ∧ ∃ f : Nat → Int32, ((n = 8 → ∀ j, j < 8 → f j = wN (ν a) j) ∧ (g ≠ 0 → sgR (ω a) f) ∧ (n = 16 → g = 0 → ∀ j, j < 16 → f j = nI ((ω a).getD j 0))) ∧ e = .inl (γ.2.1, n, .inl f)
  | (7, n, g) => n < 2 ^ 30 ∧ ∃ d : Nat → Nat, ((∀ j, d j < 4294967296) ∧ (g = 1 → ∀ k, 1 ≤ k → vB 4294967296 d k = 1)) ∧ e = .inl (γ.2.2.1, n, .inr (.inl (lR d)))
  | (8, K, len) => ∃ (nm pe ec se su mo ok ik ha si en bo sg is : Nat) (iu : Int32), ((∃ K2, tK κ Ad nm (5, K, K2)) ∧ (∃ K1 K2, tK κ Ad pe (5, K1, K2)) ∧ (∃ K1 K2, tK κ Ad ec (5, K1, K2)) ∧ tK κ Ad se (2, len, 1) ∧ (∃ z, tK κ Ad su (2, z, 1)) ∧ (∃ z, tK κ Ad mo (2, z, 1)) ∧ (∃ z, tK κ Ad ok (2, z, 1)) ∧ (∃ z, tK κ Ad ik (2, z, 1)) ∧ tK κ Ad ha (6, 8, 0) ∧ tK κ Ad si (6, 16, a + 1) ∧ tK κ Ad en (4, 0, a + 1) ∧ (∃ z, tK κ Ad bo (2, z, 0)) ∧ (∃ z, tK κ Ad sg (2, z, 1)) ∧ (∃ z, tK κ Ad is (2, z, 1))) ∧ (b01 (ν a).2.2.2.1 ∧ b01 (ν a).2.2.2.2.2.2.2.1 ∧ b01 (ν a).2.2.2.2.2.2.2.2.1 ∧ (ω a = [ha, si, mo, sg, nm, pe, ec, se, su, ok, ik, is, en] ∧ iu = nI ((ω en).getD 1 0))) ∧ e = .inr (3, [.ref nm, .ref pe, .ref ec, .ref se, .ref su, .ref mo, .ref ok, .ref ik, .int (ν a).1, .int (ν a).2.1, .int (ν a).2.2.1, .int (ν a).2.2.2.1, .int (ν a).2.2.2.2.1, .int (ν a).2.2.2.2.2.1, .int (ν a).2.2.2.2.2.2.1, .int (ν a).2.2.2.2.2.2.2.1, .int (ν a).2.2.2.2.2.2.2.2.1, .int (ν a).2.2.2.2.2.2.2.2.2.2.2.2, .int iu, .ref ha, .ref si, .ref en, .ref bo, .ref sg, .ref is, .long (ν a).2.2.2.2.2.2.2.2.2.1, .long (ν a).2.2.2.2.2.2.2.2.2.2.1, .int (ν a).2.2.2.2.2.2.2.2.2.2.2.1])
  | (9, K, _) => ∃ (ha si en bo sg is : Nat), (tK κ Ad ha (6, 8, 0) ∧ tK κ Ad si (6, 16, a + 1) ∧ tK κ Ad en (4, K, 0) ∧ (∃ z, tK κ Ad bo (2, z, 0)) ∧ (∃ z, tK κ Ad sg (2, z, 1)) ∧ (∃ z, tK κ Ad is (2, z, 1)) ∧ ω a = [ha, si, 0, sg, en, is]) ∧ e = .inr (2, [.ref ha, .ref si, .ref en, .ref bo, .ref sg, .ref is, .long (ν a).2.2.2.2.2.2.2.2.2.1, .long (ν a).2.2.2.2.2.2.2.2.2.2.1, .int (ν a).2.2.2.2.2.2.2.2.2.2.2.1])
  | (10, _, _) => ∃ (mo sq ba po un su : Nat) (iv : Int64), (tK κ Ad mo (7, 64, 0) ∧ tK κ Ad sq (7, 64, 2) ∧ tK κ Ad ba (7, 64, 3) ∧ tK κ Ad po (7, 64, 4) ∧ tK κ Ad un (7, 64, 1) ∧ tK κ Ad su (7, 66, 0)) ∧ e = .inr (7, [.ref mo, .ref sq, .ref ba, .ref po, .ref un, .ref su, .int (nI L), .long iv])
  | (11, _, _) => ∃ sc : Nat, tK κ Ad sc (6, 64, 0) ∧ e = .inr (6, [.ref sc])
  | (12, _, _) => e = .inr (9, [.int (ν a).1, .long (ν a).2.2.2.2.2.2.2.2.2.1, .int (ν a).2.1, .int (ν a).2.2.1])
  | (13, pl, _) => ∃ nx : Nat, (tK κ Ad nx (6, 16, 0) ∧ nx = (ω a).getD 0 0) ∧ e = .inr (8, [.ref pl, .ref nx, .int (ν a).1, .int (ν a).2.1, .int (ν a).2.2.1])
  | (14, cap, l) => (ω l).length ≤ cap ∧ (10 ≤ cap ∧ cap < 2 ^ 24) ∧ ∃ f : Nat → Option Nat, (∀ i, i < (ω l).length → f i = some ((ω l).getD i 0) ∧ ∃ p q, tK κ Ad ((ω l).getD i 0) (8, p, q)) ∧ e = .inl (γ.2.2.2, cap, .inr (.inr (.inr (.inr f))))
  | (15, ed, _) => (ω a).length < 2 ^ 20 ∧ ∃ (q : Nat) (m : Int32), ((ω a).length = 0 → q = ed) ∧ (0 < (ω a).length → ∃ cap, tK κ Ad q (14, cap, a)) ∧ e = .inr (11, [.ref q, .int (nI (ω a).length), .int m])
  | (16, cap, l) => (ω l).length ≤ cap ∧ (10 ≤ cap ∧ cap < 2 ^ 24) ∧ ∃ f : Nat → Option Nat, (∀ i, i < (ω l).length → f i = some ((ω l).getD i 0) ∧ ∃ p, tK κ Ad ((ω l).getD i 0) (9, p, 0)) ∧ e = .inl (γ.2.2.2, cap, .inr (.inr (.inr (.inr f))))
  | (17, ed, _) => (ω a).length < 2 ^ 20 ∧ ∃ (q : Nat) (m : Int32), ((ω a).length = 0 → q = ed) ∧ (0 < (ω a).length → ∃ cap, tK κ Ad q (16, cap, a)) ∧ e = .inr (11, [.ref q, .int (nI (ω a).length), .int m])
  | _ => True
/-- every typed address has a cell, and every cell fits -/
def TY (γ : cG) (κ : kE) (Ad : List Nat) (ν : Nat → cN) (ω : Nat → List Nat) (L : Nat) (G : va_W) : Prop := (∀ a, a ∈ Ad → ∃ c, (a, c) ∈ G) ∧ ∀ q, q ∈ G → q.1 ∈ Ad → tOK γ κ Ad ν ω L q.1 q.2
/-- what has no kind stays as it was -/
def FR (Ad : List Nat) (G G' : va_W) : Prop := ∀ q : Nat × va_E, q.1 ∉ Ad → q ∈ G → q ∈ G'
theorem FR.rf (Ad : List Nat) (G : va_W) : FR Ad G G := fun _ _ h => h
theorem FR.tr {Ad : List Nat} {G1 G2 G3 : va_W} (h : FR Ad G1 G2) (g : FR Ad G2 G3) : FR Ad G1 G3 := fun q hq z => g q hq (h q hq z)
theorem TY.get {γ : cG} {κ : kE} {Ad : List Nat} {ν : Nat → cN} {ω : Nat → List Nat} {L : Nat} {G : va_W} (h : TY γ κ Ad ν ω L G) {a : Nat} (ha : a ∈ Ad) : ∃ (i : Nat) (c : va_E), G[i]? = some (a, c) ∧ tOK γ κ Ad ν ω L a c := by
  obtain ⟨c, hc⟩ := h.1 a ha
  obtain ⟨i, hi⟩ := List.getElem?_of_mem hc
  exact ⟨i, c, hi, h.2 _ hc ha⟩
theorem mem_set {G : va_W} {i : Nat} {a : Nat} {c c' : va_E} (hg : G[i]? = some (a, c)) {q : Nat × va_E} (hq : q ∈ G.set i (a, c')) : q ∈ G ∨ q = (a, c') := List.mem_or_eq_of_mem_set hq
theorem set_keep {G : va_W} {i j : Nat} {a b : Nat} {c c' d : va_E} (hg : G[i]? = some (a, c)) (hj : G[j]? = some (b, d)) (hne : a ≠ b) : (G.set i (a, c'))[j]? = some (b, d) := by
  have hij : i ≠ j := fun h => by
    subst h
    rw [hg] at hj
    exact hne (congrArg Prod.fst (Option.some.inj hj))
  rw [List.getElem?_set_ne hij]
  exact hj
theorem set_here {G : va_W} {i : Nat} {a : Nat} {c c' : va_E} (hg : G[i]? = some (a, c)) : (G.set i (a, c'))[i]? = some (a, c') := by
  rw [List.getElem?_set_self (List.getElem?_eq_some_iff.mp hg).1]
theorem TY.set {γ : cG} {κ : kE} {Ad : List Nat} {ν : Nat → cN} {ω : Nat → List Nat} {L : Nat} {G : va_W} (h : TY γ κ Ad ν ω L G) {i a : Nat} {c c' : va_E} (hg : G[i]? = some (a, c)) (ho : tOK γ κ Ad ν ω L a c') : TY γ κ Ad ν ω L (G.set i (a, c')) := by
  refine ⟨fun b hb => ?_, fun q hq => ?_⟩
  · by_cases hab : a = b
    · subst hab
      exact ⟨c', List.mem_of_getElem? (set_here hg)⟩
    · obtain ⟨d, hd⟩ := h.1 b hb
      obtain ⟨j, hj⟩ := List.getElem?_of_mem hd
      exact ⟨d, List.mem_of_getElem? (set_keep hg hj hab)⟩
  · intro hqa
    rcases mem_set hg hq with h1 | h1
    · exact h.2 q h1 hqa
    · rw [h1]; exact ho
theorem FR.set {Ad : List Nat} {G : va_W} {i a : Nat} {c c' : va_E} (hg : G[i]? = some (a, c)) (ha : a ∈ Ad) : FR Ad G (G.set i (a, c')) := fun q hq h => by
  have hqa : a ≠ q.1 := fun e => hq (by rw [← e]; exact ha)
  obtain ⟨j, hj⟩ := List.getElem?_of_mem h
  exact List.mem_of_getElem? (set_keep (b := q.1) (d := q.2) hg hj hqa)
/-- a count that runs down to -1 -/
def jD : Nat → Int32
  | 0 => -1
  | k + 1 => nI k
theorem jD_dec (k : Nat) : nI k + (-1) = jD k := by
  cases k with
  | zero => decide
  | succ k => exact pk_m1 k
theorem jD_pos {k : Nat} (h : 1 ≤ k) : jD k = nI (k - 1) := by
  cases k with
  | zero => omega
  | succ k => rfl
theorem tK.ne {κ : kE} {Ad : List Nat} {a b : Nat} {k k' : Nat × Nat × Nat} (h : tK κ Ad a k) (g : tK κ Ad b k') (hk : k.1 ≠ k'.1) : a ≠ b := fun e => hk (by rw [← h.2, ← g.2, e])
section GET
variable {γ : cG} {κ : kE} {Ad : List Nat} {ν : Nat → cN} {ω : Nat → List Nat} {L : Nat} {G : va_W} {a : Nat}
theorem ty_1 (h : TY γ κ Ad ν ω L G) {n g : Nat} (ha : tK κ Ad a (1, n, g)) : ∃ (i : Nat) (u : Nat → Nat), (∀ j, u j < 256) ∧ n < 2 ^ 18 ∧ G[i]? = some (a, .inl (γ.1, n, .inl (tx u))) := by
  obtain ⟨i, c, hi, ho⟩ := h.get ha.1
  unfold tOK at ho
  rw [ha.2] at ho
  obtain ⟨h1, u, h2, -, h3⟩ := ho
  exact ⟨i, u, h2, h1, by rw [hi, h3]⟩
/-- with what it holds -/
theorem ty_1x (h : TY γ κ Ad ν ω L G) {n : Nat} (ha : tK κ Ad a (1, n, 1)) : ∃ (i : Nat) (u : Nat → Nat), (∀ j, u j < 256) ∧ (∀ j, j < n → u j = (ω a).getD j 0) ∧ n < 2 ^ 18 ∧ G[i]? = some (a, .inl (γ.1, n, .inl (tx u))) := by
  obtain ⟨i, c, hi, ho⟩ := h.get ha.1
  unfold tOK at ho
  rw [ha.2] at ho
  obtain ⟨h1, u, h2, h4, h3⟩ := ho
  exact ⟨i, u, h2, h4 rfl, h1, by rw [hi, h3]⟩
theorem ty_2 (h : TY γ κ Ad ν ω L G) {len g : Nat} (ha : tK κ Ad a (2, len, g)) : ∃ i t n f gt : Nat, tK κ Ad t (1, n, gt) ∧ f + len ≤ n ∧ n < 2 ^ 18 ∧ G[i]? = some (a, .inr (0, [.ref t, .int (nI f), .int (nI (f + len))])) := by
  obtain ⟨i, c, hi, ho⟩ := h.get ha.1
  unfold tOK at ho
  rw [ha.2] at ho
  obtain ⟨t, n, f, gt, h1, h2, h4, -, h3⟩ := ho
  exact ⟨i, t, n, f, gt, h1, h2, h4, by rw [hi, h3]⟩
/-- with its text and place -/
theorem ty_2x (h : TY γ κ Ad ν ω L G) {len : Nat} (ha : tK κ Ad a (2, len, 1)) : ∃ i t n f : Nat, tK κ Ad t (1, n, 1) ∧ f + len ≤ n ∧ n < 2 ^ 18 ∧ ω a = [t, f] ∧ G[i]? = some (a, .inr (0, [.ref t, .int (nI f), .int (nI (f + len))])) := by
  obtain ⟨i, c, hi, ho⟩ := h.get ha.1
  unfold tOK at ho
  rw [ha.2] at ho
  obtain ⟨t, n, f, gt, h1, h2, h4, h5, h3⟩ := ho
  obtain ⟨e9, h6⟩ := h5 rfl
  subst e9
  exact ⟨i, t, n, f, h1, h2, h4, h6, by rw [hi, h3]⟩
theorem ty_3 (h : TY γ κ Ad ν ω L G) {cap K : Nat} (ha : tK κ Ad a (3, cap, K)) : ∃ (i : Nat) (f : Nat → Option Nat), K ≤ cap ∧ cap < 2 ^ 30 ∧ (∀ i, i < K → ∃ s len, f i = some s ∧ tK κ Ad s (2, len, 1) ∧ s = (ω a).getD i 0) ∧ G[i]? = some (a, .inl (γ.2.2.2, cap, .inr (.inr (.inr (.inr f))))) := by
  obtain ⟨i, c, hi, ho⟩ := h.get ha.1
  unfold tOK at ho
  rw [ha.2] at ho
  obtain ⟨h1, h2, f, h3, h4⟩ := ho
  exact ⟨i, f, h1, h2, h3, by rw [hi, h4]⟩
theorem ty_4 (h : TY γ κ Ad ν ω L G) {K g : Nat} (ha : tK κ Ad a (4, K, g)) : ∃ (i q : Nat) (m : Int32), K < 2 ^ 30 ∧ (0 < K → ∃ cap, tK κ Ad q (3, cap, K)) ∧ q = (ω a).getD 0 0 ∧ G[i]? = some (a, .inr (11, [.ref q, .int (nI K), .int m])) := by
  obtain ⟨i, c, hi, ho⟩ := h.get ha.1
  unfold tOK at ho
  rw [ha.2] at ho
  obtain ⟨h1, q, m, h2, h4, h3⟩ := ho
  exact ⟨i, q, m, h1, h2, h4, by rw [hi, h3]⟩
theorem ty_5 (h : TY γ κ Ad ν ω L G) {K1 K2 : Nat} (ha : tK κ Ad a (5, K1, K2)) : ∃ i l1 l2 : Nat, tK κ Ad l1 (4, K1, 0) ∧ tK κ Ad l2 (4, K2, 0) ∧ (l1 = (ω a).getD 0 0 ∧ l2 = (ω a).getD 1 0) ∧ G[i]? = some (a, .inr (1, [.ref l1, .ref l2])) := by
  obtain ⟨i, c, hi, ho⟩ := h.get ha.1
  unfold tOK at ho
  rw [ha.2] at ho
  obtain ⟨l1, l2, h1, h2, h4, h3⟩ := ho
  exact ⟨i, l1, l2, h1, h2, h4, by rw [hi, h3]⟩
theorem ty_6 (h : TY γ κ Ad ν ω L G) {n : Nat} (ha : tK κ Ad a (6, n, 0)) : ∃ (i : Nat) (f : Nat → Int32), n < 2 ^ 30 ∧ G[i]? = some (a, .inl (γ.2.1, n, .inl f)) := by
  obtain ⟨i, c, hi, ho⟩ := h.get ha.1
  unfold tOK at ho
  rw [ha.2] at ho
  obtain ⟨h1, f, -, h2⟩ := ho
  exact ⟨i, f, h1, by rw [hi, h2]⟩
/-- a hash: its words -/
theorem ty_6h (h : TY γ κ Ad ν ω L G) (ha : tK κ Ad a (6, 8, 0)) : ∃ (i : Nat) (f : Nat → Int32), (∀ j, j < 8 → f j = wN (ν a) j) ∧ G[i]? = some (a, .inl (γ.2.1, 8, .inl f)) := by
  obtain ⟨i, c, hi, ho⟩ := h.get ha.1
  unfold tOK at ho
  rw [ha.2] at ho
  obtain ⟨h1, f, h8, h2⟩ := ho
  exact ⟨i, f, h8.1 rfl, by rw [hi, h2]⟩
/-- a row of verdicts -/
theorem ty_6s (h : TY γ κ Ad ν ω L G) {g : Nat} (ha : tK κ Ad a (6, 16, g + 1)) : ∃ (i : Nat) (f : Nat → Int32), sgR (ω a) f ∧ G[i]? = some (a, .inl (γ.2.1, 16, .inl f)) := by
  obtain ⟨i, c, hi, ho⟩ := h.get ha.1
  unfold tOK at ho
  rw [ha.2] at ho
  obtain ⟨h1, f, h8, h2⟩ := ho
  exact ⟨i, f, h8.2.1 (Nat.succ_ne_zero g), by rw [hi, h2]⟩
/-- a row of sixteen numbers -/
theorem ty_6r (h : TY γ κ Ad ν ω L G) (ha : tK κ Ad a (6, 16, 0)) : ∃ (i : Nat) (f : Nat → Int32), (∀ j, j < 16 → f j = nI ((ω a).getD j 0)) ∧ G[i]? = some (a, .inl (γ.2.1, 16, .inl f)) := by
  obtain ⟨i, c, hi, ho⟩ := h.get ha.1
  unfold tOK at ho
  rw [ha.2] at ho
  obtain ⟨h1, f, h8, h2⟩ := ho
  exact ⟨i, f, h8.2.2 rfl rfl, by rw [hi, h2]⟩
theorem ty_7 (h : TY γ κ Ad ν ω L G) {n g : Nat} (ha : tK κ Ad a (7, n, g)) : ∃ (i : Nat) (d : Nat → Nat), n < 2 ^ 30 ∧ ((∀ j, d j < 4294967296) ∧ (g = 1 → ∀ k, 1 ≤ k → vB 4294967296 d k = 1)) ∧ G[i]? = some (a, .inl (γ.2.2.1, n, .inr (.inl (lR d)))) := by
  obtain ⟨i, c, hi, ho⟩ := h.get ha.1
  unfold tOK at ho
  rw [ha.2] at ho
  obtain ⟨h1, f, h3, h2⟩ := ho
  exact ⟨i, f, h1, h3, by rw [hi, h2]⟩
theorem ty_10 (h : TY γ κ Ad ν ω L G) (ha : tK κ Ad a (10, 0, 0)) : ∃ (i mo sq ba po un su : Nat) (iv : Int64), tK κ Ad mo (7, 64, 0) ∧ tK κ Ad sq (7, 64, 2) ∧ tK κ Ad ba (7, 64, 3) ∧ tK κ Ad po (7, 64, 4) ∧ tK κ Ad un (7, 64, 1) ∧ tK κ Ad su (7, 66, 0) ∧ G[i]? = some (a, .inr (7, [.ref mo, .ref sq, .ref ba, .ref po, .ref un, .ref su, .int (nI L), .long iv])) := by
  obtain ⟨i, c, hi, ho⟩ := h.get ha.1
  unfold tOK at ho
  rw [ha.2] at ho
  obtain ⟨mo, sq, ba, po, un, su, iv, ⟨h1, h2, h3, h4, h5, h6⟩, h7⟩ := ho
  exact ⟨i, mo, sq, ba, po, un, su, iv, h1, h2, h3, h4, h5, h6, by rw [hi, h7]⟩
theorem ok_6r (ha : tK κ Ad a (6, 16, 0)) {f : Nat → Int32} (h16 : ∀ j, j < 16 → f j = nI ((ω a).getD j 0)) : tOK γ κ Ad ν ω L a (.inl (γ.2.1, 16, .inl f)) := by
  unfold tOK
  rw [ha.2]
  exact ⟨by decide, f, ⟨fun e => absurd e (by decide), fun e => absurd rfl e, fun _ _ => h16⟩, rfl⟩
theorem ok_6 {n : Nat} (ha : tK κ Ad a (6, n, 0)) (hn : n < 2 ^ 30) (h8 : n ≠ 8) (h16 : n ≠ 16) (f : Nat → Int32) : tOK γ κ Ad ν ω L a (.inl (γ.2.1, n, .inl f)) := by
  unfold tOK
  rw [ha.2]
  exact ⟨hn, f, ⟨fun e => absurd e h8, fun e => absurd rfl e, fun e => absurd e h16⟩, rfl⟩
theorem ok_6h (ha : tK κ Ad a (6, 8, 0)) {f : Nat → Int32} (h8 : ∀ j, j < 8 → f j = wN (ν a) j) : tOK γ κ Ad ν ω L a (.inl (γ.2.1, 8, .inl f)) := by
  unfold tOK
  rw [ha.2]
  exact ⟨by decide, f, ⟨fun _ => h8, fun e => absurd rfl e, fun e => absurd e (by decide)⟩, rfl⟩
theorem ok_6s {g : Nat} (ha : tK κ Ad a (6, 16, g + 1)) {f : Nat → Int32} (hs : sgR (ω a) f) : tOK γ κ Ad ν ω L a (.inl (γ.2.1, 16, .inl f)) := by
  unfold tOK
  rw [ha.2]
  exact ⟨by decide, f, ⟨fun e => absurd e (by decide), fun _ => hs, fun _ e => absurd e (Nat.succ_ne_zero g)⟩, rfl⟩
theorem ok_7 {n g : Nat} (ha : tK κ Ad a (7, n, g)) (hg : g ≠ 1) (hn : n < 2 ^ 30) {d : Nat → Nat} (hd : ∀ j, d j < 4294967296) : tOK γ κ Ad ν ω L a (.inl (γ.2.2.1, n, .inr (.inl (lR d)))) := by
  unfold tOK
  rw [ha.2]
  exact ⟨hn, d, ⟨hd, fun e => absurd e hg⟩, rfl⟩
theorem ok_1 {n : Nat} (ha : tK κ Ad a (1, n, 0)) (hn : n < 2 ^ 18) {u : Nat → Nat} (hu : ∀ j, u j < 256) : tOK γ κ Ad ν ω L a (.inl (γ.1, n, .inl (tx u))) := by
  unfold tOK
  rw [ha.2]
  exact ⟨hn, u, hu, fun e => absurd e (by decide), rfl⟩
theorem ok_10 {k2 k3 : Nat} (ha : tK κ Ad a (10, k2, k3)) {mo sq ba po un su : Nat} {iv : Int64} (h1 : tK κ Ad mo (7, 64, 0)) (h2 : tK κ Ad sq (7, 64, 2)) (h3 : tK κ Ad ba (7, 64, 3)) (h4 : tK κ Ad po (7, 64, 4)) (h5 : tK κ Ad un (7, 64, 1)) (h6 : tK κ Ad su (7, 66, 0)) : tOK γ κ Ad ν ω L a (.inr (7, [.ref mo, .ref sq, .ref ba, .ref po, .ref un, .ref su, .int (nI L), .long iv])) := by
  unfold tOK
  rw [ha.2]
  exact ⟨mo, sq, ba, po, un, su, iv, ⟨h1, h2, h3, h4, h5, h6⟩, rfl⟩
/-- other limbs: every cell but the Rsa's fits as before -/
theorem tOK.limbs {a : Nat} {e : va_E} {L' : Nat} (h : tOK γ κ Ad ν ω L a e) (hk : (κ a).1 ≠ 10) : tOK γ κ Ad ν ω L' a e := by
  unfold tOK at h ⊢
  split at h <;> first | exact h | (rename_i hk9; exact absurd (by rw [hk9]) hk)
theorem ty_14 (h : TY γ κ Ad ν ω L G) {cap l : Nat} (ha : tK κ Ad a (14, cap, l)) : ∃ (i : Nat) (f : Nat → Option Nat), (ω l).length ≤ cap ∧ cap < 2 ^ 30 ∧ (∀ i, i < (ω l).length → f i = some ((ω l).getD i 0) ∧ ∃ p q, tK κ Ad ((ω l).getD i 0) (8, p, q)) ∧ G[i]? = some (a, .inl (γ.2.2.2, cap, .inr (.inr (.inr (.inr f))))) := by
  obtain ⟨i, c, hi, ho⟩ := h.get ha.1
  unfold tOK at ho
  rw [ha.2] at ho
  obtain ⟨h1, h2, f, h3, h4⟩ := ho
  exact ⟨i, f, h1, by omega, h3, by rw [hi, h4]⟩
/-- its capacity too -/
theorem ty_14e (h : TY γ κ Ad ν ω L G) {cap l : Nat} (ha : tK κ Ad a (14, cap, l)) : ∃ (i : Nat) (f : Nat → Option Nat), (ω l).length ≤ cap ∧ (10 ≤ cap ∧ cap < 2 ^ 24) ∧ (∀ i, i < (ω l).length → f i = some ((ω l).getD i 0) ∧ ∃ p q, tK κ Ad ((ω l).getD i 0) (8, p, q)) ∧ G[i]? = some (a, .inl (γ.2.2.2, cap, .inr (.inr (.inr (.inr f))))) := by
  obtain ⟨i, c, hi, ho⟩ := h.get ha.1
  unfold tOK at ho
  rw [ha.2] at ho
  obtain ⟨h1, h2, f, h3, h4⟩ := ho
  exact ⟨i, f, h1, h2, h3, by rw [hi, h4]⟩
theorem ty_16 (h : TY γ κ Ad ν ω L G) {cap l : Nat} (ha : tK κ Ad a (16, cap, l)) : ∃ (i : Nat) (f : Nat → Option Nat), (ω l).length ≤ cap ∧ cap < 2 ^ 30 ∧ (∀ i, i < (ω l).length → f i = some ((ω l).getD i 0) ∧ ∃ p, tK κ Ad ((ω l).getD i 0) (9, p, 0)) ∧ G[i]? = some (a, .inl (γ.2.2.2, cap, .inr (.inr (.inr (.inr f))))) := by
  obtain ⟨i, c, hi, ho⟩ := h.get ha.1
  unfold tOK at ho
  rw [ha.2] at ho
  obtain ⟨h1, h2, f, h3, h4⟩ := ho
  exact ⟨i, f, h1, by omega, h3, by rw [hi, h4]⟩
/-- its capacity too -/
theorem ty_16e (h : TY γ κ Ad ν ω L G) {cap l : Nat} (ha : tK κ Ad a (16, cap, l)) : ∃ (i : Nat) (f : Nat → Option Nat), (ω l).length ≤ cap ∧ (10 ≤ cap ∧ cap < 2 ^ 24) ∧ (∀ i, i < (ω l).length → f i = some ((ω l).getD i 0) ∧ ∃ p, tK κ Ad ((ω l).getD i 0) (9, p, 0)) ∧ G[i]? = some (a, .inl (γ.2.2.2, cap, .inr (.inr (.inr (.inr f))))) := by
  obtain ⟨i, c, hi, ho⟩ := h.get ha.1
  unfold tOK at ho
  rw [ha.2] at ho
  obtain ⟨h1, h2, f, h3, h4⟩ := ho
  exact ⟨i, f, h1, h2, h3, by rw [hi, h4]⟩
theorem ty_15 (h : TY γ κ Ad ν ω L G) {ed z9 : Nat} (ha : tK κ Ad a (15, ed, z9)) : ∃ (i q : Nat) (m : Int32), (ω a).length < 2 ^ 20 ∧ (0 < (ω a).length → ∃ cap, tK κ Ad q (14, cap, a)) ∧ G[i]? = some (a, .inr (11, [.ref q, .int (nI (ω a).length), .int m])) := by
  obtain ⟨i, c, hi, ho⟩ := h.get ha.1
  unfold tOK at ho
  rw [ha.2] at ho
  obtain ⟨h1, q, m, -, h2, h3⟩ := ho
  exact ⟨i, q, m, h1, h2, by rw [hi, h3]⟩
/-- its array too -/
theorem ty_15e (h : TY γ κ Ad ν ω L G) {ed z9 : Nat} (ha : tK κ Ad a (15, ed, z9)) : ∃ (i q : Nat) (m : Int32), (ω a).length < 2 ^ 20 ∧ ((ω a).length = 0 → q = ed) ∧ (0 < (ω a).length → ∃ cap, tK κ Ad q (14, cap, a)) ∧ G[i]? = some (a, .inr (11, [.ref q, .int (nI (ω a).length), .int m])) := by
  obtain ⟨i, c, hi, ho⟩ := h.get ha.1
  unfold tOK at ho
  rw [ha.2] at ho
  obtain ⟨h1, q, m, h0, h2, h3⟩ := ho
  exact ⟨i, q, m, h1, h0, h2, by rw [hi, h3]⟩
theorem ty_17 (h : TY γ κ Ad ν ω L G) {ed z9 : Nat} (ha : tK κ Ad a (17, ed, z9)) : ∃ (i q : Nat) (m : Int32), (ω a).length < 2 ^ 20 ∧ (0 < (ω a).length → ∃ cap, tK κ Ad q (16, cap, a)) ∧ G[i]? = some (a, .inr (11, [.ref q, .int (nI (ω a).length), .int m])) := by
  obtain ⟨i, c, hi, ho⟩ := h.get ha.1
  unfold tOK at ho
  rw [ha.2] at ho
  obtain ⟨h1, q, m, -, h2, h3⟩ := ho
  exact ⟨i, q, m, h1, h2, by rw [hi, h3]⟩
/-- its array too -/
theorem ty_17e (h : TY γ κ Ad ν ω L G) {ed z9 : Nat} (ha : tK κ Ad a (17, ed, z9)) : ∃ (i q : Nat) (m : Int32), (ω a).length < 2 ^ 20 ∧ ((ω a).length = 0 → q = ed) ∧ (0 < (ω a).length → ∃ cap, tK κ Ad q (16, cap, a)) ∧ G[i]? = some (a, .inr (11, [.ref q, .int (nI (ω a).length), .int m])) := by
  obtain ⟨i, c, hi, ho⟩ := h.get ha.1
  unfold tOK at ho
  rw [ha.2] at ho
  obtain ⟨h1, q, m, h0, h2, h3⟩ := ho
  exact ⟨i, q, m, h1, h0, h2, by rw [hi, h3]⟩
theorem ty_8 (h : TY γ κ Ad ν ω L G) {K len : Nat} (hk : tK κ Ad a (8, K, len)) : ∃ (i nm pe ec se su mo ok ik ha si en bo sg is : Nat) (iu : Int32), ((∃ K2, tK κ Ad nm (5, K, K2)) ∧ (∃ K1 K2, tK κ Ad pe (5, K1, K2)) ∧ (∃ K1 K2, tK κ Ad ec (5, K1, K2)) ∧ tK κ Ad se (2, len, 1) ∧ (∃ z, tK κ Ad su (2, z, 1)) ∧ (∃ z, tK κ Ad mo (2, z, 1)) ∧ (∃ z, tK κ Ad ok (2, z, 1)) ∧ (∃ z, tK κ Ad ik (2, z, 1)) ∧ tK κ Ad ha (6, 8, 0) ∧ tK κ Ad si (6, 16, a + 1) ∧ tK κ Ad en (4, 0, a + 1) ∧ (∃ z, tK κ Ad bo (2, z, 0)) ∧ (∃ z, tK κ Ad sg (2, z, 1)) ∧ (∃ z, tK κ Ad is (2, z, 1))) ∧ (b01 (ν a).2.2.2.1 ∧ b01 (ν a).2.2.2.2.2.2.2.1 ∧ b01 (ν a).2.2.2.2.2.2.2.2.1 ∧ (ω a = [ha, si, mo, sg, nm, pe, ec, se, su, ok, ik, is, en] ∧ iu = nI ((ω en).getD 1 0))) ∧ G[i]? = some (a, .inr (3, [.ref nm, .ref pe, .ref ec, .ref se, .ref su, .ref mo, .ref ok, .ref ik, .int (ν a).1, .int (ν a).2.1, .int (ν a).2.2.1, .int (ν a).2.2.2.1, .int (ν a).2.2.2.2.1, .int (ν a).2.2.2.2.2.1, .int (ν a).2.2.2.2.2.2.1, .int (ν a).2.2.2.2.2.2.2.1, .int (ν a).2.2.2.2.2.2.2.2.1, .int (ν a).2.2.2.2.2.2.2.2.2.2.2.2, .int iu, .ref ha, .ref si, .ref en, .ref bo, .ref sg, .ref is, .long (ν a).2.2.2.2.2.2.2.2.2.1, .long (ν a).2.2.2.2.2.2.2.2.2.2.1, .int (ν a).2.2.2.2.2.2.2.2.2.2.2.1])) := by
  obtain ⟨i, c, hi, ho⟩ := h.get hk.1
  unfold tOK at ho
  rw [hk.2] at ho
  obtain ⟨nm, pe, ec, se, su, mo, ok, ik, ha, si, en, bo, sg, is, iu, h1, h2, h3⟩ := ho
  exact ⟨i, nm, pe, ec, se, su, mo, ok, ik, ha, si, en, bo, sg, is, iu, h1, h2, by rw [hi, h3]⟩
theorem ok_8 {K len : Nat} (hk : tK κ Ad a (8, K, len)) {nm pe ec se su mo ok ik ha si en bo sg is : Nat} {iu : Int32} (h1 : ((∃ K2, tK κ Ad nm (5, K, K2)) ∧ (∃ K1 K2, tK κ Ad pe (5, K1, K2)) ∧ (∃ K1 K2, tK κ Ad ec (5, K1, K2)) ∧ tK κ Ad se (2, len, 1) ∧ (∃ z, tK κ Ad su (2, z, 1)) ∧ (∃ z, tK κ Ad mo (2, z, 1)) ∧ (∃ z, tK κ Ad ok (2, z, 1)) ∧ (∃ z, tK κ Ad ik (2, z, 1)) ∧ tK κ Ad ha (6, 8, 0) ∧ tK κ Ad si (6, 16, a + 1) ∧ tK κ Ad en (4, 0, a + 1) ∧ (∃ z, tK κ Ad bo (2, z, 0)) ∧ (∃ z, tK κ Ad sg (2, z, 1)) ∧ (∃ z, tK κ Ad is (2, z, 1)))) (h2 : (b01 (ν a).2.2.2.1 ∧ b01 (ν a).2.2.2.2.2.2.2.1 ∧ b01 (ν a).2.2.2.2.2.2.2.2.1 ∧ (ω a = [ha, si, mo, sg, nm, pe, ec, se, su, ok, ik, is, en] ∧ iu = nI ((ω en).getD 1 0)))) : tOK γ κ Ad ν ω L a (.inr (3, [.ref nm, .ref pe, .ref ec, .ref se, .ref su, .ref mo, .ref ok, .ref ik, .int (ν a).1, .int (ν a).2.1, .int (ν a).2.2.1, .int (ν a).2.2.2.1, .int (ν a).2.2.2.2.1, .int (ν a).2.2.2.2.2.1, .int (ν a).2.2.2.2.2.2.1, .int (ν a).2.2.2.2.2.2.2.1, .int (ν a).2.2.2.2.2.2.2.2.1, .int (ν a).2.2.2.2.2.2.2.2.2.2.2.2, .int iu, .ref ha, .ref si, .ref en, .ref bo, .ref sg, .ref is, .long (ν a).2.2.2.2.2.2.2.2.2.1, .long (ν a).2.2.2.2.2.2.2.2.2.2.1, .int (ν a).2.2.2.2.2.2.2.2.2.2.2.1])) := by
  unfold tOK
  rw [hk.2]
  exact ⟨nm, pe, ec, se, su, mo, ok, ik, ha, si, en, bo, sg, is, iu, h1, h2, rfl⟩
theorem ty_9 (h : TY γ κ Ad ν ω L G) {K : Nat} (hk : tK κ Ad a (9, K, 0)) : ∃ (i ha si en bo sg is : Nat), tK κ Ad ha (6, 8, 0) ∧ tK κ Ad si (6, 16, a + 1) ∧ tK κ Ad en (4, K, 0) ∧ (∃ z, tK κ Ad bo (2, z, 0)) ∧ (∃ z, tK κ Ad sg (2, z, 1)) ∧ (∃ z, tK κ Ad is (2, z, 1)) ∧ ω a = [ha, si, 0, sg, en, is] ∧ G[i]? = some (a, .inr (2, [.ref ha, .ref si, .ref en, .ref bo, .ref sg, .ref is, .long (ν a).2.2.2.2.2.2.2.2.2.1, .long (ν a).2.2.2.2.2.2.2.2.2.2.1, .int (ν a).2.2.2.2.2.2.2.2.2.2.2.1])) := by
  obtain ⟨i, c, hi, ho⟩ := h.get hk.1
  unfold tOK at ho
  rw [hk.2] at ho
  obtain ⟨ha, si, en, bo, sg, is, ⟨h1, h2, h3, h4, h5, h6, h8⟩, h7⟩ := ho
  exact ⟨i, ha, si, en, bo, sg, is, h1, h2, h3, h4, h5, h6, h8, by rw [hi, h7]⟩
theorem ty_11 (h : TY γ κ Ad ν ω L G) (hk : tK κ Ad a (11, 0, 0)) : ∃ i sc : Nat, tK κ Ad sc (6, 64, 0) ∧ G[i]? = some (a, .inr (6, [.ref sc])) := by
  obtain ⟨i, c, hi, ho⟩ := h.get hk.1
  unfold tOK at ho
  rw [hk.2] at ho
  obtain ⟨sc, h1, h2⟩ := ho
  exact ⟨i, sc, h1, by rw [hi, h2]⟩
theorem ty_12 (h : TY γ κ Ad ν ω L G) (hk : tK κ Ad a (12, 0, 0)) : ∃ i : Nat, G[i]? = some (a, .inr (9, [.int (ν a).1, .long (ν a).2.2.2.2.2.2.2.2.2.1, .int (ν a).2.1, .int (ν a).2.2.1])) := by
  obtain ⟨i, c, hi, ho⟩ := h.get hk.1
  unfold tOK at ho
  rw [hk.2] at ho
  exact ⟨i, by rw [hi, ho]⟩
theorem ok_12 (hk : tK κ Ad a (12, 0, 0)) {fp kw ik : Int32} {ti : Int64} (h1 : (ν a).1 = fp) (h2 : (ν a).2.2.2.2.2.2.2.2.2.1 = ti) (h3 : (ν a).2.1 = kw) (h4 : (ν a).2.2.1 = ik) : tOK γ κ Ad ν ω L a (.inr (9, [.int fp, .long ti, .int kw, .int ik])) := by
  unfold tOK
  (rw [hk.2, h1, h2, h3, h4]) <;> exact rfl
theorem ty_13 (h : TY γ κ Ad ν ω L G) {pl : Nat} (hk : tK κ Ad a (13, pl, 0)) : ∃ i nx : Nat, (tK κ Ad nx (6, 16, 0) ∧ nx = (ω a).getD 0 0) ∧ G[i]? = some (a, .inr (8, [.ref pl, .ref nx, .int (ν a).1, .int (ν a).2.1, .int (ν a).2.2.1])) := by
  obtain ⟨i, c, hi, ho⟩ := h.get hk.1
  unfold tOK at ho
  rw [hk.2] at ho
  obtain ⟨nx, h1, h2⟩ := ho
  exact ⟨i, nx, h1, by rw [hi, h2]⟩
theorem ok_13 {pl nx : Nat} (hk : tK κ Ad a (13, pl, 0)) (hn : tK κ Ad nx (6, 16, 0)) (hw : nx = (ω a).getD 0 0) {de pu op : Int32} (h1 : (ν a).1 = de) (h2 : (ν a).2.1 = pu) (h3 : (ν a).2.2.1 = op) : tOK γ κ Ad ν ω L a (.inr (8, [.ref pl, .ref nx, .int de, .int pu, .int op])) := by
  unfold tOK
  rw [hk.2, h1, h2, h3]
  exact ⟨nx, ⟨hn, hw⟩, rfl⟩
/-- the Rsa's limbs anew -/
theorem TY.limbs {L' i h : Nat} {c c' : va_E} {A : Nat → Prop} (hT : TY γ κ Ad ν ω L G) (hD : va_D A G) (hg : G[i]? = some (h, c)) (ho : tOK γ κ Ad ν ω L' h c') (h1 : ∀ a, a ∈ Ad → (κ a).1 = 10 → a = h) : TY γ κ Ad ν ω L' (G.set i (h, c')) := by
  refine ⟨fun b hb => ?_, fun q hq => ?_⟩
  · by_cases hab : h = b
    · subst hab
      exact ⟨c', List.mem_of_getElem? (set_here hg)⟩
    · obtain ⟨d, hd⟩ := hT.1 b hb
      obtain ⟨j, hj⟩ := List.getElem?_of_mem hd
      exact ⟨d, List.mem_of_getElem? (set_keep hg hj hab)⟩
  · intro hqa
    obtain ⟨j, hj⟩ := List.getElem?_of_mem hq
    by_cases hij : i = j
    · subst hij
      rw [set_here hg] at hj
      cases hj
      exact ho
    · rw [List.getElem?_set_ne hij] at hj
      have hne : q.1 ≠ h := fun e => hij (hD.1 i j _ _ hg hj e.symm)
      exact (hT.2 q (List.mem_of_getElem? hj) hqa).limbs (fun e => hne (h1 _ hqa e))
end GET
theorem rg_nd1 : ∀ (n k : Nat), va_nd ((List.range n).map (· + k)) = true
  | 0, _ => rfl
  | n + 1, k => by
    rw [List.range_succ_eq_map, List.map_cons, List.map_map]
    have e : (List.range n).map ((fun x => x + k) ∘ Nat.succ) = (List.range n).map (· + (k + 1)) := by
      apply List.map_congr_left
      intro a _
      show a.succ + k = a + (k + 1)
      omega
    rw [e]
    simp only [va_nd, Bool.and_eq_true, decide_eq_true_eq]
    refine ⟨fun h => ?_, rg_nd1 n (k + 1)⟩
    obtain ⟨a, _, ha⟩ := List.mem_map.mp h
    omega
theorem rg_nd (n : Nat) : va_nd (List.range n) = true := by
  have h := rg_nd1 n 0
  simpa using h
theorem rg_is (wc : va_W) : (List.range wc.length).map (fun i => wc[i]?) = wc.map some := by
  apply List.ext_getElem?
  intro k
  rw [List.getElem?_map, List.getElem?_map]
  by_cases h : k < wc.length
  · rw [List.getElem?_range h, List.getElem?_eq_getElem h]
    show some (wc[k]?) = some (some wc[k])
    rw [List.getElem?_eq_getElem h]
  · rw [List.getElem?_eq_none (by rw [List.length_range]; omega), List.getElem?_eq_none (by omega)]
    rfl
theorem rg_all (G : va_W) : (List.range G.length).filterMap (fun i => G[i]?) = G := by
  have h1 : (List.range G.length).filterMap (fun i => G[i]?) = ((List.range G.length).map (fun i => G[i]?)).filterMap id := by rw [List.filterMap_map]; rfl
  rw [h1, rg_is, List.filterMap_map]
  simp
/-! Lists of certificates, or of papers, whose entries are known: they have no kind. -/
def PLx (γ : cG) (sb : sB) (κ : kE) (Ad : List Nat) (k : Nat) (l : Nat) (o : alD) (as : List Nat) (G : va_W) : Prop := l ∉ Ad ∧ (∃ m : Int32, (l, .inr (11, [.ref (alO sb o), .int (nI as.length), .int m])) ∈ G) ∧ (∀ q, q ∈ alC γ.2.2.2 o → q ∈ G ∧ q.1 ∉ Ad) ∧ alI o as.length ∧ as.length < 2 ^ 20 ∧ (∀ i, i < as.length → alF o i = some (as.getD i 0)) ∧ ∀ i, i < as.length → ∃ p q, tK κ Ad (as.getD i 0) (k, p, q) ∧ (k = 9 → q = 0)
theorem PLx.fr {γ : cG} {sb : sB} {κ : kE} {Ad : List Nat} {k l : Nat} {o : alD} {as : List Nat} {G G' : va_W} (h : PLx γ sb κ Ad k l o as G) (hf : FR Ad G G') : PLx γ sb κ Ad k l o as G' := by
  obtain ⟨h1, ⟨m, h2⟩, h3, h4⟩ := h
  exact ⟨h1, ⟨m, hf _ h1 h2⟩, fun q hq => ⟨hf q (h3 q hq).2 (h3 q hq).1, (h3 q hq).2⟩, h4⟩
theorem pl_size {γ : cG} {sb : sB} {κ : kE} {Ad : List Nat} {k l : Nat} {o : alD} {as : List Nat} {G : va_W} (h : PLx γ sb κ Ad k l o as G) : ∃ (i : Nat) (m : Int32), as.length < 2 ^ 20 ∧ G[i]? = some (l, .inr (11, [.ref (alO sb o), .int (nI as.length), .int m])) := by
  obtain ⟨h1, ⟨m, h2⟩, h3, h4, h5, h6⟩ := h
  obtain ⟨i, hi⟩ := List.getElem?_of_mem h2
  exact ⟨i, m, h5, hi⟩
theorem pl_get {γ : cG} {sb : sB} {κ : kE} {Ad : List Nat} {k l : Nat} {o : alD} {as : List Nat} {G : va_W} (h : PLx γ sb κ Ad k l o as G) {j : Nat} (hj : j < as.length) : ∃ (i cap : Nat) (f : Nat → Option Nat) (p q : Nat), as.length ≤ cap ∧ cap < 2 ^ 30 ∧ f j = some (as.getD j 0) ∧ tK κ Ad (as.getD j 0) (k, p, q) ∧ (k = 9 → q = 0) ∧ G[i]? = some (alO sb o, .inl (γ.2.2.2, cap, .inr (.inr (.inr (.inr f))))) := by
  obtain ⟨h1, ⟨m, h2⟩, h3, h4, h5, h6, h7⟩ := h
  obtain ⟨p, q, hk, hk9⟩ := h7 j hj
  cases o with
  | none =>
    have : as.length = 0 := h4
    omega
  | some d =>
    obtain ⟨i, hi⟩ := List.getElem?_of_mem (h3 _ (List.mem_singleton.mpr rfl)).1
    have h4 : as.length ≤ d.2.1 ∧ 10 ≤ d.2.1 ∧ d.2.1 < 2 ^ 24 := h4
    exact ⟨i, d.2.1, d.2.2, p, q, h4.1, by omega, h6 j hj, hk, hk9, hi⟩
