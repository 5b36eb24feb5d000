/-! The reference's typed world: its rows of ints (6), a Text's rows (18, the Text, which), a Text (20). -/
def TD : Type := (Nat → Nat) × (Nat → Int32) × (Nat → Int64) × (Nat → Nat → Int32) × (Nat → Nat) × Nat × Nat × Nat × Nat × Nat × Nat × Nat × Nat × Nat × Nat × Nat × Nat × Nat × Nat × Nat × Nat × Nat × (Nat → Nat) × (Nat → Nat) × (Nat → Nat) × (Nat → Nat) × (Nat → Nat) × (Nat → Nat) × (Nat → Nat) × (Nat → Nat)
def TD.mk (A : Nat → Nat) (I : Nat → Int32) (J : Nat → Int64) (D : Nat → Nat → Int32) (u : Nat → Nat) (tb : Nat) (te : Nat) (sg : Nat) (se : Nat) (is : Nat) (ie : Nat) (su : Nat) (ue : Nat) (sr : Nat) (re : Nat) (mo : Nat) (me : Nat) (nd : Nat) (ni : Nat) (nt : Nat) (ne : Nat) (ex : Nat) (da : Nat → Nat) (de : Nat → Nat) (ia : Nat → Nat) (ib : Nat → Nat) (ta : Nat → Nat) (tz : Nat → Nat) (ea : Nat → Nat) (eb : Nat → Nat) : TD := (A, I, J, D, u, tb, te, sg, se, is, ie, su, ue, sr, re, mo, me, nd, ni, nt, ne, ex, da, de, ia, ib, ta, tz, ea, eb)
def TD.A (x : TD) : Nat → Nat := x.1
def TD.I (x : TD) : Nat → Int32 := x.2.1
def TD.J (x : TD) : Nat → Int64 := x.2.2.1
def TD.D (x : TD) : Nat → Nat → Int32 := x.2.2.2.1
def TD.u (x : TD) : Nat → Nat := x.2.2.2.2.1
def TD.tb (x : TD) : Nat := x.2.2.2.2.2.1
def TD.te (x : TD) : Nat := x.2.2.2.2.2.2.1
def TD.sg (x : TD) : Nat := x.2.2.2.2.2.2.2.1
def TD.se (x : TD) : Nat := x.2.2.2.2.2.2.2.2.1
def TD.is (x : TD) : Nat := x.2.2.2.2.2.2.2.2.2.1
def TD.ie (x : TD) : Nat := x.2.2.2.2.2.2.2.2.2.2.1
def TD.su (x : TD) : Nat := x.2.2.2.2.2.2.2.2.2.2.2.1
def TD.ue (x : TD) : Nat := x.2.2.2.2.2.2.2.2.2.2.2.2.1
def TD.sr (x : TD) : Nat := x.2.2.2.2.2.2.2.2.2.2.2.2.2.1
def TD.re (x : TD) : Nat := x.2.2.2.2.2.2.2.2.2.2.2.2.2.2.1
def TD.mo (x : TD) : Nat := x.2.2.2.2.2.2.2.2.2.2.2.2.2.2.2.1
def TD.me (x : TD) : Nat := x.2.2.2.2.2.2.2.2.2.2.2.2.2.2.2.2.1
def TD.nd (x : TD) : Nat := x.2.2.2.2.2.2.2.2.2.2.2.2.2.2.2.2.2.1
def TD.ni (x : TD) : Nat := x.2.2.2.2.2.2.2.2.2.2.2.2.2.2.2.2.2.2.1
def TD.nt (x : TD) : Nat := x.2.2.2.2.2.2.2.2.2.2.2.2.2.2.2.2.2.2.2.1
def TD.ne (x : TD) : Nat := x.2.2.2.2.2.2.2.2.2.2.2.2.2.2.2.2.2.2.2.2.1
def TD.ex (x : TD) : Nat := x.2.2.2.2.2.2.2.2.2.2.2.2.2.2.2.2.2.2.2.2.2.1
def TD.da (x : TD) : Nat → Nat := x.2.2.2.2.2.2.2.2.2.2.2.2.2.2.2.2.2.2.2.2.2.2.1
def TD.de (x : TD) : Nat → Nat := x.2.2.2.2.2.2.2.2.2.2.2.2.2.2.2.2.2.2.2.2.2.2.2.1
def TD.ia (x : TD) : Nat → Nat := x.2.2.2.2.2.2.2.2.2.2.2.2.2.2.2.2.2.2.2.2.2.2.2.2.1
def TD.ib (x : TD) : Nat → Nat := x.2.2.2.2.2.2.2.2.2.2.2.2.2.2.2.2.2.2.2.2.2.2.2.2.2.1
def TD.ta (x : TD) : Nat → Nat := x.2.2.2.2.2.2.2.2.2.2.2.2.2.2.2.2.2.2.2.2.2.2.2.2.2.2.1
def TD.tz (x : TD) : Nat → Nat := x.2.2.2.2.2.2.2.2.2.2.2.2.2.2.2.2.2.2.2.2.2.2.2.2.2.2.2.1
def TD.ea (x : TD) : Nat → Nat := x.2.2.2.2.2.2.2.2.2.2.2.2.2.2.2.2.2.2.2.2.2.2.2.2.2.2.2.2.1
def TD.eb (x : TD) : Nat → Nat := x.2.2.2.2.2.2.2.2.2.2.2.2.2.2.2.2.2.2.2.2.2.2.2.2.2.2.2.2.2
/-- where an element's content begins -/
def hdr (u : Nat → Nat) (a : Nat) : Nat := if u (a + 1) = 130 then a + 4 else if u (a + 1) = 129 then a + 3 else a + 2
theorem hdr_ge (u : Nat → Nat) (a : Nat) : a + 2 ≤ hdr u a ∧ hdr u a ≤ a + 4 := by
  unfold hdr
  split
  · omega
  · split <;> omega
def tlen (j : Nat) : Nat := if j = 0 then 2048 else if j ≤ 7 then 700 else if j ≤ 9 then 200 else 400
def tcell (x : TD) : va_E := .inr (13, (.ref (x.A 0) :: .int (x.I 1) :: .int (x.I 2) :: .int (x.I 3) :: .int (x.I 4) :: .int (x.I 5) :: .int (x.I 6) :: .long (x.J 7) :: .long (x.J 8) :: .long (x.J 9) :: .int (x.I 10) :: .int (x.I 11) :: .int (x.I 12) :: .int (x.I 13) :: .int (x.I 14) :: .int (x.I 15) :: .int (x.I 16) :: .int (x.I 17) :: .int (x.I 18) :: .int (x.I 19) :: .int (x.I 20) :: .int (x.I 21) :: .int (x.I 22) :: .int (x.I 23) :: .int (x.I 24) :: .int (x.I 25) :: .int (x.I 26) :: .int (x.I 27) :: .int (x.I 28) :: .int (x.I 29) :: .int (x.I 30) :: .int (x.I 31) :: .int (x.I 32) :: .int (x.I 33) :: .int (x.I 34) :: .int (x.I 35) :: .int (x.I 36) :: .int (x.I 37) :: .int (x.I 38) :: .int (x.I 39) :: .int (x.I 40) :: .int (x.I 41) :: .int (x.I 42) :: .ref (x.A 1) :: .ref (x.A 2) :: .ref (x.A 3) :: .ref (x.A 4) :: .ref (x.A 5) :: .ref (x.A 6) :: .ref (x.A 7) :: .ref (x.A 8) :: .ref (x.A 9) :: .ref (x.A 10) :: .ref (x.A 11) :: []))
/-- rows of limbs, of quotients -/
def bR (f : Nat → Int32) : Prop := ∃ d : Nat → Nat, (∀ j, d j < 65536) ∧ f = tI d
def bQ (f : Nat → Int32) : Prop := ∃ d : Nat → Nat, (∀ j, d j < 131072) ∧ f = tI d
theorem bR_0 : bR (fun _ => 0) := ⟨fun _ => 0, fun _ => (by show (0 : Nat) < _; decide), rfl⟩
theorem and255 (x : Int32) : ∃ k, k < 256 ∧ x &&& 255 = nI k := by
  refine ⟨(x.toBitVec &&& 255#32).toNat, ?_, ?_⟩
  · rw [BitVec.toNat_and]
    exact Nat.lt_of_le_of_lt Nat.and_le_right (by decide)
  · apply Int32.toBitVec_inj.mp
    show x.toBitVec &&& 255#32 = BitVec.ofNat 32 _
    rw [BitVec.ofNat_toNat, BitVec.setWidth_eq]
theorem bR_upd {f : Nat → Int32} (h : bR f) (j k : Nat) (hk : k < 65536) : bR (upd f j (nI k)) := by
  obtain ⟨d, hd, rfl⟩ := h
  refine ⟨fun i => if i = j then k else d i, fun i => ?_, ?_⟩
  · dsimp only
    split
    · exact hk
    · exact hd i
  · funext i
    unfold upd tI
    show (if i = j then nI k else nI (d i)) = nI (if i = j then k else d i)
    by_cases e : i = j
    · rw [if_pos e, if_pos e]
    · rw [if_neg e, if_neg e]
theorem bR_255 {f : Nat → Int32} (h : bR f) (j : Nat) (x : Int32) : bR (upd f j (x &&& 255)) := by
  obtain ⟨k, hk, e⟩ := and255 x
  rw [e]
  exact bR_upd h j k (by omega)
def tOR (γ : cG) (κ : kE) (Ad : List Nat) (τ : Nat → TD) (a : Nat) (e : va_E) : Prop := match κ a with
  | (6, n, z) => n < 2 ^ 30 ∧ ∃ f : Nat → Int32, (z = 1 → ∀ j, j < 8 → f j = s0G j) ∧ (z = 2 → ∀ j, j < 64 → f j = r0G j) ∧ (z = 3 ∨ z = 5 ∨ z = 6 → bR f) ∧ (z = 4 → bQ f) ∧ e = .inl (γ.2.1, n, .inl f)
  | (18, t, j) => t ∈ Ad ∧ e = .inl (γ.2.1, tlen j, .inl ((τ t).D j))
  | (20, _, _) => (∀ j, j < 12 → tK κ Ad ((τ a).A j) (18, a, j)) ∧ e = tcell (τ a)
  | _ => True
def TR (γ : cG) (κ : kE) (Ad : List Nat) (τ : Nat → TD) (G : va_W) : Prop := (∀ a, a ∈ Ad → ∃ c, (a, c) ∈ G) ∧ ∀ q, q ∈ G → q.1 ∈ Ad → tOR γ κ Ad τ q.1 q.2
section TRS
variable {γ : cG} {κ κ' : kE} {Ad Ad' : List Nat} {τ τ' : Nat → TD} {G G' : va_W} {a : Nat} {c c' : va_E}
theorem TR.get (h : TR γ κ Ad τ G) (ha : a ∈ Ad) : ∃ (i : Nat) (c : va_E), G[i]? = some (a, c) ∧ tOR γ κ Ad τ a c := by
  obtain ⟨c, hc⟩ := h.1 a ha
  obtain ⟨i, hi⟩ := List.getElem?_of_mem hc
  exact ⟨i, c, hi, h.2 _ hc ha⟩
theorem TR.set {i : Nat} (h : TR γ κ Ad τ G) (hg : G[i]? = some (a, c)) (ho : tOR γ κ Ad τ a c') : TR γ κ Ad τ (G.set i (a, c')) := by
  refine ⟨fun b hb => ?_, fun q hq => ?_⟩
  · by_cases hab : a = b
    · subst hab
      exact ⟨c', List.mem_of_getElem? (set_here hg)⟩
    · obtain ⟨d, hd⟩ := h.1 b hb
      obtain ⟨j, hj⟩ := List.getElem?_of_mem hd
      exact ⟨d, List.mem_of_getElem? (set_keep hg hj hab)⟩
  · intro hqa
    rcases mem_set hg hq with h1 | h1
    · exact h.2 q h1 hqa
    · rw [h1]; exact ho
theorem TR.setX {i : Nat} (h : TR γ κ Ad τ G) (hg : G[i]? = some (a, c)) (ha : a ∉ Ad) : TR γ κ Ad τ (G.set i (a, c')) := by
  refine ⟨fun b hb => ?_, fun q hq hqa => ?_⟩
  · obtain ⟨d, hd⟩ := h.1 b hb
    exact ⟨d, mem_setX hg hd (fun e => ha ((show b = a from congrArg Prod.fst e) ▸ hb))⟩
  · rcases mem_set hg hq with h1 | h1
    · exact h.2 q h1 hqa
    · exact absurd hqa (by rw [h1]; exact ha)
theorem tr_6 (h : TR γ κ Ad τ G) {n z : Nat} (ha : tK κ Ad a (6, n, z)) : ∃ (i : Nat) (f : Nat → Int32), n < 2 ^ 30 ∧ G[i]? = some (a, .inl (γ.2.1, n, .inl f)) := by
  obtain ⟨i, c, hg, ho⟩ := h.get ha.1
  unfold tOR at ho
  rw [ha.2] at ho
  obtain ⟨h1, f, -, -, -, -, h2⟩ := ho
  exact ⟨i, f, h1, by rw [hg, h2]⟩
theorem tr_61 (h : TR γ κ Ad τ G) {n : Nat} (ha : tK κ Ad a (6, n, 1)) : ∃ f : Nat → Int32, (∀ j, j < 8 → f j = s0G j) ∧ (a, (.inl (γ.2.1, n, .inl f) : va_E)) ∈ G := by
  obtain ⟨i, c, hg, ho⟩ := h.get ha.1
  unfold tOR at ho
  rw [ha.2] at ho
  obtain ⟨h1, f, h3, -, -, -, h2⟩ := ho
  exact ⟨f, h3 rfl, by rw [← h2]; exact List.mem_of_getElem? hg⟩
theorem tr_62 (h : TR γ κ Ad τ G) {n : Nat} (ha : tK κ Ad a (6, n, 2)) : ∃ f : Nat → Int32, (∀ j, j < 64 → f j = r0G j) ∧ (a, (.inl (γ.2.1, n, .inl f) : va_E)) ∈ G := by
  obtain ⟨i, c, hg, ho⟩ := h.get ha.1
  unfold tOR at ho
  rw [ha.2] at ho
  obtain ⟨h1, f, -, h3, -, -, h2⟩ := ho
  exact ⟨f, h3 rfl, by rw [← h2]; exact List.mem_of_getElem? hg⟩
theorem tr_63x (h : TR γ κ Ad τ G) {n z : Nat} (ha : tK κ Ad a (6, n, z)) (hz : z = 3 ∨ z = 5 ∨ z = 6) : ∃ (i : Nat) (f : Nat → Int32), bR f ∧ n < 2 ^ 30 ∧ G[i]? = some (a, .inl (γ.2.1, n, .inl f)) := by
  obtain ⟨i, c, hg, ho⟩ := h.get ha.1
  unfold tOR at ho
  rw [ha.2] at ho
  obtain ⟨h1, f, -, -, h3, -, h2⟩ := ho
  exact ⟨i, f, h3 hz, h1, by rw [hg, h2]⟩
theorem tr_63 (h : TR γ κ Ad τ G) {n z : Nat} (ha : tK κ Ad a (6, n, z)) (hz : z = 3 ∨ z = 5 ∨ z = 6) : ∃ d : Nat → Nat, (∀ j, d j < 65536) ∧ (a, (.inl (γ.2.1, n, .inl (tI d)) : va_E)) ∈ G := by
  obtain ⟨i, f, ⟨d, hd, rfl⟩, -, hg⟩ := tr_63x h ha hz
  exact ⟨d, hd, List.mem_of_getElem? hg⟩
theorem tr_64 (h : TR γ κ Ad τ G) {n : Nat} (ha : tK κ Ad a (6, n, 4)) : ∃ d : Nat → Nat, (∀ j, d j < 131072) ∧ (a, (.inl (γ.2.1, n, .inl (tI d)) : va_E)) ∈ G := by
  obtain ⟨i, c, hg, ho⟩ := h.get ha.1
  unfold tOR at ho
  rw [ha.2] at ho
  obtain ⟨h1, f, -, -, -, h3, h2⟩ := ho
  obtain ⟨d, hd, rfl⟩ := h3 rfl
  exact ⟨d, hd, by rw [← h2]; exact List.mem_of_getElem? hg⟩
theorem okr_6 {n : Nat} (ha : tK κ Ad a (6, n, 0)) (hn : n < 2 ^ 30) (f : Nat → Int32) : tOR γ κ Ad τ a (.inl (γ.2.1, n, .inl f)) := by
  unfold tOR
  rw [ha.2]
  exact ⟨hn, f, fun e => absurd e (by decide), fun e => absurd e (by decide), fun e => absurd e (by decide), fun e => absurd e (by decide), rfl⟩
theorem okr_63f {n z : Nat} (ha : tK κ Ad a (6, n, z)) (hz : z = 3 ∨ z = 5 ∨ z = 6) (hn : n < 2 ^ 30) {f : Nat → Int32} (hf : bR f) : tOR γ κ Ad τ a (.inl (γ.2.1, n, .inl f)) := by
  unfold tOR
  rw [ha.2]
  exact ⟨hn, f, fun e => absurd e (by omega), fun e => absurd e (by omega), fun _ => hf, fun e => absurd e (by omega), rfl⟩
theorem okr_63 {n z : Nat} (ha : tK κ Ad a (6, n, z)) (hz : z = 3 ∨ z = 5 ∨ z = 6) (hn : n < 2 ^ 30) {d : Nat → Nat} (hd : ∀ j, d j < 65536) : tOR γ κ Ad τ a (.inl (γ.2.1, n, .inl (tI d))) := okr_63f ha hz hn ⟨d, hd, rfl⟩
theorem okr_64 {n : Nat} (ha : tK κ Ad a (6, n, 4)) (hn : n < 2 ^ 30) {d : Nat → Nat} (hd : ∀ j, d j < 131072) : tOR γ κ Ad τ a (.inl (γ.2.1, n, .inl (tI d))) := by
  unfold tOR
  rw [ha.2]
  exact ⟨hn, _, fun e => absurd e (by decide), fun e => absurd e (by decide), fun e => absurd e (by decide), fun _ => ⟨d, hd, rfl⟩, rfl⟩
theorem tr_18 (h : TR γ κ Ad τ G) {t j : Nat} (ha : tK κ Ad a (18, t, j)) : ∃ i : Nat, G[i]? = some (a, .inl (γ.2.1, tlen j, .inl ((τ t).D j))) := by
  obtain ⟨i, c, hg, ho⟩ := h.get ha.1
  unfold tOR at ho
  rw [ha.2] at ho
  exact ⟨i, by rw [hg, ho.2]⟩
theorem tr_20 (h : TR γ κ Ad τ G) (ha : tK κ Ad a (20, 0, 0)) : ∃ i : Nat, (∀ j, j < 12 → tK κ Ad ((τ a).A j) (18, a, j)) ∧ G[i]? = some (a, .inr (13, (.ref ((τ a).A 0) :: .int ((τ a).I 1) :: .int ((τ a).I 2) :: .int ((τ a).I 3) :: .int ((τ a).I 4) :: .int ((τ a).I 5) :: .int ((τ a).I 6) :: .long ((τ a).J 7) :: .long ((τ a).J 8) :: .long ((τ a).J 9) :: .int ((τ a).I 10) :: .int ((τ a).I 11) :: .int ((τ a).I 12) :: .int ((τ a).I 13) :: .int ((τ a).I 14) :: .int ((τ a).I 15) :: .int ((τ a).I 16) :: .int ((τ a).I 17) :: .int ((τ a).I 18) :: .int ((τ a).I 19) :: .int ((τ a).I 20) :: .int ((τ a).I 21) :: .int ((τ a).I 22) :: .int ((τ a).I 23) :: .int ((τ a).I 24) :: .int ((τ a).I 25) :: .int ((τ a).I 26) :: .int ((τ a).I 27) :: .int ((τ a).I 28) :: .int ((τ a).I 29) :: .int ((τ a).I 30) :: .int ((τ a).I 31) :: .int ((τ a).I 32) :: .int ((τ a).I 33) :: .int ((τ a).I 34) :: .int ((τ a).I 35) :: .int ((τ a).I 36) :: .int ((τ a).I 37) :: .int ((τ a).I 38) :: .int ((τ a).I 39) :: .int ((τ a).I 40) :: .int ((τ a).I 41) :: .int ((τ a).I 42) :: .ref ((τ a).A 1) :: .ref ((τ a).A 2) :: .ref ((τ a).A 3) :: .ref ((τ a).A 4) :: .ref ((τ a).A 5) :: .ref ((τ a).A 6) :: .ref ((τ a).A 7) :: .ref ((τ a).A 8) :: .ref ((τ a).A 9) :: .ref ((τ a).A 10) :: .ref ((τ a).A 11) :: []))) := by
  obtain ⟨i, c, hg, ho⟩ := h.get ha.1
  unfold tOR at ho
  rw [ha.2] at ho
  exact ⟨i, ho.1, by rw [hg, ho.2]; rfl⟩
/-- kinds that grow, Texts that stay -/
theorem tOR.mono {e : va_E} (h : tOR γ κ Ad τ a e) (hk : ∀ b, b ∈ Ad → κ' b = κ b) (hA : ∀ b, b ∈ Ad → b ∈ Ad') (ha : a ∈ Ad) (ht : ∀ b, b ∈ Ad → τ' b = τ b) : tOR γ κ' Ad' τ' a e := by
  unfold tOR at h ⊢
  rw [hk a ha]
  have hq := ht a ha
  revert h
  generalize κ a = k
  obtain ⟨c, p, q⟩ := k
  intro h
  match c, h with
  | 6, h => exact h
  | 18, h => exact ⟨hA _ h.1, by rw [ht _ h.1]; exact h.2⟩
  | 20, h => rw [hq]; exact ⟨fun j hj => ⟨hA _ (h.1 j hj).1, by rw [hk _ (h.1 j hj).1]; exact (h.1 j hj).2⟩, h.2⟩
  | 0, _ => exact True.intro
  | 1, _ => exact True.intro
  | 2, _ => exact True.intro
  | 3, _ => exact True.intro
  | 4, _ => exact True.intro
  | 5, _ => exact True.intro
  | 7, _ => exact True.intro
  | 8, _ => exact True.intro
  | 9, _ => exact True.intro
  | 10, _ => exact True.intro
  | 11, _ => exact True.intro
  | 12, _ => exact True.intro
  | 13, _ => exact True.intro
  | 14, _ => exact True.intro
  | 15, _ => exact True.intro
  | 16, _ => exact True.intro
  | 17, _ => exact True.intro
  | 19, _ => exact True.intro
  | n + 21, _ => exact True.intro
/-- the world changes, but not where the kinds lie -/
theorem TR.keep {A : Nat → Prop} (h : TR γ κ Ad τ G) (hD : va_D A G') (hk : ∀ q, q.1 ∈ Ad → q ∈ G → q ∈ G') : TR γ κ Ad τ G' := by
  refine ⟨fun b hb => ?_, fun q hq hqa => ?_⟩
  · obtain ⟨d, hd⟩ := h.1 b hb
    exact ⟨d, hk _ hb hd⟩
  · obtain ⟨b, e9⟩ := q
    obtain ⟨d, hd⟩ := h.1 b hqa
    have h1 := hk (b, d) hqa hd
    obtain ⟨i, hi⟩ := List.getElem?_of_mem hq
    obtain ⟨j, hj⟩ := List.getElem?_of_mem h1
    have e : i = j := hD.1 i j _ _ hi hj rfl
    subst e
    rw [hi] at hj
    obtain rfl : e9 = d := congrArg Prod.snd (Option.some.inj hj)
    exact h.2 _ hd hqa
end TRS
/-- what a reading leaves behind, of a certificate and of a list -/
def TB (x : TD) : Prop := (∀ j, x.u j < 256) ∧ (x.D 0 = tI x.u) ∧ (x.I 12 = nI x.is) ∧ (x.I 13 = nI x.ie) ∧ (x.I 21 = nI x.tb) ∧ (x.I 22 = nI x.te) ∧ (x.I 23 = nI x.sg) ∧ (x.I 24 = nI x.se) ∧ (x.tb ≤ x.te ∧ x.te ≤ 2048) ∧ (2 ≤ x.sg ∧ x.sg ≤ x.se ∧ x.se ≤ 2048) ∧ (x.is ≤ x.ie ∧ x.ie ≤ 2048) ∧ (x.I 33 < 0 ∨ ∃ a b, x.I 33 = nI a ∧ x.I 34 = nI b ∧ a ≤ b ∧ b ≤ 2048)
theorem TB.hu {x : TD} (h : TB x) : ∀ j, x.u j < 256 := h.1
theorem TB.d {x : TD} (h : TB x) : x.D 0 = tI x.u := h.2.1
theorem TB.e12 {x : TD} (h : TB x) : x.I 12 = nI x.is := h.2.2.1
theorem TB.e13 {x : TD} (h : TB x) : x.I 13 = nI x.ie := h.2.2.2.1
theorem TB.e21 {x : TD} (h : TB x) : x.I 21 = nI x.tb := h.2.2.2.2.1
theorem TB.e22 {x : TD} (h : TB x) : x.I 22 = nI x.te := h.2.2.2.2.2.1
theorem TB.e23 {x : TD} (h : TB x) : x.I 23 = nI x.sg := h.2.2.2.2.2.2.1
theorem TB.e24 {x : TD} (h : TB x) : x.I 24 = nI x.se := h.2.2.2.2.2.2.2.1
theorem TB.b1 {x : TD} (h : TB x) : x.tb ≤ x.te ∧ x.te ≤ 2048 := h.2.2.2.2.2.2.2.2.1
theorem TB.b2 {x : TD} (h : TB x) : 2 ≤ x.sg ∧ x.sg ≤ x.se ∧ x.se ≤ 2048 := h.2.2.2.2.2.2.2.2.2.1
theorem TB.b3 {x : TD} (h : TB x) : x.is ≤ x.ie ∧ x.ie ≤ 2048 := h.2.2.2.2.2.2.2.2.2.2.1
theorem TB.k1 {x : TD} (h : TB x) : x.I 33 < 0 ∨ ∃ a b, x.I 33 = nI a ∧ x.I 34 = nI b ∧ a ≤ b ∧ b ≤ 2048 := h.2.2.2.2.2.2.2.2.2.2.2
theorem TB.of {x : TD} (hu : ∀ j, x.u j < 256) (d : x.D 0 = tI x.u) (e12 : x.I 12 = nI x.is) (e13 : x.I 13 = nI x.ie) (e21 : x.I 21 = nI x.tb) (e22 : x.I 22 = nI x.te) (e23 : x.I 23 = nI x.sg) (e24 : x.I 24 = nI x.se) (b1 : x.tb ≤ x.te ∧ x.te ≤ 2048) (b2 : 2 ≤ x.sg ∧ x.sg ≤ x.se ∧ x.se ≤ 2048) (b3 : x.is ≤ x.ie ∧ x.ie ≤ 2048) (k1 : x.I 33 < 0 ∨ ∃ a b, x.I 33 = nI a ∧ x.I 34 = nI b ∧ a ≤ b ∧ b ≤ 2048) : TB x := ⟨hu, d, e12, e13, e21, e22, e23, e24, b1, b2, b3, k1⟩
def TC (x : TD) : Prop := TB x ∧ ((x.I 10 = nI x.sr) ∧ (x.I 11 = nI x.re) ∧ (x.I 14 = nI x.su) ∧ (x.I 15 = nI x.ue) ∧ (x.I 18 = nI x.mo) ∧ (x.I 19 = nI x.me) ∧ (x.I 20 = nI x.ex) ∧ (x.I 27 = nI x.nd) ∧ (x.I 28 = nI x.ni) ∧ (x.I 35 = nI x.nt) ∧ (x.sr ≤ x.re ∧ x.re ≤ 2048) ∧ (hdr x.u x.su ≤ x.ue ∧ x.ue ≤ 2048) ∧ (2 ≤ x.mo ∧ x.mo + 62 ≤ x.me ∧ x.me ≤ x.mo + 256 ∧ x.me ≤ 2048) ∧ (1 ≤ x.u x.mo) ∧ (3 ≤ x.ex ∧ x.ex < 2 ^ 31) ∧ (x.nd ≤ 700 ∧ x.ni ≤ 700 ∧ x.nt ≤ 700) ∧ (x.I 31 < 0 ∨ ∃ a b, x.I 31 = nI a ∧ x.I 32 = nI b ∧ a ≤ b ∧ b ≤ 2048) ∧ (b01 (x.I 40)) ∧ (b01 (x.I 42)) ∧ (∀ i, i < x.nd → x.D 1 i = nI (x.da i) ∧ x.D 2 i = nI (x.de i) ∧ x.da i ≤ x.de i ∧ x.de i ≤ 2048) ∧ (∀ i, i < x.ni → x.D 3 i = nI (x.ia i) ∧ x.D 4 i = nI (x.ib i) ∧ hdr x.u (x.ia i) ≤ x.ib i ∧ x.ib i ≤ 2048) ∧ (∀ i, i < x.nt → x.D 5 i = nI (x.ta i) ∧ x.D 6 i = nI (x.tz i) ∧ x.ta i ≤ x.tz i ∧ x.tz i ≤ 2048 ∧ (x.D 7 i &&& 1 = 1 → hdr x.u (x.ta i) ≤ x.tz i)))
theorem TC.toTB {x : TD} (h : TC x) : TB x := h.1
theorem TC.e10 {x : TD} (h : TC x) : x.I 10 = nI x.sr := h.2.1
theorem TC.e11 {x : TD} (h : TC x) : x.I 11 = nI x.re := h.2.2.1
theorem TC.e14 {x : TD} (h : TC x) : x.I 14 = nI x.su := h.2.2.2.1
theorem TC.e15 {x : TD} (h : TC x) : x.I 15 = nI x.ue := h.2.2.2.2.1
theorem TC.e18 {x : TD} (h : TC x) : x.I 18 = nI x.mo := h.2.2.2.2.2.1
theorem TC.e19 {x : TD} (h : TC x) : x.I 19 = nI x.me := h.2.2.2.2.2.2.1
theorem TC.e20 {x : TD} (h : TC x) : x.I 20 = nI x.ex := h.2.2.2.2.2.2.2.1
theorem TC.e27 {x : TD} (h : TC x) : x.I 27 = nI x.nd := h.2.2.2.2.2.2.2.2.1
theorem TC.e28 {x : TD} (h : TC x) : x.I 28 = nI x.ni := h.2.2.2.2.2.2.2.2.2.1
theorem TC.e35 {x : TD} (h : TC x) : x.I 35 = nI x.nt := h.2.2.2.2.2.2.2.2.2.2.1
theorem TC.b4 {x : TD} (h : TC x) : x.sr ≤ x.re ∧ x.re ≤ 2048 := h.2.2.2.2.2.2.2.2.2.2.2.1
theorem TC.b5 {x : TD} (h : TC x) : hdr x.u x.su ≤ x.ue ∧ x.ue ≤ 2048 := h.2.2.2.2.2.2.2.2.2.2.2.2.1
theorem TC.b6 {x : TD} (h : TC x) : 2 ≤ x.mo ∧ x.mo + 62 ≤ x.me ∧ x.me ≤ x.mo + 256 ∧ x.me ≤ 2048 := h.2.2.2.2.2.2.2.2.2.2.2.2.2.1
theorem TC.b7 {x : TD} (h : TC x) : 1 ≤ x.u x.mo := h.2.2.2.2.2.2.2.2.2.2.2.2.2.2.1
theorem TC.b8 {x : TD} (h : TC x) : 3 ≤ x.ex ∧ x.ex < 2 ^ 31 := h.2.2.2.2.2.2.2.2.2.2.2.2.2.2.2.1
theorem TC.b9 {x : TD} (h : TC x) : x.nd ≤ 700 ∧ x.ni ≤ 700 ∧ x.nt ≤ 700 := h.2.2.2.2.2.2.2.2.2.2.2.2.2.2.2.2.1
theorem TC.k2 {x : TD} (h : TC x) : x.I 31 < 0 ∨ ∃ a b, x.I 31 = nI a ∧ x.I 32 = nI b ∧ a ≤ b ∧ b ≤ 2048 := h.2.2.2.2.2.2.2.2.2.2.2.2.2.2.2.2.2.1
theorem TC.c1 {x : TD} (h : TC x) : b01 (x.I 40) := h.2.2.2.2.2.2.2.2.2.2.2.2.2.2.2.2.2.2.1
theorem TC.c2 {x : TD} (h : TC x) : b01 (x.I 42) := h.2.2.2.2.2.2.2.2.2.2.2.2.2.2.2.2.2.2.2.1
theorem TC.l1 {x : TD} (h : TC x) : ∀ i, i < x.nd → x.D 1 i = nI (x.da i) ∧ x.D 2 i = nI (x.de i) ∧ x.da i ≤ x.de i ∧ x.de i ≤ 2048 := h.2.2.2.2.2.2.2.2.2.2.2.2.2.2.2.2.2.2.2.2.1
theorem TC.l2 {x : TD} (h : TC x) : ∀ i, i < x.ni → x.D 3 i = nI (x.ia i) ∧ x.D 4 i = nI (x.ib i) ∧ hdr x.u (x.ia i) ≤ x.ib i ∧ x.ib i ≤ 2048 := h.2.2.2.2.2.2.2.2.2.2.2.2.2.2.2.2.2.2.2.2.2.1
theorem TC.l3 {x : TD} (h : TC x) : ∀ i, i < x.nt → x.D 5 i = nI (x.ta i) ∧ x.D 6 i = nI (x.tz i) ∧ x.ta i ≤ x.tz i ∧ x.tz i ≤ 2048 ∧ (x.D 7 i &&& 1 = 1 → hdr x.u (x.ta i) ≤ x.tz i) := h.2.2.2.2.2.2.2.2.2.2.2.2.2.2.2.2.2.2.2.2.2.2
theorem TC.hu {x : TD} (h : TC x) : ∀ j, x.u j < 256 := h.toTB.hu
theorem TC.d {x : TD} (h : TC x) : x.D 0 = tI x.u := h.toTB.d
theorem TC.e12 {x : TD} (h : TC x) : x.I 12 = nI x.is := h.toTB.e12
theorem TC.e13 {x : TD} (h : TC x) : x.I 13 = nI x.ie := h.toTB.e13
theorem TC.e21 {x : TD} (h : TC x) : x.I 21 = nI x.tb := h.toTB.e21
theorem TC.e22 {x : TD} (h : TC x) : x.I 22 = nI x.te := h.toTB.e22
theorem TC.e23 {x : TD} (h : TC x) : x.I 23 = nI x.sg := h.toTB.e23
theorem TC.e24 {x : TD} (h : TC x) : x.I 24 = nI x.se := h.toTB.e24
theorem TC.b1 {x : TD} (h : TC x) : x.tb ≤ x.te ∧ x.te ≤ 2048 := h.toTB.b1
theorem TC.b2 {x : TD} (h : TC x) : 2 ≤ x.sg ∧ x.sg ≤ x.se ∧ x.se ≤ 2048 := h.toTB.b2
theorem TC.b3 {x : TD} (h : TC x) : x.is ≤ x.ie ∧ x.ie ≤ 2048 := h.toTB.b3
theorem TC.k1 {x : TD} (h : TC x) : x.I 33 < 0 ∨ ∃ a b, x.I 33 = nI a ∧ x.I 34 = nI b ∧ a ≤ b ∧ b ≤ 2048 := h.toTB.k1
theorem TC.of {x : TD} (hu : ∀ j, x.u j < 256) (d : x.D 0 = tI x.u) (e12 : x.I 12 = nI x.is) (e13 : x.I 13 = nI x.ie) (e21 : x.I 21 = nI x.tb) (e22 : x.I 22 = nI x.te) (e23 : x.I 23 = nI x.sg) (e24 : x.I 24 = nI x.se) (b1 : x.tb ≤ x.te ∧ x.te ≤ 2048) (b2 : 2 ≤ x.sg ∧ x.sg ≤ x.se ∧ x.se ≤ 2048) (b3 : x.is ≤ x.ie ∧ x.ie ≤ 2048) (k1 : x.I 33 < 0 ∨ ∃ a b, x.I 33 = nI a ∧ x.I 34 = nI b ∧ a ≤ b ∧ b ≤ 2048) (e10 : x.I 10 = nI x.sr) (e11 : x.I 11 = nI x.re) (e14 : x.I 14 = nI x.su) (e15 : x.I 15 = nI x.ue) (e18 : x.I 18 = nI x.mo) (e19 : x.I 19 = nI x.me) (e20 : x.I 20 = nI x.ex) (e27 : x.I 27 = nI x.nd) (e28 : x.I 28 = nI x.ni) (e35 : x.I 35 = nI x.nt) (b4 : x.sr ≤ x.re ∧ x.re ≤ 2048) (b5 : hdr x.u x.su ≤ x.ue ∧ x.ue ≤ 2048) (b6 : 2 ≤ x.mo ∧ x.mo + 62 ≤ x.me ∧ x.me ≤ x.mo + 256 ∧ x.me ≤ 2048) (b7 : 1 ≤ x.u x.mo) (b8 : 3 ≤ x.ex ∧ x.ex < 2 ^ 31) (b9 : x.nd ≤ 700 ∧ x.ni ≤ 700 ∧ x.nt ≤ 700) (k2 : x.I 31 < 0 ∨ ∃ a b, x.I 31 = nI a ∧ x.I 32 = nI b ∧ a ≤ b ∧ b ≤ 2048) (c1 : b01 (x.I 40)) (c2 : b01 (x.I 42)) (l1 : ∀ i, i < x.nd → x.D 1 i = nI (x.da i) ∧ x.D 2 i = nI (x.de i) ∧ x.da i ≤ x.de i ∧ x.de i ≤ 2048) (l2 : ∀ i, i < x.ni → x.D 3 i = nI (x.ia i) ∧ x.D 4 i = nI (x.ib i) ∧ hdr x.u (x.ia i) ≤ x.ib i ∧ x.ib i ≤ 2048) (l3 : ∀ i, i < x.nt → x.D 5 i = nI (x.ta i) ∧ x.D 6 i = nI (x.tz i) ∧ x.ta i ≤ x.tz i ∧ x.tz i ≤ 2048 ∧ (x.D 7 i &&& 1 = 1 → hdr x.u (x.ta i) ≤ x.tz i)) : TC x := ⟨⟨hu, d, e12, e13, e21, e22, e23, e24, b1, b2, b3, k1⟩, e10, e11, e14, e15, e18, e19, e20, e27, e28, e35, b4, b5, b6, b7, b8, b9, k2, c1, c2, l1, l2, l3⟩
def TL (x : TD) : Prop := TB x ∧ ((x.I 36 = nI x.ne) ∧ (x.ne ≤ 200) ∧ (∀ i, i < x.ne → x.D 8 i = nI (x.ea i) ∧ x.D 9 i = nI (x.eb i) ∧ x.ea i ≤ x.eb i ∧ x.eb i ≤ 2048))
theorem TL.toTB {x : TD} (h : TL x) : TB x := h.1
theorem TL.e36 {x : TD} (h : TL x) : x.I 36 = nI x.ne := h.2.1
theorem TL.b4 {x : TD} (h : TL x) : x.ne ≤ 200 := h.2.2.1
theorem TL.l1 {x : TD} (h : TL x) : ∀ i, i < x.ne → x.D 8 i = nI (x.ea i) ∧ x.D 9 i = nI (x.eb i) ∧ x.ea i ≤ x.eb i ∧ x.eb i ≤ 2048 := h.2.2.2
theorem TL.hu {x : TD} (h : TL x) : ∀ j, x.u j < 256 := h.toTB.hu
theorem TL.d {x : TD} (h : TL x) : x.D 0 = tI x.u := h.toTB.d
theorem TL.e12 {x : TD} (h : TL x) : x.I 12 = nI x.is := h.toTB.e12
theorem TL.e13 {x : TD} (h : TL x) : x.I 13 = nI x.ie := h.toTB.e13
theorem TL.e21 {x : TD} (h : TL x) : x.I 21 = nI x.tb := h.toTB.e21
theorem TL.e22 {x : TD} (h : TL x) : x.I 22 = nI x.te := h.toTB.e22
theorem TL.e23 {x : TD} (h : TL x) : x.I 23 = nI x.sg := h.toTB.e23
theorem TL.e24 {x : TD} (h : TL x) : x.I 24 = nI x.se := h.toTB.e24
theorem TL.b1 {x : TD} (h : TL x) : x.tb ≤ x.te ∧ x.te ≤ 2048 := h.toTB.b1
theorem TL.b2 {x : TD} (h : TL x) : 2 ≤ x.sg ∧ x.sg ≤ x.se ∧ x.se ≤ 2048 := h.toTB.b2
theorem TL.b3 {x : TD} (h : TL x) : x.is ≤ x.ie ∧ x.ie ≤ 2048 := h.toTB.b3
theorem TL.k1 {x : TD} (h : TL x) : x.I 33 < 0 ∨ ∃ a b, x.I 33 = nI a ∧ x.I 34 = nI b ∧ a ≤ b ∧ b ≤ 2048 := h.toTB.k1
theorem TL.of {x : TD} (hu : ∀ j, x.u j < 256) (d : x.D 0 = tI x.u) (e12 : x.I 12 = nI x.is) (e13 : x.I 13 = nI x.ie) (e21 : x.I 21 = nI x.tb) (e22 : x.I 22 = nI x.te) (e23 : x.I 23 = nI x.sg) (e24 : x.I 24 = nI x.se) (b1 : x.tb ≤ x.te ∧ x.te ≤ 2048) (b2 : 2 ≤ x.sg ∧ x.sg ≤ x.se ∧ x.se ≤ 2048) (b3 : x.is ≤ x.ie ∧ x.ie ≤ 2048) (k1 : x.I 33 < 0 ∨ ∃ a b, x.I 33 = nI a ∧ x.I 34 = nI b ∧ a ≤ b ∧ b ≤ 2048) (e36 : x.I 36 = nI x.ne) (b4 : x.ne ≤ 200) (l1 : ∀ i, i < x.ne → x.D 8 i = nI (x.ea i) ∧ x.D 9 i = nI (x.eb i) ∧ x.ea i ≤ x.eb i ∧ x.eb i ≤ 2048) : TL x := ⟨⟨hu, d, e12, e13, e21, e22, e23, e24, b1, b2, b3, k1⟩, e36, b4, l1⟩
/-- the two rows of Texts: the first K are certificates (lists) -/
def STc (κ : kE) (Ad : List Nat) (τ : Nat → TD) (K : Nat) (f : Nat → Option Nat) : Prop := ∀ i, i < K → ∃ t, f i = some t ∧ tK κ Ad t (20, 0, 0) ∧ TC (τ t)
def STl (κ : kE) (Ad : List Nat) (τ : Nat → TD) (K : Nat) (f : Nat → Option Nat) : Prop := ∀ i, i < K → ∃ t, f i = some t ∧ tK κ Ad t (20, 0, 0) ∧ TL (τ t)
