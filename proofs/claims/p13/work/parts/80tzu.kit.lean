/-! What cells hold, read off the cells themselves; contents of slices, lists, certificates (p11 to p13; draft). -/
def rfN : Value → Nat
  | .ref a => a
  | _ => 0
def inN : Value → Nat
  | .int x => x.toNatClampNeg
  | _ => 0
/-- what omega says of a new cell -/
noncomputable def omC : va_E → List Nat
  | .inl (_, n, .inl f) => @ite _ (∀ j, f j = 0) (Classical.propDecidable _) [] ((List.range n).map (fun j => (f j).toBitVec.toNat % 256))
  | .inl (_, n, .inr (.inr (.inr (.inr f)))) => (List.range n).map (fun j => (f j).getD 0)
  | .inl _ => []
  | .inr (0, fs) => [rfN (fs.getD 0 (.int 0)), inN (fs.getD 1 (.int 0))]
  | .inr (1, fs) => [rfN (fs.getD 0 (.int 0)), rfN (fs.getD 1 (.int 0))]
  | .inr (2, fs) => [rfN (fs.getD 0 (.int 0)), rfN (fs.getD 1 (.int 0)), 0, rfN (fs.getD 4 (.int 0)), rfN (fs.getD 2 (.int 0)), rfN (fs.getD 5 (.int 0))]
  | .inr (3, fs) => [rfN (fs.getD 19 (.int 0)), rfN (fs.getD 20 (.int 0)), rfN (fs.getD 5 (.int 0)), rfN (fs.getD 23 (.int 0)), rfN (fs.getD 0 (.int 0)), rfN (fs.getD 1 (.int 0)), rfN (fs.getD 2 (.int 0)), rfN (fs.getD 3 (.int 0)), rfN (fs.getD 4 (.int 0)), rfN (fs.getD 6 (.int 0)), rfN (fs.getD 7 (.int 0)), rfN (fs.getD 24 (.int 0)), rfN (fs.getD 21 (.int 0))]
  | .inr (11, fs) => [rfN (fs.getD 0 (.int 0))]
  | .inr _ => []
theorem sb_b8 : ∀ x : Fin 256, (sb_b x.val).toBitVec.toNat % 256 = x.val := by decide +kernel
theorem sb_b9 {x : Nat} (h : x < 256) : (sb_b x).toBitVec.toNat % 256 = x := sb_b8 ⟨x, h⟩
theorem omC_tx {c : ClassId} {n : Nat} {u : Nat → Nat} (hu : ∀ j, u j < 256) : ∀ j, j < n → u j = (omC (.inl (c, n, .inl (tx u)))).getD j 0 := fun j hj => by
  show u j = (@ite _ (∀ j, tx u j = 0) (Classical.propDecidable _) [] ((List.range n).map (fun j => (tx u j).toBitVec.toNat % 256))).getD j 0
  by_cases h : ∀ j, tx u j = 0
  · rw [if_pos h]
    have h1 : sb_b (u j) = 0 := h j
    have h2 := sb_b9 (hu j)
    rw [h1] at h2
    have h3 : u j = 0 := h2.symm.trans (by decide)
    exact h3.trans (by simp)
  · rw [if_neg h, ← gD_map (fun j => (tx u j).toBitVec.toNat % 256) n j hj]
    exact (sb_b9 (hu j)).symm
theorem omC_zr {c : ClassId} {n : Nat} : omC (.inl (c, n, .inl (fun _ => 0))) = [] := if_pos (fun _ => rfl)
theorem omC_ar {c : ClassId} {n i q : Nat} {f : Nat → Option Nat} (hi : i < n) (h : f i = some q) : q = (omC (.inl (c, n, .inr (.inr (.inr (.inr f)))))).getD i 0 := by
  show q = ((List.range n).map (fun j => (f j).getD 0)).getD i 0
  rw [← gD_map (fun j => (f j).getD 0) n i hi, h]
  rfl
theorem omC_sl {t a : Nat} {v : Value} (ha : a < 2 ^ 31) : omC (.inr (0, [.ref t, .int (nI a), v])) = [t, a] := by
  show [t, (nI a).toNatClampNeg] = [t, a]
  rw [nI_clamp ha]
/-- contents of all cells without a kind -/
theorem ex_omW {A : Nat → Prop} (Ad : List Nat) (ω : Nat → List Nat) {W : va_W} (hD : va_D A W) : ∃ z : Nat → List Nat, (∀ b, b ∈ Ad → z b = ω b) ∧ ∀ q, q ∈ W → q.1 ∉ Ad → z q.1 = omC q.2 := by
  classical
  refine ⟨fun b => if b ∈ Ad then ω b else if h : ∃ c, (b, c) ∈ W then omC h.choose else [], fun b hb => if_pos hb, fun q hq hn => ?_⟩
  have hex : ∃ c, (q.1, c) ∈ W := ⟨q.2, hq⟩
  show (if q.1 ∈ Ad then ω q.1 else if h : ∃ c, (q.1, c) ∈ W then omC h.choose else []) = omC q.2
  rw [if_neg hn, dif_pos hex]
  obtain ⟨i, hi⟩ := List.getElem?_of_mem hq
  obtain ⟨j, hj⟩ := List.getElem?_of_mem hex.choose_spec
  have e := hD.1 i j _ _ hi hj rfl
  subst e
  rw [hi] at hj
  have e2 := congrArg Prod.snd (Option.some.inj hj)
  exact congrArg omC e2.symm
/-- the octets of a text from a place on -/
def rgM (u : Nat → Nat) (f len : Nat) : List Nat := (List.range len).map (fun j => u (f + j))
theorem rgM_len (u : Nat → Nat) (f len : Nat) : (rgM u f len).length = len := by
  unfold rgM
  rw [List.length_map, List.length_range]
theorem rgM_at {u : Nat → Nat} {f len j : Nat} (hj : j < len) : (rgM u f len).getD j 0 = u (f + j) := (gD_map (fun j => u (f + j)) len j hj).symm
theorem rgM_c {u v : Nat → Nat} {f g len : Nat} (h : ∀ j, j < len → u (f + j) = v (g + j)) : rgM u f len = rgM v g len := by
  unfold rgM
  exact List.map_congr_left (fun j hj => h j (List.mem_range.mp hj))
theorem rgM_eq {u v : Nat → Nat} {f g n m : Nat} : rgM u f n = rgM v g m ↔ n = m ∧ eqN u v f g n := by
  constructor
  · intro h
    have e : n = m := by rw [← rgM_len u f n, h, rgM_len]
    subst e
    refine ⟨rfl, fun j hj => ?_⟩
    rw [← rgM_at (u := u) hj, h, rgM_at hj]
  · rintro ⟨rfl, h⟩
    exact rgM_c h
theorem rgM_tk {u : Nat → Nat} {f n m : Nat} (h : m ≤ n) : (rgM u f n).take m = rgM u f m := by
  unfold rgM
  rw [← List.map_take, List.take_range, Nat.min_eq_left h]
theorem rgM_pf {u v : Nat → Nat} {f g n m : Nat} : rgM v g m <+: rgM u f n ↔ m ≤ n ∧ eqN u v f g m := by
  constructor
  · intro h
    have hl : m ≤ n := by
      have := h.length_le
      rw [rgM_len, rgM_len] at this
      exact this
    refine ⟨hl, ?_⟩
    have e := List.prefix_iff_eq_take.mp h
    rw [rgM_len, rgM_tk hl] at e
    exact fun j hj => ((rgM_eq.mp e).2 j hj).symm
  · rintro ⟨hl, h⟩
    rw [List.prefix_iff_eq_take, rgM_len, rgM_tk hl]
    exact rgM_eq.mpr ⟨rfl, fun j hj => (h j hj).symm⟩
/-- what a slice holds -/
def sO (κ : kE) (ω : Nat → List Nat) (s : Nat) : List Nat := rgM (fun j => (ω ((ω s).getD 0 0)).getD j 0) ((ω s).getD 1 0) (κ s).2.1
/-- what a list of slices holds -/
def lO (κ : kE) (ω : Nat → List Nat) (l : Nat) : List (List Nat) := (List.range (κ l).2.1).map (fun i => sO κ ω ((ω ((ω l).getD 0 0)).getD i 0))
/-- what a certificate says -/
def cO (κ : kE) (ν : Nat → cN) (ω : Nat → List Nat) (c : Nat) : cQ := (sO κ ω ((ω c).getD 11 0), sO κ ω ((ω c).getD 8 0), sO κ ω ((ω c).getD 7 0), sO κ ω ((ω c).getD 9 0), sO κ ω ((ω c).getD 10 0), lO κ ω ((ω ((ω c).getD 4 0)).getD 0 0), lO κ ω ((ω ((ω c).getD 4 0)).getD 1 0), lO κ ω ((ω ((ω c).getD 5 0)).getD 0 0), lO κ ω ((ω ((ω c).getD 5 0)).getD 1 0), lO κ ω ((ω ((ω c).getD 6 0)).getD 0 0), lO κ ω ((ω ((ω c).getD 6 0)).getD 1 0), (ν c).2.2.2.2.2.2.2.2.2.1, (ν c).2.2.2.2.2.2.2.2.2.2.1, (ν c).2.2.2.2.2.2.2.2.2.2.2.1, (ν c).2.2.2.1, (ν c).2.2.2.2.1, (ν c).2.2.2.2.2.1, (ν c).1, sO κ ω ((ω c).getD 8 0))
def qO (κ : kE) (ν : Nat → cN) (ω : Nat → List Nat) (g : Nat) : lQ := (sO κ ω ((ω g).getD 5 0), lO κ ω ((ω g).getD 4 0), (ν g).2.2.2.2.2.2.2.2.2.1, (ν g).2.2.2.2.2.2.2.2.2.2.1, (ν g).2.2.2.2.2.2.2.2.2.2.2.1)
section SOX
variable {γ : cG} {κ : kE} {Ad : List Nat} {ν : Nat → cN} {ω : Nat → List Nat} {L : Nat} {G : va_W} {a : Nat}
theorem sO_u {s len t f n : Nat} {u : Nat → Nat} (ks : tK κ Ad s (2, len, 1)) (hw : ω s = [t, f]) (hc : ∀ j, j < n → u j = (ω t).getD j 0) (hf : f + len ≤ n) : sO κ ω s = rgM u f len := by
  unfold sO
  rw [ks.2, hw]
  show rgM (fun j => (ω t).getD j 0) f len = rgM u f len
  exact rgM_c (fun j hj => (hc (f + j) (by omega)).symm)
/-- the class' comparisons, said of contents -/
theorem sO_same {s len t f n s2 len2 t2 f2 n2 : Nat} {u u2 : Nat → Nat} (k1 : tK κ Ad s (2, len, 1)) (w1 : ω s = [t, f]) (c1 : ∀ j, j < n → u j = (ω t).getD j 0) (h1 : f + len ≤ n) (k2 : tK κ Ad s2 (2, len2, 1)) (w2 : ω s2 = [t2, f2]) (c2 : ∀ j, j < n2 → u2 j = (ω t2).getD j 0) (h2 : f2 + len2 ≤ n2) : (f + len - f = f2 + len2 - f2 ∧ eqN u u2 f f2 (f + len - f)) ↔ sO κ ω s = sO κ ω s2 := by
  rw [sO_u k1 w1 c1 h1, sO_u k2 w2 c2 h2, rgM_eq, Nat.add_sub_cancel_left, Nat.add_sub_cancel_left]
theorem sO_pf {s len t f n s2 len2 t2 f2 n2 : Nat} {u u2 : Nat → Nat} (k1 : tK κ Ad s (2, len, 1)) (w1 : ω s = [t, f]) (c1 : ∀ j, j < n → u j = (ω t).getD j 0) (h1 : f + len ≤ n) (k2 : tK κ Ad s2 (2, len2, 1)) (w2 : ω s2 = [t2, f2]) (c2 : ∀ j, j < n2 → u2 j = (ω t2).getD j 0) (h2 : f2 + len2 ≤ n2) : (f2 + len2 - f2 ≤ f + len - f ∧ eqN u u2 f f2 (f2 + len2 - f2)) ↔ sO κ ω s2 <+: sO κ ω s := by
  rw [sO_u k1 w1 c1 h1, sO_u k2 w2 c2 h2, rgM_pf, Nat.add_sub_cancel_left, Nat.add_sub_cancel_left]
theorem sO_len {s len : Nat} (ks : tK κ Ad s (2, len, 1)) : (sO κ ω s).length = len := by
  unfold sO
  rw [ks.2]
  exact rgM_len _ _ _
theorem sO_tl {s len t f n s2 len2 t2 f2 n2 z : Nat} {u u2 : Nat → Nat} (k1 : tK κ Ad s (2, len, 1)) (w1 : ω s = [t, f]) (c1 : ∀ j, j < n → u j = (ω t).getD j 0) (h1 : f + len ≤ n) (k2 : tK κ Ad s2 (2, len2, 1)) (w2 : ω s2 = [t2, f2]) (c2 : ∀ j, j < n2 → u2 j = (ω t2).getD j 0) (h2 : f2 + len2 ≤ n2) (hz : z = len2) : (z ≤ f + len - f ∧ z ≤ f2 + len2 - f2 ∧ tailN u u2 (f + len) (f2 + len2) z) ↔ (sO κ ω s2).length ≤ (sO κ ω s).length ∧ tlQ (sO κ ω s2) (sO κ ω s) := by
  subst hz
  rw [sO_len k1, sO_len k2, Nat.add_sub_cancel_left, Nat.add_sub_cancel_left]
  have e : z ≤ len → (tailN u u2 (f + len) (f2 + z) z ↔ tlQ (sO κ ω s2) (sO κ ω s)) := fun hl => by
    unfold tailN tlQ
    rw [sO_len k1, sO_len k2, sO_u k1 w1 c1 h1, sO_u k2 w2 c2 h2]
    constructor
    · intro h j hj1 hj2
      rw [rgM_at (by omega), rgM_at (by omega), show f2 + (z - j) = f2 + z - j by omega, show f + (len - j) = f + len - j by omega]
      exact (h j hj1 hj2).symm
    · intro h j hj1 hj2
      have h9 := h j hj1 hj2
      rw [rgM_at (by omega), rgM_at (by omega), show f2 + (z - j) = f2 + z - j by omega, show f + (len - j) = f + len - j by omega] at h9
      exact h9.symm
  constructor
  · rintro ⟨h3, h4, h5⟩
    exact ⟨h3, (e h3).mp h5⟩
  · rintro ⟨h3, h4⟩
    exact ⟨h3, Nat.le_refl _, (e h3).mpr h4⟩
theorem lO_len {l K g : Nat} (kl : tK κ Ad l (4, K, g)) : (lO κ ω l).length = K := by
  unfold lO
  rw [List.length_map, List.length_range, kl.2]
theorem lO_get {l K g i : Nat} (kl : tK κ Ad l (4, K, g)) (hi : i < K) : (lO κ ω l)[i]? = some (sO κ ω ((ω ((ω l).getD 0 0)).getD i 0)) := by
  unfold lO
  rw [List.getElem?_map, List.getElem?_range (by rw [kl.2]; exact hi)]
  rfl
theorem lO_mem {l K g i : Nat} (kl : tK κ Ad l (4, K, g)) (hi : i < K) : sO κ ω ((ω ((ω l).getD 0 0)).getD i 0) ∈ lO κ ω l := List.mem_of_getElem? (lO_get kl hi)
/-- all of a list, entry by entry -/
theorem lO_all {l K g : Nat} {P : List Nat → Prop} (kl : tK κ Ad l (4, K, g)) (h : ∀ i, i < K → P (sO κ ω ((ω ((ω l).getD 0 0)).getD i 0))) : ∀ t, t ∈ lO κ ω l → P t := fun t ht => by
  obtain ⟨i, hi⟩ := List.getElem?_of_mem ht
  have hl := (List.getElem?_eq_some_iff.mp hi).1
  rw [lO_len kl] at hl
  rw [lO_get kl hl] at hi
  rw [← Option.some.inj hi]
  exact h i hl
theorem lO_nil {l K g : Nat} (kl : tK κ Ad l (4, K, g)) : lO κ ω l = [] ↔ K = 0 := by
  rw [← List.length_eq_zero_iff, lO_len kl]
/-- cells, their references as omega has them -/
theorem ty_5x (h : TY γ κ Ad ν ω L G) {K1 K2 : Nat} (ha : tK κ Ad a (5, K1, K2)) : ∃ i : Nat, tK κ Ad ((ω a).getD 0 0) (4, K1, 0) ∧ tK κ Ad ((ω a).getD 1 0) (4, K2, 0) ∧ G[i]? = some (a, .inr (1, [.ref ((ω a).getD 0 0), .ref ((ω a).getD 1 0)])) := by
  obtain ⟨i, l1, l2, h1, h2, ⟨rfl, rfl⟩, h3⟩ := ty_5 h ha
  exact ⟨i, h1, h2, h3⟩
theorem ty_4x (h : TY γ κ Ad ν ω L G) {K g : Nat} (ha : tK κ Ad a (4, K, g)) : ∃ (i : Nat) (m : Int32), K < 2 ^ 30 ∧ (0 < K → ∃ cap, tK κ Ad ((ω a).getD 0 0) (3, cap, K)) ∧ G[i]? = some (a, .inr (11, [.ref ((ω a).getD 0 0), .int (nI K), .int m])) := by
  obtain ⟨i, q, m, h1, h2, rfl, h3⟩ := ty_4 h ha
  exact ⟨i, m, h1, h2, h3⟩
theorem ty_3x (h : TY γ κ Ad ν ω L G) {cap K : Nat} (ha : tK κ Ad a (3, cap, K)) : ∃ (i : Nat) (f : Nat → Option Nat), K ≤ cap ∧ cap < 2 ^ 30 ∧ (∀ i, i < K → f i = some ((ω a).getD i 0) ∧ ∃ len, tK κ Ad ((ω a).getD i 0) (2, len, 1)) ∧ G[i]? = some (a, .inl (γ.2.2.2, cap, .inr (.inr (.inr (.inr f))))) := by
  obtain ⟨i, f, h1, h2, h3, h4⟩ := ty_3 h ha
  refine ⟨i, f, h1, h2, fun j hj => ?_, h4⟩
  obtain ⟨s, len, h5, h6, rfl⟩ := h3 j hj
  exact ⟨h5, len, h6⟩
theorem tK.two {s : Nat} (h : ∃ z, tK κ Ad s (2, z, 1)) : tK κ Ad s (2, (κ s).2.1, 1) := by
  obtain ⟨z, hz⟩ := h
  have e : (κ s).2.1 = z := by rw [hz.2]
  rw [e]
  exact hz
end SOX
section SOY
variable {γ : cG} {κ : kE} {Ad : List Nat} {ν : Nat → cN} {ω : Nat → List Nat} {L : Nat} {G : va_W} {a : Nat}
theorem ty_8x (h : TY γ κ Ad ν ω L G) {K len : Nat} (hk : tK κ Ad a (8, K, len)) : ∃ (i bo : Nat), ((∃ K2, tK κ Ad ((ω a).getD 4 0) (5, K, K2)) ∧ (∃ K1 K2, tK κ Ad ((ω a).getD 5 0) (5, K1, K2)) ∧ (∃ K1 K2, tK κ Ad ((ω a).getD 6 0) (5, K1, K2)) ∧ tK κ Ad ((ω a).getD 7 0) (2, len, 1) ∧ (∃ z, tK κ Ad ((ω a).getD 8 0) (2, z, 1)) ∧ (∃ z, tK κ Ad ((ω a).getD 2 0) (2, z, 1)) ∧ (∃ z, tK κ Ad ((ω a).getD 9 0) (2, z, 1)) ∧ (∃ z, tK κ Ad ((ω a).getD 10 0) (2, z, 1)) ∧ tK κ Ad ((ω a).getD 0 0) (6, 8, 0) ∧ tK κ Ad ((ω a).getD 1 0) (6, 16, a + 1) ∧ tK κ Ad ((ω a).getD 12 0) (4, 0, a + 1) ∧ (∃ z, tK κ Ad ((ω a).getD 3 0) (2, z, 1)) ∧ (∃ z, tK κ Ad ((ω a).getD 11 0) (2, z, 1))) ∧ (b01 (ν a).2.2.2.1 ∧ b01 (ν a).2.2.2.2.2.2.2.1 ∧ b01 (ν a).2.2.2.2.2.2.2.2.1) ∧ (∃ z, tK κ Ad bo (2, z, 0)) ∧ (ω a).length = 13 ∧ G[i]? = some (a, .inr (3, [.ref ((ω a).getD 4 0), .ref ((ω a).getD 5 0), .ref ((ω a).getD 6 0), .ref ((ω a).getD 7 0), .ref ((ω a).getD 8 0), .ref ((ω a).getD 2 0), .ref ((ω a).getD 9 0), .ref ((ω a).getD 10 0), .int (ν a).1, .int (ν a).2.1, .int (ν a).2.2.1, .int (ν a).2.2.2.1, .int (ν a).2.2.2.2.1, .int (ν a).2.2.2.2.2.1, .int (ν a).2.2.2.2.2.2.1, .int (ν a).2.2.2.2.2.2.2.1, .int (ν a).2.2.2.2.2.2.2.2.1, .int (ν a).2.2.2.2.2.2.2.2.2.2.2.2, .int (nI ((ω ((ω a).getD 12 0)).getD 1 0)), .ref ((ω a).getD 0 0), .ref ((ω a).getD 1 0), .ref ((ω a).getD 12 0), .ref bo, .ref ((ω a).getD 3 0), .ref ((ω a).getD 11 0), .long (ν a).2.2.2.2.2.2.2.2.2.1, .long (ν a).2.2.2.2.2.2.2.2.2.2.1, .int (ν a).2.2.2.2.2.2.2.2.2.2.2.1])) := by
  obtain ⟨i, nm, pe, ec, se, su, mo, ok, ik, ha, si, en, bo, sg, is, iu, h1, ⟨h2, h3, h4, h5, rfl⟩, hg⟩ := ty_8 h hk
  obtain ⟨k1, k2, k3, k4, k5, k6, k7, k8, k9, k10, k11, k12, k13, k14⟩ := h1
  rw [h5]
  exact ⟨i, bo, ⟨k1, k2, k3, k4, k5, k6, k7, k8, k9, k10, k11, k13, k14⟩, ⟨h2, h3, h4⟩, k12, rfl, hg⟩
theorem ty_9x (h : TY γ κ Ad ν ω L G) {K : Nat} (hk : tK κ Ad a (9, K, 0)) : ∃ (i bo : Nat), (tK κ Ad ((ω a).getD 0 0) (6, 8, 0) ∧ tK κ Ad ((ω a).getD 1 0) (6, 16, a + 1) ∧ tK κ Ad ((ω a).getD 4 0) (4, K, 0) ∧ (∃ z, tK κ Ad ((ω a).getD 3 0) (2, z, 1)) ∧ (∃ z, tK κ Ad ((ω a).getD 5 0) (2, z, 1))) ∧ (∃ z, tK κ Ad bo (2, z, 0)) ∧ G[i]? = some (a, .inr (2, [.ref ((ω a).getD 0 0), .ref ((ω a).getD 1 0), .ref ((ω a).getD 4 0), .ref bo, .ref ((ω a).getD 3 0), .ref ((ω a).getD 5 0), .long (ν a).2.2.2.2.2.2.2.2.2.1, .long (ν a).2.2.2.2.2.2.2.2.2.2.1, .int (ν a).2.2.2.2.2.2.2.2.2.2.2.1])) := by
  obtain ⟨i, ha, si, en, bo, sg, is, k1, k2, k3, k4, k5, k6, h5, hg⟩ := ty_9 h hk
  rw [h5]
  exact ⟨i, bo, ⟨k1, k2, k3, k5, k6⟩, k4, hg⟩
theorem en_k (h : TY γ κ Ad ν ω L G) (ha : a ∈ Ad) (hk : (κ a).1 = 8) : tK κ Ad ((ω a).getD 12 0) (4, 0, a + 1) := by
  obtain ⟨⟨c, p, q⟩, hkg⟩ : ∃ z, z = κ a := ⟨_, rfl⟩
  rw [← hkg] at hk
  have hk : c = 8 := hk
  subst hk
  obtain ⟨i, bo, h1, -⟩ := ty_8x h ⟨ha, hkg.symm⟩
  exact h1.2.2.2.2.2.2.2.2.2.2.1
end SOY
theorem tK.fiv {κ : kE} {Ad : List Nat} {s : Nat} (h : ∃ K1 K2, tK κ Ad s (5, K1, K2)) : tK κ Ad s (5, (κ s).2.1, (κ s).2.2) := by
  obtain ⟨K1, K2, hz⟩ := h
  have e1 : (κ s).2.1 = K1 := by rw [hz.2]
  have e2 : (κ s).2.2 = K2 := by rw [hz.2]
  rw [e1, e2]
  exact hz
theorem zP_g {P Q : Prop} (h : P ↔ Q) : zP P = zP Q := by rw [propext h]
/-- the octet at a place; -1 outside -/
def atQ (l : List Nat) (i : Int32) : Int32 := if 0 ≤ i.toInt ∧ i.toInt.toNat < l.length then nI (l.getD i.toInt.toNat 0) else -1
/-- an octet of a slice -/
theorem sO_at {κ : kE} {Ad : List Nat} {ω : Nat → List Nat} {s len t f n : Nat} {u : Nat → Nat} {i : Int32} (k1 : tK κ Ad s (2, len, 1)) (w1 : ω s = [t, f]) (c1 : ∀ j, j < n → u j = (ω t).getD j 0) (h1 : f + len ≤ n) : sl_at u f (f + len) i = atQ (sO κ ω s) i := by
  unfold sl_at atQ
  rw [sO_len k1]
  by_cases h : 0 ≤ i.toInt ∧ i.toInt.toNat < len
  · rw [if_pos ⟨h.1, by omega⟩, if_pos h, sO_u k1 w1 c1 h1, rgM_at h.2]
  · rw [if_neg (fun q => h ⟨q.1, by omega⟩), if_neg h]
theorem sO_lt {κ : kE} {Ad : List Nat} {ω : Nat → List Nat} {s len t f n : Nat} {u : Nat → Nat} (ks : tK κ Ad s (2, len, 1)) (hw : ω s = [t, f]) (hc : ∀ j, j < n → u j = (ω t).getD j 0) (hu : ∀ j, u j < 256) (hf : f + len ≤ n) : ∀ j, (sO κ ω s).getD j 0 < 256 := fun j => by
  rw [sO_u ks hw hc hf]
  by_cases hj : j < len
  · rw [rgM_at hj]; exact hu _
  · rw [List.getD_eq_getElem?_getD, List.getElem?_eq_none (by rw [rgM_len]; omega)]
    exact (by decide : 0 < 256)
theorem sO_nil {κ : kE} {ω : Nat → List Nat} (s : Nat) : (κ s).2.1 ≤ 0 ↔ sO κ ω s = [] := by
  rw [← List.length_eq_zero_iff]
  unfold sO
  rw [rgM_len]
  omega
theorem cmp_lt {x y : Int64} : lg_cmp x y < 0 ↔ x < y := lg_cmp_lt x y
theorem cmp_gt {x y : Int64} : 0 < lg_cmp x y ↔ y < x := lg_cmp_gt x y
theorem fol_c {a b : Prop} {x y z : Prop} (h1 : a ↔ x) (h2 : b ↔ y) {S : Prop} : (S ∧ (¬ (¬ a ∧ ¬ b) ∨ z)) ↔ (S ∧ (x ∨ y ∨ z)) := by
  rw [h1, h2]
  by_cases hx : x <;> by_cases hy : y <;> simp [hx, hy]
theorem use_c {u x : Int32} (h : x &&& 31 = x) : (u < 0 ∨ u >>> (x &&& 31) &&& 1 = 1) ↔ useQ u x := by
  unfold useQ
  rw [h]
theorem subN {a b : Nat} (ha : a < 2 ^ 18) (hb : b < 2 ^ 18) : (nI a - nI b - 1).toInt = (a : Int) - b - 1 := by
  rw [Int32.toInt_sub, Int32.toInt_sub, nI_toInt (by omega), nI_toInt (by omega), show (1 : Int32).toInt = 1 from rfl]
  rw [show Int.bmod ((a : Int) - b) (2 ^ 32) = (a : Int) - b from Int.bmod_eq_of_le (by omega) (by omega)]
  exact Int.bmod_eq_of_le (by omega) (by omega)
theorem dns_y {T N : List Nat} {lt ln : Nat} (hT : T.length = lt) (hN : N.length = ln) (h1 : lt < 2 ^ 18) (h2 : ln < 2 ^ 18) (h8 : ∀ j, N.getD j 0 < 256) : (lt = 0 ∨ (((nI ln - nI lt - 1 = (-1 : Int32)) ∨ (atQ N (nI ln - nI lt - 1) = (46 : Int32))) ∧ (T.length ≤ N.length ∧ tlQ T N))) ↔ dtQ T N := by
  have e := subN h2 h1
  have e1 : (nI ln - nI lt - 1 = (-1 : Int32)) ↔ ln = lt := by
    rw [← Int32.toInt_inj, e, show (-1 : Int32).toInt = -1 from rfl]
    omega
  have e2 : atQ N (nI ln - nI lt - 1) = (46 : Int32) ↔ lt < ln ∧ N.getD (ln - lt - 1) 0 = 46 := by
    unfold atQ
    rw [e, hN]
    by_cases h : lt < ln
    · rw [if_pos (by omega), show ((ln : Int) - lt - 1).toNat = ln - lt - 1 by omega, show (46 : Int32) = nI 46 from rfl, nI_eq (by have := h8 (ln - lt - 1); omega) (by omega)]
      exact ⟨fun q => ⟨h, q⟩, fun q => q.2⟩
    · rw [if_neg (by omega)]
      exact ⟨fun q => absurd q (by decide), fun q => absurd q.1 h⟩
  rw [e1, e2]
  unfold dtQ
  rw [hT, hN]
  constructor
  · rintro (h | ⟨h3, h4, h5⟩)
    · refine ⟨by omega, fun j hj1 hj2 => ?_, Or.inl h⟩
      rw [hT] at hj2
      omega
    · refine ⟨h4, h5, ?_⟩
      rcases h3 with h3 | ⟨-, h3⟩
      · exact Or.inr (Or.inl h3.symm)
      · exact Or.inr (Or.inr h3)
  · rintro ⟨h3, h4, h5⟩
    rcases h5 with h5 | h5 | h5
    · exact Or.inl h5
    · exact Or.inr ⟨Or.inl h5.symm, h3, h4⟩
    · by_cases h6 : lt = ln
      · exact Or.inr ⟨Or.inl h6.symm, h3, h4⟩
      · exact Or.inr ⟨Or.inr ⟨by omega, h5⟩, h3, h4⟩
def nuR0 (ν : Nat → cN) (a : Nat) (x : cN) : Nat → cN := fun b => if b = a then x else ν b
/-- PathCheck's numbers: faultPlace, knownWanted, isKnown, time; Search's: depth, puts, onPath -/
def mkP (n : cN) (fp kw ik : Int32) (ti : Int64) : cN := (fp, kw, ik, n.2.2.2.1, n.2.2.2.2.1, n.2.2.2.2.2.1, n.2.2.2.2.2.2.1, n.2.2.2.2.2.2.2.1, n.2.2.2.2.2.2.2.2.1, ti, n.2.2.2.2.2.2.2.2.2.2)
def mkS (n : cN) (de pu op : Int32) : cN := (de, pu, op, n.2.2.2)
theorem q_gt {x y : Int32} (h : ¬ x ≤ y) : y < x := by
  rw [Int32.le_iff_toInt_le] at h
  rw [Int32.lt_iff_toInt_lt]
  omega
theorem q_ng {x y : Int32} (h : x ≤ y) : ¬ y < x := by
  rw [Int32.le_iff_toInt_le] at h
  rw [Int32.lt_iff_toInt_lt]
  omega
theorem b01_1 {x : Int32} (h : b01 x) (h0 : ¬ x = 0) : x = 1 := h.elim (fun e => absurd e h0) (fun e => e)
/-- what holds of every stored certificate: it is its own issuer where it says so -/
def YC (κ : kE) (Ad : List Nat) (ν : Nat → cN) (ω : Nat → List Nat) : Prop := ∀ c K l, tK κ Ad c (8, K, l) → (ν c).2.2.2.2.2.2.2.1 = zP (ownQ (cO κ ν ω c))
theorem btw_a {C : Nat → cQ} {w : List Nat} {k z : Nat} {s : Int32} (h : k ≤ z) (hs : s = zP (ownQ (C (w.getD z 0)))) (p : s = 0) : nI (btwQ C w k (z - k) + 1) = nI (btwQ C w k (z + 1 - k)) := by
  rw [show z + 1 - k = (z - k) + 1 by omega]
  show _ = nI (btwQ C w k (z - k) + @ite _ (ownQ (C (w.getD (k + (z - k)) 0))) (Classical.propDecidable _) 0 1)
  rw [show k + (z - k) = z by omega, if_neg (zP_0.mp (hs.symm.trans p))]
theorem btw_b {C : Nat → cQ} {w : List Nat} {k z : Nat} {s : Int32} (h : k ≤ z) (hs : s = zP (ownQ (C (w.getD z 0)))) (p : ¬ s = 0) : nI (btwQ C w k (z - k) + 0) = nI (btwQ C w k (z + 1 - k)) := by
  rw [show z + 1 - k = (z - k) + 1 by omega]
  show _ = nI (btwQ C w k (z - k) + @ite _ (ownQ (C (w.getD (k + (z - k)) 0))) (Classical.propDecidable _) 0 1)
  rw [show k + (z - k) = z by omega, if_pos (Classical.byContradiction (fun q => p (hs.trans (zP_0.mpr q))))]
section SETN
variable {γ : cG} {κ : kE} {Ad : List Nat} {ν : Nat → cN} {ω : Nat → List Nat} {L : Nat} {G : va_W} {a : Nat} {c c' : va_E}
theorem q_nu {ν' : Nat → cN} {b : Nat} {e : va_E} (h : tOK γ κ Ad ν ω L b e) (hn : ν' b = ν b) : tOK γ κ Ad ν' ω L b e := by
  unfold tOK at h ⊢
  rw [hn]
  exact h
theorem q_setnu {A : Nat → Prop} {i : Nat} {ν' : Nat → cN} (h : TY γ κ Ad ν ω L G) (hD : va_D A G) (hg : G[i]? = some (a, c)) (hn : ∀ b, b ≠ a → ν' b = ν b) (ho : tOK γ κ Ad ν' ω L a c') : TY γ κ Ad ν' ω L (G.set i (a, c')) := by
  refine ⟨fun b hb => ?_, fun q hq hqa => ?_⟩
  · by_cases hab : a = b
    · subst hab
      exact ⟨c', List.mem_of_getElem? (set_here hg)⟩
    · obtain ⟨d, hd⟩ := h.1 b hb
      obtain ⟨j, hj⟩ := List.getElem?_of_mem hd
      exact ⟨d, List.mem_of_getElem? (set_keep hg hj hab)⟩
  · obtain ⟨j, hj⟩ := List.getElem?_of_mem hq
    by_cases hij : i = j
    · subst hij
      rw [set_here hg] at hj
      cases hj
      exact ho
    · rw [List.getElem?_set_ne hij] at hj
      have hne : q.1 ≠ a := fun e => hij (hD.1 i j _ _ hg hj e.symm)
      exact q_nu (h.2 q (List.mem_of_getElem? hj) hqa) (hn _ hne)
end SETN
/-- other numbers of one address: contents stay -/
theorem cO_nu {κ : kE} {ν ν' : Nat → cN} {ω : Nat → List Nat} {c : Nat} (h : ν' c = ν c) : cO κ ν' ω c = cO κ ν ω c := by
  unfold cO
  rw [h]
theorem qO_nu {κ : kE} {ν ν' : Nat → cN} {ω : Nat → List Nat} {c : Nat} (h : ν' c = ν c) : qO κ ν' ω c = qO κ ν ω c := by
  unfold qO
  rw [h]
