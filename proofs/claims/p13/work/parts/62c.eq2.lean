/-! The class' readers and the reference's: OID, numbers, algorithms, strings, names. -/
def obad (u : Nat → Nat) (a k : Nat) : Prop := u k = 128 ∧ (k = a ∨ ¬ 128 ≤ u (k - 1))
noncomputable def oidB (u : Nat → Nat) (a p : Nat) : Nat → Nat ⊕ Nat := fun s => @ite _ (u s = 128 ∧ (s = a ∨ ¬ 128 ≤ u (s - 1))) (Classical.propDecidable _) (.inl p) (.inr (s + 1))
theorem oid_loop {u : Nat → Nat} {a b p : Nat} : ∀ (f s : Nat), b - s ≤ f → ((∃ k, s ≤ k ∧ k < b ∧ obad u a k) → loopE (oidB u a p) (fun s => ¬ b ≤ s) f s = .inl p) ∧ ((¬ ∃ k, s ≤ k ∧ k < b ∧ obad u a k) → ∃ s', loopE (oidB u a p) (fun s => ¬ b ≤ s) f s = .inr s')
  | 0, s, hf => ⟨fun ⟨k, h1, h2, _⟩ => absurd h2 (by omega), fun _ => ⟨s, rfl⟩⟩
  | f + 1, s, hf => by
    by_cases hs : b ≤ s
    · have e : loopE (oidB u a p) (fun s => ¬ b ≤ s) (f + 1) s = .inr s := if_neg (fun q => q hs)
      exact ⟨fun ⟨k, h1, h2, _⟩ => absurd h2 (by omega), fun _ => ⟨s, e⟩⟩
    · have e : loopE (oidB u a p) (fun s => ¬ b ≤ s) (f + 1) s = eb (oidB u a p s) (loopE (oidB u a p) (fun s => ¬ b ≤ s) f) := if_pos hs
      by_cases hb : obad u a s
      · have e2 : oidB u a p s = .inl p := if_pos hb
        refine ⟨fun _ => by rw [e]; exact eb_no e2, fun q => absurd ⟨s, Nat.le_refl _, by omega, hb⟩ q⟩
      · have e2 : oidB u a p s = .inr (s + 1) := if_neg hb
        have ih := oid_loop (u := u) (a := a) (b := b) (p := p) f (s + 1) (by omega)
        rw [e, eb_ok e2]
        refine ⟨fun ⟨k, h1, h2, h3⟩ => ih.1 ⟨k, ?_, h2, h3⟩, fun q => ih.2 (fun ⟨k, h1, h2, h3⟩ => q ⟨k, by omega, h2, h3⟩)⟩
        rcases Nat.lt_or_eq_of_le h1 with h4 | h4
        · exact h4
        · rw [← h4] at h3; exact absurd h3 hb
theorem oidG_is (u : Nat → Nat) (a : Nat) : ∀ k, (oidG u a k = some (decide (k = 0 ∨ u (a + k - 1) < 128)) ∧ ∀ j, j < k → ¬ obad u a (a + j)) ∨ (oidG u a k = none ∧ ∃ j, j < k ∧ obad u a (a + j))
  | 0 => Or.inl ⟨by simp [oidG], fun j hj => absurd hj (Nat.not_lt_zero j)⟩
  | k + 1 => by
    rcases oidG_is u a k with ⟨h1, h2⟩ | ⟨h1, j, h2, h3⟩
    · by_cases hb : obad u a (a + k)
      · refine Or.inr ⟨oidG_0 h1 ⟨?_, hb.1⟩, k, Nat.lt_succ_self k, hb⟩
        rw [decide_eq_true_eq]
        rcases hb.2 with q | q
        · exact Or.inl (by omega)
        · exact Or.inr (by omega)
      · refine Or.inl ⟨?_, fun j hj => ?_⟩
        · have h9 : ¬ ((decide (k = 0 ∨ u (a + k - 1) < 128)) = true ∧ u (a + k) = 128) := fun q => hb ⟨q.2, by
            have := of_decide_eq_true q.1
            rcases this with q1 | q1
            · exact Or.inl (by omega)
            · exact Or.inr (by omega)⟩
          rw [oidG_s h1 h9]
          congr 1
          have e : a + (k + 1) - 1 = a + k := by omega
          rw [e]
          simp
        · rcases Nat.lt_succ_iff_lt_or_eq.mp hj with q | q
          · exact h2 j q
          · rw [q]; exact hb
    · exact Or.inr ⟨oidG_n h1 (k + 1) (by omega), j, by omega, h3⟩
def oidN (u : Nat → Nat) (z : Nat × Nat) : Prop := (z.1 = z.2 ∨ ¬ u (z.2 - 1) ≤ 127) ∨ ∃ k, z.1 ≤ k ∧ k < z.2 ∧ obad u z.1 k
theorem oid_iff {u : Nat → Nat} {z : Nat × Nat} (h1 : z.1 ≤ z.2) : oidOK u z.1 z.2 ↔ ¬ oidN u z := by
  have hq := oidG_is u z.1 (z.2 - z.1)
  unfold oidOK oidN
  constructor
  · rintro ⟨h2, h3⟩ (h4 | ⟨k, h5, h6, h7⟩)
    · rcases hq with ⟨q1, q2⟩ | ⟨q1, _⟩
      · rw [q1] at h3
        have := of_decide_eq_true (Option.some.inj h3)
        have e : z.1 + (z.2 - z.1) - 1 = z.2 - 1 := by omega
        rw [e] at this
        omega
      · rw [q1] at h3; cases h3
    · rcases hq with ⟨q1, q2⟩ | ⟨q1, _⟩
      · exact q2 (k - z.1) (by omega) (by rw [show z.1 + (k - z.1) = k by omega]; exact h7)
      · rw [q1] at h3; cases h3
  · intro h
    have h2 : z.1 < z.2 := by
      rcases Nat.lt_or_eq_of_le h1 with q | q
      · exact q
      · exact absurd (Or.inl (Or.inl q)) h
    refine ⟨h2, ?_⟩
    rcases hq with ⟨q1, q2⟩ | ⟨_, j, q2, q3⟩
    · rw [q1]
      congr 1
      rw [decide_eq_true_eq]
      have e : z.1 + (z.2 - z.1) - 1 = z.2 - 1 := by omega
      rw [e]
      exact Or.inr (Classical.byContradiction (fun q => h (Or.inl (Or.inr (by omega)))))
    · exact absurd (Or.inr ⟨z.1 + j, by omega, by omega, q3⟩) h
theorem agr.pos {α : Type} {y : rS} {P : α → Prop} {C : Prop} {i9 : Decidable C} {A B : Nat ⊕ α} (h : C) (k : agr y A P) : agr y (@ite _ C i9 A B) P := by rw [if_pos h]; exact k
theorem agr.neg {α : Type} {y : rS} {P : α → Prop} {C : Prop} {i9 : Decidable C} {A B : Nat ⊕ α} (h : ¬ C) (k : agr y B P) : agr y (@ite _ C i9 A B) P := by rw [if_neg h]; exact k
theorem el_q {u : Nat → Nat} {n p s tg en : Nat} (he : en ≤ n) : agr (rd_opn u n (p, s, none) tg en).1 (tx_element u p tg en) (fun z => rd_opn u n (p, s, none) tg en = ((z.1, p, none), z.2) ∧ p + 2 ≤ z.1 ∧ z.1 ≤ z.2 ∧ z.2 ≤ en ∧ u p = tg) := by
  have h := el_eq u (n := n) (p := p) (s := s) (tg := tg) (en := en) he
  unfold agr at h ⊢
  cases hR : tx_element u p tg en with
  | inl w => rw [hR] at h; exact h
  | inr z =>
    rw [hR] at h
    obtain ⟨h1, q1, q2, q3⟩ := h
    refine ⟨h1, ?_, el_facts hR⟩
    have e := rS_of h1
    rw [q1, q3] at e
    exact Prod.ext e q2
theorem fin_q {u : Nat → Nat} {p s en : Nat} : agr (rd_fin (p, s, none) en) (tx_done u p en) (fun _ => rd_fin (p, s, none) en = (p, s, none) ∧ en ≤ p) := by
  unfold tx_done
  by_cases h : en ≤ p
  · rw [if_pos h, show rd_fin (p, s, none) en = (p, s, none) from if_neg (by omega)]
    exact ⟨rfl, rfl, h⟩
  · rw [if_neg h, show rd_fin (p, s, none) en = (p, s, some p) from if_pos (by omega)]
    exact rfl
theorem zI_0 {P : Prop} [Decidable P] (h : ¬ P) : zI P = 0 := if_neg h
theorem zI_ne {P : Prop} [Decidable P] (h : P) : zI P ≠ 0 := by
  rw [show zI P = 1 from if_pos h]
  decide
theorem oid_q {u : Nat → Nat} {n p s en : Nat} (he : en ≤ n) (hn : n ≤ 2048) : agr (rd_lea (rd_opn u n (p, s, none) 6 en).1 (rd_opn u n (p, s, none) 6 en).2 (zP (oidOK u (rd_opn u n (p, s, none) 6 en).1.1 (rd_opn u n (p, s, none) 6 en).2))) (tx_oid u p en) (fun z => rd_opn u n (p, s, none) 6 en = ((z.1, p, none), z.2) ∧ rd_lea (z.1, p, none) z.2 (zP (oidOK u z.1 z.2)) = (z.2, p, none) ∧ p + 2 ≤ z.1 ∧ z.1 < z.2 ∧ z.2 ≤ en ∧ oidOK u z.1 z.2) := by
  unfold tx_oid
  refine agr.step (el_q he) (lea_stk _ _ _) (fun z hz hn1 hq => ?_)
  obtain ⟨q1, q2, q3, q4, q5⟩ := hq
  rw [q1]
  dsimp only
  have hi := oid_iff (u := u) (z := z) q3
  have hf : z.2 - z.1 ≤ 2048 := by omega
  generalize (2048 : Nat) = f9 at hf ⊢
  by_cases hb : (z.1 = z.2) ∨ (¬ ((u (z.2 - 1)) ≤ 127))
  · rw [if_pos hb, lea_no (zP_f (fun q => hi.mp q (Or.inl hb))).symm]
    exact rfl
  · rw [if_neg hb]
    have hl := oid_loop (u := u) (a := z.1) (b := z.2) (p := p) f9 z.1 hf
    by_cases hx : ∃ k, z.1 ≤ k ∧ k < z.2 ∧ obad u z.1 k
    · rw [lea_no (zP_f (fun q => hi.mp q (Or.inr hx))).symm]
      exact agr.no (x := (z.1, p, some p)) rfl (hl.1 hx) (stk.rf _)
    · obtain ⟨s', hs⟩ := hl.2 hx
      have hok := hi.mpr (fun q => q.elim hb hx)
      refine agr.ok hs ?_
      rw [lea_ok (zP_ne hok)]
      refine ⟨rfl, rfl, ?_, q2, Nat.lt_of_le_of_ne q3 (fun q => hb (Or.inl q)), q4, hok⟩
      exact lea_ok (zP_ne hok)
/-! Numbers. -/
def bigN (u : Nat → Nat) (a : Nat) : Nat → Nat
  | 0 => 0
  | k + 1 => bigN u a k * 256 + u (a + k)
theorem bigN_lt {u : Nat → Nat} (hu : ∀ j, u j < 256) (a : Nat) : ∀ k, bigN u a k < 256 ^ k
  | 0 => by show 0 < 1; decide
  | k + 1 => by
    have h := bigN_lt hu a k
    have := hu (a + k)
    rw [Nat.pow_succ]
    show bigN u a k * 256 + u (a + k) < _
    omega
theorem bigN_ge {u : Nat → Nat} (a : Nat) : ∀ k, (u a * 256 + u (a + 1)) * 256 ^ k ≤ bigN u a (k + 2)
  | 0 => by
    show (u a * 256 + u (a + 1)) * 1 ≤ ((0 * 256 + u a) * 256 + u (a + 1))
    omega
  | k + 1 => by
    have h := bigN_ge (u := u) a k
    rw [Nat.pow_succ, ← Nat.mul_assoc]
    show _ ≤ bigN u a (k + 2) * 256 + u (a + (k + 2))
    generalize (u a * 256 + u (a + 1)) * 256 ^ k = X at h ⊢
    omega
theorem bigN_hi {u : Nat → Nat} (hu : ∀ j, u j < 256) {a : Nat} (hs : u a < 128) : ∀ k, bigN u a (k + 1) < 128 * 256 ^ k
  | 0 => by
    show 0 * 256 + u a < 128 * 1
    omega
  | k + 1 => by
    have h := bigN_hi hu hs k
    have := hu (a + (k + 1))
    rw [Nat.pow_succ]
    show bigN u a (k + 1) * 256 + u (a + (k + 1)) < _
    generalize 256 ^ k = X at h ⊢
    omega
theorem bigN_lo {u : Nat → Nat} (a : Nat) : ∀ k, u a * 256 ^ k ≤ bigN u a (k + 1)
  | 0 => by
    show u a * 1 ≤ 0 * 256 + u a
    omega
  | k + 1 => by
    have h := bigN_lo (u := u) a k
    rw [Nat.pow_succ, ← Nat.mul_assoc]
    show _ ≤ bigN u a (k + 1) * 256 + u (a + (k + 1))
    generalize u a * 256 ^ k = X at h ⊢
    omega
theorem nI64 : ∀ c, c < 256 → (nI c).toInt64.toBitVec.toNat = c := by decide +kernel
theorem tn_sh (x : Int64) {c : Nat} (hc : c < 256) : ((x <<< ((8 : Int32).toInt64 &&& 63)) ||| (nI c).toInt64).toBitVec.toNat = (x.toBitVec.toNat * 256 + c) % 18446744073709551616 := by
  rw [show ((8 : Int32).toInt64 &&& 63) = 8 from by decide]
  have h1 : (nI c).toInt64.toBitVec.toNat = c := nI64 c hc
  show (x.toBitVec <<< (BitVec.smod (8 : Int64).toBitVec 64) ||| (nI c).toInt64.toBitVec).toNat = _
  rw [show BitVec.smod (8 : Int64).toBitVec 64 = 8#64 from by decide, BitVec.toNat_or, h1, BitVec.shiftLeft_eq', BitVec.toNat_shiftLeft, show (8#64).toNat = 8 from rfl, Nat.shiftLeft_eq]
  generalize x.toBitVec.toNat = v
  have h := Nat.shiftLeft_add_eq_or_of_lt (show c < 2 ^ 8 from hc) (v % 2 ^ 56)
  rw [Nat.shiftLeft_eq] at h
  rw [show v * 2 ^ 8 % 2 ^ 64 = v % 2 ^ 56 * 2 ^ 8 from by omega, ← h]
  omega
theorem sl_0 {u : Nat → Nat} {a b : Nat} (h : a < b) : sl_at u a b 0 = nI (u a) := by
  have e := sl_at_nI (u := u) (a := a) (b := b) (k := 0) (by decide)
  exact e.trans (if_pos (show a + 0 < b by omega))
theorem pw8 {k : Nat} (h : k ≤ 8) : 256 ^ k ≤ 18446744073709551616 := Nat.le_trans (Nat.pow_le_pow_right (by decide) h) (by decide)
theorem pw7 {k : Nat} (h : k ≤ 7) : 256 ^ k ≤ 72057594037927936 := Nat.le_trans (Nat.pow_le_pow_right (by decide) h) (by decide)
theorem numG_p {u : Nat → Nat} (hu : ∀ j, u j < 256) {a b : Nat} (h : a < b) (hs : u a < 128) : ∀ k, k ≤ 8 → (numG u a b k).toBitVec.toNat = bigN u a k
  | 0, _ => by
    have e : numG u a b 0 = 0 := if_neg (by
      rw [sl_0 h, show (128 : Int32) = nI 128 from rfl, nI_leI (by omega) (by omega)]
      omega)
    rw [e]; rfl
  | k + 1, hk => by
    have ih := numG_p hu h hs k (by omega)
    have hb : bigN u a k * 256 + u (a + k) < 256 ^ (k + 1) := bigN_lt hu a (k + 1)
    have h8 := pw8 hk
    show ((numG u a b k <<< ((8 : Int32).toInt64 &&& 63)) ||| (nI (u (a + k))).toInt64).toBitVec.toNat = bigN u a k * 256 + u (a + k)
    rw [tn_sh _ (hu _), ih]
    exact Nat.mod_eq_of_lt (Nat.lt_of_lt_of_le hb h8)
theorem numG_n {u : Nat → Nat} (hu : ∀ j, u j < 256) {a b : Nat} (h : a < b) (hs : 128 ≤ u a) : ∀ k, k ≤ 8 → (numG u a b k).toBitVec.toNat + 256 ^ k = 18446744073709551616 + bigN u a k
  | 0, _ => by
    have e : numG u a b 0 = -1 := if_pos (by
      rw [sl_0 h, show (128 : Int32) = nI 128 from rfl, nI_leI (by omega) (by have := hu a; omega)]
      exact hs)
    rw [e]
    show (-1 : Int64).toBitVec.toNat + 1 = 18446744073709551616 + 0
    decide
  | k + 1, hk => by
    have ih := numG_n hu h hs k (by omega)
    have hb : bigN u a k * 256 + u (a + k) < 256 ^ (k + 1) := bigN_lt hu a (k + 1)
    have h8 := pw8 hk
    show ((numG u a b k <<< ((8 : Int32).toInt64 &&& 63)) ||| (nI (u (a + k))).toInt64).toBitVec.toNat + 256 ^ (k + 1) = 18446744073709551616 + (bigN u a k * 256 + u (a + k))
    rw [tn_sh _ (hu _)]
    rw [Nat.pow_succ] at hb h8 ⊢
    generalize 256 ^ k = K at *
    generalize (numG u a b k).toBitVec.toNat = T at *
    generalize bigN u a k = B at *
    omega
theorem i64_pos {x : Int64} {v : Nat} (h : x.toBitVec.toNat = v) (hv : v < 9223372036854775808) : x.toInt = v := by
  show x.toBitVec.toInt = v
  rw [BitVec.toInt_eq_toNat_cond, h, if_pos (by omega)]
theorem i64_neg {x : Int64} (h : 9223372036854775808 ≤ x.toBitVec.toNat) : x.toInt < 0 := by
  show x.toBitVec.toInt < 0
  rw [BitVec.toInt_eq_toNat_cond, if_neg (by omega)]
  have := x.toBitVec.isLt
  omega
theorem num_pos {u : Nat → Nat} (hu : ∀ j, u j < 256) {a b : Nat} (h : a < b) (hs : u a < 128) (h8 : b - a ≤ 8) : (sl_num u a b).toInt = (bigN u a (b - a) : Nat) := by
  have e : sl_num u a b = numG u a b (b - a) := if_neg (by omega)
  rw [e]
  refine i64_pos (numG_p hu h hs _ h8) ?_
  obtain ⟨k, hk⟩ : ∃ k, b - a = k + 1 := ⟨b - a - 1, by omega⟩
  rw [hk]
  have h1 := bigN_hi hu hs k
  have h2 := pw7 (k := k) (by omega)
  omega
theorem num_neg {u : Nat → Nat} (hu : ∀ j, u j < 256) {a b : Nat} (h : a < b) (hs : 128 ≤ u a ∨ 8 < b - a) : (sl_num u a b).toInt < 0 := by
  by_cases h8 : 8 < b - a
  · rw [show sl_num u a b = -1 from if_pos h8]
    decide
  · have hs : 128 ≤ u a := hs.elim id (fun q => absurd q h8)
    rw [show sl_num u a b = numG u a b (b - a) from if_neg h8]
    refine i64_neg ?_
    have h1 := numG_n hu h hs (b - a) (by omega)
    obtain ⟨k, hk⟩ : ∃ k, b - a = k + 1 := ⟨b - a - 1, by omega⟩
    rw [hk] at h1 ⊢
    have h2 := bigN_lo (u := u) a k
    have h3 := pw7 (k := k) (by omega)
    have h4 : 128 * 256 ^ k ≤ u a * 256 ^ k := Nat.mul_le_mul_right _ hs
    rw [Nat.pow_succ] at h1
    generalize u a * 256 ^ k = X at *
    generalize 256 ^ k = K at *
    omega
/-- a small number, as both see it -/
theorem num_in {u : Nat → Nat} (hu : ∀ j, u j < 256) {z : Nat × Nat} (h : z.1 < z.2) (hm : ¬ intN u z) {lo hi : Nat} (hh : hi ≤ 255) : ((lo : Int) ≤ (sl_num u z.1 z.2).toInt ∧ (sl_num u z.1 z.2).toInt ≤ (hi : Int)) ↔ ¬ ((127 < u z.1 ∨ ¬ z.2 - z.1 ≤ 3) ∨ ¬ (lo ≤ bigN u z.1 (z.2 - z.1) ∧ bigN u z.1 (z.2 - z.1) ≤ hi)) := by
  by_cases h1 : 128 ≤ u z.1 ∨ 8 < z.2 - z.1
  · have := num_neg hu h h1
    constructor
    · intro q; omega
    · intro q
      exfalso
      exact q (Or.inl (h1.elim (fun z => Or.inl (by omega)) (fun z => Or.inr (by omega))))
  · have e := num_pos hu h (show u z.1 < 128 by omega) (by omega)
    rw [e]
    by_cases h3 : z.2 - z.1 ≤ 3
    · omega
    · have h4 : 128 * 256 ^ 2 ≤ bigN u z.1 (z.2 - z.1) := by
        obtain ⟨k, hk⟩ : ∃ k, z.2 - z.1 = k + 2 := ⟨z.2 - z.1 - 2, by omega⟩
        have hg := bigN_ge (u := u) z.1 k
        rw [hk]
        have hl : 128 ≤ u z.1 * 256 + u (z.1 + 1) := by
          refine Classical.byContradiction (fun q => hm ?_)
          refine Or.inr ⟨by omega, Or.inl ⟨by omega, Or.inl (by omega)⟩⟩
        have hp : 256 ^ 2 ≤ 256 ^ k := Nat.pow_le_pow_right (by decide) (by omega)
        exact Nat.le_trans (Nat.mul_le_mul hl hp) hg
      have h5 : (128 : Nat) * 256 ^ 2 = 8388608 := by decide
      constructor
      · intro q; omega
      · intro q; omega
theorem sh8g {a b : Nat} (ha : a < 2 ^ 23) (hb : b < 256) : (nI a <<< ((8 : Int32) &&& 31)) ||| nI b = nI (a * 256 + b) := by
  rw [show ((8 : Int32) &&& 31) = 8 from by decide]
  have h := Nat.shiftLeft_add_eq_or_of_lt (show b < 2 ^ 8 from hb) a
  apply Int32.toBitVec_inj.mp
  apply BitVec.eq_of_toNat_eq
  show ((nI a).toBitVec <<< (BitVec.smod (8 : Int32).toBitVec 32) ||| (nI b).toBitVec).toNat = (nI (a * 256 + b)).toBitVec.toNat
  rw [show BitVec.smod (8 : Int32).toBitVec 32 = 8#32 from by decide]
  have e1 : (nI a).toBitVec = BitVec.ofNat 32 a := rfl
  have e2 : (nI b).toBitVec = BitVec.ofNat 32 b := rfl
  have e3 : (nI (a * 256 + b)).toBitVec = BitVec.ofNat 32 (a * 256 + b) := rfl
  rw [e1, e2, e3, BitVec.toNat_or, BitVec.toNat_ofNat, BitVec.toNat_ofNat, BitVec.shiftLeft_eq', BitVec.toNat_shiftLeft, BitVec.toNat_ofNat]
  rw [show (8#32).toNat = 8 from rfl, Nat.mod_eq_of_lt (show a < 2 ^ 32 by omega), Nat.mod_eq_of_lt (show b < 2 ^ 32 by omega), Nat.mod_eq_of_lt (show a * 256 + b < 2 ^ 32 by omega)]
  rw [Nat.shiftLeft_eq] at h ⊢
  rw [Nat.mod_eq_of_lt (show a * 2 ^ 8 < 2 ^ 32 by omega), ← h]
theorem num_loop {u : Nat → Nat} (hu : ∀ j, u j < 256) {a b : Nat} (hb : b - a ≤ 3) : ∀ (f k : Nat), k ≤ b - a → a ≤ b → b - a - k ≤ f → loopE (α := Nat × Int32) (fun s : Nat × Int32 => ((.inr (s.1 + 1, (s.2 <<< (8 &&& 31)) ||| (nI (u s.1)))) : Nat ⊕ (Nat × Int32))) (fun s => ¬ (b ≤ s.1)) f (a + k, nI (bigN u a k)) = .inr (b, nI (bigN u a (b - a)))
  | 0, k, h1, h2, h3 => by
    have e : k = b - a := by omega
    have e2 : a + k = b := by omega
    show Sum.inr (a + k, nI (bigN u a k)) = _
    rw [e2, e]
  | f + 1, k, h1, h2, h3 => by
    by_cases hk : b ≤ a + k
    · have e : k = b - a := by omega
      have e2 : a + k = b := by omega
      refine Eq.trans (if_neg (fun q => q hk)) ?_
      rw [e2, e]
    · have ih := num_loop hu hb f (k + 1) (by omega) h2 (by omega)
      refine Eq.trans (if_pos hk) ?_
      refine Eq.trans ?_ ih
      have hl := bigN_lt hu a k
      have hp : 256 ^ k ≤ 256 ^ 2 := Nat.pow_le_pow_right (by decide) (by omega)
      have e : (nI (bigN u a k) <<< ((8 : Int32) &&& 31)) ||| (nI (u (a + k))) = nI (bigN u a (k + 1)) := sh8g (by omega) (hu _)
      show loopE _ _ f (a + k + 1, (nI (bigN u a k) <<< ((8 : Int32) &&& 31)) ||| (nI (u (a + k)))) = _
      rw [e]
      rfl
theorem num_v {u : Nat → Nat} (hu : ∀ j, u j < 256) {p en : Nat} {z : Nat × Nat} (hz : tx_integer u p en = .inr z) (h : z.1 < z.2) {lo hi : Nat} (hh : hi ≤ 255) (hl : lo ≤ 255) : tx_number u p en (nI lo) (nI hi) = @ite _ ((127 < u z.1 ∨ ¬ z.2 - z.1 ≤ 3) ∨ ¬ (lo ≤ bigN u z.1 (z.2 - z.1) ∧ bigN u z.1 (z.2 - z.1) ≤ hi)) (Classical.propDecidable _) (.inl p) (.inr ((nI (bigN u z.1 (z.2 - z.1))).toInt64, z.2)) := by
  unfold tx_number
  rw [eb_ok hz]
  by_cases h1 : 127 < u z.1 ∨ ¬ z.2 - z.1 ≤ 3
  · rw [if_pos h1, if_pos (Or.inl h1)]
  · rw [if_neg h1]
    have hq := num_loop hu (a := z.1) (b := z.2) (by omega)
    have hf : z.2 - z.1 - 0 ≤ 2048 := by omega
    generalize (2048 : Nat) = f9 at hf ⊢
    have hw := hq f9 0 (by omega) (by omega) hf
    refine Eq.trans (eb_ok hw) ?_
    have hlt := bigN_lt hu z.1 (z.2 - z.1)
    have hp : 256 ^ (z.2 - z.1) ≤ 256 ^ 3 := Nat.pow_le_pow_right (by decide) (by omega)
    have hc : (¬ nI (bigN u z.1 (z.2 - z.1)) < nI lo ∧ ¬ nI hi < nI (bigN u z.1 (z.2 - z.1))) ↔ (lo ≤ bigN u z.1 (z.2 - z.1) ∧ bigN u z.1 (z.2 - z.1) ≤ hi) := by
      rw [nI_ltI (by omega) (by omega), nI_ltI (by omega) (by omega)]
      omega
    by_cases h2 : lo ≤ bigN u z.1 (z.2 - z.1) ∧ bigN u z.1 (z.2 - z.1) ≤ hi
    · refine Eq.trans ?_ (if_neg (fun q => q.elim h1 (fun z => z h2))).symm
      exact if_pos (hc.mpr h2)
    · refine Eq.trans ?_ (if_pos (Or.inr h2)).symm
      exact if_neg (fun q => h2 (hc.mp q))
theorem numr_q {u : Nat → Nat} (hu : ∀ j, u j < 256) {n p s en : Nat} (he : en ≤ n) {lo hi : Nat} (hh : hi ≤ 255) (hl : lo ≤ 255) {P : Int64 → Prop} (hP : ∀ x, P x ↔ ((lo : Int) ≤ x.toInt ∧ x.toInt ≤ (hi : Int))) : agr (rd_req (rd_nm u n (p, s, none) 2 en).1 (zP (P (sl_num u (rd_nm u n (p, s, none) 2 en).2.1 (rd_nm u n (p, s, none) 2 en).2.2)))) (tx_number u p en (nI lo) (nI hi)) (fun v => ∃ z : Nat × Nat, rd_nm u n (p, s, none) 2 en = ((z.2, p, none), z.1, z.2) ∧ P (sl_num u z.1 z.2) ∧ v = (sl_num u z.1 z.2, z.2) ∧ p + 2 ≤ z.1 ∧ z.1 < z.2 ∧ z.2 ≤ en) := by
  have h := nm_eq hu (n := n) (p := p) (s := s) (en := en) he
  cases hz : tx_integer u p en with
  | inl w =>
    rw [hz] at h
    have e : tx_number u p en (nI lo) (nI hi) = .inl w := by unfold tx_number; exact eb_no hz
    rw [e]
    exact req_stk _ _ w h
  | inr z =>
    rw [hz] at h
    obtain ⟨h1, q1, q2, q3, q4, q5⟩ := h
    rw [q1, num_v hu hz q3 hh hl]
    dsimp only
    have hI := (hP (sl_num u z.1 z.2)).trans (num_in hu q3 q5 hh)
    by_cases hb : (127 < u z.1 ∨ ¬ z.2 - z.1 ≤ 3) ∨ ¬ (lo ≤ bigN u z.1 (z.2 - z.1) ∧ bigN u z.1 (z.2 - z.1) ≤ hi)
    · rw [if_pos hb, req_no (zP_f (fun q => hI.mp q hb)).symm]
      exact rfl
    · rw [if_neg hb, req_ok (zP_ne (hI.mpr hb))]
      refine ⟨rfl, z, rfl, hI.mpr hb, ?_, q2, q3, q4⟩
      have hlt := bigN_lt hu z.1 (z.2 - z.1)
      have hp : 256 ^ (z.2 - z.1) ≤ 256 ^ 3 := Nat.pow_le_pow_right (by decide) (by omega)
      have e : (nI (bigN u z.1 (z.2 - z.1))).toInt64 = sl_num u z.1 z.2 := by
        apply Int64.toInt_inj.mp
        rw [Int32.toInt_toInt64, nI_toInt (by omega), num_pos hu q3 (by omega) (by omega)]
      rw [e]
/-! Algorithms, bits, serial numbers. -/
def algL (la : Nat) : List Nat := [42, 134, 72, 134, 247, 13, 1, 1, la]
def algV (u : Nat → Nat) (a b la : Nat) : Prop := b - a = 9 ∧ ∀ k, k < 9 → u (a + k) = (algL la).getD k 0
def algH (la : Nat) (bs : List Int32) : Prop := la < 128 ∧ (algL la).getD 8 0 = la ∧ bs.length / 2 = 9 ∧ (∀ j, j < 8 → sv_PKCS1.getD j 0 = nI ((algL la).getD j 0)) ∧ (∀ j, j < 9 → (algL la).getD j 0 < 256 ∧ (algL la).getD j 0 ≠ 128 ∧ 16 * hexI (bs.getD (2 * j) 0) + hexI (bs.getD (2 * j + 1) 0) = nI ((algL la).getD j 0))
theorem algH11 : algH 11 kz1.2.2.2 := ⟨by decide, rfl, by decide, by decide, by decide⟩
theorem algH1 : algH 1 kz2.2.2.2 := ⟨by decide, rfl, by decide, by decide, by decide⟩
theorem isP_iff {u : Nat → Nat} (hu : ∀ j, u j < 256) {a b la : Nat} {bs : List Int32} (H : algH la bs) : isP u a b bs ↔ algV u a b la := by
  obtain ⟨h1, h2, h3, h4, h5⟩ := H
  unfold isP algV
  rw [h3]
  constructor
  · rintro ⟨q1, q2⟩
    refine ⟨q1, fun k hk => ?_⟩
    have := q2 k (by omega)
    rw [(h5 k hk).2.2, nI_eq (by have := hu (a + k); omega) (by have := (h5 k hk).1; omega)] at this
    exact this
  · rintro ⟨q1, q2⟩
    refine ⟨q1, fun k hk => ?_⟩
    have hk : k < 9 := by omega
    rw [(h5 k hk).2.2, q2 k hk]
theorem algOK_iff {u : Nat → Nat} (hu : ∀ j, u j < 256) {n a b la : Nat} {bs : List Int32} (H : algH la bs) (hb : b ≤ n) : algOK u n a b la ↔ algV u a b la := by
  obtain ⟨h1, h2, h3, h4, h5⟩ := H
  unfold algOK alg0 pk1 algV
  constructor
  · rintro ⟨⟨q1, q2⟩, q3⟩
    refine ⟨q1, fun k hk => ?_⟩
    by_cases h8 : k < 8
    · have := q3 k h8
      rw [oc_in' (show a + k < n by omega), h4 k h8, nI_eq (by have := hu (a + k); omega) (by have := (h5 k hk).1; omega)] at this
      exact this
    · have e : k = 8 := by omega
      subst e
      rw [oc_in' (show b - 1 < n by omega), nI_eq (by have := hu (b - 1); omega) (by omega)] at q2
      rw [h2, ← q2]
      congr 1
      omega
  · rintro ⟨q1, q2⟩
    refine ⟨⟨q1, ?_⟩, fun k hk => ?_⟩
    · rw [oc_in' (show b - 1 < n by omega)]
      have := q2 8 (by decide)
      rw [h2] at this
      rw [← this]
      congr 2
      omega
    · rw [oc_in' (show a + k < n by omega), h4 k hk, q2 k (by omega)]
theorem algV_oid {u : Nat → Nat} {a b la : Nat} {bs : List Int32} (H : algH la bs) (h : algV u a b la) : oidOK u a b := by
  obtain ⟨h1, h2, h3, h4, h5⟩ := H
  obtain ⟨q1, q2⟩ := h
  refine (oid_iff (z := (a, b)) (show a ≤ b by omega)).mpr ?_
  rintro (q | ⟨k, k1, k2, k3⟩)
  · have := q2 8 (by decide)
    rw [h2, show a + 8 = b - 1 by omega] at this
    rcases q with q | q
    · have : a = b := q
      omega
    · exact q (show u (b - 1) ≤ 127 by omega)
  · have k1 : a ≤ k := k1
    have k2 : k < b := k2
    have := q2 (k - a) (by omega)
    rw [show a + (k - a) = k by omega] at this
    exact (h5 (k - a) (by omega)).2.1 (this.symm.trans k3.1)
theorem lea_mono {y : rS} {e w : Nat} {P P' : Prop} (h : P' → P) (hw : (rd_lea y e (zP P)).2.2 = some w) : (rd_lea y e (zP P')).2.2 = some w := by
  obtain ⟨p, s, v⟩ := y
  cases v with
  | some j => exact hw
  | none =>
    by_cases hP : P
    · rw [lea_ok (zP_ne hP)] at hw
      cases hw
    · rw [lea_no (zP_f hP).symm] at hw
      rw [lea_no (zP_f (fun q => hP (h q))).symm]
      exact hw
theorem noth_q {u : Nat → Nat} {n p s en : Nat} (he : en ≤ n) : agr (rd_lea (rd_opn u n (p, s, none) 5 en).1 (rd_opn u n (p, s, none) 5 en).2 (zP ((rd_opn u n (p, s, none) 5 en).2 = (rd_opn u n (p, s, none) 5 en).1.1))) (tx_nothing u p en) (fun z => rd_lea (rd_opn u n (p, s, none) 5 en).1 (rd_opn u n (p, s, none) 5 en).2 (zP ((rd_opn u n (p, s, none) 5 en).2 = (rd_opn u n (p, s, none) 5 en).1.1)) = (z, p, none) ∧ p + 2 ≤ z ∧ z ≤ en) := by
  unfold tx_nothing
  refine agr.step (el_q he) (lea_stk _ _ _) (fun z hz hn1 hq => ?_)
  obtain ⟨q1, q2, q3, q4, q5⟩ := hq
  rw [q1]
  dsimp only
  by_cases hb : z.1 = z.2
  · rw [if_pos hb, lea_ok (zP_ne hb.symm)]
    exact ⟨rfl, rfl, by omega, q4⟩
  · rw [if_neg hb, lea_no (zP_f (fun q => hb q.symm)).symm]
    exact rfl
theorem alg_q {u : Nat → Nat} (hu : ∀ j, u j < 256) {n p s en la : Nat} {bs : List Int32} (H : algH la bs) (he : en ≤ n) (hn : n ≤ 2048) : agr (rd_alg u n (p, s, none) la en) (tx_algorithm u p en bs) (fun z => ∃ s', rd_alg u n (p, s, none) la en = (z, s', none) ∧ p + 2 ≤ z ∧ z ≤ en) := by
  unfold tx_algorithm rd_alg
  refine agr.step (el_q he) (fun w9 h9 => by
      generalize rd_opn u n (p, s, none) 48 en = o9 at h9 ⊢
      obtain ⟨⟨p1, s1, v1⟩, e1⟩ := o9
      cases (show v1 = some w9 from h9)
      rfl) (fun z hz hn1 hq => ?_)
  obtain ⟨q1, q2, q3, q4, q5⟩ := hq
  rw [q1]
  dsimp only
  have ho := oid_q (u := u) (n := n) (p := z.1) (s := p) (en := z.2) (by omega) hn
  cases hR : tx_oid u z.1 z.2 with
  | inl w =>
    rw [hR] at ho
    have h9 : (rd_lea (rd_opn u n (z.1, p, none) 6 z.2).1 (rd_opn u n (z.1, p, none) 6 z.2).2 (zP (algOK u n (rd_opn u n (z.1, p, none) 6 z.2).1.1 (rd_opn u n (z.1, p, none) 6 z.2).2 la))).2.2 = some w := by
      have hx : (rd_lea (rd_opn u n (z.1, p, none) 6 z.2).1 (rd_opn u n (z.1, p, none) 6 z.2).2 (zP (oidOK u (rd_opn u n (z.1, p, none) 6 z.2).1.1 (rd_opn u n (z.1, p, none) 6 z.2).2))).2.2 = some w := ho
      cases hE : tx_element u z.1 6 z.2 with
      | inl w2 =>
        have hel := el_q (u := u) (n := n) (p := z.1) (s := p) (tg := 6) (en := z.2) (by omega)
        rw [hE] at hel
        have hel : (rd_opn u n (z.1, p, none) 6 z.2).1.2.2 = some w2 := hel
        have hy := lea_stk _ (rd_opn u n (z.1, p, none) 6 z.2).2 (zP (oidOK u (rd_opn u n (z.1, p, none) 6 z.2).1.1 (rd_opn u n (z.1, p, none) 6 z.2).2)) w2 hel
        rw [hy] at hx
        rw [← hx]
        exact lea_stk _ _ _ w2 hel
      | inr z2 =>
        have hel := el_q (u := u) (n := n) (p := z.1) (s := p) (tg := 6) (en := z.2) (by omega)
        rw [hE] at hel
        obtain ⟨_, r1, r2, r3, r4, r5⟩ := hel
        rw [r1] at hx ⊢
        exact lea_mono (fun q => algV_oid H ((algOK_iff hu H (by omega)).mp q)) hx
    refine agr.no (x := (rd_lea (rd_opn u n (z.1, p, none) 6 z.2).1 (rd_opn u n (z.1, p, none) 6 z.2).2 (zP (algOK u n (rd_opn u n (z.1, p, none) 6 z.2).1.1 (rd_opn u n (z.1, p, none) 6 z.2).2 la)))) h9 rfl ?_
    exact (opn_stk u n _ 5 z.2).tr ((lea_stk _ _ _).tr (fin_stk _ _))
  | inr y =>
    rw [hR] at ho
    obtain ⟨_, r1, r2, r3, r4, r5, r6⟩ := ho
    refine agr.ok rfl ?_
    rw [r1]
    dsimp only
    have hi := (isP_iff hu (a := y.1) (b := y.2) H)
    have hk := (algOK_iff hu (n := n) (a := y.1) (b := y.2) H (by omega))
    by_cases hb : isP u y.1 y.2 bs
    · rw [if_pos hb, lea_ok (zP_ne (hk.mpr (hi.mp hb)))]
      refine agr.step (noth_q (u := u) (n := n) (p := y.2) (s := z.1) (en := z.2) (by omega)) (fin_stk _ _) (fun v hv hn2 hq2 => ?_)
      obtain ⟨t1, t2, t3⟩ := hq2
      rw [t1]
      refine agr.step (fin_q (u := u) (p := v) (s := y.2) (en := z.2)) (stk.rf _) (fun _ _ _ hq3 => ?_)
      rw [hq3.1]
      have e : v = z.2 := by omega
      subst e
      exact ⟨rfl, y.2, rfl, by omega, by omega⟩
    · rw [if_neg hb, lea_no (zP_f (fun q => hb (hi.mpr (hk.mp q)))).symm]
      exact rfl
theorem alg_stk (u : Nat → Nat) (n : Nat) (x : rS) (la en : Nat) : stk x (rd_alg u n x la en) := (opn_stk u n x 48 en).tr ((opn_stk u n _ 6 _).tr ((lea_stk _ _ _).tr ((opn_stk u n _ 5 _).tr ((lea_stk _ _ _).tr (fin_stk _ _)))))
theorem bits_q {u : Nat → Nat} (hu : ∀ j, u j < 256) {n p s en : Nat} (he : en ≤ n) : agr (rd_bits u n (p, s, none) en).1 (tx_bits u p en) (fun z => rd_bits u n (p, s, none) en = ((z.1, p, none), z.2) ∧ p + 3 ≤ z.1 ∧ z.1 ≤ z.2 ∧ z.2 ≤ en) := by
  unfold tx_bits rd_bits
  dsimp only
  refine agr.step (el_q he) (lea_stk _ _ _) (fun z hz hn hq => ?_)
  obtain ⟨q1, q2, q3, q4, q5⟩ := hq
  rw [q1]
  dsimp only
  by_cases hb : z.1 = z.2 ∨ ¬ u z.1 = 0
  · rw [if_pos hb, lea_no (zI_0 (fun q => ?_))]
    · exact rfl
    · rcases hb with h | h
      · omega
      · exact h ((oc_0 hu (show z.1 < n by omega)).mp q.2)
  · have h1 : z.1 < z.2 := by omega
    have h2 : u z.1 = 0 := by omega
    rw [if_neg hb, lea_ok (zI_ne ⟨h1, (oc_0 hu (show z.1 < n by omega)).mpr h2⟩)]
    exact ⟨rfl, rfl, by show p + 3 ≤ z.1 + 1; omega, by show z.1 + 1 ≤ z.2; omega, q4⟩
theorem bits_stk (u : Nat → Nat) (n : Nat) (x : rS) (en : Nat) : stk x (rd_bits u n x en).1 := (opn_stk u n x 3 en).tr (lea_stk _ _ _)
theorem ser_iff {u : Nat → Nat} (hu : ∀ j, u j < 256) {a b : Nat} (h : a < b) : serOK u a b ↔ ¬ ((128 ≤ u a) ∨ (((b - a = 1) ∧ ((u a = 0) ∨ (¬ (b - a ≤ 20)))) ∨ (¬ (b - a = 1) ∧ (¬ (b - a ≤ 20))))) := by
  unfold serOK
  have e1 : ((128 : Int32) ≤ sl_at u a b 0 ↔ 128 ≤ u a) := by
    rw [sl_0 h, show (128 : Int32) = nI 128 from rfl, nI_leI (by omega) (by have := hu a; omega)]
  have e2 : ((0 : Int32) < sl_at u a b 0 ↔ 0 < u a) := by
    rw [sl_0 h]
    exact nI_ltI (a := 0) (by omega) (by have := hu a; omega)
  rw [e1, e2]
  omega
theorem ser_q {u : Nat → Nat} (hu : ∀ j, u j < 256) {n p s en : Nat} (he : en ≤ n) : agr (rd_ser u n (p, s, none) en).1 (tx_serial u p en) (fun z => rd_ser u n (p, s, none) en = ((z.2, p, none), z.1, z.2) ∧ p + 2 ≤ z.1 ∧ z.1 < z.2 ∧ z.2 ≤ en) := by
  unfold tx_serial rd_ser
  dsimp only
  refine agr.step (nm_eq hu he) (req_stk _ _) (fun z hz hn hq => ?_)
  obtain ⟨q1, q2, q3, q4, q5⟩ := hq
  rw [q1]
  dsimp only
  have hi := ser_iff hu q3
  by_cases hb : (128 ≤ u z.1) ∨ (((z.2 - z.1 = 1) ∧ ((u z.1 = 0) ∨ (¬ (z.2 - z.1 ≤ 20)))) ∨ (¬ (z.2 - z.1 = 1) ∧ (¬ (z.2 - z.1 ≤ 20))))
  · rw [if_pos hb, req_no (zP_f (fun q => hi.mp q hb)).symm]
    exact rfl
  · rw [if_neg hb, req_ok (zP_ne (hi.mpr hb))]
    exact ⟨rfl, rfl, q2, q3, q4⟩
theorem ser_stk (u : Nat → Nat) (n : Nat) (x : rS) (en : Nat) : stk x (rd_ser u n x en).1 := (nm_stk u n x 2 en).tr (req_stk _ _)
/-! Strings. -/
noncomputable def strB (u : Nat → Nat) (tg9 b9 : Nat) : Int32 × Nat → Nat ⊕ (Int32 × Nat) := (fun s80 : Int32 × Nat => ((eb ((@ite _ (tg9 = 22) (Classical.propDecidable _) (.inr (zP (¬ (128 ≤ (u s80.2))), s80.2)) (@ite _ (tg9 = 19) (Classical.propDecidable _) (.inr (zP ((65 ≤ (u s80.2) ∧ (u s80.2) ≤ 90) ∨ ((97 ≤ (u s80.2) ∧ (u s80.2) ≤ 122) ∨ ((48 ≤ (u s80.2) ∧ (u s80.2) ≤ 57) ∨ (isInP k0s (nI (u s80.2)))))), s80.2)) (@ite _ (128 ≤ (u s80.2)) (Classical.propDecidable _) (@ite _ (194 ≤ (u s80.2) ∧ (u s80.2) ≤ 223) (Classical.propDecidable _) (@ite _ (¬ (b9 ≤ (s80.2 + 1))) (Classical.propDecidable _) (@ite _ (128 ≤ (u (s80.2 + 1)) ∧ (u (s80.2 + 1)) ≤ 191) (Classical.propDecidable _) (.inr (zP (128 ≤ (u (s80.2 + 1)) ∧ (u (s80.2 + 1)) ≤ 191), (s80.2 + 1))) (.inr (zP (128 ≤ (u (s80.2 + 1)) ∧ (u (s80.2 + 1)) ≤ 191), (s80.2 + 1)))) (.inr (zP (¬ (b9 ≤ (s80.2 + 1))), (s80.2 + 1)))) (@ite _ (224 ≤ (u s80.2) ∧ (u s80.2) ≤ 239) (Classical.propDecidable _) (@ite _ (¬ (b9 ≤ (s80.2 + 2))) (Classical.propDecidable _) (@ite _ (128 ≤ (u (s80.2 + 1)) ∧ (u (s80.2 + 1)) ≤ 191) (Classical.propDecidable _) (@ite _ (128 ≤ (u (s80.2 + 2)) ∧ (u (s80.2 + 2)) ≤ 191) (Classical.propDecidable _) (.inr (zP (¬ (((((((nI (u s80.2)) &&& 15) <<< (6 &&& 31)) ||| ((nI (u (s80.2 + 1))) &&& 63)) <<< (6 &&& 31)) ||| ((nI (u (s80.2 + 2))) &&& 63)) < (2048 : Int32)) ∧ (¬ (¬ ((((((nI (u s80.2)) &&& 15) <<< (6 &&& 31)) ||| ((nI (u (s80.2 + 1))) &&& 63)) <<< (6 &&& 31)) ||| ((nI (u (s80.2 + 2))) &&& 63)) < (55296 : Int32) ∧ ¬ (57343 : Int32) < ((((((nI (u s80.2)) &&& 15) <<< (6 &&& 31)) ||| ((nI (u (s80.2 + 1))) &&& 63)) <<< (6 &&& 31)) ||| ((nI (u (s80.2 + 2))) &&& 63))))), (s80.2 + 2))) (.inr (0, (s80.2 + 2)))) (.inr (0, (s80.2 + 2)))) (.inr (0, (s80.2 + 2)))) (@ite _ (240 ≤ (u s80.2) ∧ (u s80.2) ≤ 244) (Classical.propDecidable _) (@ite _ (¬ (b9 ≤ (s80.2 + 3))) (Classical.propDecidable _) (@ite _ (128 ≤ (u (s80.2 + 1)) ∧ (u (s80.2 + 1)) ≤ 191) (Classical.propDecidable _) (@ite _ (128 ≤ (u (s80.2 + 2)) ∧ (u (s80.2 + 2)) ≤ 191) (Classical.propDecidable _) (@ite _ (128 ≤ (u (s80.2 + 3)) ∧ (u (s80.2 + 3)) ≤ 191) (Classical.propDecidable _) (.inr (zP (¬ ((((((((nI (u s80.2)) &&& 7) <<< (6 &&& 31)) ||| ((nI (u (s80.2 + 1))) &&& 63)) <<< (6 &&& 31)) ||| ((nI (u (s80.2 + 2))) &&& 63)) <<< (6 &&& 31)) ||| ((nI (u (s80.2 + 3))) &&& 63)) < (65536 : Int32) ∧ ¬ (1114111 : Int32) < ((((((((nI (u s80.2)) &&& 7) <<< (6 &&& 31)) ||| ((nI (u (s80.2 + 1))) &&& 63)) <<< (6 &&& 31)) ||| ((nI (u (s80.2 + 2))) &&& 63)) <<< (6 &&& 31)) ||| ((nI (u (s80.2 + 3))) &&& 63))), (s80.2 + 3))) (.inr (0, (s80.2 + 3)))) (.inr (0, (s80.2 + 3)))) (.inr (0, (s80.2 + 3)))) (.inr (0, (s80.2 + 3)))) (.inr (0, (s80.2 - 1)))))) (@ite _ (¬ (b9 ≤ (s80.2 + 0))) (Classical.propDecidable _) (.inr (zP (¬ (b9 ≤ (s80.2 + 0))), (s80.2 + 0))) (.inr (zP (¬ (b9 ≤ (s80.2 + 0))), (s80.2 + 0))))))) : Nat ⊕ (Int32 × Nat)) (fun s93 => (.inr (s93.1, (s93.2 + 1))))) : Nat ⊕ (Int32 × Nat)))
noncomputable def utR (u : Nat → Nat) : Nat → Nat → Int32 × Int32 × Int32 → Option (Int32 × Int32 × Int32)
  | 0, _, z => some z
  | k + 1, i, z => match utS (nI (u i)) z with
    | none => none
    | some z' => utR u k (i + 1) z'
theorem utG_R (u : Nat → Nat) (a : Nat) : ∀ k j, utG u a (j + k) = match utG u a j with | none => none | some z => utR u k (a + j) z
  | 0, j => by
    show utG u a j = _
    cases utG u a j with
    | none => rfl
    | some z => rfl
  | k + 1, j => by
    have ih := utG_R u a k (j + 1)
    rw [show j + (k + 1) = j + 1 + k by omega, ih]
    show (match (match utG u a j with | none => none | some z => utS (nI (u (a + j))) z) with | none => none | some z => utR u k (a + (j + 1)) z) = _
    cases utG u a j with
    | none => rfl
    | some z => rfl
def fU (u : Nat → Nat) (k i : Nat) (z : Int32 × Int32 × Int32) : Prop := ∃ z', utR u k i z = some z' ∧ z'.1 = 0
theorem fU_s {u : Nat → Nat} {k i : Nat} {z z1 : Int32 × Int32 × Int32} (h : utS (nI (u i)) z = some z1) : fU u (k + 1) i z ↔ fU u k (i + 1) z1 := by
  unfold fU
  rw [show utR u (k + 1) i z = utR u k (i + 1) z1 from by show (match utS (nI (u i)) z with | none => none | some z' => utR u k (i + 1) z') = _; rw [h]]
theorem fU_n {u : Nat → Nat} {k i : Nat} {z : Int32 × Int32 × Int32} (h : utS (nI (u i)) z = none) : ¬ fU u (k + 1) i z := by
  rintro ⟨z', h1, _⟩
  rw [show utR u (k + 1) i z = none from by show (match utS (nI (u i)) z with | none => none | some z' => utR u k (i + 1) z') = _; rw [h]] at h1
  cases h1
theorem fU_0 {u : Nat → Nat} {i : Nat} {z : Int32 × Int32 × Int32} (h : z.1 ≠ 0) : ¬ fU u 0 i z := by
  rintro ⟨z', h1, h2⟩
  cases h1
  exact h h2
theorem i0le : (0 : Int32) ≤ 0 := by decide
theorem fU_ind (u : Nat → Nat) : ∀ k i (m q m' q' : Int32), fU u k i (0, m, q) ↔ fU u k i (0, m', q')
  | 0, i, m, q, m', q' => ⟨fun _ => ⟨_, rfl, rfl⟩, fun _ => ⟨_, rfl, rfl⟩⟩
  | k + 1, i, m, q, m', q' => by
    by_cases h1 : nI (u i) < 128
    · rw [fU_s (utS_3 i0le h1), fU_s (utS_3 i0le h1)]
      exact fU_ind u k (i + 1) m q m' q'
    · by_cases h2 : nI (u i) < 192 ∨ ¬ nI (u i) < 248
      · exact ⟨fun q => absurd q (fU_n (utS_4 i0le h1 h2)), fun q => absurd q (fU_n (utS_4 i0le h1 h2))⟩
      · have h3 : ¬ nI (u i) < 192 := fun q => h2 (Or.inl q)
        have h4 : nI (u i) < 248 := Classical.byContradiction (fun q => h2 (Or.inr q))
        rw [fU_s (utS_5 i0le h1 h3 h4), fU_s (utS_5 i0le h1 h3 h4)]
def okU (u : Nat → Nat) (b i : Nat) : Prop := fU u (b - i) i (0, 0, 0)
theorem utOK_iff (u : Nat → Nat) (a b : Nat) : utOK u a b ↔ okU u b a := by
  have h := utG_R u a (b - a) 0
  rw [Nat.zero_add] at h
  unfold utOK okU fU
  rw [h]
  exact Iff.rfl
theorem b_192 : ∀ c, c < 256 → (nI c &&& 192 = 128 ↔ 128 ≤ c ∧ c ≤ 191) := by decide +kernel
theorem b_63 : ∀ c, c < 256 → nI c &&& 63 = nI (c % 64) := by decide +kernel
theorem b_31 : ∀ c, c < 256 → nI c &&& ((63 : Int32) >>> ((1 : Int32) &&& 31)) = nI (c % 32) := by decide +kernel
theorem b_15 : ∀ c, c < 256 → nI c &&& ((63 : Int32) >>> ((2 : Int32) &&& 31)) = nI (c % 16) := by decide +kernel
theorem b_7 : ∀ c, c < 256 → nI c &&& ((63 : Int32) >>> ((3 : Int32) &&& 31)) = nI (c % 8) := by decide +kernel
theorem b_15' : ∀ c, c < 256 → nI c &&& 15 = nI (c % 16) := by decide +kernel
theorem b_7' : ∀ c, c < 256 → nI c &&& 7 = nI (c % 8) := by decide +kernel
theorem b_lt : ∀ c, c < 256 → ((nI c < 128 ↔ c < 128) ∧ (nI c < 192 ↔ c < 192) ∧ (nI c < 248 ↔ c < 248)) := by decide +kernel
theorem b_utL : ∀ c, c < 256 → utL (nI c) = if 224 ≤ c then (if 240 ≤ c then 3 else 2) else 1 := by decide +kernel
theorem sh6g {a b : Nat} (ha : a < 2 ^ 24) (hb : b < 64) : (nI a <<< ((6 : Int32) &&& 31)) ||| nI b = nI (a * 64 + b) := by
  rw [show ((6 : Int32) &&& 31) = 6 from by decide]
  have h := Nat.shiftLeft_add_eq_or_of_lt (show b < 2 ^ 6 from hb) a
  apply Int32.toBitVec_inj.mp
  apply BitVec.eq_of_toNat_eq
  show ((nI a).toBitVec <<< (BitVec.smod (6 : Int32).toBitVec 32) ||| (nI b).toBitVec).toNat = (nI (a * 64 + b)).toBitVec.toNat
  rw [show BitVec.smod (6 : Int32).toBitVec 32 = 6#32 from by decide]
  have e1 : (nI a).toBitVec = BitVec.ofNat 32 a := rfl
  have e2 : (nI b).toBitVec = BitVec.ofNat 32 b := rfl
  have e3 : (nI (a * 64 + b)).toBitVec = BitVec.ofNat 32 (a * 64 + b) := rfl
  rw [e1, e2, e3, BitVec.toNat_or, BitVec.toNat_ofNat, BitVec.toNat_ofNat, BitVec.shiftLeft_eq', BitVec.toNat_shiftLeft, BitVec.toNat_ofNat]
  rw [show (6#32).toNat = 6 from rfl, Nat.mod_eq_of_lt (show a < 2 ^ 32 by omega), Nat.mod_eq_of_lt (show b < 2 ^ 32 by omega), Nat.mod_eq_of_lt (show a * 64 + b < 2 ^ 32 by omega)]
  rw [Nat.shiftLeft_eq] at h ⊢
  rw [Nat.mod_eq_of_lt (show a * 2 ^ 6 < 2 ^ 32 by omega), ← h]
theorem utP_n {c v : Nat} (hc : c < 256) (hv : v < 2 ^ 24) : utP (nI c) (nI v) = nI (v * 64 + c % 64) := by
  unfold utP
  rw [b_63 c hc]
  exact sh6g hv (by omega)
/-- one more octet of a code point -/
theorem fU_c {u : Nat → Nat} (hu : ∀ j, u j < 256) {k i v : Nat} {z1 L : Int32} (h1 : ¬ z1 ≤ 0) (hv : v < 2 ^ 24) : fU u (k + 1) i (z1, L, nI v) ↔ ((128 ≤ u i ∧ u i ≤ 191) ∧ ¬ utBad (z1 + (-1)) L (nI (v * 64 + u i % 64)) ∧ fU u k (i + 1) (z1 + (-1), L, nI (v * 64 + u i % 64))) := by
  have e := utP_n (hu i) hv
  have e2 := b_192 _ (hu i)
  by_cases h2 : nI (u i) &&& 192 = 128
  · by_cases h3 : utBad (z1 + (-1)) L (utP (nI (u i)) (nI v))
    · have := fU_n (k := k) (utS_2 h1 (Or.inr h3))
      rw [e] at h3
      exact ⟨fun q => absurd q this, fun q => absurd h3 q.2.1⟩
    · rw [fU_s (utS_1 h1 h2 h3), e]
      rw [e] at h3
      exact ⟨fun q => ⟨e2.mp h2, h3, q⟩, fun q => q.2.2⟩
  · have := fU_n (k := k) (utS_2 (z2 := L) (z3 := nI v) h1 (Or.inl h2))
    exact ⟨fun q => absurd q this, fun q => absurd (e2.mpr q.1) h2⟩
theorem fU_1 {u : Nat → Nat} {i : Nat} {L q : Int32} : ¬ fU u 0 i (1, L, q) := fU_0 (show (1 : Int32) ≠ 0 by decide)
theorem fU_2 {u : Nat → Nat} {i : Nat} {L q : Int32} : ¬ fU u 0 i (2, L, q) := fU_0 (show (2 : Int32) ≠ 0 by decide)
theorem fU_3 {u : Nat → Nat} {i : Nat} {L q : Int32} : ¬ fU u 0 i (3, L, q) := fU_0 (show (3 : Int32) ≠ 0 by decide)
theorem i1n : ¬ (1 : Int32) ≤ 0 := by decide
theorem i2n : ¬ (2 : Int32) ≤ 0 := by decide
theorem i3n : ¬ (3 : Int32) ≤ 0 := by decide
theorem i11 : (1 : Int32) + (-1) = 0 := by decide
theorem i21 : (2 : Int32) + (-1) = 1 := by decide
theorem i31 : (3 : Int32) + (-1) = 2 := by decide
theorem utBad1 {z L q : Int32} (h : z ≠ 0) : ¬ utBad z L q := fun b => h b.1
theorem utBad0 {L v : Nat} (hL : L < 2 ^ 31) (hv : v < 2 ^ 31) : utBad 0 (nI L) (nI v) ↔ (v < L ∨ 1114111 < v ∨ (55296 ≤ v ∧ v ≤ 57343)) := by
  unfold utBad
  rw [show (1114111 : Int32) = nI 1114111 from rfl, show (55296 : Int32) = nI 55296 from rfl, show (57343 : Int32) = nI 57343 from rfl, nI_ltI hv hL, nI_ltI (by omega) hv, nI_ltI hv (by omega), nI_ltI (by omega) hv]
  constructor
  · rintro ⟨_, h⟩; omega
  · intro h; exact ⟨rfl, by omega⟩
/-- code points of one, two, three, four octets -/
theorem okU_1 {u : Nat → Nat} (hu : ∀ j, u j < 256) {b i : Nat} (hi : i < b) (h : u i < 128) : okU u b i ↔ okU u b (i + 1) := by
  unfold okU
  rw [show b - i = (b - (i + 1)) + 1 by omega, fU_s (utS_3 i0le ((b_lt _ (hu i)).1.mpr h))]
theorem okU_x {u : Nat → Nat} (hu : ∀ j, u j < 256) {b i : Nat} (hi : i < b) (h : (128 ≤ u i ∧ u i < 192) ∨ 248 ≤ u i) : ¬ okU u b i := by
  unfold okU
  rw [show b - i = (b - (i + 1)) + 1 by omega]
  refine fU_n (utS_4 i0le (fun q => ?_) ?_)
  · have := (b_lt _ (hu i)).1.mp q
    omega
  · rcases h with h | h
    · exact Or.inl ((b_lt _ (hu i)).2.1.mpr h.2)
    · refine Or.inr (fun q => ?_)
      have := (b_lt _ (hu i)).2.2.mp q
      omega
theorem okU_s {u : Nat → Nat} (hu : ∀ j, u j < 256) {b i : Nat} (hi : i < b) (h1 : 192 ≤ u i) (h2 : u i < 248) : okU u b i ↔ fU u (b - (i + 1)) (i + 1) (utL (nI (u i)), utM (utL (nI (u i))), nI (u i) &&& ((63 : Int32) >>> (utL (nI (u i)) &&& 31))) := by
  unfold okU
  have hb := b_lt _ (hu i)
  rw [show b - i = (b - (i + 1)) + 1 by omega, fU_s (utS_5 i0le (fun q => by have := hb.1.mp q; omega) (fun q => by have := hb.2.1.mp q; omega) (hb.2.2.mpr h2))]
theorem okU_2 {u : Nat → Nat} (hu : ∀ j, u j < 256) {b i : Nat} (hi : i < b) (h1 : 192 ≤ u i) (h2 : u i < 224) : okU u b i ↔ (i + 1 < b ∧ (128 ≤ u (i + 1) ∧ u (i + 1) ≤ 191) ∧ 194 ≤ u i ∧ okU u b (i + 2)) := by
  have eL : utL (nI (u i)) = 1 := by rw [b_utL _ (hu i), if_neg (by omega)]
  rw [okU_s hu hi h1 (by omega), eL, show utM 1 = nI 128 from rfl, b_31 _ (hu i)]
  by_cases hb : i + 1 < b
  · rw [show b - (i + 1) = (b - (i + 2)) + 1 by omega, fU_c hu i1n (by omega), i11, utBad0 (by omega) (by omega)]
    unfold okU
    rw [fU_ind u _ _ (nI 128) _ 0 0]
    have hx : (¬ (u i % 32 * 64 + u (i + 1) % 64 < 128 ∨ 1114111 < u i % 32 * 64 + u (i + 1) % 64 ∨ (55296 ≤ u i % 32 * 64 + u (i + 1) % 64 ∧ u i % 32 * 64 + u (i + 1) % 64 ≤ 57343))) ↔ 194 ≤ u i := by omega
    rw [hx]
    exact ⟨fun q => ⟨hb, q⟩, fun q => q.2⟩
  · rw [show b - (i + 1) = 0 by omega]
    exact ⟨fun q => absurd q fU_1, fun q => absurd q.1 hb⟩
theorem okU_3 {u : Nat → Nat} (hu : ∀ j, u j < 256) {b i : Nat} (hi : i < b) (h1 : 224 ≤ u i) (h2 : u i < 240) : okU u b i ↔ (i + 2 < b ∧ (128 ≤ u (i + 1) ∧ u (i + 1) ≤ 191) ∧ (128 ≤ u (i + 2) ∧ u (i + 2) ≤ 191) ∧ (2048 ≤ (u i % 16 * 64 + u (i + 1) % 64) * 64 + u (i + 2) % 64 ∧ ¬ (55296 ≤ (u i % 16 * 64 + u (i + 1) % 64) * 64 + u (i + 2) % 64 ∧ (u i % 16 * 64 + u (i + 1) % 64) * 64 + u (i + 2) % 64 ≤ 57343)) ∧ okU u b (i + 3)) := by
  have eL : utL (nI (u i)) = 2 := by rw [b_utL _ (hu i), if_pos h1, if_neg (by omega)]
  rw [okU_s hu hi (by omega) (by omega), eL, show utM 2 = nI 2048 from rfl, b_15 _ (hu i)]
  by_cases hb : i + 1 < b
  · rw [show b - (i + 1) = (b - (i + 2)) + 1 by omega, fU_c hu i2n (by omega), i21]
    by_cases hc : i + 2 < b
    · rw [show b - (i + 2) = (b - (i + 3)) + 1 by omega, fU_c hu i1n (by omega), i11, utBad0 (by omega) (by omega)]
      unfold okU
      rw [fU_ind u _ _ (nI 2048) _ 0 0]
      constructor
      · rintro ⟨q1, _, q2, q3, q4⟩
        exact ⟨hc, q1, q2, by omega, q4⟩
      · rintro ⟨_, q1, q2, q3, q4⟩
        exact ⟨q1, utBad1 (by decide), q2, by omega, q4⟩
    · rw [show b - (i + 2) = 0 by omega]
      exact ⟨fun q => absurd q.2.2 fU_1, fun q => absurd q.1 hc⟩
  · rw [show b - (i + 1) = 0 by omega]
    exact ⟨fun q => absurd q fU_2, fun q => absurd q.1 (by omega)⟩
theorem okU_4 {u : Nat → Nat} (hu : ∀ j, u j < 256) {b i : Nat} (hi : i < b) (h1 : 240 ≤ u i) (h2 : u i < 248) : okU u b i ↔ (i + 3 < b ∧ (128 ≤ u (i + 1) ∧ u (i + 1) ≤ 191) ∧ (128 ≤ u (i + 2) ∧ u (i + 2) ≤ 191) ∧ (128 ≤ u (i + 3) ∧ u (i + 3) ≤ 191) ∧ (65536 ≤ ((u i % 8 * 64 + u (i + 1) % 64) * 64 + u (i + 2) % 64) * 64 + u (i + 3) % 64 ∧ ((u i % 8 * 64 + u (i + 1) % 64) * 64 + u (i + 2) % 64) * 64 + u (i + 3) % 64 ≤ 1114111) ∧ okU u b (i + 4)) := by
  have eL : utL (nI (u i)) = 3 := by rw [b_utL _ (hu i), if_pos (by omega), if_pos h1]
  rw [okU_s hu hi (by omega) h2, eL, show utM 3 = nI 65536 from rfl, b_7 _ (hu i)]
  by_cases hb : i + 1 < b
  · rw [show b - (i + 1) = (b - (i + 2)) + 1 by omega, fU_c hu i3n (by omega), i31]
    by_cases hc : i + 2 < b
    · rw [show b - (i + 2) = (b - (i + 3)) + 1 by omega, fU_c hu i2n (by omega), i21]
      by_cases hd : i + 3 < b
      · rw [show b - (i + 3) = (b - (i + 4)) + 1 by omega, fU_c hu i1n (by omega), i11, utBad0 (by omega) (by omega)]
        unfold okU
        rw [fU_ind u _ _ (nI 65536) _ 0 0]
        constructor
        · rintro ⟨q1, _, q2, _, q3, q4, q5⟩
          exact ⟨hd, q1, q2, q3, by omega, q5⟩
        · rintro ⟨_, q1, q2, q3, q4, q5⟩
          exact ⟨q1, utBad1 (by decide), q2, utBad1 (by decide), q3, by omega, q5⟩
      · rw [show b - (i + 3) = 0 by omega]
        exact ⟨fun q => absurd q.2.2.2.2 fU_1, fun q => absurd q.1 hd⟩
    · rw [show b - (i + 2) = 0 by omega]
      exact ⟨fun q => absurd q.2.2 fU_2, fun q => absurd q.1 (by omega)⟩
  · rw [show b - (i + 1) = 0 by omega]
    exact ⟨fun q => absurd q fU_3, fun q => absurd q.1 (by omega)⟩
/-- a turn of the reference's loop -/
def stp (B : Int32 × Nat → Nat ⊕ (Int32 × Nat)) (b : Nat) (okP : Nat → Prop) : Prop := ∀ r i, i < b → ∃ r' j, B (r, i) = .inr (r', j) ∧ (r' = 0 → ¬ okP i) ∧ (r' ≠ 0 → i < j ∧ (okP i ↔ okP j))
theorem lpS {B : Int32 × Nat → Nat ⊕ (Int32 × Nat)} {b : Nat} {okP : Nat → Prop} (hB : stp B b okP) (h0 : ∀ i, b ≤ i → okP i) : ∀ (f : Nat) (r : Int32) (i : Nat), r ≠ 0 → b - i ≤ f → ∃ r' j, loopE B (fun s => ¬ (s.1 = (0 : Int32)) ∧ (¬ (b ≤ s.2))) f (r, i) = .inr (r', j) ∧ (r' = 0 ↔ ¬ okP i)
  | 0, r, i, hr, hf => ⟨r, i, rfl, fun q => absurd q hr, fun q => absurd (h0 i (by omega)) q⟩
  | f + 1, r, i, hr, hf => by
    by_cases hi : b ≤ i
    · exact ⟨r, i, if_neg (fun q => q.2 hi), fun q => absurd q hr, fun q => absurd (h0 i hi) q⟩
    · obtain ⟨r1, j1, e1, g1, g2⟩ := hB r i (by omega)
      have e : loopE B (fun s => ¬ (s.1 = (0 : Int32)) ∧ (¬ (b ≤ s.2))) (f + 1) (r, i) = loopE B (fun s => ¬ (s.1 = (0 : Int32)) ∧ (¬ (b ≤ s.2))) f (r1, j1) := (if_pos ⟨hr, hi⟩).trans (eb_ok e1)
      rw [e]
      by_cases hz : r1 = 0
      · refine ⟨r1, j1, ?_, fun _ => g1 hz, fun _ => hz⟩
        cases f with
        | zero => rfl
        | succ f => exact if_neg (fun q => q.1 hz)
      · obtain ⟨k1, k2⟩ := g2 hz
        obtain ⟨r', j', h1, h2⟩ := lpS hB h0 f r1 j1 hz (by omega)
        exact ⟨r', j', h1, h2.trans (not_congr k2.symm)⟩
theorem zPf0 {P : Prop} (h : ¬ P) : zP P = 0 := (zP_f h).symm
theorem stp22 {u : Nat → Nat} {b : Nat} : stp (strB u 22 b) b (fun i => smN u 22 i b) := by
  intro r i hi
  have e : strB u 22 b (r, i) = .inr (zP (¬ (128 ≤ u i)), i + 1) := by
    unfold strB
    dsimp only
    rw [if_pos rfl]
    rfl
  refine ⟨_, _, e, fun h0 hs => ?_, fun h1 => ⟨Nat.lt_succ_self i, fun hs k k1 k2 => hs k (by omega) k2, fun hs k k1 k2 => ?_⟩⟩
  · have := (hs i (Nat.le_refl _) hi).2 (by decide)
    exact zP_0.mp h0 (by omega)
  · rcases Nat.lt_or_eq_of_le k1 with q | q
    · exact hs k q k2
    · subst q
      have := zP_1 h1
      exact ⟨fun z => absurd z (by decide), fun _ => by omega⟩
theorem k0_is : ∀ v, v < 256 → (((65 ≤ v ∧ v ≤ 90) ∨ ((97 ≤ v ∧ v ≤ 122) ∨ ((48 ≤ v ∧ v ≤ 57) ∨ (∃ j, j < k0s.length ∧ k0s.getD j 0 = nI v)))) ↔ ((65 ≤ v ∧ v ≤ 90) ∨ (97 ≤ v ∧ v ≤ 122) ∨ (43 ≤ v ∧ v ≤ 58) ∨ (39 ≤ v ∧ v ≤ 41) ∨ v = 32 ∨ v = 61 ∨ v = 63)) := by decide +kernel
theorem stp19 {u : Nat → Nat} (hu : ∀ j, u j < 256) {b : Nat} : stp (strB u 19 b) b (fun i => smN u 19 i b) := by
  intro r i hi
  have e : strB u 19 b (r, i) = .inr (zP ((65 ≤ (u i) ∧ (u i) ≤ 90) ∨ ((97 ≤ (u i) ∧ (u i) ≤ 122) ∨ ((48 ≤ (u i) ∧ (u i) ≤ 57) ∨ (isInP k0s (nI (u i)))))), i + 1) := by
    unfold strB
    dsimp only
    rw [if_neg (by decide : ¬ (19 : Nat) = 22), if_pos rfl]
    rfl
  have hk := k0_is _ (hu i)
  refine ⟨_, _, e, fun h0 hs => ?_, fun h1 => ⟨Nat.lt_succ_self i, fun hs k k1 k2 => hs k (by omega) k2, fun hs k k1 k2 => ?_⟩⟩
  · have := (hs i (Nat.le_refl _) hi).1 rfl
    exact zP_0.mp h0 (hk.mpr this)
  · rcases Nat.lt_or_eq_of_le k1 with q | q
    · exact hs k q k2
    · subst q
      have := zP_1 h1
      exact ⟨fun _ => hk.mp this, fun z => absurd rfl z⟩
theorem stp12 {u : Nat → Nat} (hu : ∀ j, u j < 256) {b : Nat} : stp (strB u 12 b) b (fun i => okU u b i) := by
  intro r i hi
  unfold strB
  dsimp only
  rw [if_neg (by decide : ¬ (12 : Nat) = 22), if_neg (by decide : ¬ (12 : Nat) = 19)]
  by_cases h128 : 128 ≤ u i
  · rw [if_pos h128]
    by_cases c2 : 194 ≤ u i ∧ u i ≤ 223
    · rw [if_pos c2]
      have hk := okU_2 hu hi (by omega) (by omega)
      by_cases c3 : ¬ b ≤ i + 1
      · rw [if_pos c3]
        by_cases c4 : 128 ≤ u (i + 1) ∧ u (i + 1) ≤ 191
        · rw [if_pos c4]
          refine ⟨_, _, rfl, fun h0 => absurd c4 (zP_0.mp h0), fun _ => ⟨by omega, hk.trans ⟨fun q => q.2.2.2, fun q => ⟨by omega, c4, c2.1, q⟩⟩⟩⟩
        · rw [if_neg c4]
          exact ⟨_, _, rfl, fun _ q => c4 (hk.mp q).2.1, fun h1 => absurd (zP_1 h1) c4⟩
      · rw [if_neg c3]
        exact ⟨_, _, rfl, fun _ q => c3 (by have := (hk.mp q).1; omega), fun h1 => absurd (zP_1 h1) c3⟩
    · rw [if_neg c2]
      by_cases c5 : 224 ≤ u i ∧ u i ≤ 239
      · rw [if_pos c5]
        have hk := okU_3 hu hi c5.1 (by omega)
        by_cases c3 : ¬ b ≤ i + 2
        · rw [if_pos c3]
          by_cases c4 : 128 ≤ u (i + 1) ∧ u (i + 1) ≤ 191
          · rw [if_pos c4]
            by_cases c6 : 128 ≤ u (i + 2) ∧ u (i + 2) ≤ 191
            · rw [if_pos c6]
              have ev : ((((((nI (u i)) &&& 15) <<< (6 &&& 31)) ||| ((nI (u (i + 1))) &&& 63)) <<< (6 &&& 31)) ||| ((nI (u (i + 2))) &&& 63)) = nI ((u i % 16 * 64 + u (i + 1) % 64) * 64 + u (i + 2) % 64) := by
                rw [b_15' _ (hu i)]
                show utP (nI (u (i + 2))) (utP (nI (u (i + 1))) (nI (u i % 16))) = _
                rw [utP_n (hu _) (by omega), utP_n (hu _) (by omega)]
              rw [ev]
              generalize hV : (u i % 16 * 64 + u (i + 1) % 64) * 64 + u (i + 2) % 64 = V at hk ⊢
              have hVl : V < 65536 := by omega
              have ec : (¬ (nI V < (2048 : Int32)) ∧ (¬ (¬ nI V < (55296 : Int32) ∧ ¬ (57343 : Int32) < nI V))) ↔ (2048 ≤ V ∧ ¬ (55296 ≤ V ∧ V ≤ 57343)) := by
                rw [show (2048 : Int32) = nI 2048 from rfl, show (55296 : Int32) = nI 55296 from rfl, show (57343 : Int32) = nI 57343 from rfl, nI_ltI (by omega) (by omega), nI_ltI (by omega) (by omega), nI_ltI (by omega) (by omega)]
                omega
              refine ⟨_, _, rfl, fun h0 q => zP_0.mp h0 (ec.mpr (hk.mp q).2.2.2.1), fun h1 => ⟨by omega, hk.trans ⟨fun q => q.2.2.2.2, fun q => ⟨by omega, c4, c6, ec.mp (zP_1 h1), q⟩⟩⟩⟩
            · rw [if_neg c6]
              exact ⟨_, _, rfl, fun _ q => c6 (hk.mp q).2.2.1, fun h1 => absurd rfl h1⟩
          · rw [if_neg c4]
            exact ⟨_, _, rfl, fun _ q => c4 (hk.mp q).2.1, fun h1 => absurd rfl h1⟩
        · rw [if_neg c3]
          exact ⟨_, _, rfl, fun _ q => c3 (by have := (hk.mp q).1; omega), fun h1 => absurd rfl h1⟩
      · rw [if_neg c5]
        by_cases c7 : 240 ≤ u i ∧ u i ≤ 244
        · rw [if_pos c7]
          have hk := okU_4 hu hi c7.1 (by omega)
          by_cases c3 : ¬ b ≤ i + 3
          · rw [if_pos c3]
            by_cases c4 : 128 ≤ u (i + 1) ∧ u (i + 1) ≤ 191
            · rw [if_pos c4]
              by_cases c6 : 128 ≤ u (i + 2) ∧ u (i + 2) ≤ 191
              · rw [if_pos c6]
                by_cases c8 : 128 ≤ u (i + 3) ∧ u (i + 3) ≤ 191
                · rw [if_pos c8]
                  have ev : ((((((((nI (u i)) &&& 7) <<< (6 &&& 31)) ||| ((nI (u (i + 1))) &&& 63)) <<< (6 &&& 31)) ||| ((nI (u (i + 2))) &&& 63)) <<< (6 &&& 31)) ||| ((nI (u (i + 3))) &&& 63)) = nI (((u i % 8 * 64 + u (i + 1) % 64) * 64 + u (i + 2) % 64) * 64 + u (i + 3) % 64) := by
                    rw [b_7' _ (hu i)]
                    show utP (nI (u (i + 3))) (utP (nI (u (i + 2))) (utP (nI (u (i + 1))) (nI (u i % 8)))) = _
                    rw [utP_n (hu _) (by omega), utP_n (hu _) (by omega), utP_n (hu _) (by omega)]
                  rw [ev]
                  generalize hV : ((u i % 8 * 64 + u (i + 1) % 64) * 64 + u (i + 2) % 64) * 64 + u (i + 3) % 64 = V at hk ⊢
                  have hVl : V < 2097152 := by omega
                  have ec : (¬ nI V < (65536 : Int32) ∧ ¬ (1114111 : Int32) < nI V) ↔ (65536 ≤ V ∧ V ≤ 1114111) := by
                    rw [show (65536 : Int32) = nI 65536 from rfl, show (1114111 : Int32) = nI 1114111 from rfl, nI_ltI (by omega) (by omega), nI_ltI (by omega) (by omega)]
                    omega
                  refine ⟨_, _, rfl, fun h0 q => zP_0.mp h0 (ec.mpr (hk.mp q).2.2.2.2.1), fun h1 => ⟨by omega, hk.trans ⟨fun q => q.2.2.2.2.2, fun q => ⟨by omega, c4, c6, c8, ec.mp (zP_1 h1), q⟩⟩⟩⟩
                · rw [if_neg c8]
                  exact ⟨_, _, rfl, fun _ q => c8 (hk.mp q).2.2.2.1, fun h1 => absurd rfl h1⟩
              · rw [if_neg c6]
                exact ⟨_, _, rfl, fun _ q => c6 (hk.mp q).2.2.1, fun h1 => absurd rfl h1⟩
            · rw [if_neg c4]
              exact ⟨_, _, rfl, fun _ q => c4 (hk.mp q).2.1, fun h1 => absurd rfl h1⟩
          · rw [if_neg c3]
            exact ⟨_, _, rfl, fun _ q => c3 (by have := (hk.mp q).1; omega), fun h1 => absurd rfl h1⟩
        · rw [if_neg c7]
          refine ⟨_, _, rfl, fun _ q => ?_, fun h1 => absurd rfl h1⟩
          by_cases d1 : u i < 192 ∨ 248 ≤ u i
          · exact okU_x hu hi (by omega) q
          · by_cases d2 : u i < 224
            · have := ((okU_2 hu hi (by omega) d2).mp q).2.2.1
              omega
            · have h4 := (okU_4 hu hi (by omega) (by omega)).mp q
              have h5 := h4.2.2.2.2.1.2
              have h6 : 5 ≤ u i % 8 := by omega
              omega
  · rw [if_neg h128, if_pos (show ¬ b ≤ i + 0 by omega)]
    exact ⟨_, _, rfl, fun h0 => absurd (show ¬ b ≤ i + 0 by omega) (zP_0.mp h0), fun _ => ⟨by omega, okU_1 hu hi (by omega)⟩⟩
theorem str_loop {u : Nat → Nat} (hu : ∀ j, u j < 256) {t a b : Nat} (ht : t = 12 ∨ t = 19 ∨ t = 22) (f : Nat) (hf : b - a ≤ f) : ∃ r j, loopE (strB u t b) (fun s => ¬ (s.1 = (0 : Int32)) ∧ (¬ (b ≤ s.2))) f (zP (¬ (b ≤ a)), a) = .inr (r, j) ∧ (r = 0 ↔ ¬ (a < b ∧ strOK u t a b)) := by
  by_cases hab : a < b
  · have hz : zP (¬ (b ≤ a)) ≠ 0 := zP_ne (by omega)
    rcases ht with h | h | h
    · subst h
      obtain ⟨r, j, h1, h2⟩ := lpS (stp12 hu (b := b)) (fun i hi => by unfold okU; rw [show b - i = 0 by omega]; exact ⟨_, rfl, rfl⟩) f _ a hz hf
      refine ⟨r, j, h1, h2.trans (not_congr ?_)⟩
      rw [← utOK_iff]
      exact ⟨fun q => ⟨hab, fun _ => q, fun z => absurd rfl z⟩, fun q => q.2.1 rfl⟩
    · subst h
      obtain ⟨r, j, h1, h2⟩ := lpS (stp19 hu (b := b)) (fun i hi k k1 k2 => by omega) f _ a hz hf
      exact ⟨r, j, h1, h2.trans (not_congr ⟨fun q => ⟨hab, fun z => absurd z (by decide), fun _ => q⟩, fun q => q.2.2 (by decide)⟩)⟩
    · subst h
      obtain ⟨r, j, h1, h2⟩ := lpS (stp22 (u := u) (b := b)) (fun i hi k k1 k2 => by omega) f _ a hz hf
      exact ⟨r, j, h1, h2.trans (not_congr ⟨fun q => ⟨hab, fun z => absurd z (by decide), fun _ => q⟩, fun q => q.2.2 (by decide)⟩)⟩
  · refine ⟨0, a, ?_, fun _ q => hab q.1, fun _ => rfl⟩
    rw [zPf0 (show ¬ ¬ b ≤ a by omega)]
    cases f with
    | zero => rfl
    | succ f => exact if_neg (fun q => q.1 rfl)
noncomputable def rd_str (u : Nat → Nat) (n : Nat) (x : rS) (en : Nat) : rS := rd_lea (rd_opn u n x (stTag u x en) en).1 (rd_opn u n x (stTag u x en) en).2 (zP ((rd_opn u n x (stTag u x en) en).1.1 < (rd_opn u n x (stTag u x en) en).2 ∧ strOK u (stTag u x en) (rd_opn u n x (stTag u x en) en).1.1 (rd_opn u n x (stTag u x en) en).2))
theorem str_stk (u : Nat → Nat) (n : Nat) (x : rS) (en : Nat) : stk x (rd_str u n x en) := (opn_stk u n x _ en).tr (lea_stk _ _ _)
theorem str_q {u : Nat → Nat} (hu : ∀ j, u j < 256) {n p s en : Nat} (he : en ≤ n) (hn : n ≤ 2048) : agr (rd_str u n (p, s, none) en) (tx_string u p en) (fun z => rd_str u n (p, s, none) en = (z, p, none) ∧ p + 2 ≤ z ∧ z ≤ en) := by
  unfold tx_string rd_str
  by_cases hp : p < en
  · rw [if_pos hp]
    by_cases hb : ¬ ((u p) < 0) ∧ (¬ ((u p) = 19) ∧ (¬ ((u p) = 12) ∧ (¬ ((u p) = 22))))
    · rw [if_pos hb]
      have ht : stTag u (p, s, none) en = 19 := by
        unfold stTag
        rw [if_neg (fun q => hb.2.2.1 q.2.2), if_neg (fun q => hb.2.2.2 q.2.2)]
      have h := el_q (u := u) (n := n) (p := p) (s := s) (tg := 19) (en := en) he
      have e : tx_element u p 19 en = .inl p := by
        unfold tx_element
        rw [if_pos hp, if_pos (Or.inl hb.2.1)]
      rw [e] at h
      rw [ht]
      exact lea_stk _ _ _ p h
    · rw [if_neg hb]
      have ht3 : u p = 12 ∨ u p = 19 ∨ u p = 22 := by omega
      have ht : stTag u (p, s, none) en = u p := by
        unfold stTag
        by_cases h12 : u p = 12
        · rw [if_pos ⟨rfl, hp, h12⟩, h12]
        · rw [if_neg (fun q => h12 q.2.2)]
          by_cases h22 : u p = 22
          · rw [if_pos ⟨rfl, hp, h22⟩, h22]
          · rw [if_neg (fun q => h22 q.2.2)]
            omega
      rw [ht]
      dsimp only
      rw [if_pos (Nat.zero_le (u p))]
      refine agr.step (el_q he) (lea_stk _ _ _) (fun z hz hn1 hq => ?_)
      obtain ⟨q1, q2, q3, q4, q5⟩ := hq
      rw [q1]
      dsimp only
      have hl := str_loop hu (t := u p) (a := z.1) (b := z.2) ht3
      have hf : z.2 - z.1 ≤ 2048 := by omega
      generalize (2048 : Nat) = f9 at hf ⊢
      obtain ⟨r, j, h1, h2⟩ := hl f9 hf
      refine agr.ok h1 ?_
      by_cases hr : r = 0
      · rw [lea_no (zP_f (h2.mp hr)).symm]
        refine agr.pos hr ?_
        exact rfl
      · have ho : z.1 < z.2 ∧ strOK u (u p) z.1 z.2 := Classical.byContradiction (fun q => hr (h2.mpr q))
        rw [lea_ok (zP_ne ho)]
        refine agr.neg hr ?_
        exact ⟨rfl, rfl, by omega, q4⟩
  · rw [if_neg hp]
    have ht : stTag u (p, s, none) en = 19 := by
      unfold stTag
      rw [if_neg (fun q => hp q.2.1), if_neg (fun q => hp q.2.1)]
    rw [ht]
    have e : tx_element u p 19 en = .inl en := by
      unfold tx_element
      rw [if_neg hp]
    have h := el_q (u := u) (n := n) (p := p) (s := s) (tg := 19) (en := en) he
    rw [e] at h
    rw [eb_no e]
    exact lea_stk _ _ _ en h
/-! Names. -/
noncomputable def tx_part (u : Nat → Nat) (b c p : Nat) : Nat ⊕ (Nat × Nat) := (eb (tx_element u p 49 b) (fun z47 => (eb (tx_element u z47.1 48 z47.2) (fun z74 => (eb (tx_oid u z74.1 z74.2) (fun z99 => (eb (tx_string u z99.2 z74.2) (fun z108 => (eb (tx_done u z108 z74.2) (fun z117 => (eb (tx_done u z74.2 z47.2) (fun z126 => (.inr (z47.2, (c + 1)))))))))))))))
theorem part_q {u : Nat → Nat} (hu : ∀ j, u j < 256) {n p s en c : Nat} (he : en ≤ n) (hn : n ≤ 2048) : agr (rd_part u n (p, s, none) en) (tx_part u en c p) (fun z => (∃ s', rd_part u n (p, s, none) en = (z.1, s', none)) ∧ z.2 = c + 1 ∧ p + 2 ≤ z.1 ∧ z.1 ≤ en) := by
  have e0 : rd_part u n (p, s, none) en = (let s1 := rd_opn u n (p, s, none) 49 en; let q := rd_opn u n s1.1 48 s1.2; let d := rd_opn u n q.1 6 q.2; rd_fin (rd_fin (rd_str u n (rd_lea d.1 d.2 (zP (oidOK u d.1.1 d.2))) q.2) q.2) s1.2) := rfl
  rw [e0]
  unfold tx_part
  refine agr.step (el_q he) (fun w9 h9 => by
      generalize rd_opn u n (p, s, none) 49 en = o9 at h9 ⊢
      obtain ⟨⟨p1, s1, v1⟩, e1⟩ := o9
      cases (show v1 = some w9 from h9)
      rfl) (fun z hz hn1 hq => ?_)
  obtain ⟨q1, q2, q3, q4, q5⟩ := hq
  rw [q1]
  dsimp only
  refine agr.step (el_q (u := u) (n := n) (p := z.1) (s := p) (tg := 48) (en := z.2) (by omega)) (fun w9 h9 => by
      generalize rd_opn u n (z.1, p, none) 48 z.2 = o9 at h9 ⊢
      obtain ⟨⟨p1, s1, v1⟩, e1⟩ := o9
      cases (show v1 = some w9 from h9)
      rfl) (fun y hy hn2 hq2 => ?_)
  obtain ⟨r1, r2, r3, r4, r5⟩ := hq2
  rw [r1]
  dsimp only
  refine agr.step (oid_q (u := u) (n := n) (p := y.1) (s := z.1) (en := y.2) (by omega) hn) ((str_stk u n _ _).tr ((fin_stk _ _).tr (fin_stk _ _))) (fun d hd hn3 hq3 => ?_)
  obtain ⟨t1, t2, t3, t4, t5, t6⟩ := hq3
  rw [t1]
  dsimp only
  rw [t2]
  refine agr.step (str_q hu (n := n) (p := d.2) (s := y.1) (en := y.2) (by omega) hn) ((fin_stk _ _).tr (fin_stk _ _)) (fun v hv hn4 hq4 => ?_)
  obtain ⟨w1, w2, w3⟩ := hq4
  rw [w1]
  refine agr.step (fin_q (u := u) (p := v) (s := d.2) (en := y.2)) (fin_stk _ _) (fun _ _ _ hq5 => ?_)
  rw [hq5.1]
  have ev : v = y.2 := by omega
  subst ev
  refine agr.step (fin_q (u := u) (p := y.2) (s := d.2) (en := z.2)) (stk.rf _) (fun _ _ _ hq6 => ?_)
  rw [hq6.1]
  have ey : y.2 = z.2 := by omega
  exact ⟨rfl, ⟨d.2, by rw [ey]⟩, rfl, by show p + 2 ≤ z.2; omega, q4⟩
theorem row_stk (u : Nat → Nat) (n en : Nat) : ∀ (f : Nat) (x : rS), stk x (rd_row u n en f x).1
  | 0, x => stk.rf x
  | f + 1, x => by
    intro w h
    have e : rd_row u n en (f + 1) x = (x, 0) := if_neg (fun q => by have q1 := q.1; rw [h] at q1; cases q1)
    rw [e]
    exact h
theorem row_q {u : Nat → Nat} (hu : ∀ j, u j < 256) {n en : Nat} (he : en ≤ n) (hn : n ≤ 2048) : ∀ (f p s c : Nat), en - p ≤ f → p ≤ en → agr (rd_row u n en f (p, s, none)).1 (loopE (α := Nat × Nat) (fun s35 : Nat × Nat => tx_part u en s35.2 s35.1) (fun s35 => ¬ (en ≤ s35.1)) f (p, c)) (fun z => (∃ s', (rd_row u n en f (p, s, none)).1 = (z.1, s', none)) ∧ c + (rd_row u n en f (p, s, none)).2 = z.2 ∧ z.1 = en ∧ (p < en → c < z.2) ∧ (p = en → c = z.2))
  | 0, p, s, c, h1, h2 => by
    have e : p = en := by omega
    exact ⟨rfl, ⟨s, rfl⟩, rfl, e, fun q => absurd q (by omega), fun _ => rfl⟩
  | f + 1, p, s, c, h1, h2 => by
    by_cases hp : en ≤ p
    · have e1 : rd_row u n en (f + 1) (p, s, none) = ((p, s, none), 0) := if_neg (fun q => absurd q.2 (by show ¬ p < en; omega))
      have e2 : loopE (α := Nat × Nat) (fun s35 : Nat × Nat => tx_part u en s35.2 s35.1) (fun s35 => ¬ (en ≤ s35.1)) (f + 1) (p, c) = .inr (p, c) := if_neg (fun q => q hp)
      rw [e1, e2]
      exact ⟨rfl, ⟨s, rfl⟩, rfl, by show p = en; omega, fun q => absurd q (by omega), fun _ => rfl⟩
    · have e1 : rd_row u n en (f + 1) (p, s, none) = ((rd_row u n en f (rd_part u n (p, s, none) en)).1, (rd_row u n en f (rd_part u n (p, s, none) en)).2 + 1) := if_pos ⟨rfl, by show p < en; omega⟩
      have e2 : loopE (α := Nat × Nat) (fun s35 : Nat × Nat => tx_part u en s35.2 s35.1) (fun s35 => ¬ (en ≤ s35.1)) (f + 1) (p, c) = eb (tx_part u en c p) (loopE (α := Nat × Nat) (fun s35 : Nat × Nat => tx_part u en s35.2 s35.1) (fun s35 => ¬ (en ≤ s35.1)) f) := if_pos hp
      rw [e1, e2]
      dsimp only
      refine agr.step (part_q hu (n := n) (p := p) (s := s) (c := c) he hn) (row_stk u n en f _) (fun z hz hn1 hq => ?_)
      obtain ⟨⟨s', q1⟩, q2, q3, q4⟩ := hq
      rw [q1]
      obtain ⟨z1, z2⟩ := z
      have q2 : z2 = c + 1 := q2
      subst q2
      have q3 : p + 2 ≤ z1 := q3
      have q4 : z1 ≤ en := q4
      dsimp only
      have ih := row_q hu he hn f z1 s' (c + 1) (by omega) q4
      cases hR : loopE (α := Nat × Nat) (fun s35 : Nat × Nat => tx_part u en s35.2 s35.1) (fun s35 => ¬ (en ≤ s35.1)) f (z1, c + 1) with
      | inl w => rw [hR] at ih; exact ih
      | inr v =>
        rw [hR] at ih
        obtain ⟨i1, i2, i3, i4, i5, i6⟩ := ih
        refine ⟨i1, i2, by omega, i4, fun _ => ?_, fun q => absurd q (by omega)⟩
        by_cases hz1 : z1 < en
        · have := i5 hz1; omega
        · have := i6 (by omega); omega
theorem nam_stk (u : Nat → Nat) (n : Nat) (x : rS) (en : Nat) : stk x (rd_nam u n x en).1 := (opn_stk u n x 48 en).tr (row_stk u n _ 2048 _)
theorem nam_q {u : Nat → Nat} (hu : ∀ j, u j < 256) {n p s en : Nat} (he : en ≤ n) (hn : n ≤ 2048) : agr (rd_nam u n (p, s, none) en).1 (tx_name u p en) (fun z => ∃ s' a, rd_nam u n (p, s, none) en = ((z.2.2, s', none), z.2.1, a, z.2.2) ∧ z.1 = z.2.2 ∧ p + 2 ≤ a ∧ a ≤ z.2.2 ∧ z.2.2 ≤ en ∧ (a < z.2.2 → 0 < z.2.1) ∧ (a = z.2.2 → 0 = z.2.1)) := by
  have e0 : rd_nam u n (p, s, none) en = (let o := rd_opn u n (p, s, none) 48 en; ((rd_row u n o.2 2048 o.1).1, (rd_row u n o.2 2048 o.1).2, o.1.1, o.2)) := rfl
  have e9 : tx_name u p en = (eb (tx_element u p 48 en) (fun z4 => (eb (loopE (α := Nat × Nat) (fun s35 : Nat × Nat => tx_part u z4.2 s35.2 s35.1) (fun s35 => ¬ (z4.2 ≤ s35.1)) 2048 (z4.1, 0)) (fun s35 => (.inr (s35.1, s35.2, z4.2)))))) := rfl
  rw [e0, e9]
  obtain ⟨f9, hf9⟩ : ∃ f9, f9 = 2048 := ⟨_, rfl⟩
  rw [← hf9]
  refine agr.step (el_q (s := s) he) (fun w9 h9 => ?_) (fun z hz hn1 hq => ?_)
  · dsimp only
    exact row_stk u n _ f9 _ w9 h9
  · obtain ⟨q1, q2, q3, q4, q5⟩ := hq
    rw [q1]
    dsimp only
    refine agr.step (row_q hu (n := n) (en := z.2) (by omega) hn f9 z.1 p 0 (by omega) q3) (stk.rf _) (fun v hv hn2 hq2 => ?_)
    obtain ⟨⟨s', i1⟩, i2, i3, i4, i5⟩ := hq2
    refine ⟨by rw [i1], s', z.1, ?_, i3, q2, q3, q4, i4, i5⟩
    rw [i1, i3]
    show ((z.2, s', none), (rd_row u n z.2 f9 (z.1, p, none)).2, z.1, z.2) = ((z.2, s', none), v.2, z.1, z.2)
    rw [← i2, Nat.zero_add]
