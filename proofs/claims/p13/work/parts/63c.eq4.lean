/-! The class' readers and the reference's: keys, basic constraints, key usage. -/
def lzD (x : Nat) : Nat := if 128 ≤ x then 0 else if 64 ≤ x then 1 else if 32 ≤ x then 2 else if 16 ≤ x then 3 else if 8 ≤ x then 4 else if 4 ≤ x then 5 else if 2 ≤ x then 6 else if 1 ≤ x then 7 else 8
theorem lzD_is : ∀ x, x < 256 → (∀ j, j < lzD x → nI x &&& nI (128 / 2 ^ j) = 0) ∧ (lzD x = 8 ∨ ¬ nI x &&& nI (128 / 2 ^ (lzD x)) = 0) ∧ lzD x ≤ 8 := by decide +kernel
theorem fstN_is {P : Nat → Prop} : ∀ (f k m : Nat), k ≤ m → m ≤ k + f → (∀ j, k ≤ j → j < m → ¬ P j) → (m = k + f ∨ P m) → fstN P f k = m
  | 0, k, m, h1, h2, _, _ => by show k = m; omega
  | f + 1, k, m, h1, h2, h3, h4 => by
    by_cases hk : P k
    · have e : m = k := by
        rcases Nat.lt_or_eq_of_le h1 with q | q
        · exact absurd hk (h3 k (Nat.le_refl _) q)
        · exact q.symm
      exact (if_pos hk).trans e.symm
    · refine (if_neg hk).trans (fstN_is f (k + 1) m ?_ (by omega) (fun j a b => h3 j (by omega) b) (h4.elim (fun q => Or.inl (by omega)) Or.inr))
      rcases Nat.lt_or_eq_of_le h1 with q | q
      · exact q
      · rcases h4 with h | h
        · omega
        · rw [← q] at h; exact absurd h hk
theorem lzN_is {x : Nat} (hx : x < 256) : lzN (nI x) = lzD x := by
  obtain ⟨h1, h2, h3⟩ := lzD_is x hx
  unfold lzN
  refine fstN_is 8 0 (lzD x) (Nat.zero_le _) (by omega) (fun j _ b q => q (h1 j b)) ?_
  rcases h2 with h | h
  · exact Or.inl (by omega)
  · exact Or.inr h
theorem lzN_m1 : lzN (-1) = 0 := by
  unfold lzN
  exact fstN_is 8 0 0 (Nat.le_refl _) (by omega) (fun j a b => absurd b (by omega)) (Or.inr (by decide))
theorem lzD_2 : ∀ x, x < 256 → 0 < x → 8 - lzD (x / 2) + 1 = 8 - lzD x := by decide +kernel
theorem cnt_loop : ∀ (f c x : Nat), x < 256 → x < 2 ^ f → loopE (α := Nat × Nat) (fun s79 : Nat × Nat => ((.inr ((s79.1 + 1), (s79.2 / 2))) : Nat ⊕ (Nat × Nat))) (fun s79 => ¬ (s79.2 ≤ 0)) f (c, x) = .inr (c + (8 - lzD x), 0)
  | 0, c, x, h1, h2 => by
    have e : x = 0 := by have : 2 ^ 0 = 1 := rfl; omega
    subst e
    rfl
  | f + 1, c, x, h1, h2 => by
    by_cases hx : x ≤ 0
    · have e : x = 0 := by omega
      subst e
      exact if_neg (fun q => q (Nat.le_refl 0))
    · have ih := cnt_loop f (c + 1) (x / 2) (by omega) (by rw [Nat.pow_succ] at h2; omega)
      have h5 := lzD_2 x h1 (by omega)
      refine (if_pos hx).trans (Eq.trans ih ?_)
      rw [show c + 1 + (8 - lzD (x / 2)) = c + (8 - lzD x) by omega]
theorem b_1 : ∀ c, c < 256 → ((nI c &&& 1 = 1 ↔ ¬ nI c &&& 1 = 0)) := by decide +kernel
/-- the modulus: class and reference -/
def modC (u : Nat → Nat) (a a' b : Nat) : Prop := ((¬ ((128 : Int32) ≤ (sl_at u a b (0 : Int32)))) ∧ ((((sl_at u a' b ((nI (b - a')) - 1)) &&& 1) = (1 : Int32)) ∧ (¬ ((nI ((b - a') * 8) - nI (lzN (sl_at u a' b (0 : Int32)))) < (496 : Int32)) ∧ (¬ ((2048 : Int32) < (nI ((b - a') * 8) - nI (lzN (sl_at u a' b (0 : Int32)))))))))
noncomputable def modV (u : Nat → Nat) (a' b : Nat) : Nat := @ite _ (b ≤ a') (Classical.propDecidable _) 0 ((8 * ((b - a') - 1)) + (0 + (8 - lzD (u a'))))
theorem mod_iff {u : Nat → Nat} (hu : ∀ j, u j < 256) {a a' b : Nat} (h : a < b) (h1 : a' ≤ b) (hb : b ≤ 2048) : modC u a a' b ↔ ¬ ((127 < (u a)) ∨ ((((nI (u (b - 1))) &&& 1) = (0 : Int32)) ∨ (¬ (496 ≤ modV u a' b ∧ modV u a' b ≤ 2048)))) := by
  have e1 : ((128 : Int32) ≤ sl_at u a b 0 ↔ 128 ≤ u a) := by
    rw [sl_0 h, show (128 : Int32) = nI 128 from rfl, nI_leI (by omega) (by have := hu a; omega)]
  unfold modC
  rw [e1]
  rcases Nat.lt_or_eq_of_le h1 with h2 | h2
  · have e2 : nI (b - a') - 1 = nI (b - a' - 1) := pk_sub (a := b - a') (b := 1) (by omega)
    have e3 : sl_at u a' b (nI (b - a' - 1)) = nI (u (b - 1)) := by
      rw [sl_at_nI (by omega), if_pos (by omega)]
      congr 2
      omega
    have hl := lzD_is (u a') (hu a')
    have e4 : nI ((b - a') * 8) - nI (lzN (sl_at u a' b 0)) = nI (modV u a' b) := by
      rw [sl_0 h2, lzN_is (hu a'), pk_sub (by omega)]
      unfold modV
      rw [if_neg (by omega)]
      congr 1
      omega
    rw [e2, e3, e4, b_1 _ (hu _)]
    have hm : modV u a' b < 2 ^ 20 := by
      unfold modV
      rw [if_neg (by omega)]
      omega
    rw [show (496 : Int32) = nI 496 from rfl, show (2048 : Int32) = nI 2048 from rfl, nI_ltI (by omega) (by omega), nI_ltI (by omega) (by omega)]
    constructor
    · rintro ⟨c1, c2, c3, c4⟩ q
      rcases q with q | q | q
      · omega
      · exact c2 q
      · omega
    · intro q
      exact ⟨fun z => q (Or.inl (by omega)), fun z => q (Or.inr (Or.inl z)), fun z => q (Or.inr (Or.inr (by omega))), fun z => q (Or.inr (Or.inr (by omega)))⟩
  · have e5 : modV u a' b = 0 := if_pos (by omega)
    have e6 : sl_at u a' b 0 = -1 := by
      have := sl_at_nI (u := u) (a := a') (b := b) (k := 0) (by decide)
      exact this.trans (if_neg (by omega))
    rw [e5, e6, lzN_m1, show b - a' = 0 by omega]
    constructor
    · rintro ⟨_, _, c3, _⟩
      exact absurd (by decide) c3
    · intro q
      exfalso
      exact q (Or.inr (Or.inr (by omega)))
/-- the exponent -/
theorem exp_loop {u : Nat → Nat} (hu : ∀ j, u j < 256) {a b : Nat} (hab : a ≤ b) : ∀ (f k : Nat) (X : Int64), k ≤ b - a → b - a - k ≤ f → X.toBitVec.toNat = bigN u a k → bigN u a k < 281474976710656 → ∃ j X', loopE (α := Nat × Int64) (fun s203 : Nat × Int64 => ((.inr ((s203.1 + 1), (s203.2 <<< ((8 : Int32).toInt64 &&& 63)) ||| ((nI (u s203.1)).toInt64))) : Nat ⊕ (Nat × Int64))) (fun s203 => ¬ (b ≤ s203.1) ∧ (¬ ((0 : Int32) ≤ (lg_cmp s203.2 1099511627776)))) f (a + k, X) = .inr (a + j, X') ∧ X'.toBitVec.toNat = bigN u a j ∧ bigN u a j < 281474976710656 ∧ k ≤ j ∧ j ≤ b - a ∧ (j = b - a ∨ 1099511627776 ≤ bigN u a j) ∧ (∀ i, k ≤ i → i < j → bigN u a i < 1099511627776)
  | 0, k, X, h1, h2, h3, h4 => ⟨k, X, rfl, h3, h4, Nat.le_refl _, h1, Or.inl (by omega), fun i q1 q2 => absurd q2 (by omega)⟩
  | f + 1, k, X, h1, h2, h3, h4 => by
    have hge : ((0 : Int32) ≤ (lg_cmp X 1099511627776)) ↔ 1099511627776 ≤ bigN u a k := by
      rw [lg_cmp_ge, Int64.le_iff_toInt_le, i64_pos h3 (by omega), show (1099511627776 : Int64).toInt = 1099511627776 from by decide]
      omega
    by_cases hk : b ≤ a + k
    · exact ⟨k, X, if_neg (fun q => q.1 hk), h3, h4, Nat.le_refl _, h1, Or.inl (by omega), fun i q1 q2 => absurd q2 (by omega)⟩
    · by_cases hv : 1099511627776 ≤ bigN u a k
      · exact ⟨k, X, if_neg (fun q => q.2 (hge.mpr hv)), h3, h4, Nat.le_refl _, h1, Or.inr hv, fun i q1 q2 => absurd q2 (by omega)⟩
      · have hc := hu (a + k)
        have e : ((X <<< ((8 : Int32).toInt64 &&& 63)) ||| ((nI (u (a + k))).toInt64)).toBitVec.toNat = bigN u a (k + 1) := by
          rw [tn_sh _ hc, h3]
          show _ = bigN u a k * 256 + u (a + k)
          exact Nat.mod_eq_of_lt (by omega)
        have hl : bigN u a (k + 1) < 281474976710656 := by
          show bigN u a k * 256 + u (a + k) < _
          omega
        obtain ⟨j, X', g1, g2, g3, g4, g5, g6, g7⟩ := exp_loop hu hab f (k + 1) _ (by omega) (by omega) e hl
        refine ⟨j, X', (if_pos ⟨hk, fun q => hv (hge.mp q)⟩).trans g1, g2, g3, by omega, g5, g6, fun i q1 q2 => ?_⟩
        by_cases hi : i = k
        · subst hi; omega
        · exact g7 i (by omega) q2
theorem bigN_mono {u : Nat → Nat} (a : Nat) : ∀ (d j : Nat), bigN u a j ≤ bigN u a (j + d)
  | 0, j => Nat.le_refl _
  | d + 1, j => by
    have h := bigN_mono (u := u) a d j
    show bigN u a j ≤ bigN u a (j + d) * 256 + u (a + (j + d))
    omega
theorem i64_inj {x y : Int64} (h : x.toBitVec.toNat = y.toBitVec.toNat) : x = y := Int64.toBitVec_inj.mp (BitVec.eq_of_toNat_eq h)
theorem odd_v {v : Int64} {m : Nat} (h : v.toBitVec.toNat = m) (hm : m < 2 ^ 31) : ((lg_cmp (v - v / 2 * 2) 0) = (0 : Int32) ↔ m % 2 = 0) ∧ ((lg_cmp (v &&& 1) 1) = (0 : Int32) ↔ m % 2 = 1) := by
  have ev : v = lN m := Int64.toInt_inj.mp ((i64_pos h (by omega)).trans (lN_toInt hm).symm)
  subst ev
  have e1 : lN m / 2 = lN (m / 2) := by
    apply Int64.toInt_inj.mp
    rw [Int64.toInt_div_of_ne_right, lN_toInt hm, lN_toInt (by omega), show (2 : Int64).toInt = ((2 : Nat) : Int) from by decide]
    · exact (Int.ofNat_tdiv m 2).symm
    · decide
  have e2 : lN m - lN m / 2 * 2 = lN (m % 2) := by
    rw [e1, show (2 : Int64) = lN 2 from rfl, lN_mul, lN_sub (by omega)]
    congr 1
    omega
  have e3 : lN m &&& 1 = lN (m % 2) := by
    apply i64_inj
    show ((lN m).toBitVec &&& (1 : Int64).toBitVec).toNat = _
    rw [BitVec.toNat_and, h, show (1 : Int64).toBitVec.toNat = 1 from rfl, Nat.and_one_is_mod]
    show m % 2 = (BitVec.ofNat 64 (m % 2)).toNat
    rw [BitVec.toNat_ofNat]
    omega
  rw [e2, e3, lg_cmp_eq, lg_cmp_eq]
  constructor
  · exact lN_eq (b := 0) (by omega) (by omega)
  · exact lN_eq (b := 1) (by omega) (by omega)
def expC (u : Nat → Nat) (a b : Nat) : Prop := ¬ ((lg_cmp (sl_num u a b) 3) < (0 : Int32)) ∧ (¬ ((0 : Int32) < (lg_cmp (sl_num u a b) 2147483647)) ∧ ((lg_cmp ((sl_num u a b) &&& 1) 1) = (0 : Int32)))
theorem exp_iff {u : Nat → Nat} (hu : ∀ j, u j < 256) {z : Nat × Nat} (h : z.1 < z.2) (hm : ¬ intN u z) (f : Nat) (hf : z.2 - z.1 ≤ f) : ∃ k X, loopE (α := Nat × Int64) (fun s203 : Nat × Int64 => ((.inr ((s203.1 + 1), (s203.2 <<< ((8 : Int32).toInt64 &&& 63)) ||| ((nI (u s203.1)).toInt64))) : Nat ⊕ (Nat × Int64))) (fun s203 => ¬ (z.2 ≤ s203.1) ∧ (¬ ((0 : Int32) ≤ (lg_cmp s203.2 1099511627776)))) f (z.1, 0) = .inr (k, X) ∧ (expC u z.1 z.2 ↔ ¬ ((127 < (u z.1)) ∨ (((lg_cmp (X - X / 2 * 2) 0) = (0 : Int32)) ∨ (((lg_cmp X 3) < (0 : Int32)) ∨ (¬ ((lg_cmp X 2147483647) ≤ (0 : Int32))))))) ∧ (expC u z.1 z.2 → X = sl_num u z.1 z.2) := by
  obtain ⟨j, X, g1, g2, g3, g4, g5, g6, g7⟩ := exp_loop hu (Nat.le_of_lt h) f 0 0 (Nat.zero_le _) (by omega) rfl (by show 0 < _; omega)
  refine ⟨z.1 + j, X, g1, ?_⟩
  have hX : X.toInt = bigN u z.1 j := i64_pos g2 (by omega)
  have hx3 : ((lg_cmp X 3) < (0 : Int32)) ↔ bigN u z.1 j < 3 := by
    rw [lg_cmp_lt, Int64.lt_iff_toInt_lt, hX, show (3 : Int64).toInt = 3 from by decide]
    omega
  have hx4 : ((lg_cmp X 2147483647) ≤ (0 : Int32)) ↔ bigN u z.1 j ≤ 2147483647 := by
    rw [lg_cmp_le, Int64.le_iff_toInt_le, hX, show (2147483647 : Int64).toInt = 2147483647 from by decide]
    omega
  have hc : expC u z.1 z.2 → 3 ≤ (sl_num u z.1 z.2).toInt ∧ (sl_num u z.1 z.2).toInt ≤ 2147483647 := by
    rintro ⟨c1, c2, _⟩
    rw [lg_cmp_lt, Int64.lt_iff_toInt_lt, show (3 : Int64).toInt = 3 from by decide] at c1
    rw [lg_cmp_gt, Int64.lt_iff_toInt_lt, show (2147483647 : Int64).toInt = 2147483647 from by decide] at c2
    omega
  by_cases h1 : 128 ≤ u z.1
  · have hn := num_neg hu h (Or.inl h1)
    have hC : ¬ expC u z.1 z.2 := fun q => by have := hc q; omega
    exact ⟨⟨fun q => absurd q hC, fun q => absurd (Or.inl (by omega)) q⟩, fun q => absurd q hC⟩
  · by_cases h8 : 8 < z.2 - z.1
    · have hn := num_neg hu h (Or.inr h8)
      have hC : ¬ expC u z.1 z.2 := fun q => by have := hc q; omega
      refine ⟨⟨fun q => absurd q hC, fun q => absurd (Or.inr (Or.inr (Or.inr ?_))) q⟩, fun q => absurd q hC⟩
      rw [hx4]
      rcases g6 with g6 | g6
      · exfalso
        have hs := g7 (z.2 - z.1 - 1) (Nat.zero_le _) (by omega)
        obtain ⟨k, hk⟩ : ∃ k, z.2 - z.1 - 1 = k + 2 := ⟨z.2 - z.1 - 3, by omega⟩
        rw [hk] at hs
        have hg := bigN_ge (u := u) z.1 k
        have hl : 128 ≤ u z.1 * 256 + u (z.1 + 1) := by
          refine Classical.byContradiction (fun q => hm ?_)
          refine Or.inr ⟨by omega, Or.inl ⟨by omega, Or.inl (by omega)⟩⟩
        have hp : 256 ^ 6 ≤ 256 ^ k := Nat.pow_le_pow_right (by decide) (by omega)
        have h9 := Nat.le_trans (Nat.mul_le_mul hl hp) hg
        have h10 : (128 : Nat) * 256 ^ 6 = 36028797018963968 := by decide
        omega
      · omega
    · have hw := num_pos hu h (show u z.1 < 128 by omega) (by omega)
      rcases g6 with g6 | g6
      · subst g6
        have eX : X = sl_num u z.1 z.2 := Int64.toInt_inj.mp (hX.trans hw.symm)
        refine ⟨?_, fun _ => eX⟩
        rw [← eX] at hc
        unfold expC at hc ⊢
        rw [← eX] at hc ⊢
        rw [hx3, hx4]
        by_cases hb : bigN u z.1 (z.2 - z.1) ≤ 2147483647
        · have ho := odd_v g2 (by omega)
          rw [ho.1, ho.2, lg_cmp_gt, Int64.lt_iff_toInt_lt, hX, show (2147483647 : Int64).toInt = 2147483647 from by decide]
          omega
        · constructor
          · intro q
            have := hc ⟨fun z => q.1 (hx3.mp z), q.2⟩
            rw [hX] at this
            omega
          · intro q
            exfalso
            exact q (Or.inr (Or.inr (Or.inr hb)))
      · have hmo := bigN_mono (u := u) z.1 (z.2 - z.1 - j) j
        rw [show j + (z.2 - z.1 - j) = z.2 - z.1 by omega] at hmo
        have hC : ¬ expC u z.1 z.2 := fun q => by have := hc q; omega
        refine ⟨⟨fun q => absurd q hC, fun q => absurd (Or.inr (Or.inr (Or.inr ?_))) q⟩, fun q => absurd q hC⟩
        rw [hx4]
        omega
theorem mod_stk (u : Nat → Nat) (n : Nat) (x : rS) (en : Nat) : stk x (rd_mod u n x en).1 := (nm_stk u n x 2 en).tr (by
  unfold rd_mod
  dsimp only
  split
  · exact req_stk _ _
  · exact req_stk _ _)
/-- the inner sequence of a key -/
noncomputable def rd_key2 (u : Nat → Nat) (n : Nat) (x : rS) (en : Nat) : rS × Nat × Nat × Int32 × Int32 :=
  (let z24 := rd_opn u n x 48 en; (let z32 := rd_mod u n z24.1 z24.2; (let z39 := rd_nm u n z32.1 2 z24.2; (let z80 := rd_req z39.1 (zP (expC u z39.2.1 z39.2.2)); (rd_fin z80 z24.2, z32.2.1, z32.2.2.1, z32.2.2.2, (sl_num u z39.2.1 z39.2.2).toInt32)))))
theorem key2_stk (u : Nat → Nat) (n : Nat) (x : rS) (en : Nat) : stk x (rd_key2 u n x en).1 := (opn_stk u n x 48 en).tr ((mod_stk u n _ _).tr ((nm_stk u n _ 2 _).tr ((req_stk _ _).tr (fin_stk _ _))))
theorem mod_q {u : Nat → Nat} (hu : ∀ j, u j < 256) {n p s en : Nat} (he : en ≤ n) (hn : n ≤ 2048) {z : Nat × Nat} (q1 : rd_nm u n (p, s, none) 2 en = ((z.2, p, none), z.1, z.2)) (q3 : z.1 < z.2) (q4 : z.2 ≤ en) {a' : Nat} (ha : a' = if u z.1 = 0 then z.1 + 1 else z.1) : ((127 < (u z.1)) ∨ ((((nI (u (z.2 - 1))) &&& 1) = (0 : Int32)) ∨ (¬ (496 ≤ modV u a' z.2 ∧ modV u a' z.2 ≤ 2048))) → (rd_mod u n (p, s, none) en).1.2.2 = some p) ∧ (¬ ((127 < (u z.1)) ∨ ((((nI (u (z.2 - 1))) &&& 1) = (0 : Int32)) ∨ (¬ (496 ≤ modV u a' z.2 ∧ modV u a' z.2 ≤ 2048)))) → rd_mod u n (p, s, none) en = ((z.2, p, none), a', z.2, nI (modV u a' z.2))) := by
  have h0 : (sl_at u z.1 z.2 0 = 0) ↔ u z.1 = 0 := by
    rw [sl_0 q3]
    exact nI_eq (b := 0) (by have := hu z.1; omega) (by omega)
  unfold rd_mod
  rw [q1]
  dsimp only
  by_cases hz : u z.1 = 0
  · have ea : a' = z.1 + 1 := ha.trans (if_pos hz)
    subst ea
    have hi := mod_iff hu (a := z.1) (a' := z.1 + 1) (b := z.2) q3 (by omega) (by omega)
    rw [if_pos (h0.mpr hz)]
    refine ⟨fun hb => ?_, fun hb => ?_⟩
    · show (rd_req (z.2, p, none) (zP (modC u z.1 (z.1 + 1) z.2))).2.2 = some p
      rw [req_no (zP_f (fun q => hi.mp q hb)).symm]
    · show (rd_req (z.2, p, none) (zP (modC u z.1 (z.1 + 1) z.2)), _, _, _) = _
      rw [req_ok (zP_ne (hi.mpr hb))]
      have h2 : z.1 + 1 < z.2 := Classical.byContradiction (fun q => hb (Or.inr (Or.inr (by rw [show modV u (z.1 + 1) z.2 = 0 from if_pos (by omega)]; omega))))
      have hl := lzD_is (u (z.1 + 1)) (hu (z.1 + 1))
      have e4 : nI ((z.2 - (z.1 + 1)) * 8) - nI (lzN (sl_at u (z.1 + 1) z.2 0)) = nI (modV u (z.1 + 1) z.2) := by
        rw [sl_0 h2, lzN_is (hu _), pk_sub (by omega)]
        unfold modV
        rw [if_neg (by omega)]
        congr 1
        omega
      rw [e4]
  · have ea : a' = z.1 := ha.trans (if_neg hz)
    subst ea
    have hi := mod_iff hu (a := z.1) (a' := z.1) (b := z.2) q3 (by omega) (by omega)
    rw [if_neg (fun q => hz (h0.mp q))]
    refine ⟨fun hb => ?_, fun hb => ?_⟩
    · show (rd_req (z.2, p, none) (zP (modC u z.1 z.1 z.2))).2.2 = some p
      rw [req_no (zP_f (fun q => hi.mp q hb)).symm]
    · show (rd_req (z.2, p, none) (zP (modC u z.1 z.1 z.2)), _, _, _) = _
      rw [req_ok (zP_ne (hi.mpr hb))]
      have hl := lzD_is (u z.1) (hu z.1)
      have e4 : nI ((z.2 - z.1) * 8) - nI (lzN (sl_at u z.1 z.2 0)) = nI (modV u z.1 z.2) := by
        rw [sl_0 q3, lzN_is (hu _), pk_sub (by omega)]
        unfold modV
        rw [if_neg (by omega)]
        congr 1
        omega
      rw [e4]
theorem key2_q {u : Nat → Nat} (hu : ∀ j, u j < 256) {n p s en : Nat} (he : en ≤ n) (hn : n ≤ 2048) : agr (rd_key2 u n (p, s, none) en).1 (tx_key u p en) (fun z => ∃ s', rd_key2 u n (p, s, none) en = ((z.1, s', none), z.2.1, z.2.2.1, nI (modV u z.2.1 z.2.2.1), z.2.2.2) ∧ p + 2 ≤ z.1 ∧ z.1 ≤ en ∧ z.2.1 < z.2.2.1 ∧ z.2.2.1 ≤ en ∧ 496 ≤ modV u z.2.1 z.2.2.1 ∧ modV u z.2.1 z.2.2.1 ≤ 2048) := by
  unfold tx_key rd_key2
  refine agr.step (el_q (s := s) he) (fun w9 h9 => ?_) (fun z hz hn1 hq => ?_)
  · exact ((mod_stk u n _ _).tr ((nm_stk u n _ 2 _).tr ((req_stk _ _).tr (fin_stk _ _)))) w9 h9
  obtain ⟨q1, q2, q3, q4, q5⟩ := hq
  rw [q1]
  dsimp only
  refine agr.step (nm_eq hu (n := n) (p := z.1) (s := p) (en := z.2) (by omega)) (fun w9 h9 => ?_) (fun y hy hn2 hq2 => ?_)
  · have hm : (rd_mod u n (z.1, p, none) z.2).1.2.2 = some w9 := by
      unfold rd_mod
      dsimp only
      split
      · exact req_stk _ _ w9 h9
      · exact req_stk _ _ w9 h9
    exact ((nm_stk u n _ 2 _).tr ((req_stk _ _).tr (fin_stk _ _))) w9 hm
  obtain ⟨r1, r2, r3, r4, r5⟩ := hq2
  obtain ⟨a', ha⟩ : ∃ a', a' = if u y.1 = 0 then y.1 + 1 else y.1 := ⟨_, rfl⟩
  have hM := mod_q hu (n := n) (p := z.1) (s := p) (en := z.2) (by omega) hn r1 r3 r4 ha
  have ea' : a' ≤ y.2 := by
    rw [ha]
    split <;> omega
  have e46 : (@ite (Nat ⊕ Nat) ((u y.1) = 0) (Classical.propDecidable _) (.inr (y.1 + 1)) (.inr y.1)) = .inr a' := by
    rw [ha]
    by_cases hz : u y.1 = 0
    · rw [if_pos hz, if_pos hz]
    · rw [if_neg hz, if_neg hz]
  refine agr.ok e46 ?_
  have hx : (@ite _ (y.2 ≤ a') (Classical.propDecidable _) 0 (u a')) < 256 := by
    split
    · decide
    · exact hu a'
  have hcl := cnt_loop 300 0 _ hx (Nat.lt_of_lt_of_le hx (Nat.pow_le_pow_right (n := 2) (i := 8) (by decide) (by decide)))
  refine agr.ok hcl ?_
  dsimp only
  have ev : (@ite _ (y.2 ≤ a') (Classical.propDecidable _) 0 ((8 * ((y.2 - a') - 1)) + (0 + (8 - lzD (@ite _ (y.2 ≤ a') (Classical.propDecidable _) 0 (u a')))))) = modV u a' y.2 := by
    unfold modV
    by_cases h9 : y.2 ≤ a'
    · rw [if_pos h9, if_pos h9]
    · rw [if_neg h9, if_neg h9, if_neg h9]
  rw [ev]
  by_cases hb : (127 < (u y.1)) ∨ ((((nI (u (y.2 - 1))) &&& 1) = (0 : Int32)) ∨ (¬ (496 ≤ modV u a' y.2 ∧ modV u a' y.2 ≤ 2048)))
  · refine agr.pos hb ?_
    exact ((nm_stk u n _ 2 _).tr ((req_stk _ _).tr (fin_stk _ _))) z.1 (hM.1 hb)
  · refine agr.neg hb ?_
    have hM2 := hM.2 hb
    rw [hM2]
    dsimp only
    refine agr.step (nm_eq hu (n := n) (p := y.2) (s := z.1) (en := z.2) (by omega)) ((req_stk _ _).tr (fin_stk _ _)) (fun v hv hn3 hq3 => ?_)
    obtain ⟨t1, t2, t3, t4, t5⟩ := hq3
    rw [t1]
    dsimp only
    have hE := exp_iff hu t3 t5
    have hf : v.2 - v.1 ≤ 2048 := by omega
    generalize hf9 : (2048 : Nat) = f9 at hf ⊢
    obtain ⟨k, X, g1, g2, g3⟩ := hE f9 hf
    refine agr.ok g1 ?_
    dsimp only
    by_cases hb2 : (127 < (u v.1)) ∨ (((lg_cmp (X - X / 2 * 2) 0) = (0 : Int32)) ∨ (((lg_cmp X 3) < (0 : Int32)) ∨ (¬ ((lg_cmp X 2147483647) ≤ (0 : Int32)))))
    · refine agr.pos hb2 ?_
      rw [req_no (zP_f (fun q => g2.mp q hb2)).symm]
      exact rfl
    · refine agr.neg hb2 ?_
      have hC := g2.mpr hb2
      rw [req_ok (zP_ne hC)]
      refine agr.step (fin_q (u := u) (p := v.2) (s := y.2) (en := z.2)) (stk.rf _) (fun _ _ _ hq5 => ?_)
      rw [hq5.1, g3 hC]
      have e : v.2 = z.2 := by omega
      have hmV : 496 ≤ modV u a' y.2 ∧ modV u a' y.2 ≤ 2048 := Classical.byContradiction (fun q => hb (Or.inr (Or.inr q)))
      have ha2 : a' < y.2 := Classical.byContradiction (fun q => by
        have : modV u a' y.2 = 0 := if_pos (by omega)
        omega)
      exact ⟨rfl, y.2, by rw [e], by show p + 2 ≤ z.2; omega, q4, ha2, by show y.2 ≤ en; omega, hmV.1, by show modV u a' y.2 ≤ f9; omega⟩
/-! Flags, basic constraints, usage. -/
theorem el_inl {u : Nat → Nat} {p tg en w : Nat} (h : tx_element u p tg en = .inl w) (hp : p < en) : w = p := by
  unfold tx_element at h
  rw [if_pos hp] at h
  split at h
  · cases h; rfl
  · split at h
    · split at h
      · cases h; rfl
      · split at h
        · cases h
        · cases h; rfl
    · split at h
      · split at h
        · cases h; rfl
        · split at h
          · cases h
          · cases h; rfl
      · split at h
        · split at h
          · cases h
          · cases h; rfl
        · cases h; rfl
theorem int_inl {u : Nat → Nat} {p en w : Nat} (h : tx_integer u p en = .inl w) (hp : p < en) : w = p := by
  unfold tx_integer at h
  cases hR : tx_element u p 2 en with
  | inl v =>
    rw [hR] at h
    cases h
    exact el_inl hR hp
  | inr z =>
    rw [hR] at h
    have h : @ite (Nat ⊕ (Nat × Nat)) _ (Classical.propDecidable _) (.inl p) (.inr (z.1, z.2)) = .inl w := h
    split at h
    · cases h; rfl
    · cases h
theorem el_tag {u : Nat → Nat} {p tg en : Nat} (hp : p < en) (ht : ¬ u p = tg) : tx_element u p tg en = .inl p := by
  unfold tx_element
  rw [if_pos hp, if_pos (Or.inl ht)]
theorem flag_q {u : Nat → Nat} (hu : ∀ j, u j < 256) {n p s en : Nat} (he : en ≤ n) : agr (rd_flag u n (p, s, none) en) (eb (tx_element u p 1 en) (fun z => @ite _ (¬ ((z.2 - z.1) = 1) ∨ (¬ ((u z.1) = 255))) (Classical.propDecidable _) (.inl p) (.inr z.2))) (fun e => rd_flag u n (p, s, none) en = (e, p, none) ∧ p + 2 ≤ e ∧ e ≤ en) := by
  unfold rd_flag
  dsimp only
  refine agr.step (el_q he) (lea_stk _ _ _) (fun z hz hn hq => ?_)
  obtain ⟨q1, q2, q3, q4, q5⟩ := hq
  rw [q1]
  dsimp only
  by_cases hb : ¬ ((z.2 - z.1) = 1) ∨ (¬ ((u z.1) = 255))
  · rw [if_pos hb, lea_no (zI_0 (fun q => ?_))]
    · exact rfl
    · rcases hb with h | h
      · exact h q.1
      · have h1 := q.1
        exact h ((oc_255 hu (show z.1 < n by omega)).mp q.2)
  · have h1 : z.2 - z.1 = 1 := by omega
    have h2 : u z.1 = 255 := by omega
    rw [if_neg hb, lea_ok (zI_ne ⟨h1, (oc_255 hu (show z.1 < n by omega)).mpr h2⟩)]
    exact ⟨rfl, rfl, by omega, q4⟩
theorem flag_stk (u : Nat → Nat) (n : Nat) (x : rS) (en : Nat) : stk x (rd_flag u n x en) := (opn_stk u n x 1 en).tr (lea_stk _ _ _)
theorem use_bits : ∀ c, c < 256 → ∀ k, k < 8 → ((nI c &&& (((2 : Int32) <<< (nI k &&& 31)) - 1) = ((1 : Int32) <<< (nI k &&& 31))) ↔ ¬ (¬ ((nI c &&& (((1 : Int32) <<< (nI k &&& 31)) - 1)) = (0 : Int32)) ∨ (((nI c >>> (nI k &&& 31)) &&& 1) = (0 : Int32)))) := by decide +kernel
theorem sh_b : ∀ c, c < 256 → ∀ k, k < 8 → ((nI c >>> (nI k &&& 31)) &&& 1 = 0 ∨ (nI c >>> (nI k &&& 31)) &&& 1 = 1) := by decide +kernel
theorem sh_0 : ∀ i, i < 17 → (0 : Int32) <<< (nI i &&& 31) = 0 := by decide
theorem or_0 (x : Int32) : x ||| 0 = x := by simp
theorem us_loop {u : Nat → Nat} (hu : ∀ j, u j < 256) {n en a K : Nat} {sz : Int32} (hK : K ≤ 16) (hs : ∀ i, i < K → sl_at u 0 n (nI en - sz + nI (i / 8)) = nI (u (a + 1 + i / 8))) : ∀ (f i : Nat), K - i ≤ f → i ≤ K → loopE (α := Nat × Int32) (fun s106 : Nat × Int32 => ((@ite _ ((((nI (u ((a + 1) + (s106.1 / 8)))) >>> ((nI (7 - (s106.1 % 8))) &&& 31)) &&& 1) = (0 : Int32)) (Classical.propDecidable _) (.inr ((s106.1 + 1), s106.2)) (.inr ((s106.1 + 1), s106.2 ||| ((1 : Int32) <<< ((nI s106.1) &&& 31))))) : Nat ⊕ (Nat × Int32))) (fun s106 => ¬ (K ≤ s106.1)) f (i, usG u n en sz i) = .inr (K, usG u n en sz K)
  | 0, i, h1, h2 => by
    have e : i = K := by omega
    subst e
    rfl
  | f + 1, i, h1, h2 => by
    by_cases hi : K ≤ i
    · have e : i = K := by omega
      subst e
      exact if_neg (fun q => q (Nat.le_refl i))
    · have ih := us_loop hu hK hs f (i + 1) (by omega) (by omega)
      refine (if_pos hi).trans (Eq.trans ?_ ih)
      have e1 : usG u n en sz (i + 1) = usG u n en sz i ||| (((nI (u (a + 1 + i / 8)) >>> (nI (7 - i % 8) &&& 31)) &&& 1) <<< (nI i &&& 31)) := by
        show usG u n en sz i ||| ((sl_at u 0 n (nI en - sz + nI (i / 8)) >>> ((7 - nI (i % 8)) &&& 31) &&& 1) <<< (nI i &&& 31)) = _
        rw [hs i (by omega), show (7 : Int32) - nI (i % 8) = nI (7 - i % 8) from pk_sub (a := 7) (b := i % 8) (by omega)]
      rw [e1]
      rcases sh_b _ (hu (a + 1 + i / 8)) (7 - i % 8) (by omega) with hb | hb
      · refine (eb_ok (if_pos hb)).trans ?_
        show loopE _ _ f (i + 1, usG u n en sz i) = _
        rw [hb, sh_0 i (by omega), or_0]
      · refine (eb_ok (if_neg (fun q => by rw [hb] at q; exact absurd q (by decide)))).trans ?_
        show loopE _ _ f (i + 1, usG u n en sz i ||| ((1 : Int32) <<< (nI i &&& 31))) = _
        rw [hb]
theorem us_K {len : Nat} (h : len = 2 ∨ len = 3) : usK ((nI len - 1) * 8) = 8 * (len - 1) := by
  have e : (nI len - 1) * 8 = nI (8 * (len - 1)) := by
    rw [show nI len - 1 = nI (len - 1) from pk_sub (a := len) (b := 1) (by omega), show (8 : Int32) = nI 8 from rfl, nI_mul]
    congr 1
    omega
  unfold usK
  rw [e]
  refine fstN_is 16 0 (8 * (len - 1)) (Nat.zero_le _) (by omega) (fun j _ b q => ?_) (Or.inr (Int32.le_refl _))
  rw [nI_leI (by omega) (by omega)] at q
  omega
theorem use_stk (u : Nat → Nat) (n : Nat) (x : rS) (en : Nat) : stk x (rd_use u n x en).1 := (opn_stk u n x 3 en).tr (lea_stk _ _ _)
theorem use_q {u : Nat → Nat} (hu : ∀ j, u j < 256) {n p s en : Nat} (he : en ≤ n) (hn : n ≤ 2048) : agr (rd_use u n (p, s, none) en).1 (tx_usage u p en) (fun z => rd_use u n (p, s, none) en = ((z.1, p, none), z.2) ∧ p + 2 ≤ z.1 ∧ z.1 ≤ en) := by
  unfold tx_usage rd_use
  dsimp only
  refine agr.step (el_q he) (lea_stk _ _ _) (fun z hz hn hq => ?_)
  obtain ⟨q1, q2, q3, q4, q5⟩ := hq
  rw [q1]
  dsimp only
  have e1 : 1 ≤ z.2 - z.1 → nI (z.2 - z.1) - 1 = nI (z.2 - z.1 - 1) := fun h => pk_sub (a := z.2 - z.1) (b := 1) h
  by_cases hl : ¬ ((z.2 - z.1) = 2) ∧ (¬ ((z.2 - z.1) = 3))
  · refine agr.pos hl ?_
    rw [lea_no (zP_f (fun q => ?_)).symm]
    · exact rfl
    · by_cases h1 : 1 ≤ z.2 - z.1
      · rw [e1 h1, show (1 : Int32) = nI 1 from rfl, show (2 : Int32) = nI 2 from rfl, nI_eq (by omega) (by omega), nI_eq (by omega) (by omega)] at q
        omega
      · rw [show z.2 - z.1 = 0 by omega] at q
        rcases q.1 with q | q
        · exact absurd q.1 (by decide)
        · exact absurd q.2.1 (by decide)
  · refine agr.neg hl ?_
    have h1 : 1 ≤ z.2 - z.1 := by omega
    have hp1 : oc u n z.1 = nI (u z.1) := oc_in' (by omega)
    have hs : sl_at u 0 n (nI z.2 - 1) = nI (u (z.2 - 1)) := by
      rw [show nI z.2 - 1 = nI (z.2 - 1) from pk_sub (a := z.2) (b := 1) (by omega), sl_at_nI (by omega), if_pos (by omega)]
      congr 2
      omega
    have hneg : ¬ nI (u z.1) < 0 := nI_pos (by have := hu z.1; omega)
    have h7 : ((7 : Int32) < nI (u z.1)) ↔ 7 < u z.1 := nI_ltI (a := 7) (by omega) (by have := hu z.1; omega)
    have hd : (nI (z.2 - z.1) - 1 = 1) ∨ (¬ (nI (z.2 - z.1) - 1 = 1) ∧ nI (z.2 - z.1) - 1 = 2) := by
      rw [e1 h1, show (1 : Int32) = nI 1 from rfl, show (2 : Int32) = nI 2 from rfl, nI_eq (by omega) (by omega), nI_eq (by omega) (by omega)]
      omega
    have hC : (((((nI (z.2 - z.1)) - 1) = (1 : Int32)) ∧ (¬ ((oc u n z.1) < (0 : Int32)) ∧ (¬ ((7 : Int32) < (oc u n z.1))))) ∨ (¬ (((nI (z.2 - z.1)) - 1) = (1 : Int32)) ∧ ((((nI (z.2 - z.1)) - 1) = (2 : Int32)) ∧ (¬ ((oc u n z.1) < (0 : Int32)) ∧ (¬ ((7 : Int32) < (oc u n z.1))))))) ∧ (((sl_at u 0 n ((nI z.2) - 1)) &&& (((2 : Int32) <<< ((oc u n z.1) &&& 31)) - 1)) = ((1 : Int32) <<< ((oc u n z.1) &&& 31))) ↔ ¬ ((7 < (u z.1)) ∨ (¬ (((nI (u (z.2 - 1))) &&& (((1 : Int32) <<< ((nI (u z.1)) &&& 31)) - 1)) = (0 : Int32)) ∨ ((((nI (u (z.2 - 1))) >>> ((nI (u z.1)) &&& 31)) &&& 1) = (0 : Int32)))) := by
      rw [hp1, hs, h7]
      by_cases g7 : 7 < u z.1
      · constructor
        · rintro ⟨q, _⟩
          rcases q with q | q
          · exact absurd g7 q.2.2
          · exact absurd g7 q.2.2.2
        · intro q
          exact absurd (Or.inl g7) q
      · have hb := use_bits _ (hu (z.2 - 1)) (u z.1) (by omega)
        rw [hb]
        constructor
        · rintro ⟨_, q⟩ r
          exact r.elim g7 q
        · intro q
          refine ⟨?_, fun r => q (Or.inr r)⟩
          rcases hd with d | d
          · exact Or.inl ⟨d, hneg, g7⟩
          · exact Or.inr ⟨d.1, d.2, hneg, g7⟩
    by_cases hb : (7 < (u z.1)) ∨ (¬ (((nI (u (z.2 - 1))) &&& (((1 : Int32) <<< ((nI (u z.1)) &&& 31)) - 1)) = (0 : Int32)) ∨ ((((nI (u (z.2 - 1))) >>> ((nI (u z.1)) &&& 31)) &&& 1) = (0 : Int32)))
    · refine agr.pos hb ?_
      rw [lea_no (zP_f (fun q => hC.mp q hb)).symm]
      exact rfl
    · refine agr.neg hb ?_
      rw [lea_ok (zP_ne (hC.mpr hb))]
      have hK := us_K (len := z.2 - z.1) (by omega)
      have e9 : nI z.2 - (nI (z.2 - z.1) - 1) = nI (z.1 + 1) := by
        rw [e1 h1, pk_sub (by omega)]
        congr 1
        omega
      have hL := us_loop hu (n := n) (en := z.2) (a := z.1) (K := 8 * ((z.2 - z.1) - 1)) (sz := nI (z.2 - z.1) - 1) (by omega) (fun i hi => by
        rw [e9, nI_add, sl_at_nI (by omega), if_pos (by omega)]
        congr 2
        omega) 17 0 (by omega) (Nat.zero_le _)
      refine agr.ok hL ?_
      rw [hK]
      exact ⟨rfl, rfl, by show p + 2 ≤ z.2; omega, q4⟩
