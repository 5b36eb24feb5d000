/-! Octets of a number; powers modulo; what a signature's octets must be. -/
theorem vB_digit {B : Nat} {d : Nat → Nat} (hB : 0 < B) (hd : ∀ j, d j < B) : ∀ r k, k < r → vB B d r / B ^ k % B = d k
  | 0, k, h => absurd h (Nat.not_lt_zero k)
  | r + 1, k, h => by
    by_cases e : k = r
    · subst e
      have h1 := vB_lt (B := B) k (fun j _ => hd j)
      rw [vB_s, Nat.add_mul_div_right _ _ (Nat.pow_pos hB), Nat.div_eq_of_lt h1, Nat.zero_add, Nat.mod_eq_of_lt (hd k)]
    · have hk : k < r := by omega
      rw [vB_s, show B ^ r = B ^ (r - k - 1) * B * B ^ k by rw [← Nat.pow_succ, ← Nat.pow_add, show (r - k - 1).succ + k = r by omega], ← Nat.mul_assoc, Nat.add_mul_div_right _ _ (Nat.pow_pos hB), ← Nat.mul_assoc, Nat.add_mul_mod_self_right]
      exact vB_digit hB hd r k hk
theorem oct_of {x s q t : Nat} (ht : t < s) : x / 256 ^ (s * q + t) % 256 = x / (256 ^ s) ^ q % 256 ^ s / 256 ^ t % 256 := by
  rw [Nat.pow_add, Nat.pow_mul, ← Nat.div_div_eq_div_mul]
  generalize x / (256 ^ s) ^ q = y
  rw [show 256 ^ s = 256 ^ t * 256 ^ (s - t) by rw [← Nat.pow_add, show t + (s - t) = s by omega], Nat.mod_mul_right_div_self]
  exact (Nat.mod_mod_of_dvd _ ⟨256 ^ (s - t - 1), by rw [← Nat.pow_succ', show (s - t - 1).succ = s - t by omega]⟩).symm
theorem oct16 {d : Nat → Nat} {r i : Nat} (hd : ∀ j, d j < 65536) : vB 65536 d r / 256 ^ i % 256 = if i / 2 < r then d (i / 2) / 256 ^ (i % 2) % 256 else 0 := by
  by_cases h : i / 2 < r
  · rw [if_pos h]
    have h1 := oct_of (x := vB 65536 d r) (s := 2) (q := i / 2) (t := i % 2) (by omega)
    rw [show 2 * (i / 2) + i % 2 = i by omega, show (256 : Nat) ^ 2 = 65536 by decide, vB_digit (by decide) hd r (i / 2) h] at h1
    exact h1
  · rw [if_neg h]
    have h1 := vB_lt (B := 65536) r (fun j _ => hd j)
    have h2 : 65536 ^ r ≤ 256 ^ i := by
      rw [show (65536 : Nat) = 256 ^ 2 by decide, ← Nat.pow_mul]
      exact Nat.pow_le_pow_right (by decide) (by omega)
    rw [Nat.div_eq_of_lt (Nat.lt_of_lt_of_le h1 h2)]
theorem oct32 {d : Nat → Nat} {L i : Nat} (hd : ∀ j, d j < 4294967296) (h : i / 4 < L) : vB 4294967296 d L / 256 ^ i % 256 = d (i / 4) / 256 ^ (i % 4) % 256 := by
  have h1 := oct_of (x := vB 4294967296 d L) (s := 4) (q := i / 4) (t := i % 4) (by omega)
  rw [show 4 * (i / 4) + i % 4 = i by omega, show (256 : Nat) ^ 4 = 4294967296 by decide, vB_digit (by decide) hd L (i / 4) h] at h1
  exact h1
theorem pw_sq {Y N X q : Nat} (h : Y = X ^ q % N) : Y * Y % N = X ^ (2 * q) % N := by
  rw [h, ← Nat.mul_mod, ← Nat.pow_add, show q + q = 2 * q by omega]
theorem pw_mul {Y N X q : Nat} (h : Y = X ^ q % N) : Y * X % N = X ^ (q + 1) % N := by
  rw [h, Nat.mod_mul_mod, ← Nat.pow_succ]
theorem bit_s (e j : Nat) : e / 2 ^ j = 2 * (e / 2 ^ (j + 1)) + e / 2 ^ j % 2 := by
  rw [Nat.pow_succ, ← Nat.div_div_eq_div_mul]
  omega
theorem and1_n {A : Int32} {a : Nat} (hA : A.toBitVec.toNat = a) : A &&& 1 = nI (a % 2) := by
  apply Int32.toBitVec_inj.mp
  apply BitVec.eq_of_toNat_eq
  show (A.toBitVec &&& (1 : Int32).toBitVec).toNat = (BitVec.ofNat 32 (a % 2)).toNat
  rw [BitVec.toNat_and, BitVec.toNat_ofNat, hA, show ((1 : Int32).toBitVec).toNat = 1 from by decide, Nat.and_one_is_mod, Nat.mod_eq_of_lt (a := a % 2) (by omega)]
theorem and255_n {A : Int32} {a : Nat} (hA : A.toBitVec.toNat = a) : A &&& 255 = nI (a % 256) := by
  apply Int32.toBitVec_inj.mp
  apply BitVec.eq_of_toNat_eq
  show (A.toBitVec &&& (255 : Int32).toBitVec).toNat = (BitVec.ofNat 32 (a % 256)).toNat
  rw [BitVec.toNat_and, BitVec.toNat_ofNat, hA, show ((255 : Int32).toBitVec).toNat = 2 ^ 8 - 1 from by decide, Nat.and_two_pow_sub_one_eq_mod, Nat.mod_eq_of_lt (a := a % 256) (by omega)]
theorem bit_i {e j : Nat} (he : e < 2 ^ 31) (hj : j < 32) : (nI e >>> (nI j &&& 31)) &&& 1 = nI (e / 2 ^ j % 2) := and1_n (shr_t hj he)
/-- the octets of a hash, of the form -/
def hoN (h : Nat → Int32) (i : Nat) : Nat := (h (7 - i / 4)).toBitVec.toNat / 256 ^ (i % 4) % 256
def dueN (h : Nat → Int32) (c i : Nat) : Nat := if i < 32 then hoN h i else if i < 51 then (sv_PREFIX.getD (50 - i) 0).toBitVec.toNat else if i = 51 ∨ i + 1 = c then 0 else if i + 2 = c then 1 else 255
/-- a signature that holds: sizes, numbers, the form -/
def sgV (h : Nat → Int32) (om : Nat → Nat) (cm : Nat) (os : Nat → Nat) (cs e : Nat) : Prop := cs = cm ∧ vB 256 os cs < vB 256 om cm ∧ ∀ i, i < cm → vB 256 os cs ^ e % vB 256 om cm / 256 ^ i % 256 = dueN h cm i
theorem hoN_lt (h : Nat → Int32) (i : Nat) : hoN h i < 256 := Nat.mod_lt _ (by decide)
theorem pfx_lt : ∀ j, j < 19 → (sv_PREFIX.getD j 0).toBitVec.toNat < 256 := by decide
theorem dueN_lt (h : Nat → Int32) (c i : Nat) : dueN h c i < 256 := by
  unfold dueN
  split
  · exact hoN_lt h i
  · split
    · exact pfx_lt _ (by omega)
    · split
      · decide
      · split <;> decide
theorem pfx_n : ∀ j, j < 19 → sv_PREFIX.getD j 0 = nI (sv_PREFIX.getD j 0).toBitVec.toNat := by decide
theorem bit_hi : ∀ i, i < 32 → 8 ≤ i → (255#32).getLsbD i = false := by decide
/-- eight bits of a word, by an arithmetic or a logical shift -/
theorem sar_and (x : BitVec 32) {s : Nat} (hs : s ≤ 24) : x.sshiftRight s &&& 255#32 = (x >>> s) &&& 255#32 := by
  apply BitVec.eq_of_getLsbD_eq
  intro i hi
  rw [BitVec.getLsbD_and, BitVec.getLsbD_and, BitVec.getLsbD_sshiftRight, BitVec.getLsbD_ushiftRight]
  by_cases h : i < 8
  · rw [if_pos (by omega), show decide (32 ≤ i) = false from decide_eq_false (by omega)]
    rfl
  · rw [bit_hi i hi (by omega), Bool.and_false, Bool.and_false]
theorem oct_sar (x : Int32) {t : Nat} (ht : t ≤ 3) : (x >>> (nI (8 * t) &&& 31)) &&& 255 = nI (x.toBitVec.toNat / 256 ^ t % 256) := by
  apply Int32.toBitVec_inj.mp
  show (x >>> (nI (8 * t) &&& 31)).toBitVec &&& 255#32 = BitVec.ofNat 32 (x.toBitVec.toNat / 256 ^ t % 256)
  rw [Int32.toBitVec_shiftRight, sm32 (8 * t) (by omega), BitVec.sshiftRight_eq', BitVec.toNat_ofNat, Nat.mod_eq_of_lt (show 8 * t < 2 ^ 32 by omega), sar_and _ (by omega)]
  apply BitVec.eq_of_toNat_eq
  rw [BitVec.toNat_and, BitVec.toNat_ushiftRight, BitVec.toNat_ofNat, BitVec.toNat_ofNat, Nat.shiftRight_eq_div_pow, show (255 % 2 ^ 32 : Nat) = 2 ^ 8 - 1 by decide, Nat.and_two_pow_sub_one_eq_mod, Nat.pow_mul, show (2 : Nat) ^ 8 = 256 by decide]
  exact (Nat.mod_eq_of_lt (Nat.lt_trans (Nat.mod_lt _ (by decide)) (by decide))).symm
/-- numberOfLeadingZeros -/
theorem nl_end {e s n v : Nat} (hn : n + s = 31) (hv : v = e / 2 ^ s) (h1 : 1 ≤ v) (h2 : v < 4) (hs : v / 2 ≤ n) : ∃ b, b ≤ 31 ∧ nI (n - v / 2) = nI (31 - b) ∧ 2 ^ b ≤ e ∧ e < 2 ^ (b + 1) := by
  have a1 := Nat.mod_add_div' e (2 ^ s)
  have a2 := Nat.mod_lt e (Nat.two_pow_pos s)
  rw [← hv] at a1
  refine ⟨s + v / 2, by omega, congrArg nI (by omega), ?_⟩
  rcases (show v = 1 ∨ v = 2 ∨ v = 3 by omega) with e1 | e1 | e1 <;> subst e1
  · show 2 ^ (s + 0) ≤ e ∧ e < 2 ^ (s + 0 + 1)
    rw [Nat.add_zero, Nat.pow_succ]
    omega
  · show 2 ^ (s + 1) ≤ e ∧ e < 2 ^ (s + 1 + 1)
    rw [Nat.pow_succ, Nat.pow_succ]
    omega
  · show 2 ^ (s + 1) ≤ e ∧ e < 2 ^ (s + 1 + 1)
    rw [Nat.pow_succ, Nat.pow_succ]
    omega
theorem us16 {a : Nat} (ha : a < 2 ^ 31) : ((nI a).toUInt32 >>> ((16 : Int32).toUInt32 &&& Int32.toUInt32 31)).toInt32 = nI (a / 65536) := by
  apply Int32.toBitVec_inj.mp
  show (BitVec.ofNat 32 a) >>> (UInt32.mod ((16 : Int32).toUInt32 &&& Int32.toUInt32 31) 32).toBitVec = BitVec.ofNat 32 (a / 65536)
  rw [show (UInt32.mod ((16 : Int32).toUInt32 &&& Int32.toUInt32 31) 32).toBitVec = 16#32 from by decide]
  apply BitVec.eq_of_toNat_eq
  show (BitVec.ofNat 32 a).toNat >>> 16 = (BitVec.ofNat 32 (a / 65536)).toNat
  rw [BitVec.toNat_ofNat, BitVec.toNat_ofNat, Nat.mod_eq_of_lt (show a < 2 ^ 32 by omega), Nat.shiftRight_eq_div_pow, Nat.mod_eq_of_lt (a := a / 65536) (by omega)]
theorem us8 {a : Nat} (ha : a < 2 ^ 31) : ((nI a).toUInt32 >>> ((8 : Int32).toUInt32 &&& Int32.toUInt32 31)).toInt32 = nI (a / 256) := by
  apply Int32.toBitVec_inj.mp
  show (BitVec.ofNat 32 a) >>> (UInt32.mod ((8 : Int32).toUInt32 &&& Int32.toUInt32 31) 32).toBitVec = BitVec.ofNat 32 (a / 256)
  rw [show (UInt32.mod ((8 : Int32).toUInt32 &&& Int32.toUInt32 31) 32).toBitVec = 8#32 from by decide]
  apply BitVec.eq_of_toNat_eq
  show (BitVec.ofNat 32 a).toNat >>> 8 = (BitVec.ofNat 32 (a / 256)).toNat
  rw [BitVec.toNat_ofNat, BitVec.toNat_ofNat, Nat.mod_eq_of_lt (show a < 2 ^ 32 by omega), Nat.shiftRight_eq_div_pow, Nat.mod_eq_of_lt (a := a / 256) (by omega)]
theorem us4 {a : Nat} (ha : a < 2 ^ 31) : ((nI a).toUInt32 >>> ((4 : Int32).toUInt32 &&& Int32.toUInt32 31)).toInt32 = nI (a / 16) := by
  apply Int32.toBitVec_inj.mp
  show (BitVec.ofNat 32 a) >>> (UInt32.mod ((4 : Int32).toUInt32 &&& Int32.toUInt32 31) 32).toBitVec = BitVec.ofNat 32 (a / 16)
  rw [show (UInt32.mod ((4 : Int32).toUInt32 &&& Int32.toUInt32 31) 32).toBitVec = 4#32 from by decide]
  apply BitVec.eq_of_toNat_eq
  show (BitVec.ofNat 32 a).toNat >>> 4 = (BitVec.ofNat 32 (a / 16)).toNat
  rw [BitVec.toNat_ofNat, BitVec.toNat_ofNat, Nat.mod_eq_of_lt (show a < 2 ^ 32 by omega), Nat.shiftRight_eq_div_pow, Nat.mod_eq_of_lt (a := a / 16) (by omega)]
theorem us2 {a : Nat} (ha : a < 2 ^ 31) : ((nI a).toUInt32 >>> ((2 : Int32).toUInt32 &&& Int32.toUInt32 31)).toInt32 = nI (a / 4) := by
  apply Int32.toBitVec_inj.mp
  show (BitVec.ofNat 32 a) >>> (UInt32.mod ((2 : Int32).toUInt32 &&& Int32.toUInt32 31) 32).toBitVec = BitVec.ofNat 32 (a / 4)
  rw [show (UInt32.mod ((2 : Int32).toUInt32 &&& Int32.toUInt32 31) 32).toBitVec = 2#32 from by decide]
  apply BitVec.eq_of_toNat_eq
  show (BitVec.ofNat 32 a).toNat >>> 2 = (BitVec.ofNat 32 (a / 4)).toNat
  rw [BitVec.toNat_ofNat, BitVec.toNat_ofNat, Nat.mod_eq_of_lt (show a < 2 ^ 32 by omega), Nat.shiftRight_eq_div_pow, Nat.mod_eq_of_lt (a := a / 4) (by omega)]
theorem us1 {a : Nat} (ha : a < 2 ^ 31) : ((nI a).toUInt32 >>> ((1 : Int32).toUInt32 &&& Int32.toUInt32 31)).toInt32 = nI (a / 2) := by
  apply Int32.toBitVec_inj.mp
  show (BitVec.ofNat 32 a) >>> (UInt32.mod ((1 : Int32).toUInt32 &&& Int32.toUInt32 31) 32).toBitVec = BitVec.ofNat 32 (a / 2)
  rw [show (UInt32.mod ((1 : Int32).toUInt32 &&& Int32.toUInt32 31) 32).toBitVec = 1#32 from by decide]
  apply BitVec.eq_of_toNat_eq
  show (BitVec.ofNat 32 a).toNat >>> 1 = (BitVec.ofNat 32 (a / 2)).toNat
  rw [BitVec.toNat_ofNat, BitVec.toNat_ofNat, Nat.mod_eq_of_lt (show a < 2 ^ 32 by omega), Nat.shiftRight_eq_div_pow, Nat.mod_eq_of_lt (a := a / 2) (by omega)]
theorem fg_next {P : Nat → Prop} {k : Nat} (h : ∀ i, i < k → P i) (hk : P k) : ∀ i, i < k + 1 → P i := fun i hi => by
  by_cases e : i = k
  · rw [e]; exact hk
  · exact h i (by omega)
theorem mf_fr {F F' : va_W} {A B : Nat → Prop} (is : List Nat) (h : is.filterMap (fun i => F[i]?) = F') (hA : ∀ (k : Nat) (q : Nat × va_E), F[k]? = some q → ¬ A q.1) (hB : ∀ q : Nat, B q → A q) : ∀ (k : Nat) (q : Nat × va_E), F'[k]? = some q → ¬ B q.1 := fun k q hk hb => by
  have hm : q ∈ F' := List.mem_of_getElem? hk
  rw [← h] at hm
  obtain ⟨i, -, hi⟩ := List.mem_filterMap.mp hm
  exact hA i q hi (hB _ hb)
theorem and3_n {A : Int32} {a : Nat} (hA : A.toBitVec.toNat = a) : A &&& 3 = nI (a % 4) := by
  apply Int32.toBitVec_inj.mp
  apply BitVec.eq_of_toNat_eq
  show (A.toBitVec &&& (3 : Int32).toBitVec).toNat = (BitVec.ofNat 32 (a % 4)).toNat
  rw [BitVec.toNat_and, BitVec.toNat_ofNat, hA, show ((3 : Int32).toBitVec).toNat = 2 ^ 2 - 1 from by decide, Nat.and_two_pow_sub_one_eq_mod, Nat.mod_eq_of_lt (a := a % 4) (by omega)]
theorem shr1_t {a : Nat} (h : a < 2 ^ 31) : nI a >>> ((1 : Int32) &&& 31) = nI (a / 2) := by
  apply Int32.toBitVec_inj.mp
  apply BitVec.eq_of_toNat_eq
  have e := shr_t (b := a) (y := 1) (by decide) h
  rw [nI_t (show a / 2 < 2 ^ 32 by omega)]
  exact e
theorem shr2_t {a : Nat} (h : a < 2 ^ 31) : nI a >>> ((2 : Int32) &&& 31) = nI (a / 4) := by
  apply Int32.toBitVec_inj.mp
  apply BitVec.eq_of_toNat_eq
  have e := shr_t (b := a) (y := 2) (by decide) h
  rw [nI_t (show a / 4 < 2 ^ 32 by omega)]
  exact e
theorem oct_n {a t : Nat} (ha : a < 65536) (ht : t ≤ 1) : (nI a >>> (nI (8 * t) &&& 31)) &&& 255 = nI (a / 256 ^ t % 256) := by
  rw [and255_n (shr_t (by omega) (by omega)), Nat.pow_mul]
theorem hs_oct {h : Nat → Int32} {i j : Nat} (hj : j + i = 31) : (h (j / 4) >>> (nI (24 - 8 * (j % 4)) &&& 31)) &&& 255 = nI (hoN h i) := by
  rw [show 24 - 8 * (j % 4) = 8 * (i % 4) by omega, show j / 4 = 7 - i / 4 by omega]
  exact oct_sar _ (by omega)
theorem due_0 {h : Nat → Int32} {c i : Nat} (hc : 62 ≤ c) (hi : i + 1 = c) : 0 = dueN h c i := by
  unfold dueN
  rw [if_neg (by omega), if_neg (by omega), if_pos (Or.inr hi)]
theorem due_1 {h : Nat → Int32} {c i : Nat} (hc : 62 ≤ c) (hi : i + 2 = c) : 1 = dueN h c i := by
  unfold dueN
  rw [if_neg (by omega), if_neg (by omega), if_neg (by omega), if_pos hi]
theorem due_f {h : Nat → Int32} {c i : Nat} (h1 : 51 < i) (h2 : i + 2 < c) : 255 = dueN h c i := by
  unfold dueN
  rw [if_neg (by omega), if_neg (by omega), if_neg (by omega), if_neg (by omega)]
theorem due_51 {h : Nat → Int32} {c i : Nat} (hi : i = 51) : 0 = dueN h c i := by
  unfold dueN
  rw [if_neg (by omega), if_neg (by omega), if_pos (Or.inl hi)]
theorem due_p {h : Nat → Int32} {c i j : Nat} (h1 : 32 ≤ i) (h2 : i < 51) (hj : j + i = 50) : (sv_PREFIX.getD j 0).toBitVec.toNat = dueN h c i := by
  unfold dueN
  rw [if_neg (by omega), if_pos h2, show 50 - i = j by omega]
theorem due_h {h : Nat → Int32} {c i : Nat} (hi : i < 32) : hoN h i = dueN h c i := by
  unfold dueN
  rw [if_pos hi]
