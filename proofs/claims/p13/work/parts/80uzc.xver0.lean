theorem va_P.both {D : va_G} {w1 w2 : va_W} {H : Heap} (h1 : va_P D classes w1 H) (h2 : va_P D classes w2 H) : va_P D classes (w1 ++ w2) H := fun k z hk => by
  by_cases hl : k < w1.length
  · exact h1 k z (by rw [List.getElem?_append_left hl] at hk; exact hk)
  · exact h2 (k - w1.length) z (by rw [List.getElem?_append_right (by omega)] at hk; exact hk)
theorem oct_u (x : Int32) {y : Int32} {s : Nat} (hy : (UInt32.mod (y.toUInt32 &&& Int32.toUInt32 31) 32).toBitVec = BitVec.ofNat 32 s) (hs : s < 32) : (x.toUInt32 >>> (y.toUInt32 &&& Int32.toUInt32 31)).toInt32 &&& 255 = nI (x.toBitVec.toNat / 2 ^ s % 256) := by
  refine and255_n ?_
  show (x.toBitVec >>> (UInt32.mod (y.toUInt32 &&& Int32.toUInt32 31) 32).toBitVec).toNat = _
  rw [hy, BitVec.ushiftRight_eq', BitVec.toNat_ushiftRight, BitVec.toNat_ofNat, Nat.mod_eq_of_lt (show s < 2 ^ 32 by omega), Nat.shiftRight_eq_div_pow]
theorem oct_ushr (x : Int32) {t : Nat} (ht : t ≤ 3) : (x.toUInt32 >>> ((nI (8 * t)).toUInt32 &&& Int32.toUInt32 31)).toInt32 &&& 255 = nI (x.toBitVec.toNat / 256 ^ t % 256) := by
  rcases (show t = 0 ∨ t = 1 ∨ t = 2 ∨ t = 3 by omega) with rfl | rfl | rfl | rfl
  · exact oct_u x (s := 0) (by decide) (by decide)
  · exact oct_u x (s := 8) (by decide) (by decide)
  · exact oct_u x (s := 16) (by decide) (by decide)
  · exact oct_u x (s := 24) (by decide) (by decide)
theorem l_shr {a s : Nat} {y : Int32} (ha : a < 2 ^ 64) (hy : (UInt64.mod (y.toInt64.toUInt64 &&& Int64.toUInt64 63) 64).toBitVec = BitVec.ofNat 64 s) (hs : s < 64) : ((lN a).toUInt64 >>> (y.toInt64.toUInt64 &&& Int64.toUInt64 63)).toInt64 = lN (a / 2 ^ s) := by
  apply Int64.toBitVec_inj.mp
  show (BitVec.ofNat 64 a) >>> (UInt64.mod (y.toInt64.toUInt64 &&& Int64.toUInt64 63) 64).toBitVec = BitVec.ofNat 64 (a / 2 ^ s)
  rw [hy, BitVec.ushiftRight_eq']
  apply BitVec.eq_of_toNat_eq
  rw [BitVec.toNat_ushiftRight, BitVec.toNat_ofNat, BitVec.toNat_ofNat, BitVec.toNat_ofNat, Nat.mod_eq_of_lt (show s < 2 ^ 64 by omega), Nat.mod_eq_of_lt ha, Nat.shiftRight_eq_div_pow, Nat.mod_eq_of_lt (Nat.lt_of_le_of_lt (Nat.div_le_self _ _) ha)]
theorem l_oct {a t : Nat} (ha : a < 4294967296) (ht : t ≤ 3) : ((lN a).toUInt64 >>> ((nI (8 * t)).toInt64.toUInt64 &&& Int64.toUInt64 63)).toInt64.toInt32 &&& 255 = nI (a / 256 ^ t % 256) := by
  have hd : ∀ s, a / 2 ^ s < 2 ^ 32 := fun s => Nat.lt_of_le_of_lt (Nat.div_le_self _ _) (by omega)
  rcases (show t = 0 ∨ t = 1 ∨ t = 2 ∨ t = 3 by omega) with rfl | rfl | rfl | rfl
  · rw [l_shr (s := 0) (by omega) (by decide) (by decide), lN_i, and255_n (nI_t (hd 0))]
  · rw [l_shr (s := 8) (by omega) (by decide) (by decide), lN_i, and255_n (nI_t (hd 8))]
  · rw [l_shr (s := 16) (by omega) (by decide) (by decide), lN_i, and255_n (nI_t (hd 16))]
  · rw [l_shr (s := 24) (by omega) (by decide) (by decide), lN_i, and255_n (nI_t (hd 24))]
/-- Montgomery's numbers: in, squared, the power -/
theorem mg_in {N R r x s : Nat} (hc : Nat.Coprime N R) (hr : r < N) (h : (r * R) % N = (x * s) % N) (hs : s % N = (R * R) % N) : mgF N R r x := by
  refine ⟨hr, ?_⟩
  have hN : 0 < N := by omega
  rw [Nat.mod_eq_of_lt hr]
  refine mod_cancel hc ?_ hr (Nat.mod_lt _ hN)
  rw [h, Nat.mul_mod, hs, ← Nat.mul_mod, Nat.mod_mul_mod, Nat.mul_assoc]
theorem mg_sq0 {N L p : Nat} (hp : p < N) (h : p % N = 2 ^ (33 * L) % N) : mgF N (4294967296 ^ L) p (2 ^ (L * 2 ^ 0)) := ⟨hp, by rw [h, show (4294967296 : Nat) = 2 ^ 32 by decide, ← Nat.pow_mul, ← Nat.pow_add, show L * 2 ^ 0 + 32 * L = 33 * L by rw [Nat.pow_zero]; omega]⟩
theorem mg_sqs {N R p r L k : Nat} (hc : Nat.Coprime N R) (h : mgF N R p (2 ^ (L * 2 ^ k))) (hr : r < N) (e : (r * R) % N = (p * p) % N) : mgF N R r (2 ^ (L * 2 ^ (k + 1))) := by
  have h1 := h.mul hc h hr e
  rw [← Nat.pow_add, ← Nat.mul_add, show 2 ^ k + 2 ^ k = 2 ^ (k + 1) by rw [Nat.pow_succ]; omega] at h1
  exact h1
theorem mg_sq5 {N L p : Nat} (h : mgF N (4294967296 ^ L) p (2 ^ (L * 2 ^ 5))) : p % N = (4294967296 ^ L * 4294967296 ^ L) % N := by
  have e : (4294967296 : Nat) ^ L = 2 ^ (L * 2 ^ 5) := by rw [show (4294967296 : Nat) = 2 ^ 32 by decide, ← Nat.pow_mul, Nat.mul_comm]
  rw [h.2, ← e]
theorem W_cop {N : Nat} (h : N % 2 = 1) (L : Nat) : Nat.Coprime N (4294967296 ^ L) := by
  rw [show (4294967296 : Nat) = 2 ^ 32 by decide, ← Nat.pow_mul]
  exact odd_cop h _
theorem vB_odd {d : Nat → Nat} : ∀ L, vB 4294967296 d (L + 1) % 2 = d 0 % 2
  | 0 => by
    show (0 + d 0 * 4294967296 ^ 0) % 2 = d 0 % 2
    rw [Nat.pow_zero, Nat.mul_one, Nat.zero_add]
  | L + 1 => by
    rw [vB_s, Nat.pow_succ, ← Nat.mul_assoc, show (vB 4294967296 d (L + 1) + d (L + 1) * 4294967296 ^ L * 4294967296) % 2 = vB 4294967296 d (L + 1) % 2 by omega]
    exact vB_odd L
/-- the power's state: nothing yet, or x to what was read -/
def pwS (N R x q bg p : Nat) : Prop := (bg = 0 ∧ q = 0) ∨ (bg = 1 ∧ 1 ≤ q ∧ mgF N R p (x ^ q))
theorem pw_0 {N R x e j p : Nat} (h : pwS N R x (e / 2 ^ (j + 1)) 0 p) (hb : e / 2 ^ j % 2 ≠ 1) : pwS N R x (e / 2 ^ j) 0 p := by
  rcases h with ⟨-, h⟩ | ⟨h, -⟩
  · refine Or.inl ⟨rfl, ?_⟩
    rw [bit_s, h]
    omega
  · omega
theorem pw_b {N R x e j p b : Nat} (h : pwS N R x (e / 2 ^ (j + 1)) 0 p) (hb : e / 2 ^ j % 2 = 1) (hm : mgF N R b x) : pwS N R x (e / 2 ^ j) 1 b := by
  rcases h with ⟨-, h⟩ | ⟨h, -⟩
  · have e1 : e / 2 ^ j = 1 := by rw [bit_s, h, hb]
    refine Or.inr ⟨rfl, by omega, ?_⟩
    rw [e1, Nat.pow_one]
    exact hm
  · omega
theorem pw_s {N R x e j p r : Nat} (hc : Nat.Coprime N R) (h : pwS N R x (e / 2 ^ (j + 1)) 1 p) (hr : r < N) (e9 : (r * R) % N = (p * p) % N) : 1 ≤ e / 2 ^ (j + 1) ∧ mgF N R r (x ^ (2 * (e / 2 ^ (j + 1)))) := by
  rcases h with ⟨h, -⟩ | ⟨-, h1, h2⟩
  · omega
  · refine ⟨h1, ?_⟩
    have h3 := h2.mul hc h2 hr e9
    rw [← Nat.pow_add, show e / 2 ^ (j + 1) + e / 2 ^ (j + 1) = 2 * (e / 2 ^ (j + 1)) by omega] at h3
    exact h3
theorem pw_s0 {N R x e j p : Nat} (h : 1 ≤ e / 2 ^ (j + 1) ∧ mgF N R p (x ^ (2 * (e / 2 ^ (j + 1))))) (hb : e / 2 ^ j % 2 ≠ 1) : pwS N R x (e / 2 ^ j) 1 p := by
  have e1 : e / 2 ^ j = 2 * (e / 2 ^ (j + 1)) := by
    have := bit_s e j
    omega
  refine Or.inr ⟨rfl, by omega, ?_⟩
  rw [e1]
  exact h.2
theorem pw_s1 {N R x e j p b r : Nat} (hc : Nat.Coprime N R) (h : 1 ≤ e / 2 ^ (j + 1) ∧ mgF N R p (x ^ (2 * (e / 2 ^ (j + 1))))) (hb : e / 2 ^ j % 2 = 1) (hm : mgF N R b x) (hr : r < N) (e9 : (r * R) % N = (p * b) % N) : pwS N R x (e / 2 ^ j) 1 r := by
  have e1 : e / 2 ^ j = 2 * (e / 2 ^ (j + 1)) + 1 := by
    have := bit_s e j
    omega
  refine Or.inr ⟨rfl, by omega, ?_⟩
  rw [e1, Nat.pow_succ]
  exact h.2.mul hc hm hr e9
theorem pw_end {N R x e bg p r : Nat} (hc : Nat.Coprime N R) (he : 1 ≤ e) (h : pwS N R x (e / 2 ^ 0) bg p) (hr : r < N) (e9 : (r * R) % N = (p * 1) % N) : r = x ^ e % N := by
  rw [Nat.pow_zero, Nat.div_one] at h
  rcases h with ⟨-, h⟩ | ⟨-, -, h⟩
  · omega
  · exact h.out hc hr e9
theorem pw_lt {N R x q p : Nat} (h : pwS N R x q 1 p) : p < N := by
  rcases h with ⟨h, -⟩ | ⟨-, -, h⟩
  · omega
  · exact h.1
theorem cp_row {d x : Nat → Nat} {n : Nat} : va_cpy (lR d) (lR x) 0 0 n = lR (fun j => if j < n then d j else x j) := by
  funext j
  unfold va_cpy lR
  by_cases h : j < n
  · simp [h]
  · simp [h]
