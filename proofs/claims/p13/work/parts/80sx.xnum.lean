/-! Numbers in limbs: Montgomery's product, a quotient's digit. -/
def vB (B : Nat) (d : Nat → Nat) : Nat → Nat
  | 0 => 0
  | k + 1 => vB B d k + d k * B ^ k
theorem vB_s (B : Nat) (d : Nat → Nat) (k : Nat) : vB B d (k + 1) = vB B d k + d k * B ^ k := rfl
theorem vB_lt {B : Nat} {d : Nat → Nat} : ∀ k, (∀ j, j < k → d j < B) → vB B d k < B ^ k
  | 0, _ => Nat.one_pos
  | k + 1, h => by
    have ih := vB_lt k (fun j hj => h j (Nat.lt_succ_of_lt hj))
    have h2 : (d k + 1) * B ^ k ≤ B * B ^ k := Nat.mul_le_mul_right _ (h k (Nat.lt_succ_self k))
    rw [Nat.add_mul, Nat.one_mul] at h2
    rw [vB_s, Nat.pow_succ, Nat.mul_comm (B ^ k) B]
    omega
theorem vB_congr {B : Nat} {d d' : Nat → Nat} : ∀ k, (∀ j, j < k → d j = d' j) → vB B d k = vB B d' k
  | 0, _ => rfl
  | k + 1, h => by rw [vB_s, vB_s, vB_congr k (fun j hj => h j (Nat.lt_succ_of_lt hj)), h k (Nat.lt_succ_self k)]
/-- the product's sum behind one more limb of b -/
theorem mg_acc {W N a i T T' f F : Nat} {b : Nat → Nat} (h : T * W ^ i = a * vB W b i + F * N) (h1 : T' * W = T + a * b i + f * N) : T' * W ^ (i + 1) = a * vB W b (i + 1) + (F + f * W ^ i) * N := by
  have e : T' * W ^ (i + 1) = (T + a * b i + f * N) * W ^ i := by rw [Nat.pow_succ, Nat.mul_comm (W ^ i) W, ← Nat.mul_assoc, h1]
  rw [e, vB_s, Nat.add_mul, Nat.add_mul, h, Nat.mul_add, Nat.add_mul, Nat.mul_assoc a (b i) (W ^ i), Nat.mul_right_comm f N (W ^ i)]
  omega
theorem mg_lt {W N T a x f T' : Nat} (hW : 0 < W) (hT : T < 2 * N) (ha : a < N) (hx : x < W) (hf : f < W) (h : T' * W = T + a * x + f * N) : T' < 2 * N := by
  obtain ⟨w, rfl⟩ : ∃ w, W = w + 1 := ⟨W - 1, by omega⟩
  have h1 : a * x ≤ N * w := Nat.mul_le_mul (by omega) (by omega)
  have h2 : f * N ≤ w * N := Nat.mul_le_mul_right _ (by omega)
  have h4 : w * N = N * w := Nat.mul_comm w N
  have h3 : T' * (w + 1) < 2 * N * (w + 1) := by
    rw [h, Nat.mul_add (2 * N) w 1, Nat.mul_one, Nat.mul_assoc 2 N w]
    omega
  exact Nat.lt_of_mul_lt_mul_right h3
theorem mg_end {N Y F T R r : Nat} (h : T * R = Y + F * N) (e : T = r ∨ T = r + N) : (r * R) % N = Y % N := by
  have h9 : (Y + F * N) % N = Y % N := Nat.add_mul_mod_self_right Y F N
  rcases e with e | e
  · rw [← h9, ← h, e]
  · rw [← h9, ← h, e, Nat.add_mul, Nat.mul_comm N R, Nat.add_mul_mod_self_right]
theorem odd_cop {N : Nat} (h : N % 2 = 1) (k : Nat) : Nat.Coprime N (2 ^ k) := by
  have h1 : Nat.gcd 2 N = 1 := by
    rw [Nat.gcd_rec, h]
    decide
  exact Nat.Coprime.pow_right k (Nat.Coprime.symm h1)
theorem mod_cancel {N R a b : Nat} (hc : Nat.Coprime N R) (h : (a * R) % N = (b * R) % N) (ha : a < N) (hb : b < N) : a = b := by
  have key : ∀ {x y : Nat}, x ≤ y → y < N → (x * R) % N = (y * R) % N → x = y := fun {x y} hxy hy hm => by
    have h1 : (y * R - x * R) % N = 0 := Nat.sub_mod_eq_zero_of_mod_eq hm.symm
    rw [← Nat.sub_mul] at h1
    have h2 : N ∣ y - x := Nat.Coprime.dvd_of_dvd_mul_right hc (Nat.dvd_of_mod_eq_zero h1)
    have h3 : y - x = 0 := Nat.eq_zero_of_dvd_of_lt h2 (by omega)
    omega
  rcases Nat.le_total a b with q | q
  · exact key q hb h
  · exact (key q ha h.symm).symm
/-- p stands for x: p is x R modulo N -/
def mgF (N R p x : Nat) : Prop := p < N ∧ p % N = (x * R) % N
theorem mgF.mul {N R p q x y r : Nat} (hc : Nat.Coprime N R) (hp : mgF N R p x) (hq : mgF N R q y) (hr : r < N) (h : (r * R) % N = (p * q) % N) : mgF N R r (x * y) := by
  refine ⟨hr, ?_⟩
  have hN : 0 < N := by omega
  have h1 : (r * R) % N = ((x * y * R) % N * R) % N := by
    rw [h, Nat.mul_mod p q N, hp.2, hq.2, ← Nat.mul_mod, Nat.mod_mul_mod]
    rw [show x * R * (y * R) = x * y * R * R by rw [Nat.mul_mul_mul_comm, Nat.mul_assoc (x * y) R R]]
  rw [mod_cancel hc h1 hr (Nat.mod_lt _ hN), Nat.mod_mod]
theorem mgF.out {N R p x r : Nat} (hc : Nat.Coprime N R) (hp : mgF N R p x) (hr : r < N) (h : (r * R) % N = (p * 1) % N) : r = x % N := by
  have hN : 0 < N := by omega
  rw [Nat.mul_one, hp.2] at h
  refine mod_cancel hc ?_ hr (Nat.mod_lt _ hN)
  rw [h, Nat.mod_mul_mod]
/-! Limbs as longs. -/
def lR (d : Nat → Nat) : Nat → Int64 := fun j => lN (d j)
def updN (d : Nat → Nat) (k v : Nat) : Nat → Nat := fun j => if j = k then v else d j
theorem updN_at (d : Nat → Nat) (k v : Nat) : updN d k v k = v := if_pos rfl
theorem updN_ne {d : Nat → Nat} {k v j : Nat} (h : j ≠ k) : updN d k v j = d j := if_neg h
theorem lR_up (d : Nat → Nat) (k v : Nat) : vp_updL (lR d) k (lN v) = lR (updN d k v) := by
  funext j
  show (if j = k then lN v else lN (d j)) = lN (if j = k then v else d j)
  split <;> rfl
theorem lT {n : Nat} (h : n < 2 ^ 63) : (lN n).toInt = (n : Int) := Int64.toInt_ofNat_of_lt h
theorem l_lt {a b : Nat} (ha : a < 2 ^ 63) (hb : b < 2 ^ 63) : lN a < lN b ↔ a < b := by
  rw [Int64.lt_iff_toInt_lt, lT ha, lT hb]
  omega
theorem l_eq {a b : Nat} (ha : a < 2 ^ 63) (hb : b < 2 ^ 63) : lN a = lN b ↔ a = b := ⟨fun e => by
  have h := congrArg Int64.toInt e
  rw [lT ha, lT hb] at h
  omega, fun e => by rw [e]⟩
theorem l_low {n : Nat} (hn : n < 2 ^ 64) : lN n &&& 4294967295 = lN (n % 4294967296) := by
  apply Int64.toBitVec_inj.mp
  apply BitVec.eq_of_toNat_eq
  show ((BitVec.ofNat 64 n) &&& (4294967295 : Int64).toBitVec).toNat = (BitVec.ofNat 64 (n % 4294967296)).toNat
  rw [BitVec.toNat_and, BitVec.toNat_ofNat, BitVec.toNat_ofNat, show ((4294967295 : Int64).toBitVec).toNat = 2 ^ 32 - 1 from by decide, Nat.and_two_pow_sub_one_eq_mod, Nat.mod_eq_of_lt hn, Nat.mod_eq_of_lt (a := n % 4294967296) (by omega)]
theorem l_hi {n : Nat} (hn : n < 2 ^ 64) : ((lN n).toUInt64 >>> ((32 : Int32).toInt64.toUInt64 &&& Int64.toUInt64 63)).toInt64 = lN (n / 4294967296) := by
  apply Int64.toBitVec_inj.mp
  show (BitVec.ofNat 64 n) >>> (UInt64.mod ((32 : Int32).toInt64.toUInt64 &&& Int64.toUInt64 63) 64).toBitVec = BitVec.ofNat 64 (n / 4294967296)
  rw [show (UInt64.mod ((32 : Int32).toInt64.toUInt64 &&& Int64.toUInt64 63) 64).toBitVec = 32#64 from by decide]
  apply BitVec.eq_of_toNat_eq
  show (BitVec.ofNat 64 n).toNat >>> 32 = (BitVec.ofNat 64 (n / 4294967296)).toNat
  rw [BitVec.toNat_ofNat, BitVec.toNat_ofNat, Nat.mod_eq_of_lt hn, Nat.shiftRight_eq_div_pow, Nat.mod_eq_of_lt (a := n / 4294967296) (by omega)]
theorem lN_w (n : Nat) : lN (n + 18446744073709551616) = lN n := by
  apply Int64.toBitVec_inj.mp
  apply BitVec.eq_of_toNat_eq
  show (BitVec.ofNat 64 (n + 18446744073709551616)).toNat = (BitVec.ofNat 64 n).toNat
  rw [BitVec.toNat_ofNat, BitVec.toNat_ofNat]
  omega
theorem l_neg {n : Nat} (h1 : 2 ^ 63 ≤ n) (h2 : n < 2 ^ 64) : lN n < 0 := by
  rw [Int64.lt_iff_toInt_lt, show (0 : Int64).toInt = 0 from by decide]
  show (BitVec.ofNat 64 n).toInt < 0
  rw [BitVec.toInt_eq_toNat_cond, BitVec.toNat_ofNat, Nat.mod_eq_of_lt h2, if_neg (by omega)]
  omega
/-- one limb of a difference -/
theorem l_dif {a b c : Nat} (ha : a < 4294967296) (hb : b < 4294967296) (hc : c ≤ 1) : (b + c ≤ a ∧ lN a - lN b - lN c = lN (a - b - c)) ∨ (a < b + c ∧ (lN a - lN b - lN c) &&& 4294967295 = lN (a + 4294967296 - b - c) ∧ lN a - lN b - lN c < 0) := by
  by_cases h : b + c ≤ a
  · exact Or.inl ⟨h, by rw [lN_sub (by omega), lN_sub (by omega)]⟩
  · refine Or.inr ⟨by omega, ?_⟩
    have e : lN a - lN b - lN c = lN (a + 18446744073709551616 - b - c) := by rw [← lN_w a, lN_sub (by omega), lN_sub (by omega)]
    rw [e]
    refine ⟨?_, l_neg (by omega) (by omega)⟩
    rw [l_low (by omega)]
    exact congrArg lN (by omega)
theorem st_step {W Z N S b d c nj sj ov P : Nat} (hJ : Z + ov * N = S + b * P) (hd : d + ov * nj + b = sj + c * W) : (Z + d * P) + ov * (N + nj * P) = (S + sj * P) + c * (W * P) := by
  have h := congrArg (fun x => x * P) hd
  rw [Nat.add_mul, Nat.add_mul, Nat.add_mul] at h
  rw [Nat.mul_add, ← Nat.mul_assoc ov nj P, ← Nat.mul_assoc c W P]
  omega
theorem vB_up {W : Nat} {d : Nat → Nat} {k v : Nat} : vB W (updN d k v) (k + 1) = vB W d k + v * W ^ k := by
  rw [vB_s, updN_at, vB_congr k (fun j hj => updN_ne (by omega))]
/-- where two rows differ first from the top on -/
theorem vB_top {W : Nat} {s n : Nat → Nat} {top : Nat} : ∀ L, top < L → (∀ j, j < L → s j < W) → (∀ j, j < L → n j < W) → (∀ j, top < j → j < L → s j = n j) → (s top < n top → vB W s L < vB W n L) ∧ (n top < s top → vB W n L < vB W s L)
  | 0, h, _, _, _ => absurd h (Nat.not_lt_zero _)
  | L + 1, h, hs, hn, he => by
    by_cases h1 : top = L
    · subst h1
      have a1 := vB_lt top (fun j hj => hs j (Nat.lt_succ_of_lt hj))
      have a2 := vB_lt top (fun j hj => hn j (Nat.lt_succ_of_lt hj))
      rw [vB_s, vB_s]
      refine ⟨fun q => ?_, fun q => ?_⟩
      · have h2 : (s top + 1) * W ^ top ≤ n top * W ^ top := Nat.mul_le_mul_right _ q
        rw [Nat.add_mul, Nat.one_mul] at h2
        omega
      · have h2 : (n top + 1) * W ^ top ≤ s top * W ^ top := Nat.mul_le_mul_right _ q
        rw [Nat.add_mul, Nat.one_mul] at h2
        omega
    · have ih := vB_top L (by omega) (fun j hj => hs j (Nat.lt_succ_of_lt hj)) (fun j hj => hn j (Nat.lt_succ_of_lt hj)) (fun j h1 h2 => he j h1 (Nat.lt_succ_of_lt h2))
      rw [vB_s, vB_s, he L (by omega) (Nat.lt_succ_self L)]
      exact ⟨fun q => Nat.add_lt_add_right (ih.1 q) _, fun q => Nat.add_lt_add_right (ih.2 q) _⟩
theorem l_nn {n : Nat} (h : n < 2 ^ 63) : ¬ lN n < 0 := fun q => by
  rw [Int64.lt_iff_toInt_lt, lT h, show (0 : Int64).toInt = 0 from by decide] at q
  omega
theorem c_eq {a b : Nat} (ha : a < 4294967296) (hb : b < 4294967296) : lg_cmp (lN a) (lN b) = 0 ↔ a = b := by
  rw [lg_cmp_eq, l_eq (by omega) (by omega)]
theorem c_lt {a b : Nat} (ha : a < 4294967296) (hb : b < 4294967296) : lg_cmp (lN a) (lN b) < 0 ↔ a < b := by
  rw [lg_cmp_lt, l_lt (by omega) (by omega)]
theorem l_0 {a : Nat} (ha : a < 4294967296) : lg_cmp (lN a) 0 = 0 ↔ a = 0 := c_eq (b := 0) ha (by decide)
theorem st_down {L k : Nat} {sd nd : Nat → Nat} (h : ∀ j, k < j → j < L → sd j = nd j) (he : sd k = nd k) : ∀ j, k - 1 < j → j < L → sd j = nd j := fun j h1 h2 => by
  by_cases e : j = k
  · rw [e]; exact he
  · exact h j (by omega) h2
theorem st_cmp {L k : Nat} {sd nd : Nat → Nat} (hL1 : 1 ≤ L) (hn : ∀ j, nd j < 4294967296) (hs : ∀ j, sd j < 4294967296) (hk : k < L) (htop : ∀ j, k < j → j < L → sd j = nd j) (hend : k = 0 ∨ sd k ≠ nd k) : ((sd L ≠ 0 ∨ ¬ sd k < nd k) → vB 4294967296 nd L ≤ vB 4294967296 sd (L + 1)) ∧ (sd L = 0 → sd k < nd k → vB 4294967296 sd (L + 1) < vB 4294967296 nd L) := by
  have a1 := vB_lt (B := 4294967296) L (fun j _ => hn j)
  have a2 := vB_top (W := 4294967296) (s := sd) (n := nd) L hk (fun j _ => hs j) (fun j _ => hn j) htop
  rw [vB_s]
  generalize 4294967296 ^ L = P at a1 ⊢
  refine ⟨fun h => ?_, fun h0 h1 => ?_⟩
  · rcases h with h | h
    · have h2 : 1 * P ≤ sd L * P := Nat.mul_le_mul_right _ (by omega)
      omega
    · by_cases e : sd k = nd k
      · have e0 : vB 4294967296 sd L = vB 4294967296 nd L := vB_congr L (fun j hj => by
          by_cases e1 : j = k
          · rw [e1]; exact e
          · rcases hend with e2 | e2
            · exact htop j (by omega) hj
            · exact absurd e e2)
        omega
      · have h3 := a2.2 (by omega)
        omega
  · rw [h0, Nat.zero_mul, Nat.add_zero]
    exact a2.1 h1
theorem st_fin {L ov b z1 : Nat} {sd nd r x : Nat → Nat} (hn : ∀ j, nd j < 4294967296) (h : z1 ≤ L ∧ (∀ i, r i < 4294967296) ∧ (∀ i, z1 ≤ i → r i = x i) ∧ b ≤ 1 ∧ vB 4294967296 r z1 + ov * vB 4294967296 nd z1 = vB 4294967296 sd z1 + b * 4294967296 ^ z1) (hz : L ≤ z1) (hov : (ov = 1 ∧ vB 4294967296 nd L ≤ vB 4294967296 sd (L + 1)) ∨ (ov = 0 ∧ vB 4294967296 sd (L + 1) < vB 4294967296 nd L)) (hT : vB 4294967296 sd (L + 1) < 2 * vB 4294967296 nd L) : vB 4294967296 r L < vB 4294967296 nd L ∧ (vB 4294967296 sd (L + 1) = vB 4294967296 r L ∨ vB 4294967296 sd (L + 1) = vB 4294967296 r L + vB 4294967296 nd L) := by
  obtain ⟨h1, h2, -, h3, h4⟩ := h
  obtain rfl : z1 = L := by omega
  have a1 := vB_lt (B := 4294967296) z1 (fun j _ => hn j)
  have a2 := vB_lt (B := 4294967296) z1 (fun j _ => h2 j)
  rw [vB_s] at hov hT ⊢
  generalize 4294967296 ^ z1 = P at *
  have hd : sd z1 = 0 ∨ sd z1 = 1 := by
    by_cases e : sd z1 < 2
    · omega
    · have h5 : 2 * P ≤ sd z1 * P := Nat.mul_le_mul_right _ (by omega)
      omega
  have hb : b = 0 ∨ b = 1 := by omega
  generalize sd z1 = w9 at *
  rcases hov with ⟨rfl, ho⟩ | ⟨rfl, ho⟩ <;> rcases hd with rfl | rfl <;> rcases hb with rfl | rfl <;> simp only [Nat.zero_mul, Nat.one_mul, Nat.add_zero] at * <;> omega
theorem st_next {L ov z1 b d c : Nat} {sd nd x y : Nat → Nat} (hz : z1 < L) (h1 : ∀ i, y i < 4294967296) (h2 : ∀ i, z1 ≤ i → y i = x i) (hv : vB 4294967296 y z1 + ov * vB 4294967296 nd z1 = vB 4294967296 sd z1 + b * 4294967296 ^ z1) (hd : d < 4294967296) (hc : c ≤ 1) (he : d + ov * nd z1 + b = sd z1 + c * 4294967296) : z1 + 1 ≤ L ∧ (∀ i, updN y z1 d i < 4294967296) ∧ (∀ i, z1 + 1 ≤ i → updN y z1 d i = x i) ∧ c ≤ 1 ∧ vB 4294967296 (updN y z1 d) (z1 + 1) + ov * vB 4294967296 nd (z1 + 1) = vB 4294967296 sd (z1 + 1) + c * 4294967296 ^ (z1 + 1) := by
  refine ⟨hz, fun i => ?_, fun i hi => ?_, hc, ?_⟩
  · by_cases e : i = z1
    · rw [e, updN_at]; exact hd
    · rw [updN_ne e]; exact h1 i
  · rw [updN_ne (by omega)]; exact h2 i (by omega)
  · rw [vB_up, vB_s, vB_s, Nat.pow_succ, Nat.mul_comm (4294967296 ^ z1) 4294967296]
    exact st_step hv he
theorem mul_b {a b : Nat} (ha : a < 4294967296) (hb : b < 4294967296) : a * b ≤ 18446744065119617025 := Nat.mul_le_mul (show a ≤ 4294967295 by omega) (show b ≤ 4294967295 by omega)
def flL (f : Nat → Int64) (v : Int64) (k : Nat) : Nat → Int64 := fun j => if j < k then v else f j
theorem flL_0 (f : Nat → Int64) (v : Int64) : flL f v 0 = f := funext fun j => if_neg (Nat.not_lt_zero j)
theorem flL_s (f : Nat → Int64) (v : Int64) (k : Nat) : vp_updL (flL f v k) k v = flL f v (k + 1) := by
  funext j
  show (if j = k then v else if j < k then v else f j) = if j < k + 1 then v else f j
  by_cases h1 : j = k
  · rw [if_pos h1, if_pos (by omega)]
  · rw [if_neg h1]
    by_cases h2 : j < k
    · rw [if_pos h2, if_pos (by omega)]
    · rw [if_neg h2, if_neg (by omega)]
def zG (d : Nat → Nat) (k : Nat) : Nat → Nat := fun j => if j < k then 0 else d j
theorem flL_z (d : Nat → Nat) (k : Nat) : flL (lR d) 0 k = lR (zG d k) := by
  funext j
  show (if j < k then (0 : Int64) else lN (d j)) = lN (if j < k then 0 else d j)
  split <;> rfl
theorem vB_z {d : Nat → Nat} {n W : Nat} : ∀ k, k ≤ n → vB W (zG d n) k = 0
  | 0, _ => rfl
  | k + 1, h => by rw [vB_s, vB_z k (by omega), show zG d n k = 0 from if_pos (by omega), Nat.zero_mul]
/-- a limb more of a row that is multiplied and added -/
theorem ma_step {j c g x : Nat} {s s' a : Nat → Nat} (h : vB 4294967296 s' j + c * 4294967296 ^ j = vB 4294967296 s j + vB 4294967296 a j * x) (hg : g = s j + a j * x + c) : vB 4294967296 (updN s' j (g % 4294967296)) (j + 1) + g / 4294967296 * 4294967296 ^ (j + 1) = vB 4294967296 s (j + 1) + vB 4294967296 a (j + 1) * x := by
  rw [vB_up, vB_s, vB_s, Nat.pow_succ, Nat.mul_comm (4294967296 ^ j) 4294967296, ← Nat.mul_assoc, Nat.add_mul (vB 4294967296 a j)]
  have h1 : g % 4294967296 + g / 4294967296 * 4294967296 = g := by omega
  have h2 := congrArg (fun q => q * 4294967296 ^ j) (h1.trans hg)
  rw [Nat.add_mul, Nat.add_mul, Nat.add_mul] at h2
  rw [Nat.mul_right_comm (a j) (4294967296 ^ j) x]
  omega
/-- the same, one limb lower -/
theorem mb_step {j c g f : Nat} {s s' n : Nat → Nat} (hj : 1 ≤ j) (h : 4294967296 * vB 4294967296 s' (j - 1) + c * 4294967296 ^ j = vB 4294967296 s j + f * vB 4294967296 n j) (hg : g = s j + f * n j + c) : 4294967296 * vB 4294967296 (updN s' (j - 1) (g % 4294967296)) j + g / 4294967296 * 4294967296 ^ (j + 1) = vB 4294967296 s (j + 1) + f * vB 4294967296 n (j + 1) := by
  obtain ⟨k, rfl⟩ : ∃ k, j = k + 1 := ⟨j - 1, by omega⟩
  rw [show k + 1 - 1 = k by omega] at h ⊢
  rw [vB_up, vB_s _ s (k + 1), vB_s _ n (k + 1), Nat.mul_add, Nat.mul_add, Nat.pow_succ _ (k + 1), Nat.mul_comm (4294967296 ^ (k + 1)) 4294967296, ← Nat.mul_assoc (g / 4294967296)]
  have h1 : g % 4294967296 + g / 4294967296 * 4294967296 = g := by omega
  have h2 := congrArg (fun q => q * 4294967296 ^ (k + 1)) (h1.trans hg)
  rw [Nat.add_mul, Nat.add_mul, Nat.add_mul] at h2
  rw [show 4294967296 * (g % 4294967296 * 4294967296 ^ k) = g % 4294967296 * 4294967296 ^ (k + 1) by rw [Nat.pow_succ, Nat.mul_comm (4294967296 ^ k) 4294967296, Nat.mul_left_comm]]
  rw [← Nat.mul_assoc f (n (k + 1))]
  omega
theorem inv_0 {a iv n : Nat} (h : (iv * n + 1) % 4294967296 = 0) : (a + (a * iv) % 4294967296 * n) % 4294967296 = 0 := by
  have h1 : (a + (a * iv) % 4294967296 * n) % 4294967296 = (a + a * iv * n) % 4294967296 := by rw [Nat.add_mod, Nat.mod_mul_mod, ← Nat.add_mod]
  rw [h1, show a + a * iv * n = a * (iv * n + 1) by rw [Nat.mul_add, Nat.mul_one, Nat.mul_assoc, Nat.add_comm], Nat.mul_mod, h, Nat.mul_zero]
/-- the end of one round -/
theorem mf_end {L c h f x : Nat} {s s1 s2 a n : Nat → Nat} (hL : 1 ≤ L) (h1 : vB 4294967296 s1 L + c * 4294967296 ^ L = vB 4294967296 s L + vB 4294967296 a L * x) (h2 : 4294967296 * vB 4294967296 s2 (L - 1) + (h - (s L + c)) * 4294967296 ^ L = vB 4294967296 s1 L + f * vB 4294967296 n L) (hh : s L + c ≤ h) : vB 4294967296 (updN (updN s2 (L - 1) (h % 4294967296)) L (h / 4294967296)) (L + 1) * 4294967296 = vB 4294967296 s (L + 1) + vB 4294967296 a L * x + f * vB 4294967296 n L := by
  obtain ⟨k, rfl⟩ : ∃ k, L = k + 1 := ⟨L - 1, by omega⟩
  rw [show k + 1 - 1 = k by omega] at h2 ⊢
  rw [vB_up, vB_up, vB_s _ s (k + 1)]
  have e1 : h % 4294967296 + h / 4294967296 * 4294967296 = h := by omega
  have e2 := congrArg (fun q => q * 4294967296 ^ (k + 1)) e1
  have e3 := congrArg (fun q => q * 4294967296 ^ (k + 1)) (show h = (h - (s (k + 1) + c)) + s (k + 1) + c by omega)
  rw [Nat.add_mul] at e2
  rw [Nat.add_mul, Nat.add_mul] at e3
  rw [Nat.add_mul, Nat.add_mul, show h % 4294967296 * 4294967296 ^ k * 4294967296 = h % 4294967296 * 4294967296 ^ (k + 1) by rw [Nat.pow_succ, Nat.mul_assoc], Nat.mul_right_comm (h / 4294967296) (4294967296 ^ (k + 1)) 4294967296, Nat.mul_comm (vB 4294967296 s2 k) 4294967296]
  omega
theorem ma_next {L k c x g : Nat} {s s' a : Nat → Nat} (h : k ≤ L ∧ (∀ j, s' j < 4294967296) ∧ (∀ j, k ≤ j → s' j = s j) ∧ c < 4294967296 ∧ vB 4294967296 s' k + c * 4294967296 ^ k = vB 4294967296 s k + vB 4294967296 a k * x) (hk : k < L) (hg : g = s' k + a k * x + c) (hb : g < 18446744073709551616) : k + 1 ≤ L ∧ (∀ j, updN s' k (g % 4294967296) j < 4294967296) ∧ (∀ j, k + 1 ≤ j → updN s' k (g % 4294967296) j = s j) ∧ g / 4294967296 < 4294967296 ∧ vB 4294967296 (updN s' k (g % 4294967296)) (k + 1) + g / 4294967296 * 4294967296 ^ (k + 1) = vB 4294967296 s (k + 1) + vB 4294967296 a (k + 1) * x := by
  obtain ⟨h1, h2, h3, h4, h5⟩ := h
  refine ⟨hk, fun j => ?_, fun j hj => ?_, by omega, ma_step h5 (by rw [hg, h3 k (Nat.le_refl k)])⟩
  · by_cases e : j = k
    · rw [e, updN_at]; exact Nat.mod_lt _ (by decide)
    · rw [updN_ne e]; exact h2 j
  · rw [updN_ne (by omega)]; exact h3 j (by omega)
theorem mb_next {L k c f g : Nat} {s s' n : Nat → Nat} (h : 1 ≤ k ∧ k ≤ L ∧ (∀ j, s' j < 4294967296) ∧ (∀ j, k - 1 ≤ j → s' j = s j) ∧ c < 4294967296 ∧ 4294967296 * vB 4294967296 s' (k - 1) + c * 4294967296 ^ k = vB 4294967296 s k + f * vB 4294967296 n k) (hk : k < L) (hg : g = s' k + f * n k + c) (hb : g < 18446744073709551616) : 1 ≤ k + 1 ∧ k + 1 ≤ L ∧ (∀ j, updN s' (k - 1) (g % 4294967296) j < 4294967296) ∧ (∀ j, k + 1 - 1 ≤ j → updN s' (k - 1) (g % 4294967296) j = s j) ∧ g / 4294967296 < 4294967296 ∧ 4294967296 * vB 4294967296 (updN s' (k - 1) (g % 4294967296)) (k + 1 - 1) + g / 4294967296 * 4294967296 ^ (k + 1) = vB 4294967296 s (k + 1) + f * vB 4294967296 n (k + 1) := by
  obtain ⟨h0, h1, h2, h3, h4, h5⟩ := h
  refine ⟨by omega, hk, fun j => ?_, fun j hj => ?_, by omega, mb_step h0 h5 (by rw [hg, h3 k (by omega)])⟩
  · by_cases e : j = k - 1
    · rw [e, updN_at]; exact Nat.mod_lt _ (by decide)
    · rw [updN_ne e]; exact h2 j
  · rw [updN_ne (by omega)]; exact h3 j (by omega)
theorem mb_init {L f iv g : Nat} {s n : Nat → Nat} (hL : 1 ≤ L) (hs : ∀ j, s j < 4294967296) (hf : f < 4294967296) (hn : n 0 < 4294967296) (hi : (iv * n 0 + 1) % 4294967296 = 0) (e1 : f = s 0 * iv % 4294967296) (e2 : g = (s 0 + f * n 0) / 4294967296) : 1 ≤ 1 ∧ 1 ≤ L ∧ (∀ j, s j < 4294967296) ∧ (∀ j, 1 - 1 ≤ j → s j = s j) ∧ g < 4294967296 ∧ 4294967296 * vB 4294967296 s (1 - 1) + g * 4294967296 ^ 1 = vB 4294967296 s 1 + f * vB 4294967296 n 1 := by
  have h := inv_0 (a := s 0) hi
  rw [← e1] at h
  have h1 := mul_b hf hn
  have h2 := hs 0
  refine ⟨Nat.le_refl 1, hL, hs, fun _ _ => rfl, by omega, ?_⟩
  show 4294967296 * 0 + g * 4294967296 ^ 1 = (0 + s 0 * 4294967296 ^ 0) + f * (0 + n 0 * 4294967296 ^ 0)
  simp only [Nat.pow_one, Nat.pow_zero, Nat.mul_one, Nat.zero_add]
  omega
theorem mul_next {L i k c m d f g h : Nat} {s s1 s2 a b n : Nat → Nat} (hL : 1 ≤ L) (ha : vB 4294967296 a L < vB 4294967296 n L) (hb : ∀ j, b j < 4294967296) (hJ : i ≤ L ∧ (∀ j, s j < 4294967296) ∧ vB 4294967296 s (L + 1) < 2 * vB 4294967296 n L ∧ ∃ F, vB 4294967296 s (L + 1) * 4294967296 ^ i = vB 4294967296 a L * vB 4294967296 b i + F * vB 4294967296 n L) (hi : i < L)
    (h1 : k ≤ L ∧ (∀ j, s1 j < 4294967296) ∧ (∀ j, k ≤ j → s1 j = s j) ∧ c < 4294967296 ∧ vB 4294967296 s1 k + c * 4294967296 ^ k = vB 4294967296 s k + vB 4294967296 a k * b i) (h2 : 1 ≤ m ∧ m ≤ L ∧ (∀ j, s2 j < 4294967296) ∧ (∀ j, m - 1 ≤ j → s2 j = s1 j) ∧ d < 4294967296 ∧ 4294967296 * vB 4294967296 s2 (m - 1) + d * 4294967296 ^ m = vB 4294967296 s1 m + f * vB 4294967296 n m) (hk : L ≤ k) (hm : L ≤ m) (hf : f < 4294967296) (hg : g = s1 L + c) (hh : h = g + d) :
    i + 1 ≤ L ∧ (∀ j, updN (updN s2 (L - 1) (h % 4294967296)) L (h / 4294967296) j < 4294967296) ∧ vB 4294967296 (updN (updN s2 (L - 1) (h % 4294967296)) L (h / 4294967296)) (L + 1) < 2 * vB 4294967296 n L ∧ ∃ F, vB 4294967296 (updN (updN s2 (L - 1) (h % 4294967296)) L (h / 4294967296)) (L + 1) * 4294967296 ^ (i + 1) = vB 4294967296 a L * vB 4294967296 b (i + 1) + F * vB 4294967296 n L := by
  obtain ⟨a1, a2, a3, a4, a5⟩ := h1
  obtain ⟨b0, b1, b2, b3, b4, b5⟩ := h2
  obtain ⟨c1, c2, c3, F, c4⟩ := hJ
  obtain rfl : k = L := by omega
  obtain rfl : m = k := by omega
  have e0 : s1 m = s m := a3 m (Nat.le_refl m)
  have e1 := c2 m
  have e2 : h - (s m + c) = d := by omega
  have key := mf_end (h := h) (f := f) (n := n) (s2 := s2) b0 a5 (by rw [e2]; exact b5) (by omega)
  refine ⟨hi, fun j => ?_, mg_lt (by decide) c3 ha (hb i) hf key, F + f * 4294967296 ^ i, mg_acc c4 key⟩
  by_cases q : j = m
  · rw [q, updN_at]; omega
  · rw [updN_ne q]
    by_cases q2 : j = m - 1
    · rw [q2, updN_at]; exact Nat.mod_lt _ (by decide)
    · rw [updN_ne q2]; exact b2 j
theorem mul_fin {L i : Nat} {s r a b n x : Nat → Nat} (hJ : i ≤ L ∧ (∀ j, s j < 4294967296) ∧ vB 4294967296 s (L + 1) < 2 * vB 4294967296 n L ∧ ∃ F, vB 4294967296 s (L + 1) * 4294967296 ^ i = vB 4294967296 a L * vB 4294967296 b i + F * vB 4294967296 n L) (hi : L ≤ i) (hr : (∀ j, r j < 4294967296) ∧ (∀ j, L ≤ j → r j = x j) ∧ vB 4294967296 r L < vB 4294967296 n L ∧ (vB 4294967296 s (L + 1) = vB 4294967296 r L ∨ vB 4294967296 s (L + 1) = vB 4294967296 r L + vB 4294967296 n L)) :
    (∀ j, r j < 4294967296) ∧ (∀ j, L ≤ j → r j = x j) ∧ vB 4294967296 r L < vB 4294967296 n L ∧ (vB 4294967296 r L * 4294967296 ^ L) % vB 4294967296 n L = (vB 4294967296 a L * vB 4294967296 b L) % vB 4294967296 n L ∧ (∀ j, s j < 4294967296) := by
  obtain ⟨c1, c2, c3, F, c4⟩ := hJ
  obtain rfl : i = L := by omega
  exact ⟨hr.1, hr.2.1, hr.2.2.1, mg_end c4 hr.2.2.2, c2⟩
/-- limbs out of octets, counted from the end -/
def ldL (o : Nat → Nat) (k : Nat) : Nat → Nat := fun j => vB 256 (fun r => o (4 * j + r)) (min 4 (k - 4 * j))
theorem ldL_lt {o : Nat → Nat} (ho : ∀ j, o j < 256) (k j : Nat) : ldL o k j < 4294967296 := by
  have h1 := vB_lt (B := 256) (d := fun r => o (4 * j + r)) (min 4 (k - 4 * j)) (fun r _ => ho _)
  have h2 : 256 ^ (min 4 (k - 4 * j)) ≤ 256 ^ 4 := Nat.pow_le_pow_right (by decide) (Nat.min_le_left _ _)
  have h3 : (256 : Nat) ^ 4 = 4294967296 := by decide
  unfold ldL
  omega
theorem ldL_0 (o : Nat → Nat) (j : Nat) : ldL o 0 j = 0 := by
  unfold ldL
  rw [Nat.zero_sub, Nat.min_zero]
  rfl
theorem ldL_s (o : Nat → Nat) (k : Nat) : updN (ldL o k) (k / 4) (ldL o k (k / 4) + o k * 256 ^ (k % 4)) = ldL o (k + 1) := by
  funext j
  by_cases e : j = k / 4
  · rw [e, updN_at]
    unfold ldL
    have e1 : min 4 (k - 4 * (k / 4)) = k % 4 := by omega
    have e2 : min 4 (k + 1 - 4 * (k / 4)) = k % 4 + 1 := by omega
    rw [e1, e2, vB_s]
    have e3 : 4 * (k / 4) + k % 4 = k := by omega
    rw [e3]
  · rw [updN_ne e]
    unfold ldL
    have e1 : min 4 (k - 4 * j) = min 4 (k + 1 - 4 * j) := by omega
    rw [e1]
theorem ldL_room {o : Nat → Nat} (ho : ∀ j, o j < 256) (k : Nat) : ldL o k (k / 4) < 256 ^ (k % 4) := by
  have h1 := vB_lt (B := 256) (d := fun r => o (4 * (k / 4) + r)) (min 4 (k - 4 * (k / 4))) (fun r _ => ho _)
  have e1 : min 4 (k - 4 * (k / 4)) = k % 4 := by omega
  unfold ldL
  rw [e1] at h1 ⊢
  exact h1
/-- four octets a limb: the same number -/
theorem vB_spl (W : Nat) (f : Nat → Nat) (j : Nat) : ∀ k, vB W f (j + k) = vB W f j + W ^ j * vB W (fun i => f (j + i)) k
  | 0 => by rw [show vB W (fun i => f (j + i)) 0 = 0 from rfl, Nat.mul_zero]; rfl
  | k + 1 => by
    show vB W f (j + k) + f (j + k) * W ^ (j + k) = vB W f j + W ^ j * (vB W (fun i => f (j + i)) k + f (j + k) * W ^ k)
    rw [vB_spl W f j k, Nat.pow_add, Nat.mul_add, Nat.mul_left_comm (f (j + k)), Nat.add_assoc]
/-- c digits make one of a greater base -/
theorem vB_gr (B c : Nat) (o : Nat → Nat) : ∀ m, vB (B ^ c) (fun j => vB B (fun r => o (c * j + r)) c) m = vB B o (c * m)
  | 0 => by
    rw [Nat.mul_zero]
    rfl
  | m + 1 => by
    rw [vB_s, vB_gr B c o m, Nat.mul_succ, vB_spl, ← Nat.pow_mul, Nat.mul_comm (B ^ (c * m))]
theorem vB_four (o : Nat → Nat) (m : Nat) : vB 4294967296 (fun j => vB 256 (fun r => o (4 * j + r)) 4) m = vB 256 o (4 * m) := by
  have h := vB_gr 256 4 o m
  rw [show (256 : Nat) ^ 4 = 4294967296 from by decide] at h
  exact h
theorem vB_cut {B : Nat} {d : Nat → Nat} {n : Nat} : ∀ k, n ≤ k → (∀ j, n ≤ j → j < k → d j = 0) → vB B d k = vB B d n
  | 0, hk, _ => by rw [Nat.le_zero.mp hk]
  | k + 1, hk, h => by
    by_cases e : n = k + 1
    · rw [e]
    · rw [vB_s, vB_cut k (by omega) (fun j h1 h2 => h j h1 (by omega)), h k (by omega) (by omega), Nat.zero_mul, Nat.add_zero]
theorem vB_lead {B : Nat} {d : Nat → Nat} {n : Nat} (h : ∀ j, n ≤ j → d j = 0) : ∀ k, n ≤ k → vB B d k = vB B d n
  | 0, hk => by rw [Nat.le_zero.mp hk]
  | k + 1, hk => by
    by_cases e : n = k + 1
    · rw [e]
    · rw [vB_s, vB_lead h k (by omega), h k (by omega), Nat.zero_mul, Nat.add_zero]
/-- the number of a row of octets -/
theorem ldL_val (o : Nat → Nat) (k m : Nat) (hk : k ≤ 4 * m) : vB 4294967296 (ldL o k) m = vB 256 o k := by
  have e : vB 4294967296 (ldL o k) m = vB 4294967296 (fun j => vB 256 (fun r => (fun i => if i < k then o i else 0) (4 * j + r)) 4) m := by
    refine vB_congr m (fun j hj => ?_)
    show vB 256 (fun r => o (4 * j + r)) (min 4 (k - 4 * j)) = vB 256 (fun r => if 4 * j + r < k then o (4 * j + r) else 0) 4
    have h9 : ∀ r, min 4 (k - 4 * j) ≤ r → r < 4 → (if 4 * j + r < k then o (4 * j + r) else 0) = 0 := fun r h1 h2 => if_neg (by omega)
    rw [vB_cut (n := min 4 (k - 4 * j)) (d := fun r => if 4 * j + r < k then o (4 * j + r) else 0) 4 (Nat.min_le_left _ _) h9]
    exact (vB_congr _ (fun r hr => if_pos (by omega))).symm
  rw [e, vB_four (fun i => if i < k then o i else 0) m, vB_lead (n := k) (fun j hj => if_neg (by omega)) _ hk]
  exact vB_congr k (fun j hj => if_pos hj)
theorem arrV_e9 {c : ClassId} {n : Nat} {f g : Nat → Value} (h : ∀ j, j < n → f j = g j) : arrV c n f = arrV c n g := by
  unfold arrV
  congr 1
  apply Array.ext
  · simp
  · intro i h1 h2
    simp at h1
    simp [h i h1]
theorem va_P.agreeL {D : va_G} {w1 w2 : va_W} {q : Nat} {c : ClassId} {n : Nat} {f g : Nat → Int64} {H : Heap} (h : ∀ j, j < n → f j = g j) (hP : va_P D classes (w1 ++ (q, .inl (c, n, .inr (.inl f))) :: w2) H) : va_P D classes (w1 ++ (q, .inl (c, n, .inr (.inl g))) :: w2) H := fun k z hk => by
  by_cases hl : k < w1.length
  · exact hP k z (by rw [List.getElem?_append_left hl] at hk ⊢; exact hk)
  · rw [List.getElem?_append_right (by omega)] at hk
    cases hj : k - w1.length with
    | zero =>
      rw [hj] at hk
      cases hk
      have h1 := hP k (q, .inl (c, n, .inr (.inl f))) (by rw [List.getElem?_append_right (by omega), hj]; rfl)
      show H[q]? = some (vp_cell c (n, .inr (.inl g)))
      rw [vp_cell_l, ← arrV_e9 (f := fun j => .long (f j)) (fun j hj => by rw [h j hj])]
      exact h1
    | succ i => exact hP k z (by rw [List.getElem?_append_right (by omega)]; rw [hj] at hk ⊢; exact hk)
theorem or_sh {a o r : Nat} (ha : a < 2 ^ r) : a ||| (o <<< r) = a + o * 2 ^ r := by
  rw [Nat.or_comm, ← Nat.shiftLeft_add_eq_or_of_lt ha, Nat.shiftLeft_eq, Nat.add_comm]
theorem l_or {a o r : Nat} (hr : r < 4) (ha : a < 256 ^ r) (ho : o < 256) : (lN a ||| ((nI o).toInt64 <<< ((nI (8 * r)).toInt64 &&& 63)) : Int64) = lN (a + o * 256 ^ r) := by
  have e0 : (nI o).toInt64 = lN o := nI_l (by omega)
  have e9 : (256 : Nat) ^ r = 2 ^ (8 * r) := by rw [Nat.pow_mul]
  rw [e9] at ha ⊢
  rw [e0]
  apply Int64.toBitVec_inj.mp
  apply BitVec.eq_of_toNat_eq
  have hb : o * 2 ^ (8 * r) < 4294967296 := by
    have h1 : (2 : Nat) ^ (8 * r) ≤ 2 ^ 24 := Nat.pow_le_pow_right (by decide) (by omega)
    have h2 := Nat.mul_le_mul (show o ≤ 255 by omega) h1
    omega
  have h3 : (2 : Nat) ^ (8 * r) ≤ 2 ^ 24 := Nat.pow_le_pow_right (by decide) (by omega)
  show ((BitVec.ofNat 64 a) ||| ((lN o) <<< ((nI (8 * r)).toInt64 &&& 63)).toBitVec).toNat = (BitVec.ofNat 64 (a + o * 2 ^ (8 * r))).toNat
  have e1 : ((lN o) <<< ((nI (8 * r)).toInt64 &&& 63)).toBitVec = (BitVec.ofNat 64 o) <<< (8 * r) := by
    rcases (show r = 0 ∨ r = 1 ∨ r = 2 ∨ r = 3 by omega) with rfl | rfl | rfl | rfl <;> rfl
  rw [e1, BitVec.toNat_or, BitVec.toNat_shiftLeft, BitVec.toNat_ofNat, BitVec.toNat_ofNat, BitVec.toNat_ofNat, Nat.mod_eq_of_lt (a := a) (by omega), Nat.mod_eq_of_lt (a := o) (by omega), Nat.shiftLeft_eq, Nat.mod_eq_of_lt (a := o * 2 ^ (8 * r)) (by omega), Nat.mod_eq_of_lt (by omega), ← Nat.shiftLeft_eq, or_sh ha, Nat.shiftLeft_eq]
theorem be_down {L k : Nat} {t n : Nat → Nat} (h : ∀ j, k + 1 ≤ j → j < L → t j = n j) (he : t k = n k) : ∀ j, k ≤ j → j < L → t j = n j := fun j h1 h2 => by
  by_cases e : j = k
  · rw [e]; exact he
  · exact h j (by omega) h2
theorem be_gt {a b : Nat} (h1 : a ≠ b) (h2 : ¬ a < b) : b < a := by omega
theorem nI_nn {k : Nat} (h : k < 2 ^ 31) : ¬ nI k < 0 := fun q => by
  have h1 := (nI_ltI (a := k) (b := 0) h (by decide)).mp q
  omega
/-! The inverse of an odd limb. -/
theorem bm64 (x : Int) : ∃ t : Int, x.bmod (2 ^ 64) = x + 18446744073709551616 * t := by
  obtain ⟨t, ht⟩ := Int.dvd_bmod_sub_self (x := x) (m := 2 ^ 64)
  refine ⟨t, ?_⟩
  rw [show ((2 ^ 64 : Nat) : Int) = 18446744073709551616 from by decide] at ht
  omega
theorem nw_ring (A X t1 t2 t3 m : Int) : 1 - A * (X * (1 + 1 - (A * X + m * t1) + m * t2) + m * t3) = (1 - A * X) * (1 - A * X) + m * (A * X * t1 - A * X * t2 - A * t3) := by
  simp only [Int.mul_add, Int.add_mul, Int.mul_sub, Int.sub_mul, Int.one_mul, Int.mul_one]
  simp only [Int.mul_assoc, Int.mul_comm, Int.mul_left_comm]
  omega
theorem pw_dvd {j k : Nat} (h : j ≤ k) : (2 ^ j : Int) ∣ 2 ^ k := ⟨2 ^ (k - j), by rw [← Int.pow_add, show j + (k - j) = k by omega]⟩
theorem nw_step {a x : Int64} {k k' : Nat} (h : (2 ^ k : Int) ∣ 1 - a.toInt * x.toInt) (h1 : k' ≤ 2 * k) (h2 : k' ≤ 64) : (2 ^ k' : Int) ∣ 1 - a.toInt * (x * (2 - a * x)).toInt := by
  obtain ⟨t1, e1⟩ := bm64 (a.toInt * x.toInt)
  obtain ⟨t2, e2⟩ := bm64 ((2 : Int64).toInt - (a * x).toInt)
  obtain ⟨t3, e3⟩ := bm64 (x.toInt * (2 - a * x).toInt)
  rw [← Int64.toInt_mul] at e1 e3
  rw [← Int64.toInt_sub, show (2 : Int64).toInt = 1 + 1 from by decide] at e2
  obtain ⟨c, hc⟩ := h
  rw [e3, e2, e1, nw_ring, hc]
  refine Int.dvd_add ?_ ?_
  · rw [Int.mul_assoc, Int.mul_left_comm c, ← Int.mul_assoc, ← Int.pow_add, show k + k = 2 * k by omega]
    exact Int.dvd_trans (pw_dvd h1) ⟨c * c, rfl⟩
  · exact Int.dvd_trans (pw_dvd h2) (Int.dvd_trans ⟨1, by decide⟩ ⟨_, rfl⟩)
theorem nw_0 {n : Nat} (h : n % 2 = 1) (hn : n < 4294967296) : (2 ^ 3 : Int) ∣ 1 - (lN n).toInt * (lN n).toInt := by
  rw [lT (show n < 2 ^ 63 by omega)]
  have sq : ∀ s : Int, 4 * s * (4 * s) = 16 * (s * s) := fun s => by rw [Int.mul_assoc, Int.mul_left_comm s 4 s]; omega
  rcases (show n % 4 = 1 ∨ n % 4 = 3 by omega) with e | e
  · have e1 : (n : Int) = 4 * ((n / 4 : Nat) : Int) + 1 := by omega
    rw [e1]
    generalize ((n / 4 : Nat) : Int) = s
    refine ⟨-(2 * (s * s)) - s, ?_⟩
    rw [Int.mul_add, Int.add_mul, Int.mul_one, Int.one_mul, sq s]
    omega
  · have e1 : (n : Int) = 4 * ((n / 4 : Nat) : Int) + 3 := by omega
    rw [e1]
    generalize ((n / 4 : Nat) : Int) = s
    refine ⟨-(2 * (s * s)) - 3 * s - 1, ?_⟩
    rw [Int.mul_add, Int.add_mul, sq s]
    omega
theorem nw_end {n : Nat} {x : Int64} (hn : n < 4294967296) (h : (2 ^ 32 : Int) ∣ 1 - (lN n).toInt * x.toInt) : ∃ iv : Nat, (-x &&& 4294967295 : Int64) = lN iv ∧ iv < 4294967296 ∧ (iv * n + 1) % 4294967296 = 0 := by
  have hY : (-x).toBitVec.toNat < 2 ^ 64 := (-x).toBitVec.isLt
  have e0 : -x = lN (-x).toBitVec.toNat := Int64.toBitVec_inj.mp (by
    apply BitVec.eq_of_toNat_eq
    show _ = (BitVec.ofNat 64 (-x).toBitVec.toNat).toNat
    rw [BitVec.toNat_ofNat, Nat.mod_eq_of_lt hY])
  have e1 : ∃ s : Int, (((-x).toBitVec.toNat : Nat) : Int) = -x.toInt + 18446744073709551616 * s := by
    obtain ⟨t, ht⟩ := bm64 (-x.toInt)
    rw [← Int64.toInt_neg] at ht
    have h2 : (-x).toInt = (-x).toBitVec.toInt := rfl
    rw [h2, BitVec.toInt_eq_toNat_cond] at ht
    split at ht
    · exact ⟨t, ht⟩
    · exact ⟨t + 1, by omega⟩
  obtain ⟨s, hs⟩ := e1
  generalize hYe : (-x).toBitVec.toNat = Y at e0 hs hY
  refine ⟨Y % 4294967296, by rw [e0]; exact l_low (by omega), Nat.mod_lt _ (by decide), ?_⟩
  rw [lT (show n < 2 ^ 63 by omega)] at h
  obtain ⟨c, hc⟩ := h
  have hq : ((Y % 4294967296 : Nat) : Int) = -x.toInt + 4294967296 * (4294967296 * s - ((Y / 4294967296 : Nat) : Int)) := by omega
  have hd : (4294967296 : Int) ∣ ((Y % 4294967296 * n + 1 : Nat) : Int) := by
    refine ⟨c + (4294967296 * s - ((Y / 4294967296 : Nat) : Int)) * n, ?_⟩
    rw [Int.natCast_add, Int.natCast_mul, hq, Int.add_mul, Int.mul_assoc, Int.mul_add, show (4294967296 : Int) * c = 1 - (n : Int) * x.toInt from by rw [hc]; rfl, Int.neg_mul, Int.mul_comm x.toInt]
    show _ + 1 = _
    omega
  omega
def nwk (n : Nat) : Nat := min 32 (3 * 2 ^ n)
theorem nwk_le (n : Nat) : nwk (n + 1) ≤ 2 * nwk n ∧ nwk (n + 1) ≤ 64 := by
  unfold nwk
  rw [Nat.pow_succ]
  omega
/-! A power of two, doubled. -/
theorem l_sh1 {r : Nat} (hr : r < 32) : (1 <<< ((nI r).toInt64 &&& 63) : Int64) = lN (2 ^ r) := by
  have key : ∀ q : Fin 32, (1 <<< ((nI q.val).toInt64 &&& 63) : Int64) = lN (2 ^ q.val) := by decide
  exact key ⟨r, hr⟩
theorem l_dbl {a c : Nat} (ha : a < 4294967296) (hc : c ≤ 1) : (lN a <<< ((1 : Int32).toInt64 &&& 63) ||| lN c : Int64) = lN (2 * a + c) := by
  apply Int64.toBitVec_inj.mp
  apply BitVec.eq_of_toNat_eq
  have e1 : (lN a <<< ((1 : Int32).toInt64 &&& 63)).toBitVec = (BitVec.ofNat 64 a) <<< 1 := rfl
  show ((lN a <<< ((1 : Int32).toInt64 &&& 63)).toBitVec ||| (BitVec.ofNat 64 c)).toNat = (BitVec.ofNat 64 (2 * a + c)).toNat
  rw [e1, BitVec.toNat_or, BitVec.toNat_shiftLeft, BitVec.toNat_ofNat, BitVec.toNat_ofNat, BitVec.toNat_ofNat, Nat.mod_eq_of_lt (a := a) (by omega), Nat.mod_eq_of_lt (a := c) (by omega), Nat.shiftLeft_eq, Nat.mod_eq_of_lt (a := a * 2 ^ 1) (by omega), Nat.mod_eq_of_lt (by omega), ← Nat.shiftLeft_eq, ← Nat.shiftLeft_add_eq_or_of_lt (by omega : c < 2 ^ 1), Nat.shiftLeft_eq]
  omega
theorem vB_one {W : Nat} {d : Nat → Nat} {m j v : Nat} : ∀ L, j < L → L ≤ m → vB W (updN (zG d m) j v) L = v * W ^ j
  | 0, h, _ => absurd h (Nat.not_lt_zero _)
  | L + 1, h, hm => by
    by_cases e : j = L
    · rw [e, vB_up, vB_z L (by omega), Nat.zero_add]
    · rw [vB_s, vB_one L (by omega) (by omega), updN_ne (by omega), show zG d m L = 0 from if_pos (by omega), Nat.zero_mul, Nat.add_zero]
theorem vB_pow2 {d : Nat → Nat} {L k : Nat} (hk : k < 32 * L) (hL : L ≤ 64) : vB 4294967296 (updN (zG d 64) (k / 32) (2 ^ (k % 32))) L = 2 ^ k := by
  rw [vB_one L (by omega) hL, show (4294967296 : Nat) = 2 ^ 32 from by decide, ← Nat.pow_mul, ← Nat.pow_add]
  exact congrArg (2 ^ ·) (by omega)
/-- a limb more of a row that is doubled -/
theorem db_next {L k c g : Nat} {s s' a : Nat → Nat} (ha : ∀ j, a j < 4294967296) (h : k ≤ L ∧ (∀ j, s' j < 4294967296) ∧ c ≤ 1 ∧ vB 4294967296 s' k + c * 4294967296 ^ k = 2 * vB 4294967296 a k) (hk : k < L) (hg : g = 2 * a k + c) : k + 1 ≤ L ∧ (∀ j, updN s' k (g % 4294967296) j < 4294967296) ∧ g / 4294967296 ≤ 1 ∧ vB 4294967296 (updN s' k (g % 4294967296)) (k + 1) + g / 4294967296 * 4294967296 ^ (k + 1) = 2 * vB 4294967296 a (k + 1) := by
  obtain ⟨h1, h2, h3, h4⟩ := h
  have h9 := ha k
  refine ⟨hk, fun j => ?_, by omega, ?_⟩
  · by_cases e : j = k
    · rw [e, updN_at]; exact Nat.mod_lt _ (by decide)
    · rw [updN_ne e]; exact h2 j
  · rw [vB_up, vB_s, Nat.pow_succ, Nat.mul_comm (4294967296 ^ k) 4294967296, ← Nat.mul_assoc]
    have e1 : g % 4294967296 + g / 4294967296 * 4294967296 = 2 * a k + c := by omega
    have e2 := congrArg (fun q => q * 4294967296 ^ k) e1
    rw [Nat.add_mul, Nat.add_mul, Nat.mul_assoc 2 (a k)] at e2
    omega
theorem pr_T {L k c : Nat} {s a : Nat → Nat} (h : k ≤ L ∧ (∀ j, s j < 4294967296) ∧ c ≤ 1 ∧ vB 4294967296 s k + c * 4294967296 ^ k = 2 * vB 4294967296 a k) (hk : L ≤ k) : vB 4294967296 (updN s L c) (L + 1) = 2 * vB 4294967296 a L := by
  obtain rfl : k = L := Nat.le_antisymm h.1 hk
  rw [vB_up]
  exact h.2.2.2
theorem up_lt {s : Nat → Nat} {k v : Nat} (hs : ∀ j, s j < 4294967296) (hv : v < 4294967296) : ∀ j, updN s k v j < 4294967296 := fun j => by
  by_cases e : j = k
  · rw [e, updN_at]; exact hv
  · rw [updN_ne e]; exact hs j
theorem pr_mod {N r T A n : Nat} (hT : T = 2 * A) (hA : A % N = 2 ^ n % N) (hr : T = r ∨ T = r + N) : r % N = 2 ^ (n + 1) % N := by
  have e1 : r % N = T % N := by
    rcases hr with e | e
    · rw [e]
    · rw [e, Nat.add_mod_right]
  rw [e1, hT, Nat.mul_mod, hA, ← Nat.mul_mod, Nat.pow_succ, Nat.mul_comm]
theorem pr_end {A N k n : Nat} (h : A = 2 ^ k % N) (e : k = n) : A = 2 ^ n % N := by rw [← e]; exact h
theorem p2_lt {r : Nat} (h : r < 32) : 2 ^ r < 4294967296 := Nat.lt_of_lt_of_le (Nat.pow_lt_pow_right (by decide) h) (Nat.le_of_eq (by decide : 2 ^ 32 = 4294967296))
theorem zG_lt {d : Nat → Nat} {k : Nat} (h : ∀ j, d j < 4294967296) : ∀ j, zG d k j < 4294967296 := fun j => by
  unfold zG
  split
  · decide
  · exact h j
