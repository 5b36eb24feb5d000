/-! Limbs of 16 bits: the reference's product and quotient. -/
theorem tI_up (d : Nat → Nat) (k v : Nat) : upd (tI d) k (nI v) = tI (updN d k v) := by
  funext j
  show (if j = k then nI v else nI (d j)) = nI (if j = k then v else d j)
  split <;> rfl
theorem upN_lt {W : Nat} {d : Nat → Nat} {k v : Nat} (h : ∀ j, d j < W) (hv : v < W) : ∀ j, updN d k v j < W := fun j => by
  by_cases e : j = k
  · rw [e, updN_at]; exact hv
  · rw [updN_ne e]; exact h j
def tmN (f : Nat → Nat) : Nat → Nat
  | 0 => 0
  | n + 1 => if f n = 0 then tmN f n else n + 1
theorem tmN_z {f : Nat → Nat} {n : Nat} (h : f n = 0) : tmN f (n + 1) = tmN f n := if_pos h
theorem tmN_n {f : Nat → Nat} {n : Nat} (h : f n ≠ 0) : tmN f (n + 1) = n + 1 := if_neg h
theorem tmN_le (f : Nat → Nat) : ∀ n, tmN f n ≤ n
  | 0 => Nat.le_refl _
  | n + 1 => by
    by_cases h : f n = 0
    · rw [tmN_z h]; exact Nat.le_succ_of_le (tmN_le f n)
    · rw [tmN_n h]; exact Nat.le_refl _
theorem tmN_v (W : Nat) (f : Nat → Nat) : ∀ n, vB W f (tmN f n) = vB W f n
  | 0 => rfl
  | n + 1 => by
    by_cases h : f n = 0
    · rw [tmN_z h, tmN_v W f n, vB_s, h, Nat.zero_mul, Nat.add_zero]
    · rw [tmN_n h]
theorem tmN_top (f : Nat → Nat) : ∀ n, tmN f n = 0 ∨ f (tmN f n - 1) ≠ 0
  | 0 => Or.inl rfl
  | n + 1 => by
    by_cases h : f n = 0
    · rw [tmN_z h]; exact tmN_top f n
    · rw [tmN_n h]; exact Or.inr h
theorem tmN_step {f : Nat → Nat} {n k : Nat} (hk : k ≤ n) (h : tmN f n = tmN f k) (hz : k = 0 ∨ f (k - 1) ≠ 0) : tmN f n = k := by
  rw [h]
  cases k with
  | zero => rfl
  | succ k =>
    rcases hz with q | q
    · omega
    · exact tmN_n q
theorem tmN_dn {f : Nat → Nat} {n k : Nat} (hk : 1 ≤ k) (h : tmN f n = tmN f k) (hz : f (k - 1) = 0) : tmN f n = tmN f (k - 1) := by
  obtain ⟨j, rfl⟩ : ∃ j, k = j + 1 := ⟨k - 1, by omega⟩
  rw [h]
  exact tmN_z hz
/-- numbers by their length -/
theorem vB_top1 {W n : Nat} {d : Nat → Nat} (h : n = 0 ∨ d (n - 1) ≠ 0) (h0 : 0 < n) : W ^ (n - 1) ≤ vB W d n := by
  obtain ⟨k, rfl⟩ : ∃ k, n = k + 1 := ⟨n - 1, by omega⟩
  have h1 : d k ≠ 0 := by
    rcases h with h | h
    · omega
    · exact h
  have h2 : 1 * W ^ k ≤ d k * W ^ k := Nat.mul_le_mul_right _ (by omega)
  show W ^ k ≤ vB W d k + d k * W ^ k
  omega
theorem vB_shorter {W n m : Nat} {a b : Nat → Nat} (hW : 0 < W) (ha : ∀ j, a j < W) (hb : m = 0 ∨ b (m - 1) ≠ 0) (h : n < m) : vB W a n < vB W b m := by
  have h1 := vB_lt (B := W) n (fun j _ => ha j)
  have h2 := vB_top1 (W := W) hb (by omega)
  have h3 : W ^ n ≤ W ^ (m - 1) := Nat.pow_le_pow_right hW (by omega)
  omega
theorem vB_split (W : Nat) (f : Nat → Nat) (j : Nat) : ∀ k, vB W f (j + k) = vB W f j + W ^ j * vB W (fun i => f (j + i)) k
  | 0 => by rw [show vB W (fun i => f (j + i)) 0 = 0 from rfl, Nat.mul_zero]; rfl
  | k + 1 => by
    show vB W f (j + k) + f (j + k) * W ^ (j + k) = vB W f j + W ^ j * (vB W (fun i => f (j + i)) k + f (j + k) * W ^ k)
    rw [vB_split W f j k, Nat.pow_add, Nat.mul_add, Nat.mul_left_comm (f (j + k)), Nat.add_assoc]
/-- a limb more of the product -/
theorem tm_step {W i j c g x : Nat} {s s' b : Nat → Nat} (h : vB W s' (i + j) + c * W ^ (i + j) = vB W s (i + j) + x * W ^ i * vB W b j) (e : s' (i + j) = s (i + j)) (hg : g = c + (x * b j + s' (i + j))) : vB W (updN s' (i + j) (g % W)) (i + j + 1) + g / W * W ^ (i + j + 1) = vB W s (i + j + 1) + x * W ^ i * vB W b (j + 1) := by
  have h1 : g % W + g / W * W = g := Nat.mod_add_div' g W
  have h2 := congrArg (fun q => q * W ^ (i + j)) (h1.trans hg)
  rw [Nat.add_mul, Nat.add_mul c, Nat.add_mul (x * b j), e] at h2
  rw [vB_up, vB_s W s (i + j), vB_s W b j, Nat.mul_add (x * W ^ i), Nat.pow_succ W (i + j)]
  rw [show g / W * (W ^ (i + j) * W) = g / W * W * W ^ (i + j) by rw [Nat.mul_comm (W ^ (i + j)) W, Nat.mul_assoc], show x * W ^ i * (b j * W ^ j) = x * b j * W ^ (i + j) by rw [Nat.mul_mul_mul_comm, Nat.pow_add]]
  omega
theorem tm_next {W i m c : Nat} {s s' a b : Nat → Nat} (h0 : vB W s (i + m) = vB W a i * vB W b m) (h : vB W s' (i + m) + c * W ^ (i + m) = vB W s (i + m) + a i * W ^ i * vB W b m) : vB W (updN s' (i + m) c) (i + 1 + m) = vB W a (i + 1) * vB W b m := by
  rw [show i + 1 + m = i + m + 1 by omega, vB_up, vB_s, Nat.add_mul, ← h0]
  exact h
theorem w16_c {c x y s : Nat} (hc : c < 65536) (hx : x < 65536) (hy : y < 65536) (hs : s < 65536) : c + (x * y + s) < 4294967296 := by
  have h := Nat.mul_le_mul (show x ≤ 65535 by omega) (show y ≤ 65535 by omega)
  omega
/-- a row moved to the left by less than a limb -/
def shC (W : Nat) (b : Nat → Nat) (Y : Nat) : Nat → Nat
  | 0 => 0
  | k + 1 => b k * Y / W
def shL (W : Nat) (b : Nat → Nat) (Y k : Nat) : Nat := b k * Y % W + shC W b Y k
theorem shL_v {W Y : Nat} (b : Nat → Nat) : ∀ n, vB W (shL W b Y) n + shC W b Y n * W ^ n = vB W b n * Y
  | 0 => by
    rw [show shC W b Y 0 = 0 from rfl, Nat.zero_mul]
    exact (Nat.zero_mul Y).symm
  | n + 1 => by
    have ih := shL_v (W := W) (Y := Y) b n
    have h1 : b n * Y % W + b n * Y / W * W = b n * Y := Nat.mod_add_div' _ W
    have h2 := congrArg (fun q => q * W ^ n) h1
    rw [Nat.add_mul] at h2
    rw [vB_s W (shL W b Y) n, vB_s W b n, show shC W b Y (n + 1) = b n * Y / W from rfl, Nat.pow_succ W n, Nat.add_mul (vB W b n), ← ih, show shL W b Y n = b n * Y % W + shC W b Y n from rfl, Nat.add_mul (b n * Y % W), show b n * Y / W * (W ^ n * W) = b n * Y / W * W * W ^ n by rw [Nat.mul_comm (W ^ n) W, Nat.mul_assoc], Nat.mul_right_comm (b n) (W ^ n) Y]
    omega
theorem shC_lt {W Y : Nat} (hW : 0 < W) (hY : 0 < Y) {b : Nat → Nat} (hb : ∀ j, b j < W) (k : Nat) : shC W b Y k < Y := by
  cases k with
  | zero => exact hY
  | succ k =>
    show b k * Y / W < Y
    rw [Nat.div_lt_iff_lt_mul hW, Nat.mul_comm Y W]
    exact Nat.mul_lt_mul_of_pos_right (hb k) hY
theorem shL_lt {W Y Z : Nat} (hW : W = Z * Y) (hZ : 0 < Z) (hY : 0 < Y) {b : Nat → Nat} (hb : ∀ j, b j < W) (k : Nat) : shL W b Y k < W := by
  have h3 := shC_lt (W := W) (Y := Y) (by rw [hW]; exact Nat.mul_pos hZ hY) hY hb k
  have h1 : b k * Y % W + Y ≤ W := by
    have h0 := Nat.mod_lt (b k) hZ
    have h2 : (b k % Z + 1) * Y ≤ Z * Y := Nat.mul_le_mul_right _ h0
    rw [Nat.add_mul, Nat.one_mul] at h2
    rw [hW, Nat.mul_mod_mul_right]
    exact h2
  show b k * Y % W + shC W b Y k < W
  omega
/-- and back to the right -/
def srL (Y Z : Nat) (f : Nat → Nat) (k : Nat) : Nat := f k / Y + f (k + 1) % Y * Z
theorem srL_v {Y Z : Nat} (f : Nat → Nat) : ∀ m, vB (Z * Y) (srL Y Z f) m * Y + f 0 % Y = vB (Z * Y) f m + f m % Y * (Z * Y) ^ m
  | 0 => by
    show 0 * Y + f 0 % Y = 0 + f 0 % Y * (Z * Y) ^ 0
    rw [Nat.pow_zero, Nat.zero_mul, Nat.mul_one]
  | m + 1 => by
    have ih := srL_v (Y := Y) (Z := Z) f m
    generalize hW : Z * Y = W at ih ⊢
    have h1 : f m % Y + f m / Y * Y = f m := Nat.mod_add_div' _ Y
    have h2 := congrArg (fun q => q * W ^ m) h1
    rw [Nat.add_mul] at h2
    rw [vB_s, vB_s, Nat.add_mul, show srL Y Z f m = f m / Y + f (m + 1) % Y * Z from rfl, Nat.add_mul (f m / Y), Nat.add_mul (f m / Y * W ^ m), Nat.mul_right_comm (f m / Y), show f (m + 1) % Y * Z * W ^ m * Y = f (m + 1) % Y * W ^ (m + 1) by rw [Nat.pow_succ, ← hW, Nat.mul_right_comm _ _ Y, Nat.mul_assoc (f (m + 1) % Y) Z Y, Nat.mul_assoc, Nat.mul_comm (Z * Y)]]
    omega
theorem srL_lt {Y Z : Nat} (hY : 0 < Y) {f : Nat → Nat} (hf : ∀ j, f j < Z * Y) (k : Nat) : srL Y Z f k < Z * Y := by
  have h1 : f k / Y < Z := by rw [Nat.div_lt_iff_lt_mul hY]; exact hf k
  have h2 : (f (k + 1) % Y + 1) * Z ≤ Y * Z := Nat.mul_le_mul_right _ (Nat.mod_lt _ hY)
  rw [Nat.add_mul, Nat.one_mul, Nat.mul_comm Y Z] at h2
  show f k / Y + f (k + 1) % Y * Z < Z * Y
  omega
theorem vB_mod0 {Y Z : Nat} (f : Nat → Nat) : ∀ m, vB (Z * Y) f (m + 1) % Y = f 0 % Y
  | 0 => by
    show (0 + f 0 * (Z * Y) ^ 0) % Y = f 0 % Y
    rw [Nat.pow_zero, Nat.mul_one, Nat.zero_add]
  | m + 1 => by
    rw [vB_s, Nat.pow_succ, ← Nat.mul_assoc _ Z Y, ← Nat.mul_assoc, Nat.add_mul_mod_self_right]
    exact vB_mod0 f m
theorem srL_out {Y Z m x : Nat} {f : Nat → Nat} (hY : 0 < Y) (hm : 1 ≤ m) (h0 : f m = 0) (hx : vB (Z * Y) f m = x * Y) : vB (Z * Y) (srL Y Z f) m = x := by
  obtain ⟨k, rfl⟩ : ∃ k, m = k + 1 := ⟨m - 1, by omega⟩
  have h1 := vB_mod0 (Y := Y) (Z := Z) f k
  have h2 := srL_v (Y := Y) (Z := Z) f (k + 1)
  rw [hx, Nat.mul_mod_left] at h1
  rw [h0, Nat.zero_mod, Nat.zero_mul, Nat.add_zero, ← h1, Nat.add_zero, hx] at h2
  exact Nat.eq_of_mul_eq_mul_right hY h2
/-- the quotient's digit: T = T3 P + tl, R = V P + vl; the first guess, a guess that is too large, the last guess -/
theorem kd_init {W T R P T3 tl V vl t u0 v1 v2 : Nat} (hT : T = T3 * P + tl) (hR : R = V * P + vl) (htl : tl < P) (hV : V = v1 * W + v2) (hT3 : T3 = t * W + u0) (hu0 : u0 < W) (hv1 : 0 < v1) : T < (t / v1 + 1) * R := by
  have h1 : t < (t / v1 + 1) * v1 := by
    have := Nat.mod_add_div' t v1
    have h2 := Nat.mod_lt t hv1
    rw [Nat.add_mul, Nat.one_mul]
    omega
  have h3 : (t + 1) * W ≤ (t / v1 + 1) * v1 * W := Nat.mul_le_mul_right _ h1
  rw [Nat.add_mul, Nat.one_mul, Nat.mul_assoc] at h3
  have h4 : (t / v1 + 1) * (v1 * W) ≤ (t / v1 + 1) * V := Nat.mul_le_mul_left _ (by omega)
  have h5 : (T3 + 1) * P ≤ (t / v1 + 1) * V * P := Nat.mul_le_mul_right _ (by omega)
  rw [Nat.add_mul, Nat.one_mul, Nat.mul_assoc] at h5
  have h6 : (t / v1 + 1) * (V * P) ≤ (t / v1 + 1) * R := Nat.mul_le_mul_left _ (by omega)
  omega
theorem kd_top {W T R P T3 tl V vl t u0 v1 v2 : Nat} (hT : T = T3 * P + tl) (hR : R = V * P + vl) (hvl : vl < P) (hV : V = v1 * W + v2) (hT3 : T3 = t * W + u0) (hv2 : v2 < W) (hW : 0 < W) (hP : 0 < P) (hTR : T < W * R) (hn : W ≤ 2 * v1) (hv1 : 0 < v1) : t / v1 ≤ W + 1 := by
  have h1 : V + 1 ≤ (v1 + 1) * W := by rw [Nat.add_mul, Nat.one_mul]; omega
  have h2 : (V + 1) * P ≤ (v1 + 1) * W * P := Nat.mul_le_mul_right _ h1
  rw [Nat.add_mul, Nat.one_mul] at h2
  have h3 : W * R ≤ W * ((v1 + 1) * W * P) := Nat.mul_le_mul_left _ (by omega)
  have h4 : t * W * P ≤ T3 * P := Nat.mul_le_mul_right _ (by omega)
  have h5 : t * (W * P) < (W * (v1 + 1)) * (W * P) := by
    rw [← Nat.mul_assoc t, Nat.mul_assoc W (v1 + 1), ← Nat.mul_assoc (v1 + 1) W P]
    omega
  have h6 : t < W * (v1 + 1) := Nat.lt_of_mul_lt_mul_right h5
  have h7 : t / v1 < W + 2 := by
    rw [Nat.div_lt_iff_lt_mul hv1, Nat.add_mul]
    rw [Nat.mul_add, Nat.mul_one] at h6
    omega
  omega
theorem kd_dec {W T R P T3 tl V vl g left t u0 v1 v2 : Nat} (hT : T = T3 * P + tl) (hR : R = V * P + vl) (htl : tl < P) (hV : V = v1 * W + v2) (hT3 : T3 = t * W + u0) (hTR : T < W * R) (hg : g * v1 + left = t) (hc : W ≤ g ∨ left * W + u0 < g * v2) : T < g * R := by
  rcases hc with h | h
  · exact Nat.lt_of_lt_of_le hTR (Nat.mul_le_mul_right _ h)
  · have h1 : T3 + 1 ≤ g * V := by
      rw [hV, Nat.mul_add, ← Nat.mul_assoc, hT3, ← hg, Nat.add_mul]
      omega
    have h5 : (T3 + 1) * P ≤ g * V * P := Nat.mul_le_mul_right _ h1
    rw [Nat.add_mul, Nat.one_mul, Nat.mul_assoc] at h5
    have h6 : g * (V * P) ≤ g * R := Nat.mul_le_mul_left _ (by omega)
    omega
theorem kd_end {W T R P T3 tl V vl g left t u0 v1 v2 : Nat} (hT : T = T3 * P + tl) (hR : R = V * P + vl) (hvl : vl < P) (hV : V = v1 * W + v2) (hT3 : T3 = t * W + u0) (hv1 : 0 < v1) (hv2 : v2 < W) (hg : g * v1 + left = t) (hgW : g ≤ W) (hc : g * v2 ≤ left * W + u0 ∨ W ≤ left) : g * R ≤ T + R := by
  have h0 : g * v2 ≤ left * W + u0 := by
    rcases hc with h | h
    · exact h
    · have h1 : g * v2 ≤ W * W := Nat.mul_le_mul hgW (by omega)
      have h2 : W * W ≤ left * W := Nat.mul_le_mul_right _ h
      omega
  have h1 : g * V ≤ T3 := by
    rw [hV, Nat.mul_add, ← Nat.mul_assoc, hT3, ← hg, Nat.add_mul]
    omega
  have h2 : g * V * P ≤ T3 * P := Nat.mul_le_mul_right _ h1
  have h3 : g * vl ≤ W * P := Nat.mul_le_mul hgW (by omega)
  have h4 : 1 * W ≤ v1 * W := Nat.mul_le_mul_right _ hv1
  have h5 : W * P ≤ V * P := Nat.mul_le_mul_right _ (by omega)
  rw [hR, Nat.mul_add, ← Nat.mul_assoc]
  omega
/-- one limb of the difference, and of the sum -/
theorem ks_step {W k g b b' lo : Nat} {s s' r : Nat → Nat} {j : Nat} (h : vB W (fun i => s' (j + i)) k + g * vB W r k = vB W (fun i => s (j + i)) k + b * W ^ k) (he : lo + g * r k + b = s (j + k) + b' * W) : vB W (fun i => updN s' (j + k) lo (j + i)) (k + 1) + g * vB W r (k + 1) = vB W (fun i => s (j + i)) (k + 1) + b' * W ^ (k + 1) := by
  have h2 := congrArg (fun q => q * W ^ k) he
  rw [Nat.add_mul, Nat.add_mul, Nat.add_mul] at h2
  rw [vB_s W (fun i => updN s' (j + k) lo (j + i)) k, vB_s W r k, vB_s W (fun i => s (j + i)) k, vB_congr (d' := fun i => s' (j + i)) k (fun i hi => updN_ne (by omega)), Nat.mul_add, Nat.pow_succ, show b' * (W ^ k * W) = b' * W * W ^ k by rw [Nat.mul_comm (W ^ k) W, Nat.mul_assoc], ← Nat.mul_assoc g]
  show _ + updN s' (j + k) lo (j + k) * W ^ k + _ = _ + s (j + k) * W ^ k + _
  rw [updN_at]
  omega
theorem ka_step {W k d d' lo : Nat} {s s' r : Nat → Nat} {j : Nat} (h : vB W (fun i => s' (j + i)) k + d * W ^ k = vB W (fun i => s (j + i)) k + vB W r k) (he : lo + d' * W = d + (s (j + k) + r k)) : vB W (fun i => updN s' (j + k) lo (j + i)) (k + 1) + d' * W ^ (k + 1) = vB W (fun i => s (j + i)) (k + 1) + vB W r (k + 1) := by
  have h2 := congrArg (fun q => q * W ^ k) he
  rw [Nat.add_mul, Nat.add_mul d, Nat.add_mul (s (j + k))] at h2
  rw [vB_s W (fun i => updN s' (j + k) lo (j + i)) k, vB_s W r k, vB_s W (fun i => s (j + i)) k, vB_congr (d' := fun i => s' (j + i)) k (fun i hi => updN_ne (by omega)), Nat.pow_succ, show d' * (W ^ k * W) = d' * W * W ^ k by rw [Nat.mul_comm (W ^ k) W, Nat.mul_assoc]]
  show _ + updN s' (j + k) lo (j + k) * W ^ k + _ = _ + s (j + k) * W ^ k + _
  rw [updN_at]
  omega
/-- the digit was right -/
theorem ke_ok {T R S g b u2 Q S' : Nat} (hT : T = S + u2 * Q) (h : S' + g * R = S + b * Q) (hlt : T < (g + 1) * R) (hRQ : R ≤ Q) (hb : b ≤ u2) : u2 = b ∧ T = S' + g * R := by
  rw [Nat.add_mul, Nat.one_mul] at hlt
  have e : u2 = b := by
    by_cases q : u2 = b
    · exact q
    · have h1 : (b + 1) * Q ≤ u2 * Q := Nat.mul_le_mul_right _ (by omega)
      rw [Nat.add_mul, Nat.one_mul] at h1
      omega
  rw [e] at hT
  exact ⟨e, by omega⟩
/-- it was one too large -/
theorem ke_over {T R S g b u2 Q S' : Nat} (hT : T = S + u2 * Q) (h : S' + g * R = S + b * Q) (hge : g * R ≤ T + R) (hRQ : R ≤ Q) (hS' : S' < Q) (hb : u2 < b) : b = u2 + 1 ∧ T + Q = S' + g * R ∧ 1 ≤ g := by
  have e : b = u2 + 1 := by
    by_cases q : b = u2 + 1
    · exact q
    · have h1 : (u2 + 2) * Q ≤ b * Q := Nat.mul_le_mul_right _ (by omega)
      rw [Nat.add_mul] at h1
      omega
  rw [e, Nat.add_mul, Nat.one_mul] at h
  refine ⟨e, by omega, ?_⟩
  by_cases q : g = 0
  · rw [q, Nat.zero_mul] at h
    omega
  · omega
theorem ke_back {T R g Q S' S2 d : Nat} (h : T + Q = S' + g * R) (h2 : S2 + d * Q = S' + R) (hge : g * R ≤ T + R) (hS2 : S2 < Q) (hS' : S' < Q) (hRQ : R ≤ Q) (hd : d ≤ 1) (hg : 1 ≤ g) : d = 1 ∧ T = S2 + (g - 1) * R := by
  obtain ⟨k, rfl⟩ : ∃ k, g = k + 1 := ⟨g - 1, by omega⟩
  rw [show k + 1 - 1 = k by omega]
  rw [Nat.add_mul, Nat.one_mul] at h hge
  have e : d = 1 := by
    by_cases q : d = 1
    · exact q
    · have q0 : d = 0 := by omega
      rw [q0, Nat.zero_mul] at h2
      omega
  rw [e, Nat.one_mul] at h2
  exact ⟨e, by omega⟩
/-- the row behind one digit -/
theorem kr_next {W j m q R T A Q : Nat} {f f' : Nat → Nat} (hT : T = vB W (fun i => f (j + i)) (m + 1)) (hf : ∀ i, i < j → f' i = f i) (hd : T = vB W (fun i => f' (j + i)) m + q * R) (hI : vB W f (j + 1 + m) + Q * R = A) : vB W f' (j + m) + (Q + W ^ j * q) * R = A := by
  rw [← hI, vB_split W f' j m, show j + 1 + m = j + (m + 1) by omega, vB_split W f j (m + 1), ← hT, hd, vB_congr j hf, Nat.mul_add, Nat.add_mul, ← Nat.mul_assoc]
  omega
theorem kr_lt {W m R j : Nat} {f : Nat → Nat} (hf : ∀ i, f i < W) (h : vB W (fun i => f (j + 1 + i)) m < R) : vB W (fun i => f (j + i)) (m + 1) < W * R := by
  have e : vB W (fun i => f (j + i)) (m + 1) = f j + W * vB W (fun i => f (j + 1 + i)) m := by
    rw [show m + 1 = 1 + m by omega, vB_split W (fun i => f (j + i)) 1 m, Nat.pow_one]
    have e1 : vB W (fun i => f (j + i)) 1 = f j := by
      show 0 + f (j + 0) * W ^ 0 = f j
      rw [Nat.pow_zero, Nat.mul_one, Nat.zero_add, Nat.add_zero]
    rw [e1]
    refine congrArg (fun q => f j + W * q) (vB_congr m (fun i _ => ?_))
    show f (j + (1 + i)) = f (j + 1 + i)
    rw [Nat.add_assoc]
  have h2 : W * (vB W (fun i => f (j + 1 + i)) m + 1) ≤ W * R := Nat.mul_le_mul_left _ h
  rw [Nat.mul_add, Nat.mul_one] at h2
  have h3 := hf j
  omega
theorem kr_mod {S Q R A Y B x : Nat} (h : S + Q * R = A * Y) (hS : S < R) (hR : R = B * Y) (hx : x = A % B) : S = x * Y := by
  have h1 : A * Y % R = S := by rw [← h, Nat.add_mul_mod_self_right, Nat.mod_eq_of_lt hS]
  rw [← h1, hR, Nat.mul_mod_mul_right, hx]
/-- the top limbs of a row -/
theorem vB_3 {W j k : Nat} {f : Nat → Nat} : vB W (fun i => f (j + i)) (k + 3) = ((f (j + (k + 2)) * W + f (j + (k + 1))) * W + f (j + k)) * W ^ k + vB W (fun i => f (j + i)) k := by
  show vB W (fun i => f (j + i)) k + f (j + k) * W ^ k + f (j + (k + 1)) * W ^ (k + 1) + f (j + (k + 2)) * W ^ (k + 2) = _
  rw [Nat.pow_succ W (k + 1), Nat.pow_succ W k, Nat.add_mul, Nat.add_mul, Nat.add_mul, show f (j + (k + 2)) * W * W * W ^ k = f (j + (k + 2)) * (W ^ k * W * W) by rw [Nat.mul_assoc, Nat.mul_assoc, ← Nat.mul_assoc W W, Nat.mul_comm (W * W), ← Nat.mul_assoc (W ^ k)], show f (j + (k + 1)) * W * W ^ k = f (j + (k + 1)) * (W ^ k * W) by rw [Nat.mul_assoc, Nat.mul_comm W]]
  omega
theorem vB_2 {W k : Nat} {r : Nat → Nat} : vB W r (k + 2) = (r (k + 1) * W + r k) * W ^ k + vB W r k := by
  show vB W r k + r k * W ^ k + r (k + 1) * W ^ (k + 1) = _
  rw [Nat.pow_succ W k, Nat.add_mul, show r (k + 1) * W * W ^ k = r (k + 1) * (W ^ k * W) by rw [Nat.mul_assoc, Nat.mul_comm W]]
  omega
/-! Shifts and masks of 16-bit limbs in ints and longs. -/
theorem sm32 : ∀ y, y < 32 → BitVec.smod (nI y &&& 31).toBitVec 32 = BitVec.ofNat 32 y := by decide
theorem shl_t {a y : Nat} (hy : y < 32) (ha : a * 2 ^ y < 2 ^ 32) : (nI a <<< (nI y &&& 31)).toBitVec.toNat = a * 2 ^ y := by
  have ha0 : a < 2 ^ 32 := Nat.lt_of_le_of_lt (Nat.le_mul_of_pos_right a (Nat.two_pow_pos y)) ha
  show ((nI a).toBitVec <<< (BitVec.smod (nI y &&& 31).toBitVec 32)).toNat = a * 2 ^ y
  have e0 : BitVec.smod (nI y &&& 31).toBitVec 32 = BitVec.ofNat 32 y := sm32 y (by omega)
  have e1 : (nI a).toBitVec = BitVec.ofNat 32 a := rfl
  rw [e0, e1, BitVec.shiftLeft_eq', BitVec.toNat_shiftLeft, BitVec.toNat_ofNat, BitVec.toNat_ofNat, Nat.mod_eq_of_lt (show y < 2 ^ 32 by omega), Nat.mod_eq_of_lt ha0, Nat.shiftLeft_eq, Nat.mod_eq_of_lt ha]
theorem shr_t {b y : Nat} (hy : y < 32) (hb : b < 2 ^ 31) : (nI b >>> (nI y &&& 31)).toBitVec.toNat = b / 2 ^ y := by
  rw [Int32.toBitVec_shiftRight]
  have e0 : BitVec.smod (nI y &&& 31).toBitVec 32 = BitVec.ofNat 32 y := sm32 y (by omega)
  have e1 : (nI b).toBitVec = BitVec.ofNat 32 b := rfl
  rw [e0, e1, BitVec.sshiftRight_eq', BitVec.toNat_ofNat, Nat.mod_eq_of_lt (show y < 2 ^ 32 by omega), BitVec.sshiftRight_eq_of_msb_false]
  · rw [BitVec.toNat_ushiftRight, BitVec.toNat_ofNat, Nat.mod_eq_of_lt (show b < 2 ^ 32 by omega), Nat.shiftRight_eq_div_pow]
  · simp [BitVec.msb_eq_decide]
    omega
theorem and16 {A : Int32} {a : Nat} (hA : A.toBitVec.toNat = a) : A &&& 65535 = nI (a % 65536) := by
  apply Int32.toBitVec_inj.mp
  apply BitVec.eq_of_toNat_eq
  show (A.toBitVec &&& (65535 : Int32).toBitVec).toNat = (BitVec.ofNat 32 (a % 65536)).toNat
  rw [BitVec.toNat_and, BitVec.toNat_ofNat, hA, show ((65535 : Int32).toBitVec).toNat = 2 ^ 16 - 1 from by decide, Nat.and_two_pow_sub_one_eq_mod, Nat.mod_eq_of_lt (a := a % 65536) (by omega)]
theorem or_t {A B : Int32} {a b : Nat} (hA : A.toBitVec.toNat = a) (hB : B.toBitVec.toNat = b) : (A ||| B).toBitVec.toNat = a ||| b := by
  show (A.toBitVec ||| B.toBitVec).toNat = a ||| b
  rw [BitVec.toNat_or, hA, hB]
theorem nI_t {a : Nat} (h : a < 2 ^ 32) : (nI a).toBitVec.toNat = a := by
  show (BitVec.ofNat 32 a).toNat = a
  rw [BitVec.toNat_ofNat, Nat.mod_eq_of_lt h]
theorem and16_n {a : Nat} (h : a < 2 ^ 32) : nI a &&& 65535 = nI (a % 65536) := and16 (nI_t h)
theorem shr16_n {a : Nat} (h : a < 2 ^ 31) : nI a >>> ((16 : Int32) &&& 31) = nI (a / 65536) := by
  apply Int32.toBitVec_inj.mp
  apply BitVec.eq_of_toNat_eq
  have e := shr_t (b := a) (y := 16) (by decide) h
  rw [nI_t (show a / 65536 < 2 ^ 32 by omega)]
  exact e
theorem mv_nat {a b y : Nat} (hy : y ≤ 15) (ha : a < 65536) (hb : b < 65536) : (a * 2 ^ y ||| b / 2 ^ (16 - y)) % 65536 = a * 2 ^ y % 65536 + b * 2 ^ y / 65536 := by
  have hlt : b / 2 ^ (16 - y) < 2 ^ y := by
    rw [Nat.div_lt_iff_lt_mul (Nat.two_pow_pos _), ← Nat.pow_add, show y + (16 - y) = 16 by omega]
    exact hb
  rw [Nat.mul_comm a, ← Nat.two_pow_add_eq_or_of_lt hlt a]
  rcases (show y = 0 ∨ y = 1 ∨ y = 2 ∨ y = 3 ∨ y = 4 ∨ y = 5 ∨ y = 6 ∨ y = 7 ∨ y = 8 ∨ y = 9 ∨ y = 10 ∨ y = 11 ∨ y = 12 ∨ y = 13 ∨ y = 14 ∨ y = 15 by omega) with rfl | rfl | rfl | rfl | rfl | rfl | rfl | rfl | rfl | rfl | rfl | rfl | rfl | rfl | rfl | rfl <;> simp only [Nat.reducePow, Nat.reduceSub] <;> omega
theorem mvL_s {a b y : Nat} (hy : y ≤ 15) (ha : a < 65536) (hb : b < 65536) : ((nI a <<< (nI y &&& 31)) ||| (nI b >>> (nI (16 - y) &&& 31))) &&& 65535 = nI (a * 2 ^ y % 65536 + b * 2 ^ y / 65536) := by
  have h0 : a * 2 ^ y < 2 ^ 32 := by
    have h1 : 2 ^ y ≤ 2 ^ 15 := Nat.pow_le_pow_right (by decide) hy
    have h2 := Nat.mul_le_mul (show a ≤ 65535 by omega) h1
    omega
  rw [and16 (or_t (shl_t (by omega) h0) (shr_t (by omega) (by omega))), mv_nat hy ha hb]
theorem mvL_0 {a y : Nat} (hy : y ≤ 15) (ha : a < 65536) : ((nI a <<< (nI y &&& 31)) ||| (0 : Int32)) &&& 65535 = nI (a * 2 ^ y % 65536 + 0) := by
  have h0 : a * 2 ^ y < 2 ^ 32 := by
    have h1 : 2 ^ y ≤ 2 ^ 15 := Nat.pow_le_pow_right (by decide) hy
    have h2 := Nat.mul_le_mul (show a ≤ 65535 by omega) h1
    omega
  rw [and16 (or_t (shl_t (by omega) h0) (show (0 : Int32).toBitVec.toNat = 0 from by decide)), Nat.or_zero, Nat.add_zero]
theorem mr_nat {a b y : Nat} (hy : y ≤ 15) (ha : a < 65536) (hb : b < 65536) : (a / 2 ^ y ||| b * 2 ^ (16 - y)) % 65536 = a / 2 ^ y + b % 2 ^ y * 2 ^ (16 - y) := by
  have hlt : a / 2 ^ y < 2 ^ (16 - y) := by
    rw [Nat.div_lt_iff_lt_mul (Nat.two_pow_pos _), ← Nat.pow_add, show 16 - y + y = 16 by omega]
    exact ha
  rw [Nat.or_comm, Nat.mul_comm b, ← Nat.two_pow_add_eq_or_of_lt hlt b]
  rcases (show y = 0 ∨ y = 1 ∨ y = 2 ∨ y = 3 ∨ y = 4 ∨ y = 5 ∨ y = 6 ∨ y = 7 ∨ y = 8 ∨ y = 9 ∨ y = 10 ∨ y = 11 ∨ y = 12 ∨ y = 13 ∨ y = 14 ∨ y = 15 by omega) with rfl | rfl | rfl | rfl | rfl | rfl | rfl | rfl | rfl | rfl | rfl | rfl | rfl | rfl | rfl | rfl <;> simp only [Nat.reducePow, Nat.reduceSub] <;> omega
theorem mvR_s {a b y : Nat} (hy : y ≤ 15) (ha : a < 65536) (hb : b < 65536) : ((nI a >>> (nI y &&& 31)) ||| (nI b <<< (nI (16 - y) &&& 31))) &&& 65535 = nI (a / 2 ^ y + b % 2 ^ y * 2 ^ (16 - y)) := by
  have h0 : b * 2 ^ (16 - y) < 2 ^ 32 := by
    have h1 : 2 ^ (16 - y) ≤ 2 ^ 16 := Nat.pow_le_pow_right (by decide) (by omega)
    have h2 := Nat.mul_le_mul (show b ≤ 65535 by omega) h1
    omega
  rw [and16 (or_t (shr_t (by omega) (by omega)) (shl_t (by omega) h0)), mr_nat hy ha hb]
/-- longs -/
theorem l_low16 (v : Int64) : (v &&& 65535).toInt32 = nI (v.toInt % 65536).toNat := by
  have e1 : (v.toInt % 65536).toNat = v.toBitVec.toNat % 65536 := by
    show (v.toBitVec.toInt % 65536).toNat = v.toBitVec.toNat % 65536
    rw [BitVec.toInt_eq_toNat_cond]
    split <;> omega
  rw [e1]
  apply Int32.toBitVec_inj.mp
  apply BitVec.eq_of_toNat_eq
  show ((v.toBitVec &&& (65535 : Int64).toBitVec).signExtend 32).toNat = (BitVec.ofNat 32 (v.toBitVec.toNat % 65536)).toNat
  rw [BitVec.signExtend_eq_setWidth_of_le _ (by decide), BitVec.toNat_setWidth, BitVec.toNat_and, BitVec.toNat_ofNat, show ((65535 : Int64).toBitVec).toNat = 2 ^ 16 - 1 from by decide, Nat.and_two_pow_sub_one_eq_mod]
theorem l_sar16 (v : Int64) : (v >>> ((16 : Int32).toInt64 &&& 63)).toInt = v.toInt / 65536 := by
  show (v.toBitVec.sshiftRight' (BitVec.smod ((16 : Int32).toInt64 &&& 63).toBitVec 64)).toInt = v.toBitVec.toInt / 65536
  rw [show BitVec.smod ((16 : Int32).toInt64 &&& 63).toBitVec 64 = 16#64 from by decide, BitVec.toInt_sshiftRight', Int.shiftRight_eq_div_pow]
  rfl
theorem l_nT {n : Nat} (h : n ≤ 2 ^ 62) : (-(lN n)).toInt = -(n : Int) := Int64.toInt_neg_ofNat_of_le (by omega)
theorem bmS {x : Int} (h1 : -(2 ^ 62) ≤ x) (h2 : x ≤ 2 ^ 62) : x.bmod (2 ^ 64) = x := Int.bmod_eq_of_le (by omega) (by omega)
theorem kd_long {a g r b lo b' : Nat} (ha : a < 65536) (hg : g ≤ 65536) (hr : r < 65536) (hb : b ≤ 65537) (hlo : lo < 65536) (he : lo + g * r + b = a + b' * 65536) : ((-(lN b) + (lN a - lN (g * r))) &&& 65535).toInt32 = nI lo ∧ (-(lN b) + (lN a - lN (g * r))) >>> ((16 : Int32).toInt64 &&& 63) = -(lN b') := by
  have h1 := Nat.mul_le_mul hg (show r ≤ 65535 by omega)
  have ev : (-(lN b) + (lN a - lN (g * r))).toInt = (a : Int) - (g * r : Nat) - b := by
    rw [Int64.toInt_add, Int64.toInt_sub, lT (show a < 2 ^ 63 by omega), lT (show g * r < 2 ^ 63 by omega), l_nT (by omega), bmS (x := (a : Int) - (g * r : Nat)) (by omega) (by omega), bmS (by omega) (by omega)]
    omega
  refine ⟨?_, ?_⟩
  · rw [l_low16, ev]
    exact congrArg nI (by omega)
  · apply Int64.toInt_inj.mp
    rw [l_sar16, ev, l_nT (by omega)]
    omega
theorem kd_ex {a g r b : Nat} (ha : a < 65536) (hr : r < 65536) (hb : b ≤ g + 1) : ∃ lo b', lo < 65536 ∧ lo + g * r + b = a + b' * 65536 ∧ b' ≤ g + 1 := by
  have h1 : g * r ≤ g * 65535 := Nat.mul_le_mul_left _ (by omega)
  by_cases h : g * r + b ≤ a
  · exact ⟨a - (g * r + b), 0, by omega, by omega, by omega⟩
  · refine ⟨a + (g * r + b - a + 65535) / 65536 * 65536 - (g * r + b), (g * r + b - a + 65535) / 65536, ?_, ?_, ?_⟩ <;> omega
theorem kd_fin {b u : Nat} (hb : b ≤ 65537) (hu : u < 65536) : (-(lN b) + lN u).toInt = (u : Int) - b := by
  rw [Int64.toInt_add, lT (show u < 2 ^ 63 by omega), l_nT (by omega), bmS (by omega) (by omega)]
  omega
theorem kd_sgn {v : Int64} {x : Int} (h : v.toInt = x) : (0 : Int32) ≤ lg_cmp v 0 ↔ 0 ≤ x := by
  rw [← Int32.not_lt, lg_cmp_lt, Int64.lt_iff_toInt_lt, h, show (0 : Int64).toInt = 0 from by decide]
  omega
theorem l_or16 {a b : Nat} (ha : a < 2 ^ 40) (hb : b < 65536) : (lN a <<< ((16 : Int32).toInt64 &&& 63)) ||| lN b = lN (a * 65536 + b) := by
  apply Int64.toBitVec_inj.mp
  apply BitVec.eq_of_toNat_eq
  show ((BitVec.ofNat 64 a <<< BitVec.smod ((16 : Int32).toInt64 &&& 63).toBitVec 64) ||| BitVec.ofNat 64 b).toNat = (BitVec.ofNat 64 (a * 65536 + b)).toNat
  rw [show BitVec.smod ((16 : Int32).toInt64 &&& 63).toBitVec 64 = 16#64 from by decide, BitVec.toNat_or, BitVec.shiftLeft_eq', BitVec.toNat_shiftLeft, BitVec.toNat_ofNat, BitVec.toNat_ofNat, BitVec.toNat_ofNat, BitVec.toNat_ofNat, Nat.mod_eq_of_lt (show (16 : Nat) < 2 ^ 64 by decide), Nat.mod_eq_of_lt (show a < 2 ^ 64 by omega), Nat.mod_eq_of_lt (show b < 2 ^ 64 by omega), Nat.shiftLeft_eq, Nat.mod_eq_of_lt (show a * 2 ^ 16 < 2 ^ 64 by omega), Nat.mod_eq_of_lt (show a * 65536 + b < 2 ^ 64 by omega), Nat.mul_comm a, ← Nat.two_pow_add_eq_or_of_lt (show b < 2 ^ 16 by omega) a]
  all_goals omega
theorem l_div {t v : Nat} (ht : t < 2 ^ 62) (hv : 0 < v) (hv2 : v < 2 ^ 62) : lN t / lN v = lN (t / v) := by
  apply Int64.toInt_inj.mp
  rw [Int64.toInt_div_of_ne_right, lT (by omega), lT (by omega), lT (Nat.lt_of_le_of_lt (Nat.div_le_self _ _) (by omega))]
  · exact (Int.ofNat_tdiv t v).symm
  · intro h
    have h2 := congrArg Int64.toInt h
    rw [lT (by omega)] at h2
    have h1 : (-1 : Int64).toInt = -1 := by decide
    rw [h1] at h2
    omega
theorem l_rem {t v : Nat} (ht : t < 2 ^ 62) (hv : 0 < v) (hv2 : v < 2 ^ 62) : lN t - lN t / lN v * lN v = lN (t % v) := by
  rw [l_div ht hv hv2, lN_mul, lN_sub (Nat.div_mul_le_self t v)]
  have h := Nat.mod_add_div' t v
  exact congrArg lN (by omega)
theorem lc_gt {a b : Nat} (ha : a < 2 ^ 63) (hb : b < 2 ^ 63) : 0 < lg_cmp (lN a) (lN b) ↔ b < a := by
  rw [lg_cmp_gt, l_lt hb ha]
theorem i64_nz {v : Nat} (h1 : 1 ≤ v) (h2 : v < 65536) : ¬ lN v = 0 := fun e => by
  have := (l_eq (a := v) (b := 0) (by omega) (by decide)).mp e
  omega
theorem l_lo16 {n : Nat} (h : n < 2 ^ 63) : (lN n &&& 65535).toInt32 = nI (n % 65536) := by
  rw [l_low16, lT h]
  exact congrArg nI (by omega)
theorem l_hi16 {n : Nat} (hn : n < 2 ^ 64) : ((lN n).toUInt64 >>> ((16 : Int32).toInt64.toUInt64 &&& Int64.toUInt64 63)).toInt64 = lN (n / 65536) := by
  apply Int64.toBitVec_inj.mp
  show (BitVec.ofNat 64 n) >>> (UInt64.mod ((16 : Int32).toInt64.toUInt64 &&& Int64.toUInt64 63) 64).toBitVec = BitVec.ofNat 64 (n / 65536)
  rw [show (UInt64.mod ((16 : Int32).toInt64.toUInt64 &&& Int64.toUInt64 63) 64).toBitVec = 16#64 from by decide]
  apply BitVec.eq_of_toNat_eq
  show (BitVec.ofNat 64 n).toNat >>> 16 = (BitVec.ofNat 64 (n / 65536)).toNat
  rw [BitVec.toNat_ofNat, BitVec.toNat_ofNat, Nat.mod_eq_of_lt hn, Nat.shiftRight_eq_div_pow, Nat.mod_eq_of_lt (a := n / 65536) (by omega)]
theorem zG_0 (d : Nat → Nat) : zG d 0 = d := funext fun j => if_neg (Nat.not_lt_zero j)
theorem zG_s (d : Nat → Nat) (k : Nat) : updN (zG d k) k 0 = zG d (k + 1) := by
  funext j
  show (if j = k then 0 else if j < k then 0 else d j) = if j < k + 1 then 0 else d j
  by_cases h1 : j = k
  · rw [if_pos h1, if_pos (by omega)]
  · rw [if_neg h1]
    by_cases h2 : j < k
    · rw [if_pos h2, if_pos (by omega)]
    · rw [if_neg h2, if_neg (by omega)]
theorem zG_l {d : Nat → Nat} {W k : Nat} (hW : 0 < W) (h : ∀ j, d j < W) : ∀ j, zG d k j < W := fun j => by
  show (if j < k then 0 else d j) < W
  split
  · exact hW
  · exact h j
theorem tn_next {k i j c g x : Nat} {s s' b : Nat → Nat} (h : j ≤ k ∧ (∀ q, s' q < 65536) ∧ (∀ q, i + j ≤ q → s' q = s q) ∧ c < 65536 ∧ vB 65536 s' (i + j) + c * 65536 ^ (i + j) = vB 65536 s (i + j) + x * 65536 ^ i * vB 65536 b j) (hj : j < k) (hg : g = c + (x * b j + s' (i + j))) (hb : g < 4294967296) : j + 1 ≤ k ∧ (∀ q, updN s' (i + j) (g % 65536) q < 65536) ∧ (∀ q, i + (j + 1) ≤ q → updN s' (i + j) (g % 65536) q = s q) ∧ g / 65536 < 65536 ∧ vB 65536 (updN s' (i + j) (g % 65536)) (i + (j + 1)) + g / 65536 * 65536 ^ (i + (j + 1)) = vB 65536 s (i + (j + 1)) + x * 65536 ^ i * vB 65536 b (j + 1) := by
  obtain ⟨h1, h2, h3, h4, h5⟩ := h
  refine ⟨hj, upN_lt h2 (Nat.mod_lt _ (by decide)), fun q hq => ?_, by omega, ?_⟩
  · rw [updN_ne (by omega)]; exact h3 q (by omega)
  · exact tm_step h5 (h3 _ (Nat.le_refl _)) hg
theorem tp_next {n k i j c : Nat} {s s' a b : Nat → Nat} (hJ : i ≤ n ∧ (∀ q, s q < 65536) ∧ vB 65536 s (i + k) = vB 65536 a i * vB 65536 b k) (hi : i < n) (h : j ≤ k ∧ (∀ q, s' q < 65536) ∧ (∀ q, i + j ≤ q → s' q = s q) ∧ c < 65536 ∧ vB 65536 s' (i + j) + c * 65536 ^ (i + j) = vB 65536 s (i + j) + a i * 65536 ^ i * vB 65536 b j) (hj : k ≤ j) : i + 1 ≤ n ∧ (∀ q, updN s' (i + k) c q < 65536) ∧ vB 65536 (updN s' (i + k) c) (i + 1 + k) = vB 65536 a (i + 1) * vB 65536 b k := by
  obtain ⟨h1, h2, h3, h4, h5⟩ := h
  obtain rfl : j = k := by omega
  exact ⟨hi, upN_lt h2 h4, tm_next hJ.2.2 h5⟩
/-! Rows that are written in a range; one digit of the quotient, all of it. -/
def rgG (v d : Nat → Nat) (lo hi : Nat) : Nat → Nat := fun j => if lo ≤ j ∧ j < hi then v j else d j
theorem rgG_in {v d : Nat → Nat} {lo hi j : Nat} (h1 : lo ≤ j) (h2 : j < hi) : rgG v d lo hi j = v j := if_pos ⟨h1, h2⟩
theorem rgG_out {v d : Nat → Nat} {lo hi j : Nat} (h : j < lo ∨ hi ≤ j) : rgG v d lo hi j = d j := if_neg (by omega)
theorem rgG_e (v d : Nat → Nat) (k : Nat) : rgG v d k k = d := funext fun j => rgG_out (by omega)
theorem rgG_dn {v d : Nat → Nat} {lo hi : Nat} (h : lo < hi) : updN (rgG v d (lo + 1) hi) lo (v lo) = rgG v d lo hi := by
  funext j
  by_cases e : j = lo
  · rw [e, updN_at, rgG_in (Nat.le_refl _) h]
  · rw [updN_ne e]
    by_cases q : lo ≤ j ∧ j < hi
    · rw [rgG_in (by omega) q.2, rgG_in q.1 q.2]
    · rw [rgG_out (by omega), rgG_out (by omega)]
theorem rgG_up {v d : Nat → Nat} {lo hi : Nat} (h : lo ≤ hi) : updN (rgG v d lo hi) hi (v hi) = rgG v d lo (hi + 1) := by
  funext j
  by_cases e : j = hi
  · rw [e, updN_at, rgG_in h (Nat.lt_succ_self _)]
  · rw [updN_ne e]
    by_cases q : lo ≤ j ∧ j < hi
    · rw [rgG_in q.1 q.2, rgG_in q.1 (by omega)]
    · rw [rgG_out (by omega), rgG_out (by omega)]
theorem rgG_lt {v d : Nat → Nat} {lo hi W : Nat} (hv : ∀ j, v j < W) (hd : ∀ j, d j < W) : ∀ j, rgG v d lo hi j < W := fun j => by
  show (if lo ≤ j ∧ j < hi then v j else d j) < W
  split
  · exact hv j
  · exact hd j
theorem rgG_v {v d : Nat → Nat} {hi W : Nat} : vB W (rgG v d 0 hi) hi = vB W v hi := vB_congr hi (fun j hj => rgG_in (Nat.zero_le _) hj)
theorem shL_p {W Y k : Nat} {b : Nat → Nat} (h : 0 < k) : shL W b Y k = b k * Y % W + b (k - 1) * Y / W := by
  obtain ⟨j, rfl⟩ : ∃ j, k = j + 1 := ⟨k - 1, by omega⟩
  rfl
theorem shL_q {W Y k : Nat} {b : Nat → Nat} (h : k ≤ 0) : shL W b Y k = b k * Y % W + 0 := by
  obtain rfl : k = 0 := by omega
  rfl
theorem p16 {k : Nat} (h : k ≤ 15) : (65536 : Nat) = 2 ^ (16 - k) * 2 ^ k := by
  rw [← Nat.pow_add, show 16 - k + k = 16 by omega]
/-- the divisor's row -/
theorem kb_rows {k n : Nat} {b d : Nat → Nat} (hk : k ≤ 15) (hb : ∀ j, b j < 65536) (hd : ∀ j, d j < 65536) (hn : 1 ≤ n) (h1 : 32768 ≤ b (n - 1) * 2 ^ k) (h2 : b (n - 1) * 2 ^ k < 65536) {r : Nat → Nat} (hr : r = rgG (shL 65536 b (2 ^ k)) d 0 n) : (∀ j, r j < 65536) ∧ vB 65536 r n = vB 65536 b n * 2 ^ k ∧ 32768 ≤ r (n - 1) := by
  have hs := fun j => shL_lt (p16 hk) (Nat.two_pow_pos _) (Nat.two_pow_pos _) hb j
  obtain ⟨m, rfl⟩ : ∃ m, n = m + 1 := ⟨n - 1, by omega⟩
  rw [show m + 1 - 1 = m by omega] at h1 h2 ⊢
  have e := shL_v (W := 65536) (Y := 2 ^ k) b (m + 1)
  rw [show shC 65536 b (2 ^ k) (m + 1) = b m * 2 ^ k / 65536 from rfl, Nat.div_eq_of_lt h2, Nat.zero_mul, Nat.add_zero] at e
  refine ⟨by rw [hr]; exact rgG_lt hs hd, by rw [hr, rgG_v, e], ?_⟩
  rw [hr, rgG_in (Nat.zero_le _) (Nat.lt_succ_self m)]
  show 32768 ≤ b m * 2 ^ k % 65536 + shC 65536 b (2 ^ k) m
  rw [Nat.mod_eq_of_lt h2]
  omega
/-- the dividend's row -/
theorem ka_rows {k n m : Nat} {a b0 r : Nat → Nat} (hk : k ≤ 15) (ha : ∀ j, a j < 65536) (hm : 1 ≤ m) (hmn : m ≤ n) (hr : 32768 ≤ r (m - 1)) (hrl : ∀ j, r j < 65536) {f : Nat → Nat} (hf : f = rgG (shL 65536 (updN a n 0) (2 ^ k)) (updN a n 0) 0 (n + 1)) : (∀ j, f j < 65536) ∧ vB 65536 f (n + 1) = vB 65536 a n * 2 ^ k ∧ vB 65536 (fun i => f (n - m + 1 + i)) m < vB 65536 r m := by
  have h0 : ∀ j, updN a n 0 j < 65536 := upN_lt ha (by decide)
  have hs := fun j => shL_lt (p16 hk) (Nat.two_pow_pos _) (Nat.two_pow_pos _) h0 j
  have hfl : ∀ j, f j < 65536 := by rw [hf]; exact rgG_lt hs h0
  have e := shL_v (W := 65536) (Y := 2 ^ k) (updN a n 0) (n + 1)
  rw [show shC 65536 (updN a n 0) (2 ^ k) (n + 1) = updN a n 0 n * 2 ^ k / 65536 from rfl, updN_at, Nat.zero_mul, Nat.zero_div, Nat.zero_mul, Nat.add_zero, vB_up, Nat.zero_mul, Nat.add_zero] at e
  refine ⟨hfl, by rw [hf, rgG_v, e, Nat.add_zero], ?_⟩
  have ht : f n < 2 ^ k := by
    rw [hf, rgG_in (Nat.zero_le _) (Nat.lt_succ_self n)]
    show updN a n 0 n * 2 ^ k % 65536 + shC 65536 (updN a n 0) (2 ^ k) n < 2 ^ k
    rw [updN_at, Nat.zero_mul, Nat.zero_mod, Nat.zero_add]
    exact shC_lt (by decide) (Nat.two_pow_pos _) h0 n
  have h15 : 2 ^ k ≤ 2 ^ 15 := Nat.pow_le_pow_right (by decide) hk
  obtain ⟨q, rfl⟩ : ∃ q, m = q + 1 := ⟨m - 1, by omega⟩
  refine (vB_top (W := 65536) (s := fun i => f (n - (q + 1) + 1 + i)) (n := r) (q + 1) (Nat.lt_succ_self q) (fun j _ => hfl _) (fun j _ => hrl j) (fun j h1 h2 => absurd h1 (by omega))).1 ?_
  show f (n - (q + 1) + 1 + q) < r q
  rw [show n - (q + 1) + 1 + q = n by omega]
  rw [show q + 1 - 1 = q by omega] at hr
  omega
/-- the parts of T and R that the guess reads -/
theorem kt_parts {j m : Nat} {f r : Nat → Nat} (hm : 2 ≤ m) (hf : ∀ i, f i < 65536) (hr : ∀ i, r i < 65536) : ∃ P tl vl, 0 < P ∧ tl < P ∧ vl < P ∧ vB 65536 (fun i => f (j + i)) (m + 1) = ((f (j + m) * 65536 + f (j + m - 1)) * 65536 + f (j + m - 2)) * P + tl ∧ vB 65536 r m = (r (m - 1) * 65536 + r (m - 2)) * P + vl ∧ vB 65536 r m ≤ 65536 ^ m := by
  obtain ⟨k, rfl⟩ : ∃ k, m = k + 2 := ⟨m - 2, by omega⟩
  refine ⟨65536 ^ k, vB 65536 (fun i => f (j + i)) k, vB 65536 r k, Nat.pow_pos (by decide), vB_lt k (fun i _ => hf _), vB_lt k (fun i _ => hr i), ?_, vB_2, Nat.le_of_lt (vB_lt _ (fun i _ => hr i))⟩
  rw [show j + (k + 2) - 1 = j + (k + 1) by omega, show j + (k + 2) - 2 = j + k by omega]
  exact vB_3
/-- what a digit leaves -/
theorem kx_next {n m j g T A R : Nat} {f f' qf : Nat → Nat} (hm : m ≤ n) (hT : T = vB 65536 (fun i => f (j + i)) (m + 1)) (hI : j + 1 ≤ n - m + 1 ∧ (∀ i, f i < 65536) ∧ (∀ i, qf i < 131072) ∧ (∃ Q, vB 65536 f (j + 1 + m) + Q * R = A) ∧ vB 65536 (fun i => f (j + 1 + i)) m < R ∧ (j + 1 ≤ n - m → f (j + 1 + m) = 0)) (hf' : ∀ i, f' i < 65536) (hlow : ∀ i, i < j → f' i = f i) (hz : f' (j + m) = 0) (hd : T = vB 65536 (fun i => f' (j + i)) m + g * R) (hlt : vB 65536 (fun i => f' (j + i)) m < R) {g' : Nat} (hg : g' ≤ 65536) : j ≤ n - m + 1 ∧ (∀ i, f' i < 65536) ∧ (∀ i, updN qf j g' i < 131072) ∧ (∃ Q, vB 65536 f' (j + m) + Q * R = A) ∧ vB 65536 (fun i => f' (j + i)) m < R ∧ (j ≤ n - m → f' (j + m) = 0) := by
  obtain ⟨h1, h2, h3, ⟨Q, h4⟩, h5, h6⟩ := hI
  exact ⟨by omega, hf', upN_lt h3 (by omega), ⟨_, kr_next hT hlow hd h4⟩, hlt, fun _ => hz⟩
theorem vB_off {W j m v : Nat} {f : Nat → Nat} : vB W (fun i => updN f (j + m) v (j + i)) m = vB W (fun i => f (j + i)) m := vB_congr m (fun i hi => updN_ne (by omega))
theorem ks_next {j m k g b lo b' : Nat} {s s' r : Nat → Nat} (h : k ≤ m ∧ (∀ q, s' q < 65536) ∧ (∀ i, i < j → s' i = s i) ∧ (∀ i, j + k ≤ i → s' i = s i) ∧ b ≤ g + 1 ∧ vB 65536 (fun i => s' (j + i)) k + g * vB 65536 r k = vB 65536 (fun i => s (j + i)) k + b * 65536 ^ k) (hk : k < m) (hlo : lo < 65536) (he : lo + g * r k + b = s' (j + k) + b' * 65536) (hb : b' ≤ g + 1) : k + 1 ≤ m ∧ (∀ q, updN s' (j + k) lo q < 65536) ∧ (∀ i, i < j → updN s' (j + k) lo i = s i) ∧ (∀ i, j + (k + 1) ≤ i → updN s' (j + k) lo i = s i) ∧ b' ≤ g + 1 ∧ vB 65536 (fun i => updN s' (j + k) lo (j + i)) (k + 1) + g * vB 65536 r (k + 1) = vB 65536 (fun i => s (j + i)) (k + 1) + b' * 65536 ^ (k + 1) := by
  obtain ⟨h1, h2, h3, h4, h5, h6⟩ := h
  refine ⟨hk, upN_lt h2 hlo, fun i hi => ?_, fun i hi => ?_, hb, ks_step h6 (by rw [← h4 (j + k) (Nat.le_refl _)]; exact he)⟩
  · rw [updN_ne (by omega)]; exact h3 i hi
  · rw [updN_ne (by omega)]; exact h4 i (by omega)
theorem ka_next {j m k d g : Nat} {s s' r : Nat → Nat} (h : k ≤ m ∧ (∀ q, s' q < 65536) ∧ (∀ i, i < j → s' i = s i) ∧ (∀ i, j + k ≤ i → s' i = s i) ∧ d ≤ 1 ∧ vB 65536 (fun i => s' (j + i)) k + d * 65536 ^ k = vB 65536 (fun i => s (j + i)) k + vB 65536 r k) (hk : k < m) (hr : r k < 65536) (hg : g = d + (s' (j + k) + r k)) : k + 1 ≤ m ∧ (∀ q, updN s' (j + k) (g % 65536) q < 65536) ∧ (∀ i, i < j → updN s' (j + k) (g % 65536) i = s i) ∧ (∀ i, j + (k + 1) ≤ i → updN s' (j + k) (g % 65536) i = s i) ∧ g / 65536 ≤ 1 ∧ vB 65536 (fun i => updN s' (j + k) (g % 65536) (j + i)) (k + 1) + g / 65536 * 65536 ^ (k + 1) = vB 65536 (fun i => s (j + i)) (k + 1) + vB 65536 r (k + 1) := by
  obtain ⟨h1, h2, h3, h4, h5, h6⟩ := h
  have h7 := h2 (j + k)
  refine ⟨hk, upN_lt h2 (Nat.mod_lt _ (by decide)), fun i hi => ?_, fun i hi => ?_, by omega, ka_step h6 (by rw [← h4 (j + k) (Nat.le_refl _)]; omega)⟩
  · rw [updN_ne (by omega)]; exact h3 i hi
  · rw [updN_ne (by omega)]; exact h4 i (by omega)
/-- two octets a limb, counted from the end -/
def ld2 (o : Nat → Nat) (k : Nat) : Nat → Nat := fun j => vB 256 (fun r => o (2 * j + r)) (min 2 (k - 2 * j))
theorem ld2_lt {o : Nat → Nat} (ho : ∀ j, o j < 256) (k j : Nat) : ld2 o k j < 65536 := by
  have h1 := vB_lt (B := 256) (d := fun r => o (2 * j + r)) (min 2 (k - 2 * j)) (fun r _ => ho _)
  have h2 : 256 ^ (min 2 (k - 2 * j)) ≤ 256 ^ 2 := Nat.pow_le_pow_right (by decide) (Nat.min_le_left _ _)
  have h3 : (256 : Nat) ^ 2 = 65536 := by decide
  unfold ld2
  omega
theorem vB_two (o : Nat → Nat) (m : Nat) : vB 65536 (fun j => vB 256 (fun r => o (2 * j + r)) 2) m = vB 256 o (2 * m) := by
  have h := vB_gr 256 2 o m
  rw [show (256 : Nat) ^ 2 = 65536 from by decide] at h
  exact h
theorem ld2_val (o : Nat → Nat) (k m : Nat) (hk : k ≤ 2 * m) : vB 65536 (ld2 o k) m = vB 256 o k := by
  have e : vB 65536 (ld2 o k) m = vB 65536 (fun j => vB 256 (fun r => (fun i => if i < k then o i else 0) (2 * j + r)) 2) m := by
    refine vB_congr m (fun j hj => ?_)
    show vB 256 (fun r => o (2 * j + r)) (min 2 (k - 2 * j)) = vB 256 (fun r => if 2 * j + r < k then o (2 * j + r) else 0) 2
    have h9 : ∀ r, min 2 (k - 2 * j) ≤ r → r < 2 → (if 2 * j + r < k then o (2 * j + r) else 0) = 0 := fun r h1 h2 => if_neg (by omega)
    rw [vB_cut (n := min 2 (k - 2 * j)) (d := fun r => if 2 * j + r < k then o (2 * j + r) else 0) 2 (Nat.min_le_left _ _) h9]
    exact (vB_congr _ (fun r hr => if_pos (by omega))).symm
  rw [e, vB_two (fun i => if i < k then o i else 0) m, vB_lead (n := k) (fun j hj => if_neg (by omega)) _ hk]
  exact vB_congr k (fun j hj => if_pos hj)
theorem ld2_hi {o u : Nat → Nat} {a b z x y : Nat} (ho : ∀ i, i < b - a → o i = u (b - 1 - i)) (hx : x = b - 1 - 2 * z) (hy : y = b - 1 - (2 * z + 1)) (h : 2 * z + 1 < b - a) : u x + 256 * u y = ld2 o (b - a) z := by
  unfold ld2
  rw [show min 2 (b - a - 2 * z) = 2 by omega]
  show u x + 256 * u y = 0 + o (2 * z) * 256 ^ 0 + o (2 * z + 1) * 256 ^ 1
  rw [ho (2 * z) (by omega), ho (2 * z + 1) h, hx, hy, Nat.pow_zero, Nat.pow_one]
  omega
theorem ld2_lo {o u : Nat → Nat} {a b z x : Nat} (ho : ∀ i, i < b - a → o i = u (b - 1 - i)) (hx : x = b - 1 - 2 * z) (h : b - a = 2 * z + 1) : u x = ld2 o (b - a) z := by
  unfold ld2
  rw [show min 2 (b - a - 2 * z) = 1 by omega]
  show u x = 0 + o (2 * z + 0) * 256 ^ 0
  rw [ho (2 * z + 0) (by omega), hx, Nat.add_zero, Nat.pow_zero]
  omega
