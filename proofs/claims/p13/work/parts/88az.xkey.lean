/-! What holds of a key that was read. -/
theorem key_odd {u : Nat → Nat} {pp en : Nat} : ok9 (tx_key u pp en) (fun z => ¬ ((nI (u (z.2.2.1 - 1))) &&& 1) = (0 : Int32)) := by
  unfold tx_key
  refine ok9_eb ok9_T (fun z4 _ => ok9_eb ok9_T (fun z27 _ => ok9_eb ok9_T (fun s46 _ => ?_)))
  dsimp only
  by_cases c : z27.2 ≤ s46
  · rw [if_pos c]
    refine ok9_eb ok9_T (fun s79 _ => ?_)
    rw [if_pos c]
    exact ok9_ite (fun _ => ok9_no) (fun q => absurd (Or.inr (Or.inr (fun w => by omega))) q)
  · rw [if_neg c]
    refine ok9_eb ok9_T (fun s79 _ => ?_)
    rw [if_neg c]
    refine ok9_ite (fun _ => ok9_no) (fun q => ?_)
    exact ok9_eb ok9_T (fun z186 _ => ok9_eb ok9_T (fun s203 _ => ok9_ite (fun _ => ok9_no) (fun q2 => ok9_eb ok9_T (fun _ _ => ok9_yes (fun e => q (Or.inr (Or.inl e)))))))
theorem cr_odd {u : Nat → Nat} {pp en : Nat} {a b e1 e2 e3 e4 : Int32} : ok9 (tx_certificate u pp en [] [] [] e1 e2 0 e3 e4 (-1) a (-1) b) (fun z => ¬ ((nI (u (z.2.2.2.2.2.2.2.2.2.1 - 1))) &&& 1) = (0 : Int32)) := by
  unfold tx_certificate
  refine ok9_eb ok9_T (fun z5 _ => ok9_eb ok9_T (fun z30 _ => ok9_eb ok9_T (fun z38 _ => ok9_eb ok9_T (fun z46 _ => ok9_eb ok9_T (fun z75 _ => ok9_eb ok9_T (fun z83 _ => ok9_eb ok9_T (fun z95 _ => ok9_eb ok9_T (fun z118 _ => ok9_eb ok9_T (fun z136 _ => ok9_eb ok9_T (fun z154 _ => ok9_eb ok9_T (fun z162 _ => ok9_eb ok9_T (fun z198 _ => ok9_eb ok9_T (fun z224 _ => ok9_eb ok9_T (fun z232 _ => ok9_eb key_odd (fun z255 h255 => ok9_eb ok9_T (fun z263 _ => ok9_eb ok9_T (fun z271 _ => ok9_ite (fun _ => ok9_yes h255) (fun _ => ok9_eb ok9_T (fun z294 _ => ok9_eb ok9_T (fun z318 _ => ok9_eb ok9_T (fun _ _ => ok9_yes h255)))))))))))))))))))))
theorem rc_odd {u : Nat → Nat} {n : Nat} {a b : Int32} : ok9 (tx_readC u n a b) (fun z => ¬ ((nI (u (z.2.2.2.2.2.2.2.2.1 - 1))) &&& 1) = (0 : Int32)) := by
  unfold tx_readC
  exact ok9_eb ok9_T (fun z77 _ => ok9_eb ok9_T (fun z102 _ => ok9_eb cr_odd (fun z157 h157 => ok9_eb ok9_T (fun _ _ => ok9_eb ok9_T (fun z181 _ => ok9_eb ok9_T (fun z189 _ => ok9_eb ok9_T (fun _ _ => ok9_eb ok9_T (fun _ _ => ok9_yes h157))))))))
theorem odd_o : ∀ x, x < 256 → ¬ ((nI x) &&& 1) = (0 : Int32) → x % 2 = 1 := by decide +kernel
theorem lz_lo : ∀ x, x < 256 → 1 ≤ x → 2 ^ (7 - lzD x) ≤ x ∧ lzD x ≤ 7 := by decide +kernel
theorem vB_od2 {d : Nat → Nat} : ∀ k, 1 ≤ k → vB 256 d k % 2 = d 0 % 2
  | 0, h => absurd h (by decide)
  | 1, _ => by
    rw [vB_s]
    show (0 + d 0 * 256 ^ 0) % 2 = _
    rw [Nat.pow_zero, Nat.mul_one, Nat.zero_add]
  | k + 2, _ => by
    rw [vB_s, Nat.pow_succ, ← Nat.mul_assoc, Nat.add_mod, vB_od2 (k + 1) (by omega), show d (k + 1) * 256 ^ k * 256 % 2 = 0 by omega]
    omega
/-- the numbers of a modulus -/
theorem mod_num {v : Nat → Nat} (hv : ∀ j, v j < 256) {s : Nat × Nat} (h1 : s.1 + 62 ≤ s.2) (h2 : s.2 ≤ s.1 + 256) (h3 : 1 ≤ v s.1) (h4 : ¬ ((nI (v (s.2 - 1))) &&& 1) = (0 : Int32)) : (1 ≤ modV v s.1 s.2 ∧ modV v s.1 s.2 ≤ 8 * (s.2 - s.1)) ∧ 2 ^ (modV v s.1 s.2 - 1) < vB 256 (ocE v s) (s.2 - s.1) ∧ vB 256 (ocE v s) (s.2 - s.1) % 2 = 1 := by
  have hl := lz_lo (v s.1) (hv _) h3
  have hm : modV v s.1 s.2 = 8 * (s.2 - s.1 - 1) + (8 - lzD (v s.1)) := by
    unfold modV
    rw [if_neg (by omega)]
    omega
  have ho : vB 256 (ocE v s) (s.2 - s.1) % 2 = 1 := by
    rw [vB_od2 _ (by omega)]
    have : ocE v s 0 = v (s.2 - 1) := by
      unfold ocE
      rw [if_pos (by omega)]
      rfl
    rw [this]
    exact odd_o _ (hv _) h4
  refine ⟨by rw [hm]; omega, ?_, ho⟩
  obtain ⟨k, hk⟩ : ∃ k, s.2 - s.1 = k + 1 := ⟨s.2 - s.1 - 1, by omega⟩
  have ht : ocE v s k = v s.1 := by
    unfold ocE
    rw [if_pos (by omega), show s.2 - 1 - k = s.1 by omega]
  have hge : 2 ^ (modV v s.1 s.2 - 1) ≤ vB 256 (ocE v s) (s.2 - s.1) := by
    rw [hk, vB_s, ht, hm, show 8 * (s.2 - s.1 - 1) + (8 - lzD (v s.1)) - 1 = (7 - lzD (v s.1)) + 8 * k by omega, Nat.pow_add, Nat.pow_mul, show (2 : Nat) ^ 8 = 256 by decide]
    exact Nat.le_trans (Nat.mul_le_mul_right _ hl.1) (Nat.le_add_left _ _)
  have hev : 2 ^ (modV v s.1 s.2 - 1) % 2 = 0 := by
    rw [show modV v s.1 s.2 - 1 = (modV v s.1 s.2 - 2) + 1 by rw [hm]; omega, Nat.pow_succ]
    exact Nat.mul_mod_left _ _
  omega
/-- a certificate's key -/
theorem cert_kF {v : Nat → Nat} (hv : ∀ j, v j < 256) {n : Nat} (hn : n ≤ 2048) {C : rS × (Nat × Nat) × (Nat × Nat) × (Nat × Nat) × (Nat × Nat) × (Nat × Nat) × (Nat × Nat) × (Nat × Nat) × (Nat × Nat) × Int32 × Int32 × Int32 × Int32 × Int32 × Int32 × Int32 × Int32 × Int32 × Int64 × Int64 × (List (Nat × Nat)) × (List (Nat × Nat)) × (List (Nat × Nat)) × (List (Nat × Nat)) × (List (Nat × Nat)) × (List (Nat × Nat)) × (List (Nat × Nat)) × Int32 × Int32} (hC : rd_cert v n (0, 0, none) 0 0 (0, 0) (0, 0) 0 (-1) (-1) [] [] [] [] [] [] [] = C) (h : C.1.2.2 = none) (N : cN) (h1 : N.2.1 = C.2.2.2.2.2.2.2.2.2.2.1) (h2 : N.2.2.1 = C.2.2.2.2.2.2.2.2.2.2.2.1) : kFx N (ocE v C.2.2.2.2.1) (C.2.2.2.2.1.2 - C.2.2.2.2.1.1) := by
  have hq := cert_q hv (n := n) (s := 0) (ok := (0, 0)) (ik := (0, 0)) (f1 := 0) (f2 := 0) (D2 := []) (D3 := []) (D4 := []) (D5 := []) (D6 := []) (D7 := []) hn
  rw [hC] at hq
  obtain ⟨R, hR⟩ : ∃ R, tx_readC v n 0 0 = R := ⟨_, rfl⟩
  rw [hR] at hq
  cases R with
  | inl w =>
    have hq : C.1.2.2 = some w := hq
    rw [h] at hq
    cases hq
  | inr z =>
    have hcv : cV v C z := hq.2.2
    have r1 := rc_ok hv hn z hR
    have r2 := rc_odd z hR
    obtain ⟨⟨-, ⟨-, b1, b2⟩, b3, ⟨e, b4, b5, b6⟩, -⟩, -⟩ := r1
    have es := hcv.2.1
    have eb := hcv.2.2.2.2.2.1
    have ee := hcv.2.2.2.2.2.2.1
    have m := mod_num hv (s := C.2.2.2.2.1) (by rw [es]; exact b1) (by rw [es]; exact b2) (by rw [es]; exact b3) (by rw [es]; exact r2)
    refine ⟨e, modV v C.2.2.2.2.1.1 C.2.2.2.2.1.2, by rw [h2, ee]; exact b4, by rw [h1, eb, es], ⟨?_, ?_⟩, ⟨by omega, b6⟩, m.1, m.2.1, m.2.2⟩
    · rw [es]; dsimp only; omega
    · rw [es]; dsimp only; omega
