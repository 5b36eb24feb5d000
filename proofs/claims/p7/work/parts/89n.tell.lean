/-! What part and listPart tell of a text that both sides stored (draft, not yet tried). -/
theorem cX_tell {v : Nat → Nat} {n : Nat} {tr : Int32} {xm : TD} (hv : ∀ j, v j < 256) (hn : n ≤ 2048) (htr : b01 tr) (h : cX v n tr xm) {i : Int32} (hi : i.toNatClampNeg = n) (nc : Nat) : ∀ m, m ≤ 11 → tellV (cNw v i tr nc).1 (cNw v i tr nc).2.1 (cNw v i tr nc).2.2 (nI m) = pvR xm m := by
  obtain ⟨d, y, z, ka, kb, hz, hxm, hH⟩ := h
  have hT : TC xm := by rw [hxm]; exact mkC_fits (d 0) (d 1) (d 2) (d 3) (d 4) (d 5) (d 6) (d 7) (d 8) (d 9) (d 10) (d 11) v n tr y z ka kb hv hn htr hz hH
  have hq := cert_q hv (n := n) (s := 0) (ok := (0, 0)) (ik := (0, 0)) (f1 := ka) (f2 := kb) (D2 := []) (D3 := []) (D4 := []) (D5 := []) (D6 := []) (D7 := []) hn
  rw [hz] at hq
  obtain ⟨-, -, hV⟩ := hq
  have b6 := hT.b6
  have e20' := hT.e20
  unfold cNw
  rw [hi]
  generalize rd_cert v n (0, 0, none) 0 0 (0, 0) (0, 0) 0 (-1) (-1) [] [] [] [] [] [] [] = C at hV ⊢
  obtain ⟨e1, e4, e5, e6, e9, e10, e11, e12, e13, e14, e15, e17, e20, e18, e19⟩ := hV
  rcases hH with ⟨z', v9, h1, -, h3, -⟩ | ⟨w9, v9, h1, -⟩
  · obtain rfl : z' = z := Sum.inr.inj (h1.symm.trans hz)
    subst h3
    subst hxm
    intro m hm
    rcases lt12 (j := m) (by omega) with rfl | rfl | rfl | rfl | rfl | rfl | rfl | rfl | rfl | rfl | rfl | rfl
    · exact e18
    · exact e19
    · show (C.2.2.2.2.2.2.2.2.2.2.1).toInt64 = _
      rw [e10]
      unfold modV
      rw [if_neg (by have h9 : z'.2.2.2.2.2.2.2.1 + 62 ≤ z'.2.2.2.2.2.2.2.2.1 := b6.2.1; omega), Nat.zero_add]
      rfl
    · show (C.2.2.2.2.2.2.2.2.2.2.2.1).toInt64 = _
      rw [e11]
      exact congrArg Int32.toInt64 e20'
    · show (if C.2.2.2.2.2.2.2.2.2.2.2.2.1 = 0 then (0 : Int64) else 1) = _
      rw [e12]
      rfl
    · exact congrArg Int32.toInt64 e13
    · exact congrArg Int32.toInt64 e14
    · show (nI C.2.2.2.2.2.2.2.2.2.2.2.2.2.2.2.2.2.2.2.2.1.length).toInt64 = _
      rw [e20]
      rfl
    · exact congrArg Int32.toInt64 e9
    · exact congrArg Int32.toInt64 e15
    · exact congrArg Int32.toInt64 e17
    · show (nI (C.2.1.2 - C.2.1.1)).toInt64 = _
      rw [e1]
      rfl
  · exact absurd (h1.symm.trans hz) (by intro e; cases e)
