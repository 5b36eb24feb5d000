/-! What part and listPart tell of a text that both sides stored (draft, not yet tried). -/
theorem lX_tell {v : Nat → Nat} {n : Nat} {tr : Int32} {xm : TD} (hv : ∀ j, v j < 256) (hn : n ≤ 2048) (h : lX v n tr xm) {i : Int32} (hi : i.toNatClampNeg = n) : ∀ m, m ≤ 3 → ltellV (lNw v i).1 (lNw v i).2 (nI m) = lvR xm m := by
  obtain ⟨d, y, z, ka, kb, hz, hxm, hH⟩ := h
  have hq := lst_q hv (n := n) (s := 0) (ie := 0) (f1 := ka) (f2 := kb) (D7 := []) (ex := 0) hn
  rw [hz] at hq
  obtain ⟨-, -, hV⟩ := hq
  unfold lNw
  rw [hi]
  generalize rd_lst v n (0, 0, none) 0 0 0 [] [] = C at hV ⊢
  obtain ⟨e2, e3, e4, e7, e5, e6⟩ := hV
  rcases hH with ⟨z', v9, h1, -, h3, -⟩ | ⟨w9, v9, h1, -⟩
  · obtain rfl : z' = z := Sum.inr.inj (h1.symm.trans hz)
    subst h3
    subst hxm
    intro m hm
    rcases lt4 hm with rfl | rfl | rfl | rfl
    · exact e5
    · exact e6
    · show (nI C.2.2.2.2.2.2.2.1.length).toInt64 = _
      rw [e7]
      rfl
    · exact congrArg Int32.toInt64 e4
  · exact absurd (h1.symm.trans hz) (by intro e; cases e)
