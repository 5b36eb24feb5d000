/-! What the throws ask, where the law begins. -/
theorem xStr_in : ∀ z ∈ xStr, Cond.stringRef "TrustChain" z.1 z.2 ∈ lw_tbl := by decide +kernel
theorem str_cls {args : Array Value} {s : State} {own tx : String} {k : Nat} (h1 : (Cond.stringRef own k tx).before args s = true) : ∃ cur, s.vm.findClass own = some cur := by
  simp only [Cond.before, Cond.holds, Cond.value] at h1
  cases hc : s.vm.findClass own with
  | none => simp [hc] at h1
  | some cur => exact ⟨cur, rfl⟩
theorem str_ok {args : Array Value} {s : State} {own tx : String} {k : Nat} (h1 : (Cond.stringRef own k tx).before args s = true) : ∃ a, vk_R own k tx a s := by
  obtain ⟨cur, hcur⟩ := str_cls h1
  obtain ⟨-, -, -, sa, -, -, -, -, -, hev⟩ := Cond.stringRef_spec hcur h1
  exact ⟨sa, vk_R.of h1 hev⟩
theorem th_ok {args : Array Value} {s : State} (hts : ∀ w ∈ lw_tbl, w.before args s = true) (hgv : (Jvm.Cond.and given_1 narrow_1).before args s = true) (sb : sB) (hsb : sb.1 = s.heap.size) : thOK sb s s.heap := by
  have htb := tb_ok hts
  have hs := flat_of_before _ hgv
  have hA : ∀ a : Nat, a < s.heap.size → ¬ (fun q => sb.1 ≤ q) a := fun a h => by rw [hsb]; exact Nat.not_le.mpr h
  exact ⟨vx_Zqof (hts _ q1_238) (htb _ q1_11) (hs _ (by decide +kernel)) hA, vx_Zqof (hts _ q2_0) (htb _ q1_11) (hs _ (by decide +kernel)) hA, fun z hz => str_ok (hts _ (xStr_in z hz)), va_Nc.of (hs _ (by decide +kernel)), va_Nc.of (hs _ (by decide +kernel))⟩
