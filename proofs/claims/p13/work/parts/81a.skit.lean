/-! What the heap itself says of the room used; a list of certificates that grows and shrinks (Search.path). -/
def slN (H : Heap) : Nat := (H.toList.map (·.slots.size)).sum
theorem slN_new {s T : State} {locs : List Loc} {k n : Nat} (h : s.sameButNew T locs k n) : slN T.heap = slN s.heap + ((T.heap.toList.drop s.heap.size).map (·.slots.size)).sum := by
  obtain ⟨-, h1, -, -, -, h2⟩ := h
  unfold slN
  have e1 : T.heap.toList.map (·.slots.size) = (T.heap.toList.take s.heap.size).map (·.slots.size) ++ (T.heap.toList.drop s.heap.size).map (·.slots.size) := by
    rw [← List.map_append, List.take_append_drop]
  have e2 : (T.heap.toList.take s.heap.size).map (·.slots.size) = s.heap.toList.map (·.slots.size) := by
    apply List.ext_getElem?
    intro i
    rw [List.getElem?_map, List.getElem?_map]
    by_cases hi : i < s.heap.size
    · rw [List.getElem?_take_of_lt hi]
      have hs : s.heap[i]? = some s.heap[i] := Array.getElem?_eq_getElem hi
      obtain ⟨c', h3, -, h5, -⟩ := h2 i _ hs
      have a1 : T.heap.toList[i]? = some c' := by rw [Array.getElem?_toList]; exact h3
      have a2 : s.heap.toList[i]? = some s.heap[i] := by rw [Array.getElem?_toList]; exact hs
      rw [a1, a2]
      exact congrArg some h5
    · have a1 : (List.take s.heap.size T.heap.toList)[i]? = none := List.getElem?_eq_none (by rw [List.length_take]; omega)
      have a2 : s.heap.toList[i]? = none := List.getElem?_eq_none (by rw [Array.length_toList]; omega)
      rw [a1, a2]
  rw [e1, List.sum_append, e2]
section NRW
variable {p : Program} {l : Launch} {e : Env} {R : Room} {s : State} {m : MethodId} {args : Array Value} {below : List Frame} {meth : Method} {c : Code} {H : Heap} {locs : List Loc} {cells slots : Nat} {Q : State → Prop} {g : JFrame}
/-- the heap bounds what the books say -/
theorem W.size (kk : H.size ≤ s.heap.size + cells → slN H ≤ slN s.heap + slots → W p l e R s m args below meth c H locs cells slots Q g) : W p l e R s m args below meth c H locs cells slots Q g := fun T hT X => by
  have h := X.same
  have e1 : (T.setVm s.vm).heap = H := hT
  have h3 := slN_new h
  have h4 : (T.setVm s.vm).heap.size ≤ s.heap.size + cells := h.2.2.1
  have h5 := h.2.2.2.2.1
  rw [e1] at h3 h4 h5
  exact kk h4 (by omega) T hT X
/-- the books by the heap -/
theorem W.narrow {k n : Nat} (h1 : H.size ≤ s.heap.size + k) (h2 : slN H ≤ slN s.heap + n) (kk : W p l e R s m args below meth c H locs k n Q g) : W p l e R s m args below meth c H locs cells slots Q g := fun T hT X => by
  have h := X.same
  have e1 : (T.setVm s.vm).heap = H := hT
  have h3 := slN_new h
  refine kk T hT { X with same := ⟨h.1, h.2.1, by rw [e1]; exact h1, h.2.2.2.1, ?_, h.2.2.2.2.2⟩ }
  rw [e1] at h3 ⊢
  omega
end NRW
/-- the cell that one more entry costs -/
def aC (o : alD) (z : Nat) : Nat := if z < alK o then 0 else 1
/-- the cells and slots that a list of sixteen may yet cost -/
def fC (o : alD) : Nat := if alK o < 10 then 3 else if alK o < 15 then 2 else if alK o < 16 then 1 else 0
def fS (o : alD) : Nat := if alK o < 10 then 47 else if alK o < 15 then 37 else if alK o < 16 then 22 else 0
/-- the capacity behind one more entry -/
def alN (o : alD) (z : Nat) : Nat := match o with
  | none => 10
  | some d => if z < d.2.1 then d.2.1 else d.2.1 + max 1 (d.2.1 / 2)
section ALR
variable {p : Program} {l : Launch} {e : Env} {R : Room} {s : State} {m : MethodId} {args : Array Value} {below : List Frame} {meth : Method} {c : Code} {H : Heap} {locs : List Loc} {cells slots : Nat} {Q : State → Prop}
variable {pc : Nat} {ls : Array Slot} {rest : List Value} {cc : ByteArray} {nL index : Nat} {Ts : List Cond} {own : String} {dC : Nat → ClassId} {dI : Nat → Nat → Nat} {pl : va_W} {tysB : List (ClassId × FieldType)} {A : Nat → Prop} {sb : sB} {H0 : Heap}
/-- list.add(v), its cells exactly -/
theorem al_addX (ci : Nat) (qc : vw_C) (v al z : Nat) (mo : Int32) (cO : ClassId) (o : alD) (hqc : classes[ci]? = some qc) (hca : Cond.castable qc.1 "java/lang/Object" ∈ nwords) (S : CallFix p m c cc nL s args Ts own) (hin : ∀ w ∈ tb, w ∈ Ts)
    (h1 : Cond.methodLink own index y_AL_add0 ∈ tb) (hN : nwOK sb s) (hT : stOK sb s H) (hAs : ∀ q, A q → sb.1 ≤ q) (hbH : sb.1 ≤ H.size) (hA : ∀ q, H0.size ≤ q → A q) (hK : va_K (dC, dI) classes tysB s) (t0 : Nat) (ht0 : tysB[t0]? = some (cO, .object "java/lang/Object"))
    (hP : va_P (dC, dI) classes ((al, .inr (11, [.ref (alO sb o), .int (nI z), .int mo])) :: (alC cO o ++ pl)) H) (hD : va_D A ((al, .inr (11, [.ref (alO sb o), .int (nI z), .int mo])) :: (alC cO o ++ pl))) (hS : va_S A H0 H locs)
    (hi : alI o z) (hz : z < 2 ^ 23) (hel : elF pl ci (alF o) z) (hv : ∃ (kv : Nat) (fv : List Value), pl[kv]? = some (v, .inr (ci, fv))) (hfr : 7 ≤ R.frames) (hlo : 230 ≤ R.locals) (hc9 : cells + aC o z ≤ R.cells) (hs9 : slots + alS o z ≤ R.slots)
    (hsize : ls.size = nL) (hW : (rest.map fun v => v.category).sum ≤ 8) (hdg : decode cc pc = .ok (.invokevirtual index, 3))
    (kk : ∀ (o' : alD) (mo' : Int32) (H1 : Heap) (locs1 : List Loc), alI o' (z + 1) → alK o' = alN o z → alK o' ≤ max (alK o) (10 + 2 * z) → elF pl ci (alF o') (z + 1) → (∀ j, j < z → alF o' j = alF o j) → alF o' z = some v →
      va_P (dC, dI) classes ((al, .inr (11, [.ref (alO sb o'), .int (nI (z + 1)), .int mo'])) :: (alC cO o' ++ pl)) H1 → va_D A ((al, .inr (11, [.ref (alO sb o'), .int (nI (z + 1)), .int mo'])) :: (alC cO o' ++ pl)) → va_S A H0 H1 locs1 →
      W p l e R s m args below meth c H1 locs1 (cells + aC o z) (slots + alS o z) Q (F0 m (pc + 3) ls (.int 1 :: rest))) :
    W p l e R s m args below meth c H locs cells slots Q (F0 m pc ls (.ref v :: .ref al :: rest)) := by
  obtain ⟨kv, fv, hv9⟩ := hv
  have elS : ∀ (f' : Nat → Option Nat), (∀ j, j < z → f' j = alF o j) → f' z = some v → elF pl ci f' (z + 1) := by
    intro f' h2 h3 i y hi hy
    rcases Nat.lt_succ_iff_lt_or_eq.mp hi with h4 | h4
    · exact hel i y h4 (by rw [← h2 i h4]; exact hy)
    · subst h4
      rw [h3] at hy
      cases hy
      exact ⟨kv, fv, hv9⟩
  cases o with
  | none =>
    have hz0 : z = 0 := hi
    subst hz0
    have hP9 : va_P (dC, dI) classes ([(al, .inr (11, [.ref (sb.2 5), .int (nI 0), .int mo]))] ++ pl) H := hP
    have hD9 : va_D A ([(al, .inr (11, [.ref (sb.2 5), .int (nI 0), .int mo]))] ++ pl) := hD
    have hFc := va_free (wc := [(al, .inr (11, [.ref (sb.2 5), .int (nI 0), .int mo]))]) hD9 hS hA [0] rfl
    refine va_calli (mf_runV (As := [.ref v]) (rest := rest) S hin (c_addB l dC dI sb pl ci qc v kv fv al mo cO H.size hqc hca hv9) hP9.back (va_out hP9 hD9) h1 q4_108 q4_109 q1_4 q4_110 (n := 1) (by decide +kernel) rfl ⟨rfl, rfl⟩ ⟨hfr, (by show 8 + (2 + 11) + 195 ≤ R.locals; omega)⟩ ⟨hc9, hs9⟩ hN hT hAs hbH hK hP9 hD9 [0] (by decide) rfl [t0] (by simp [ht0]) 0 11 rfl rfl rfl hsize rfl hW hdg) hS (fun q _ h => hFc q h) hFc (fun r u tS H1 locs ht hvm hw hB hz1 hk1 hS => ?_)
    obtain ⟨q, mo'⟩ := u
    obtain ⟨hP1, hK1, hD1⟩ := hB
    rw [ht] at hP1
    obtain ⟨hP2, hD2⟩ := va_joinF hP9 hD9 [0] rfl hk1 hFc hP1 hD1
    have hw : r = 1 := hw
    subst hw
    exact kk (some (q, 10, va_up (fun _ => none) 0 (some v))) mo' H1 locs ⟨by show 0 + 1 ≤ 10; omega, by show 10 ≤ 10; omega, by show 10 < 2 ^ 24; omega⟩ rfl (by show 10 ≤ max 0 (10 + 2 * 0); omega) (elS _ (fun j hj => by omega) (show va_up (fun _ => none) 0 (some v) 0 = some v from va_up_self _ _ _)) (fun j hj => by omega) (show va_up (fun _ => none) 0 (some v) 0 = some v from va_up_self _ _ _) hP2 hD2 hS
  | some d =>
    obtain ⟨el, cap, f⟩ := d
    have hi : z ≤ cap ∧ 10 ≤ cap ∧ cap < 2 ^ 24 := hi
    have hP9 : va_P (dC, dI) classes ([(al, .inr (11, [.ref el, .int (nI z), .int mo])), (el, .inl (cO, cap, .inr (.inr (.inr (.inr f)))))] ++ pl) H := hP
    have hD9 : va_D A ([(al, .inr (11, [.ref el, .int (nI z), .int mo])), (el, .inl (cO, cap, .inr (.inr (.inr (.inr f)))))] ++ pl) := hD
    have hFc := va_free (wc := [(al, .inr (11, [.ref el, .int (nI z), .int mo])), (el, .inl (cO, cap, .inr (.inr (.inr (.inr f)))))]) hD9 hS hA [0, 1] rfl
    by_cases hzc : z < cap
    · have e0 : alS (some (el, cap, f)) z = 0 := if_pos hzc
      have e1 : aC (some (el, cap, f)) z = 0 := if_pos hzc
      rw [e0] at hs9 kk
      rw [e1] at hc9 kk
      refine va_calli (mf_runV (As := [.ref v]) (rest := rest) S hin (c_addI l dC dI sb pl ci qc v kv fv al el z cap mo cO f H.size hqc hca hv9 hzc (by omega)) hP9.back (va_out hP9 hD9) h1 q4_108 q4_109 q1_4 q4_110 (n := 1) (by decide +kernel) rfl ⟨rfl, rfl⟩ ⟨hfr, (by show 8 + (2 + 11) + 195 ≤ R.locals; omega)⟩ ⟨hc9, hs9⟩ hN hT hAs hbH hK hP9 hD9 [0, 1] (by decide) rfl [t0] (by simp [ht0]) 0 11 rfl rfl rfl hsize rfl hW hdg) hS (fun q _ h => hFc q h) hFc (fun r u tS H1 locs ht hvm hw hB hz1 hk1 hS => ?_)
      obtain ⟨hP1, hK1, hD1⟩ := hB
      rw [ht] at hP1
      obtain ⟨hP2, hD2⟩ := va_joinF hP9 hD9 [0, 1] rfl hk1 hFc hP1 hD1
      have hw : r = 1 := hw
      subst hw
      exact kk (some (el, cap, va_up f z (some v))) u H1 locs ⟨by show z + 1 ≤ cap; omega, hi.2.1, hi.2.2⟩ (show cap = alN (some (el, cap, f)) z from (if_pos hzc).symm) (Nat.le_max_left _ _) (elS _ (fun j hj => va_up_ne _ _ (by omega)) (va_up_self _ _ _)) (fun j hj => va_up_ne _ _ (by omega)) (va_up_self _ _ _) hP2 hD2 hS
    · have hzc : z = cap := by omega
      subst hzc
      have e0 : alS (some (el, z, f)) z = z + max 1 (z / 2) := if_neg (Nat.lt_irrefl _)
      have e1 : aC (some (el, z, f)) z = 1 := if_neg (Nat.lt_irrefl _)
      rw [e0] at hs9 kk
      rw [e1] at hc9 kk
      refine va_calli (mf_runV (As := [.ref v]) (rest := rest) S hin (c_addA l dC dI sb pl ci qc v kv fv al el z mo cO f H.size hqc hca hv9 hel (by omega) (by omega)) hP9.back (va_out hP9 hD9) h1 q4_108 q4_109 q1_4 q4_110 (n := 1) (by decide +kernel) rfl ⟨rfl, rfl⟩ ⟨hfr, (by show 8 + (2 + 11) + 195 ≤ R.locals; omega)⟩ ⟨hc9, hs9⟩ hN hT hAs hbH hK hP9 hD9 [0, 1] (by decide) rfl [t0] (by simp [ht0]) 0 11 rfl rfl rfl hsize rfl hW hdg) hS (fun q _ h => hFc q h) hFc (fun r u tS H1 locs ht hvm hw hB hz1 hk1 hS => ?_)
      obtain ⟨q, mo'⟩ := u
      obtain ⟨hP1, hK1, hD1⟩ := hB
      rw [ht] at hP1
      obtain ⟨hP2, hD2⟩ := va_joinF hP9 hD9 [0, 1] rfl hk1 hFc hP1 hD1
      have hw : r = 1 := hw
      subst hw
      have g1 : ∀ j, j < z → va_up (va_cpy f (fun _ => none) 0 0 z) z (some v) j = f j := fun j hj => by
        rw [va_up_ne _ _ (by omega)]
        show (if 0 ≤ j ∧ j < 0 + z then f (0 + (j - 0)) else none) = f j
        rw [if_pos (by omega), Nat.zero_add, Nat.sub_zero]
      exact kk (some (q, z + max 1 (z / 2), va_up (va_cpy f (fun _ => none) 0 0 z) z (some v))) mo' H1 locs ⟨by show z + 1 ≤ z + max 1 (z / 2); omega, by show 10 ≤ z + max 1 (z / 2); omega, by show z + max 1 (z / 2) < 2 ^ 24; omega⟩ (show z + max 1 (z / 2) = alN (some (el, z, f)) z from (if_neg (Nat.lt_irrefl _)).symm) (by show z + max 1 (z / 2) ≤ max z (10 + 2 * z); omega) (elS _ g1 (va_up_self _ _ _)) g1 (va_up_self _ _ _) hP2 hD2 hS
end ALR
section ALX
variable {p : Program} {l : Launch} {e : Env} {R : Room} {s : State} {m : MethodId} {args : Array Value} {below : List Frame} {meth : Method} {c : Code} {H : Heap} {locs : List Loc} {cells slots : Nat} {Q : State → Prop}
variable {pc : Nat} {ls : Array Slot} {rest : List Value} {cc : ByteArray} {nL index : Nat} {Ts : List Cond} {own : String} {dC : Nat → ClassId} {dI : Nat → Nat → Nat} {pl : va_W} {tysB : List (ClassId × FieldType)} {A : Nat → Prop} {sb : sB} {H0 : Heap}
/-- list.remove(the last) -/
theorem al_remX (al z q : Nat) (mo : Int32) (cO : ClassId) (o : alD) (S : CallFix p m c cc nL s args Ts own) (hin : ∀ w ∈ tb, w ∈ Ts)
    (h1 : Cond.methodLink own index y_AL_remove ∈ tb) (hN : nwOK sb s) (hT : stOK sb s H) (hAs : ∀ q, A q → sb.1 ≤ q) (hbH : sb.1 ≤ H.size) (hA : ∀ q, H0.size ≤ q → A q) (hK : va_K (dC, dI) classes tysB s) (t0 : Nat) (ht0 : tysB[t0]? = some (cO, .object "java/lang/Object"))
    (hP : va_P (dC, dI) classes ((al, .inr (11, [.ref (alO sb o), .int (nI (z + 1)), .int mo])) :: (alC cO o ++ pl)) H) (hD : va_D A ((al, .inr (11, [.ref (alO sb o), .int (nI (z + 1)), .int mo])) :: (alC cO o ++ pl))) (hS : va_S A H0 H locs)
    (hi : alI o (z + 1)) (hq : alF o z = some q) (hfr : 3 ≤ R.frames) (hlo : 80 ≤ R.locals) (hc9 : cells ≤ R.cells) (hs9 : slots ≤ R.slots)
    (hsize : ls.size = nL) (hW : (rest.map fun v => v.category).sum ≤ 8) (hdg : decode cc pc = .ok (.invokevirtual index, 3))
    (kk : ∀ (o' : alD) (mo' : Int32) (H1 : Heap) (locs1 : List Loc), alI o' z → alK o' = alK o → (∀ j, j < z → alF o' j = alF o j) →
      va_P (dC, dI) classes ((al, .inr (11, [.ref (alO sb o'), .int (nI z), .int mo'])) :: (alC cO o' ++ pl)) H1 → va_D A ((al, .inr (11, [.ref (alO sb o'), .int (nI z), .int mo'])) :: (alC cO o' ++ pl)) → va_S A H0 H1 locs1 →
      W p l e R s m args below meth c H1 locs1 cells slots Q (F0 m (pc + 3) ls (.ref q :: rest))) :
    W p l e R s m args below meth c H locs cells slots Q (F0 m pc ls (.int (nI z) :: .ref al :: rest)) := by
  cases o with
  | none => cases hq
  | some d =>
    obtain ⟨el, cap, f⟩ := d
    have hi : z + 1 ≤ cap ∧ 10 ≤ cap ∧ cap < 2 ^ 24 := hi
    have hP9 : va_P (dC, dI) classes ([(al, .inr (11, [.ref el, .int (nI (z + 1)), .int mo])), (el, .inl (cO, cap, .inr (.inr (.inr (.inr f)))))] ++ pl) H := hP
    have hD9 : va_D A ([(al, .inr (11, [.ref el, .int (nI (z + 1)), .int mo])), (el, .inl (cO, cap, .inr (.inr (.inr (.inr f)))))] ++ pl) := hD
    have hFc := va_free (wc := [(al, .inr (11, [.ref el, .int (nI (z + 1)), .int mo])), (el, .inl (cO, cap, .inr (.inr (.inr (.inr f)))))]) hD9 hS hA [0, 1] rfl
    refine va_callr (mu_runV (As := [.int (nI z)]) (rest := rest) S hin (c_AL_removeLast l dC dI sb al el z cap q mo cO f H.size hi.1 (by omega) hq) h1 q6_34 q6_35 q1_4 q6_36 (n := 1) (by decide +kernel) rfl ⟨rfl, rfl⟩ ⟨hfr, (by show 8 + (4 + 11) + 43 ≤ R.locals; omega)⟩ ⟨hc9, hs9⟩ hN hT hAs hbH hK hP9 hD9 [0, 1] (by decide) rfl [t0] (by simp [ht0]) 0 11 rfl rfl rfl hsize rfl hW hdg) hS (fun q _ h => hFc q h) hFc (fun u ra tS H1 locs ht hvm hw hB hz1 hk1 hS => ?_)
    obtain ⟨hra, hP1, hK1, hD1⟩ := hB
    subst hra
    rw [ht] at hP1
    obtain ⟨hP2, hD2⟩ := va_joinF hP9 hD9 [0, 1] rfl hk1 hFc hP1 hD1
    exact kk (some (el, cap, va_up f z none)) u H1 locs ⟨by show z ≤ cap; omega, hi.2.1, hi.2.2⟩ rfl (fun j hj => va_up_ne _ _ (by omega)) hP2 hD2 hS
end ALX
/-- what has no kind stays, but for one list and arrays of references -/
def FRs (γ : cG) (Ad : List Nat) (l : Nat) (G G' : va_W) : Prop := ∀ q : Nat × va_E, q.1 ∉ Ad → q.1 ≠ l → (∀ z f, q.2 ≠ .inl (γ.2.2.2, z, .inr (.inr (.inr (.inr f))))) → q ∈ G → q ∈ G'
theorem FRs.rf (γ : cG) (Ad : List Nat) (l : Nat) (G : va_W) : FRs γ Ad l G G := fun _ _ _ _ h => h
theorem FRs.tr {γ : cG} {Ad : List Nat} {l : Nat} {G1 G2 G3 : va_W} (h : FRs γ Ad l G1 G2) (g : FRs γ Ad l G2 G3) : FRs γ Ad l G1 G3 := fun q a b d z => g q a b d (h q a b d z)
theorem FR.s {γ : cG} {Ad : List Nat} {l : Nat} {G G' : va_W} (h : FR Ad G G') : FRs γ Ad l G G' := fun q a _ _ z => h q a z
section PLN
variable {γ : cG} {sb : sB} {κ : kE} {Ad : List Nat} {ν : Nat → cN} {ω : Nat → List Nat} {L l : Nat} {o : alD} {as : List Nat} {G : va_W}
theorem pl_split (h : PLx γ sb κ Ad 8 l o as G) : ∃ (m : Int32) (R : va_W), G.Perm ((l, .inr (11, [.ref (alO sb o), .int (nI as.length), .int m])) :: (alC γ.2.2.2 o ++ R)) := by
  obtain ⟨h1, ⟨m, h2⟩, h3, h4⟩ := h
  obtain ⟨s, t, e⟩ := List.append_of_mem h2
  have hp : G.Perm ((l, .inr (11, [.ref (alO sb o), .int (nI as.length), .int m])) :: (s ++ t)) := by rw [e]; exact List.perm_middle
  cases o with
  | none => exact ⟨m, s ++ t, hp⟩
  | some d =>
    have h5 := (h3 _ (List.mem_singleton.mpr rfl)).1
    have h6 : (d.1, (.inl (γ.2.2.2, d.2.1, .inr (.inr (.inr (.inr d.2.2)))) : va_E)) ∈ s ++ t := by
      rcases List.mem_cons.mp (hp.mem_iff.mp h5) with q | q
      · cases q
      · exact q
    obtain ⟨s2, t2, e2⟩ := List.append_of_mem h6
    refine ⟨m, s2 ++ t2, hp.trans (List.Perm.cons _ ?_)⟩
    rw [e2]
    exact List.perm_middle
theorem TY.perm {G' : va_W} (h : TY γ κ Ad ν ω L G) (hp : G.Perm G') : TY γ κ Ad ν ω L G' := ⟨fun a ha => by
  obtain ⟨c, hc⟩ := h.1 a ha
  exact ⟨c, hp.mem_iff.mp hc⟩, fun q hq => h.2 q (hp.mem_iff.mpr hq)⟩
theorem pl_cell (hT : TY γ κ Ad ν ω L G) (h : PLx γ sb κ Ad 8 l o as G) {m : Int32} {R : va_W} (hp : G.Perm ((l, .inr (11, [.ref (alO sb o), .int (nI as.length), .int m])) :: (alC γ.2.2.2 o ++ R))) {a p q : Nat} (hk : tK κ Ad a (8, p, q)) : ∃ (k : Nat) (fs : List Value), R[k]? = some (a, .inr (3, fs)) := by
  obtain ⟨i, nm, pe, ec, se, su, mo, ok, ik, ha, si, en, bo, sg, is, iu, h1, h2, hg⟩ := ty_8 hT hk
  have hm := hp.mem_iff.mp (List.mem_of_getElem? hg)
  rcases List.mem_cons.mp hm with q1 | q1
  · exact absurd (congrArg Prod.fst q1) (fun e => h.1 (by rw [← show a = l from e]; exact hk.1))
  · rcases List.mem_append.mp q1 with q2 | q2
    · exact absurd hk.1 (h.2.2.1 _ q2 : _ ∧ _).2
    · obtain ⟨k, hk9⟩ := List.getElem?_of_mem q2
      exact ⟨k, _, hk9⟩
theorem pl_elF (hT : TY γ κ Ad ν ω L G) (h : PLx γ sb κ Ad 8 l o as G) {m : Int32} {R : va_W} (hp : G.Perm ((l, .inr (11, [.ref (alO sb o), .int (nI as.length), .int m])) :: (alC γ.2.2.2 o ++ R))) : elF R 3 (alF o) as.length := by
  intro i y hi hy
  obtain ⟨h1, h2, h3, h4, h5, h6, h7⟩ := h
  rw [h6 i hi] at hy
  cases hy
  obtain ⟨p, q, hk, -⟩ := h7 i hi
  exact pl_cell hT ⟨h1, h2, h3, h4, h5, h6, h7⟩ hp hk
theorem pl_new {A : Nat → Prop} (hT : TY γ κ Ad ν ω L G) (h : PLx γ sb κ Ad 8 l o as G) {m m' : Int32} {R : va_W} (hp : G.Perm ((l, .inr (11, [.ref (alO sb o), .int (nI as.length), .int m])) :: (alC γ.2.2.2 o ++ R))) {o' : alD} {as' : List Nat} {z' : Nat} (hz' : z' = as'.length)
    (hD : va_D A ((l, .inr (11, [.ref (alO sb o'), .int (nI z'), .int m'])) :: (alC γ.2.2.2 o' ++ R))) (hi : alI o' z') (hz : z' < 2 ^ 20) (hf : ∀ i, i < z' → alF o' i = some (as'.getD i 0)) (hk : ∀ i, i < z' → ∃ p q, tK κ Ad (as'.getD i 0) (8, p, q)) :
    TY γ κ Ad ν ω L ((l, .inr (11, [.ref (alO sb o'), .int (nI z'), .int m'])) :: (alC γ.2.2.2 o' ++ R)) ∧ PLx γ sb κ Ad 8 l o' as' ((l, .inr (11, [.ref (alO sb o'), .int (nI z'), .int m'])) :: (alC γ.2.2.2 o' ++ R)) ∧ FRs γ Ad l G ((l, .inr (11, [.ref (alO sb o'), .int (nI z'), .int m'])) :: (alC γ.2.2.2 o' ++ R)) := by
  subst hz'
  have hR : ∀ q : Nat × va_E, q ∈ G → q.1 ∈ Ad → q ∈ R := fun q hq ha => by
    rcases List.mem_cons.mp (hp.mem_iff.mp hq) with q1 | q1
    · exact absurd ha (by rw [q1]; exact h.1)
    · rcases List.mem_append.mp q1 with q2 | q2
      · exact absurd ha (h.2.2.1 _ q2).2
      · exact q2
  have hN : ∀ q, q ∈ alC γ.2.2.2 o' → q.1 ∉ Ad := fun q hq ha => by
    cases o' with
    | none => cases hq
    | some d =>
      have hq := List.mem_singleton.mp hq
      obtain ⟨c, hc⟩ := hT.1 _ ha
      obtain ⟨k, hk9⟩ := List.getElem?_of_mem (hR _ hc ha)
      have := hD.1 1 (k + 2) _ _ (show _ = some _ from rfl) (show _ = some (q.1, c) from hk9) (by rw [hq])
      omega
  refine ⟨⟨fun a ha => ?_, fun q hq ha => ?_⟩, ⟨h.1, ⟨m', List.mem_cons_self⟩, fun q hq => ⟨List.mem_cons_of_mem _ (List.mem_append_left _ hq), hN q hq⟩, hi, hz, hf, fun i hi => ?_⟩, fun q h1 h2 h3 hq => ?_⟩
  · obtain ⟨c, hc⟩ := hT.1 a ha
    exact ⟨c, List.mem_cons_of_mem _ (List.mem_append_right _ (hR _ hc ha))⟩
  · rcases List.mem_cons.mp hq with q1 | q1
    · exact absurd ha (by rw [q1]; exact h.1)
    · rcases List.mem_append.mp q1 with q2 | q2
      · exact absurd ha (hN q q2)
      · exact hT.2 q (hp.mem_iff.mpr (List.mem_cons_of_mem _ (List.mem_append_right _ q2))) ha
  · obtain ⟨p, q, hk9⟩ := hk i hi
    exact ⟨p, q, hk9, fun e => by cases e⟩
  · rcases List.mem_cons.mp (hp.mem_iff.mp hq) with q1 | q1
    · exact absurd (by rw [q1]) h2
    · rcases List.mem_append.mp q1 with q2 | q2
      · cases o with
        | none => cases q2
        | some d => exact absurd (by rw [List.mem_singleton.mp q2]) (h3 d.2.1 _)
      · exact List.mem_cons_of_mem _ (List.mem_append_right _ q2)
theorem gD_snoc {as : List Nat} {v i : Nat} (hi : i < as.length + 1) : (as ++ [v]).getD i 0 = if i < as.length then as.getD i 0 else v := by
  rw [List.getD_eq_getElem?_getD, List.getD_eq_getElem?_getD]
  by_cases h : i < as.length
  · rw [if_pos h, List.getElem?_append_left h]
  · rw [if_neg h, show i = as.length by omega, List.getElem?_append_right (Nat.le_refl _)]
    simp
theorem pl_kin (h : PLx γ sb κ Ad 8 l o as G) : ∀ i, i < as.length → ∃ p q, tK κ Ad (as.getD i 0) (8, p, q) := fun i hi => by
  obtain ⟨p, q, hk, -⟩ := h.2.2.2.2.2.2 i hi
  exact ⟨p, q, hk⟩
theorem pl_addF (h : PLx γ sb κ Ad 8 l o as G) {o' : alD} {v : Nat} (hs : ∀ j, j < as.length → alF o' j = alF o j) (hv : alF o' as.length = some v) : ∀ i, i < as.length + 1 → alF o' i = some ((as ++ [v]).getD i 0) := fun i hi => by
  rw [gD_snoc hi]
  by_cases q : i < as.length
  · rw [if_pos q, hs i q, h.2.2.2.2.2.1 i q]
  · rw [if_neg q, show i = as.length by omega, hv]
theorem pl_addK (h : PLx γ sb κ Ad 8 l o as G) {v p q : Nat} (hv : tK κ Ad v (8, p, q)) : ∀ i, i < as.length + 1 → ∃ p q, tK κ Ad ((as ++ [v]).getD i 0) (8, p, q) := fun i hi => by
  rw [gD_snoc hi]
  by_cases g : i < as.length
  · rw [if_pos g]; exact pl_kin h i g
  · rw [if_neg g]; exact ⟨p, q, hv⟩
theorem gD_drop {as : List Nat} {i : Nat} (hi : i < as.length - 1) : as.dropLast.getD i 0 = as.getD i 0 := by
  rw [List.getD_eq_getElem?_getD, List.getD_eq_getElem?_getD, List.getElem?_dropLast, if_pos hi]
theorem aC_pay {o o' : alD} {z : Nat} (hi : alI o z) (hz : z < 16) (hk : alK o' = alN o z) : aC o z + fC o' ≤ fC o ∧ alS o z + fS o' ≤ fS o := by
  unfold aC fC fS
  rw [hk]
  cases o with
  | none =>
    have hi : z = 0 := hi
    subst hi
    exact ⟨by decide, by decide⟩
  | some d =>
    have hi : z ≤ d.2.1 ∧ 10 ≤ d.2.1 ∧ d.2.1 < 2 ^ 24 := hi
    show (if z < d.2.1 then 0 else 1) + (if (if z < d.2.1 then d.2.1 else d.2.1 + max 1 (d.2.1 / 2)) < 10 then 3 else if (if z < d.2.1 then d.2.1 else d.2.1 + max 1 (d.2.1 / 2)) < 15 then 2 else if (if z < d.2.1 then d.2.1 else d.2.1 + max 1 (d.2.1 / 2)) < 16 then 1 else 0) ≤ (if d.2.1 < 10 then 3 else if d.2.1 < 15 then 2 else if d.2.1 < 16 then 1 else 0) ∧ (if z < d.2.1 then 0 else d.2.1 + max 1 (d.2.1 / 2)) + (if (if z < d.2.1 then d.2.1 else d.2.1 + max 1 (d.2.1 / 2)) < 10 then 47 else if (if z < d.2.1 then d.2.1 else d.2.1 + max 1 (d.2.1 / 2)) < 15 then 37 else if (if z < d.2.1 then d.2.1 else d.2.1 + max 1 (d.2.1 / 2)) < 16 then 22 else 0) ≤ (if d.2.1 < 10 then 47 else if d.2.1 < 15 then 37 else if d.2.1 < 16 then 22 else 0)
    obtain ⟨h1, h2, h3⟩ := hi
    by_cases g : z < d.2.1
    · simp only [if_pos g, Nat.zero_add]
      exact ⟨Nat.le_refl _, Nat.le_refl _⟩
    · simp only [if_neg g]
      generalize d.2.1 = k at *
      have e : z = k := by omega
      have e2 : k = 10 ∨ k = 11 ∨ k = 12 ∨ k = 13 ∨ k = 14 ∨ k = 15 := by omega
      clear e g h1 h2 h3 hk
      rcases e2 with rfl | rfl | rfl | rfl | rfl | rfl <;> decide
theorem aC_le {o : alD} {z : Nat} (hi : alI o z) (hz : z < 16) : aC o z ≤ 1 ∧ alS o z ≤ 22 := by
  unfold aC
  refine ⟨by split <;> omega, ?_⟩
  cases o with
  | none => exact (by decide : 10 ≤ 22)
  | some d =>
    have hi : z ≤ d.2.1 ∧ 10 ≤ d.2.1 ∧ d.2.1 < 2 ^ 24 := hi
    show (if z < d.2.1 then 0 else d.2.1 + max 1 (d.2.1 / 2)) ≤ 22
    split <;> omega
end PLN
