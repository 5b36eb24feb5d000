/-! Lists as data: a list's own array, if it has one, stands in the tail of the world. -/
abbrev alD : Type := Option (Nat × Nat × (Nat → Option Nat))
def alO (sb : sB) : alD → Nat
  | none => sb.2 5
  | some d => d.1
def alC (cO : ClassId) : alD → va_W
  | none => []
  | some d => [(d.1, .inl (cO, d.2.1, .inr (.inr (.inr (.inr d.2.2)))))]
def alK : alD → Nat
  | none => 0
  | some d => d.2.1
def alF : alD → Nat → Option Nat
  | none => fun _ => none
  | some d => d.2.2
/-- a list with z entries -/
def alI (o : alD) (z : Nat) : Prop := match o with
  | none => z = 0
  | some d => z ≤ d.2.1 ∧ 10 ≤ d.2.1 ∧ d.2.1 < 2 ^ 24
/-- the slots that one more entry costs -/
def alS (o : alD) (z : Nat) : Nat := match o with
  | none => 10
  | some d => if z < d.2.1 then 0 else d.2.1 + max 1 (d.2.1 / 2)
theorem va_P.perm {D : va_G} {w w' : va_W} {H : Heap} (hp : w.Perm w') (h : va_P D classes w H) : va_P D classes w' H := fun k q hk => by
  obtain ⟨j, hj⟩ := List.getElem?_of_mem (hp.mem_iff.mpr (List.mem_of_getElem? hk))
  exact h j q hj
theorem va_D.perm {A : Nat → Prop} {w w' : va_W} (hp : w.Perm w') (h : va_D A w) : va_D A w' := by
  have hn : (w.map Prod.fst).Pairwise (fun a b => a ≠ b) := by
    rw [List.pairwise_iff_getElem]
    intro i j hi hj hij he
    rw [List.length_map] at hi hj
    rw [List.getElem_map, List.getElem_map] at he
    have := h.1 i j _ _ (List.getElem?_eq_getElem hi) (List.getElem?_eq_getElem hj) he
    omega
  have hn' : (w'.map Prod.fst).Pairwise (fun a b => a ≠ b) := (List.Perm.pairwise_iff (fun q e => q e.symm) (hp.map Prod.fst)).mp hn
  rw [List.pairwise_iff_getElem] at hn'
  have key : ∀ (i j : Nat) (p q : Nat × va_E), w'[i]? = some p → w'[j]? = some q → p.1 = q.1 → ¬ i < j := fun i j p q hi hj e h1 => by
    obtain ⟨hi', ei⟩ := List.getElem?_eq_some_iff.mp hi
    obtain ⟨hj', ej⟩ := List.getElem?_eq_some_iff.mp hj
    refine hn' i j (by rw [List.length_map]; exact hi') (by rw [List.length_map]; exact hj') h1 ?_
    rw [List.getElem_map, List.getElem_map, ei, ej]
    exact e
  refine ⟨fun i j p q hi hj e => ?_, fun k q hk => ?_⟩
  · have h1 := key i j p q hi hj e
    have h2 := key j i q p hj hi e.symm
    omega
  · obtain ⟨j, hj⟩ := List.getElem?_of_mem (hp.mem_iff.mpr (List.mem_of_getElem? hk))
    exact h.2 j q hj
/-- blocks in another order -/
theorem blk_perm (f : Nat → va_W) (is js : List Nat) (h : is.isPerm js = true) : (is.flatMap f).Perm (js.flatMap f) := List.Perm.flatMap_right f (List.isPerm_iff.mp h)
/-- a call that had the front of the world -/
theorem va_joinF {A0 : Nat → Prop} {D : va_G} {wc w1 pl : va_W} {H H1 : Heap} (hP : va_P D classes (wc ++ pl) H) (hD : va_D A0 (wc ++ pl)) (is : List Nat) (hC : is.map (fun i => wc[i]?) = wc.map some)
    (hk : ∀ q : Nat, q < H.size → ¬ va_A wc H.size q → H1[q]? = H[q]?) (hF : ∀ q, va_A wc H.size q → A0 q) (hP1 : va_P D classes w1 H1) (hD1 : va_D (va_A wc H.size) w1) : va_P D classes (w1 ++ pl) H1 ∧ va_D A0 (w1 ++ pl) := va_joinQ (wr := []) (cx := wc) hP hD is [] hC rfl rfl (fun i h => by cases h) hk hF hP1 hD1
/-- what stands behind the front lies outside of it -/
theorem va_out {A0 : Nat → Prop} {D : va_G} {wc pl : va_W} {H : Heap} (hP : va_P D classes (wc ++ pl) H) (hD : va_D A0 (wc ++ pl)) (k : Nat) (q : Nat × va_E) (hk : pl[k]? = some q) : ¬ va_A wc H.size q.1 := by
  have h2 : (wc ++ pl)[wc.length + k]? = some q := by rw [List.getElem?_append_right (by omega), Nat.add_sub_cancel_left]; exact hk
  intro h
  rcases h with ⟨j, e, hj⟩ | h
  · have hl := (List.getElem?_eq_some_iff.mp hj).1
    have h3 : (wc ++ pl)[j]? = some (q.1, e) := by rw [List.getElem?_append_left hl]; exact hj
    have := hD.1 _ _ _ _ h2 h3 rfl
    omega
  · have := (hP _ _ h2).lt
    omega
theorem va_P.front {D : va_G} {w1 w2 : va_W} {H : Heap} (h : va_P D classes (w1 ++ w2) H) : va_P D classes w1 H := fun k q hk => h k q (by rw [List.getElem?_append_left (List.getElem?_eq_some_iff.mp hk).1]; exact hk)
theorem va_P.back {D : va_G} {w1 w2 : va_W} {H : Heap} (h : va_P D classes (w1 ++ w2) H) : va_P D classes w2 H := fun k q hk => h (w1.length + k) q (by rw [List.getElem?_append_right (by omega), Nat.add_sub_cancel_left]; exact hk)
theorem alI.z {o : alD} {z : Nat} (h : alI o z) : z < 2 ^ 24 := by
  cases o with
  | none => have h : z = 0 := h
            omega
  | some d => have h : z ≤ d.2.1 ∧ 10 ≤ d.2.1 ∧ d.2.1 < 2 ^ 24 := h
              omega
section ALR
variable {p : Program} {l : Launch} {e : Env} {R : Room} {s : State} {m : MethodId} {args : Array Value} {below : List Frame} {meth : Method} {c : Code} {H : Heap} {locs : List Loc} {cells slots : Nat} {Q : State → Prop}
variable {pc : Nat} {ls : Array Slot} {rest : List Value} {cc : ByteArray} {nL index : Nat} {Ts : List Cond} {own : String} {dC : Nat → ClassId} {dI : Nat → Nat → Nat} {pl : va_W} {tysB : List (ClassId × FieldType)} {A : Nat → Prop} {sb : sB} {H0 : Heap}
/-- a loop whose world changes and that makes cells -/
theorem w_loopC {D : va_G} {α : Type} (J : α → Prop) (μ : α → Nat) (lv : α → List (Nat × Value)) (st : α → List Value) (F : α → va_W) (cf sf : α → Nat) (nL pc : Nat)
    (step : ∀ (a : α) (H : Heap) (locs : List Loc) (ls : Array Slot), J a → va_P D classes (F a) H → va_D A (F a) → va_S A H0 H locs → lv_has ls nL (lv a) → (∀ (a' : α) (H' : Heap) (locs' : List Loc) (ls' : Array Slot), μ a' < μ a → J a' → va_P D classes (F a') H' → va_D A (F a') → va_S A H0 H' locs' → lv_has ls' nL (lv a') → W p l e R s m args below meth c H' locs' (cf a') (sf a') Q (F0 m pc ls' (st a'))) → W p l e R s m args below meth c H locs (cf a) (sf a) Q (F0 m pc ls (st a)))
    (a : α) (H : Heap) (locs : List Loc) (ls : Array Slot) (hJ : J a) (hP : va_P D classes (F a) H) (hD : va_D A (F a)) (hS : va_S A H0 H locs) (hl : lv_has ls nL (lv a)) : W p l e R s m args below meth c H locs (cf a) (sf a) Q (F0 m pc ls (st a)) := by
  have key : ∀ (n : Nat) (a : α) (H : Heap) (locs : List Loc) (ls : Array Slot), μ a < n → J a → va_P D classes (F a) H → va_D A (F a) → va_S A H0 H locs → lv_has ls nL (lv a) → W p l e R s m args below meth c H locs (cf a) (sf a) Q (F0 m pc ls (st a)) := by
    intro n
    induction n with
    | zero => intro a H locs ls h; exact absurd h (Nat.not_lt_zero _)
    | succ n ih =>
      intro a H locs ls h hJ hP hD hS hl
      exact step a H locs ls hJ hP hD hS hl (fun a' H' locs' ls' h' hJ' hP' hD' hS' hl' => ih a' H' locs' ls' (by omega) hJ' hP' hD' hS' hl')
  exact key (μ a + 1) a H locs ls (Nat.lt_succ_self _) hJ hP hD hS hl
/-- list.add(v) -/
theorem al_add (ci : Nat) (qc : vw_C) (v al z : Nat) (mo : Int32) (cO : ClassId) (o : alD) (hqc : classes[ci]? = some qc) (hca : Cond.castable qc.1 "java/lang/Object" ∈ nwords) (S : CallFix p m c cc nL s args Ts own) (hin : ∀ w ∈ tb, w ∈ Ts)
    (h1 : Cond.methodLink own index y_AL_add0 ∈ tb) (hN : nwOK sb s) (hT : stOK sb s H) (hAs : ∀ q, A q → sb.1 ≤ q) (hbH : sb.1 ≤ H.size) (hA : ∀ q, H0.size ≤ q → A q) (hK : va_K (dC, dI) classes tysB s) (t0 : Nat) (ht0 : tysB[t0]? = some (cO, .object "java/lang/Object"))
    (hP : va_P (dC, dI) classes ((al, .inr (11, [.ref (alO sb o), .int (nI z), .int mo])) :: (alC cO o ++ pl)) H) (hD : va_D A ((al, .inr (11, [.ref (alO sb o), .int (nI z), .int mo])) :: (alC cO o ++ pl))) (hS : va_S A H0 H locs)
    (hi : alI o z) (hz : z < 2 ^ 23) (hel : elF pl ci (alF o) z) (hv : ∃ (kv : Nat) (fv : List Value), pl[kv]? = some (v, .inr (ci, fv))) (hfr : 7 ≤ R.frames) (hlo : 230 ≤ R.locals) (hc9 : cells + 1 ≤ R.cells) (hs9 : slots + alS o z ≤ R.slots)
    (hsize : ls.size = nL) (hW : (rest.map fun v => v.category).sum ≤ 8) (hdg : decode cc pc = .ok (.invokevirtual index, 3))
    (kk : ∀ (o' : alD) (mo' : Int32) (H1 : Heap) (locs1 : List Loc), alI o' (z + 1) → 4 * alK o + alS o z ≤ 4 * alK o' → alK o' ≤ max (alK o) (10 + 2 * z) → elF pl ci (alF o') (z + 1) → (∀ j, j < z → alF o' j = alF o j) → alF o' z = some v →
      va_P (dC, dI) classes ((al, .inr (11, [.ref (alO sb o'), .int (nI (z + 1)), .int mo'])) :: (alC cO o' ++ pl)) H1 → va_D A ((al, .inr (11, [.ref (alO sb o'), .int (nI (z + 1)), .int mo'])) :: (alC cO o' ++ pl)) → va_S A H0 H1 locs1 →
      W p l e R s m args below meth c H1 locs1 (cells + 1) (slots + alS o z) Q (F0 m (pc + 3) ls (.int 1 :: rest))) :
    W p l e R s m args below meth c H locs cells slots Q (F0 m pc ls (.ref v :: .ref al :: rest)) := by
  obtain ⟨kv, fv, hv9⟩ := hv
  have elS : ∀ (f' : Nat → Option Nat), (∀ j, j < z → f' j = alF o j) → f' z = some v → elF pl ci f' (z + 1) := by
    intro f' h2 h3 i y hi hy
    rcases Nat.lt_succ_iff_lt_or_eq.mp hi with h4 | h4
    · exact hel i y h4 (by rw [← h2 i h4]; exact hy)
    · subst h4
      rw [h3] at hy
      cases hy
      exact ⟨kv, fv, hv9⟩
  cases o with
  | none =>
    have hz0 : z = 0 := hi
    subst hz0
    have hP9 : va_P (dC, dI) classes (([(al, .inr (11, [.ref (sb.2 5), .int (nI 0), .int mo]))] : va_W) ++ pl) H := hP
    have hD9 : va_D A (([(al, .inr (11, [.ref (sb.2 5), .int (nI 0), .int mo]))] : va_W) ++ pl) := hD
    have hFc := va_free (wc := [(al, .inr (11, [.ref (sb.2 5), .int (nI 0), .int mo]))]) hD9 hS hA [0] rfl
    refine va_calli (mf_runV (As := [.ref v]) (rest := rest) S hin (c_addB l dC dI sb pl ci qc v kv fv al mo cO H.size hqc hca hv9) hP9.back (va_out hP9 hD9) h1 q4_108 q4_109 q1_4 q4_110 (n := 1) (by decide +kernel) rfl ⟨rfl, rfl⟩ ⟨hfr, (by show 8 + (2 + 11) + 195 ≤ R.locals; omega)⟩ ⟨hc9, hs9⟩ hN hT hAs hbH hK hP9 hD9 [0] (by decide) rfl [t0] (by simp [ht0]) 0 11 rfl rfl rfl hsize rfl hW hdg) hS (fun q _ h => hFc q h) hFc (fun r u tS H1 locs ht hvm hw hB hz1 hk1 hS => ?_)
    obtain ⟨q, mo'⟩ := u
    obtain ⟨hP1, hK1, hD1⟩ := hB
    rw [ht] at hP1
    obtain ⟨hP2, hD2⟩ := va_joinF hP9 hD9 [0] rfl hk1 hFc hP1 hD1
    have hw : r = 1 := hw
    subst hw
    exact kk (some (q, 10, va_up (fun _ => none) 0 (some v))) mo' H1 locs ⟨by show 0 + 1 ≤ 10; omega, by show 10 ≤ 10; omega, by show 10 < 2 ^ 24; omega⟩ (by show 4 * 0 + 10 ≤ 4 * 10; omega) (by show 10 ≤ max 0 (10 + 2 * 0); omega) (elS _ (fun j hj => by omega) (show va_up (fun _ => none) 0 (some v) 0 = some v from va_up_self _ _ _)) (fun j hj => by omega) (show va_up (fun _ => none) 0 (some v) 0 = some v from va_up_self _ _ _) hP2 hD2 hS
  | some d =>
    obtain ⟨el, cap, f⟩ := d
    have hi : z ≤ cap ∧ 10 ≤ cap ∧ cap < 2 ^ 24 := hi
    have hP9 : va_P (dC, dI) classes (([(al, .inr (11, [.ref el, .int (nI z), .int mo])), (el, .inl (cO, cap, .inr (.inr (.inr (.inr f)))))] : va_W) ++ pl) H := hP
    have hD9 : va_D A (([(al, .inr (11, [.ref el, .int (nI z), .int mo])), (el, .inl (cO, cap, .inr (.inr (.inr (.inr f)))))] : va_W) ++ pl) := hD
    have hFc := va_free (wc := [(al, .inr (11, [.ref el, .int (nI z), .int mo])), (el, .inl (cO, cap, .inr (.inr (.inr (.inr f)))))]) hD9 hS hA [0, 1] rfl
    by_cases hzc : z < cap
    · have e0 : alS (some (el, cap, f)) z = 0 := if_pos hzc
      rw [e0] at hs9 kk
      refine W.widen (k := cells + 1) (n := slots + 0) (by omega) (by omega) ?_
      refine va_calli (mf_runV (cells := cells + 1) (As := [.ref v]) (rest := rest) S hin (c_addI l dC dI sb pl ci qc v kv fv al el z cap mo cO f H.size hqc hca hv9 hzc (by omega)) hP9.back (va_out hP9 hD9) h1 q4_108 q4_109 q1_4 q4_110 (n := 1) (by decide +kernel) rfl ⟨rfl, rfl⟩ ⟨hfr, (by show 8 + (2 + 11) + 195 ≤ R.locals; omega)⟩ ⟨hc9, hs9⟩ hN hT hAs hbH hK hP9 hD9 [0, 1] (by decide) rfl [t0] (by simp [ht0]) 0 11 rfl rfl rfl hsize rfl hW hdg) hS (fun q _ h => hFc q h) hFc (fun r u tS H1 locs ht hvm hw hB hz1 hk1 hS => ?_)
      obtain ⟨hP1, hK1, hD1⟩ := hB
      rw [ht] at hP1
      obtain ⟨hP2, hD2⟩ := va_joinF hP9 hD9 [0, 1] rfl hk1 hFc hP1 hD1
      have hw : r = 1 := hw
      subst hw
      exact kk (some (el, cap, va_up f z (some v))) u H1 locs ⟨by show z + 1 ≤ cap; omega, hi.2.1, hi.2.2⟩ (by show 4 * cap + 0 ≤ 4 * cap; omega) (Nat.le_max_left _ _) (elS _ (fun j hj => va_up_ne _ _ (by omega)) (va_up_self _ _ _)) (fun j hj => va_up_ne _ _ (by omega)) (va_up_self _ _ _) hP2 hD2 hS
    · have hzc : z = cap := by omega
      subst hzc
      have e0 : alS (some (el, z, f)) z = z + max 1 (z / 2) := if_neg (Nat.lt_irrefl _)
      rw [e0] at hs9 kk
      refine va_calli (mf_runV (As := [.ref v]) (rest := rest) S hin (c_addA l dC dI sb pl ci qc v kv fv al el z mo cO f H.size hqc hca hv9 hel (by omega) (by omega)) hP9.back (va_out hP9 hD9) h1 q4_108 q4_109 q1_4 q4_110 (n := 1) (by decide +kernel) rfl ⟨rfl, rfl⟩ ⟨hfr, (by show 8 + (2 + 11) + 195 ≤ R.locals; omega)⟩ ⟨hc9, hs9⟩ hN hT hAs hbH hK hP9 hD9 [0, 1] (by decide) rfl [t0] (by simp [ht0]) 0 11 rfl rfl rfl hsize rfl hW hdg) hS (fun q _ h => hFc q h) hFc (fun r u tS H1 locs ht hvm hw hB hz1 hk1 hS => ?_)
      obtain ⟨q, mo'⟩ := u
      obtain ⟨hP1, hK1, hD1⟩ := hB
      rw [ht] at hP1
      obtain ⟨hP2, hD2⟩ := va_joinF hP9 hD9 [0, 1] rfl hk1 hFc hP1 hD1
      have hw : r = 1 := hw
      subst hw
      have g1 : ∀ j, j < z → va_up (va_cpy f (fun _ => none) 0 0 z) z (some v) j = f j := fun j hj => by
        rw [va_up_ne _ _ (by omega)]
        show (if 0 ≤ j ∧ j < 0 + z then f (0 + (j - 0)) else none) = f j
        rw [if_pos (by omega), Nat.zero_add, Nat.sub_zero]
      exact kk (some (q, z + max 1 (z / 2), va_up (va_cpy f (fun _ => none) 0 0 z) z (some v))) mo' H1 locs ⟨by show z + 1 ≤ z + max 1 (z / 2); omega, by show 10 ≤ z + max 1 (z / 2); omega, by show z + max 1 (z / 2) < 2 ^ 24; omega⟩ (by show 4 * z + (z + max 1 (z / 2)) ≤ 4 * (z + max 1 (z / 2)); omega) (by show z + max 1 (z / 2) ≤ max z (10 + 2 * z); omega) (elS _ g1 (va_up_self _ _ _)) g1 (va_up_self _ _ _) hP2 hD2 hS
end ALR
