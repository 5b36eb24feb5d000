/-! Both sides of the law as the constructors leave them. -/
def kT (T : List (Nat × Nat × Nat × Nat)) : kE := fun a => ((T.find? (fun q => q.1 == a)).map Prod.snd).getD (0, 0, 0)
theorem kT_at : ∀ {T : List (Nat × Nat × Nat × Nat)}, (T.map Prod.fst).Nodup → ∀ {q : Nat × Nat × Nat × Nat}, q ∈ T → kT T q.1 = q.2
  | [], _, _, h => by cases h
  | t :: T, hn, q, h => by
    have h2 := List.nodup_cons.mp hn
    unfold kT
    by_cases e : t.1 = q.1
    · rcases List.mem_cons.mp h with e9 | e9
      · subst e9
        simp
      · exact absurd (by rw [e]; exact List.mem_map_of_mem (f := Prod.fst) e9) h2.1
    · have hq : q ∈ T := by
        rcases List.mem_cons.mp h with e9 | e9
        · exact absurd (by rw [e9]) e
        · exact e9
      have ih := kT_at h2.2 hq
      unfold kT at ih
      rw [List.find?_cons_of_neg (by simpa using e)]
      exact ih
theorem tK_T {T : List (Nat × Nat × Nat × Nat)} (hn : (T.map Prod.fst).Nodup) {a : Nat} {k : Nat × Nat × Nat} (h : (a, k) ∈ T) : tK (kT T) (T.map Prod.fst) a k := ⟨List.mem_map_of_mem (f := Prod.fst) h, kT_at hn h⟩
theorem nd_G {A : Nat → Prop} {G : va_W} (hD : va_D A G) : (G.map Prod.fst).Nodup := nd_l (R := []) (by rw [List.append_nil]; exact hD)
theorem nd_get {L : List Nat} (h : L.Nodup) {i j : Nat} {a : Nat} (hi : L[i]? = some a) (hj : L[j]? = some a) : i = j := by
  obtain ⟨h1, h2⟩ := List.getElem?_eq_some_iff.mp hi
  obtain ⟨h3, h4⟩ := List.getElem?_eq_some_iff.mp hj
  have h5 := List.nodup_iff_pairwise_ne.mp h
  rw [List.pairwise_iff_getElem] at h5
  rcases Nat.lt_trichotomy i j with q | q | q
  · exact absurd (h2.trans h4.symm) (h5 i j h1 h3 q)
  · exact q
  · exact absurd (h4.trans h2.symm) (h5 j i h3 h1 q)
theorem nd_at {L X : List Nat} {js : List Nat} (hA : js.map (fun j => L[j]?) = X.map some) {b : Nat} (hb : b ∈ X) : ∃ j, j ∈ js ∧ L[j]? = some b := by
  have h1 : some b ∈ X.map some := List.mem_map_of_mem hb
  rw [← hA] at h1
  obtain ⟨j, hj, e⟩ := List.mem_map.mp h1
  exact ⟨j, hj, e⟩
theorem nd_no {L X : List Nat} (h : L.Nodup) {i a : Nat} (hi : L[i]? = some a) (js : List Nat) (hn : i ∉ js) (hA : js.map (fun j => L[j]?) = X.map some) : a ∉ X := fun hm => by
  obtain ⟨j, hj, e⟩ := nd_at hA hm
  exact hn (by rw [nd_get h hi e]; exact hj)
theorem nd_dis {L X Y : List Nat} (h : L.Nodup) (js ks : List Nat) (hn : ∀ j, j ∈ js → j ∉ ks) (hA : js.map (fun j => L[j]?) = X.map some) (hB : ks.map (fun j => L[j]?) = Y.map some) : ∀ b, b ∈ X → b ∉ Y := fun b hb hm => by
  obtain ⟨j, hj, e⟩ := nd_at hA hb
  obtain ⟨k, hk, e2⟩ := nd_at hB hm
  exact hn j hj (by rw [nd_get h e e2]; exact hk)
theorem nd_sub {L X : List Nat} (h : L.Nodup) (js : List Nat) (hn : js.Nodup) (hA : js.map (fun j => L[j]?) = X.map some) : X.Nodup := by
  rw [List.nodup_iff_pairwise_ne, List.pairwise_iff_getElem]
  intro i j hi hj hij e
  have hl : js.length = X.length := by have := congrArg List.length hA; rwa [List.length_map, List.length_map] at this
  have g : ∀ k, k < X.length → ∃ z, js[k]? = some z ∧ L[z]? = X[k]? := fun k hk => by
    have h1 := congrArg (fun l => l[k]?) hA
    rw [List.getElem?_map, List.getElem?_map] at h1
    have hk2 : k < js.length := by omega
    rw [List.getElem?_eq_getElem hk2, List.getElem?_eq_getElem hk] at h1
    refine ⟨js[k], List.getElem?_eq_getElem hk2, ?_⟩
    rw [List.getElem?_eq_getElem hk]
    exact Option.some.inj h1
  obtain ⟨z1, a1, b1⟩ := g i hi
  obtain ⟨z2, a2, b2⟩ := g j hj
  rw [List.getElem?_eq_getElem hi] at b1
  rw [List.getElem?_eq_getElem hj, ← e] at b2
  have hz := nd_get h b1 b2
  have := nd_get hn a1 (by rw [hz]; exact a2)
  omega
theorem tx_0 : tx (fun _ => 0) = fun _ => 0 := by
  funext j
  show sb_b 0 = 0
  decide
theorem lR_0 : lR (fun _ => 0) = fun _ => 0 := rfl
theorem lR_1 : lR (updN (fun _ => 0) 0 1) = vp_updL (fun _ => 0) (0 : Int32).toNatClampNeg 1 := by
  funext j
  unfold lR vp_updL updN
  rw [show (0 : Int32).toNatClampNeg = 0 from by decide]
  by_cases h : j = 0
  · rw [if_pos h, if_pos h]
    rfl
  · rw [if_neg h, if_neg h]
    rfl
theorem un_1 : ∀ k, 1 ≤ k → vB 4294967296 (updN (fun _ => 0) 0 1) k = 1
  | 0, h => absurd h (by decide)
  | 1, _ => rfl
  | k + 2, _ => by
    rw [vB_s, un_1 (k + 1) (by omega), updN_ne (by omega : k + 1 ≠ 0), Nat.zero_mul]
abbrev wC0 (γ : cG) (sb : sB) (q0 fe ho ce li sh s5 rs l0 l1 l2 l3 l4 l5 se pl nx ch fo ou : Nat) : va_W := [(q0, .inr (10, [.ref fe, .ref ho, .ref ce, .ref li, .ref sh, .ref rs, .ref se, .ref ch, .ref fo, .int 0, .int 0, .int (-1), .int 0, .int (-1)])), (fe, .inl (γ.1, 2060, .inl (fun _ => 0))), (ho, .inl (γ.1, 32, .inl (fun _ => 0))), (ce, .inr (11, [.ref (sb.2 5), .int 0, .int 0])), (li, .inr (11, [.ref (sb.2 5), .int 0, .int 0])), (sh, .inr (6, [.ref s5])), (s5, .inl (γ.2.1, 64, .inl (fun _ => 0))), (rs, .inr (7, [.ref l0, .ref l1, .ref l2, .ref l3, .ref l4, .ref l5, .int 0, .long 0])), (l0, .inl (γ.2.2.1, 64, .inr (.inl (fun _ => 0)))), (l1, .inl (γ.2.2.1, 64, .inr (.inl (fun _ => 0)))), (l2, .inl (γ.2.2.1, 64, .inr (.inl (fun _ => 0)))), (l3, .inl (γ.2.2.1, 64, .inr (.inl (fun _ => 0)))), (l4, .inl (γ.2.2.1, 64, .inr (.inl (vp_updL (fun _ => 0) (0 : Int32).toNatClampNeg 1)))), (l5, .inl (γ.2.2.1, 66, .inr (.inl (fun _ => 0)))), (se, .inr (8, [.ref pl, .ref nx, .int 0, .int 0, .int 0])), (pl, .inr (11, [.ref (sb.2 5), .int 0, .int 0])), (nx, .inl (γ.2.1, 16, .inl (fun _ => 0))), (ch, .inr (9, [.int (-1), .long 0, .int 0, .int 0])), (fo, .inl (γ.2.1, 16, .inl (fun _ => 0))), (ou, .inl (γ.2.2.1, 1, .inr (.inl (fun _ => 0))))]
theorem CI_start {γ : cG} {sb : sB} {q0 fe ho ce li sh s5 rs l0 l1 l2 l3 l4 l5 se pl nx ch fo ou : Nat} {A : Nat → Prop} (hD : va_D A (wC0 γ sb q0 fe ho ce li sh s5 rs l0 l1 l2 l3 l4 l5 se pl nx ch fo ou)) : CI γ sb q0 ou (fun _ => 0) 0 (-1) 0 0 (fun _ => ((0, 0, 0, 0, 0, 0, 0, 0, 0, 0, 0, 0, 0), 0, 0, fun _ => 0, fun _ => 0, 0, fun _ => 0, 0)) (fun _ => ((0, 0, 0, 0, 0, 0, 0, 0, 0, 0, 0, 0, 0), 0, fun _ => 0, fun _ => 0, 0)) (fun _ => ([], [], [], [], [], [], [], [], [], [], [], 0, 0, 0, 0, 0, 0, 0, [])) (fun _ => ([], [], 0, 0, 0)) (0, 0, [], 0, -1) (fun _ => 0) (wC0 γ sb q0 fe ho ce li sh s5 rs l0 l1 l2 l3 l4 l5 se pl nx ch fo ou) := by
  have hnd := nd_G hD
  obtain ⟨T, hT⟩ : ∃ T : List (Nat × Nat × Nat × Nat), T = [(ho, (1, 32, 0)), (ce, (15, sb.2 5, 0)), (li, (17, sb.2 5, 0)), (sh, (11, 0, 0)), (s5, (6, 64, 0)), (rs, (10, 0, 0)), (l0, (7, 64, 0)), (l1, (7, 64, 2)), (l2, (7, 64, 3)), (l3, (7, 64, 4)), (l4, (7, 64, 1)), (l5, (7, 66, 0)), (se, (13, pl, 0)), (nx, (6, 16, 0)), (ch, (12, 0, 0)), (fo, (6, 16, 0))] := ⟨_, rfl⟩
  have hAd : T.map Prod.fst = [ho, ce, li, sh, s5, rs, l0, l1, l2, l3, l4, l5, se, nx, ch, fo] := by rw [hT]; rfl
  have hn : (T.map Prod.fst).Nodup := by rw [hAd]; exact nd_sub hnd [2, 3, 4, 5, 6, 7, 8, 9, 10, 11, 12, 13, 14, 16, 17, 18] (by decide) rfl
  have k_ho : tK (kT T) (T.map Prod.fst) ho (1, 32, 0) := tK_T hn (by rw [hT]; exact List.mem_of_getElem? (i := 0) rfl)
  have k_ce : tK (kT T) (T.map Prod.fst) ce (15, sb.2 5, 0) := tK_T hn (by rw [hT]; exact List.mem_of_getElem? (i := 1) rfl)
  have k_li : tK (kT T) (T.map Prod.fst) li (17, sb.2 5, 0) := tK_T hn (by rw [hT]; exact List.mem_of_getElem? (i := 2) rfl)
  have k_sh : tK (kT T) (T.map Prod.fst) sh (11, 0, 0) := tK_T hn (by rw [hT]; exact List.mem_of_getElem? (i := 3) rfl)
  have k_s5 : tK (kT T) (T.map Prod.fst) s5 (6, 64, 0) := tK_T hn (by rw [hT]; exact List.mem_of_getElem? (i := 4) rfl)
  have k_rs : tK (kT T) (T.map Prod.fst) rs (10, 0, 0) := tK_T hn (by rw [hT]; exact List.mem_of_getElem? (i := 5) rfl)
  have k_l0 : tK (kT T) (T.map Prod.fst) l0 (7, 64, 0) := tK_T hn (by rw [hT]; exact List.mem_of_getElem? (i := 6) rfl)
  have k_l1 : tK (kT T) (T.map Prod.fst) l1 (7, 64, 2) := tK_T hn (by rw [hT]; exact List.mem_of_getElem? (i := 7) rfl)
  have k_l2 : tK (kT T) (T.map Prod.fst) l2 (7, 64, 3) := tK_T hn (by rw [hT]; exact List.mem_of_getElem? (i := 8) rfl)
  have k_l3 : tK (kT T) (T.map Prod.fst) l3 (7, 64, 4) := tK_T hn (by rw [hT]; exact List.mem_of_getElem? (i := 9) rfl)
  have k_l4 : tK (kT T) (T.map Prod.fst) l4 (7, 64, 1) := tK_T hn (by rw [hT]; exact List.mem_of_getElem? (i := 10) rfl)
  have k_l5 : tK (kT T) (T.map Prod.fst) l5 (7, 66, 0) := tK_T hn (by rw [hT]; exact List.mem_of_getElem? (i := 11) rfl)
  have k_se : tK (kT T) (T.map Prod.fst) se (13, pl, 0) := tK_T hn (by rw [hT]; exact List.mem_of_getElem? (i := 12) rfl)
  have k_nx : tK (kT T) (T.map Prod.fst) nx (6, 16, 0) := tK_T hn (by rw [hT]; exact List.mem_of_getElem? (i := 13) rfl)
  have k_ch : tK (kT T) (T.map Prod.fst) ch (12, 0, 0) := tK_T hn (by rw [hT]; exact List.mem_of_getElem? (i := 14) rfl)
  have k_fo : tK (kT T) (T.map Prod.fst) fo (6, 16, 0) := tK_T hn (by rw [hT]; exact List.mem_of_getElem? (i := 15) rfl)
  have n_q0 : q0 ∉ T.map Prod.fst := by rw [hAd]; exact nd_no hnd (i := 0) rfl [2, 3, 4, 5, 6, 7, 8, 9, 10, 11, 12, 13, 14, 16, 17, 18] (by decide) rfl
  have n_fe : fe ∉ T.map Prod.fst := by rw [hAd]; exact nd_no hnd (i := 1) rfl [2, 3, 4, 5, 6, 7, 8, 9, 10, 11, 12, 13, 14, 16, 17, 18] (by decide) rfl
  have n_pl : pl ∉ T.map Prod.fst := by rw [hAd]; exact nd_no hnd (i := 15) rfl [2, 3, 4, 5, 6, 7, 8, 9, 10, 11, 12, 13, 14, 16, 17, 18] (by decide) rfl
  have n_ou : ou ∉ T.map Prod.fst := by rw [hAd]; exact nd_no hnd (i := 19) rfl [2, 3, 4, 5, 6, 7, 8, 9, 10, 11, 12, 13, 14, 16, 17, 18] (by decide) rfl
  obtain ⟨ν, hν⟩ : ∃ z : Nat → cN, z = fun b => if b = ch then (-1, 0, 0, 0, 0, 0, 0, 0, 0, 0, 0, 0, 0) else (0, 0, 0, 0, 0, 0, 0, 0, 0, 0, 0, 0, 0) := ⟨_, rfl⟩
  obtain ⟨ω, hω⟩ : ∃ z : Nat → List Nat, z = fun b => if b = se then [nx] else [] := ⟨_, rfl⟩
  have hν_ch : ν ch = (-1, 0, 0, 0, 0, 0, 0, 0, 0, 0, 0, 0, 0) := by rw [hν]; exact if_pos rfl
  have hν_se : ν se = (0, 0, 0, 0, 0, 0, 0, 0, 0, 0, 0, 0, 0) := by rw [hν]; exact if_neg (fun e => absurd (nd_get hnd (i := 14) (j := 17) (a := se) rfl (by rw [e]; rfl)) (by decide))
  have hω_se : ω se = [nx] := by rw [hω]; exact if_pos rfl
  have hω_ce : ω ce = [] := by rw [hω]; exact if_neg (fun e => absurd (nd_get hnd (i := 3) (j := 14) (a := ce) rfl (by rw [e]; rfl)) (by decide))
  have hω_li : ω li = [] := by rw [hω]; exact if_neg (fun e => absurd (nd_get hnd (i := 4) (j := 14) (a := li) rfl (by rw [e]; rfl)) (by decide))
  have hω_nx : ω nx = [] := by rw [hω]; exact if_neg (fun e => absurd (nd_get hnd (i := 16) (j := 14) (a := nx) rfl (by rw [e]; rfl)) (by decide))
  have hω_fo : ω fo = [] := by rw [hω]; exact if_neg (fun e => absurd (nd_get hnd (i := 18) (j := 14) (a := fo) rfl (by rw [e]; rfl)) (by decide))
  have hok : ∀ t : Nat × va_E, t ∈ ([(ho, .inl (γ.1, 32, .inl (fun _ => 0))), (ce, .inr (11, [.ref (sb.2 5), .int 0, .int 0])), (li, .inr (11, [.ref (sb.2 5), .int 0, .int 0])), (sh, .inr (6, [.ref s5])), (s5, .inl (γ.2.1, 64, .inl (fun _ => 0))), (rs, .inr (7, [.ref l0, .ref l1, .ref l2, .ref l3, .ref l4, .ref l5, .int 0, .long 0])), (l0, .inl (γ.2.2.1, 64, .inr (.inl (fun _ => 0)))), (l1, .inl (γ.2.2.1, 64, .inr (.inl (fun _ => 0)))), (l2, .inl (γ.2.2.1, 64, .inr (.inl (fun _ => 0)))), (l3, .inl (γ.2.2.1, 64, .inr (.inl (fun _ => 0)))), (l4, .inl (γ.2.2.1, 64, .inr (.inl (vp_updL (fun _ => 0) (0 : Int32).toNatClampNeg 1)))), (l5, .inl (γ.2.2.1, 66, .inr (.inl (fun _ => 0)))), (se, .inr (8, [.ref pl, .ref nx, .int 0, .int 0, .int 0])), (nx, .inl (γ.2.1, 16, .inl (fun _ => 0))), (ch, .inr (9, [.int (-1), .long 0, .int 0, .int 0])), (fo, .inl (γ.2.1, 16, .inl (fun _ => 0)))] : va_W) → t ∈ wC0 γ sb q0 fe ho ce li sh s5 rs l0 l1 l2 l3 l4 l5 se pl nx ch fo ou ∧ tOK γ (kT T) (T.map Prod.fst) ν ω 0 t.1 t.2 := fun t ht => by
    rcases List.mem_cons.mp ht with e | ht
    · rw [e]; exact ⟨List.mem_of_getElem? (i := 2) rfl, (by have h9 := ok_1 (γ := γ) (ν := ν) (ω := ω) (L := 0) k_ho (by decide) (u := fun _ => 0) (fun _ => by decide); rw [tx_0] at h9; exact h9)⟩
    rcases List.mem_cons.mp ht with e | ht
    · rw [e]; exact ⟨List.mem_of_getElem? (i := 3) rfl, (by unfold tOK; rw [k_ce.2, hω_ce]; exact ⟨(by decide : (0 : Nat) < 2 ^ 20), sb.2 5, 0, fun _ => rfl, fun h => absurd h (Nat.lt_irrefl 0), rfl⟩)⟩
    rcases List.mem_cons.mp ht with e | ht
    · rw [e]; exact ⟨List.mem_of_getElem? (i := 4) rfl, (by unfold tOK; rw [k_li.2, hω_li]; exact ⟨(by decide : (0 : Nat) < 2 ^ 20), sb.2 5, 0, fun _ => rfl, fun h => absurd h (Nat.lt_irrefl 0), rfl⟩)⟩
    rcases List.mem_cons.mp ht with e | ht
    · rw [e]; exact ⟨List.mem_of_getElem? (i := 5) rfl, (by unfold tOK; rw [k_sh.2]; exact ⟨s5, k_s5, rfl⟩)⟩
    rcases List.mem_cons.mp ht with e | ht
    · rw [e]; exact ⟨List.mem_of_getElem? (i := 6) rfl, ok_6 k_s5 (by decide) (by decide) (by decide) _⟩
    rcases List.mem_cons.mp ht with e | ht
    · rw [e]; exact ⟨List.mem_of_getElem? (i := 7) rfl, ok_10 k_rs k_l0 k_l1 k_l2 k_l3 k_l4 k_l5⟩
    rcases List.mem_cons.mp ht with e | ht
    · rw [e]; exact ⟨List.mem_of_getElem? (i := 8) rfl, (by have h9 := ok_7 (γ := γ) (ν := ν) (ω := ω) (L := 0) k_l0 (by decide) (by decide) (d := fun _ => 0) (fun _ => by decide); rw [lR_0] at h9; exact h9)⟩
    rcases List.mem_cons.mp ht with e | ht
    · rw [e]; exact ⟨List.mem_of_getElem? (i := 9) rfl, (by have h9 := ok_7 (γ := γ) (ν := ν) (ω := ω) (L := 0) k_l1 (by decide) (by decide) (d := fun _ => 0) (fun _ => by decide); rw [lR_0] at h9; exact h9)⟩
    rcases List.mem_cons.mp ht with e | ht
    · rw [e]; exact ⟨List.mem_of_getElem? (i := 10) rfl, (by have h9 := ok_7 (γ := γ) (ν := ν) (ω := ω) (L := 0) k_l2 (by decide) (by decide) (d := fun _ => 0) (fun _ => by decide); rw [lR_0] at h9; exact h9)⟩
    rcases List.mem_cons.mp ht with e | ht
    · rw [e]; exact ⟨List.mem_of_getElem? (i := 11) rfl, (by have h9 := ok_7 (γ := γ) (ν := ν) (ω := ω) (L := 0) k_l3 (by decide) (by decide) (d := fun _ => 0) (fun _ => by decide); rw [lR_0] at h9; exact h9)⟩
    rcases List.mem_cons.mp ht with e | ht
    · rw [e]; exact ⟨List.mem_of_getElem? (i := 12) rfl, (by unfold tOK; rw [k_l4.2, ← lR_1]; exact ⟨by decide, _, ⟨fun j => by unfold updN; split <;> first | decide | (show (0 : Nat) < 4294967296; decide), fun _ => un_1⟩, rfl⟩)⟩
    rcases List.mem_cons.mp ht with e | ht
    · rw [e]; exact ⟨List.mem_of_getElem? (i := 13) rfl, (by have h9 := ok_7 (γ := γ) (ν := ν) (ω := ω) (L := 0) k_l5 (by decide) (by decide) (d := fun _ => 0) (fun _ => by decide); rw [lR_0] at h9; exact h9)⟩
    rcases List.mem_cons.mp ht with e | ht
    · rw [e]; exact ⟨List.mem_of_getElem? (i := 14) rfl, ok_13 k_se k_nx (by rw [hω_se]; rfl) (by rw [hν_se]) (by rw [hν_se]) (by rw [hν_se])⟩
    rcases List.mem_cons.mp ht with e | ht
    · rw [e]; exact ⟨List.mem_of_getElem? (i := 16) rfl, ok_6r k_nx (fun j _ => by rw [hω_nx]; rfl)⟩
    rcases List.mem_cons.mp ht with e | ht
    · rw [e]; exact ⟨List.mem_of_getElem? (i := 17) rfl, ok_12 k_ch (by rw [hν_ch]) (by rw [hν_ch]) (by rw [hν_ch]) (by rw [hν_ch])⟩
    have e := List.mem_singleton.mp ht
    rw [e]; exact ⟨List.mem_of_getElem? (i := 18) rfl, ok_6r k_fo (fun j _ => by rw [hω_fo]; rfl)⟩
  have hin : ∀ a, a ∈ T.map Prod.fst → ∃ t : Nat × va_E, t ∈ ([(ho, .inl (γ.1, 32, .inl (fun _ => 0))), (ce, .inr (11, [.ref (sb.2 5), .int 0, .int 0])), (li, .inr (11, [.ref (sb.2 5), .int 0, .int 0])), (sh, .inr (6, [.ref s5])), (s5, .inl (γ.2.1, 64, .inl (fun _ => 0))), (rs, .inr (7, [.ref l0, .ref l1, .ref l2, .ref l3, .ref l4, .ref l5, .int 0, .long 0])), (l0, .inl (γ.2.2.1, 64, .inr (.inl (fun _ => 0)))), (l1, .inl (γ.2.2.1, 64, .inr (.inl (fun _ => 0)))), (l2, .inl (γ.2.2.1, 64, .inr (.inl (fun _ => 0)))), (l3, .inl (γ.2.2.1, 64, .inr (.inl (fun _ => 0)))), (l4, .inl (γ.2.2.1, 64, .inr (.inl (vp_updL (fun _ => 0) (0 : Int32).toNatClampNeg 1)))), (l5, .inl (γ.2.2.1, 66, .inr (.inl (fun _ => 0)))), (se, .inr (8, [.ref pl, .ref nx, .int 0, .int 0, .int 0])), (nx, .inl (γ.2.1, 16, .inl (fun _ => 0))), (ch, .inr (9, [.int (-1), .long 0, .int 0, .int 0])), (fo, .inl (γ.2.1, 16, .inl (fun _ => 0)))] : va_W) ∧ t.1 = a := fun a ha => by
    rw [hAd] at ha
    exact List.mem_map.mp (show a ∈ ([(ho, .inl (γ.1, 32, .inl (fun _ => 0))), (ce, .inr (11, [.ref (sb.2 5), .int 0, .int 0])), (li, .inr (11, [.ref (sb.2 5), .int 0, .int 0])), (sh, .inr (6, [.ref s5])), (s5, .inl (γ.2.1, 64, .inl (fun _ => 0))), (rs, .inr (7, [.ref l0, .ref l1, .ref l2, .ref l3, .ref l4, .ref l5, .int 0, .long 0])), (l0, .inl (γ.2.2.1, 64, .inr (.inl (fun _ => 0)))), (l1, .inl (γ.2.2.1, 64, .inr (.inl (fun _ => 0)))), (l2, .inl (γ.2.2.1, 64, .inr (.inl (fun _ => 0)))), (l3, .inl (γ.2.2.1, 64, .inr (.inl (fun _ => 0)))), (l4, .inl (γ.2.2.1, 64, .inr (.inl (vp_updL (fun _ => 0) (0 : Int32).toNatClampNeg 1)))), (l5, .inl (γ.2.2.1, 66, .inr (.inl (fun _ => 0)))), (se, .inr (8, [.ref pl, .ref nx, .int 0, .int 0, .int 0])), (nx, .inl (γ.2.1, 16, .inl (fun _ => 0))), (ch, .inr (9, [.int (-1), .long 0, .int 0, .int 0])), (fo, .inl (γ.2.1, 16, .inl (fun _ => 0)))] : va_W).map Prod.fst from ha)
  have hTy : TY γ (kT T) (T.map Prod.fst) ν ω 0 (wC0 γ sb q0 fe ho ce li sh s5 rs l0 l1 l2 l3 l4 l5 se pl nx ch fo ou) := by
    refine ⟨fun a ha => ?_, fun q hq ha => ?_⟩
    · obtain ⟨t, ht, e⟩ := hin a ha
      exact ⟨t.2, by rw [← e]; exact (hok t ht).1⟩
    · obtain ⟨t, ht, e⟩ := hin q.1 ha
      have h9 := hok t ht
      have e2 : q.2 = t.2 := hD.un (a := q.1) hq (by rw [← e]; exact h9.1)
      rw [e2, ← e]
      exact h9.2
  have hnk : ∀ a, a ∈ T.map Prod.fst → (kT T a).1 ≠ 14 ∧ (kT T a).1 ≠ 16 ∧ ((kT T a).1 = 10 → a = rs) ∧ (kT T a).1 ≠ 8 ∧ (kT T a).1 ≠ 9 := fun a ha => by
    rw [hAd] at ha
    rcases List.mem_cons.mp ha with e | ha
    · rw [e, k_ho.2]; exact ⟨by simp, by simp, fun h => absurd h (by simp), by simp, by simp⟩
    rcases List.mem_cons.mp ha with e | ha
    · rw [e, k_ce.2]; exact ⟨by simp, by simp, fun h => absurd h (by simp), by simp, by simp⟩
    rcases List.mem_cons.mp ha with e | ha
    · rw [e, k_li.2]; exact ⟨by simp, by simp, fun h => absurd h (by simp), by simp, by simp⟩
    rcases List.mem_cons.mp ha with e | ha
    · rw [e, k_sh.2]; exact ⟨by simp, by simp, fun h => absurd h (by simp), by simp, by simp⟩
    rcases List.mem_cons.mp ha with e | ha
    · rw [e, k_s5.2]; exact ⟨by simp, by simp, fun h => absurd h (by simp), by simp, by simp⟩
    rcases List.mem_cons.mp ha with e | ha
    · rw [e, k_rs.2]; exact ⟨by simp, by simp, fun _ => rfl, by simp, by simp⟩
    rcases List.mem_cons.mp ha with e | ha
    · rw [e, k_l0.2]; exact ⟨by simp, by simp, fun h => absurd h (by simp), by simp, by simp⟩
    rcases List.mem_cons.mp ha with e | ha
    · rw [e, k_l1.2]; exact ⟨by simp, by simp, fun h => absurd h (by simp), by simp, by simp⟩
    rcases List.mem_cons.mp ha with e | ha
    · rw [e, k_l2.2]; exact ⟨by simp, by simp, fun h => absurd h (by simp), by simp, by simp⟩
    rcases List.mem_cons.mp ha with e | ha
    · rw [e, k_l3.2]; exact ⟨by simp, by simp, fun h => absurd h (by simp), by simp, by simp⟩
    rcases List.mem_cons.mp ha with e | ha
    · rw [e, k_l4.2]; exact ⟨by simp, by simp, fun h => absurd h (by simp), by simp, by simp⟩
    rcases List.mem_cons.mp ha with e | ha
    · rw [e, k_l5.2]; exact ⟨by simp, by simp, fun h => absurd h (by simp), by simp, by simp⟩
    rcases List.mem_cons.mp ha with e | ha
    · rw [e, k_se.2]; exact ⟨by simp, by simp, fun h => absurd h (by simp), by simp, by simp⟩
    rcases List.mem_cons.mp ha with e | ha
    · rw [e, k_nx.2]; exact ⟨by simp, by simp, fun h => absurd h (by simp), by simp, by simp⟩
    rcases List.mem_cons.mp ha with e | ha
    · rw [e, k_ch.2]; exact ⟨by simp, by simp, fun h => absurd h (by simp), by simp, by simp⟩
    have e := List.mem_singleton.mp ha
    rw [e, k_fo.2]; exact ⟨by simp, by simp, fun h => absurd h (by simp), by simp, by simp⟩
  refine ⟨kT T, T.map Prod.fst, ν, ω, fe, ho, ce, li, sh, rs, se, ch, fo, pl, 0, none, [], 0, 0, -1, ⟨⟨⟨k_ho, k_ce, k_li, k_sh, k_rs, k_se, k_ch, k_fo⟩, fun a ha h => (hnk a ha).2.2.1 h, by rw [hω_ce]; exact Nat.zero_le _, by rw [hω_li]; exact Nat.zero_le _, (fun e => absurd (nd_get hnd (i := 0) (j := 15) (a := q0) rfl (by rw [e]; rfl)) (by decide)), fun a ha h => absurd h (hnk a ha).1, fun a ha h => absurd h (hnk a ha).2.1⟩, ⟨hTy, Nat.zero_le _, ⟨n_q0, List.mem_of_getElem? (i := 0) rfl⟩, ⟨n_pl, ⟨0, List.mem_of_getElem? (i := 15) rfl⟩, fun q hq => (by cases hq), (show alI none 0 from rfl), (by decide : (0 : Nat) < 2 ^ 20), fun i hi => absurd hi (Nat.not_lt_zero _), fun i hi => absurd hi (Nat.not_lt_zero _)⟩, Nat.zero_le _⟩, ⟨n_fe, by rw [tx_0]; exact List.mem_of_getElem? (i := 1) rfl⟩, ⟨n_ou, List.mem_of_getElem? (i := 19) rfl⟩, (fun e => absurd (nd_get hnd (i := 1) (j := 0) (a := fe) rfl (by rw [e]; rfl)) (by decide)), (fun e => absurd (nd_get hnd (i := 1) (j := 15) (a := fe) rfl (by rw [e]; rfl)) (by decide)), (fun e => absurd (nd_get hnd (i := 19) (j := 0) (a := ou) rfl (by rw [e]; rfl)) (by decide)), (fun e => absurd (nd_get hnd (i := 19) (j := 15) (a := ou) rfl (by rw [e]; rfl)) (by decide))⟩, by rw [hω_ce]; rfl, by rw [hω_li]; rfl, fun k hk => absurd hk (Nat.not_lt_zero _), fun k hk => absurd hk (Nat.not_lt_zero _), Nat.zero_le _, fun _ => (by decide : (0 : Nat) < 256), ⟨fun a ha h => absurd h (hnk a ha).2.2.2.1, fun k hk => absurd hk (by rw [hω_ce]; exact Nat.not_lt_zero _), fun g hg h => h.elim (fun h => absurd h (hnk g hg).2.2.2.1) (fun h => absurd h (hnk g hg).2.2.2.2)⟩, fun k hk => absurd hk (Nat.not_lt_zero _), fun k hk => absurd hk (Nat.not_lt_zero _), fun c K l hc => absurd (show (kT T c).1 = 8 by rw [hc.2]) (hnk c hc.1).2.2.2.1, fun d hd => absurd hd (Nat.not_lt_zero _), by rw [hω_se]; exact (fun e => absurd (nd_get hnd (i := 18) (j := 16) (a := fo) rfl (by rw [e]; rfl)) (by decide)), ⟨rfl, rfl, rfl⟩, Nat.zero_le _, fun j hj => absurd hj (Nat.not_lt_zero _)⟩
abbrev wR0 (γ : cG) (gT : ClassId) (f8 f9 : Nat → Int32) (mo U0 U1 U2 U3 U4 U5 U6 U7 U8 U9 U10 U11 U12 U13 U14 U15 U16 U17 U18 U19 U20 U21 U22 U23 U24 U25 U26 U27 U28 : Nat) : va_W := [(mo, mC (fun k => (0 :: U0 :: U1 :: U2 :: 0 :: U4 :: U5 :: U6 :: U7 :: U8 :: U9 :: U10 :: U11 :: U12 :: U13 :: U14 :: U15 :: U16 :: []).getD k 0) U3 0 0 (-1) 0 0 0 0 0 0 (-1) 0 0 0 0 0), (U0, .inl (γ.2.1, 2060, .inl (fun _ => 0))), (U1, .inl (gT, 16, .inr (.inr (.inr (.inr (fun _ => none)))))), (U2, .inl (gT, 8, .inr (.inr (.inr (.inr (fun _ => none)))))), (U3, tcell (TD.mk (fun k => (U17 :: U18 :: U19 :: U20 :: U21 :: U22 :: U23 :: U24 :: U25 :: U26 :: U27 :: U28 :: []).getD k 0) (fun _ => 0) (fun _ => 0) (fun _ _ => 0) (fun _ => 0) 0 0 0 0 0 0 0 0 0 0 0 0 0 0 0 0 0 (fun _ => 0) (fun _ => 0) (fun _ => 0) (fun _ => 0) (fun _ => 0) (fun _ => 0) (fun _ => 0) (fun _ => 0))), (U4, .inl (γ.2.1, 600, .inl (fun _ => 0))), (U5, .inl (γ.2.1, 2176, .inl (fun _ => 0))), (U6, .inl (γ.2.1, 64, .inl (fun _ => 0))), (U7, .inl (γ.2.1, 8, .inl (fun _ => 0))), (U8, .inl (γ.2.1, 8, .inl f8)), (U9, .inl (γ.2.1, 64, .inl f9)), (U10, .inl (γ.2.1, 600, .inl (fun _ => 0))), (U11, .inl (γ.2.1, 600, .inl (fun _ => 0))), (U12, .inl (γ.2.1, 600, .inl (fun _ => 0))), (U13, .inl (γ.2.1, 600, .inl (fun _ => 0))), (U14, .inl (γ.2.1, 600, .inl (fun _ => 0))), (U15, .inl (γ.2.1, 16, .inl (fun _ => 0))), (U16, .inl (γ.2.1, 16, .inl (fun _ => 0))), (U17, .inl (γ.2.1, 2048, .inl (fun _ => 0))), (U18, .inl (γ.2.1, 700, .inl (fun _ => 0))), (U19, .inl (γ.2.1, 700, .inl (fun _ => 0))), (U20, .inl (γ.2.1, 700, .inl (fun _ => 0))), (U21, .inl (γ.2.1, 700, .inl (fun _ => 0))), (U22, .inl (γ.2.1, 700, .inl (fun _ => 0))), (U23, .inl (γ.2.1, 700, .inl (fun _ => 0))), (U24, .inl (γ.2.1, 700, .inl (fun _ => 0))), (U25, .inl (γ.2.1, 200, .inl (fun _ => 0))), (U26, .inl (γ.2.1, 200, .inl (fun _ => 0))), (U27, .inl (γ.2.1, 400, .inl (fun _ => 0))), (U28, .inl (γ.2.1, 400, .inl (fun _ => 0)))]
set_option maxRecDepth 20000 in
theorem RI_start {γ : cG} {gT : ClassId} {f8 f9 : Nat → Int32} {mo U0 U1 U2 U3 U4 U5 U6 U7 U8 U9 U10 U11 U12 U13 U14 U15 U16 U17 U18 U19 U20 U21 U22 U23 U24 U25 U26 U27 U28 : Nat} {A : Nat → Prop} (hf8 : ∀ j, j < 8 → f8 j = s0G j) (hf9 : ∀ j, j < 64 → f9 j = r0G j) (hD : va_D A (wR0 γ gT f8 f9 mo U0 U1 U2 U3 U4 U5 U6 U7 U8 U9 U10 U11 U12 U13 U14 U15 U16 U17 U18 U19 U20 U21 U22 U23 U24 U25 U26 U27 U28)) : RI γ gT mo (fun _ => 0) 0 (-1) 0 0 (fun _ => (TD.mk (fun k => (U17 :: U18 :: U19 :: U20 :: U21 :: U22 :: U23 :: U24 :: U25 :: U26 :: U27 :: U28 :: []).getD k 0) (fun _ => 0) (fun _ => 0) (fun _ _ => 0) (fun _ => 0) 0 0 0 0 0 0 0 0 0 0 0 0 0 0 0 0 0 (fun _ => 0) (fun _ => 0) (fun _ => 0) (fun _ => 0) (fun _ => 0) (fun _ => 0) (fun _ => 0) (fun _ => 0))) (fun _ => (TD.mk (fun k => (U17 :: U18 :: U19 :: U20 :: U21 :: U22 :: U23 :: U24 :: U25 :: U26 :: U27 :: U28 :: []).getD k 0) (fun _ => 0) (fun _ => 0) (fun _ _ => 0) (fun _ => 0) 0 0 0 0 0 0 0 0 0 0 0 0 0 0 0 0 0 (fun _ => 0) (fun _ => 0) (fun _ => 0) (fun _ => 0) (fun _ => 0) (fun _ => 0) (fun _ => 0) (fun _ => 0))) (fun _ => 0) (0, 0, [], 0, -1) 0 (wR0 γ gT f8 f9 mo U0 U1 U2 U3 U4 U5 U6 U7 U8 U9 U10 U11 U12 U13 U14 U15 U16 U17 U18 U19 U20 U21 U22 U23 U24 U25 U26 U27 U28) := by
  have hnd : ([mo, U0, U1, U2, U3, U4, U5, U6, U7, U8, U9, U10, U11, U12, U13, U14, U15, U16, U17, U18, U19, U20, U21, U22, U23, U24, U25, U26, U27, U28] : List Nat).Nodup := nd_G hD
  obtain ⟨T, hT⟩ : ∃ T : List (Nat × Nat × Nat × Nat), T = [(U5, (6, 2176, 0)), (U6, (6, 64, 0)), (U7, (6, 8, 0)), (U8, (6, 8, 1)), (U9, (6, 64, 2)), (U10, (6, 600, 3)), (U11, (6, 600, 5)), (U13, (6, 600, 4)), (U14, (6, 600, 6))] := ⟨_, rfl⟩
  have hAd : T.map Prod.fst = [U5, U6, U7, U8, U9, U10, U11, U13, U14] := by rw [hT]; rfl
  have hn : (T.map Prod.fst).Nodup := by rw [hAd]; exact nd_sub hnd [6, 7, 8, 9, 10, 11, 12, 14, 15] (by decide) rfl
  have k_U5 : tK (kT T) (T.map Prod.fst) U5 (6, 2176, 0) := tK_T hn (by rw [hT]; exact List.mem_of_getElem? (i := 0) rfl)
  have k_U6 : tK (kT T) (T.map Prod.fst) U6 (6, 64, 0) := tK_T hn (by rw [hT]; exact List.mem_of_getElem? (i := 1) rfl)
  have k_U7 : tK (kT T) (T.map Prod.fst) U7 (6, 8, 0) := tK_T hn (by rw [hT]; exact List.mem_of_getElem? (i := 2) rfl)
  have k_U8 : tK (kT T) (T.map Prod.fst) U8 (6, 8, 1) := tK_T hn (by rw [hT]; exact List.mem_of_getElem? (i := 3) rfl)
  have k_U9 : tK (kT T) (T.map Prod.fst) U9 (6, 64, 2) := tK_T hn (by rw [hT]; exact List.mem_of_getElem? (i := 4) rfl)
  have k_U10 : tK (kT T) (T.map Prod.fst) U10 (6, 600, 3) := tK_T hn (by rw [hT]; exact List.mem_of_getElem? (i := 5) rfl)
  have k_U11 : tK (kT T) (T.map Prod.fst) U11 (6, 600, 5) := tK_T hn (by rw [hT]; exact List.mem_of_getElem? (i := 6) rfl)
  have k_U13 : tK (kT T) (T.map Prod.fst) U13 (6, 600, 4) := tK_T hn (by rw [hT]; exact List.mem_of_getElem? (i := 7) rfl)
  have k_U14 : tK (kT T) (T.map Prod.fst) U14 (6, 600, 6) := tK_T hn (by rw [hT]; exact List.mem_of_getElem? (i := 8) rfl)
  have n_mo : mo ∉ T.map Prod.fst := by rw [hAd]; exact nd_no hnd (i := 0) rfl [6, 7, 8, 9, 10, 11, 12, 14, 15] (by decide) rfl
  have n_U0 : U0 ∉ T.map Prod.fst := by rw [hAd]; exact nd_no hnd (i := 1) rfl [6, 7, 8, 9, 10, 11, 12, 14, 15] (by decide) rfl
  have n_U1 : U1 ∉ T.map Prod.fst := by rw [hAd]; exact nd_no hnd (i := 2) rfl [6, 7, 8, 9, 10, 11, 12, 14, 15] (by decide) rfl
  have n_U2 : U2 ∉ T.map Prod.fst := by rw [hAd]; exact nd_no hnd (i := 3) rfl [6, 7, 8, 9, 10, 11, 12, 14, 15] (by decide) rfl
  have n_U3 : U3 ∉ T.map Prod.fst := by rw [hAd]; exact nd_no hnd (i := 4) rfl [6, 7, 8, 9, 10, 11, 12, 14, 15] (by decide) rfl
  have n_U4 : U4 ∉ T.map Prod.fst := by rw [hAd]; exact nd_no hnd (i := 5) rfl [6, 7, 8, 9, 10, 11, 12, 14, 15] (by decide) rfl
  have n_U12 : U12 ∉ T.map Prod.fst := by rw [hAd]; exact nd_no hnd (i := 13) rfl [6, 7, 8, 9, 10, 11, 12, 14, 15] (by decide) rfl
  have n_U15 : U15 ∉ T.map Prod.fst := by rw [hAd]; exact nd_no hnd (i := 16) rfl [6, 7, 8, 9, 10, 11, 12, 14, 15] (by decide) rfl
  have n_U16 : U16 ∉ T.map Prod.fst := by rw [hAd]; exact nd_no hnd (i := 17) rfl [6, 7, 8, 9, 10, 11, 12, 14, 15] (by decide) rfl
  have n_U17 : U17 ∉ T.map Prod.fst := by rw [hAd]; exact nd_no hnd (i := 18) rfl [6, 7, 8, 9, 10, 11, 12, 14, 15] (by decide) rfl
  have n_U18 : U18 ∉ T.map Prod.fst := by rw [hAd]; exact nd_no hnd (i := 19) rfl [6, 7, 8, 9, 10, 11, 12, 14, 15] (by decide) rfl
  have n_U19 : U19 ∉ T.map Prod.fst := by rw [hAd]; exact nd_no hnd (i := 20) rfl [6, 7, 8, 9, 10, 11, 12, 14, 15] (by decide) rfl
  have n_U20 : U20 ∉ T.map Prod.fst := by rw [hAd]; exact nd_no hnd (i := 21) rfl [6, 7, 8, 9, 10, 11, 12, 14, 15] (by decide) rfl
  have n_U21 : U21 ∉ T.map Prod.fst := by rw [hAd]; exact nd_no hnd (i := 22) rfl [6, 7, 8, 9, 10, 11, 12, 14, 15] (by decide) rfl
  have n_U22 : U22 ∉ T.map Prod.fst := by rw [hAd]; exact nd_no hnd (i := 23) rfl [6, 7, 8, 9, 10, 11, 12, 14, 15] (by decide) rfl
  have n_U23 : U23 ∉ T.map Prod.fst := by rw [hAd]; exact nd_no hnd (i := 24) rfl [6, 7, 8, 9, 10, 11, 12, 14, 15] (by decide) rfl
  have n_U24 : U24 ∉ T.map Prod.fst := by rw [hAd]; exact nd_no hnd (i := 25) rfl [6, 7, 8, 9, 10, 11, 12, 14, 15] (by decide) rfl
  have n_U25 : U25 ∉ T.map Prod.fst := by rw [hAd]; exact nd_no hnd (i := 26) rfl [6, 7, 8, 9, 10, 11, 12, 14, 15] (by decide) rfl
  have n_U26 : U26 ∉ T.map Prod.fst := by rw [hAd]; exact nd_no hnd (i := 27) rfl [6, 7, 8, 9, 10, 11, 12, 14, 15] (by decide) rfl
  have n_U27 : U27 ∉ T.map Prod.fst := by rw [hAd]; exact nd_no hnd (i := 28) rfl [6, 7, 8, 9, 10, 11, 12, 14, 15] (by decide) rfl
  have n_U28 : U28 ∉ T.map Prod.fst := by rw [hAd]; exact nd_no hnd (i := 29) rfl [6, 7, 8, 9, 10, 11, 12, 14, 15] (by decide) rfl
  have hok : ∀ t : Nat × va_E, t ∈ ([(U5, .inl (γ.2.1, 2176, .inl (fun _ => 0))), (U6, .inl (γ.2.1, 64, .inl (fun _ => 0))), (U7, .inl (γ.2.1, 8, .inl (fun _ => 0))), (U8, .inl (γ.2.1, 8, .inl f8)), (U9, .inl (γ.2.1, 64, .inl f9)), (U10, .inl (γ.2.1, 600, .inl (fun _ => 0))), (U11, .inl (γ.2.1, 600, .inl (fun _ => 0))), (U13, .inl (γ.2.1, 600, .inl (fun _ => 0))), (U14, .inl (γ.2.1, 600, .inl (fun _ => 0)))] : va_W) → t ∈ (wR0 γ gT f8 f9 mo U0 U1 U2 U3 U4 U5 U6 U7 U8 U9 U10 U11 U12 U13 U14 U15 U16 U17 U18 U19 U20 U21 U22 U23 U24 U25 U26 U27 U28) ∧ tOR γ (kT T) (T.map Prod.fst) (fun _ => (TD.mk (fun k => (U17 :: U18 :: U19 :: U20 :: U21 :: U22 :: U23 :: U24 :: U25 :: U26 :: U27 :: U28 :: []).getD k 0) (fun _ => 0) (fun _ => 0) (fun _ _ => 0) (fun _ => 0) 0 0 0 0 0 0 0 0 0 0 0 0 0 0 0 0 0 (fun _ => 0) (fun _ => 0) (fun _ => 0) (fun _ => 0) (fun _ => 0) (fun _ => 0) (fun _ => 0) (fun _ => 0))) t.1 t.2 := fun t ht => by
    rcases List.mem_cons.mp ht with e | ht
    · rw [e]; exact ⟨List.mem_of_getElem? (i := 6) rfl, okr_6 k_U5 (by decide) _⟩
    rcases List.mem_cons.mp ht with e | ht
    · rw [e]; exact ⟨List.mem_of_getElem? (i := 7) rfl, okr_6 k_U6 (by decide) _⟩
    rcases List.mem_cons.mp ht with e | ht
    · rw [e]; exact ⟨List.mem_of_getElem? (i := 8) rfl, okr_6 k_U7 (by decide) _⟩
    rcases List.mem_cons.mp ht with e | ht
    · rw [e]; exact ⟨List.mem_of_getElem? (i := 9) rfl, (by unfold tOR; rw [k_U8.2]; exact ⟨by decide, f8, fun _ => hf8, fun e => absurd e (by decide), fun e => absurd e (by decide), fun e => absurd e (by decide), rfl⟩)⟩
    rcases List.mem_cons.mp ht with e | ht
    · rw [e]; exact ⟨List.mem_of_getElem? (i := 10) rfl, (by unfold tOR; rw [k_U9.2]; exact ⟨by decide, f9, fun e => absurd e (by decide), fun _ => hf9, fun e => absurd e (by decide), fun e => absurd e (by decide), rfl⟩)⟩
    rcases List.mem_cons.mp ht with e | ht
    · rw [e]; exact ⟨List.mem_of_getElem? (i := 11) rfl, okr_63f k_U10 (by decide) (by decide) bR_0⟩
    rcases List.mem_cons.mp ht with e | ht
    · rw [e]; exact ⟨List.mem_of_getElem? (i := 12) rfl, okr_63f k_U11 (by decide) (by decide) bR_0⟩
    rcases List.mem_cons.mp ht with e | ht
    · rw [e]; exact ⟨List.mem_of_getElem? (i := 14) rfl, okr_64 k_U13 (by decide) (d := fun _ => 0) (fun _ => by decide)⟩
    have e := List.mem_singleton.mp ht
    rw [e]; exact ⟨List.mem_of_getElem? (i := 15) rfl, okr_63f k_U14 (by decide) (by decide) bR_0⟩
  have hin : ∀ a, a ∈ T.map Prod.fst → ∃ t : Nat × va_E, t ∈ ([(U5, .inl (γ.2.1, 2176, .inl (fun _ => 0))), (U6, .inl (γ.2.1, 64, .inl (fun _ => 0))), (U7, .inl (γ.2.1, 8, .inl (fun _ => 0))), (U8, .inl (γ.2.1, 8, .inl f8)), (U9, .inl (γ.2.1, 64, .inl f9)), (U10, .inl (γ.2.1, 600, .inl (fun _ => 0))), (U11, .inl (γ.2.1, 600, .inl (fun _ => 0))), (U13, .inl (γ.2.1, 600, .inl (fun _ => 0))), (U14, .inl (γ.2.1, 600, .inl (fun _ => 0)))] : va_W) ∧ t.1 = a := fun a ha => by
    rw [hAd] at ha
    exact List.mem_map.mp (show a ∈ ([(U5, .inl (γ.2.1, 2176, .inl (fun _ => 0))), (U6, .inl (γ.2.1, 64, .inl (fun _ => 0))), (U7, .inl (γ.2.1, 8, .inl (fun _ => 0))), (U8, .inl (γ.2.1, 8, .inl f8)), (U9, .inl (γ.2.1, 64, .inl f9)), (U10, .inl (γ.2.1, 600, .inl (fun _ => 0))), (U11, .inl (γ.2.1, 600, .inl (fun _ => 0))), (U13, .inl (γ.2.1, 600, .inl (fun _ => 0))), (U14, .inl (γ.2.1, 600, .inl (fun _ => 0)))] : va_W).map Prod.fst from ha)
  have hTy : TR γ (kT T) (T.map Prod.fst) (fun _ => (TD.mk (fun k => (U17 :: U18 :: U19 :: U20 :: U21 :: U22 :: U23 :: U24 :: U25 :: U26 :: U27 :: U28 :: []).getD k 0) (fun _ => 0) (fun _ => 0) (fun _ _ => 0) (fun _ => 0) 0 0 0 0 0 0 0 0 0 0 0 0 0 0 0 0 0 (fun _ => 0) (fun _ => 0) (fun _ => 0) (fun _ => 0) (fun _ => 0) (fun _ => 0) (fun _ => 0) (fun _ => 0))) (wR0 γ gT f8 f9 mo U0 U1 U2 U3 U4 U5 U6 U7 U8 U9 U10 U11 U12 U13 U14 U15 U16 U17 U18 U19 U20 U21 U22 U23 U24 U25 U26 U27 U28) := by
    refine ⟨fun a ha => ?_, fun q hq ha => ?_⟩
    · obtain ⟨t, ht, e⟩ := hin a ha
      exact ⟨t.2, by rw [← e]; exact (hok t ht).1⟩
    · obtain ⟨t, ht, e⟩ := hin q.1 ha
      have h9 := hok t ht
      have e2 : q.2 = t.2 := hD.un (a := q.1) hq (by rw [← e]; exact h9.1)
      rw [e2, ← e]
      exact h9.2
  have hrow : ∀ j, j < 12 → Xc (T.map Prod.fst) ((TD.mk (fun k => (U17 :: U18 :: U19 :: U20 :: U21 :: U22 :: U23 :: U24 :: U25 :: U26 :: U27 :: U28 :: []).getD k 0) (fun _ => 0) (fun _ => 0) (fun _ _ => 0) (fun _ => 0) 0 0 0 0 0 0 0 0 0 0 0 0 0 0 0 0 0 (fun _ => 0) (fun _ => 0) (fun _ => 0) (fun _ => 0) (fun _ => 0) (fun _ => 0) (fun _ => 0) (fun _ => 0)).A j) (.inl (γ.2.1, tlen j, .inl ((TD.mk (fun k => (U17 :: U18 :: U19 :: U20 :: U21 :: U22 :: U23 :: U24 :: U25 :: U26 :: U27 :: U28 :: []).getD k 0) (fun _ => 0) (fun _ => 0) (fun _ _ => 0) (fun _ => 0) 0 0 0 0 0 0 0 0 0 0 0 0 0 0 0 0 0 (fun _ => 0) (fun _ => 0) (fun _ => 0) (fun _ => 0) (fun _ => 0) (fun _ => 0) (fun _ => 0) (fun _ => 0)).D j))) (wR0 γ gT f8 f9 mo U0 U1 U2 U3 U4 U5 U6 U7 U8 U9 U10 U11 U12 U13 U14 U15 U16 U17 U18 U19 U20 U21 U22 U23 U24 U25 U26 U27 U28) := fun j hj => by
    rcases lt12 hj with rfl | rfl | rfl | rfl | rfl | rfl | rfl | rfl | rfl | rfl | rfl | rfl
    · exact ⟨n_U17, List.mem_of_getElem? (i := 18) rfl⟩
    · exact ⟨n_U18, List.mem_of_getElem? (i := 19) rfl⟩
    · exact ⟨n_U19, List.mem_of_getElem? (i := 20) rfl⟩
    · exact ⟨n_U20, List.mem_of_getElem? (i := 21) rfl⟩
    · exact ⟨n_U21, List.mem_of_getElem? (i := 22) rfl⟩
    · exact ⟨n_U22, List.mem_of_getElem? (i := 23) rfl⟩
    · exact ⟨n_U23, List.mem_of_getElem? (i := 24) rfl⟩
    · exact ⟨n_U24, List.mem_of_getElem? (i := 25) rfl⟩
    · exact ⟨n_U25, List.mem_of_getElem? (i := 26) rfl⟩
    · exact ⟨n_U26, List.mem_of_getElem? (i := 27) rfl⟩
    · exact ⟨n_U27, List.mem_of_getElem? (i := 28) rfl⟩
    · exact ⟨n_U28, List.mem_of_getElem? (i := 29) rfl⟩
  exact ⟨kT T, T.map Prod.fst, fun _ => (TD.mk (fun k => (U17 :: U18 :: U19 :: U20 :: U21 :: U22 :: U23 :: U24 :: U25 :: U26 :: U27 :: U28 :: []).getD k 0) (fun _ => 0) (fun _ => 0) (fun _ _ => 0) (fun _ => 0) 0 0 0 0 0 0 0 0 0 0 0 0 0 0 0 0 0 (fun _ => 0) (fun _ => 0) (fun _ => 0) (fun _ => 0) (fun _ => 0) (fun _ => 0) (fun _ => 0) (fun _ => 0)), (fun k => (0 :: U0 :: U1 :: U2 :: 0 :: U4 :: U5 :: U6 :: U7 :: U8 :: U9 :: U10 :: U11 :: U12 :: U13 :: U14 :: U15 :: U16 :: []).getD k 0), U3, (TD.mk (fun k => (U17 :: U18 :: U19 :: U20 :: U21 :: U22 :: U23 :: U24 :: U25 :: U26 :: U27 :: U28 :: []).getD k 0) (fun _ => 0) (fun _ => 0) (fun _ _ => 0) (fun _ => 0) 0 0 0 0 0 0 0 0 0 0 0 0 0 0 0 0 0 (fun _ => 0) (fun _ => 0) (fun _ => 0) (fun _ => 0) (fun _ => 0) (fun _ => 0) (fun _ => 0) (fun _ => 0)), fun _ => none, fun _ => none, (fun _ => 0), (fun _ => 0), (fun _ => 0), (fun _ => 0), 0, 0, 0, 0, -1, 0, 0, 0, 0, 0, hTy, ⟨n_mo, List.mem_of_getElem? (i := 0) rfl⟩, ⟨⟨n_U0, List.mem_of_getElem? (i := 1) rfl⟩, ⟨n_U1, List.mem_of_getElem? (i := 2) rfl⟩, ⟨n_U2, List.mem_of_getElem? (i := 3) rfl⟩, ⟨⟨n_U12, List.mem_of_getElem? (i := 13) rfl⟩, bR_0⟩, ⟨⟨n_U4, List.mem_of_getElem? (i := 5) rfl⟩, bR_0⟩, ⟨n_U15, List.mem_of_getElem? (i := 16) rfl⟩, ⟨n_U16, List.mem_of_getElem? (i := 17) rfl⟩, ⟨n_U3, List.mem_of_getElem? (i := 4) rfl⟩, hrow, ⟨rfl, rfl⟩, fun _ => (by decide : (0 : Nat) < 256), fun _ => (by decide : (0 : Nat) < 256)⟩, ⟨nd_sub hnd [0, 1, 2, 3, 13, 5, 16, 17] (by decide) rfl, nd_sub hnd [4, 18, 19, 20, 21, 22, 23, 24, 25, 26, 27, 28, 29] (by decide) rfl, nd_dis hnd [4, 18, 19, 20, 21, 22, 23, 24, 25, 26, 27, 28, 29] [0, 1, 2, 3, 13, 5, 16, 17] (by decide) rfl rfl⟩, ⟨k_U5, k_U6, k_U7, k_U8, k_U9, k_U10, k_U11, k_U13, k_U14, trivial⟩, fun i hi => absurd hi (Nat.not_lt_zero _), fun i hi => absurd hi (Nat.not_lt_zero _), ⟨Nat.zero_le _, Nat.zero_le _, Nat.zero_le _, Nat.zero_le _, ⟨rfl, rfl, rfl⟩, fdR_0 _⟩, fun k hk => absurd hk (Nat.not_lt_zero _), fun k hk => absurd hk (Nat.not_lt_zero _), fun i j hi => absurd hi (Nat.not_lt_zero _), fun i j hi => absurd hi (Nat.not_lt_zero _)⟩
