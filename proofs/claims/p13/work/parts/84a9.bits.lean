/-! Bits of ints; the search's stack, as Search keeps it (p11 to p13; draft). -/
def bJ (x : Int32) (k : Nat) : Bool := x.toBitVec.getLsbD k
theorem bJ_and (x y : Int32) (k : Nat) : bJ (x &&& y) k = (bJ x k && bJ y k) := by
  unfold bJ
  rw [Int32.toBitVec_and, BitVec.getLsbD_and]
theorem bJ_or (x y : Int32) (k : Nat) : bJ (x ||| y) k = (bJ x k || bJ y k) := by
  unfold bJ
  rw [Int32.toBitVec_or, BitVec.getLsbD_or]
theorem bJ_m1 : ∀ k : Fin 32, bJ (-1) k.val = true := by decide +kernel
theorem bJ_not {x : Int32} {k : Nat} (hk : k < 32) : bJ (x ^^^ -1) k = !bJ x k := by
  have h := bJ_m1 ⟨k, hk⟩
  unfold bJ at h ⊢
  rw [Int32.toBitVec_xor, BitVec.getLsbD_xor, h]
  cases x.toBitVec.getLsbD k <;> rfl
theorem bJ_sh9 : ∀ m k : Fin 32, bJ ((1 : Int32) <<< (nI m.val &&& 31)) k.val = decide (m.val = k.val) := by decide +kernel
theorem bJ_sh {m k : Nat} (hm : m < 32) (hk : k < 32) : bJ ((1 : Int32) <<< (nI m &&& 31)) k = decide (m = k) := bJ_sh9 ⟨m, hm⟩ ⟨k, hk⟩
theorem bJ_0 (k : Nat) : bJ 0 k = false := by
  unfold bJ
  show (0#32).getLsbD k = false
  simp
theorem sm32x : ∀ y, y < 32 → BitVec.smod (nI y &&& 31).toBitVec 32 = BitVec.ofNat 32 y := by decide
theorem bJ_get {x : Int32} {k : Nat} (hk : k < 32) : (x >>> (nI k &&& 31)) &&& 1 = 1 ↔ bJ x k = true := by
  have e0 : BitVec.smod (nI k &&& 31).toBitVec 32 = BitVec.ofNat 32 k := sm32x k hk
  have e1 : ((x >>> (nI k &&& 31)) &&& 1).toBitVec = (x.toBitVec.sshiftRight k) &&& 1#32 := by
    rw [Int32.toBitVec_and, Int32.toBitVec_shiftRight, e0, BitVec.sshiftRight_eq', BitVec.toNat_ofNat, Nat.mod_eq_of_lt (show k < 2 ^ 32 by omega)]
    rfl
  have e2 : (x.toBitVec.sshiftRight k).getLsbD 0 = x.toBitVec.getLsbD k := by
    rw [BitVec.getLsbD_sshiftRight]
    simp [hk]
  rw [← Int32.toBitVec_inj, e1]
  show (x.toBitVec.sshiftRight k) &&& 1#32 = 1#32 ↔ x.toBitVec.getLsbD k = true
  constructor
  · intro h
    have h2 : ((x.toBitVec.sshiftRight k) &&& 1#32).getLsbD 0 = true := by rw [h]; rfl
    rw [BitVec.getLsbD_and, e2] at h2
    exact (Bool.and_eq_true_iff.mp h2).1
  · intro h
    apply BitVec.eq_of_getLsbD_eq
    intro i hi
    rw [BitVec.getLsbD_and]
    by_cases h0 : i = 0
    · subst h0
      rw [e2, h]
      rfl
    · have h1 : (1#32).getLsbD i = false := by
        rw [BitVec.getLsbD_one]
        simp [h0]
      rw [h1, Bool.and_false]
/-- a number of sixteen, one of them anew -/
def setL (l : List Nat) (k x : Nat) : List Nat := (List.range 16).map (fun j => if j = k then x else l.getD j 0)
theorem setL_at {l : List Nat} {k x j : Nat} (hj : j < 16) : (setL l k x).getD j 0 = if j = k then x else l.getD j 0 := (gD_map (fun j => if j = k then x else l.getD j 0) 16 j hj).symm
theorem st_16 {f : Nat → Int32} {l : List Nat} {k x i : Nat} {v : Int32} (hf : ∀ j, j < 16 → f j = nI (l.getD j 0)) (hv : v = nI x) (hk : i = k) : ∀ j, j < 16 → upd f i v j = nI ((setL l k x).getD j 0) := fun j hj => by
  subst hk
  rw [setL_at hj]
  show (if j = i then v else f j) = _
  by_cases h : j = i
  · rw [if_pos h, if_pos h, hv]
  · rw [if_neg h, if_neg h, hf j hj]
theorem nI_bv (x : Int32) : nI x.toBitVec.toNat = x := by
  apply Int32.toBitVec_inj.mp
  show BitVec.ofNat 32 x.toBitVec.toNat = x.toBitVec
  rw [BitVec.ofNat_toNat, BitVec.setWidth_eq]
theorem setL_n {l : List Nat} {z : Nat} {x : Int32} {f : Nat → Int32} (h : ∀ j, j < z → nI (l.getD j 0) = f j) (hx : x = f z) (hz : z < 16) : ∀ j, j < z + 1 → nI ((setL l z x.toBitVec.toNat).getD j 0) = f j := fun j hj => by
  rw [setL_at (by omega)]
  by_cases e : j = z
  · rw [if_pos e, nI_bv, e]
    exact hx
  · rw [if_neg e]
    exact h j (by omega)
/-- the stack as Search keeps it: the path's entries, the next candidates, the bits of those on the path -/
def SX (ad : Nat → Nat) (n D : Nat) (row : Nat → Nat) (op : Int32) (as : List Nat) (σ : List (Nat × Nat)) (p : Nat) : Prop := (as = (σ.map (fun x => ad x.1)).reverse) ∧ (∀ x, x ∈ σ → x.1 < n ∧ x.2 ≤ n) ∧ ((σ.map Prod.fst).Nodup) ∧ (∀ j, j < σ.length → row j = (σ.reverse.getD j (0, 0)).2) ∧ (∀ k, k < 16 → (bJ op k = true ↔ k ∈ σ.map Prod.fst)) ∧ (σ.length ≤ p) ∧ (p ≤ 1000) ∧ (σ.length ≤ D) ∧ (D ≤ 16)
theorem SX.e {ad : Nat → Nat} {n D : Nat} {row : Nat → Nat} {op : Int32} {as : List Nat} {σ : List (Nat × Nat)} {p : Nat} (h : SX ad n D row op as σ p) : as = (σ.map (fun x => ad x.1)).reverse := h.1
theorem SX.r {ad : Nat → Nat} {n D : Nat} {row : Nat → Nat} {op : Int32} {as : List Nat} {σ : List (Nat × Nat)} {p : Nat} (h : SX ad n D row op as σ p) : ∀ x, x ∈ σ → x.1 < n ∧ x.2 ≤ n := h.2.1
theorem SX.nd {ad : Nat → Nat} {n D : Nat} {row : Nat → Nat} {op : Int32} {as : List Nat} {σ : List (Nat × Nat)} {p : Nat} (h : SX ad n D row op as σ p) : (σ.map Prod.fst).Nodup := h.2.2.1
theorem SX.nx {ad : Nat → Nat} {n D : Nat} {row : Nat → Nat} {op : Int32} {as : List Nat} {σ : List (Nat × Nat)} {p : Nat} (h : SX ad n D row op as σ p) : ∀ j, j < σ.length → row j = (σ.reverse.getD j (0, 0)).2 := h.2.2.2.1
theorem SX.bt {ad : Nat → Nat} {n D : Nat} {row : Nat → Nat} {op : Int32} {as : List Nat} {σ : List (Nat × Nat)} {p : Nat} (h : SX ad n D row op as σ p) : ∀ k, k < 16 → (bJ op k = true ↔ k ∈ σ.map Prod.fst) := h.2.2.2.2.1
theorem SX.lp {ad : Nat → Nat} {n D : Nat} {row : Nat → Nat} {op : Int32} {as : List Nat} {σ : List (Nat × Nat)} {p : Nat} (h : SX ad n D row op as σ p) : σ.length ≤ p := h.2.2.2.2.2.1
theorem SX.p1 {ad : Nat → Nat} {n D : Nat} {row : Nat → Nat} {op : Int32} {as : List Nat} {σ : List (Nat × Nat)} {p : Nat} (h : SX ad n D row op as σ p) : p ≤ 1000 := h.2.2.2.2.2.2.1
theorem SX.ld {ad : Nat → Nat} {n D : Nat} {row : Nat → Nat} {op : Int32} {as : List Nat} {σ : List (Nat × Nat)} {p : Nat} (h : SX ad n D row op as σ p) : σ.length ≤ D := h.2.2.2.2.2.2.2.1
theorem SX.d1 {ad : Nat → Nat} {n D : Nat} {row : Nat → Nat} {op : Int32} {as : List Nat} {σ : List (Nat × Nat)} {p : Nat} (h : SX ad n D row op as σ p) : D ≤ 16 := h.2.2.2.2.2.2.2.2
section SXS
variable {ad : Nat → Nat} {n D : Nat} {row : Nat → Nat} {op : Int32} {as : List Nat} {σ : List (Nat × Nat)} {p c m : Nat}
theorem SX.len (h : SX ad n D row op as σ p) : as.length = σ.length := by
  rw [h.e, List.length_reverse, List.length_map]
theorem SX.top (h : SX ad n D row op as ((c, m) :: σ) p) : as.getD (as.length - 1) 0 = ad c ∧ row (as.length - 1) = m := by
  have hl := h.len
  refine ⟨?_, ?_⟩
  · rw [List.getD_eq_getElem?_getD, h.e, List.map_cons, List.reverse_cons, List.length_append, List.getElem?_append_right (by simp)]
    simp
  · have h1 := h.nx (as.length - 1) (by rw [hl]; show σ.length + 1 - 1 < σ.length + 1; omega)
    rw [h1, hl]
    show (((c, m) :: σ).reverse.getD (σ.length + 1 - 1) (0, 0)).2 = m
    rw [List.reverse_cons, List.getD_eq_getElem?_getD, List.getElem?_append_right (by rw [List.length_reverse]; omega), List.length_reverse]
    simp
/-- a bit of the candidates -/
theorem cb_iff {iu : Int32} {fo : Nat → Nat → Prop} {k : Nat} (h : SX ad n D row op as ((c, m) :: σ) p) (hb : ∀ k, k < 16 → (bJ iu k = true ↔ k < n ∧ fo c k)) (hk : k < 16) (hkn : k < n) : ((iu &&& (op ^^^ -1)) >>> (nI k &&& 31)) &&& 1 = 1 ↔ mayF fo (((c, m) :: σ).map Prod.fst) k := by
  rw [bJ_get (by omega), bJ_and, bJ_not (by omega), Bool.and_eq_true_iff, hb k hk]
  have h2 := h.bt k hk
  constructor
  · rintro ⟨h3, h4⟩
    refine ⟨fun h5 => ?_, h3.2⟩
    rw [h2.mpr h5] at h4
    exact absurd h4 (by decide)
  · rintro ⟨h3, h4⟩
    refine ⟨⟨hkn, h4⟩, ?_⟩
    cases e : bJ op k with
    | false => rfl
    | true => exact absurd (h2.mp e) h3
/-- the top is taken off -/
theorem SX.off (h : SX ad n D row op as ((c, m) :: σ) p) (hc : c < 16) : SX ad n D row (op &&& (((1 : Int32) <<< (nI c &&& 31)) ^^^ -1)) as.dropLast σ p := by
  refine ⟨?_, ?_, ?_, ?_, ?_, ?_, ?_, ?_, ?_⟩
  · exact by rw [h.e, List.map_cons, List.reverse_cons, List.dropLast_concat]
  · exact fun x hx => h.r x (List.mem_cons_of_mem _ hx)
  · exact (List.nodup_cons.mp h.nd).2
  · exact fun j hj => by
      rw [h.nx j (by show j < σ.length + 1; omega), List.reverse_cons, List.getD_eq_getElem?_getD, List.getD_eq_getElem?_getD, List.getElem?_append_left (by rw [List.length_reverse]; exact hj)]
  · exact fun k hk => by
      rw [bJ_and, bJ_not (by omega), bJ_sh (by omega) (by omega), Bool.and_eq_true_iff, h.bt k hk]
      have hn := (List.nodup_cons.mp h.nd).1
      constructor
      · rintro ⟨h1, h2⟩
        rcases List.mem_cons.mp h1 with e | e
        · subst e
          simp at h2
        · exact e
      · intro h1
        refine ⟨List.mem_cons_of_mem _ h1, ?_⟩
        have : c ≠ k := fun e => by
          have h9 : c ∈ σ.map Prod.fst := by rw [e]; exact h1
          exact hn h9
        simp [this]
  · exact by have := h.lp; show σ.length ≤ p; have h2 : σ.length + 1 ≤ p := this; omega
  · exact h.p1
  · exact by have := h.ld; show σ.length ≤ D; have h2 : σ.length + 1 ≤ D := this; omega
  · exact h.d1
/-- one more is put -/
theorem SX.on {k : Nat} {row' : Nat → Nat} (h : SX ad n D row op as ((c, m) :: σ) p) (hk : k < n) (hn : n ≤ 16) (hw : k ∉ ((c, m) :: σ).map Prod.fst) (hp : p < 1000) (hD : ¬ D ≤ σ.length + 1) (hr : ∀ j, j < 16 → row' j = if j = as.length then 0 else if j = as.length - 1 then k + 1 else row j) : SX ad n D row' (op ||| ((1 : Int32) <<< (nI k &&& 31))) (as ++ [ad k]) ((k, 0) :: (c, k + 1) :: σ) (p + 1) := by
  refine ⟨?_, ?_, ?_, ?_, ?_, ?_, ?_, ?_, ?_⟩
  · exact by rw [h.e]; simp
  · exact fun x hx => by
      rcases List.mem_cons.mp hx with e | hx
      · rw [e]; exact ⟨hk, Nat.zero_le _⟩
      · rcases List.mem_cons.mp hx with e | hx
        · rw [e]; exact ⟨(h.r (c, m) List.mem_cons_self).1, hk⟩
        · exact h.r x (List.mem_cons_of_mem _ hx)
  · exact List.nodup_cons.mpr ⟨hw, h.nd⟩
  · exact fun j hj => by
      have hl : as.length = σ.length + 1 := h.len
      have hd := h.ld
      have hd2 := h.d1
      have hj : j < σ.length + 2 := hj
      have hd : σ.length + 1 ≤ D := hd
      rw [hr j (by omega), hl]
      rw [List.reverse_cons, List.reverse_cons, List.getD_eq_getElem?_getD]
      by_cases e1 : j = σ.length + 1
      · rw [if_pos e1, List.getElem?_append_right (by simp; omega)]
        simp [e1]
      · rw [if_neg e1, List.getElem?_append_left (by simp; omega)]
        by_cases e2 : j = σ.length
        · rw [if_pos (by omega), List.getElem?_append_right (by simp; omega)]
          simp [e2]
        · rw [if_neg (by omega), List.getElem?_append_left (by simp; omega)]
          have h1 := h.nx j (by show j < σ.length + 1; omega)
          rw [h1, List.reverse_cons, List.getD_eq_getElem?_getD, List.getElem?_append_left (by simp; omega)]
  · exact fun j hj => by
      rw [bJ_or, bJ_sh (by omega) (by omega), Bool.or_eq_true_iff, h.bt j hj]
      constructor
      · rintro (h1 | h1)
        · exact List.mem_cons_of_mem _ h1
        · rw [decide_eq_true_eq] at h1
          rw [← h1]
          exact List.mem_cons_self
      · intro h1
        rcases List.mem_cons.mp h1 with e | e
        · exact Or.inr (by rw [decide_eq_true_eq]; exact e.symm)
        · exact Or.inl e
  · exact by have h1 : σ.length + 1 ≤ p := h.lp; show σ.length + 2 ≤ p + 1; omega
  · exact by omega
  · exact by show σ.length + 2 ≤ D; omega
  · exact h.d1
end SXS
section SXN
variable {ad : Nat → Nat} {n D : Nat} {row : Nat → Nat} {op iu : Int32} {as : List Nat} {σ : List (Nat × Nat)} {p c m : Nat} {fo : Nat → Nat → Prop} {tr : Nat → Prop}
theorem sx_cons (h : SX ad n D row op as σ p) (h0 : ¬ as.length = 0) : ∃ c m τ, σ = (c, m) :: τ := by
  have hl := h.len
  cases σ with
  | nil => exact absurd hl h0
  | cons x τ => exact ⟨x.1, x.2, τ, rfl⟩
/-- no candidate -/
theorem sx_no (h : SX ad n D row op as ((c, m) :: σ) p) (hn : n ≤ 16) (hb : ∀ k, k < 16 → (bJ iu k = true ↔ k < n ∧ fo c k)) (hno : (1000 : Int32) ≤ nI p ∨ nI D ≤ nI as.length ∨ tr c ∨ ∀ k, m ≤ k → k < n → ¬ ((iu &&& (op ^^^ -1)) >>> (nI k &&& 31)) &&& 1 = 1) : ∀ fl t, ctR n D fo tr fl ((c, m) :: σ) (p, t) = ctR n D fo tr fl σ (p, t) := fun fl t => by
  have hl : as.length = σ.length + 1 := h.len
  have hm := (h.r (c, m) List.mem_cons_self).2
  have hp := h.p1
  have hd := h.d1
  have hld : σ.length + 1 ≤ D := h.ld
  refine ct_none hm (by show p ≤ 1000; exact hp) ?_
  rcases hno with h1 | h1 | h1 | h1
  · rw [show (1000 : Int32) = nI 1000 from rfl, nI_leI (by omega) (by omega)] at h1
    exact Or.inl h1
  · rw [nI_leI (by omega) (by omega)] at h1
    exact Or.inr (Or.inl (by omega))
  · exact Or.inr (Or.inr (Or.inl h1))
  · exact Or.inr (Or.inr (Or.inr (fun k hk hkn hw => h1 k hk hkn ((cb_iff h hb (by omega) hkn).mpr hw))))
/-- a candidate -/
theorem sx_yes {k : Nat} (h : SX ad n D row op as ((c, m) :: σ) p) (hn : n ≤ 16) (hb : ∀ k, k < 16 → (bJ iu k = true ↔ k < n ∧ fo c k)) (hk : k < n) (hmk : m ≤ k) (hcb : ((iu &&& (op ^^^ -1)) >>> (nI k &&& 31)) &&& 1 = 1) (hf : ∀ j, m ≤ j → j < k → ¬ ((iu &&& (op ^^^ -1)) >>> (nI j &&& 31)) &&& 1 = 1) (hp : ¬ (1000 : Int32) ≤ nI p) (hD : ¬ nI D ≤ nI as.length) (ht : ¬ tr c) : p < 1000 ∧ ¬ D ≤ σ.length + 1 ∧ k ∉ ((c, m) :: σ).map Prod.fst ∧ ∀ fl t, ctR n D fo tr fl ((c, m) :: σ) (p, t) = @ite _ (tr k) (Classical.propDecidable _) (thn (sJ fl (k :: c :: σ.map Prod.fst) (p + 1, t)) (ctR n D fo tr fl ((k, 0) :: (c, k + 1) :: σ))) (ctR n D fo tr fl ((k, 0) :: (c, k + 1) :: σ) (p + 1, t)) := by
  have hl : as.length = σ.length + 1 := h.len
  have hp1 := h.p1
  have hd := h.d1
  have hld : σ.length + 1 ≤ D := h.ld
  rw [show (1000 : Int32) = nI 1000 from rfl, nI_leI (by omega) (by omega)] at hp
  rw [nI_leI (by omega) (by omega)] at hD
  have hw := (cb_iff h hb (by omega) hk).mp hcb
  refine ⟨by omega, by omega, hw.1, fun fl t => ?_⟩
  exact ct_some (s := (p, t)) (by show p < 1000; omega) (by omega) ht hmk hk hw (fun j h1 h2 h3 => hf j h1 h2 ((cb_iff h hb (by omega) (by omega)).mpr h3))
end SXN
section SETO
variable {γ : cG} {κ : kE} {Ad : List Nat} {ν : Nat → cN} {ω : Nat → List Nat} {L : Nat} {G : va_W} {a : Nat} {c c' : va_E}
theorem TY.setom {A : Nat → Prop} {i : Nat} {ω' : Nat → List Nat} (h : TY γ κ Ad ν ω L G) (hD : va_D A G) (hg : G[i]? = some (a, c)) (hn : ∀ b, b ≠ a → ω' b = ω b) (h6 : (κ a).1 = 6) (hl : ∀ b, b ∈ Ad → (κ b).1 = 14 ∨ (κ b).1 = 16 → (κ b).2.2 ≠ a) (ho : tOK γ κ Ad ν ω' L a c') : TY γ κ Ad ν ω' L (G.set i (a, c')) := by
  refine ⟨fun b hb => ?_, fun q hq hqa => ?_⟩
  · by_cases hab : a = b
    · subst hab
      exact ⟨c', List.mem_of_getElem? (set_here hg)⟩
    · obtain ⟨d, hd⟩ := h.1 b hb
      obtain ⟨j, hj⟩ := List.getElem?_of_mem hd
      exact ⟨d, List.mem_of_getElem? (set_keep hg hj hab)⟩
  · obtain ⟨j, hj⟩ := List.getElem?_of_mem hq
    by_cases hij : i = j
    · subst hij
      rw [set_here hg] at hj
      cases hj
      exact ho
    · rw [List.getElem?_set_ne hij] at hj
      have hne : q.1 ≠ a := fun e => hij (hD.1 i j _ _ hg hj e.symm)
      refine (h.2 q (List.mem_of_getElem? hj) hqa).mono (fun _ _ => rfl) (fun _ h => h) hqa rfl (hn _ hne) (fun hk => hn _ (hl _ hqa hk)) (fun h8 => ?_)
      rw [hn _ (fun e => by
        have k9 := (en_k h hqa h8).2
        rw [e] at k9
        rw [k9] at h6
        exact absurd h6 (by decide : ¬ (4 : Nat) = 6))]
theorem sx_nk {h pl nx : Nat} (hT : TY γ κ Ad ν ω L G) (kh : tK κ Ad h (13, pl, 0)) (hnx : nx = (ω h).getD 0 0) : tK κ Ad nx (6, 16, 0) := by
  obtain ⟨i, nx9, ⟨k9, e9⟩, -⟩ := ty_13 hT kh
  rw [hnx, ← e9]
  exact k9
theorem sx_ne {h pl nx : Nat} (hT : TY γ κ Ad ν ω L G) (kh : tK κ Ad h (13, pl, 0)) (hnx : nx = (ω h).getD 0 0) : h ≠ nx := q_nek kh (sx_nk hT kh hnx) (by simp)
end SETO
/-- the first one -/
theorem SX.one {ad : Nat → Nat} {n D t : Nat} {row : Nat → Nat} (ht : t < n) (hn : n ≤ 16) (hr : row 0 = 0) (h1 : 1 ≤ D) (h2 : D ≤ 16) : SX ad n D row (0 ||| ((1 : Int32) <<< (nI t &&& 31))) [ad t] [(t, 0)] 1 := by
  refine ⟨?_, ?_, ?_, ?_, ?_, ?_, ?_, ?_, ?_⟩
  · exact rfl
  · exact fun x hx => by
      rw [List.mem_singleton.mp hx]
      exact ⟨ht, Nat.zero_le _⟩
  · exact by simp
  · exact fun j hj => by
      have : j = 0 := by
        have h9 : j < 1 := hj
        omega
      subst this
      exact hr
  · exact fun k hk => by
      rw [bJ_or, bJ_0, bJ_sh (by omega) (by omega), Bool.false_or, decide_eq_true_eq]
      show t = k ↔ k ∈ [t]
      rw [List.mem_singleton]
      exact eq_comm
  · exact Nat.le_refl _
  · exact by decide
  · exact h1
  · exact h2
theorem ct_tru {n D : Nat} {fo : Nat → Nat → Prop} {tr : Nat → Prop} {fl : List Nat → Int32 × Int32} {t : Nat} (h : tr t) (hD : 1 ≤ D) (s : sS) : gR n fo tr fl (D - 1) [t] s = thn (sJ fl [t] s) (ctR n D fo tr fl [(t, 0)]) := by
  rw [ct_begin hD, if_pos h]
  have e : ∀ q : Bool × sS, q = thn q (ctR n D fo tr fl [(t, 0)]) := fun q => by
    unfold thn
    by_cases h1 : q.1 = true
    · rw [if_pos h1]
    · rw [if_neg h1]
      show q = thn (@ite _ (tr t) (Classical.propDecidable _) (false, q.2) _) (ctR n D fo tr fl [])
      rw [if_pos h, thn_f]
      obtain ⟨a, b⟩ := q
      have h9 : a = false := by simpa using h1
      subst h9
      rfl
  exact e _
/-- the reference's 'ends', said of contents -/
theorem en_y {u v : Nat → Nat} {a b c d : Nat} (h1 : a ≤ b) (h3 : c ≤ d) : dtQ (rgM u a (b - a)) (rgM v c (d - c)) ↔ b - a ≤ d - c ∧ (∀ j, 1 ≤ j → j ≤ b - a → lowN (u (b - j)) = lowN (v (d - j))) ∧ ((b - a = 0) ∨ ((b - a = d - c) ∨ (v (d - (b - a) - 1) = 46))) := by
  unfold dtQ tlQ
  rw [rgM_len, rgM_len]
  constructor
  · rintro ⟨g1, g2, g3⟩
    refine ⟨g1, fun j hj1 hj2 => ?_, ?_⟩
    · have g := g2 j hj1 hj2
      rw [rgM_at (by omega), rgM_at (by omega), show a + (b - a - j) = b - j by omega, show c + (d - c - j) = d - j by omega] at g
      exact g
    · rcases g3 with g3 | g3 | g3
      · exact Or.inl g3
      · exact Or.inr (Or.inl g3)
      · by_cases e : b - a = d - c
        · exact Or.inr (Or.inl e)
        · rw [rgM_at (by omega), show c + (d - c - (b - a) - 1) = d - (b - a) - 1 by omega] at g3
          exact Or.inr (Or.inr g3)
  · rintro ⟨g1, g2, g3⟩
    refine ⟨g1, fun j hj1 hj2 => ?_, ?_⟩
    · rw [rgM_at (by omega), rgM_at (by omega), show a + (b - a - j) = b - j by omega, show c + (d - c - j) = d - j by omega]
      exact g2 j hj1 hj2
    · rcases g3 with g3 | g3 | g3
      · exact Or.inl g3
      · exact Or.inr (Or.inl g3)
      · by_cases e : b - a = d - c
        · exact Or.inr (Or.inl e)
        · rw [rgM_at (by omega), show c + (d - c - (b - a) - 1) = d - (b - a) - 1 by omega]
          exact Or.inr (Or.inr g3)
theorem low_n {k : Nat} (h : k < 256) : sl_low (nI k) = nI (lowN k) := by
  have key : ∀ k : Fin 256, sl_low (nI k.val) = nI (lowN k.val) := by decide +kernel
  exact key ⟨k, h⟩
theorem low_lt {k : Nat} (h : k < 256) : lowN k < 300 := by
  unfold lowN
  split <;> omega
