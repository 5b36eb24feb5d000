/-! The reference's search, said of its Texts (p11 to p13; draft; behind 87fz). -/
noncomputable def rFT (τ : Nat → TD) (fS fV : Nat → Option Nat) (KL : Nat) (nw : Int64) (mk : Int32) (wl : List Nat) : Nat → Int32 := fltQ (cXf τ fS) (lXf τ fV) KL (fun a9 b9 => sgT (τ ((fS a9).getD 0)) (τ ((fS b9).getD 0))) (fun l9 b9 => sgT (τ ((fV l9).getD 0)) (τ ((fS b9).getD 0))) nw (mk = 1) wl
noncomputable def rFL (τ : Nat → TD) (fS fV : Nat → Option Nat) (KL : Nat) (nw : Int64) (mk : Int32) : List Nat → Int32 × Int32 := flQ (cXf τ fS) (lXf τ fV) KL (fun a9 b9 => sgT (τ ((fS a9).getD 0)) (τ ((fS b9).getD 0))) (fun l9 b9 => sgT (τ ((fV l9).getD 0)) (τ ((fS b9).getD 0))) nw (mk = 1)
def rFO (τ : Nat → TD) (fS : Nat → Option Nat) : Nat → Nat → Prop := fun d9 c9 => folQ (cXf τ fS c9) (cXf τ fS d9)
def rTR (τ : Nat → TD) (fS : Nat → Option Nat) : Nat → Prop := fun k9 => ¬ (τ ((fS k9).getD 0)).I 42 = 0
theorem rFL_w (τ : Nat → TD) (fS fV : Nat → Option Nat) (KL : Nat) (nw : Int64) (mk : Int32) (wl : List Nat) : rFL τ fS fV KL nw mk wl.reverse = flG (rFT τ fS fV KL nw mk wl) (wl.length - 1) := by
  unfold rFL flQ
  rw [List.reverse_reverse, List.length_reverse]
  rfl
theorem and1 (x : Int32) : x &&& 1 = 0 ∨ x &&& 1 = 1 := by
  have h : (x.toBitVec &&& 1#32).toNat < 2 := by
    rw [BitVec.toNat_and]
    exact Nat.lt_of_le_of_lt Nat.and_le_right (by decide)
  have e : x &&& 1 = nI (x.toBitVec &&& 1#32).toNat := by
    apply Int32.toBitVec_inj.mp
    show x.toBitVec &&& 1#32 = BitVec.ofNat 32 _
    rw [BitVec.ofNat_toNat, BitVec.setWidth_eq]
  rcases (show (x.toBitVec &&& 1#32).toNat = 0 ∨ (x.toBitVec &&& 1#32).toNat = 1 by omega) with h2 | h2
  · left; rw [e, h2]; rfl
  · right; rw [e, h2]; rfl
theorem use_6 {u : Int32} : useQ u 6 ↔ (u < 0 ∨ ¬ (u >>> (6 &&& 31) &&& 1 = 0)) := by
  unfold useQ
  rw [show ((6 : Int32) &&& 31) = 6 from by decide]
  constructor
  · rintro (h | h)
    · exact Or.inl h
    · exact Or.inr (fun q => absurd (h.symm.trans q) (by decide))
  · rintro (h | h)
    · exact Or.inl h
    · exact Or.inr ((and1 _).resolve_left h)
theorem use_5 {u : Int32} : useQ u 5 ↔ (u < 0 ∨ ¬ (u >>> (5 &&& 31) &&& 1 = 0)) := by
  unfold useQ
  rw [show ((5 : Int32) &&& 31) = 5 from by decide]
  constructor
  · rintro (h | h)
    · exact Or.inl h
    · exact Or.inr (fun q => absurd (h.symm.trans q) (by decide))
  · rintro (h | h)
    · exact Or.inl h
    · exact Or.inr ((and1 _).resolve_left h)
theorem ma_0 {x : Int32} (h : ¬ x < 0) : x = 0 ↔ ¬ 0 < x := by
  rw [Int32.lt_iff_toInt_lt] at h ⊢
  rw [← Int32.toInt_inj]
  rw [show (0 : Int32).toInt = 0 from by decide] at h ⊢
  omega
theorem btw_y {C : Nat → cQ} {w : List Nat} {k z : Nat} (h : k ≤ z) (p : ownQ (C (w.getD z 0))) : nI (btwQ C w k (z - k)) = nI (btwQ C w k (z + 1 - k)) := by
  rw [show z + 1 - k = (z - k) + 1 by omega]
  show _ = nI (btwQ C w k (z - k) + @ite _ (ownQ (C (w.getD (k + (z - k)) 0))) (Classical.propDecidable _) 0 1)
  (rw [show k + (z - k) = z by omega, if_pos p]) <;> rfl
theorem btw_n {C : Nat → cQ} {w : List Nat} {k z : Nat} (h : k ≤ z) (p : ¬ ownQ (C (w.getD z 0))) : nI (btwQ C w k (z - k) + 1) = nI (btwQ C w k (z + 1 - k)) := by
  rw [show z + 1 - k = (z - k) + 1 by omega]
  show _ = nI (btwQ C w k (z - k) + @ite _ (ownQ (C (w.getD (k + (z - k)) 0))) (Classical.propDecidable _) 0 1)
  rw [show k + (z - k) = z by omega, if_neg p]
/-- the loop that looks for the first fault -/
def FJ (F : Nat → Int32) (N z : Nat) (f a : Int32) : Prop := (f = 0 ∧ flG F N = flG F z) ∨ (¬ f = 0 ∧ flG F N = (f, a))
theorem fj_step {F : Nat → Int32} {N z : Nat} (h : flG F N = flG F (z + 1)) : FJ F N z (F z) (nI z) := by
  by_cases e : F z = 0
  · exact Or.inl ⟨e, h.trans (flG_step e)⟩
  · exact Or.inr ⟨e, h.trans (flG_stop e)⟩
theorem fj_0 {F : Nat → Int32} {N z : Nat} {f a : Int32} (h : FJ F N z f a) (hf : f = 0) : flG F N = flG F z := h.elim (fun q => q.2) (fun q => absurd hf q.1)
theorem fj_n {F : Nat → Int32} {N z : Nat} {f a : Int32} (h : FJ F N z f a) (hf : ¬ f = 0) : flG F N = (f, a) := h.elim (fun q => absurd q.1 hf) (fun q => q.2)
/-- rows of what was kept -/
def fdR (w : List Nat) (ff : Nat → Int32) : Prop := w.length ≤ 16 ∧ ∀ j, j < w.length → ff j = nI (w.reverse.getD j 0)
theorem fdR_w {wl : List Nat} {f : Nat → Int32} (h1 : wl.length ≤ 16) (h : ∀ j, j < wl.length → f j = nI (wl.getD j 0)) : fdR wl.reverse f := by
  refine ⟨by rw [List.length_reverse]; exact h1, fun j hj => ?_⟩
  rw [List.length_reverse] at hj
  rw [List.reverse_reverse]
  exact h j hj
def bB (b : Bool) : Int32 := cond b 1 0
theorem rFL_s {τ : Nat → TD} {fS fV : Nat → Option Nat} {KL : Nat} {nw : Int64} {mk : Int32} {wl : List Nat} {s9 : Nat} (h : wl.length = s9) : rFL τ fS fV KL nw mk wl.reverse = flG (rFT τ fS fV KL nw mk wl) (s9 - 1) := by
  rw [rFL_w, h]
theorem sJ_no {fl : List Nat → Int32 × Int32} {w : List Nat} {s : sS} {f a : Int32} (h : fl w = (f, a)) (hf : ¬ f = 0) (hc : ¬ s.2.1 = 0) : sJ fl w s = (false, (s.1, s.2.1 + 1, s.2.2)) := by
  unfold sJ
  rw [if_pos (by rw [h]; exact ⟨hf, hc⟩)]
theorem sJ_ok {fl : List Nat → Int32 × Int32} {w : List Nat} {s : sS} (h : fl w = (0, -1)) : sJ fl w s = (true, (s.1, s.2.1 + 1, w, 0, -1)) := by
  have e1 : (fl w).1 = 0 := by rw [h]
  have e2 : (fl w).2 = -1 := by rw [h]
  unfold sJ
  rw [if_neg (fun q => q.1 e1), @decide_eq_true ((fl w).1 = 0) (Classical.propDecidable _) e1, e1, e2]
theorem sJ_1 {fl : List Nat → Int32 × Int32} {w : List Nat} {s : sS} {f a : Int32} (h : fl w = (f, a)) (hf : ¬ f = 0) (hc : s.2.1 = 0) : sJ fl w s = (false, (s.1, s.2.1 + 1, w, f, a)) := by
  have e1 : (fl w).1 = f := by rw [h]
  have e2 : (fl w).2 = a := by rw [h]
  have e3 : ¬ (fl w).1 = 0 := by rw [e1]; exact hf
  unfold sJ
  rw [if_neg (fun q => q.2 hc), @decide_eq_false ((fl w).1 = 0) (Classical.propDecidable _) e3, e1, e2]
theorem cp_sw {wl : List Nat} {z : Nat} {f f' : Nat → Int32} (h : ∀ j, j < z → f j = nI (wl.getD j 0)) (e : f' = upd f (nI z).toNatClampNeg (nI (wl.getD z 0))) (hz : z < 2 ^ 20) : ∀ j, j < z + 1 → f' j = nI (wl.getD j 0) := fun j hj => by
  rw [nI_clamp (by omega)] at e
  by_cases q : j = z
  · subst q
    rw [e]; unfold upd; rw [if_pos rfl]
  · rw [e]; unfold upd; rw [if_neg q]
    exact h j (by omega)
/-! The search, step by step. -/
theorem bB_z {r : Int32} {b : Bool} (h : r = bB b) : narrow .boolean (.int r) = .int r := by
  subst h
  cases b <;> rfl
theorem bB_1 {r : Int32} {b : Bool} (h : r = bB b) (h0 : ¬ r = 0) : b = true := by
  cases b
  · exact absurd h h0
  · rfl
theorem bB_0 {r : Int32} {b : Bool} (h : r = bB b) (h0 : r = 0) : b = false := by
  cases b
  · rfl
  · exact absurd (h.symm.trans h0) (by decide)
theorem ln_s {wl : List Nat} {s9 z : Nat} (h : wl.length = s9) : (wl ++ [z]).length = s9 + 1 := by (rw [List.length_append, h]) <;> rfl
theorem rv_s (wl : List Nat) (z : Nat) : (wl ++ [z]).reverse = z :: wl.reverse := by (rw [List.reverse_append]) <;> rfl
theorem hd_r {wl : List Nat} {s9 : Nat} (h : wl.length = s9) (h1 : 1 ≤ s9) : wl.reverse.headD 0 = wl.getD (s9 - 1) 0 := by
  rw [List.headD_eq_head?_getD, List.head?_reverse, List.getLast?_eq_getElem?, List.getD_eq_getElem?_getD, h]
theorem wy_s {wl : List Nat} {s9 K9 z : Nat} {f f' : Nat → Int32} (h : wyR wl K9 f) (hl : wl.length = s9) (ef : f' = upd f (nI s9).toNatClampNeg (nI z)) (hz : z < K9) (hs : s9 < 2 ^ 20) : wyR (wl ++ [z]) K9 f' := fun j hj => by
  rw [ln_s hl] at hj
  rw [nI_clamp (by omega)] at ef
  by_cases e : j = s9
  · subst e
    have q : (wl ++ [z]).getD j 0 = z := by (rw [List.getD_eq_getElem?_getD, List.getElem?_append_right (by omega), hl, Nat.sub_self]) <;> rfl
    rw [q]
    exact ⟨hz, by rw [ef]; unfold upd; rw [if_pos rfl]⟩
  · have q : (wl ++ [z]).getD j 0 = wl.getD j 0 := by rw [List.getD_eq_getElem?_getD, List.getElem?_append_left (by omega), ← List.getD_eq_getElem?_getD]
    rw [q]
    obtain ⟨h1, h2⟩ := h j (by omega)
    exact ⟨h1, by rw [ef]; unfold upd; rw [if_neg e]; exact h2⟩
theorem wy_p {wl : List Nat} {K9 z : Nat} {f : Nat → Int32} (h : wyR (wl ++ [z]) K9 f) : wyR wl K9 f := fun j hj => by
  have q : (wl ++ [z]).getD j 0 = wl.getD j 0 := by rw [List.getD_eq_getElem?_getD, List.getElem?_append_left hj, ← List.getD_eq_getElem?_getD]
  have h2 := h j (by rw [ln_s rfl]; omega)
  rw [q] at h2
  exact h2
theorem may_f {τ : Nat → TD} {fS : Nat → Option Nat} {wl : List Nat} {s9 z : Nat} (h : wl.length = s9) (h1 : 1 ≤ s9) : mayF (rFO τ fS) wl.reverse z ↔ (z ∉ wl ∧ folQ (cXf τ fS z) (cT (τ ((fS (wl.getD (s9 - 1) 0)).getD 0)))) := by
  unfold mayF rFO
  rw [hd_r h h1, List.mem_reverse]
  exact Iff.rfl
theorem tr_f {τ : Nat → TD} {fS : Nat → Option Nat} {wl : List Nat} {s9 : Nat} (h : wl.length = s9) (h1 : 1 ≤ s9) : rTR τ fS (wl.reverse.headD 0) ↔ ¬ (τ ((fS (wl.getD (s9 - 1) 0)).getD 0)).I 42 = 0 := by
  unfold rTR
  rw [hd_r h h1]
section GOQ
variable {n : Nat} {fo : Nat → Nat → Prop} {tr : Nat → Prop} {fl : List Nat → Int32 × Int32} {rec : List Nat → sS → Bool × sS} {w : List Nat}
theorem gR_t {r : Nat} {s : sS} (h : tr (w.headD 0)) : gR n fo tr fl r w s = sJ fl w s := by
  cases r <;> exact if_pos h
theorem gR_e {s : sS} (h : ¬ tr (w.headD 0)) : gR n fo tr fl 0 w s = (false, s) := if_neg h
theorem gR_l {r : Nat} {s : sS} (h : ¬ tr (w.headD 0)) : gR n fo tr fl (r + 1) w s = lpR n fo (gR n fo tr fl r) w n s := if_neg h
theorem lp_no {z : Nat} {s : sS} (h : ¬ mayF fo w z) (hz : z < n) : lpR n fo rec w (n - z) s = lpR n fo rec w (n - (z + 1)) s := by
  rw [show n - z = (n - (z + 1)) + 1 by omega]
  show @ite _ (mayF fo w (n - (n - (z + 1) + 1))) (Classical.propDecidable _) _ _ = _
  rw [show n - (n - (z + 1) + 1) = z by omega]
  exact if_neg h
theorem lp_cap {z : Nat} {s : sS} (h : mayF fo w z) (hz : z < n) (hs : s.1 = 1000) : lpR n fo rec w (n - z) s = (false, s) := lp_full hs _
theorem lp_go {z : Nat} {s : sS} (h : mayF fo w z) (hz : z < n) (hs : ¬ s.1 = 1000) : lpR n fo rec w (n - z) s = thn (rec (z :: w) (s.1 + 1, s.2)) (lpR n fo rec w (n - (z + 1))) := by
  rw [show n - z = (n - (z + 1)) + 1 by omega]
  show @ite _ (mayF fo w (n - (n - (z + 1) + 1))) (Classical.propDecidable _) (@ite _ (s.1 = 1000) (Classical.propDecidable _) _ (thn (rec ((n - (n - (z + 1) + 1)) :: w) (s.1 + 1, s.2)) _)) _ = _
  rw [show n - (n - (z + 1) + 1) = z by omega, if_pos h, if_neg hs]
theorem lp_nx {z p c : Nat} {k w' : List Nat} {v f : Int32} {q : Bool × sS} (h : mayF fo w z) (hz : z < n) (hs : ¬ p = 1000) (hw : w' = z :: w) (eq : q = rec w' (p + 1, c, k, v, f)) (hb : q.1 = false) : lpR n fo rec w (n - z) (p, c, k, v, f) = lpR n fo rec w (n - (z + 1)) q.2 := by
  rw [lp_go h hz hs]
  show thn (rec (z :: w) (p + 1, c, k, v, f)) _ = _
  rw [← hw, ← eq]
  exact if_neg (by rw [hb]; decide)
theorem lp_ys {z p c : Nat} {k w' : List Nat} {v f : Int32} {q : Bool × sS} (h : mayF fo w z) (hz : z < n) (hs : ¬ p = 1000) (hw : w' = z :: w) (eq : q = rec w' (p + 1, c, k, v, f)) (hb : q.1 = true) : lpR n fo rec w (n - z) (p, c, k, v, f) = q := by
  rw [lp_go h hz hs]
  show thn (rec (z :: w) (p + 1, c, k, v, f)) _ = _
  rw [← hw, ← eq]
  exact if_pos hb
theorem sJ_b {s : sS} (h : s.2.1 < s.1) (h1 : s.1 ≤ 1000) : (sJ fl w s).2.2.1 ≤ (sJ fl w s).2.1 ∧ (sJ fl w s).2.1 ≤ 1000 := by
  unfold sJ
  by_cases q : (fl w).1 ≠ 0 ∧ s.2.1 ≠ 0
  · rw [if_pos q]; exact ⟨h, h1⟩
  · rw [if_neg q]; exact ⟨h, h1⟩
theorem lpR_b (hr : ∀ w s, s.2.1 < s.1 → s.1 ≤ 1000 → (rec w s).2.2.1 ≤ (rec w s).2.1 ∧ (rec w s).2.1 ≤ 1000) : ∀ m s, s.2.1 ≤ s.1 → s.1 ≤ 1000 → (lpR n fo rec w m s).2.2.1 ≤ (lpR n fo rec w m s).2.1 ∧ (lpR n fo rec w m s).2.1 ≤ 1000
  | 0, s, h, h1 => ⟨h, h1⟩
  | m + 1, s, h, h1 => by
    unfold lpR
    by_cases q : mayF fo w (n - (m + 1))
    · rw [if_pos q]
      by_cases q2 : s.1 = 1000
      · rw [if_pos q2]; exact ⟨h, h1⟩
      · rw [if_neg q2]
        have hb := hr ((n - (m + 1)) :: w) (s.1 + 1, s.2) (show s.2.1 < s.1 + 1 by omega) (show s.1 + 1 ≤ 1000 by omega)
        unfold thn
        by_cases q3 : (rec ((n - (m + 1)) :: w) (s.1 + 1, s.2)).1 = true
        · rw [if_pos q3]; exact hb
        · rw [if_neg q3]; exact lpR_b hr m _ hb.1 hb.2
    · rw [if_neg q]; exact lpR_b hr m s h h1
theorem gR_b : ∀ r w s, s.2.1 < s.1 → s.1 ≤ 1000 → (gR n fo tr fl r w s).2.2.1 ≤ (gR n fo tr fl r w s).2.1 ∧ (gR n fo tr fl r w s).2.1 ≤ 1000
  | 0, w, s, h, h1 => by
    by_cases q : tr (w.headD 0)
    · rw [gR_t q]; exact sJ_b h h1
    · rw [gR_e q]; exact ⟨Nat.le_of_lt h, h1⟩
  | r + 1, w, s, h, h1 => by
    by_cases q : tr (w.headD 0)
    · rw [gR_t q]; exact sJ_b h h1
    · rw [gR_l q]; exact lpR_b (gR_b r) n s (Nat.le_of_lt h) h1
end GOQ
/-- the loop of goOn: what is left of the search -/
def GJ (n : Nat) (fo : Nat → Nat → Prop) (tr : Nat → Prop) (fl : List Nat → Int32 × Int32) (r : Nat) (wl : List Nat) (Q : Bool × sS) (z : Nat) (fw ff : Nat → Int32) (pt ch cz vd ft : Int32) : Prop := wyR wl n fw ∧ ∃ (p c : Nat) (k : List Nat), Q = lpR n fo (gR n fo tr fl r) wl.reverse (n - z) (p, c, k, vd, ft) ∧ c ≤ p ∧ p ≤ 1000 ∧ fdR k ff ∧ pt = nI p ∧ ch = nI c ∧ cz = nI k.length
/-! The face: validate, chain, count. -/
noncomputable def rVQ (τ : Nat → TD) (fS fV : Nat → Option Nat) (K9 KL : Nat) (nw : Int64) (mk : Int32) (k m : Nat) : sS := valQ (cXf τ fS) (lXf τ fV) KL (fun a9 b9 => sgT (τ ((fS a9).getD 0)) (τ ((fS b9).getD 0))) (fun l9 b9 => sgT (τ ((fV l9).getD 0)) (τ ((fS b9).getD 0))) nw (mk = 1) K9 (rTR τ fS) k m
theorem flG_z {f : Nat → Int32} : ∀ m, (flG f m).1 = 0 → (flG f m).2 = -1
  | 0, _ => rfl
  | m + 1, h => by
    by_cases q : f m = 0
    · rw [flG_step q] at h ⊢
      exact flG_z m h
    · rw [flG_stop q] at h
      exact absurd h q
section GOV
variable {n : Nat} {fo : Nat → Nat → Prop} {tr : Nat → Prop} {fl : List Nat → Int32 × Int32} {rec : List Nat → sS → Bool × sS} {w : List Nat}
def vZ (s : sS) : Prop := s.2.2.2.1 = 0 → s.2.2.2.2 = -1
theorem sJ_v (hfl : ∀ w, (fl w).1 = 0 → (fl w).2 = -1) {s : sS} (h : vZ s) : vZ (sJ fl w s).2 := by
  unfold sJ
  by_cases q : (fl w).1 ≠ 0 ∧ s.2.1 ≠ 0
  · rw [if_pos q]; exact h
  · rw [if_neg q]; exact hfl w
theorem lpR_v (hr : ∀ w s, vZ s → vZ (rec w s).2) : ∀ m s, vZ s → vZ (lpR n fo rec w m s).2
  | 0, _, h => h
  | m + 1, s, h => by
    unfold lpR
    by_cases q : mayF fo w (n - (m + 1))
    · rw [if_pos q]
      by_cases q2 : s.1 = 1000
      · rw [if_pos q2]; exact h
      · rw [if_neg q2]
        have hb := hr ((n - (m + 1)) :: w) (s.1 + 1, s.2) h
        unfold thn
        by_cases q3 : (rec ((n - (m + 1)) :: w) (s.1 + 1, s.2)).1 = true
        · rw [if_pos q3]; exact hb
        · rw [if_neg q3]; exact lpR_v hr m _ hb
    · rw [if_neg q]; exact lpR_v hr m s h
theorem gR_v (hfl : ∀ w, (fl w).1 = 0 → (fl w).2 = -1) : ∀ r w s, vZ s → vZ (gR n fo tr fl r w s).2
  | 0, w, s, h => by
    by_cases q : tr (w.headD 0)
    · rw [gR_t q]; exact sJ_v hfl h
    · rw [gR_e q]; exact h
  | r + 1, w, s, h => by
    by_cases q : tr (w.headD 0)
    · rw [gR_t q]; exact sJ_v hfl h
    · rw [gR_l q]; exact lpR_v (gR_v hfl r) n s h
end GOV
theorem fdR_0 (ff : Nat → Int32) : fdR [] ff := ⟨Nat.zero_le _, fun j h => absurd h (Nat.not_lt_zero j)⟩
theorem wy_1 {k K9 : Nat} {f f' : Nat → Int32} (ef : f' = upd f (0 : Int32).toNatClampNeg (nI k)) (hk : k < K9) : wyR [k] K9 f' := fun j hj => by
  have e : j = 0 := by have h9 : j < 1 := hj; omega
  subst e
  exact ⟨hk, by rw [ef, show (0 : Int32).toNatClampNeg = 0 from by decide]; unfold upd; (rw [if_pos rfl]) <;> rfl⟩
theorem cnI_n {z y : Nat} {c f d i : Int32} (h : ¬ (¬ i < 0 ∧ ¬ 4 < i)) : cntI z y c f d i = none := by
  have h4 : ¬ (0 ≤ i.toInt ∧ i.toInt ≤ 4) := fun q => h ⟨fun z => by rw [Int32.lt_iff_toInt_lt, show (0 : Int32).toInt = 0 from by decide] at z; omega, fun z => by rw [Int32.lt_iff_toInt_lt, show (4 : Int32).toInt = 4 from by decide] at z; omega⟩
  unfold cntI
  rw [if_neg (by omega), if_neg (by omega), if_neg (by omega), if_neg (by omega), if_neg (by omega)]
theorem cnI_0 {z y : Nat} {c f d i : Int32} (h : i = 0) : cntI z y c f d i = some (nI z) := by
  subst h
  unfold cntI
  rw [if_pos (by decide)]
theorem cnI_1 {z y : Nat} {c f d i : Int32} (h : i = 1) : cntI z y c f d i = some (nI y) := by
  subst h
  unfold cntI
  rw [if_neg (by decide), if_pos (by decide)]
theorem cnI_2 {z y : Nat} {c f d i : Int32} (h : i = 2) : cntI z y c f d i = some c := by
  subst h
  unfold cntI
  rw [if_neg (by decide), if_neg (by decide), if_pos (by decide)]
theorem cnI_3 {z y : Nat} {c f d i : Int32} (h : i = 3) : cntI z y c f d i = some f := by
  subst h
  unfold cntI
  rw [if_neg (by decide), if_neg (by decide), if_neg (by decide), if_pos (by decide)]
theorem cnI_4 {z y : Nat} {c f d i : Int32} (h : ¬ i < 0 ∧ ¬ 4 < i) (h0 : ¬ i = 0) (h1 : ¬ i = 1) (h2 : ¬ i = 2) (h3 : ¬ i = 3) : cntI z y c f d i = some d := by
  obtain ⟨a, b⟩ := h
  rw [Int32.lt_iff_toInt_lt, show (0 : Int32).toInt = 0 from by decide] at a
  rw [Int32.lt_iff_toInt_lt, show (4 : Int32).toInt = 4 from by decide] at b
  have g0 : ¬ i.toInt = (0 : Int32).toInt := fun q => h0 (Int32.toInt_inj.mp q)
  have g1 : ¬ i.toInt = (1 : Int32).toInt := fun q => h1 (Int32.toInt_inj.mp q)
  have g2 : ¬ i.toInt = (2 : Int32).toInt := fun q => h2 (Int32.toInt_inj.mp q)
  have g3 : ¬ i.toInt = (3 : Int32).toInt := fun q => h3 (Int32.toInt_inj.mp q)
  rw [show (0 : Int32).toInt = 0 from by decide] at g0
  rw [show (1 : Int32).toInt = 1 from by decide] at g1
  rw [show (2 : Int32).toInt = 2 from by decide] at g2
  rw [show (3 : Int32).toInt = 3 from by decide] at g3
  unfold cntI
  rw [if_neg g0, if_neg g1, if_neg g2, if_neg g3, if_pos (by omega)]
