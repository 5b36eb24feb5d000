/-! validate: what it leaves (p11 to p13; draft; behind 84a9v and the first half of p9o_rows). -/
theorem map_gD {ad : Nat → Nat} {w : List Nat} {j : Nat} (h : j < w.length) : (w.map ad).getD j 0 = ad (w.getD j 0) := by
  rw [List.getD_eq_getElem?_getD, List.getElem?_map, List.getElem?_eq_getElem h, List.getD_eq_getElem?_getD, List.getElem?_eq_getElem h]
  rfl
section FMAP
variable {C : Nat → cQ} {ad : Nat → Nat} {w : List Nat} {i : Nat}
theorem btwQ_m : ∀ m, i + m ≤ w.length → btwQ C (w.map ad) i m = btwQ (fun k => C (ad k)) w i m
  | 0, _ => rfl
  | m + 1, h => by
    show btwQ C (w.map ad) i m + @ite _ (ownQ (C ((w.map ad).getD (i + m) 0))) (Classical.propDecidable _) 0 1 = btwQ (fun k => C (ad k)) w i m + @ite _ (ownQ (C (ad (w.getD (i + m) 0)))) (Classical.propDecidable _) 0 1
    rw [btwQ_m m (by omega), map_gD (show i + m < w.length by omega)]
theorem namQ_m (hi : i < w.length) : namQ C (w.map ad) i ↔ namQ (fun k => C (ad k)) w i := by
  unfold namQ
  rw [List.length_map, map_gD hi]
  constructor
  · intro h j h1 h2
    have h3 := h j h1 h2
    rw [map_gD (show j < w.length by omega)] at h3
    exact h3
  · intro h j h1 h2
    rw [map_gD (show j < w.length by omega)]
    exact h j h1 h2
theorem farQ_m : farQ C (w.map ad) i ↔ farQ (fun k => C (ad k)) w i := by
  unfold farQ
  rw [List.length_map]
  constructor
  · rintro ⟨j, h1, h2, h3, h4⟩
    rw [map_gD (show j < w.length by omega)] at h3 h4
    rw [btwQ_m (j - i) (by omega)] at h4
    exact ⟨j, h1, h2, h3, h4⟩
  · rintro ⟨j, h1, h2, h3, h4⟩
    refine ⟨j, h1, h2, ?_, ?_⟩
    · rw [map_gD (show j < w.length by omega)]; exact h3
    · rw [map_gD (show j < w.length by omega), btwQ_m (j - i) (by omega)]; exact h4
theorem issQ_m (hi : i < w.length) : issQ C (w.map ad) i = issQ (fun k => C (ad k)) w i := by
  unfold issQ
  rw [map_gD hi, show farQ C (w.map ad) i = farQ (fun k => C (ad k)) w i from propext farQ_m]
theorem fltQ_m {Ls : Nat → lQ} {nl : Nat} {sc sl : Nat → Nat → Prop} {now : Int64} {kn : Prop} (hi : i + 1 < w.length) : fltQ C Ls nl sc sl now kn (w.map ad) i = fltQ (fun k => C (ad k)) Ls nl (fun a b => sc (ad a) (ad b)) (fun l s => sl l (ad s)) now kn w i := by
  unfold fltQ
  (rw [map_gD (show i < w.length by omega), map_gD hi, show namQ C (w.map ad) i = namQ (fun k => C (ad k)) w i from propext (namQ_m (by omega)), issQ_m (by omega)]) <;> rfl
end FMAP
theorem sj_0 {fl : List Nat → Int32 × Int32} {w : List Nat} {s : sS} (h : (fl w).1 = 0) : sJ fl w s = (true, (s.1, s.2.1 + 1, w, (fl w).1, (fl w).2)) := by
  unfold sJ
  rw [if_neg (show ¬ ((fl w).1 ≠ 0 ∧ s.2.1 ≠ 0) from fun q => q.1 h)]
  exact congrArg (fun b : Bool => (b, (s.1, s.2.1 + 1, w, (fl w).1, (fl w).2))) (@decide_eq_true _ (Classical.propDecidable _) h)
theorem sj_1 {fl : List Nat → Int32 × Int32} {w : List Nat} {s : sS} (h : ¬ (fl w).1 = 0) (h0 : s.2.1 = 0) : sJ fl w s = (false, (s.1, s.2.1 + 1, w, (fl w).1, (fl w).2)) := by
  unfold sJ
  rw [if_neg (show ¬ ((fl w).1 ≠ 0 ∧ s.2.1 ≠ 0) from fun q => q.2 h0)]
  exact congrArg (fun b : Bool => (b, (s.1, s.2.1 + 1, w, (fl w).1, (fl w).2))) (@decide_eq_false _ (Classical.propDecidable _) h)
theorem sj_2 {fl : List Nat → Int32 × Int32} {w : List Nat} {s : sS} (h : ¬ (fl w).1 = 0) (h0 : ¬ s.2.1 = 0) : sJ fl w s = (false, (s.1, s.2.1 + 1, s.2.2)) := if_pos ⟨h, h0⟩
theorem thn_t {s : sS} {f : sS → Bool × sS} : thn (true, s) f = (true, s) := if_pos rfl
theorem sx_row {ad : Nat → Nat} {n D : Nat} {row : Nat → Nat} {op : Int32} {as : List Nat} {σ : List (Nat × Nat)} {p : Nat} (h : SX ad n D row op as σ p) {j : Nat} (hj : j < as.length) : as.getD j 0 = ad ((σ.map Prod.fst).reverse.getD j 0) ∧ (σ.map Prod.fst).reverse.getD j 0 < n := by
  have hl := h.len
  have e : as = ((σ.map Prod.fst).reverse).map ad := by
    (rw [h.e, List.map_reverse, List.map_map]) <;> rfl
  have hj2 : j < (σ.map Prod.fst).reverse.length := by
    rw [List.length_reverse, List.length_map]
    omega
  have e2 := map_gD (ad := ad) hj2
  rw [← e] at e2
  refine ⟨e2, ?_⟩
  have hm := gD_in hj2
  obtain ⟨x, hx, e3⟩ := List.mem_map.mp (List.mem_reverse.mp hm)
  rw [← e3]
  exact (h.r x hx).1
theorem KN_om {κ : kE} {Ad : List Nat} {ω ω' : Nat → List Nat} {c l : Nat} (h : KN κ Ad ω c l) (e : ω' l = ω l) : KN κ Ad ω' c l := fun a ha hk => by
  rw [e]
  exact h a ha hk
theorem CKx_om {sb : sB} {κ : kE} {Ad : List Nat} {ω ω' : Nat → List Nat} {ho ce li sh rs se ch fo q0 pl : Nat} (h : CKx sb κ Ad ω ho ce li sh rs se ch fo q0 pl) (e1 : ω' ce = ω ce) (e2 : ω' li = ω li) : CKx sb κ Ad ω' ho ce li sh rs se ch fo q0 pl := by
  obtain ⟨hk, h1, h2, h3, h4, h5, h6⟩ := h
  exact ⟨hk, h1, by rw [e1]; exact h2, by rw [e2]; exact h3, h4, KN_om h5 e1, KN_om h6 e2⟩
theorem nI_dp {j : Int32} (h1 : ¬ j < 1) (h2 : j ≤ 16) : ∃ D : Nat, j = nI D ∧ 1 ≤ D ∧ D ≤ 16 := by
  have h0 : ¬ j < 0 := fun q => h1 (by
    rw [Int32.lt_iff_toInt_lt] at q ⊢
    rw [show (0 : Int32).toInt = 0 from by decide] at q
    rw [show (1 : Int32).toInt = 1 from by decide]
    omega)
  obtain ⟨k, hk, rfl⟩ := nI_of h0
  rw [show (1 : Int32) = nI 1 from rfl, nI_ltI hk (by decide)] at h1
  rw [show (16 : Int32) = nI 16 from rfl, nI_leI hk (by decide)] at h2
  exact ⟨k, rfl, by omega, h2⟩
/-- what validate changes: PathCheck's and Search's numbers, two rows -/
def VE (ν ν1 : Nat → cN) (ω ω1 : Nat → List Nat) (se ch nx fo : Nat) : Prop := (∀ b, b ≠ se → b ≠ ch → ν1 b = ν b) ∧ ∀ b, b ≠ nx → b ≠ fo → ω1 b = ω b
def VK (κ : kE) (se ch nx fo : Nat) : Prop := (κ se).1 = 13 ∧ (κ ch).1 = 12 ∧ κ nx = (6, 16, 0) ∧ κ fo = (6, 16, 0)
section VES
variable {γ : cG} {κ : kE} {Ad : List Nat} {ν ν1 : Nat → cN} {ω ω1 : Nat → List Nat} {L : Nat} {G : va_W} {se ch nx fo : Nat}
theorem VE.nu (h : VE ν ν1 ω ω1 se ch nx fo) (hk : VK κ se ch nx fo) {b : Nat} (h1 : (κ b).1 ≠ 13) (h2 : (κ b).1 ≠ 12) : ν1 b = ν b := h.1 b (fun e => h1 (by rw [e]; exact hk.1)) (fun e => h2 (by rw [e]; exact hk.2.1))
theorem VE.om (h : VE ν ν1 ω ω1 se ch nx fo) (hk : VK κ se ch nx fo) {b : Nat} (h1 : κ b ≠ (6, 16, 0)) : ω1 b = ω b := h.2 b (fun e => h1 (by rw [e]; exact hk.2.2.1)) (fun e => h1 (by rw [e]; exact hk.2.2.2))
theorem VE.om1 (h : VE ν ν1 ω ω1 se ch nx fo) (hk : VK κ se ch nx fo) {b : Nat} (h1 : (κ b).1 ≠ 6) : ω1 b = ω b := h.om hk (fun e => h1 (by rw [e]))
theorem VE.w4 (h : VE ν ν1 ω ω1 se ch nx fo) (hk : VK κ se ch nx fo) : wK4 κ Ad ω ω1 := ⟨fun a _ ha => h.om1 hk (by rcases ha with e | e | e | e | e | e <;> (rw [e]; decide)), fun a _ ha => by rw [h.om1 hk (by rw [ha]; decide)]⟩
theorem VE.wk (h : VE ν ν1 ω ω1 se ch nx fo) (hk : VK κ se ch nx fo) : wK κ Ad ω ω1 := fun a _ ha => h.om1 hk (by rcases ha with e | e | e | e <;> (rw [e]; decide))
theorem VE.n8 (h : VE ν ν1 ω ω1 se ch nx fo) (hk : VK κ se ch nx fo) {c : Nat} (hc : (κ c).1 = 8 ∨ (κ c).1 = 9) : ν1 c = ν c := h.nu hk (by rcases hc with e | e <;> (rw [e]; decide)) (by rcases hc with e | e <;> (rw [e]; decide))
theorem VE.c8 (h : VE ν ν1 ω ω1 se ch nx fo) (hk : VK κ se ch nx fo) (hT : TY γ κ Ad ν ω L G) {c K l : Nat} (kc : tK κ Ad c (8, K, l)) : cO κ ν1 ω1 c = cO κ ν ω c := cO_k hT kc (h.w4 hk) (kK4.rf κ Ad) (h.n8 hk (Or.inl (by rw [kc.2])))
theorem VE.q9 (h : VE ν ν1 ω ω1 se ch nx fo) (hk : VK κ se ch nx fo) (hT : TY γ κ Ad ν ω L G) {c K : Nat} (kc : tK κ Ad c (9, K, 0)) : qO κ ν1 ω1 c = qO κ ν ω c := qO_k hT kc (h.w4 hk) (kK4.rf κ Ad) (h.n8 hk (Or.inr (by rw [kc.2])))
theorem VE.SG (h : VE ν ν1 ω ω1 se ch nx fo) (hk : VK κ se ch nx fo) (hT : TY γ κ Ad ν ω L G) {g c : Nat} (hg : g ∈ Ad) (hgk : (κ g).1 = 8 ∨ (κ g).1 = 9) (hc : c ∈ Ad) (hck : (κ c).1 = 8) : SGX κ ν1 ω1 g c ↔ SGX κ ν ω g c := SGX_k hT hg hgk hc hck (h.wk hk) (fun _ _ _ => rfl) (fun a _ ha => h.nu hk (by rcases ha with e | e <;> (rw [e]; decide)) (by rcases ha with e | e <;> (rw [e]; decide)))
theorem VE.xc (h : VE ν ν1 ω ω1 se ch nx fo) (hk : VK κ se ch nx fo) (hT : TY γ κ Ad ν ω L G) (hX : XC κ Ad ν ω) : XC κ Ad ν1 ω1 := by
  intro c K2 l2 hc
  have hck : (κ c).1 = 8 := by rw [hc.2]
  have ec : ν1 c = ν c := h.n8 hk (Or.inl hck)
  have eo : ω1 c = ω c := h.om1 hk (by rw [hck]; decide)
  obtain ⟨zm, km⟩ := (pa_en hT hc.1 (Or.inl hck)).2.2.2 hck
  obtain ⟨ex, bt, wn, lm, e1, e2, e3, e4, e5, e6, e7, e8, e9, e10, e11⟩ := hX c K2 l2 hc
  refine ⟨ex, bt, wn, lm, by rw [ec]; exact e1, by rw [ec]; exact e2, by rw [ec]; exact e3, e4, by rw [eo]; exact e5, e6, e7, e8, ?_, ?_, fun g hg hgk => ?_⟩
  · rw [eo, slO_k hT ⟨zm, km⟩ (h.wk hk)]; exact e9
  · rw [eo, slO_k hT ⟨zm, km⟩ (h.wk hk)]; exact e10
  · have pg := pa_en hT hg hgk
    have eg : ω1 g = ω g := h.om1 hk (by rcases hgk with e | e <;> (rw [e]; decide))
    have er : ω1 ((ω g).getD 1 0) = ω ((ω g).getD 1 0) := h.om hk (by
      rw [pg.2.1.2]
      intro e
      have e9 : g + 1 = 0 := congrArg (fun z : Nat × Nat × Nat => z.2.2) e
      omega)
    rw [eg, er, VE.SG h hk hT hg hgk hc.1 hck]
    exact e11 g hg hgk
theorem VE.yc (h : VE ν ν1 ω ω1 se ch nx fo) (hk : VK κ se ch nx fo) (hT : TY γ κ Ad ν ω L G) (hY : YC κ Ad ν ω) : YC κ Ad ν1 ω1 := fun c K l hc => by
  rw [VE.c8 h hk hT hc, h.n8 hk (Or.inl (by rw [hc.2]))]
  exact hY c K l hc
end VES
/-- what the search asks, of the stored ones by their numbers -/
noncomputable def vFL (κ : kE) (ν : Nat → cN) (ω : Nat → List Nat) (ce li : Nat) (tm : Int64) (kn : Int32) : List Nat → Int32 × Int32 := flQ (fun k9 => cO κ ν ω ((ω ce).getD k9 0)) (fun l9 => qO κ ν ω ((ω li).getD l9 0)) (ω li).length (fun a9 b9 => SGX κ ν ω ((ω ce).getD a9 0) ((ω ce).getD b9 0)) (fun l9 s9 => SGX κ ν ω ((ω li).getD l9 0) ((ω ce).getD s9 0)) tm (kn = 1)
def vFO (κ : kE) (ν : Nat → cN) (ω : Nat → List Nat) (ce : Nat) : Nat → Nat → Prop := fun d9 c9 => folQ (cO κ ν ω ((ω ce).getD c9 0)) (cO κ ν ω ((ω ce).getD d9 0))
def vTR (ν : Nat → cN) (ω : Nat → List Nat) (ce : Nat) : Nat → Prop := fun k9 => ¬ (ν ((ω ce).getD k9 0)).2.2.2.2.2.2.2.2.1 = 0
noncomputable def vGR (κ : kE) (ν : Nat → cN) (ω : Nat → List Nat) (ce li : Nat) (tm : Int64) (kn : Int32) (t D : Nat) : Bool × sS := gR (ω ce).length (vFO κ ν ω ce) (vTR ν ω ce) (vFL κ ν ω ce li tm kn) (D - 1) [t] (1, 0, [], 10, -1)
noncomputable def vVQ (κ : kE) (ν : Nat → cN) (ω : Nat → List Nat) (ce li : Nat) (tm : Int64) (kn : Int32) (t D : Nat) : sS := (vGR κ ν ω ce li tm kn t D).2
theorem VE_fl {γ : cG} {κ : kE} {Ad : List Nat} {ν ν1 : Nat → cN} {ω ω1 : Nat → List Nat} {L : Nat} {G : va_W} {se ch nx fo ce li : Nat} (h : VE ν ν1 ω ω1 se ch nx fo) (hk : VK κ se ch nx fo) (hT : TY γ κ Ad ν ω L G) (hli : (κ li).1 ≠ 6) (h9 : ∀ l, l < (ω li).length → ∃ p, tK κ Ad ((ω li).getD l 0) (9, p, 0)) (h8 : ∀ k, k < (ω ce).length → ∃ p q, tK κ Ad ((ω ce).getD k 0) (8, p, q)) {v as : List Nat} (hv : ∀ x, x ∈ v → x < (ω ce).length) (ha : as = (v.map (fun k => (ω ce).getD k 0)).reverse) {tm t' : Int64} {kn k' : Int32} (et : t' = tm) (ek : k' = kn) : flG (fltQ (cO κ ν1 ω1) (fun l9 => qO κ ν1 ω1 ((ω1 li).getD l9 0)) (ω1 li).length (SGX κ ν1 ω1) (fun l9 s9 => SGX κ ν1 ω1 ((ω1 li).getD l9 0) s9) t' (k' = 1) as) (as.length - 1) = vFL κ ν ω ce li tm kn v := by
  subst et
  subst ek
  have hw : ω1 li = ω li := h.om1 hk hli
  have ea : as = v.reverse.map (fun k => (ω ce).getD k 0) := by rw [ha, List.map_reverse]
  have el : as.length = v.length := by rw [ha, List.length_reverse, List.length_map]
  have hin : ∀ x, x ∈ v.reverse.map (fun k => (ω ce).getD k 0) → ∃ p q, tK κ Ad x (8, p, q) := fun x hx => by
    obtain ⟨k, hk9, rfl⟩ := List.mem_map.mp hx
    exact h8 k (hv k (List.mem_reverse.mp hk9))
  rw [hw]
  unfold vFL flQ
  rw [el]
  refine flG_c _ (fun i hi => ?_)
  have hil : i + 1 < v.reverse.length := by
    rw [List.length_reverse]
    omega
  rw [ea]
  refine (fltQ_c (C' := cO κ ν ω) (Ls' := fun l9 => qO κ ν ω ((ω li).getD l9 0)) (sc' := SGX κ ν ω) (sl' := fun l9 s9 => SGX κ ν ω ((ω li).getD l9 0) s9) (fun x hx => ?_) (fun l hl => ?_) (fun a b ha9 hb9 => ?_) (fun l b hl hb9 => ?_) (by rw [List.length_map]; exact hil)).trans (fltQ_m hil)
  · obtain ⟨p, q, kx⟩ := hin x hx
    exact VE.c8 h hk hT kx
  · obtain ⟨p, kx⟩ := h9 l hl
    exact VE.q9 h hk hT kx
  · obtain ⟨p, q, kx⟩ := hin a ha9
    obtain ⟨p2, q2, ky⟩ := hin b hb9
    exact VE.SG h hk hT kx.1 (Or.inl (by rw [kx.2])) ky.1 (by rw [ky.2])
  · obtain ⟨p, kx⟩ := h9 l hl
    obtain ⟨p2, q2, ky⟩ := hin b hb9
    exact VE.SG h hk hT kx.1 (Or.inr (by rw [kx.2])) ky.1 (by rw [ky.2])
/-- where validate's loop is: n chains seen, w kept; the search goes on, or it has ended -/
def VI (κ : kE) (ν ν1 : Nat → cN) (ω ω1 : Nat → List Nat) (ce li se ch fo : Nat) (tm : Int64) (kn : Int32) (t D n : Nat) (v m foS faP : Int32) (as : List Nat) : Prop :=
  VE ν ν1 ω ω1 se ch ((ω se).getD 0 0) fo ∧ ((ν1 ch).2.1 = kn ∧ (ν1 ch).2.2.2.2.2.2.2.2.2.1 = tm) ∧ ∃ w : List Nat, (foS = nI w.length ∧ w.length ≤ 16 ∧ ∀ j, j < w.length → nI ((ω1 fo).getD j 0) = nI (w.reverse.getD j 0)) ∧
    ((m = 1 ∧ ∃ (σ : List (Nat × Nat)) (p : Nat), n + 1 ≤ p ∧ (∃ k τ, σ = (k, 0) :: τ) ∧ ((ν1 se).1 = nI D ∧ (ν1 se).2.1 = nI p) ∧ SX (fun k9 => (ω ce).getD k9 0) (ω ce).length D (fun j9 => (ω1 ((ω se).getD 0 0)).getD j9 0) (ν1 se).2.2.1 as σ p ∧ vGR κ ν ω ce li tm kn t D = thn (sJ (vFL κ ν ω ce li tm kn) (σ.map Prod.fst) (p, n, w, v, faP)) (ctR (ω ce).length D (vFO κ ν ω ce) (vTR ν ω ce) (vFL κ ν ω ce li tm kn) σ)) ∨ (m = 0 ∧ ∃ (b : Bool) (p : Nat), vGR κ ν ω ce li tm kn t D = (b, (p, n, w, v, faP))))
theorem en_inj {γ : cG} {κ : kE} {Ad : List Nat} {ν : Nat → cN} {ω : Nat → List Nat} {L : Nat} {G : va_W} (hT : TY γ κ Ad ν ω L G) {a b : Nat} (ha : a ∈ Ad) (hka : (κ a).1 = 8) (hb : b ∈ Ad) (hkb : (κ b).1 = 8) (e : (ω a).getD 12 0 = (ω b).getD 12 0) : a = b := by
  have k1 := en_k hT ha hka
  have k2 := en_k hT hb hkb
  rw [e] at k1
  have h := k1.2.symm.trans k2.2
  have h9 : a + 1 = b + 1 := congrArg (fun z : Nat × Nat × Nat => z.2.2) h
  omega
/-- what validate may change, seen from the whole world -/
theorem CK_vk {γ : cG} {sb : sB} {κ : kE} {Ad : List Nat} {ν : Nat → cN} {ω : Nat → List Nat} {L : Nat} {G : va_W} {ho ce li sh rs se ch fo q0 pl : Nat} (hC : CKx sb κ Ad ω ho ce li sh rs se ch fo q0 pl) (hT : TY γ κ Ad ν ω L G) : VK κ se ch ((ω se).getD 0 0) fo := by
  obtain ⟨⟨-, -, -, -, -, kse, kch, kfo⟩, -⟩ := hC
  exact ⟨by rw [kse.2], by rw [kch.2], (sx_nk hT kse rfl).2, kfo.2⟩
theorem CK_ve {sb : sB} {κ : kE} {Ad : List Nat} {ν ν' : Nat → cN} {ω ω' : Nat → List Nat} {ho ce li sh rs se ch fo q0 pl nx : Nat} (hC : CKx sb κ Ad ω ho ce li sh rs se ch fo q0 pl) (hk : VK κ se ch nx fo) (h : VE ν ν' ω ω' se ch nx fo) : CKx sb κ Ad ω' ho ce li sh rs se ch fo q0 pl := by
  obtain ⟨⟨-, kce, kli, -, -, -, -, -⟩, -⟩ := id hC
  exact CKx_om hC (h.om1 hk (by rw [kce.2]; exact (by decide : (15 : Nat) ≠ 6))) (h.om1 hk (by rw [kli.2]; exact (by decide : (17 : Nat) ≠ 6)))
