/-! What a chain's fault is, said of contents (p11 to p13; draft). -/
/-- a certificate's contents: issuer, subject, serial, own key, issuer's key; its names (DNS, directories), those that it permits, that it excludes; its times, matters, ca, path length, usage, whether the subject has parts -/
def cQ : Type := List Nat × List Nat × List Nat × List Nat × List Nat × List (List Nat) × List (List Nat) × List (List Nat) × List (List Nat) × List (List Nat) × List (List Nat) × Int64 × Int64 × Int32 × Int32 × Int32 × Int32 × Int32 × List Nat
def cQ.is (x : cQ) : List Nat := x.1
def cQ.su (x : cQ) : List Nat := x.2.1
def cQ.se (x : cQ) : List Nat := x.2.2.1
def cQ.ok (x : cQ) : List Nat := x.2.2.2.1
def cQ.ik (x : cQ) : List Nat := x.2.2.2.2.1
def cQ.dn (x : cQ) : List (List Nat) := x.2.2.2.2.2.1
def cQ.di (x : cQ) : List (List Nat) := x.2.2.2.2.2.2.1
def cQ.pn (x : cQ) : List (List Nat) := x.2.2.2.2.2.2.2.1
def cQ.pd (x : cQ) : List (List Nat) := x.2.2.2.2.2.2.2.2.1
def cQ.xn (x : cQ) : List (List Nat) := x.2.2.2.2.2.2.2.2.2.1
def cQ.xd (x : cQ) : List (List Nat) := x.2.2.2.2.2.2.2.2.2.2.1
def cQ.fi (x : cQ) : Int64 := x.2.2.2.2.2.2.2.2.2.2.2.1
def cQ.la (x : cQ) : Int64 := x.2.2.2.2.2.2.2.2.2.2.2.2.1
def cQ.ma (x : cQ) : Int32 := x.2.2.2.2.2.2.2.2.2.2.2.2.2.1
def cQ.ca (x : cQ) : Int32 := x.2.2.2.2.2.2.2.2.2.2.2.2.2.2.1
def cQ.ln (x : cQ) : Int32 := x.2.2.2.2.2.2.2.2.2.2.2.2.2.2.2.1
def cQ.us (x : cQ) : Int32 := x.2.2.2.2.2.2.2.2.2.2.2.2.2.2.2.2.1
def cQ.ps (x : cQ) : Int32 := x.2.2.2.2.2.2.2.2.2.2.2.2.2.2.2.2.2.1
/-- the subject's content -/
def cQ.sc (x : cQ) : List Nat := x.2.2.2.2.2.2.2.2.2.2.2.2.2.2.2.2.2.2
/-- a list's contents: issuer, entries, times, matters -/
def lQ : Type := List Nat × List (List Nat) × Int64 × Int64 × Int32
def lQ.is (x : lQ) : List Nat := x.1
def lQ.en (x : lQ) : List (List Nat) := x.2.1
def lQ.fi (x : lQ) : Int64 := x.2.2.1
def lQ.la (x : lQ) : Int64 := x.2.2.2.1
def lQ.ma (x : lQ) : Int32 := x.2.2.2.2
/-- c may follow d -/
def folQ (c d : cQ) : Prop := c.su = d.is ∧ (c.ok = [] ∨ d.ik = [] ∨ c.ok = d.ik)
def useQ (u b : Int32) : Prop := u < 0 ∨ u >>> b &&& 1 = 1
def ownQ (c : cQ) : Prop := c.su = c.is
def dirQ (c : cQ) (n : List Nat) : Prop := (c.pd = [] ∨ ∃ t, t ∈ c.pd ∧ t <+: n) ∧ ¬ ∃ t, t ∈ c.xd ∧ t <+: n
/-- the last octets are the same, letters in either case -/
def tlQ (t n : List Nat) : Prop := ∀ j, 1 ≤ j → j ≤ t.length → lowN (t.getD (t.length - j) 0) = lowN (n.getD (n.length - j) 0)
def dtQ (t n : List Nat) : Prop := t.length ≤ n.length ∧ tlQ t n ∧ (t.length = 0 ∨ t.length = n.length ∨ n.getD (n.length - t.length - 1) 0 = 46)
def dnsQ (c : cQ) (n : List Nat) : Prop := (c.pn = [] ∨ ∃ t, t ∈ c.pn ∧ dtQ t n) ∧ ¬ ∃ t, t ∈ c.xn ∧ dtQ t n
section FLT
variable (C : Nat → cQ) (Ls : Nat → lQ) (nl : Nat) (sc sl : Nat → Nat → Prop) (now : Int64) (kn : Prop)
/-- one's names above it: what the j-th of the way says -/
def abvQ (o a : cQ) : Prop := (0 < o.ps → dirQ a o.sc) ∧ (∀ n, n ∈ o.di → dirQ a n) ∧ ∀ n, n ∈ o.dn → dnsQ a n
def namQ (w : List Nat) (i : Nat) : Prop := ∀ j, i < j → j + 1 < w.length → abvQ (C (w.getD i 0)) (C (w.getD j 0))
/-- how many of m from the i-th on aren't their own issuers -/
noncomputable def btwQ (w : List Nat) (i : Nat) : Nat → Nat
  | 0 => 0
  | m + 1 => btwQ w i m + @ite _ (ownQ (C (w.getD (i + m) 0))) (Classical.propDecidable _) 0 1
def farQ (w : List Nat) (i : Nat) : Prop := ∃ j, i < j ∧ j + 1 < w.length ∧ ¬ (C (w.getD j 0)).ln < 0 ∧ (C (w.getD j 0)).ln < nI (btwQ C w i (j - i))
/-- the l-th list counts for the certificate o under s -/
def couQ (o s l : Nat) : Prop := ¬ now < (Ls l).fi ∧ ¬ (Ls l).la < now ∧ (Ls l).ma = 0 ∧ useQ (C s).us 6 ∧ (Ls l).is = (C o).is ∧ sl l s
def revQ (o s : Nat) : Prop := ∃ l, l < nl ∧ couQ C Ls sl now o s l ∧ (C o).se ∈ (Ls l).en
def knoQ (o s : Nat) : Prop := ∃ l, l < nl ∧ couQ C Ls sl now o s l
noncomputable def issQ (w : List Nat) (i : Nat) : Int32 := @ite _ (¬ (C (w.getD i 0)).ca = 1) (Classical.propDecidable _) 7 (@ite _ (farQ C w i) (Classical.propDecidable _) 8 (@ite _ (useQ (C (w.getD i 0)).us 5) (Classical.propDecidable _) 0 9))
/-- the fault of the i-th of the way -/
noncomputable def fltQ (w : List Nat) (i : Nat) : Int32 :=
  @ite _ (¬ sc (w.getD i 0) (w.getD (i + 1) 0)) (Classical.propDecidable _) 1
  (@ite _ (now < (C (w.getD i 0)).fi ∨ (C (w.getD i 0)).la < now) (Classical.propDecidable _) 2
  (@ite _ (revQ C Ls nl sl now (w.getD i 0) (w.getD (i + 1) 0)) (Classical.propDecidable _) 3
  (@ite _ (kn ∧ ¬ knoQ C Ls nl sl now (w.getD i 0) (w.getD (i + 1) 0)) (Classical.propDecidable _) 4
  (@ite _ ((i = 0 ∨ ¬ ownQ (C (w.getD i 0))) ∧ ¬ namQ C w i) (Classical.propDecidable _) 5
  (@ite _ (0 < (C (w.getD i 0)).ma) (Classical.propDecidable _) 6
  (@ite _ (i = 0) (Classical.propDecidable _) 0 (issQ C w i)))))))
/-- the first fault from the m-th downwards, and where -/
noncomputable def flG (f : Nat → Int32) : Nat → Int32 × Int32
  | 0 => (0, -1)
  | i + 1 => @ite _ (f i ≠ 0) (Classical.propDecidable _) (f i, nI i) (flG f i)
/-- the fault of a way (its last one first) -/
noncomputable def flQ (v : List Nat) : Int32 × Int32 := flG (fltQ C Ls nl sc sl now kn v.reverse) (v.length - 1)
/-- what validate leaves: puts, chains, the way, the verdict, the fault's place -/
noncomputable def valQ (nc : Nat) (tr : Nat → Prop) (t D : Nat) : sS := (gR nc (fun d c => folQ (C c) (C d)) tr (flQ C Ls nl sc sl now kn) (D - 1) [t] (1, 0, [], 10, -1)).2
end FLT
theorem if_nt {α : Type} {c : Prop} {h : Decidable c} {t e x : α} (hc : ¬ c) (g : e = x) : @ite α c h t e = x := (if_neg hc).trans g
theorem flG_step {f : Nat → Int32} {i : Nat} (h : f i = 0) : flG f (i + 1) = flG f i := if_neg (fun h9 => h9 h)
theorem flG_stop {f : Nat → Int32} {i : Nat} (h : f i ≠ 0) : flG f (i + 1) = (f i, nI i) := if_pos h
/-- the same contents, the same fault -/
theorem btwQ_c {C C' : Nat → cQ} {w : List Nat} {i : Nat} : ∀ m, (∀ k, k < m → C (w.getD (i + k) 0) = C' (w.getD (i + k) 0)) → btwQ C w i m = btwQ C' w i m
  | 0, _ => rfl
  | m + 1, h => by
    unfold btwQ
    rw [btwQ_c m (fun k hk => h k (by omega)), h m (by omega)]
theorem gD_in {w : List Nat} {j : Nat} (hj : j < w.length) : w.getD j 0 ∈ w := by
  rw [List.getD_eq_getElem?_getD, List.getElem?_eq_getElem hj]
  exact List.getElem_mem hj
section QC
variable {C C' : Nat → cQ} {w : List Nat} {i : Nat}
theorem namQ_c (hi : i < w.length) (hC : ∀ x, x ∈ w → C x = C' x) : namQ C w i ↔ namQ C' w i := by
  have e0 := hC _ (gD_in hi)
  unfold namQ
  constructor
  · intro h j h1 h2
    rw [← e0, ← hC _ (gD_in (show j < w.length by omega))]
    exact h j h1 h2
  · intro h j h1 h2
    rw [e0, hC _ (gD_in (show j < w.length by omega))]
    exact h j h1 h2
theorem farQ_c (hC : ∀ x, x ∈ w → C x = C' x) : farQ C w i ↔ farQ C' w i := by
  unfold farQ
  constructor
  · rintro ⟨j, h1, h2, h3, h4⟩
    refine ⟨j, h1, h2, ?_, ?_⟩
    · rw [← hC _ (gD_in (show j < w.length by omega))]; exact h3
    · rw [← hC _ (gD_in (show j < w.length by omega)), ← btwQ_c (i := i) (j - i) (fun k hk => hC _ (gD_in (show i + k < w.length by omega)))]; exact h4
  · rintro ⟨j, h1, h2, h3, h4⟩
    refine ⟨j, h1, h2, ?_, ?_⟩
    · rw [hC _ (gD_in (show j < w.length by omega))]; exact h3
    · rw [hC _ (gD_in (show j < w.length by omega)), btwQ_c (i := i) (j - i) (fun k hk => hC _ (gD_in (show i + k < w.length by omega)))]; exact h4
theorem issQ_c (hi : i < w.length) (hC : ∀ x, x ∈ w → C x = C' x) : issQ C w i = issQ C' w i := by
  have e0 := hC _ (gD_in hi)
  unfold issQ
  rw [show farQ C w i = farQ C' w i from propext (farQ_c hC), e0]
end QC
theorem fltQ_c {C C' : Nat → cQ} {Ls Ls' : Nat → lQ} {nl : Nat} {sc sc' sl sl' : Nat → Nat → Prop} {now : Int64} {kn : Prop} {w : List Nat} {i : Nat} (hC : ∀ x, x ∈ w → C x = C' x) (hL : ∀ l, l < nl → Ls l = Ls' l) (hs : ∀ a b, a ∈ w → b ∈ w → (sc a b ↔ sc' a b)) (hl : ∀ a b, a < nl → b ∈ w → (sl a b ↔ sl' a b)) (hi : i + 1 < w.length) : fltQ C Ls nl sc sl now kn w i = fltQ C' Ls' nl sc' sl' now kn w i := by
  have m0 := gD_in (show i < w.length by omega)
  have m1 := gD_in hi
  have e0 := hC _ m0
  have e1 := hC _ m1
  have cc : ∀ l, l < nl → (couQ C Ls sl now (w.getD i 0) (w.getD (i + 1) 0) l ↔ couQ C' Ls' sl' now (w.getD i 0) (w.getD (i + 1) 0) l) := fun l h9 => by
    unfold couQ
    rw [hL l h9, e0, e1, hl l _ h9 m1]
  have er : revQ C Ls nl sl now (w.getD i 0) (w.getD (i + 1) 0) ↔ revQ C' Ls' nl sl' now (w.getD i 0) (w.getD (i + 1) 0) := by
    unfold revQ
    constructor
    · rintro ⟨l, h1, h2, h3⟩
      exact ⟨l, h1, (cc l h1).mp h2, by rw [← hL l h1, ← e0]; exact h3⟩
    · rintro ⟨l, h1, h2, h3⟩
      exact ⟨l, h1, (cc l h1).mpr h2, by rw [hL l h1, e0]; exact h3⟩
  have ek : knoQ C Ls nl sl now (w.getD i 0) (w.getD (i + 1) 0) ↔ knoQ C' Ls' nl sl' now (w.getD i 0) (w.getD (i + 1) 0) := by
    unfold knoQ
    constructor
    · rintro ⟨l, h1, h2⟩
      exact ⟨l, h1, (cc l h1).mp h2⟩
    · rintro ⟨l, h1, h2⟩
      exact ⟨l, h1, (cc l h1).mpr h2⟩
  unfold fltQ
  rw [show sc (w.getD i 0) (w.getD (i + 1) 0) = sc' (w.getD i 0) (w.getD (i + 1) 0) from propext (hs _ _ m0 m1), show revQ C Ls nl sl now (w.getD i 0) (w.getD (i + 1) 0) = revQ C' Ls' nl sl' now (w.getD i 0) (w.getD (i + 1) 0) from propext er, show knoQ C Ls nl sl now (w.getD i 0) (w.getD (i + 1) 0) = knoQ C' Ls' nl sl' now (w.getD i 0) (w.getD (i + 1) 0) from propext ek, show namQ C w i = namQ C' w i from propext (namQ_c (show i < w.length by omega) hC), issQ_c (show i < w.length by omega) hC, e0]
theorem flG_c {f g : Nat → Int32} : ∀ m, (∀ i, i < m → f i = g i) → flG f m = flG g m
  | 0, _ => rfl
  | m + 1, h => by
    unfold flG
    rw [h m (by omega), flG_c m (fun i hi => h i (by omega))]
/-- the same of chains: the search goes the same ways -/
theorem lpR_c {n : Nat} {fo fo' : Nat → Nat → Prop} {rec rec' : List Nat → sS → Bool × sS} {w : List Nat} (hw : w.headD 0 < n) (hf : ∀ d c, d < n → c < n → (fo d c ↔ fo' d c)) (hr : ∀ k s, k < n → rec (k :: w) s = rec' (k :: w) s) : ∀ m s, m ≤ n → lpR n fo rec w m s = lpR n fo' rec' w m s
  | 0, _, _ => rfl
  | m + 1, s, hm => by
    have e : mayF fo w (n - (m + 1)) ↔ mayF fo' w (n - (m + 1)) := by
      unfold mayF
      rw [hf _ _ hw (by omega)]
    unfold lpR
    by_cases h : mayF fo w (n - (m + 1))
    · rw [if_pos h, if_pos (e.mp h)]
      by_cases h2 : s.1 = 1000
      · rw [if_pos h2, if_pos h2]
      · rw [if_neg h2, if_neg h2, hr _ _ (by omega)]
        congr 1
        funext s2
        exact lpR_c hw hf hr m s2 (by omega)
    · rw [if_neg h, if_neg (fun h9 => h (e.mpr h9))]
      exact lpR_c hw hf hr m s (by omega)
theorem gR_c {n : Nat} {fo fo' : Nat → Nat → Prop} {tr tr' : Nat → Prop} {fl fl' : List Nat → Int32 × Int32} (hf : ∀ d c, d < n → c < n → (fo d c ↔ fo' d c)) (ht : ∀ c, c < n → (tr c ↔ tr' c)) (hl : ∀ w, w ≠ [] → (∀ x, x ∈ w → x < n) → fl w = fl' w) : ∀ r w s, w ≠ [] → (∀ x, x ∈ w → x < n) → gR n fo tr fl r w s = gR n fo' tr' fl' r w s := by
  have hd : ∀ w : List Nat, w ≠ [] → (∀ x, x ∈ w → x < n) → w.headD 0 < n := fun w h1 h2 => by
    cases w with
    | nil => exact absurd rfl h1
    | cons a l => exact h2 a List.mem_cons_self
  have hJ : ∀ w s, w ≠ [] → (∀ x, x ∈ w → x < n) → sJ fl w s = sJ fl' w s := fun w s h1 h2 => by
    unfold sJ
    rw [hl w h1 h2]
  intro r
  induction r with
  | zero =>
    intro w s h1 h2
    unfold gR
    by_cases h : tr (w.headD 0)
    · rw [if_pos h, if_pos ((ht _ (hd w h1 h2)).mp h)]
      exact hJ w s h1 h2
    · rw [if_neg h, if_neg (fun h9 => h ((ht _ (hd w h1 h2)).mpr h9))]
  | succ r ih =>
    intro w s h1 h2
    unfold gR
    by_cases h : tr (w.headD 0)
    · rw [if_pos h, if_pos ((ht _ (hd w h1 h2)).mp h)]
      exact hJ w s h1 h2
    · rw [if_neg h, if_neg (fun h9 => h ((ht _ (hd w h1 h2)).mpr h9))]
      refine lpR_c (hd w h1 h2) hf (fun k s hk => ih (k :: w) s (by simp) (fun x hx => ?_)) n s (Nat.le_refl _)
      rcases List.mem_cons.mp hx with e | e
      · rw [e]; exact hk
      · exact h2 x e
theorem valQ_c {C C' : Nat → cQ} {Ls Ls' : Nat → lQ} {nl : Nat} {sc sc' sl sl' : Nat → Nat → Prop} {now : Int64} {kn : Prop} {nc t D : Nat} {tr tr' : Nat → Prop} (hC : ∀ k, k < nc → C k = C' k) (hL : ∀ l, l < nl → Ls l = Ls' l) (hs : ∀ a b, a < nc → b < nc → (sc a b ↔ sc' a b)) (hl : ∀ a b, a < nl → b < nc → (sl a b ↔ sl' a b)) (ht : ∀ c, c < nc → (tr c ↔ tr' c)) (h9 : t < nc) : valQ C Ls nl sc sl now kn nc tr t D = valQ C' Ls' nl sc' sl' now kn nc tr' t D := by
  have hfl : ∀ w : List Nat, w ≠ [] → (∀ x, x ∈ w → x < nc) → flQ C Ls nl sc sl now kn w = flQ C' Ls' nl sc' sl' now kn w := fun w _ hw => by
    have hm : ∀ x, x ∈ w.reverse → x < nc := fun x hx => hw x (List.mem_reverse.mp hx)
    exact flG_c _ (fun i hi => fltQ_c (fun x hx => hC x (hm x hx)) hL (fun a b ha hb => hs a b (hm a ha) (hm b hb)) (fun a b ha hb => hl a b ha (hm b hb)) (by rw [List.length_reverse]; omega))
  have hfo : ∀ d c, d < nc → c < nc → (folQ (C c) (C d) ↔ folQ (C' c) (C' d)) := fun d c hd hc => by rw [hC c hc, hC d hd]
  have e := gR_c (fo := fun d c => folQ (C c) (C d)) (fo' := fun d c => folQ (C' c) (C' d)) (tr := tr) (tr' := tr') hfo ht hfl (D - 1) [t] (1, 0, [], 10, -1) (by simp) (fun x hx => by rw [List.mem_singleton.mp hx]; exact h9)
  unfold valQ
  rw [e]
theorem k01_n {x : Int32} (h : x = 0) : ¬ x = 1 := fun e => absurd (e.symm.trans h) (by decide)
theorem at_n {a b : Prop} (h : ¬ (¬ a ∧ ¬ b)) : a ∨ b := Classical.byContradiction (fun q => h ⟨fun z => q (Or.inl z), fun z => q (Or.inr z)⟩)
theorem cou_i {C : Nat → cQ} {Ls : Nat → lQ} {sl : Nat → Nat → Prop} {now : Int64} {o s l : Nat} (h1 : (¬ now < (Ls l).fi ∧ ¬ (Ls l).la < now) ∧ ((Ls l).ma = 0 ∧ useQ (C s).us 6)) (h2 : (Ls l).is = (C o).is) (h3 : sl l s) : couQ C Ls sl now o s l := ⟨h1.1.1, h1.1.2, h1.2.1, h1.2.2, h2, h3⟩
theorem cou_e {C : Nat → cQ} {Ls : Nat → lQ} {sl : Nat → Nat → Prop} {now : Int64} {o s l : Nat} (h : couQ C Ls sl now o s l) : ((¬ now < (Ls l).fi ∧ ¬ (Ls l).la < now) ∧ ((Ls l).ma = 0 ∧ useQ (C s).us 6)) ∧ (Ls l).is = (C o).is ∧ sl l s := ⟨⟨⟨h.1, h.2.1⟩, h.2.2.1, h.2.2.2.1⟩, h.2.2.2.2.1, h.2.2.2.2.2⟩
theorem rv_1 {P E : Nat → Prop} {z : Nat} (h : P z) : ((∃ l, l < z ∧ P l ∧ E l) ∨ E z) ↔ ∃ l, l < z + 1 ∧ P l ∧ E l := by
  constructor
  · rintro (⟨l, h1, h2⟩ | h2)
    · exact ⟨l, by omega, h2⟩
    · exact ⟨z, by omega, h, h2⟩
  · rintro ⟨l, h1, h2, h3⟩
    by_cases e : l = z
    · subst e; exact Or.inr h3
    · exact Or.inl ⟨l, by omega, h2, h3⟩
theorem rv_0 {P E : Nat → Prop} {z : Nat} (h : ¬ P z) : (∃ l, l < z ∧ P l ∧ E l) ↔ ∃ l, l < z + 1 ∧ P l ∧ E l := by
  constructor
  · rintro ⟨l, h1, h2⟩
    exact ⟨l, by omega, h2⟩
  · rintro ⟨l, h1, h2, h3⟩
    by_cases e : l = z
    · subst e; exact absurd h2 h
    · exact ⟨l, by omega, h2, h3⟩
theorem kno_0 {P : Nat → Prop} {z : Nat} (h : ¬ P z) : (∃ l, l < z ∧ P l) ↔ ∃ l, l < z + 1 ∧ P l := by
  constructor
  · rintro ⟨l, h1, h2⟩
    exact ⟨l, by omega, h2⟩
  · rintro ⟨l, h1, h2⟩
    by_cases e : l = z
    · subst e; exact absurd h2 h
    · exact ⟨l, by omega, h2⟩
/-- two sides that say the same: elements may be kept with their headers or without -/
def eqR (c d : cQ) : Prop := c.se = d.se ∧ True ∧ (c.dn = d.dn ∧ c.di = d.di) ∧ (c.pn = d.pn ∧ c.pd = d.pd) ∧ (c.xn = d.xn ∧ c.xd = d.xd) ∧ (c.fi = d.fi ∧ c.la = d.la) ∧ (c.ma = d.ma ∧ c.ca = d.ca ∧ c.ln = d.ln ∧ c.us = d.us ∧ c.ps = d.ps) ∧ c.sc = d.sc
def simQ (C C' : Nat → cQ) (Ls Ls' : Nat → lQ) (nc nl : Nat) : Prop := ((∀ a b, a < nc → b < nc → (folQ (C a) (C b) ↔ folQ (C' a) (C' b))) ∧ ∀ a, a < nc → (ownQ (C a) ↔ ownQ (C' a))) ∧ (∀ l a, l < nl → a < nc → ((Ls l).is = (C a).is ↔ (Ls' l).is = (C' a).is)) ∧ (∀ a, a < nc → eqR (C a) (C' a)) ∧ ∀ l, l < nl → (Ls l).en = (Ls' l).en ∧ (Ls l).fi = (Ls' l).fi ∧ (Ls l).la = (Ls' l).la ∧ (Ls l).ma = (Ls' l).ma
section SIM
variable {C C' : Nat → cQ} {Ls Ls' : Nat → lQ} {nc nl : Nat}
theorem simQ.fol (h : simQ C C' Ls Ls' nc nl) {a b : Nat} (ha : a < nc) (hb : b < nc) : folQ (C a) (C b) ↔ folQ (C' a) (C' b) := h.1.1 a b ha hb
theorem dirQ_s {c d : cQ} (h : eqR c d) (n : List Nat) : dirQ c n ↔ dirQ d n := by
  unfold dirQ
  rw [h.2.2.2.1.2, h.2.2.2.2.1.2]
theorem dnsQ_s {c d : cQ} (h : eqR c d) (n : List Nat) : dnsQ c n ↔ dnsQ d n := by
  unfold dnsQ
  rw [h.2.2.2.1.1, h.2.2.2.2.1.1]
theorem abvQ_s {c d a b : cQ} (h : eqR c d) (g : eqR a b) : abvQ c a ↔ abvQ d b := by
  unfold abvQ
  rw [h.2.2.2.2.2.2.1.2.2.2.2, h.2.2.2.2.2.2.2, h.2.2.1.1, h.2.2.1.2, dirQ_s g]
  constructor
  · rintro ⟨h1, h2, h3⟩
    exact ⟨h1, fun n hn => (dirQ_s g n).mp (h2 n hn), fun n hn => (dnsQ_s g n).mp (h3 n hn)⟩
  · rintro ⟨h1, h2, h3⟩
    exact ⟨h1, fun n hn => (dirQ_s g n).mpr (h2 n hn), fun n hn => (dnsQ_s g n).mpr (h3 n hn)⟩
variable {w : List Nat} {i : Nat}
theorem namQ_s (h : simQ C C' Ls Ls' nc nl) (hw : ∀ x, x ∈ w → x < nc) (hi : i < w.length) : namQ C w i ↔ namQ C' w i := by
  have e0 := h.2.2.1 _ (hw _ (gD_in hi))
  constructor
  · intro q j h1 h2
    exact (abvQ_s e0 (h.2.2.1 _ (hw _ (gD_in (show j < w.length by omega))))).mp (q j h1 h2)
  · intro q j h1 h2
    exact (abvQ_s e0 (h.2.2.1 _ (hw _ (gD_in (show j < w.length by omega))))).mpr (q j h1 h2)
theorem btwQ_s (h : simQ C C' Ls Ls' nc nl) (hw : ∀ x, x ∈ w → x < nc) : ∀ m, i + m ≤ w.length → btwQ C w i m = btwQ C' w i m
  | 0, _ => rfl
  | m + 1, hm => by
    have hx := hw _ (gD_in (show i + m < w.length by omega))
    show btwQ C w i m + @ite _ (ownQ (C (w.getD (i + m) 0))) (Classical.propDecidable _) 0 1 = btwQ C' w i m + @ite _ (ownQ (C' (w.getD (i + m) 0))) (Classical.propDecidable _) 0 1
    rw [btwQ_s h hw m (by omega), show ownQ (C (w.getD (i + m) 0)) = ownQ (C' (w.getD (i + m) 0)) from propext (h.1.2 _ hx)]
theorem farQ_s (h : simQ C C' Ls Ls' nc nl) (hw : ∀ x, x ∈ w → x < nc) : farQ C w i ↔ farQ C' w i := by
  have e : ∀ j, j < w.length → (C (w.getD j 0)).ln = (C' (w.getD j 0)).ln := fun j hj => (h.2.2.1 _ (hw _ (gD_in hj))).2.2.2.2.2.2.1.2.2.1
  constructor
  · rintro ⟨j, h1, h2, h3, h4⟩
    rw [e j (by omega)] at h3 h4
    rw [btwQ_s h hw (j - i) (by omega)] at h4
    exact ⟨j, h1, h2, h3, h4⟩
  · rintro ⟨j, h1, h2, h3, h4⟩
    refine ⟨j, h1, h2, ?_, ?_⟩
    · rw [e j (by omega)]; exact h3
    · rw [e j (by omega), btwQ_s h hw (j - i) (by omega)]; exact h4
theorem issQ_s (h : simQ C C' Ls Ls' nc nl) (hw : ∀ x, x ∈ w → x < nc) (hi : i < w.length) : issQ C w i = issQ C' w i := by
  have e0 := h.2.2.1 _ (hw _ (gD_in hi))
  unfold issQ
  rw [e0.2.2.2.2.2.2.1.2.1, e0.2.2.2.2.2.2.1.2.2.2.1, show farQ C w i = farQ C' w i from propext (farQ_s h hw)]
theorem fltQ_s {sc sc' sl sl' : Nat → Nat → Prop} {now : Int64} {kn : Prop} (h : simQ C C' Ls Ls' nc nl) (hs : ∀ a b, a < nc → b < nc → (sc a b ↔ sc' a b)) (hl : ∀ a b, a < nl → b < nc → (sl a b ↔ sl' a b)) (hw : ∀ x, x ∈ w → x < nc) (hi : i + 1 < w.length) : fltQ C Ls nl sc sl now kn w i = fltQ C' Ls' nl sc' sl' now kn w i := by
  have m0 := hw _ (gD_in (show i < w.length by omega))
  have m1 := hw _ (gD_in hi)
  have e0 := h.2.2.1 _ m0
  have e1 := h.2.2.1 _ m1
  have cc : ∀ l, l < nl → (couQ C Ls sl now (w.getD i 0) (w.getD (i + 1) 0) l ↔ couQ C' Ls' sl' now (w.getD i 0) (w.getD (i + 1) 0) l) := fun l h9 => by
    have el := h.2.2.2 l h9
    unfold couQ
    rw [el.2.1, el.2.2.1, el.2.2.2, e1.2.2.2.2.2.2.1.2.2.2.1, h.2.1 l _ h9 m0, hl l _ h9 m1]
  have er : revQ C Ls nl sl now (w.getD i 0) (w.getD (i + 1) 0) ↔ revQ C' Ls' nl sl' now (w.getD i 0) (w.getD (i + 1) 0) := by
    constructor
    · rintro ⟨l, h1, h2, h3⟩
      exact ⟨l, h1, (cc l h1).mp h2, by rw [← (h.2.2.2 l h1).1, ← e0.1]; exact h3⟩
    · rintro ⟨l, h1, h2, h3⟩
      exact ⟨l, h1, (cc l h1).mpr h2, by rw [(h.2.2.2 l h1).1, e0.1]; exact h3⟩
  have ek : knoQ C Ls nl sl now (w.getD i 0) (w.getD (i + 1) 0) ↔ knoQ C' Ls' nl sl' now (w.getD i 0) (w.getD (i + 1) 0) := by
    constructor
    · rintro ⟨l, h1, h2⟩
      exact ⟨l, h1, (cc l h1).mp h2⟩
    · rintro ⟨l, h1, h2⟩
      exact ⟨l, h1, (cc l h1).mpr h2⟩
  unfold fltQ
  rw [show sc (w.getD i 0) (w.getD (i + 1) 0) = sc' (w.getD i 0) (w.getD (i + 1) 0) from propext (hs _ _ m0 m1), show revQ C Ls nl sl now (w.getD i 0) (w.getD (i + 1) 0) = revQ C' Ls' nl sl' now (w.getD i 0) (w.getD (i + 1) 0) from propext er, show knoQ C Ls nl sl now (w.getD i 0) (w.getD (i + 1) 0) = knoQ C' Ls' nl sl' now (w.getD i 0) (w.getD (i + 1) 0) from propext ek, show namQ C w i = namQ C' w i from propext (namQ_s h hw (show i < w.length by omega)), issQ_s h hw (show i < w.length by omega), show ownQ (C (w.getD i 0)) = ownQ (C' (w.getD i 0)) from propext (h.1.2 _ m0), e0.2.2.2.2.2.1.1, e0.2.2.2.2.2.1.2, e0.2.2.2.2.2.2.1.1]
end SIM
theorem valQ_s {C C' : Nat → cQ} {Ls Ls' : Nat → lQ} {nl : Nat} {sc sc' sl sl' : Nat → Nat → Prop} {now : Int64} {kn : Prop} {nc t D : Nat} {tr tr' : Nat → Prop} (h : simQ C C' Ls Ls' nc nl) (hs : ∀ a b, a < nc → b < nc → (sc a b ↔ sc' a b)) (hl : ∀ a b, a < nl → b < nc → (sl a b ↔ sl' a b)) (ht : ∀ c, c < nc → (tr c ↔ tr' c)) (h9 : t < nc) : valQ C Ls nl sc sl now kn nc tr t D = valQ C' Ls' nl sc' sl' now kn nc tr' t D := by
  have hfl : ∀ w : List Nat, w ≠ [] → (∀ x, x ∈ w → x < nc) → flQ C Ls nl sc sl now kn w = flQ C' Ls' nl sc' sl' now kn w := fun w _ hw => by
    have hm : ∀ x, x ∈ w.reverse → x < nc := fun x hx => hw x (List.mem_reverse.mp hx)
    exact flG_c _ (fun i hi => fltQ_s h hs hl hm (by rw [List.length_reverse]; omega))
  have hfo : ∀ d c, d < nc → c < nc → (folQ (C c) (C d) ↔ folQ (C' c) (C' d)) := fun d c hd hc => h.fol hc hd
  have e := gR_c (fo := fun d c => folQ (C c) (C d)) (fo' := fun d c => folQ (C' c) (C' d)) (tr := tr) (tr' := tr') hfo ht hfl (D - 1) [t] (1, 0, [], 10, -1) (by simp) (fun x hx => by rw [List.mem_singleton.mp hx]; exact h9)
  unfold valQ
  rw [e]
