/-! The class' readers and the reference's: a list's extensions. -/
noncomputable def exL4 (u : Nat → Nat) (K : rS × Int32) (zE E x0 a b : Nat) (fl ma ex : Int32) (L : List (Nat × Nat)) : rS × Int32 × Int32 × (List (Nat × Nat)) :=
  @ite _ (K.2 = (0 : Int32)) (Classical.propDecidable _) (@ite _ (repP u L a b) (Classical.propDecidable _) (rd_ref (rd_fin (rd_lea K.1 zE (1 : Int32)) E) x0, ma + fl, ex + 1, (L ++ [(a, b)])) (rd_fin (rd_lea K.1 zE (1 : Int32)) E, ma + fl, ex + 1, (L ++ [(a, b)]))) (@ite _ (repP u L a b) (Classical.propDecidable _) (rd_ref (rd_fin (rd_fin K.1 zE) E) x0, ma, ex + 1, (L ++ [(a, b)])) (rd_fin (rd_fin K.1 zE) E, ma, ex + 1, (L ++ [(a, b)])))
theorem exL4_stk {u : Nat → Nat} {K : rS × Int32} {zE E x0 a b : Nat} {fl ma ex : Int32} {L : List (Nat × Nat)} : stk K.1 (exL4 u K zE E x0 a b fl ma ex L).1 := by
  unfold exL4
  split
  · split
    · exact (lea_stk _ _ _).tr ((fin_stk _ _).tr (ref_stk _ _))
    · exact (lea_stk _ _ _).tr (fin_stk _ _)
  · split
    · exact (fin_stk _ _).tr ((fin_stk _ _).tr (ref_stk _ _))
    · exact (fin_stk _ _).tr (fin_stk _ _)
noncomputable def exL3 (u : Nat → Nat) (n : Nat) (ie : Int32) (y : rS) (E x0 a b : Nat) (fl ma ex : Int32) (L : List (Nat × Nat)) := exL4 u (rd_knL u n ie (kdN u a b) (rd_opn u n y 4 E).1 (rd_opn u n y 4 E).2) (rd_opn u n y 4 E).2 E x0 a b fl ma ex L
theorem exL3_stk {u : Nat → Nat} {n : Nat} {ie : Int32} (hi : ie = 0 ∨ ie = 1) {y : rS} {E x0 a b : Nat} {fl ma ex : Int32} {L : List (Nat × Nat)} : stk y (exL3 u n ie y E x0 a b fl ma ex L).1 := (opn_stk u n y 4 E).tr ((knL_stk u n ie _ hi _ _).tr exL4_stk)
theorem rbL_eq (u : Nat → Nat) (n : Nat) (ie : Int32) (e : Nat) (s : rS × Int32 × Int32 × (List (Nat × Nat))) : rb_extL u n ie e s = (let z46 := rd_opn u n s.1 48 e; (let z56 := rd_opn u n z46.1 6 z46.2; (let z93 := rd_lea z56.1 z56.2 (zP (oidOK u z56.1.1 z56.2)); (@ite _ (z93.2.2 = none ∧ z93.1 < z46.2 ∧ u z93.1 = 1) (Classical.propDecidable _) (exL3 u n ie (rd_flag u n z93 z46.2) z46.2 s.1.1 z56.1.1 z56.2 1 s.2.1 s.2.2.1 s.2.2.2) (exL3 u n ie z93 z46.2 s.1.1 z56.1.1 z56.2 0 s.2.1 s.2.2.1 s.2.2.2))))) := rfl
theorem knL_1 {u : Nat → Nat} {n : Nat} {ie kn : Int32} {x : rS} {en : Nat} (hk : knT ie kn) : (rd_knL u n ie kn x en).2 = 1 := by
  rcases hk with ⟨rfl, rfl | rfl⟩ | ⟨rfl, rfl⟩
  · rw [knL_20]
  · rw [knL_35]
  · rw [knL_21]
/-- which of the reference's modes a list's reader is in -/
def whI (ie : Int32) (wh : Nat) : Prop := (ie = 0 ∧ wh = 1) ∨ (ie = 1 ∧ wh = 2)
theorem knZ_L {ie kn : Int32} {wh : Nat} (h : whI ie wh) : (knZ wh kn = 0) ↔ ¬ knT ie kn := by
  have e : knZ wh kn = zP (((wh = 1) ∧ ((kn = (20 : Int32)) ∨ (kn = (35 : Int32)))) ∨ (¬ (wh = 1) ∧ (kn = (21 : Int32)))) := if_neg (by rcases h with h | h <;> omega)
  rw [e, zP_0]
  refine not_congr ?_
  rcases h with ⟨rfl, rfl⟩ | ⟨rfl, rfl⟩
  · constructor
    · rintro (q | q)
      · exact Or.inl ⟨rfl, q.2⟩
      · exact absurd rfl q.1
    · rintro (q | q)
      · exact Or.inl ⟨rfl, q.2⟩
      · exact absurd q.1 (by decide)
  · constructor
    · rintro (q | q)
      · exact absurd q.1 (by decide)
      · exact Or.inr ⟨rfl, q.2⟩
    · rintro (q | q)
      · exact absurd q.1 (by decide)
      · exact Or.inr ⟨by decide, q.2⟩
theorem ex3L_q {u : Nat → Nat} (hu : ∀ j, u j < 256) {n p s0 E x0 a b wh : Nat} {ie fl f ma ex : Int32} {L : List (Nat × Nat)} {ca pn us k1 k2 k3 k4 : Int32} {dns dirs : List (Nat × Nat)} {T : List (Nat × Nat × Nat)} (hw : whI ie wh) (hE : E ≤ n) (hn : n ≤ 2048) (hL : L.length ≤ 400) (hfl : (fl = 0 ∧ f = 0) ∨ (fl = 1 ∧ ¬ f = 0)) : agr (exL3 u n ie (p, s0, none) E x0 a b fl ma ex L).1 (ex3 u wh p f E a b (x0, ma, L, dns, dirs, T, ca, pn, us, k1, k2, k3, k4)) (fun t' => (∃ s', (exL3 u n ie (p, s0, none) E x0 a b fl ma ex L).1 = (t'.1, s', none)) ∧ t'.1 = E ∧ p + 2 ≤ E ∧ (exL3 u n ie (p, s0, none) E x0 a b fl ma ex L).2.1 = t'.2.1 ∧ (exL3 u n ie (p, s0, none) E x0 a b fl ma ex L).2.2.2 = t'.2.2.1 ∧ t'.2.2.1 = L ++ [(a, b)]) := by
  have hi : ie = 0 ∨ ie = 1 := hw.elim (fun q => Or.inl q.1) (fun q => Or.inr q.1)
  unfold ex3 exL3
  dsimp only
  refine agr.step (el_q (s := s0) hE) (fun w9 h9 => ((knL_stk u n ie _ hi _ _).tr exL4_stk) w9 h9) (fun z hz hn1 hq => ?_)
  obtain ⟨q1, q2, q3, q4, q5⟩ := hq
  rw [q1]
  dsimp only
  rw [kd_eq]
  have hrl := rep_q (u := u) (L := L) (a := a) (b := b) (x0 := x0) hL
  by_cases hk : knT ie (kdN u a b)
  · rw [if_neg (show ¬ knZ wh (kdN u a b) = 0 from fun q => (knZ_L hw).mp q hk)]
    have hK := knL_q hu (n := n) (p := z.1) (s := p) (en := z.2) (ie := ie) (kn := kdN u a b) (ca := ca) (pn := pn) (us := us) (k1 := k1) (k2 := k2) (k3 := k3) (k4 := k4) (dns := dns) (dirs := dirs) (T := T) (by omega) hk
    have hK1 := knL_1 (u := u) (n := n) (en := z.2) (x := (z.1, p, none)) hk
    generalize rd_knL u n ie (kdN u a b) (z.1, p, none) z.2 = K at hK hK1 ⊢
    have e4 := fun {α : Type} (A B : α) => (if_neg (show ¬ K.2 = (0 : Int32) by rw [hK1]; decide) : @ite α (K.2 = (0 : Int32)) (Classical.propDecidable _) A B = B)
    unfold exL4
    rw [e4]
    refine agr.step (x := rd_fin K.1 z.2) (Q := fun v => ∃ s', K.1 = (z.2, s', none) ∧ v.1 = ma) ?_ ?_ ?_
    · refine agr.step hK (fin_stk _ _) (fun y hy hn2 hq2 => ?_)
      obtain ⟨⟨s', g1⟩, g7, g8⟩ := hq2
      rw [g1]
      dsimp only
      refine agr.step (fin_q (u := u) (p := y.1) (s := s') (en := z.2)) (stk.rf _) (fun _ _ _ hq3 => ?_)
      have ey : y.1 = z.2 := by omega
      rw [hq3.1]
      exact ⟨rfl, s', by rw [ey], rfl⟩
    · split
      · exact (fin_stk _ _).tr (ref_stk _ _)
      · exact fin_stk _ _
    · intro v hv hn2 hq2
      obtain ⟨s', g0, g1⟩ := hq2
      rw [g0, show rd_fin (z.2, s', none) z.2 = (z.2, s', none) from if_neg (Nat.lt_irrefl _)]
      refine agr.step (fin_q (u := u) (p := z.2) (s := s') (en := E)) (fun w9 h9 => ?_) (fun _ _ _ hq3 => ?_)
      · split
        · exact ref_stk _ _ w9 h9
        · exact h9
      · have ez : z.2 = E := by omega
        rw [hq3.1]
        by_cases hr : repP u L a b
        · rw [if_pos hr]
          exact agr.no (x := (z.2, s', some x0)) rfl (hrl.1 hr) (stk.rf _)
        · rw [if_neg hr]
          obtain ⟨j, ej⟩ := hrl.2 hr
          refine agr.ok ej ?_
          exact ⟨rfl, ⟨s', by rw [ez]⟩, rfl, by omega, g1.symm, rfl, rfl⟩
  · rw [if_pos (show knZ wh (kdN u a b) = 0 from (knZ_L hw).mpr hk), knL_n hi hk]
    unfold exL4
    rw [if_pos rfl]
    dsimp only
    rw [show rd_lea (z.1, p, none) z.2 (1 : Int32) = (z.2, p, none) from lea_ok (by decide)]
    have eA : (@ite (Nat ⊕ (Int32 × List (Nat × Nat) × List (Nat × Nat) × List (Nat × Nat × Nat) × Int32 × Int32 × Int32 × Int32 × Int32 × Int32 × Int32)) (f = (0 : Int32)) (Classical.propDecidable _) (.inr (ma, dns, dirs, T, ca, pn, us, k1, k2, k3, k4)) (.inr (ma + 1, dns, dirs, T, ca, pn, us, k1, k2, k3, k4))) = .inr (ma + fl, dns, dirs, T, ca, pn, us, k1, k2, k3, k4) := by
      rcases hfl with ⟨h1, h2⟩ | ⟨h1, h2⟩
      · rw [if_pos h2, h1, Int32.add_zero]
      · rw [if_neg h2, h1]
    refine agr.ok eA ?_
    refine agr.step (fin_q (u := u) (p := z.2) (s := p) (en := E)) (fun w9 h9 => ?_) (fun _ _ _ hq3 => ?_)
    · split
      · exact ref_stk _ _ w9 h9
      · exact h9
    · have ez : z.2 = E := by omega
      rw [hq3.1]
      by_cases hr : repP u L a b
      · rw [if_pos hr]
        exact agr.no (x := (z.2, p, some x0)) rfl (hrl.1 hr) (stk.rf _)
      · rw [if_neg hr]
        obtain ⟨j, ej⟩ := hrl.2 hr
        refine agr.ok ej ?_
        exact ⟨rfl, ⟨p, by rw [ez]⟩, rfl, by omega, rfl, rfl, rfl⟩
theorem rbL_stk {u : Nat → Nat} {n : Nat} {ie : Int32} (hi : ie = 0 ∨ ie = 1) {e : Nat} (s : rS × Int32 × Int32 × (List (Nat × Nat))) : stk s.1 (rb_extL u n ie e s).1 := by
  intro w h
  rw [rbL_eq]
  have h1 := opn_stk u n s.1 48 e w h
  generalize rd_opn u n s.1 48 e = o at h1 ⊢
  have h2 := opn_stk u n o.1 6 o.2 w h1
  dsimp only
  generalize rd_opn u n o.1 6 o.2 = d at h2 ⊢
  have h3 := lea_stk d.1 d.2 (zP (oidOK u d.1.1 d.2)) w h2
  generalize rd_lea d.1 d.2 (zP (oidOK u d.1.1 d.2)) = y at h3 ⊢
  split
  · exact ((flag_stk u n _ _).tr (exL3_stk hi)) w h3
  · exact (exL3_stk hi) w h3
def lI (e : Nat) (s : rS × Int32 × Int32 × (List (Nat × Nat))) (t : Nat × Int32 × List (Nat × Nat) × List (Nat × Nat) × List (Nat × Nat) × List (Nat × Nat × Nat) × Int32 × Int32 × Int32 × Int32 × Int32 × Int32 × Int32) : Prop := (∃ s', s.1 = (t.1, s', none)) ∧ t.1 ≤ e ∧ 7 * t.2.2.1.length ≤ t.1 ∧ s.2.1 = t.2.1 ∧ s.2.2.2 = t.2.2.1
theorem rbL_q {u : Nat → Nat} (hu : ∀ j, u j < 256) {n e wh : Nat} {ie : Int32} (hw : whI ie wh) (he : e ≤ n) (hn : n ≤ 2048) (s : rS × Int32 × Int32 × (List (Nat × Nat))) (t : Nat × Int32 × List (Nat × Nat) × List (Nat × Nat) × List (Nat × Nat) × List (Nat × Nat × Nat) × Int32 × Int32 × Int32 × Int32 × Int32 × Int32 × Int32) (h : lI e s t) : agr (rb_extL u n ie e s).1 (exB u wh e t) (fun t' => lI e (rb_extL u n ie e s) t' ∧ t.1 < t'.1) := by
  have hi : ie = 0 ∨ ie = 1 := hw.elim (fun q => Or.inl q.1) (fun q => Or.inr q.1)
  obtain ⟨x, ma, ex, L⟩ := s
  obtain ⟨t1, ma', L', dns, dirs, T, ca', ln, us', k1, k2, k3, k4⟩ := t
  obtain ⟨⟨s', h0⟩, h1, h2, h3, h5⟩ := h
  change x = (t1, s', none) at h0
  change ma = ma' at h3
  change L = L' at h5
  change t1 ≤ e at h1
  change 7 * L'.length ≤ t1 at h2
  subst h0 h3 h5
  rw [rbL_eq]
  unfold exB
  dsimp only
  refine agr.step (el_q (s := s') he) (fun w9 h9 => ?_) (fun z hz hn1 hq => ?_)
  · generalize rd_opn u n (t1, s', none) 48 e = o at h9 ⊢
    have h2 := opn_stk u n o.1 6 o.2 w9 h9
    generalize rd_opn u n o.1 6 o.2 = d at h2 ⊢
    have h3 := lea_stk d.1 d.2 (zP (oidOK u d.1.1 d.2)) w9 h2
    generalize rd_lea d.1 d.2 (zP (oidOK u d.1.1 d.2)) = y at h3 ⊢
    split
    · exact ((flag_stk u n _ _).tr (exL3_stk hi)) w9 h3
    · exact (exL3_stk hi) w9 h3
  obtain ⟨q1, q2, q3, q4, q5⟩ := hq
  rw [q1]
  dsimp only
  refine agr.step (oid_q (u := u) (n := n) (p := z.1) (s := t1) (en := z.2) (by omega) hn) ?_ (fun d hd hn2 hq2 => ?_)
  · split
    · exact (flag_stk u n _ _).tr (exL3_stk hi)
    · exact exL3_stk hi
  obtain ⟨r1, r2, r3, r4, r5, r6⟩ := hq2
  rw [r1]
  dsimp only
  rw [r2]
  dsimp only
  by_cases hc : d.2 < z.2 ∧ u d.2 = 1
  · rw [if_pos ⟨rfl, hc⟩]
    refine agr.step (fl_q hu (n := n) (p := d.2) (s := z.1) (E := z.2) (by omega) hc.1 hc.2) (exL3_stk hi) (fun v hv hn3 hq3 => ?_)
    obtain ⟨g1, g2, g3, g4⟩ := hq3
    rw [g1]
    refine agr.imp (ex3L_q hu (n := n) (p := v.1) (s0 := d.2) (E := z.2) (x0 := t1) (a := d.1) (b := d.2) (fl := 1) (f := v.2) hw (by omega) hn (by omega) (Or.inr ⟨rfl, g2⟩)) (fun t' hq4 => ?_)
    obtain ⟨i1, i2, i3, i4, i6, i5⟩ := hq4
    refine ⟨⟨i1, by omega, ?_, i4, i6⟩, by show t1 < t'.1; omega⟩
    rw [i5, List.length_append]
    show 7 * (L.length + 1) ≤ t'.1
    omega
  · rw [if_neg (fun q => hc q.2)]
    refine agr.ok (nfl hc) ?_
    refine agr.imp (ex3L_q hu (n := n) (p := d.2) (s0 := z.1) (E := z.2) (x0 := t1) (a := d.1) (b := d.2) (fl := 0) (f := 0) hw (by omega) hn (by omega) (Or.inl ⟨rfl, rfl⟩)) (fun t' hq4 => ?_)
    obtain ⟨i1, i2, i3, i4, i6, i5⟩ := hq4
    refine ⟨⟨i1, by omega, ?_, i4, i6⟩, by show t1 < t'.1; omega⟩
    rw [i5, List.length_append]
    show 7 * (L.length + 1) ≤ t'.1
    omega
theorem extL_stk (u : Nat → Nat) (n : Nat) (ie : Int32) (hi : ie = 0 ∨ ie = 1) (x : rS) (en : Nat) (ma ex : Int32) : stk x (rd_extL u n ie x en ma ex).1 := by
  intro w h
  have h1 := opn_stk u n x 48 en w h
  unfold rd_extL
  generalize rd_opn u n x 48 en = o at h1 ⊢
  obtain ⟨f9, hf9⟩ : ∃ f9, 2048 = f9 + 1 := ⟨2047, rfl⟩
  rw [hf9, show loopF (rb_extL u n ie o.2) (fun s9 => mr s9.1 o.2) (f9 + 1) true (o.1, ma, ex, ([] : List (Nat × Nat))) = loopF (rb_extL u n ie o.2) (fun s9 => mr s9.1 o.2) f9 false (rb_extL u n ie o.2 (o.1, ma, ex, ([] : List (Nat × Nat)))) from if_pos (Or.inl rfl)]
  exact lpF_stk (st := Prod.fst) f9 _ w (rbL_stk hi _ w h1)
theorem extL_q {u : Nat → Nat} (hu : ∀ j, u j < 256) {n p s en wh : Nat} {ie ma ex : Int32} {ca pn us k1 k2 k3 k4 : Int32} {dns dirs : List (Nat × Nat)} {T : List (Nat × Nat × Nat)} (hw : whI ie wh) (he : en ≤ n) (hn : n ≤ 2048) : agr (rd_extL u n ie (p, s, none) en ma ex).1 (tx_extensions u p en wh dns dirs T ma ca pn us k1 k2 k3 k4) (fun z => (∃ s', (rd_extL u n ie (p, s, none) en ma ex).1 = (z.1, s', none)) ∧ (rd_extL u n ie (p, s, none) en ma ex).2.1 = z.2.1 ∧ p + 2 ≤ z.1 ∧ z.1 ≤ en) := by
  have hi : ie = 0 ∨ ie = 1 := hw.elim (fun q => Or.inl q.1) (fun q => Or.inr q.1)
  have e9 : tx_extensions u p en wh dns dirs T ma ca pn us k1 k2 k3 k4 = (eb (tx_element u p 48 en) (fun z4 => (@ite _ (z4.1 = z4.2) (Classical.propDecidable _) (.inl z4.2) (eb (loopE (exB u wh z4.2) (fun t => ¬ (z4.2 ≤ t.1)) 2048 (z4.1, ma, ([] : List (Nat × Nat)), dns, dirs, T, ca, pn, us, k1, k2, k3, k4)) (fun s44 => (.inr (s44.1, s44.2.1, s44.2.2.2.2.2.2.1, s44.2.2.2.2.2.2.2.1, s44.2.2.2.2.2.2.2.2.1, s44.2.2.2.2.2.2.2.2.2.1, s44.2.2.2.2.2.2.2.2.2.2.1, s44.2.2.2.2.2.2.2.2.2.2.2.1, s44.2.2.2.2.2.2.2.2.2.2.2.2, s44.2.2.2.1, s44.2.2.2.2.1, s44.2.2.2.2.2.1, s44.2.2.1))))))) := rfl
  rw [e9]
  unfold rd_extL
  obtain ⟨f9, hf9⟩ : ∃ f9, 2048 = f9 + 1 := ⟨2047, rfl⟩
  rw [hf9] at hn ⊢
  refine agr.step (el_q (s := s) he) (fun w9 h9 => ?_) (fun z hz hn1 hq => ?_)
  · generalize rd_opn u n (p, s, none) 48 en = o at h9 ⊢
    rw [show loopF (rb_extL u n ie o.2) (fun s9 => mr s9.1 o.2) (f9 + 1) true (o.1, ma, ex, ([] : List (Nat × Nat))) = loopF (rb_extL u n ie o.2) (fun s9 => mr s9.1 o.2) f9 false (rb_extL u n ie o.2 (o.1, ma, ex, ([] : List (Nat × Nat)))) from if_pos (Or.inl rfl)]
    exact lpF_stk (st := Prod.fst) f9 _ w9 (rbL_stk hi _ w9 h9)
  · obtain ⟨q1, q2, q3, q4, q5⟩ := hq
    rw [q1]
    dsimp only
    have hn' : n ≤ 2048 := by omega
    have hI0 : lI z.2 ((z.1, p, none), ma, ex, ([] : List (Nat × Nat))) (z.1, ma, ([] : List (Nat × Nat)), dns, dirs, T, ca, pn, us, k1, k2, k3, k4) := ⟨⟨p, rfl⟩, q3, Nat.zero_le _, rfl, rfl⟩
    by_cases hz0 : z.1 = z.2
    · refine agr.pos hz0 ?_
      rw [show loopF (rb_extL u n ie z.2) (fun s9 => mr s9.1 z.2) (f9 + 1) true ((z.1, p, none), ma, ex, ([] : List (Nat × Nat))) = loopF (rb_extL u n ie z.2) (fun s9 => mr s9.1 z.2) f9 false (rb_extL u n ie z.2 ((z.1, p, none), ma, ex, ([] : List (Nat × Nat)))) from if_pos (Or.inl rfl)]
      refine lpF_stk (st := Prod.fst) f9 _ z.2 ?_
      have hb := rbL_q hu (n := n) (e := z.2) hw (by omega) hn' _ _ hI0
      have e : exB u wh z.2 (z.1, ma, ([] : List (Nat × Nat)), dns, dirs, T, ca, pn, us, k1, k2, k3, k4) = .inl z.2 := by
        unfold exB
        refine eb_no ?_
        unfold tx_element
        rw [if_neg (by show ¬ z.1 < z.2; omega)]
      rw [e] at hb
      exact hb
    · refine agr.neg hz0 ?_
      rw [loopF_t (M := fun s9 : rS × Int32 × Int32 × (List (Nat × Nat)) => mr s9.1 z.2) (s := ((z.1, p, none), ma, ex, ([] : List (Nat × Nat)))) ⟨rfl, by show z.1 < z.2; omega⟩]
      have hLp := loop_q (B := rb_extL u n ie z.2) (st := Prod.fst) (RB := exB u wh z.2) (pos := Prod.fst) (e := z.2) (I := lI z.2) (fun s t h => by
        obtain ⟨⟨s', h1⟩, h2, _⟩ := h
        rw [h1]
        exact ⟨rfl, rfl, h2⟩) (fun s t h hp => rbL_q hu (n := n) (e := z.2) hw (by omega) hn' s t h) (f9 + 1) _ _ hI0 (by show z.2 - z.1 ≤ f9 + 1; omega)
      refine agr.step hLp (stk.rf _) (fun v hv hn2 hq2 => ?_)
      obtain ⟨⟨g1, g2, g3, g4, g6⟩, g5⟩ := hq2
      exact ⟨hn2, g1, g4, by show p + 2 ≤ v.1; rw [g5]; omega, by show v.1 ≤ en; omega⟩
