/-! The class' readers and the reference's: lists. -/
noncomputable def enB (u : Nat → Nat) (e9 : Nat) : Nat × Int32 × List (Nat × Nat) × List (Nat × Nat) × List (Nat × Nat) × List (Nat × Nat × Nat) × Int32 × Int32 × Int32 × Int32 × Int32 × Int32 × Int32 → Nat ⊕ (Nat × Int32 × List (Nat × Nat) × List (Nat × Nat) × List (Nat × Nat) × List (Nat × Nat × Nat) × Int32 × Int32 × Int32 × Int32 × Int32 × Int32 × Int32) := (fun s114 : Nat × Int32 × List (Nat × Nat) × List (Nat × Nat) × List (Nat × Nat) × List (Nat × Nat × Nat) × Int32 × Int32 × Int32 × Int32 × Int32 × Int32 × Int32 => ((eb (tx_element u s114.1 48 e9) (fun z126 => (eb (tx_serial u z126.1 z126.2) (fun z149 => (eb (tx_time u z149.2 z126.2) (fun z192 => (@ite _ (z126.2 ≤ z192.1) (Classical.propDecidable _) (eb (tx_done u z192.1 z126.2) (fun z217 => (.inr (z126.2, s114.2.1, (s114.2.2.1 ++ [(z149.1, z149.2)]), s114.2.2.2.1, s114.2.2.2.2.1, s114.2.2.2.2.2.1, s114.2.2.2.2.2.2.1, s114.2.2.2.2.2.2.2.1, s114.2.2.2.2.2.2.2.2.1, s114.2.2.2.2.2.2.2.2.2.1, s114.2.2.2.2.2.2.2.2.2.2.1, s114.2.2.2.2.2.2.2.2.2.2.2.1, s114.2.2.2.2.2.2.2.2.2.2.2.2)))) (eb (tx_extensions u z192.1 z126.2 2 s114.2.2.2.1 s114.2.2.2.2.1 s114.2.2.2.2.2.1 s114.2.1 s114.2.2.2.2.2.2.1 s114.2.2.2.2.2.2.2.1 s114.2.2.2.2.2.2.2.2.1 s114.2.2.2.2.2.2.2.2.2.1 s114.2.2.2.2.2.2.2.2.2.2.1 s114.2.2.2.2.2.2.2.2.2.2.2.1 s114.2.2.2.2.2.2.2.2.2.2.2.2) (fun z209 => (eb (tx_done u z209.1 z126.2) (fun z217 => (.inr (z126.2, z209.2.1, (s114.2.2.1 ++ [(z149.1, z149.2)]), z209.2.2.2.2.2.2.2.2.2.1, z209.2.2.2.2.2.2.2.2.2.2.1, z209.2.2.2.2.2.2.2.2.2.2.2.1, z209.2.2.1, z209.2.2.2.1, z209.2.2.2.2.1, z209.2.2.2.2.2.1, z209.2.2.2.2.2.2.1, z209.2.2.2.2.2.2.2.1, z209.2.2.2.2.2.2.2.2.1))))))))))))) : Nat ⊕ (Nat × Int32 × List (Nat × Nat) × List (Nat × Nat) × List (Nat × Nat) × List (Nat × Nat × Nat) × Int32 × Int32 × Int32 × Int32 × Int32 × Int32 × Int32)))
theorem loopF_cg {σ : Type} {B : σ → σ} {M M' : σ → Prop} {J : σ → Prop} (hJ : ∀ s, J s → (M s ↔ M' s)) (hB : ∀ s, J (B s)) : ∀ (f : Nat) (s : σ), J s → loopF B M f false s = loopF B M' f false s
  | 0, s, _ => rfl
  | f + 1, s, h => by
    by_cases hm : M s
    · rw [show loopF B M (f + 1) false s = loopF B M f false (B s) from if_pos (Or.inr hm), show loopF B M' (f + 1) false s = loopF B M' f false (B s) from if_pos (Or.inr ((hJ s h).mp hm))]
      exact loopF_cg hJ hB f (B s) (hB s)
    · rw [show loopF B M (f + 1) false s = s from if_neg (fun q => q.elim (fun z => by cases z) hm), show loopF B M' (f + 1) false s = s from if_neg (fun q => q.elim (fun z => by cases z) (fun z => hm ((hJ s h).mpr z)))]
noncomputable def enM (u : Nat → Nat) (n : Nat) (ie : Int32) (y : rS) (E : Nat) (ma ex : Int32) : rS := @ite _ (y.2.2 = none ∧ y.1 < E ∧ u y.1 = 48) (Classical.propDecidable _) (rd_fin (rd_extL u n ie y E ma ex).1 E) (rd_fin y E)
theorem enM_stk {u : Nat → Nat} {n : Nat} {ie : Int32} (hi : ie = 0 ∨ ie = 1) {y : rS} {E : Nat} {ma ex : Int32} : stk y (enM u n ie y E ma ex) := by
  unfold enM
  split
  · exact (extL_stk u n ie hi _ _ _ _).tr (fin_stk _ _)
  · exact fin_stk _ _
theorem ent_1 (u : Nat → Nat) (n e : Nat) (s : rS × Int32 × Int32 × Int32 × (List (Nat × Nat)) × (List (Nat × Nat))) : (rb_ent u n e s).1 = (let z87 := rd_opn u n s.1 48 e; let z102 := rd_ser u n z87.1 z87.2; enM u n s.2.1 (rd_time u n z102.1 z87.2).1 z87.2 s.2.2.1 s.2.2.2.1) := by
  unfold rb_ent enM
  dsimp only
  generalize (rd_time u n (rd_ser u n (rd_opn u n s.1 48 e).1 (rd_opn u n s.1 48 e).2).1 (rd_opn u n s.1 48 e).2) = K
  by_cases c : K.1.2.2 = none ∧ K.1.1 < (rd_opn u n s.1 48 e).2 ∧ u K.1.1 = 48
  · rw [if_pos c, if_pos c]
  · rw [if_neg c, if_neg c]
theorem ent_2 (u : Nat → Nat) (n e : Nat) (s : rS × Int32 × Int32 × Int32 × (List (Nat × Nat)) × (List (Nat × Nat))) : (rb_ent u n e s).2.1 = zP (mr (rb_ent u n e s).1 e) := by
  unfold rb_ent
  dsimp only
  generalize (rd_time u n (rd_ser u n (rd_opn u n s.1 48 e).1 (rd_opn u n s.1 48 e).2).1 (rd_opn u n s.1 48 e).2) = K
  split
  · rfl
  · rfl
theorem ent_3 (u : Nat → Nat) (n e : Nat) (s : rS × Int32 × Int32 × Int32 × (List (Nat × Nat)) × (List (Nat × Nat))) : (rb_ent u n e s).2.2.2.2.1 = s.2.2.2.2.1 ++ [((rd_ser u n (rd_opn u n s.1 48 e).1 (rd_opn u n s.1 48 e).2).2.1, (rd_ser u n (rd_opn u n s.1 48 e).1 (rd_opn u n s.1 48 e).2).2.2)] := by
  unfold rb_ent
  dsimp only
  generalize (rd_time u n (rd_ser u n (rd_opn u n s.1 48 e).1 (rd_opn u n s.1 48 e).2).1 (rd_opn u n s.1 48 e).2) = K
  split
  · rfl
  · rfl
theorem ent_4 (u : Nat → Nat) (n e : Nat) (s : rS × Int32 × Int32 × Int32 × (List (Nat × Nat)) × (List (Nat × Nat))) {z87 : rS × Nat} {y : rS} (h1 : rd_opn u n s.1 48 e = z87) (h2 : (rd_time u n (rd_ser u n z87.1 z87.2).1 z87.2).1 = y) : ((y.2.2 = none ∧ y.1 < z87.2 ∧ u y.1 = 48) → (rb_ent u n e s).2.2.1 = (rd_extL u n s.2.1 y z87.2 s.2.2.1 s.2.2.2.1).2.1) ∧ (¬ (y.2.2 = none ∧ y.1 < z87.2 ∧ u y.1 = 48) → (rb_ent u n e s).2.2.1 = s.2.2.1) := by
  subst h1 h2
  unfold rb_ent
  dsimp only
  constructor
  · intro c
    rw [if_pos c]
  · intro c
    rw [if_neg c]
theorem rbn_stk {u : Nat → Nat} {n e : Nat} (s : rS × Int32 × Int32 × Int32 × (List (Nat × Nat)) × (List (Nat × Nat))) (hi : s.2.1 = 0 ∨ s.2.1 = 1) : stk s.1 (rb_ent u n e s).1 := by
  rw [ent_1]
  dsimp only
  exact (opn_stk u n _ 48 _).tr ((ser_stk u n _ _).tr ((time_stk u n _ _).tr (enM_stk hi)))
def nI9 (e : Nat) (s : rS × Int32 × Int32 × Int32 × (List (Nat × Nat)) × (List (Nat × Nat))) (t : Nat × Int32 × List (Nat × Nat) × List (Nat × Nat) × List (Nat × Nat) × List (Nat × Nat × Nat) × Int32 × Int32 × Int32 × Int32 × Int32 × Int32 × Int32) : Prop := (∃ s', s.1 = (t.1, s', none)) ∧ t.1 ≤ e ∧ s.2.1 = zP (t.1 < e) ∧ s.2.2.1 = t.2.1 ∧ s.2.2.2.2.1 = t.2.2.1
theorem rbn_q {u : Nat → Nat} (hu : ∀ j, u j < 256) {n e : Nat} (he : e ≤ n) (hn : n ≤ 2048) (s : rS × Int32 × Int32 × Int32 × (List (Nat × Nat)) × (List (Nat × Nat))) (t : Nat × Int32 × List (Nat × Nat) × List (Nat × Nat) × List (Nat × Nat) × List (Nat × Nat × Nat) × Int32 × Int32 × Int32 × Int32 × Int32 × Int32 × Int32) (h : (∃ s', s.1 = (t.1, s', none)) ∧ t.1 ≤ e ∧ s.2.2.1 = t.2.1 ∧ s.2.2.2.2.1 = t.2.2.1) (h1 : s.2.1 = 1) : agr (rb_ent u n e s).1 (enB u e t) (fun t' => nI9 e (rb_ent u n e s) t' ∧ t.1 < t'.1) := by
  obtain ⟨⟨s', h0⟩, h2, h3, h4⟩ := h
  have e1 := ent_1 u n e s
  have e2 := ent_2 u n e s
  have e3 := ent_3 u n e s
  have e4 := fun z87 y => ent_4 u n e s (z87 := z87) (y := y)
  generalize rb_ent u n e s = N at e1 e2 e3 e4 ⊢
  rw [h0] at e1 e3 e4
  rw [h1] at e1 e4
  rw [h3] at e4
  rw [h4] at e3
  dsimp only at e1
  unfold enB
  rw [e1]
  refine agr.step (el_q (u := u) (n := n) (p := t.1) (s := s') (tg := 48) (en := e) he) ((ser_stk u n _ _).tr ((time_stk u n _ _).tr (enM_stk (Or.inr rfl)))) (fun z hz hn1 hq => ?_)
  obtain ⟨q1, q2, q3, q4, q5⟩ := hq
  rw [q1] at e1 e3 ⊢
  dsimp only at e1 e3 ⊢
  refine agr.step (ser_q hu (n := n) (p := z.1) (s := t.1) (en := z.2) (by omega)) ((time_stk u n _ _).tr (enM_stk (Or.inr rfl))) (fun v hv hn2 hq2 => ?_)
  obtain ⟨r1, r2, r3, r4⟩ := hq2
  rw [r1] at e1 e3 ⊢
  dsimp only at e1 e3 ⊢
  refine agr.step (time_q hu (n := n) (p := v.2) (s := z.1) (en := z.2) (by omega)) (enM_stk (Or.inr rfl)) (fun y hy hn3 hq3 => ?_)
  obtain ⟨g1, g2, g3, -⟩ := hq3
  have e5 := e4 _ (y.1, v.2, none) q1 (by dsimp only; rw [r1]; exact g1)
  rw [g1] at e1 ⊢
  dsimp only at e5
  by_cases hend : z.2 ≤ y.1
  · refine agr.pos hend ?_
    have e6 := e5.2 (fun q => by have : y.1 < z.2 := q.2.1; omega)
    have e7 : enM u n 1 (y.1, v.2, none) z.2 s.2.2.1 s.2.2.2.1 = rd_fin (y.1, v.2, none) z.2 := if_neg (fun q => by have : y.1 < z.2 := q.2.1; omega)
    rw [e7] at e1 ⊢
    refine agr.step (fin_q (u := u) (p := y.1) (s := v.2) (en := z.2)) (stk.rf _) (fun _ _ _ hq5 => ?_)
    have ey : y.1 = z.2 := by omega
    rw [hq5.1] at e1 ⊢
    refine ⟨rfl, ⟨⟨v.2, by rw [e1, ey]⟩, q4, ?_, e6, e3⟩, by show t.1 < z.2; omega⟩
    rw [e2, e1, ey]
    exact zP_c ⟨fun q => q.2, fun q => ⟨rfl, q⟩⟩
  · refine agr.neg hend ?_
    by_cases h48 : u y.1 = 48
    · have e6 := e5.1 ⟨rfl, by show y.1 < z.2; omega, h48⟩
      have e7 : enM u n 1 (y.1, v.2, none) z.2 s.2.2.1 s.2.2.2.1 = rd_fin (rd_extL u n 1 (y.1, v.2, none) z.2 s.2.2.1 s.2.2.2.1).1 z.2 := if_pos ⟨rfl, by show y.1 < z.2; omega, h48⟩
      rw [e7] at e1 ⊢
      rw [h3] at e1 ⊢
      refine agr.step (extL_q hu (n := n) (p := y.1) (s := v.2) (en := z.2) (wh := 2) (ie := 1) (ma := t.2.1) (ex := s.2.2.2.1) (Or.inr ⟨rfl, rfl⟩) (by omega) hn) (fin_stk _ _) (fun x hx hn4 hq4 => ?_)
      obtain ⟨⟨s4, l1⟩, l2, l3, l4⟩ := hq4
      rw [l1] at e1 ⊢
      refine agr.step (fin_q (u := u) (p := x.1) (s := s4) (en := z.2)) (stk.rf _) (fun _ _ _ hq5 => ?_)
      have ex1 : x.1 = z.2 := by omega
      rw [hq5.1] at e1 ⊢
      refine ⟨rfl, ⟨⟨s4, by rw [e1, ex1]⟩, q4, ?_, e6.trans l2, e3⟩, by show t.1 < z.2; omega⟩
      rw [e2, e1, ex1]
      exact zP_c ⟨fun q => q.2, fun q => ⟨rfl, q⟩⟩
    · have e7 : enM u n 1 (y.1, v.2, none) z.2 s.2.2.1 s.2.2.2.1 = rd_fin (y.1, v.2, none) z.2 := if_neg (fun q => h48 q.2.2)
      rw [e7]
      rw [show rd_fin (y.1, v.2, none) z.2 = (y.1, v.2, some y.1) from if_pos (by omega)]
      refine agr.no (x := (y.1, v.2, some y.1)) rfl ?_ (stk.rf _)
      unfold tx_extensions
      exact eb_no (el_tag (by omega) h48)
theorem ents_q {u : Nat → Nat} (hu : ∀ j, u j < 256) {n e p s : Nat} {ma ex : Int32} {De D7 dns dirs : List (Nat × Nat)} {T : List (Nat × Nat × Nat)} {c1 c2 c3 c4 c5 c6 c7 : Int32} (he : e ≤ n) (hn : n ≤ 2048) (hp : p ≤ e) : agr (rd_ents u n e (p, s, none) 1 ma ex De D7).1 (@ite _ (p = e) (Classical.propDecidable _) (.inl e) (loopE (enB u e) (fun t => ¬ (e ≤ t.1)) 2048 (p, ma, De, dns, dirs, T, c1, c2, c3, c4, c5, c6, c7))) (fun t' => nI9 e (rd_ents u n e (p, s, none) 1 ma ex De D7) t' ∧ t'.1 = e) := by
  unfold rd_ents
  obtain ⟨f9, hf9⟩ : ∃ f9, 2048 = f9 + 1 := ⟨2047, rfl⟩
  rw [hf9] at hn ⊢
  have hn' : n ≤ 2048 := by omega
  have hcg := loopF_cg (B := rb_ent u n e) (M := fun s9 => ¬ s9.2.1 = 0) (M' := fun s9 => mr s9.1 e) (J := fun s9 => s9.2.1 = zP (mr s9.1 e)) (fun s9 h9 => by
    have h9 : s9.2.1 = zP (mr s9.1 e) := h9
    show ¬ s9.2.1 = 0 ↔ _
    rw [h9, zP_0]
    exact Classical.not_not) (fun s9 => ent_2 u n e s9)
  have h0 := rbn_q hu (n := n) (e := e) he hn' ((p, s, none), 1, ma, ex, De, D7) (p, ma, De, dns, dirs, T, c1, c2, c3, c4, c5, c6, c7) ⟨⟨s, rfl⟩, hp, rfl, rfl⟩ rfl
  have e1 : loopF (rb_ent u n e) (fun s9 => ¬ s9.2.1 = 0) (f9 + 1) false ((p, s, none), 1, ma, ex, De, D7) = loopF (rb_ent u n e) (fun s9 => mr s9.1 e) f9 false (rb_ent u n e ((p, s, none), 1, ma, ex, De, D7)) := (if_pos (Or.inr (show ¬ (1 : Int32) = 0 by decide))).trans (hcg f9 _ (ent_2 u n e _))
  rw [e1]
  by_cases hz0 : p = e
  · refine agr.pos hz0 ?_
    have e : enB u e (p, ma, De, dns, dirs, T, c1, c2, c3, c4, c5, c6, c7) = .inl e := by
      unfold enB
      refine eb_no ?_
      unfold tx_element
      rw [if_neg (by show ¬ p < e; omega)]
    rw [e] at h0
    exact lpF_stk (st := Prod.fst) f9 _ _ h0
  · refine agr.neg hz0 ?_
    have e2 : loopE (enB u e) (fun t => ¬ (e ≤ t.1)) (f9 + 1) (p, ma, De, dns, dirs, T, c1, c2, c3, c4, c5, c6, c7) = eb (enB u e (p, ma, De, dns, dirs, T, c1, c2, c3, c4, c5, c6, c7)) (loopE (enB u e) (fun t => ¬ (e ≤ t.1)) f9) := if_pos (show ¬ e ≤ p by omega)
    rw [e2]
    refine agr.step h0 (fun w hw => lpF_stk (st := Prod.fst) f9 _ w hw) (fun t1 ht1 hn1 hq1 => ?_)
    obtain ⟨g1, g2⟩ := hq1
    have g2 : p < t1.1 := g2
    exact loop_q (B := rb_ent u n e) (st := Prod.fst) (RB := enB u e) (pos := Prod.fst) (e := e) (I := nI9 e) (fun s t h => by
      obtain ⟨⟨s', h1⟩, h2, _⟩ := h
      rw [h1]
      exact ⟨rfl, rfl, h2⟩) (fun s t h hp => by
      obtain ⟨h1, h2, h3, h4, h5⟩ := h
      exact rbn_q hu he hn' s t ⟨h1, h2, h4, h5⟩ (h3.trans (zP_t hp).symm)) f9 _ t1 g1 (by show e - t1.1 ≤ f9; omega)
theorem ents_stk (u : Nat → Nat) (n e : Nat) (x : rS) (ie ma ex : Int32) (hi : ie = 0 ∨ ie = 1) (De D7 : List (Nat × Nat)) : stk x (rd_ents u n e x ie ma ex De D7).1 := by
  intro w h
  unfold rd_ents
  obtain ⟨f9, hf9⟩ : ∃ f9, 2048 = f9 + 1 := ⟨2047, rfl⟩
  rw [hf9]
  have hcg := loopF_cg (B := rb_ent u n e) (M := fun s9 => ¬ s9.2.1 = 0) (M' := fun s9 => mr s9.1 e) (J := fun s9 => s9.2.1 = zP (mr s9.1 e)) (fun s9 h9 => by
    have h9 : s9.2.1 = zP (mr s9.1 e) := h9
    show ¬ s9.2.1 = 0 ↔ _
    rw [h9, zP_0]
    exact Classical.not_not) (fun s9 => ent_2 u n e s9)
  rcases hi with rfl | rfl
  · rw [show loopF (rb_ent u n e) (fun s9 => ¬ s9.2.1 = 0) (f9 + 1) false (x, 0, ma, ex, De, D7) = (x, 0, ma, ex, De, D7) from if_neg (fun q => q.elim (fun z => by cases z) (fun z => z rfl))]
    exact h
  · rw [show loopF (rb_ent u n e) (fun s9 => ¬ s9.2.1 = 0) (f9 + 1) false (x, 1, ma, ex, De, D7) = loopF (rb_ent u n e) (fun s9 => mr s9.1 e) f9 false (rb_ent u n e (x, 1, ma, ex, De, D7)) from (if_pos (Or.inr (show ¬ (1 : Int32) = 0 by decide))).trans (hcg f9 _ (ent_2 u n e _))]
    exact lpF_stk (st := Prod.fst) f9 _ w (rbn_stk _ (Or.inr rfl) w h)
