/-! The class' readers and the reference's: basic constraints, names, trees. -/
theorem bas_stk (u : Nat → Nat) (n : Nat) (x : rS) (en : Nat) (k : Int32) : stk x (rd_bas u n x en k).1 := by
  intro w h
  obtain ⟨p, s, v⟩ := x
  cases (show v = some w from h)
  unfold rd_bas
  rw [show rd_opn u n (p, s, some w) 48 en = ((p, p, some w), p) from rfl]
  dsimp only
  rw [if_neg (fun q => by cases q.1), if_neg (fun q => by cases q.1)]
  rfl
theorem i255 (x : Int64) : (¬ ((lg_cmp x 0) < (0 : Int32)) ∧ (¬ ((0 : Int32) < (lg_cmp x 255)))) ↔ (((0 : Nat) : Int) ≤ x.toInt ∧ x.toInt ≤ ((255 : Nat) : Int)) := by
  rw [lg_cmp_lt, lg_cmp_gt, Int64.lt_iff_toInt_lt, Int64.lt_iff_toInt_lt, show (0 : Int64).toInt = 0 from by decide, show (255 : Int64).toInt = 255 from by decide]
  omega
theorem zP_c {P Q : Prop} (h : P ↔ Q) : zP P = zP Q := by rw [propext h]
theorem bas_q {u : Nat → Nat} (hu : ∀ j, u j < 256) {n p s en : Nat} (he : en ≤ n) (k : Int32) : agr (rd_bas u n (p, s, none) en k).1 (tx_basic u p en k) (fun z => (∃ s', rd_bas u n (p, s, none) en k = ((z.1, s', none), z.2.2, z.2.1)) ∧ p + 2 ≤ z.1 ∧ z.1 ≤ en) := by
  unfold tx_basic
  refine agr.step (el_q (s := s) he) (fun w9 h9 => ?_) (fun z hz hn1 hq => ?_)
  · unfold rd_bas
    generalize rd_opn u n (p, s, none) 48 en = o at h9 ⊢
    obtain ⟨⟨p1, s1, v1⟩, e1⟩ := o
    cases (show v1 = some w9 from h9)
    dsimp only
    rw [if_neg (fun q => by cases q.1), if_neg (fun q => by cases q.1)]
    rfl
  obtain ⟨q1, q2, q3, q4, q5⟩ := hq
  unfold rd_bas
  rw [q1]
  dsimp only
  by_cases hm : z.1 < z.2
  · refine agr.pos hm ?_
    by_cases h1 : u z.1 = 1
    · refine agr.pos h1 ?_
      have c1 : (none : Option Nat) = none ∧ z.1 < z.2 ∧ u z.1 = 1 := ⟨rfl, hm, h1⟩
      rw [if_pos c1]
      have hf := flag_q hu (n := n) (p := z.1) (s := p) (en := z.2) (by omega)
      cases hR : tx_element u z.1 1 z.2 with
      | inl w =>
        rw [hR] at hf
        have hf : (rd_flag u n (z.1, p, none) z.2).2.2 = some w := hf
        show agr _ (Sum.inl w) _
        show _ = some w
        rw [if_neg (fun q => by rw [hf] at q; cases q.1)]
        exact fin_stk _ _ w hf
      | inr y =>
        rw [hR] at hf
        refine agr.ok rfl ?_
        by_cases hb : ¬ ((y.2 - y.1) = 1) ∨ (¬ ((u y.1) = 255))
        · refine agr.pos hb ?_
          have hf : agr (rd_flag u n (z.1, p, none) z.2) (@ite _ (¬ ((y.2 - y.1) = 1) ∨ (¬ ((u y.1) = 255))) (Classical.propDecidable _) (.inl z.1) (.inr y.2)) _ := hf
          rw [if_pos hb] at hf
          have hf : (rd_flag u n (z.1, p, none) z.2).2.2 = some z.1 := hf
          show _ = some z.1
          rw [if_neg (fun q => by rw [hf] at q; cases q.1)]
          exact fin_stk _ _ z.1 hf
        · refine agr.neg hb ?_
          have hf : agr (rd_flag u n (z.1, p, none) z.2) (@ite _ (¬ ((y.2 - y.1) = 1) ∨ (¬ ((u y.1) = 255))) (Classical.propDecidable _) (.inl z.1) (.inr y.2)) _ := hf
          rw [if_neg hb] at hf
          obtain ⟨_, f1, f2, f3⟩ := hf
          rw [f1]
          dsimp only
          by_cases hend : z.2 ≤ y.2
          · refine agr.pos hend ?_
            rw [if_neg (fun q => by omega)]
            dsimp only
            refine agr.step (fin_q (u := u) (p := y.2) (s := z.1) (en := z.2)) (stk.rf _) (fun _ _ _ hq5 => ?_)
            rw [hq5.1, show y.2 = z.2 by omega, zP_c (show ((none : Option Nat) = none ∧ z.1 < z.2 ∧ u z.1 = 1) ↔ u z.1 = 1 from ⟨fun q => q.2.2, fun q => ⟨rfl, hm, q⟩⟩)]
            exact ⟨rfl, ⟨z.1, rfl⟩, by show p + 2 ≤ z.2; omega, q4⟩
          · refine agr.neg hend ?_
            by_cases h2 : u y.2 = 2
            · rw [if_pos ⟨rfl, by omega, h2⟩]
              dsimp only
              have hP : ∀ x : Int64, (((none : Option Nat) = none ∧ z.1 < z.2 ∧ u z.1 = 1) ∧ (¬ ((lg_cmp x 0) < (0 : Int32)) ∧ (¬ ((0 : Int32) < (lg_cmp x 255))))) ↔ (((0 : Nat) : Int) ≤ x.toInt ∧ x.toInt ≤ ((255 : Nat) : Int)) := fun x => ⟨fun q => (i255 x).mp q.2, fun q => ⟨c1, (i255 x).mpr q⟩⟩
              refine agr.step (numr_q hu (n := n) (p := y.2) (s := z.1) (en := z.2) (by omega) (lo := 0) (hi := 255) (by omega) (by omega) (P := fun x => (((none : Option Nat) = none ∧ z.1 < z.2 ∧ u z.1 = 1) ∧ (¬ ((lg_cmp x 0) < (0 : Int32)) ∧ (¬ ((0 : Int32) < (lg_cmp x 255)))))) hP) (fin_stk _ _) (fun v hv hn4 hq4 => ?_)
              obtain ⟨y2, g1, g2, g3, g4, g5, g6⟩ := hq4
              subst g3
              rw [g1]
              dsimp only
              rw [req_ok (zP_ne g2)]
              refine agr.step (fin_q (u := u) (p := y2.2) (s := y.2) (en := z.2)) (stk.rf _) (fun _ _ _ hq5 => ?_)
              rw [hq5.1, show y2.2 = z.2 by omega, zP_c (show ((none : Option Nat) = none ∧ z.1 < z.2 ∧ u z.1 = 1) ↔ u z.1 = 1 from ⟨fun q => q.2.2, fun q => ⟨rfl, hm, q⟩⟩)]
              exact ⟨rfl, ⟨y.2, rfl⟩, by show p + 2 ≤ z.2; omega, q4⟩
            · rw [if_neg (fun q => h2 q.2.2)]
              have e : tx_number u y.2 z.2 0 255 = .inl y.2 := by
                unfold tx_number
                refine eb_no ?_
                unfold tx_integer
                exact eb_no (el_tag (by omega) h2)
              refine agr.no (x := (y.2, z.1, some y.2)) rfl e ?_
              rw [show rd_fin (y.2, z.1, none) z.2 = (y.2, z.1, some y.2) from if_pos (by omega)]
              exact stk.rf _
    · refine agr.neg h1 ?_
      rw [if_neg (fun q => h1 q.2.2)]
      refine agr.neg (show ¬ z.2 ≤ z.1 by omega) ?_
      by_cases h2 : u z.1 = 2
      · rw [if_pos ⟨rfl, hm, h2⟩]
        dsimp only
        have hno : ∀ x, zP (((none : Option Nat) = none ∧ z.1 < z.2 ∧ u z.1 = 1) ∧ (¬ ((lg_cmp x 0) < (0 : Int32)) ∧ (¬ ((0 : Int32) < (lg_cmp x 255))))) = 0 := fun x => zPf0 (fun q => h1 q.1.2.2)
        rw [hno]
        have hN := nm_eq hu (n := n) (p := z.1) (s := p) (en := z.2) (by omega)
        cases hR : tx_integer u z.1 z.2 with
        | inl w =>
          rw [hR] at hN
          have := int_inl hR hm
          subst this
          exact ((req_stk _ _).tr (fin_stk _ _)) z.1 hN
        | inr y =>
          rw [hR] at hN
          obtain ⟨_, g1, _⟩ := hN
          rw [g1]
          exact rfl
      · rw [if_neg (fun q => h2 q.2.2)]
        dsimp only
        rw [show rd_fin (z.1, p, none) z.2 = (z.1, p, some z.1) from if_pos hm]
        exact rfl
  · refine agr.neg hm ?_
    refine agr.pos (show z.2 ≤ z.1 by omega) ?_
    rw [if_neg (fun q => hm q.2.1), if_neg (fun q => hm q.2.1)]
    dsimp only
    refine agr.step (fin_q (u := u) (p := z.1) (s := p) (en := z.2)) (stk.rf _) (fun _ _ _ hq5 => ?_)
    rw [hq5.1, show z.1 = z.2 by omega, zPf0 (show ¬ ((none : Option Nat) = none ∧ z.2 < z.2 ∧ u z.2 = 1) from fun q => by omega)]
    exact ⟨rfl, ⟨p, rfl⟩, by show p + 2 ≤ z.2; omega, q4⟩
theorem zP_and (P Q : Prop) : zP P &&& zP Q = zP (P ∧ Q) := by
  by_cases hP : P
  · by_cases hQ : Q
    · rw [← zP_t hP, ← zP_t hQ, ← zP_t ⟨hP, hQ⟩]; rfl
    · rw [← zP_t hP, ← zP_f hQ, ← zP_f (fun q => hQ q.2)]; rfl
  · by_cases hQ : Q
    · rw [← zP_f hP, ← zP_t hQ, ← zP_f (fun q => hP q.1)]; rfl
    · rw [← zP_f hP, ← zP_f hQ, ← zP_f (fun q => hP q.1)]; rfl
theorem vis_loop {u : Nat → Nat} {b : Nat} : ∀ (f i : Nat) (P : Prop), b - i ≤ f → ∃ j, loopE (α := Nat × Int32) (fun s24 : Nat × Int32 => ((.inr ((s24.1 + 1), s24.2 &&& (zP (33 ≤ (u s24.1) ∧ (u s24.1) ≤ 126)))) : Nat ⊕ (Nat × Int32))) (fun s24 => ¬ (b ≤ s24.1)) f (i, zP P) = .inr (j, zP (P ∧ ∀ k, i ≤ k → k < b → 33 ≤ u k ∧ u k ≤ 126))
  | 0, i, P, h => ⟨i, by
    rw [zP_c (show (P ∧ ∀ k, i ≤ k → k < b → 33 ≤ u k ∧ u k ≤ 126) ↔ P from ⟨fun q => q.1, fun q => ⟨q, fun k h1 h2 => by omega⟩⟩)]
    rfl⟩
  | f + 1, i, P, h => by
    by_cases hi : b ≤ i
    · refine ⟨i, ?_⟩
      rw [zP_c (show (P ∧ ∀ k, i ≤ k → k < b → 33 ≤ u k ∧ u k ≤ 126) ↔ P from ⟨fun q => q.1, fun q => ⟨q, fun k h1 h2 => by omega⟩⟩)]
      exact if_neg (fun q => q hi)
    · obtain ⟨j, ih⟩ := vis_loop (u := u) (b := b) f (i + 1) (P ∧ (33 ≤ u i ∧ u i ≤ 126)) (by omega)
      refine ⟨j, (if_pos hi).trans ?_⟩
      rw [← zP_and] at ih
      refine Eq.trans ih ?_
      rw [zP_c]
      constructor
      · rintro ⟨⟨h1, h2⟩, h3⟩
        refine ⟨h1, fun k k1 k2 => ?_⟩
        by_cases hk : k = i
        · subst hk; exact h2
        · exact h3 k (by omega) k2
      · rintro ⟨h1, h2⟩
        exact ⟨⟨h1, h2 i (Nat.le_refl _) (by omega)⟩, fun k k1 k2 => h2 k (by omega) k2⟩
theorem vis_eq {u : Nat → Nat} {a b fp le : Nat} (hb : b ≤ 2048) : ((le ≤ b - a ∧ visN u a b) → tx_visible u a b fp le = .inr ()) ∧ (¬ (le ≤ b - a ∧ visN u a b) → tx_visible u a b fp le = .inl fp) := by
  have hl := vis_loop (u := u) (b := b)
  unfold tx_visible
  have hf : b - a ≤ 2048 := by omega
  generalize (2048 : Nat) = f9 at hf ⊢
  obtain ⟨j, e⟩ := hl f9 a (¬ ((b - a) < le)) hf
  have hv : visN u a b ↔ ∀ k, a ≤ k → k < b → 33 ≤ u k ∧ u k ≤ 126 := by
    constructor
    · intro h k k1 k2
      have := h (k - a) (by omega)
      rw [show a + (k - a) = k by omega] at this
      exact this
    · intro h j hj
      exact h (a + j) (by omega) (by omega)
  constructor
  · rintro ⟨h1, h2⟩
    refine (eb_ok e).trans (if_neg (zP_ne ⟨by omega, hv.mp h2⟩))
  · intro h
    refine (eb_ok e).trans (if_pos (zPf0 (fun q => h ⟨by omega, hv.mpr q.2⟩)))
/-- a loop of elements -/
theorem lpF_stk {σ : Type} {B : σ → σ} {st : σ → rS} {e : Nat} : ∀ (f : Nat) (s : σ) (w : Nat), (st s).2.2 = some w → (st (loopF B (fun s => mr (st s) e) f false s)).2.2 = some w
  | 0, s, w, h => h
  | f + 1, s, w, h => by
    have e1 : loopF B (fun s => mr (st s) e) (f + 1) false s = s := if_neg (fun q => q.elim (fun z => by cases z) (fun z => by rw [z.1] at h; cases h))
    rw [e1]
    exact h
theorem loop_q {σ τ : Type} {B : σ → σ} {st : σ → rS} {RB : τ → Nat ⊕ τ} {pos : τ → Nat} {e : Nat} {I : σ → τ → Prop} (hI : ∀ s t, I s t → (st s).2.2 = none ∧ (st s).1 = pos t ∧ pos t ≤ e) (hB : ∀ s t, I s t → pos t < e → agr (st (B s)) (RB t) (fun t' => I (B s) t' ∧ pos t < pos t')) : ∀ (f : Nat) (s : σ) (t : τ), I s t → e - pos t ≤ f → agr (st (loopF B (fun s => mr (st s) e) f false s)) (loopE RB (fun t => ¬ (e ≤ pos t)) f t) (fun t' => I (loopF B (fun s => mr (st s) e) f false s) t' ∧ pos t' = e)
  | 0, s, t, h, hf => ⟨(hI s t h).1, h, by have := (hI s t h).2.2; omega⟩
  | f + 1, s, t, h, hf => by
    have h0 := hI s t h
    by_cases hp : e ≤ pos t
    · have e1 : loopF B (fun s => mr (st s) e) (f + 1) false s = s := if_neg (fun q => q.elim (fun z => by cases z) (fun z => by have := z.2; omega))
      have e2 : loopE RB (fun t => ¬ (e ≤ pos t)) (f + 1) t = .inr t := if_neg (fun q => q hp)
      rw [e1, e2]
      exact ⟨h0.1, h, by omega⟩
    · have e1 : loopF B (fun s => mr (st s) e) (f + 1) false s = loopF B (fun s => mr (st s) e) f false (B s) := if_pos (Or.inr ⟨h0.1, by omega⟩)
      have e2 : loopE RB (fun t => ¬ (e ≤ pos t)) (f + 1) t = eb (RB t) (loopE RB (fun t => ¬ (e ≤ pos t)) f) := if_pos hp
      rw [e1, e2]
      exact agr.step (hB s t h (by omega)) (fun w hw => lpF_stk f (B s) w hw) (fun t' _ _ hq => loop_q hI hB f (B s) t' hq.1 (by have := hq.2; omega))
theorem loopF_t {σ : Type} {B : σ → σ} {M : σ → Prop} {f : Nat} {s : σ} (h : M s) : loopF B M (f + 1) true s = loopF B M (f + 1) false s := (if_pos (Or.inl rfl)).trans (if_pos (Or.inr h)).symm
/-! General names. -/
theorem plain_q {u : Nat → Nat} {n p s tg le en : Nat} (he : en ≤ n) : agr (rd_plain u n (p, s, none) tg le en).1 (eb (tx_element u p tg en) (fun z => @ite _ (le ≤ z.2 - z.1) (Classical.propDecidable _) (.inr z) (.inl p))) (fun z => rd_plain u n (p, s, none) tg le en = ((z.2, p, none), z.1, z.2) ∧ tx_element u p tg en = .inr z ∧ le ≤ z.2 - z.1 ∧ p + 2 ≤ z.1 ∧ z.1 ≤ z.2 ∧ z.2 ≤ en) := by
  unfold rd_plain
  dsimp only
  refine agr.step (el_q he) (lea_stk _ _ _) (fun z hz hn hq => ?_)
  obtain ⟨q1, q2, q3, q4, q5⟩ := hq
  rw [q1]
  dsimp only
  by_cases hb : le ≤ z.2 - z.1
  · rw [if_pos hb, lea_ok (zI_ne hb)]
    exact ⟨rfl, rfl, hz, hb, q2, q3, q4⟩
  · rw [if_neg hb, lea_no (zI_0 hb)]
    exact rfl
theorem plain_stk (u : Nat → Nat) (n : Nat) (x : rS) (tg le en : Nat) : stk x (rd_plain u n x tg le en).1 := (opn_stk u n x tg en).tr (lea_stk _ _ _)
/-- an element with at least le octets of which more is asked -/
theorem plr {u : Nat → Nat} {n p s tg le en : Nat} (he : en ≤ n) {C : Nat × Nat → Prop} : (∀ w, tx_element u p tg en = .inl w → (rd_req (rd_plain u n (p, s, none) tg le en).1 (zP (C (rd_plain u n (p, s, none) tg le en).2))).2.2 = some w) ∧ (∀ z, tx_element u p tg en = .inr z → (¬ (le ≤ z.2 - z.1 ∧ C z) → (rd_req (rd_plain u n (p, s, none) tg le en).1 (zP (C (rd_plain u n (p, s, none) tg le en).2))).2.2 = some p) ∧ ((le ≤ z.2 - z.1 ∧ C z) → rd_plain u n (p, s, none) tg le en = ((z.2, p, none), z.1, z.2) ∧ rd_req (rd_plain u n (p, s, none) tg le en).1 (zP (C (rd_plain u n (p, s, none) tg le en).2)) = (z.2, p, none)) ∧ p + 2 ≤ z.1 ∧ z.1 ≤ z.2 ∧ z.2 ≤ en) := by
  have h := plain_q (u := u) (n := n) (p := p) (s := s) (tg := tg) (le := le) (en := en) he
  refine ⟨fun w hw => ?_, fun z hz => ?_⟩
  · rw [hw] at h
    exact req_stk _ _ w h
  · rw [hz] at h
    have f := el_facts hz
    have h : agr _ (@ite _ (le ≤ z.2 - z.1) (Classical.propDecidable _) (.inr z) (.inl p)) _ := h
    refine ⟨fun hb => ?_, fun hb => ?_, f.1, f.2.1, f.2.2.1⟩
    · by_cases hl : le ≤ z.2 - z.1
      · rw [if_pos hl] at h
        obtain ⟨_, h1, _⟩ := h
        rw [h1]
        rw [req_no (zP_f (fun q => hb ⟨hl, q⟩)).symm]
      · rw [if_neg hl] at h
        exact req_stk _ _ p h
    · rw [if_pos hb.1] at h
      obtain ⟨_, h1, _⟩ := h
      refine ⟨h1, ?_⟩
      rw [h1]
      exact req_ok (zP_ne hb.2)
