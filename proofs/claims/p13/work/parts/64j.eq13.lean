/-! The class' readers and the reference's: whole lists. -/
theorem hdL_stk (u : Nat → Nat) (n : Nat) (x : rS) (en : Nat) : stk x (rd_hdL u n x en).1 := by
  unfold rd_hdL
  dsimp only
  exact ((nm_stk u n _ 2 _).tr ((req_stk _ _).tr ((alg_stk u n _ 11 _).tr ((fnm_stk u n _ _).tr ((time_stk u n _ _).tr (time_stk u n _ _))))))
noncomputable def tx_hl {β : Type} (u : Nat → Nat) (p en : Nat) (F : Nat → Nat × Nat → Nat × Int64 → Nat × Int64 → Nat ⊕ β) : Nat ⊕ β := (eb (tx_number u p en (1 : Int32) (1 : Int32)) (fun z4 => (eb (tx_algorithm u z4.2 en kz1.2.2.2) (fun z15 => (eb (tx_issuer u z15 en) (fun z23 => (eb (tx_time u z23.1 en) (fun z31 => (eb (tx_time u z31.1 en) (fun z49 => F z15 z23 z31 z49))))))))))
theorem tx_hl_eb {β γ : Type} (u : Nat → Nat) (p en : Nat) (F : Nat → Nat × Nat → Nat × Int64 → Nat × Int64 → Nat ⊕ β) (g : β → Nat ⊕ γ) : eb (tx_hl u p en F) g = tx_hl u p en (fun a b c d => eb (F a b c d) g) := by
  unfold tx_hl
  simp only [eb_as]
theorem hdL_q {β : Type} {u : Nat → Nat} (hu : ∀ j, u j < 256) {n p s en : Nat} (he : en ≤ n) (hn : n ≤ 2048) {y : rS} {P : β → Prop} {F : Nat → Nat × Nat → Nat × Int64 → Nat × Int64 → Nat ⊕ β} (hs : stk (rd_hdL u n (p, s, none) en).1 y) (hk : ∀ z15 z23 z31 z49 s' i1 k, rd_hdL u n (p, s, none) en = ((z49.1, s', none), i1, z23.2, k, z31.2, z49.2) → p + 2 ≤ z49.1 → z49.1 ≤ en → agr y (F z15 z23 z31 z49) P) : agr y (tx_hl u p en F) P := by
  unfold tx_hl
  unfold rd_hdL at hs hk
  dsimp only at hs hk
  refine agr.step (numr_q hu (n := n) (p := p) (s := s) (en := en) he (lo := 1) (hi := 1) (by omega) (by omega) (P := fun x => (lg_cmp x 1) = (0 : Int32)) (fun x => i2c 1 1 (by decide) x)) (((alg_stk u n _ 11 _).tr ((fnm_stk u n _ _).tr ((time_stk u n _ _).tr (time_stk u n _ _)))).tr hs) (fun z4 hz4 hn2 hq2 => ?_)
  obtain ⟨y2, b1, b2, b3, b4, b5, b6⟩ := hq2
  subst b3
  rw [b1] at hs hk
  dsimp only at hs hk
  rw [req_ok (zP_ne b2)] at hs hk
  refine agr.step (alg_q hu (n := n) (p := y2.2) (s := p) (en := en) algH11 he hn) (((fnm_stk u n _ _).tr ((time_stk u n _ _).tr (time_stk u n _ _))).tr hs) (fun z15 hz5 hn5 hq5 => ?_)
  obtain ⟨s5, d1, d2, d3⟩ := hq5
  rw [d1] at hs hk
  refine agr.step (fnm_q hu (n := n) (p := z15) (s := s5) (en := en) he hn) (((time_stk u n _ _).tr (time_stk u n _ _)).tr hs) (fun z23 hz6 hn6 hq6 => ?_)
  obtain ⟨s6, i1, k6, f1, f2, f3, f4, f5⟩ := hq6
  rw [f1] at hs hk
  dsimp only at hs hk
  rw [f2]
  refine agr.step (time_q hu (n := n) (p := z23.2) (s := s6) (en := en) he) ((time_stk u n _ _).tr hs) (fun z31 hz8 hn8 hq8 => ?_)
  obtain ⟨h1, h2, h3, hv8⟩ := hq8
  rw [h1] at hs hk
  refine agr.step (time_q hu (n := n) (p := z31.1) (s := z23.2) (en := en) he) hs (fun z49 hz9 hn9 hq9 => ?_)
  obtain ⟨j1, j2, j3, hv9⟩ := hq9
  rw [j1] at hk
  exact hk z15 z23 z31 z49 z31.1 i1 k6 (by rw [hv8, hv9]) (by omega) j3
noncomputable def lsT (u : Nat → Nat) (n : Nat) (ie : Int32) (y : rS) (E : Nat) (ma ex : Int32) : rS := @ite _ (y.2.2 = none ∧ y.1 < E ∧ u y.1 = 160) (Classical.propDecidable _) (rd_fin (rd_fin (rd_extL u n ie (rd_opn u n y 160 E).1 (rd_opn u n y 160 E).2 ma ex).1 (rd_opn u n y 160 E).2) E) (rd_fin y E)
theorem lsT_stk {u : Nat → Nat} {n : Nat} {ie : Int32} (hi : ie = 0 ∨ ie = 1) {y : rS} {E : Nat} {ma ex : Int32} : stk y (lsT u n ie y E ma ex) := by
  unfold lsT
  split
  · exact (opn_stk u n y 160 E).tr ((extL_stk u n ie hi _ _ _ _).tr ((fin_stk _ _).tr (fin_stk _ _)))
  · exact fin_stk _ _
theorem zP_01 (P : Prop) : zP P = 0 ∨ zP P = 1 := by
  by_cases h : P
  · exact Or.inr (zP_t h).symm
  · exact Or.inl (zP_f h).symm
theorem ents_ie (u : Nat → Nat) (n e : Nat) (x : rS) (ie ma ex : Int32) (hi : ie = 0 ∨ ie = 1) (De D7 : List (Nat × Nat)) : (rd_ents u n e x ie ma ex De D7).2.1 = 0 ∨ (rd_ents u n e x ie ma ex De D7).2.1 = 1 := by
  have h : ∀ (f : Nat) (s : rS × Int32 × Int32 × Int32 × (List (Nat × Nat)) × (List (Nat × Nat))), (s.2.1 = 0 ∨ s.2.1 = 1) → ((loopF (rb_ent u n e) (fun s9 => ¬ s9.2.1 = 0) f false s).2.1 = 0 ∨ (loopF (rb_ent u n e) (fun s9 => ¬ s9.2.1 = 0) f false s).2.1 = 1) := by
    intro f
    induction f with
    | zero => intro s h; exact h
    | succ f ih =>
      intro s h
      by_cases hm : ¬ s.2.1 = 0
      · rw [show loopF (rb_ent u n e) (fun s9 => ¬ s9.2.1 = 0) (f + 1) false s = loopF (rb_ent u n e) (fun s9 => ¬ s9.2.1 = 0) f false (rb_ent u n e s) from if_pos (Or.inr hm)]
        exact ih _ (by rw [ent_2]; exact zP_01 _)
      · rw [show loopF (rb_ent u n e) (fun s9 => ¬ s9.2.1 = 0) (f + 1) false s = s from if_neg (fun q => q.elim (fun z => by cases z) hm)]
        exact h
  unfold rd_ents
  generalize (2048 : Nat) = f9
  exact h f9 _ hi
noncomputable def lsM (u : Nat → Nat) (n : Nat) (y : rS) (E : Nat) (ma ex : Int32) (De D7 : List (Nat × Nat)) : rS := @ite _ (y.2.2 = none ∧ y.1 < E ∧ u y.1 = 48) (Classical.propDecidable _) (lsT u n (rd_ents u n (rd_opn u n y 48 E).2 (rd_opn u n y 48 E).1 (zP (y.2.2 = none ∧ y.1 < E ∧ u y.1 = 48)) ma ex De D7).2.1 (rd_ents u n (rd_opn u n y 48 E).2 (rd_opn u n y 48 E).1 (zP (y.2.2 = none ∧ y.1 < E ∧ u y.1 = 48)) ma ex De D7).1 E (rd_ents u n (rd_opn u n y 48 E).2 (rd_opn u n y 48 E).1 (zP (y.2.2 = none ∧ y.1 < E ∧ u y.1 = 48)) ma ex De D7).2.2.1 (rd_ents u n (rd_opn u n y 48 E).2 (rd_opn u n y 48 E).1 (zP (y.2.2 = none ∧ y.1 < E ∧ u y.1 = 48)) ma ex De D7).2.2.2.1) (lsT u n (zP (y.2.2 = none ∧ y.1 < E ∧ u y.1 = 48)) y E ma ex)
theorem lsM_stk {u : Nat → Nat} {n : Nat} {y : rS} {E : Nat} {ma ex : Int32} {De D7 : List (Nat × Nat)} : stk y (lsM u n y E ma ex De D7) := by
  unfold lsM
  split
  · exact (opn_stk u n y 48 E).tr ((ents_stk u n _ _ _ _ _ (zP_01 _) _ _).tr (lsT_stk (ents_ie u n _ _ _ _ _ (zP_01 _) _ _)))
  · exact lsT_stk (zP_01 _)
theorem lst_1 (u : Nat → Nat) (n : Nat) (x : rS) (ie ma ex : Int32) (De D7 : List (Nat × Nat)) : (rd_lst u n x ie ma ex De D7).1 = (let z8 := rd_opn u n x 48 n; let z21 := rd_opn u n z8.1 48 z8.2; rd_sig u n (lsM u n (rd_hdL u n z21.1 z21.2).1 z21.2 ma ex De D7) z8.2) := by
  unfold rd_lst lsM lsT
  dsimp only
  generalize rd_hdL u n (rd_opn u n (rd_opn u n x 48 n).1 48 (rd_opn u n x 48 n).2).1 (rd_opn u n (rd_opn u n x 48 n).1 48 (rd_opn u n x 48 n).2).2 = H
  by_cases c : H.1.2.2 = none ∧ H.1.1 < (rd_opn u n (rd_opn u n x 48 n).1 48 (rd_opn u n x 48 n).2).2 ∧ u H.1.1 = 48
  · rw [if_pos c, if_pos c]
    generalize rd_ents u n (rd_opn u n H.1 48 (rd_opn u n (rd_opn u n x 48 n).1 48 (rd_opn u n x 48 n).2).2).2 (rd_opn u n H.1 48 (rd_opn u n (rd_opn u n x 48 n).1 48 (rd_opn u n x 48 n).2).2).1 (zP (H.1.2.2 = none ∧ H.1.1 < (rd_opn u n (rd_opn u n x 48 n).1 48 (rd_opn u n x 48 n).2).2 ∧ u H.1.1 = 48)) ma ex De D7 = Z
    by_cases d : Z.1.2.2 = none ∧ Z.1.1 < (rd_opn u n (rd_opn u n x 48 n).1 48 (rd_opn u n x 48 n).2).2 ∧ u Z.1.1 = 160
    · rw [if_pos d, if_pos d]
    · rw [if_neg d, if_neg d]
  · rw [if_neg c, if_neg c]
    by_cases d : H.1.2.2 = none ∧ H.1.1 < (rd_opn u n (rd_opn u n x 48 n).1 48 (rd_opn u n x 48 n).2).2 ∧ u H.1.1 = 160
    · rw [if_pos d, if_pos d]
    · rw [if_neg d, if_neg d]
def lV (C : rS × (Nat × Nat) × (Nat × Nat) × (Nat × Nat) × Int32 × Int64 × Int64 × (List (Nat × Nat)) × (List (Nat × Nat)) × Int32 × Int32 × Int32) (z : Nat × Nat × Int64 × Int64 × Int32 × Int32 × Int32 × Int32 × Int32 × Int32 × Int32 × Int32 × Nat × Nat × Nat × Nat × List (Nat × Nat)) : Prop := C.2.2.1 = (z.2.2.2.2.2.2.2.2.2.2.2.2.1, z.2.2.2.2.2.2.2.2.2.2.2.2.2.1) ∧ C.2.2.2.1 = (z.2.2.2.2.2.2.2.2.2.2.2.2.2.2.1, z.2.2.2.2.2.2.2.2.2.2.2.2.2.2.2.1) ∧ C.2.2.2.2.1 = z.2.2.2.2.1 ∧ C.2.2.2.2.2.2.2.1 = z.2.2.2.2.2.2.2.2.2.2.2.2.2.2.2.2 ∧ C.2.2.2.2.2.1 = z.2.2.1 ∧ C.2.2.2.2.2.2.1 = z.2.2.2.1
theorem lst_v (u : Nat → Nat) (n : Nat) (x : rS) (ie ma ex : Int32) (De D7 : List (Nat × Nat)) {o8 o21 : rS × Nat} {H : rS × Nat × Nat × Nat × Int64 × Int64} (h1 : rd_opn u n x 48 n = o8) (h2 : rd_opn u n o8.1 48 o8.2 = o21) (h3 : rd_hdL u n o21.1 o21.2 = H) : ((H.1.2.2 = none ∧ H.1.1 < o21.2 ∧ u H.1.1 = 48) → ∀ Z, rd_ents u n (rd_opn u n H.1 48 o21.2).2 (rd_opn u n H.1 48 o21.2).1 (zP (H.1.2.2 = none ∧ H.1.1 < o21.2 ∧ u H.1.1 = 48)) ma ex De D7 = Z → (rd_lst u n x ie ma ex De D7).2.2.1 = (o8.1.1, o21.2) ∧ (rd_lst u n x ie ma ex De D7).2.2.2.2.2.2.2.1 = Z.2.2.2.2.1 ∧ (∀ y, lsT u n Z.2.1 Z.1 o21.2 Z.2.2.1 Z.2.2.2.1 = y → (rd_lst u n x ie ma ex De D7).2.2.2.1 = ((rd_bits u n (rd_alg u n y 11 o8.2) o8.2).1.1, (rd_bits u n (rd_alg u n y 11 o8.2) o8.2).2)) ∧ ((Z.1.2.2 = none ∧ Z.1.1 < o21.2 ∧ u Z.1.1 = 160) → (rd_lst u n x ie ma ex De D7).2.2.2.2.1 = (rd_extL u n Z.2.1 (rd_opn u n Z.1 160 o21.2).1 (rd_opn u n Z.1 160 o21.2).2 Z.2.2.1 Z.2.2.2.1).2.1) ∧ (¬ (Z.1.2.2 = none ∧ Z.1.1 < o21.2 ∧ u Z.1.1 = 160) → (rd_lst u n x ie ma ex De D7).2.2.2.2.1 = Z.2.2.1)) ∧ (¬ (H.1.2.2 = none ∧ H.1.1 < o21.2 ∧ u H.1.1 = 48) → (rd_lst u n x ie ma ex De D7).2.2.1 = (o8.1.1, o21.2) ∧ (rd_lst u n x ie ma ex De D7).2.2.2.2.2.2.2.1 = De ∧ (∀ y, lsT u n (zP (H.1.2.2 = none ∧ H.1.1 < o21.2 ∧ u H.1.1 = 48)) H.1 o21.2 ma ex = y → (rd_lst u n x ie ma ex De D7).2.2.2.1 = ((rd_bits u n (rd_alg u n y 11 o8.2) o8.2).1.1, (rd_bits u n (rd_alg u n y 11 o8.2) o8.2).2)) ∧ ((H.1.2.2 = none ∧ H.1.1 < o21.2 ∧ u H.1.1 = 160) → (rd_lst u n x ie ma ex De D7).2.2.2.2.1 = (rd_extL u n (zP (H.1.2.2 = none ∧ H.1.1 < o21.2 ∧ u H.1.1 = 48)) (rd_opn u n H.1 160 o21.2).1 (rd_opn u n H.1 160 o21.2).2 ma ex).2.1) ∧ (¬ (H.1.2.2 = none ∧ H.1.1 < o21.2 ∧ u H.1.1 = 160) → (rd_lst u n x ie ma ex De D7).2.2.2.2.1 = ma)) := by
  subst h1 h2 h3
  unfold rd_lst lsT
  dsimp only
  generalize rd_hdL u n (rd_opn u n (rd_opn u n x 48 n).1 48 (rd_opn u n x 48 n).2).1 (rd_opn u n (rd_opn u n x 48 n).1 48 (rd_opn u n x 48 n).2).2 = H
  generalize rd_opn u n (rd_opn u n x 48 n).1 48 (rd_opn u n x 48 n).2 = o21
  generalize rd_opn u n x 48 n = o8
  constructor
  · intro c Z hZ
    rw [if_pos c, hZ]
    by_cases d : Z.1.2.2 = none ∧ Z.1.1 < o21.2 ∧ u Z.1.1 = 160
    · rw [if_pos d, if_pos d]
      exact ⟨rfl, rfl, fun y hy => by subst hy; rfl, fun _ => rfl, fun q => absurd d q⟩
    · rw [if_neg d, if_neg d]
      exact ⟨rfl, rfl, fun y hy => by subst hy; rfl, fun q => absurd q d, fun _ => rfl⟩
  · intro c
    rw [if_neg c]
    by_cases d : H.1.2.2 = none ∧ H.1.1 < o21.2 ∧ u H.1.1 = 160
    · rw [if_pos d, if_pos d]
      exact ⟨rfl, rfl, fun y hy => by subst hy; rfl, fun _ => rfl, fun q => absurd d q⟩
    · rw [if_neg d, if_neg d]
      exact ⟨rfl, rfl, fun y hy => by subst hy; rfl, fun q => absurd q d, fun _ => rfl⟩
theorem lst_tm (u : Nat → Nat) (n : Nat) (x : rS) (ie ma ex : Int32) (De D7 : List (Nat × Nat)) {o8 o21 : rS × Nat} {H : rS × Nat × Nat × Nat × Int64 × Int64} (h1 : rd_opn u n x 48 n = o8) (h2 : rd_opn u n o8.1 48 o8.2 = o21) (h3 : rd_hdL u n o21.1 o21.2 = H) : (rd_lst u n x ie ma ex De D7).2.2.2.2.2.1 = H.2.2.2.2.1 ∧ (rd_lst u n x ie ma ex De D7).2.2.2.2.2.2.1 = H.2.2.2.2.2 := by
  subst h1 h2 h3
  unfold rd_lst
  dsimp only
  split
  · split <;> exact ⟨rfl, rfl⟩
  · split <;> exact ⟨rfl, rfl⟩
theorem lst_q {u : Nat → Nat} (hu : ∀ j, u j < 256) {n s : Nat} {ie f1 f2 : Int32} {D7 : List (Nat × Nat)} {ex : Int32} (hn : n ≤ 2048) : agr (rd_lst u n (0, s, none) ie 0 ex [] D7).1 (tx_readL u n f1 f2) (fun z => (∃ s', (rd_lst u n (0, s, none) ie 0 ex [] D7).1 = (n, s', none)) ∧ lV (rd_lst u n (0, s, none) ie 0 ex [] D7) z) := by
  have e1 := lst_1 u n (0, s, none) ie 0 ex [] D7
  have eP := fun o8 o21 H => lst_v u n (0, s, none) ie 0 ex [] D7 (o8 := o8) (o21 := o21) (H := H)
  have eT := fun o8 o21 H => lst_tm u n (0, s, none) ie 0 ex [] D7 (o8 := o8) (o21 := o21) (H := H)
  generalize rd_lst u n (0, s, none) ie 0 ex [] D7 = C at e1 eP eT ⊢
  have e9 : tx_readL u n f1 f2 = (eb (tx_element u 0 48 n) (fun z77 => (eb (tx_element u z77.1 48 z77.2) (fun z102 => (eb (tx_hl u z102.1 z102.2 (fun z15 z23 z31 z49 => (eb ((@ite _ (z49.1 < z102.2) (Classical.propDecidable _) (@ite _ ((u z49.1) = 48) (Classical.propDecidable _) (eb (tx_element u z49.1 48 z102.2) (fun z79 => (@ite _ (z79.1 = z79.2) (Classical.propDecidable _) (.inl z79.2) (eb (loopE (α := Nat × Int32 × List (Nat × Nat) × List (Nat × Nat) × List (Nat × Nat) × List (Nat × Nat × Nat) × Int32 × Int32 × Int32 × Int32 × Int32 × Int32 × Int32) (enB u z79.2) (fun s114 => ¬ (z79.2 ≤ s114.1)) 2048 (z79.1, 0, [], [], [], [], 0, (-1), (-1), (-1), f1, (-1), f2)) (fun s114 => (.inr (s114.1, s114.2.1, s114.2.2.1, s114.2.2.2.1, s114.2.2.2.2.1, s114.2.2.2.2.2.1, s114.2.2.2.2.2.2.1, s114.2.2.2.2.2.2.2.1, s114.2.2.2.2.2.2.2.2.1, s114.2.2.2.2.2.2.2.2.2.1, s114.2.2.2.2.2.2.2.2.2.2.1, s114.2.2.2.2.2.2.2.2.2.2.2.1, s114.2.2.2.2.2.2.2.2.2.2.2.2))))))) (.inr (z49.1, 0, [], [], [], [], 0, (-1), (-1), (-1), f1, (-1), f2))) (.inr (z49.1, 0, [], [], [], [], 0, (-1), (-1), (-1), f1, (-1), f2))) : Nat ⊕ (Nat × Int32 × List (Nat × Nat) × List (Nat × Nat) × List (Nat × Nat) × List (Nat × Nat × Nat) × Int32 × Int32 × Int32 × Int32 × Int32 × Int32 × Int32)) (fun s65 => (@ite _ (s65.1 = z102.2) (Classical.propDecidable _) (.inr (s65.1, z15, z23.2, z31.2, z49.2, s65.2.1, s65.2.2.2.2.2.2.1, s65.2.2.2.2.2.2.2.1, s65.2.2.2.2.2.2.2.2.1, s65.2.2.2.2.2.2.2.2.2.1, s65.2.2.2.2.2.2.2.2.2.2.1, s65.2.2.2.2.2.2.2.2.2.2.2.1, s65.2.2.2.2.2.2.2.2.2.2.2.2, s65.2.2.2.1, s65.2.2.2.2.1, s65.2.2.2.2.2.1, s65.2.2.1)) (eb (tx_element u s65.1 160 z102.2) (fun z243 => (eb (tx_extensions u z243.1 z243.2 1 s65.2.2.2.1 s65.2.2.2.2.1 s65.2.2.2.2.2.1 s65.2.1 s65.2.2.2.2.2.2.1 s65.2.2.2.2.2.2.2.1 s65.2.2.2.2.2.2.2.2.1 s65.2.2.2.2.2.2.2.2.2.1 s65.2.2.2.2.2.2.2.2.2.2.1 s65.2.2.2.2.2.2.2.2.2.2.2.1 s65.2.2.2.2.2.2.2.2.2.2.2.2) (fun z267 => (eb (tx_done u z267.1 z243.2) (fun z275 => (.inr (z243.2, z15, z23.2, z31.2, z49.2, z267.2.1, z267.2.2.1, z267.2.2.2.1, z267.2.2.2.2.1, z267.2.2.2.2.2.1, z267.2.2.2.2.2.2.1, z267.2.2.2.2.2.2.2.1, z267.2.2.2.2.2.2.2.2.1, z267.2.2.2.2.2.2.2.2.2.1, z267.2.2.2.2.2.2.2.2.2.2.1, z267.2.2.2.2.2.2.2.2.2.2.2.1, s65.2.2.1))))))))))))) (fun z143 => (eb (tx_done u z143.1 z102.2) (fun z168 => (tx_sg u z102.2 z77.2 n (fun z189 => .inr (z143.2.1, z143.2.2.1, z143.2.2.2.1, z143.2.2.2.2.1, z143.2.2.2.2.2.1, z143.2.2.2.2.2.2.1, z143.2.2.2.2.2.2.2.1, z143.2.2.2.2.2.2.2.2.1, z143.2.2.2.2.2.2.2.2.2.1, z143.2.2.2.2.2.2.2.2.2.2.1, z143.2.2.2.2.2.2.2.2.2.2.2.1, z143.2.2.2.2.2.2.2.2.2.2.2.2.1, z77.1, z102.2, z189.1, z189.2, z143.2.2.2.2.2.2.2.2.2.2.2.2.2.2.2.2))))))))))) := rfl
  rw [e9, e1]
  dsimp only
  refine agr.step (el_q (u := u) (n := n) (p := 0) (s := s) (tg := 48) (en := n) (Nat.le_refl _)) ((opn_stk u n _ 48 _).tr ((hdL_stk u n _ _).tr (lsM_stk.tr (sig_stk u n _ _)))) (fun z77 hz77 hn1 hq1 => ?_)
  obtain ⟨a1, a2, a3, a4, a5⟩ := hq1
  rw [a1]
  dsimp only
  refine agr.step (el_q (u := u) (n := n) (p := z77.1) (s := 0) (tg := 48) (en := z77.2) (by omega)) ((hdL_stk u n _ _).tr (lsM_stk.tr (sig_stk u n _ _))) (fun z102 hz102 hn2 hq2 => ?_)
  obtain ⟨b1, b2, b3, b4, b5⟩ := hq2
  rw [b1]
  dsimp only
  rw [tx_hl_eb]
  refine hdL_q hu (n := n) (p := z102.1) (s := z77.1) (en := z102.2) (by omega) hn (lsM_stk.tr (sig_stk u n _ _)) (fun z15 z23 z31 z49 s3 i1 k hH g1 g2 => ?_)
  have eH := eP _ _ _ a1 b1 hH
  have eT9 := eT _ _ _ a1 b1 hH
  dsimp only at eT9
  rw [congrArg (fun h => h.1) hH]
  dsimp only at eH ⊢
  rw [eb_as]
  by_cases h48 : z49.1 < z102.2 ∧ u z49.1 = 48
  · have c48 : ((none : Option Nat) = none ∧ z49.1 < z102.2 ∧ u z49.1 = 48) := ⟨rfl, h48⟩
    have eM : lsM u n (z49.1, s3, none) z102.2 0 ex [] D7 = lsT u n (rd_ents u n (rd_opn u n (z49.1, s3, none) 48 z102.2).2 (rd_opn u n (z49.1, s3, none) 48 z102.2).1 (zP ((none : Option Nat) = none ∧ z49.1 < z102.2 ∧ u z49.1 = 48)) 0 ex [] D7).2.1 (rd_ents u n (rd_opn u n (z49.1, s3, none) 48 z102.2).2 (rd_opn u n (z49.1, s3, none) 48 z102.2).1 (zP ((none : Option Nat) = none ∧ z49.1 < z102.2 ∧ u z49.1 = 48)) 0 ex [] D7).1 z102.2 (rd_ents u n (rd_opn u n (z49.1, s3, none) 48 z102.2).2 (rd_opn u n (z49.1, s3, none) 48 z102.2).1 (zP ((none : Option Nat) = none ∧ z49.1 < z102.2 ∧ u z49.1 = 48)) 0 ex [] D7).2.2.1 (rd_ents u n (rd_opn u n (z49.1, s3, none) 48 z102.2).2 (rd_opn u n (z49.1, s3, none) 48 z102.2).1 (zP ((none : Option Nat) = none ∧ z49.1 < z102.2 ∧ u z49.1 = 48)) 0 ex [] D7).2.2.2.1 := if_pos c48
    have eV := eH.1 c48
    have z1 : zP ((none : Option Nat) = none ∧ z49.1 < z102.2 ∧ u z49.1 = 48) = 1 := (zP_t c48).symm
    rw [eM]
    rw [z1] at eV ⊢
    rw [if_pos h48.1, if_pos h48.2, eb_as]
    refine agr.step (el_q (u := u) (n := n) (p := z49.1) (s := s3) (tg := 48) (en := z102.2) (by omega)) ((ents_stk u n _ _ _ _ _ (Or.inr rfl) _ _).tr ((lsT_stk (ents_ie u n _ _ _ _ _ (Or.inr rfl) _ _)).tr (sig_stk u n _ _))) (fun z79 hz3 hn3 hq3 => ?_)
    obtain ⟨c1, c2, c3, c4, c5⟩ := hq3
    rw [c1] at eV ⊢
    dsimp only at eV ⊢
    have hEn := ents_q hu (n := n) (e := z79.2) (p := z79.1) (s := z49.1) (ma := 0) (ex := ex) (De := []) (D7 := D7) (dns := []) (dirs := []) (T := []) (c1 := 0) (c2 := -1) (c3 := -1) (c4 := -1) (c5 := f1) (c6 := -1) (c7 := f2) (by omega) hn c3
    have hie := ents_ie u n z79.2 (z79.1, z49.1, none) 1 0 ex (Or.inr rfl) [] D7
    generalize rd_ents u n z79.2 (z79.1, z49.1, none) 1 0 ex [] D7 = Z at eV hEn hie ⊢
    have eV := eV Z rfl
    have eL : ∀ {γ : Type} (L : Nat ⊕ (Nat × Int32 × List (Nat × Nat) × List (Nat × Nat) × List (Nat × Nat) × List (Nat × Nat × Nat) × Int32 × Int32 × Int32 × Int32 × Int32 × Int32 × Int32)) (G : (Nat × Int32 × List (Nat × Nat) × List (Nat × Nat) × List (Nat × Nat) × List (Nat × Nat × Nat) × Int32 × Int32 × Int32 × Int32 × Int32 × Int32 × Int32) → Nat ⊕ γ), eb (@ite _ (z79.1 = z79.2) (Classical.propDecidable _) (.inl z79.2) (eb L (fun s114 => (.inr (s114.1, s114.2.1, s114.2.2.1, s114.2.2.2.1, s114.2.2.2.2.1, s114.2.2.2.2.2.1, s114.2.2.2.2.2.2.1, s114.2.2.2.2.2.2.2.1, s114.2.2.2.2.2.2.2.2.1, s114.2.2.2.2.2.2.2.2.2.1, s114.2.2.2.2.2.2.2.2.2.2.1, s114.2.2.2.2.2.2.2.2.2.2.2.1, s114.2.2.2.2.2.2.2.2.2.2.2.2))))) G = eb (@ite _ (z79.1 = z79.2) (Classical.propDecidable _) (.inl z79.2) L) G := fun L G => by
      by_cases hc : z79.1 = z79.2
      · rw [if_pos hc, if_pos hc]
      · rw [if_neg hc, if_neg hc]
        cases L <;> rfl
    rw [eL]
    refine agr.step hEn ((lsT_stk hie).tr (sig_stk u n _ _)) (fun t ht hn4 hq4 => ?_)
    obtain ⟨⟨⟨s6, d1⟩, d2, d3, d4, d5⟩, d6⟩ := hq4
    rw [d6] at d1 d3
    rw [zPf0 (Nat.lt_irrefl _)] at d3
    rw [d1, d3, d4] at eV ⊢
    rw [d6]
    rw [eb_ite]
    by_cases hend : z79.2 = z102.2
    · rw [if_pos hend]
      refine agr.ok rfl ?_
      have hno : ¬ (((z79.2, s6, none) : rS).2.2 = none ∧ ((z79.2, s6, none) : rS).1 < z102.2 ∧ u ((z79.2, s6, none) : rS).1 = 160) := fun q => by have : z79.2 < z102.2 := q.2.1; omega
      have ecr : lsT u n 0 (z79.2, s6, none) z102.2 t.2.1 Z.2.2.2.1 = rd_fin (z79.2, s6, none) z102.2 := if_neg hno
      rw [ecr]
      refine agr.step (fin_q (u := u) (p := z79.2) (s := s6) (en := z102.2)) (sig_stk u n _ _) (fun _ _ _ hq5 => ?_)
      rw [hq5.1] at ecr ⊢
      rw [hend] at ecr ⊢
      refine sig_q hu (n := n) (p := z102.2) (s := s6) (en := z77.2) (by omega) hn (stk.rf _) (fun z189 s5 m1 m2 m3 m4 m5 => ?_)
      have v3 := eV.2.2.1 _ rfl
      rw [show lsT u n 0 (z79.2, s6, none) z102.2 t.2.1 Z.2.2.2.1 = (z102.2, s6, none) by rw [hend]; exact ecr] at v3
      rw [m2, m3] at v3
      rw [m1]
      exact ⟨rfl, ⟨s5, rfl⟩, eV.1, v3, eV.2.2.2.2 hno, eV.2.1.trans d5, eT9.1, eT9.2⟩
    · rw [if_neg hend]
      have hlt : z79.2 < z102.2 := by omega
      rw [eb_as]
      by_cases h160 : u z79.2 = 160
      · have hyes : (((z79.2, s6, none) : rS).2.2 = none ∧ ((z79.2, s6, none) : rS).1 < z102.2 ∧ u ((z79.2, s6, none) : rS).1 = 160) := ⟨rfl, hlt, h160⟩
        have ecr : lsT u n 0 (z79.2, s6, none) z102.2 t.2.1 Z.2.2.2.1 = rd_fin (rd_fin (rd_extL u n 0 (rd_opn u n (z79.2, s6, none) 160 z102.2).1 (rd_opn u n (z79.2, s6, none) 160 z102.2).2 t.2.1 Z.2.2.2.1).1 (rd_opn u n (z79.2, s6, none) 160 z102.2).2) z102.2 := if_pos hyes
        have v4 := eV.2.2.2.1 hyes
        have v3 := eV.2.2.1 _ rfl
        rw [ecr] at v3 ⊢
        refine agr.step (el_q (u := u) (n := n) (p := z79.2) (s := s6) (tg := 160) (en := z102.2) (by omega)) ((extL_stk u n 0 (Or.inl rfl) _ _ _ _).tr ((fin_stk _ _).tr ((fin_stk _ _).tr (sig_stk u n _ _)))) (fun z243 hz6 hn6 hq6 => ?_)
        obtain ⟨k1, k2, k3, k4, k5⟩ := hq6
        rw [k1] at v3 v4 ⊢
        dsimp only at v3 v4 ⊢
        rw [eb_as]
        refine agr.step (extL_q hu (n := n) (p := z243.1) (s := z79.2) (en := z243.2) (wh := 1) (ie := 0) (ma := t.2.1) (ex := Z.2.2.2.1) (Or.inl ⟨rfl, rfl⟩) (by omega) hn) ((fin_stk _ _).tr ((fin_stk _ _).tr (sig_stk u n _ _))) (fun z267 hz7 hn7 hq7 => ?_)
        obtain ⟨⟨s7, l1⟩, l2, l3, l4⟩ := hq7
        rw [l1] at v3 ⊢
        rw [eb_as]
        refine agr.step (fin_q (u := u) (p := z267.1) (s := s7) (en := z243.2)) ((fin_stk _ _).tr (sig_stk u n _ _)) (fun _ _ _ hq8 => ?_)
        have e8 : z267.1 = z243.2 := by omega
        rw [hq8.1] at v3 ⊢
        refine agr.ok rfl ?_
        rw [e8] at v3 ⊢
        refine agr.step (fin_q (u := u) (p := z243.2) (s := s7) (en := z102.2)) (sig_stk u n _ _) (fun _ _ _ hq9 => ?_)
        have e10 : z243.2 = z102.2 := by omega
        rw [hq9.1] at v3 ⊢
        rw [e10] at v3 ⊢
        refine sig_q hu (n := n) (p := z102.2) (s := s7) (en := z77.2) (by omega) hn (stk.rf _) (fun z189 s5 m1 m2 m3 m4 m5 => ?_)
        rw [m2, m3] at v3
        rw [m1]
        exact ⟨rfl, ⟨s5, rfl⟩, eV.1, v3, v4.trans l2, eV.2.1.trans d5, eT9.1, eT9.2⟩
      · have ecr : lsT u n 0 (z79.2, s6, none) z102.2 t.2.1 Z.2.2.2.1 = rd_fin (z79.2, s6, none) z102.2 := if_neg (fun q => h160 q.2.2)
        rw [ecr]
        refine agr.no (x := rd_fin (z79.2, s6, none) z102.2) (w := z79.2) ?_ (el_tag hlt h160) (sig_stk u n _ _)
        rw [show rd_fin (z79.2, s6, none) z102.2 = (z79.2, s6, some z79.2) from if_pos hlt]
  · have c48 : ¬ ((none : Option Nat) = none ∧ z49.1 < z102.2 ∧ u z49.1 = 48) := fun q => h48 q.2
    have eM : lsM u n (z49.1, s3, none) z102.2 0 ex [] D7 = lsT u n (zP ((none : Option Nat) = none ∧ z49.1 < z102.2 ∧ u z49.1 = 48)) (z49.1, s3, none) z102.2 0 ex := if_neg c48
    have eV := eH.2 c48
    have z1 : zP ((none : Option Nat) = none ∧ z49.1 < z102.2 ∧ u z49.1 = 48) = 0 := zPf0 c48
    rw [eM]
    rw [z1] at eV ⊢
    have eE : ∀ (A : Nat ⊕ (Nat × Int32 × List (Nat × Nat) × List (Nat × Nat) × List (Nat × Nat) × List (Nat × Nat × Nat) × Int32 × Int32 × Int32 × Int32 × Int32 × Int32 × Int32)) (B : (Nat × Int32 × List (Nat × Nat) × List (Nat × Nat) × List (Nat × Nat) × List (Nat × Nat × Nat) × Int32 × Int32 × Int32 × Int32 × Int32 × Int32 × Int32)), (@ite _ (z49.1 < z102.2) (Classical.propDecidable _) (@ite _ ((u z49.1) = 48) (Classical.propDecidable _) A (.inr B)) (.inr B)) = .inr B := fun A B => by
      by_cases hc : z49.1 < z102.2
      · rw [if_pos hc, if_neg (fun q => h48 ⟨hc, q⟩)]
      · rw [if_neg hc]
    refine agr.ok (eE _ _) ?_
    dsimp only
    rw [eb_ite]
    by_cases hend : z49.1 = z102.2
    · rw [if_pos hend]
      refine agr.ok rfl ?_
      have hno : ¬ (((z49.1, s3, none) : rS).2.2 = none ∧ ((z49.1, s3, none) : rS).1 < z102.2 ∧ u ((z49.1, s3, none) : rS).1 = 160) := fun q => by have : z49.1 < z102.2 := q.2.1; omega
      have ecr : lsT u n 0 (z49.1, s3, none) z102.2 0 ex = rd_fin (z49.1, s3, none) z102.2 := if_neg hno
      rw [ecr]
      refine agr.step (fin_q (u := u) (p := z49.1) (s := s3) (en := z102.2)) (sig_stk u n _ _) (fun _ _ _ hq5 => ?_)
      rw [hq5.1] at ecr ⊢
      rw [hend] at ecr ⊢
      refine sig_q hu (n := n) (p := z102.2) (s := s3) (en := z77.2) (by omega) hn (stk.rf _) (fun z189 s5 m1 m2 m3 m4 m5 => ?_)
      have v3 := eV.2.2.1 _ rfl
      rw [show lsT u n 0 (z49.1, s3, none) z102.2 0 ex = (z102.2, s3, none) by rw [hend]; exact ecr] at v3
      rw [m2, m3] at v3
      rw [m1]
      exact ⟨rfl, ⟨s5, rfl⟩, eV.1, v3, eV.2.2.2.2 hno, eV.2.1, eT9.1, eT9.2⟩
    · rw [if_neg hend]
      have hlt : z49.1 < z102.2 := by omega
      rw [eb_as]
      by_cases h160 : u z49.1 = 160
      · have hyes : (((z49.1, s3, none) : rS).2.2 = none ∧ ((z49.1, s3, none) : rS).1 < z102.2 ∧ u ((z49.1, s3, none) : rS).1 = 160) := ⟨rfl, hlt, h160⟩
        have ecr : lsT u n 0 (z49.1, s3, none) z102.2 0 ex = rd_fin (rd_fin (rd_extL u n 0 (rd_opn u n (z49.1, s3, none) 160 z102.2).1 (rd_opn u n (z49.1, s3, none) 160 z102.2).2 0 ex).1 (rd_opn u n (z49.1, s3, none) 160 z102.2).2) z102.2 := if_pos hyes
        have v4 := eV.2.2.2.1 hyes
        have v3 := eV.2.2.1 _ rfl
        rw [ecr] at v3 ⊢
        refine agr.step (el_q (u := u) (n := n) (p := z49.1) (s := s3) (tg := 160) (en := z102.2) (by omega)) ((extL_stk u n 0 (Or.inl rfl) _ _ _ _).tr ((fin_stk _ _).tr ((fin_stk _ _).tr (sig_stk u n _ _)))) (fun z243 hz6 hn6 hq6 => ?_)
        obtain ⟨k1, k2, k3, k4, k5⟩ := hq6
        rw [k1] at v3 v4 ⊢
        dsimp only at v3 v4 ⊢
        rw [eb_as]
        refine agr.step (extL_q hu (n := n) (p := z243.1) (s := z49.1) (en := z243.2) (wh := 1) (ie := 0) (ma := 0) (ex := ex) (Or.inl ⟨rfl, rfl⟩) (by omega) hn) ((fin_stk _ _).tr ((fin_stk _ _).tr (sig_stk u n _ _))) (fun z267 hz7 hn7 hq7 => ?_)
        obtain ⟨⟨s7, l1⟩, l2, l3, l4⟩ := hq7
        rw [l1] at v3 ⊢
        rw [eb_as]
        refine agr.step (fin_q (u := u) (p := z267.1) (s := s7) (en := z243.2)) ((fin_stk _ _).tr (sig_stk u n _ _)) (fun _ _ _ hq8 => ?_)
        have e8 : z267.1 = z243.2 := by omega
        rw [hq8.1] at v3 ⊢
        refine agr.ok rfl ?_
        rw [e8] at v3 ⊢
        refine agr.step (fin_q (u := u) (p := z243.2) (s := s7) (en := z102.2)) (sig_stk u n _ _) (fun _ _ _ hq9 => ?_)
        have e10 : z243.2 = z102.2 := by omega
        rw [hq9.1] at v3 ⊢
        rw [e10] at v3 ⊢
        refine sig_q hu (n := n) (p := z102.2) (s := s7) (en := z77.2) (by omega) hn (stk.rf _) (fun z189 s5 m1 m2 m3 m4 m5 => ?_)
        rw [m2, m3] at v3
        rw [m1]
        exact ⟨rfl, ⟨s5, rfl⟩, eV.1, v3, v4.trans l2, eV.2.1, eT9.1, eT9.2⟩
      · have ecr : lsT u n 0 (z49.1, s3, none) z102.2 0 ex = rd_fin (z49.1, s3, none) z102.2 := if_neg (fun q => h160 q.2.2)
        rw [ecr]
        refine agr.no (x := rd_fin (z49.1, s3, none) z102.2) (w := z49.1) ?_ (el_tag hlt h160) (sig_stk u n _ _)
        rw [show rd_fin (z49.1, s3, none) z102.2 = (z49.1, s3, some z49.1) from if_pos hlt]
