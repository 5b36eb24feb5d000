/-! The class' readers and the reference's: whole certificates. -/
theorem eb_as {α β γ : Type} (A : Nat ⊕ α) (f : α → Nat ⊕ β) (g : β → Nat ⊕ γ) : eb (eb A f) g = eb A (fun a => eb (f a) g) := by cases A <;> rfl
theorem eb_ite {α β : Type} {C : Prop} {i9 : Decidable C} (A B : Nat ⊕ α) (g : α → Nat ⊕ β) : eb (@ite _ C i9 A B) g = @ite _ C i9 (eb A g) (eb B g) := by split <;> rfl
theorem tx_hd_eb {β γ : Type} (u : Nat → Nat) (p en : Nat) (F : Nat × Nat → Nat → Nat × Nat → Nat × Nat → Nat × Int64 → Nat × Int64 → Nat × Nat × Nat → Nat ⊕ β) (g : β → Nat ⊕ γ) : eb (tx_hd u p en F) g = tx_hd u p en (fun a b c d e h k => eb (F a b c d e h k) g) := by
  unfold tx_hd
  simp only [eb_as]
theorem tx_ky_eb {β γ : Type} (u : Nat → Nat) (p en : Nat) (F : Nat × Nat → Nat × Nat × Nat × Int32 → Nat ⊕ β) (g : β → Nat ⊕ γ) : eb (tx_ky u p en F) g = tx_ky u p en (fun a b => eb (F a b) g) := by
  unfold tx_ky
  simp only [eb_as]
noncomputable def crM (u : Nat → Nat) (n : Nat) (y : rS) (E : Nat) (ma ex : Int32) (ok ik : Nat × Nat) (ca pn us : Int32) (D1 D2 D3 D4 D5 D6 : List (Nat × Nat)) : rS := @ite _ (y.2.2 = none ∧ y.1 < E ∧ u y.1 = 163) (Classical.propDecidable _) (rd_fin (rd_fin (rd_extC u n (rd_opn u n y 163 E).1 (rd_opn u n y 163 E).2 ma ex ok ik ca pn us D1 D2 D3 D4 D5 D6).1 (rd_opn u n y 163 E).2) E) (rd_fin y E)
theorem crM_stk {u : Nat → Nat} {n : Nat} {y : rS} {E : Nat} {ma ex : Int32} {ok ik : Nat × Nat} {ca pn us : Int32} {D1 D2 D3 D4 D5 D6 : List (Nat × Nat)} : stk y (crM u n y E ma ex ok ik ca pn us D1 D2 D3 D4 D5 D6) := by
  unfold crM
  split
  · exact (opn_stk u n y 163 E).tr ((extC_stk u n _ _ _ _ _ _ _ _ _ _ _ _ _ _ _).tr ((fin_stk _ _).tr (fin_stk _ _)))
  · exact fin_stk _ _
theorem cert_1 (u : Nat → Nat) (n : Nat) (x : rS) (ma ex : Int32) (ok ik : Nat × Nat) (ca pn us : Int32) (D1 D2 D3 D4 D5 D6 D7 : List (Nat × Nat)) : (rd_cert u n x ma ex ok ik ca pn us D1 D2 D3 D4 D5 D6 D7).1 = (let z8 := rd_opn u n x 48 n; let z21 := rd_opn u n z8.1 48 z8.2; rd_sig u n (crM u n (rd_key u n (rd_hdC u n z21.1 z21.2).1 z21.2).1 z21.2 ma ex ok ik ca pn us D1 D2 D3 D4 D5 D6) z8.2) := by
  unfold rd_cert crM
  dsimp only
  generalize rd_key u n (rd_hdC u n (rd_opn u n (rd_opn u n x 48 n).1 48 (rd_opn u n x 48 n).2).1 (rd_opn u n (rd_opn u n x 48 n).1 48 (rd_opn u n x 48 n).2).2).1 (rd_opn u n (rd_opn u n x 48 n).1 48 (rd_opn u n x 48 n).2).2 = K
  by_cases c : K.1.2.2 = none ∧ K.1.1 < (rd_opn u n (rd_opn u n x 48 n).1 48 (rd_opn u n x 48 n).2).2 ∧ u K.1.1 = 163
  · rw [if_pos c, if_pos c]
  · rw [if_neg c, if_neg c]
/-- what the class keeps of a certificate and what the reference keeps: the same numbers -/
def cV (u : Nat → Nat) (C : rS × (Nat × Nat) × (Nat × Nat) × (Nat × Nat) × (Nat × Nat) × (Nat × Nat) × (Nat × Nat) × (Nat × Nat) × (Nat × Nat) × Int32 × Int32 × Int32 × Int32 × Int32 × Int32 × Int32 × Int32 × Int32 × Int64 × Int64 × (List (Nat × Nat)) × (List (Nat × Nat)) × (List (Nat × Nat)) × (List (Nat × Nat)) × (List (Nat × Nat)) × (List (Nat × Nat)) × (List (Nat × Nat)) × Int32 × Int32) (z : Nat × Nat × Nat × Nat × Nat × Nat × Nat × Nat × Nat × Int64 × Int64 × Int32 × Int32 × Int32 × Int32 × Int32 × Int32 × Int32 × Int32 × Int32 × Int32 × Nat × Nat × Nat × Nat × List (Nat × Nat) × List (Nat × Nat) × List (Nat × Nat × Nat)) : Prop := C.2.1 = (z.1, z.2.1) ∧ C.2.2.2.2.1 = (z.2.2.2.2.2.2.2.1, z.2.2.2.2.2.2.2.2.1) ∧ C.2.2.2.2.2.1 = (z.2.2.2.2.2.2.2.2.2.2.2.2.2.2.2.2.2.2.2.2.2.1, z.2.2.2.2.2.2.2.2.2.2.2.2.2.2.2.2.2.2.2.2.2.2.1) ∧ C.2.2.2.2.2.2.1 = (z.2.2.2.2.2.2.2.2.2.2.2.2.2.2.2.2.2.2.2.2.2.2.2.1, z.2.2.2.2.2.2.2.2.2.2.2.2.2.2.2.2.2.2.2.2.2.2.2.2.1) ∧ C.2.2.2.2.2.2.2.2.2.1 = nI z.2.2.2.2.2.2.1 ∧ C.2.2.2.2.2.2.2.2.2.2.1 = nI (modV u z.2.2.2.2.2.2.2.1 z.2.2.2.2.2.2.2.2.1) ∧ C.2.2.2.2.2.2.2.2.2.2.2.1 = z.2.2.2.2.2.2.2.2.2.2.2.1 ∧ C.2.2.2.2.2.2.2.2.2.2.2.2.1 = z.2.2.2.2.2.2.2.2.2.2.2.2.2.2.1 ∧ C.2.2.2.2.2.2.2.2.2.2.2.2.2.1 = z.2.2.2.2.2.2.2.2.2.2.2.2.2.2.2.1 ∧ C.2.2.2.2.2.2.2.2.2.2.2.2.2.2.1 = z.2.2.2.2.2.2.2.2.2.2.2.2.2.2.2.2.1 ∧ C.2.2.2.2.2.2.2.2.2.2.2.2.2.2.2.1 = z.2.2.2.2.2.2.2.2.2.2.2.2.1 ∧ C.2.2.2.2.2.2.2.2.2.2.2.2.2.2.2.2.2.1 = z.2.2.2.2.2.2.2.2.2.2.2.2.2.1 ∧ C.2.2.2.2.2.2.2.2.2.2.2.2.2.2.2.2.2.2.2.2.1 = z.2.2.2.2.2.2.2.2.2.2.2.2.2.2.2.2.2.2.2.2.2.2.2.2.2.1 ∧ C.2.2.2.2.2.2.2.2.2.2.2.2.2.2.2.2.2.2.1 = z.2.2.2.2.2.2.2.2.2.1 ∧ C.2.2.2.2.2.2.2.2.2.2.2.2.2.2.2.2.2.2.2.1 = z.2.2.2.2.2.2.2.2.2.2.1
theorem cert_q {u : Nat → Nat} (hu : ∀ j, u j < 256) {n s : Nat} {ok ik : Nat × Nat} {f1 f2 : Int32} {D2 D3 D4 D5 D6 D7 : List (Nat × Nat)} (hn : n ≤ 2048) : agr (rd_cert u n (0, s, none) 0 0 ok ik 0 (-1) (-1) [] D2 D3 D4 D5 D6 D7).1 (tx_readC u n f1 f2) (fun z => (∃ s', (rd_cert u n (0, s, none) 0 0 ok ik 0 (-1) (-1) [] D2 D3 D4 D5 D6 D7).1 = (n, s', none)) ∧ cV u (rd_cert u n (0, s, none) 0 0 ok ik 0 (-1) (-1) [] D2 D3 D4 D5 D6 D7) z) := by
  have e1 := cert_1 u n (0, s, none) 0 0 ok ik 0 (-1) (-1) [] D2 D3 D4 D5 D6 D7
  have eP : ∀ (o8 o21 : rS × Nat) H K, rd_opn u n (0, s, none) 48 n = o8 → rd_opn u n o8.1 48 o8.2 = o21 → rd_hdC u n o21.1 o21.2 = H → rd_key u n H.1 o21.2 = K → ((K.1.2.2 = none ∧ K.1.1 < o21.2 ∧ u K.1.1 = 163) → rd_cert u n (0, s, none) 0 0 ok ik 0 (-1) (-1) [] D2 D3 D4 D5 D6 D7 = (let z27 := H; let z32 := K; let z51 := rd_opn u n z32.1 163 o21.2; (let z59 := rd_extC u n z51.1 z51.2 0 0 ok ik 0 (-1) (-1) [] D2 D3 D4 D5 D6; (let z65 := rd_fin z59.1 z51.2; (let z70 := rd_fin z65 o21.2; (let zb121 := (rd_bits u n (rd_alg u n z70 11 o8.2) o8.2); (let z121 := rd_sig u n z70 o8.2; (z121, (z27.2.1, z27.2.2.1), (z27.2.2.2.1, z27.2.2.2.2.1), (z27.2.2.2.2.2.1, z27.2.2.2.2.2.2.1), (z32.2.1, z32.2.2.1), (o8.1.1, o21.2), (zb121.1.1, zb121.2), z59.2.2.2.2.1, z59.2.2.2.2.2.1, z27.2.2.2.2.2.2.2.2.1, z32.2.2.2.1, z32.2.2.2.2, z59.2.2.2.2.2.2.1, z59.2.2.2.2.2.2.2.1, z59.2.2.2.2.2.2.2.2.1, z59.2.2.1, z27.2.2.2.2.2.2.2.2.2.1, z59.2.1, z27.2.2.2.2.2.2.2.2.2.2.1, z27.2.2.2.2.2.2.2.2.2.2.2, z59.2.2.2.2.2.2.2.2.2.1, z59.2.2.2.2.2.2.2.2.2.2.1, z59.2.2.2.2.2.2.2.2.2.2.2.1, z59.2.2.2.2.2.2.2.2.2.2.2.2.1, z59.2.2.2.2.2.2.2.2.2.2.2.2.2.1, z59.2.2.2.2.2.2.2.2.2.2.2.2.2.2, z59.2.2.2.1, z59.2.1, z59.2.2.1)))))))) ∧ (¬ (K.1.2.2 = none ∧ K.1.1 < o21.2 ∧ u K.1.1 = 163) → rd_cert u n (0, s, none) 0 0 ok ik 0 (-1) (-1) [] D2 D3 D4 D5 D6 D7 = (let z27 := H; let z32 := K; (let z70 := rd_fin z32.1 o21.2; (let zb121 := (rd_bits u n (rd_alg u n z70 11 o8.2) o8.2); (let z121 := rd_sig u n z70 o8.2; (z121, (z27.2.1, z27.2.2.1), (z27.2.2.2.1, z27.2.2.2.2.1), (z27.2.2.2.2.2.1, z27.2.2.2.2.2.2.1), (z32.2.1, z32.2.2.1), (o8.1.1, o21.2), (zb121.1.1, zb121.2), ok, ik, z27.2.2.2.2.2.2.2.2.1, z32.2.2.2.1, z32.2.2.2.2, 0, -1, -1, 0, z27.2.2.2.2.2.2.2.2.2.1, 0, z27.2.2.2.2.2.2.2.2.2.2.1, z27.2.2.2.2.2.2.2.2.2.2.2, [], D2, D3, D4, D5, D6, D7, 0, 0)))))) := by
    rintro o8 o21 H K rfl rfl rfl rfl
    exact ⟨fun c => if_pos c, fun c => if_neg c⟩
  generalize rd_cert u n (0, s, none) 0 0 ok ik 0 (-1) (-1) [] D2 D3 D4 D5 D6 D7 = C at e1 eP ⊢
  have e9 : tx_readC u n f1 f2 = (eb (tx_element u 0 48 n) (fun z77 => (eb (tx_element u z77.1 48 z77.2) (fun z102 => (eb (tx_hd u z102.1 z102.2 (fun z46 z75 z83 z95 z118 z136 z162 => tx_ky u z162.1 z102.2 (fun z198 z255 => (@ite _ (z198.2 = z102.2) (Classical.propDecidable _) (.inr (z198.2, z46.1, z46.2, z75, z83.2, z95.2, z162.2.2, z162.2.1, z255.2.1, z255.2.2.1, z118.2, z136.2, z255.2.2.2, 0, 0, 0, (-1), (-1), (-1), f1, (-1), f2, [], [], [])) (eb (tx_element u z198.2 163 z102.2) (fun z294 => (eb (tx_extensions u z294.1 z294.2 0 [] [] [] 0 0 (-1) (-1) (-1) f1 (-1) f2) (fun z318 => (eb (tx_done u z318.1 z294.2) (fun z336 => (.inr (z294.2, z46.1, z46.2, z75, z83.2, z95.2, z162.2.2, z162.2.1, z255.2.1, z255.2.2.1, z118.2, z136.2, z255.2.2.2, nI z318.2.2.2.2.2.2.2.2.2.2.2.2.length, z318.2.1, z318.2.2.1, z318.2.2.2.1, z318.2.2.2.2.1, z318.2.2.2.2.2.1, z318.2.2.2.2.2.2.1, z318.2.2.2.2.2.2.2.1, z318.2.2.2.2.2.2.2.2.1, z318.2.2.2.2.2.2.2.2.2.1, z318.2.2.2.2.2.2.2.2.2.2.1, z318.2.2.2.2.2.2.2.2.2.2.2.1)))))))))))) (fun z157 => (eb (tx_done u z157.1 z102.2) (fun z168 => (tx_sg u z102.2 z77.2 n (fun z189 => .inr (z157.2.1, z157.2.2.1, z157.2.2.2.1, z157.2.2.2.2.1, z157.2.2.2.2.2.1, z157.2.2.2.2.2.2.1, z157.2.2.2.2.2.2.2.1, z157.2.2.2.2.2.2.2.2.1, z157.2.2.2.2.2.2.2.2.2.1, z157.2.2.2.2.2.2.2.2.2.2.1, z157.2.2.2.2.2.2.2.2.2.2.2.1, z157.2.2.2.2.2.2.2.2.2.2.2.2.1, z157.2.2.2.2.2.2.2.2.2.2.2.2.2.1, z157.2.2.2.2.2.2.2.2.2.2.2.2.2.2.1, z157.2.2.2.2.2.2.2.2.2.2.2.2.2.2.2.1, z157.2.2.2.2.2.2.2.2.2.2.2.2.2.2.2.2.1, z157.2.2.2.2.2.2.2.2.2.2.2.2.2.2.2.2.2.1, z157.2.2.2.2.2.2.2.2.2.2.2.2.2.2.2.2.2.2.1, z157.2.2.2.2.2.2.2.2.2.2.2.2.2.2.2.2.2.2.2.1, z157.2.2.2.2.2.2.2.2.2.2.2.2.2.2.2.2.2.2.2.2.1, z157.2.2.2.2.2.2.2.2.2.2.2.2.2.2.2.2.2.2.2.2.2.1, z77.1, z102.2, z189.1, z189.2, z157.2.2.2.2.2.2.2.2.2.2.2.2.2.2.2.2.2.2.2.2.2.2.1, z157.2.2.2.2.2.2.2.2.2.2.2.2.2.2.2.2.2.2.2.2.2.2.2.1, z157.2.2.2.2.2.2.2.2.2.2.2.2.2.2.2.2.2.2.2.2.2.2.2.2))))))))))) := rfl
  rw [e9, e1]
  dsimp only
  refine agr.step (el_q (u := u) (n := n) (p := 0) (s := s) (tg := 48) (en := n) (Nat.le_refl _)) ((opn_stk u n _ 48 _).tr ((hdC_stk u n _ _).tr ((key_stk u n _ _).tr (crM_stk.tr (sig_stk u n _ _))))) (fun z77 hz77 hn1 hq1 => ?_)
  obtain ⟨a1, a2, a3, a4, a5⟩ := hq1
  have eP1 := eP _ _ _ _ a1 rfl rfl rfl
  rw [a1]
  dsimp only
  refine agr.step (el_q (u := u) (n := n) (p := z77.1) (s := 0) (tg := 48) (en := z77.2) (by omega)) ((hdC_stk u n _ _).tr ((key_stk u n _ _).tr (crM_stk.tr (sig_stk u n _ _)))) (fun z102 hz102 hn2 hq2 => ?_)
  obtain ⟨b1, b2, b3, b4, b5⟩ := hq2
  have eP2 := eP _ _ _ _ a1 b1 rfl rfl
  rw [b1]
  dsimp only
  rw [tx_hd_eb]
  refine hdC_q hu (n := n) (p := z102.1) (s := z77.1) (en := z102.2) (by omega) hn ((key_stk u n _ _).tr (crM_stk.tr (sig_stk u n _ _))) (fun z46 z75 z83 z95 z118 z136 z162 s3 i1 i2 s1 hH g1 g2 g3 g4 g5 => ?_)
  have eP3 := eP _ _ _ _ a1 b1 hH rfl
  rw [congrArg (fun h => h.1) hH]
  dsimp only
  rw [tx_ky_eb, g1]
  refine key_q hu (n := n) (p := z162.2.2) (s := s3) (en := z102.2) (by omega) hn (crM_stk.tr (sig_stk u n _ _)) (fun z198 z255 s4 hK j1 j2 j3 j4 j5 j6 => ?_)
  have eP4 := eP _ _ _ _ a1 b1 hH hK
  rw [hK]
  dsimp only
  rw [eb_ite]
  by_cases hend : z198.2 = z102.2
  · rw [if_pos hend]
    refine agr.ok rfl ?_
    have eC := eP4.2 (fun q => by have : z198.2 < z102.2 := q.2.1; omega)
    have ecr : crM u n (z198.2, s4, none) z102.2 0 0 ok ik 0 (-1) (-1) [] D2 D3 D4 D5 D6 = rd_fin (z198.2, s4, none) z102.2 := if_neg (fun q => by have : z198.2 < z102.2 := q.2.1; omega)
    rw [ecr]
    refine agr.step (fin_q (u := u) (p := z198.2) (s := s4) (en := z102.2)) (sig_stk u n _ _) (fun _ _ _ hq5 => ?_)
    dsimp only at eC
    rw [hq5.1] at eC ⊢
    rw [hend] at eC ⊢
    refine sig_q hu (n := n) (p := z102.2) (s := s4) (en := z77.2) (by omega) hn (stk.rf _) (fun z189 s5 m1 m2 m3 m4 m5 => ?_)
    rw [m1, m2, m3] at eC
    rw [m1]
    refine ⟨rfl, ⟨s5, rfl⟩, ?_⟩
    rw [eC]
    exact ⟨rfl, rfl, rfl, rfl, rfl, rfl, rfl, rfl, rfl, rfl, rfl, rfl, rfl, rfl, rfl⟩
  · rw [if_neg hend]
    have hlt : z198.2 < z102.2 := by omega
    rw [eb_as]
    by_cases h163 : u z198.2 = 163
    · have eC := eP4.1 ⟨rfl, hlt, h163⟩
      have ecr : crM u n (z198.2, s4, none) z102.2 0 0 ok ik 0 (-1) (-1) [] D2 D3 D4 D5 D6 = rd_fin (rd_fin (rd_extC u n (rd_opn u n (z198.2, s4, none) 163 z102.2).1 (rd_opn u n (z198.2, s4, none) 163 z102.2).2 0 0 ok ik 0 (-1) (-1) [] D2 D3 D4 D5 D6).1 (rd_opn u n (z198.2, s4, none) 163 z102.2).2) z102.2 := if_pos ⟨rfl, hlt, h163⟩
      rw [ecr]
      dsimp only at eC
      refine agr.step (el_q (u := u) (n := n) (p := z198.2) (s := s4) (tg := 163) (en := z102.2) (by omega)) ((extC_stk u n _ _ _ _ _ _ _ _ _ _ _ _ _ _ _).tr ((fin_stk _ _).tr ((fin_stk _ _).tr (sig_stk u n _ _)))) (fun z294 hz6 hn6 hq6 => ?_)
      obtain ⟨k1, k2, k3, k4, k5⟩ := hq6
      rw [k1] at eC ⊢
      dsimp only at eC ⊢
      rw [eb_as]
      refine agr.step (extC_q hu (n := n) (p := z294.1) (s := z198.2) (en := z294.2) (ma := 0) (ok := ok) (ik := ik) (ca := 0) (pn := -1) (us := -1) (D1 := []) (D2 := D2) (D3 := D3) (D4 := D4) (D5 := D5) (D6 := D6) (by omega) hn) ((fin_stk _ _).tr ((fin_stk _ _).tr (sig_stk u n _ _))) (fun z318 hz7 hn7 hq7 => ?_)
      obtain ⟨⟨s7, l1⟩, l2, l3, l4⟩ := hq7
      rw [l1] at eC ⊢
      rw [eb_as]
      refine agr.step (fin_q (u := u) (p := z318.1) (s := s7) (en := z294.2)) ((fin_stk _ _).tr (sig_stk u n _ _)) (fun _ _ _ hq8 => ?_)
      have e8 : z318.1 = z294.2 := by omega
      rw [hq8.1] at eC ⊢
      refine agr.ok rfl ?_
      rw [e8] at eC ⊢
      refine agr.step (fin_q (u := u) (p := z294.2) (s := s7) (en := z102.2)) (sig_stk u n _ _) (fun _ _ _ hq9 => ?_)
      have e10 : z294.2 = z102.2 := by omega
      rw [hq9.1] at eC ⊢
      rw [e10] at eC ⊢
      refine sig_q hu (n := n) (p := z102.2) (s := s7) (en := z77.2) (by omega) hn (stk.rf _) (fun z189 s5 m1 m2 m3 m4 m5 => ?_)
      rw [m1, m2, m3] at eC
      rw [m1]
      refine ⟨rfl, ⟨s5, rfl⟩, ?_⟩
      rw [eC]
      obtain ⟨r1, r2, r3, r4, r5, r6, r7⟩ := l2
      rw [e10] at r1 r2 r3 r4 r5 r6 r7
      exact ⟨rfl, rfl, rfl, rfl, rfl, rfl, rfl, r4, r5, r6, r2, r1, r7, rfl, rfl⟩
    · have ecr : crM u n (z198.2, s4, none) z102.2 0 0 ok ik 0 (-1) (-1) [] D2 D3 D4 D5 D6 = rd_fin (z198.2, s4, none) z102.2 := if_neg (fun q => h163 q.2.2)
      rw [ecr]
      refine agr.no (x := rd_fin (z198.2, s4, none) z102.2) (w := z198.2) ?_ (el_tag hlt h163) (sig_stk u n _ _)
      rw [show rd_fin (z198.2, s4, none) z102.2 = (z198.2, s4, some z198.2) from if_pos hlt]
