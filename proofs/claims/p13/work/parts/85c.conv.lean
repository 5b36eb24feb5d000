/-! What a reader leaves gets its kinds. -/
def nuR (ν : Nat → cN) (a : Nat) (x : cN) : Nat → cN := fun b => if b = a then x else ν b
theorem b01_zP (P : Prop) : b01 (zP P) := zP_01 P
theorem bas_ca (u : Nat → Nat) (n : Nat) (x : rS) (en : Nat) (k : Int32) : b01 (rd_bas u n x en k).2.2 := by
  unfold rd_bas
  dsimp only
  split <;> (split <;> exact b01_zP _)
theorem kn_ca (u : Nat → Nat) (n : Nat) (kd : Int32) (en : Nat) (x : rS) (ok ik : Nat × Nat) (ca pn us : Int32) (D1 D2 D3 D4 D5 D6 : List (Nat × Nat)) (h : b01 ca) : b01 (rd_kn u n kd en x ok ik ca pn us D1 D2 D3 D4 D5 D6).1.2.2.2.1 := by
  unfold rd_kn
  dsimp only
  split
  · exact h
  split
  · exact h
  split
  · exact h
  split
  · exact bas_ca _ _ _ _ _
  split
  · split
    · split <;> exact h
    · exact h
  split <;> exact h
theorem extb_ca (u : Nat → Nat) (n e : Nat) (s : rS × Int32 × Int32 × (List (Nat × Nat)) × (Nat × Nat) × (Nat × Nat) × Int32 × Int32 × Int32 × (List (Nat × Nat)) × (List (Nat × Nat)) × (List (Nat × Nat)) × (List (Nat × Nat)) × (List (Nat × Nat)) × (List (Nat × Nat))) (h : b01 s.2.2.2.2.2.2.1) : b01 (rb_extC u n e s).2.2.2.2.2.2.1 := by
  unfold rb_extC
  dsimp only
  split <;> (split <;> (split <;> exact kn_ca _ _ _ _ _ _ _ _ _ _ _ _ _ _ _ _ h))
theorem ext_ca (u : Nat → Nat) (n : Nat) (x : rS) (en : Nat) (ma ex : Int32) (ok ik : Nat × Nat) (ca pn us : Int32) (D1 D2 D3 D4 D5 D6 : List (Nat × Nat)) (h : b01 ca) : b01 (rd_extC u n x en ma ex ok ik ca pn us D1 D2 D3 D4 D5 D6).2.2.2.2.2.2.1 := by
  unfold rd_extC
  generalize (2048 : Nat) = f
  generalize (rd_opn u n x 48 en).2 = e
  have key : ∀ (f : Nat) (b : Bool) (s : rS × Int32 × Int32 × (List (Nat × Nat)) × (Nat × Nat) × (Nat × Nat) × Int32 × Int32 × Int32 × (List (Nat × Nat)) × (List (Nat × Nat)) × (List (Nat × Nat)) × (List (Nat × Nat)) × (List (Nat × Nat)) × (List (Nat × Nat))), b01 s.2.2.2.2.2.2.1 → b01 (loopF (rb_extC u n e) (fun s => mr s.1 e) f b s).2.2.2.2.2.2.1 := by
    intro f
    induction f with
    | zero => intro b s h; exact h
    | succ f ih =>
      intro b s h
      by_cases hm : b = true ∨ mr s.1 e
      · rw [show loopF (rb_extC u n e) (fun s => mr s.1 e) (f + 1) b s = loopF (rb_extC u n e) (fun s => mr s.1 e) f false (rb_extC u n e s) from if_pos hm]
        exact ih _ _ (extb_ca u n e s h)
      · rw [show loopF (rb_extC u n e) (fun s => mr s.1 e) (f + 1) b s = s from if_neg hm]
        exact h
  exact key f true _ h
theorem cert_b (u : Nat → Nat) (n s : Nat) (ok ik : Nat × Nat) (D2 D3 D4 D5 D6 D7 : List (Nat × Nat)) : b01 (rd_cert u n (0, s, none) 0 0 ok ik 0 (-1) (-1) [] D2 D3 D4 D5 D6 D7).2.2.2.2.2.2.2.2.2.2.2.2.1 ∧ b01 (rd_cert u n (0, s, none) 0 0 ok ik 0 (-1) (-1) [] D2 D3 D4 D5 D6 D7).2.2.2.2.2.2.2.2.2.2.2.2.2.2.2.2.1 := by
  have eP : ∀ (o8 o21 : rS × Nat) H K, rd_opn u n (0, s, none) 48 n = o8 → rd_opn u n o8.1 48 o8.2 = o21 → rd_hdC u n o21.1 o21.2 = H → rd_key u n H.1 o21.2 = K → ((K.1.2.2 = none ∧ K.1.1 < o21.2 ∧ u K.1.1 = 163) → rd_cert u n (0, s, none) 0 0 ok ik 0 (-1) (-1) [] D2 D3 D4 D5 D6 D7 = (let z27 := H; let z32 := K; let z51 := rd_opn u n z32.1 163 o21.2; (let z59 := rd_extC u n z51.1 z51.2 0 0 ok ik 0 (-1) (-1) [] D2 D3 D4 D5 D6; (let z65 := rd_fin z59.1 z51.2; (let z70 := rd_fin z65 o21.2; (let zb121 := (rd_bits u n (rd_alg u n z70 11 o8.2) o8.2); (let z121 := rd_sig u n z70 o8.2; (z121, (z27.2.1, z27.2.2.1), (z27.2.2.2.1, z27.2.2.2.2.1), (z27.2.2.2.2.2.1, z27.2.2.2.2.2.2.1), (z32.2.1, z32.2.2.1), (o8.1.1, o21.2), (zb121.1.1, zb121.2), z59.2.2.2.2.1, z59.2.2.2.2.2.1, z27.2.2.2.2.2.2.2.2.1, z32.2.2.2.1, z32.2.2.2.2, z59.2.2.2.2.2.2.1, z59.2.2.2.2.2.2.2.1, z59.2.2.2.2.2.2.2.2.1, z59.2.2.1, z27.2.2.2.2.2.2.2.2.2.1, z59.2.1, z27.2.2.2.2.2.2.2.2.2.2.1, z27.2.2.2.2.2.2.2.2.2.2.2, z59.2.2.2.2.2.2.2.2.2.1, z59.2.2.2.2.2.2.2.2.2.2.1, z59.2.2.2.2.2.2.2.2.2.2.2.1, z59.2.2.2.2.2.2.2.2.2.2.2.2.1, z59.2.2.2.2.2.2.2.2.2.2.2.2.2.1, z59.2.2.2.2.2.2.2.2.2.2.2.2.2.2, z59.2.2.2.1, z59.2.1, z59.2.2.1)))))))) ∧ (¬ (K.1.2.2 = none ∧ K.1.1 < o21.2 ∧ u K.1.1 = 163) → rd_cert u n (0, s, none) 0 0 ok ik 0 (-1) (-1) [] D2 D3 D4 D5 D6 D7 = (let z27 := H; let z32 := K; (let z70 := rd_fin z32.1 o21.2; (let zb121 := (rd_bits u n (rd_alg u n z70 11 o8.2) o8.2); (let z121 := rd_sig u n z70 o8.2; (z121, (z27.2.1, z27.2.2.1), (z27.2.2.2.1, z27.2.2.2.2.1), (z27.2.2.2.2.2.1, z27.2.2.2.2.2.2.1), (z32.2.1, z32.2.2.1), (o8.1.1, o21.2), (zb121.1.1, zb121.2), ok, ik, z27.2.2.2.2.2.2.2.2.1, z32.2.2.2.1, z32.2.2.2.2, 0, -1, -1, 0, z27.2.2.2.2.2.2.2.2.2.1, 0, z27.2.2.2.2.2.2.2.2.2.2.1, z27.2.2.2.2.2.2.2.2.2.2.2, [], D2, D3, D4, D5, D6, D7, 0, 0)))))) := by
    rintro o8 o21 H K rfl rfl rfl rfl
    exact ⟨fun c => if_pos c, fun c => if_neg c⟩
  obtain ⟨o8, h8⟩ : ∃ z, rd_opn u n (0, s, none) 48 n = z := ⟨_, rfl⟩
  obtain ⟨o21, h21⟩ : ∃ z, rd_opn u n o8.1 48 o8.2 = z := ⟨_, rfl⟩
  obtain ⟨H, hH⟩ : ∃ z, rd_hdC u n o21.1 o21.2 = z := ⟨_, rfl⟩
  obtain ⟨K, hK⟩ : ∃ z, rd_key u n H.1 o21.2 = z := ⟨_, rfl⟩
  have e := eP o8 o21 H K h8 h21 hH hK
  have hs : b01 H.2.2.2.2.2.2.2.2.2.1 := by
    rw [← hH]
    unfold rd_hdC
    exact b01_zP _
  clear eP h8 h21 hH hK
  by_cases c : (K.1.2.2 = none ∧ K.1.1 < o21.2 ∧ u K.1.1 = 163)
  · rw [e.1 c]
    exact ⟨ext_ca _ _ _ _ _ _ _ _ _ _ _ _ _ _ _ _ _ (Or.inl rfl), hs⟩
  · rw [e.2 c]
    exact ⟨Or.inl rfl, hs⟩
set_option maxHeartbeats 4000000 in
theorem cert_ty {γ : cG} {sb : sB} {κ : kE} {Ad : List Nat} {ν : Nat → cN} {ω : Nat → List Nat} {L : Nat} {A : Nat → Prop} {Gb : va_W} (res ns1 ns2 ns3 l1 l2 l3 l4 l5 l6 en ha si q1 q2 q3 q4 q5 q6 okA ikA t rd ki n : Nat) (s1 s2 s3 s4 s5 s6 ok ik : Nat × Nat) (D1 D2 D3 D4 D5 D6 : List (Nat × Nat)) (o1 o2 o3 o4 o5 o6 o7 : alD) (m1 m2 m3 m4 m5 m6 me : Int32) (i8 i9 i10 ca pn us i14 i15 k16 k17 k18 i27 : Int32) (g25 g26 : Int64) (cr ck : va_E) (f8 f16 : Nat → Int32) (u : Nat → Nat) (pl : va_W) (h : TY γ κ Ad ν ω L Gb) (hn : n < 2 ^ 18) (hu : ∀ j, u j < 256) (hE1 : elS t n pl o1 D1) (hL1 : D1.length < 2 ^ 30) (hE2 : elS t n pl o2 D2) (hL2 : D2.length < 2 ^ 30) (hE3 : elS t n pl o3 D3) (hL3 : D3.length < 2 ^ 30) (hE4 : elS t n pl o4 D4) (hL4 : D4.length < 2 ^ 30) (hE5 : elS t n pl o5 D5) (hL5 : D5.length < 2 ^ 30) (hE6 : elS t n pl o6 D6) (hL6 : D6.length < 2 ^ 30) (hok : slI t n pl okA ok) (hik : slI t n pl ikA ik) (hq1 : s1.1 ≤ s1.2 ∧ s1.2 ≤ n) (hq2 : s2.1 ≤ s2.2 ∧ s2.2 ≤ n) (hq3 : s3.1 ≤ s3.2 ∧ s3.2 ≤ n) (hq4 : s4.1 ≤ s4.2 ∧ s4.2 ≤ n) (hq5 : s5.1 ≤ s5.2 ∧ s5.2 ≤ n) (hq6 : s6.1 ≤ s6.2 ∧ s6.2 ≤ n) (hb1 : b01 ca) (hb2 : b01 i15) (hb3 : b01 k16) (hh : ∀ j, j < 8 → f8 j = wN (ν ha) j) (hω : ω res = [ha, si, q4, q6, ns1, ns2, ns3, q1, q3, okA, ikA, q2, en]) (hiu : k18 = nI ((ω en).getD 1 0)) (hω1 : ω q1 = [t, s1.1]) (hω2 : ω q2 = [t, s2.1]) (hω3 : ω q3 = [t, s3.1]) (hω4 : ω q4 = [t, s4.1]) (hω6 : ω q6 = [t, s6.1]) (hωp : ∀ q a b, slc t q a b ∈ pl → a ≤ b → b ≤ n → ω q = [t, a]) (hωa1 : ∀ d, o1 = some d → ∀ i q, i < d.2.1 → d.2.2 i = some q → q = (ω d.1).getD i 0) (hωl1 : alO sb o1 = (ω l1).getD 0 0) (hωa2 : ∀ d, o2 = some d → ∀ i q, i < d.2.1 → d.2.2 i = some q → q = (ω d.1).getD i 0) (hωl2 : alO sb o2 = (ω l2).getD 0 0) (hωa3 : ∀ d, o3 = some d → ∀ i q, i < d.2.1 → d.2.2 i = some q → q = (ω d.1).getD i 0) (hωl3 : alO sb o3 = (ω l3).getD 0 0) (hωa4 : ∀ d, o4 = some d → ∀ i q, i < d.2.1 → d.2.2 i = some q → q = (ω d.1).getD i 0) (hωl4 : alO sb o4 = (ω l4).getD 0 0) (hωa5 : ∀ d, o5 = some d → ∀ i q, i < d.2.1 → d.2.2 i = some q → q = (ω d.1).getD i 0) (hωl5 : alO sb o5 = (ω l5).getD 0 0) (hωa6 : ∀ d, o6 = some d → ∀ i q, i < d.2.1 → d.2.2 i = some q → q = (ω d.1).getD i 0) (hωl6 : alO sb o6 = (ω l6).getD 0 0) (hωe : alO sb none = (ω en).getD 0 0) (hωn1 : l1 = (ω ns1).getD 0 0 ∧ l2 = (ω ns1).getD 1 0) (hωn2 : l3 = (ω ns2).getD 0 0 ∧ l4 = (ω ns2).getD 1 0) (hωn3 : l5 = (ω ns3).getD 0 0 ∧ l6 = (ω ns3).getD 1 0) (hωt : ∀ j, j < n → u j = (ω t).getD j 0) (hωs : sgR (ω si) f16) (hD : va_D A ((res, .inr (3, [.ref ns1, .ref ns2, .ref ns3, .ref q1, .ref q3, .ref q4, .ref okA, .ref ikA, .int i8, .int i9, .int i10, .int ca, .int pn, .int us, .int i14, .int i15, .int k16, .int k17, .int k18, .ref ha, .ref si, .ref en, .ref q5, .ref q6, .ref q2, .long g25, .long g26, .int i27])) :: ((ns1, .inr (1, [.ref l1, .ref l2])) :: ((ns2, .inr (1, [.ref l3, .ref l4])) :: ((ns3, .inr (1, [.ref l5, .ref l6])) :: ((l1, .inr (11, [.ref (alO sb o1), .int (nI D1.length), .int m1])) :: ((l2, .inr (11, [.ref (alO sb o2), .int (nI D2.length), .int m2])) :: ((l3, .inr (11, [.ref (alO sb o3), .int (nI D3.length), .int m3])) :: ((l4, .inr (11, [.ref (alO sb o4), .int (nI D4.length), .int m4])) :: ((l5, .inr (11, [.ref (alO sb o5), .int (nI D5.length), .int m5])) :: ((l6, .inr (11, [.ref (alO sb o6), .int (nI D6.length), .int m6])) :: ((en, .inr (11, [.ref (alO sb none), .int (nI 0), .int me])) :: ((ha, .inl (γ.2.1, 8, .inl f8)) :: ((si, .inl (γ.2.1, 16, .inl f16)) :: ((q1, .inr (0, [.ref t, .int (nI s1.1), .int (nI s1.2)])) :: ((q2, .inr (0, [.ref t, .int (nI s2.1), .int (nI s2.2)])) :: ((q3, .inr (0, [.ref t, .int (nI s3.1), .int (nI s3.2)])) :: ((q4, .inr (0, [.ref t, .int (nI s4.1), .int (nI s4.2)])) :: ((q5, .inr (0, [.ref t, .int (nI s5.1), .int (nI s5.2)])) :: ((q6, .inr (0, [.ref t, .int (nI s6.1), .int (nI s6.2)])) :: (alC γ.2.2.2 o1 ++ (alC γ.2.2.2 o2 ++ (alC γ.2.2.2 o3 ++ (alC γ.2.2.2 o4 ++ (alC γ.2.2.2 o5 ++ (alC γ.2.2.2 o6 ++ (pl ++ ((t, .inl (γ.1, n, .inl (tx u))) :: ((rd, cr) :: ((ki, ck) :: (alC γ.2.2.2 o7 ++ Gb))))))))))))))))))))))))))))))) : ∃ κ' Ad', KX κ Ad κ' Ad' ((rd, cr) :: ((ki, ck) :: (alC γ.2.2.2 o7 ++ Gb))) ∧ TY γ κ' Ad' (nuR ν res (i8, i9, i10, ca, pn, us, i14, i15, k16, g25, g26, i27, k17)) ω L ((res, .inr (3, [.ref ns1, .ref ns2, .ref ns3, .ref q1, .ref q3, .ref q4, .ref okA, .ref ikA, .int i8, .int i9, .int i10, .int ca, .int pn, .int us, .int i14, .int i15, .int k16, .int k17, .int k18, .ref ha, .ref si, .ref en, .ref q5, .ref q6, .ref q2, .long g25, .long g26, .int i27])) :: ((ns1, .inr (1, [.ref l1, .ref l2])) :: ((ns2, .inr (1, [.ref l3, .ref l4])) :: ((ns3, .inr (1, [.ref l5, .ref l6])) :: ((l1, .inr (11, [.ref (alO sb o1), .int (nI D1.length), .int m1])) :: ((l2, .inr (11, [.ref (alO sb o2), .int (nI D2.length), .int m2])) :: ((l3, .inr (11, [.ref (alO sb o3), .int (nI D3.length), .int m3])) :: ((l4, .inr (11, [.ref (alO sb o4), .int (nI D4.length), .int m4])) :: ((l5, .inr (11, [.ref (alO sb o5), .int (nI D5.length), .int m5])) :: ((l6, .inr (11, [.ref (alO sb o6), .int (nI D6.length), .int m6])) :: ((en, .inr (11, [.ref (alO sb none), .int (nI 0), .int me])) :: ((ha, .inl (γ.2.1, 8, .inl f8)) :: ((si, .inl (γ.2.1, 16, .inl f16)) :: ((q1, .inr (0, [.ref t, .int (nI s1.1), .int (nI s1.2)])) :: ((q2, .inr (0, [.ref t, .int (nI s2.1), .int (nI s2.2)])) :: ((q3, .inr (0, [.ref t, .int (nI s3.1), .int (nI s3.2)])) :: ((q4, .inr (0, [.ref t, .int (nI s4.1), .int (nI s4.2)])) :: ((q5, .inr (0, [.ref t, .int (nI s5.1), .int (nI s5.2)])) :: ((q6, .inr (0, [.ref t, .int (nI s6.1), .int (nI s6.2)])) :: (alC γ.2.2.2 o1 ++ (alC γ.2.2.2 o2 ++ (alC γ.2.2.2 o3 ++ (alC γ.2.2.2 o4 ++ (alC γ.2.2.2 o5 ++ (alC γ.2.2.2 o6 ++ (pl ++ ((t, .inl (γ.1, n, .inl (tx u))) :: ((rd, cr) :: ((ki, ck) :: (alC γ.2.2.2 o7 ++ Gb)))))))))))))))))))))))))))))) ∧ tK κ' Ad' res (8, D1.length, s1.2 - s1.1) ∧ tK κ' Ad' q5 (2, s5.2 - s5.1, 0) ∧ tK κ' Ad' t (1, n, 1) ∧ tK κ' Ad' ha (6, 8, 0) ∧ tK κ' Ad' q6 (2, s6.2 - s6.1, 1) ∧ tK κ' Ad' q4 (2, s4.2 - s4.1, 1) ∧ cO κ' (nuR ν res (i8, i9, i10, ca, pn, us, i14, i15, k16, g25, g26, i27, k17)) ω res = cQm u s2 s3 s1 ok ik D1 D2 D3 D4 D5 D6 g25 g26 i27 ca pn us i8 ∧ ∀ b, b ∈ Ad' → (κ' b).1 = 8 ∨ (κ' b).1 = 9 → (b ∈ Ad ∧ κ' b = κ b) ∨ b = res := by
  have hd0 := hD
  have hd1 := hd0.tl
  have hd2 := hd1.tl
  have hd3 := hd2.tl
  have hd4 := hd3.tl
  have hd5 := hd4.tl
  have hd6 := hd5.tl
  have hd7 := hd6.tl
  have hd8 := hd7.tl
  have hd9 := hd8.tl
  have hd10 := hd9.tl
  have hd11 := hd10.tl
  have hd12 := hd11.tl
  have hd13 := hd12.tl
  have hd14 := hd13.tl
  have hd15 := hd14.tl
  have hd16 := hd15.tl
  have hd17 := hd16.tl
  have hd18 := hd17.tl
  have hd19 := hd18.tl
  have hd20 := hd19.bk (W1 := alC γ.2.2.2 o1)
  have hd21 := hd20.bk (W1 := alC γ.2.2.2 o2)
  have hd22 := hd21.bk (W1 := alC γ.2.2.2 o3)
  have hd23 := hd22.bk (W1 := alC γ.2.2.2 o4)
  have hd24 := hd23.bk (W1 := alC γ.2.2.2 o5)
  have hd25 := hd24.bk (W1 := alC γ.2.2.2 o6)
  have hd26 := hd25.bk (W1 := pl)
  have hd27 := hd26.tl
  have hd28 := hd27.tl
  have hd29 := hd28.tl
  have hres : ∀ b, b ∈ Ad → nuR ν res (i8, i9, i10, ca, pn, us, i14, i15, k16, g25, g26, i27, k17) b = ν b := fun b hb => if_neg (by
    obtain ⟨c9, hb9⟩ := h.1 b hb
    have hb9 : (b, c9) ∈ ((rd, cr) :: ((ki, ck) :: (alC γ.2.2.2 o7 ++ Gb))) := List.mem_cons_of_mem _ (List.mem_cons_of_mem _ (List.mem_append_right _ hb9))
    have hb9 := List.mem_cons_of_mem (t, (.inl (γ.1, n, .inl (tx u)) : va_E)) hb9
    have hb9 := List.mem_append_right pl hb9
    have hb9 := List.mem_append_right (alC γ.2.2.2 o6) hb9
    have hb9 := List.mem_append_right (alC γ.2.2.2 o5) hb9
    have hb9 := List.mem_append_right (alC γ.2.2.2 o4) hb9
    have hb9 := List.mem_append_right (alC γ.2.2.2 o3) hb9
    have hb9 := List.mem_append_right (alC γ.2.2.2 o2) hb9
    have hb9 := List.mem_append_right (alC γ.2.2.2 o1) hb9
    have hb9 := List.mem_cons_of_mem ((q6, .inr (0, [.ref t, .int (nI s6.1), .int (nI s6.2)])) : Nat × va_E) hb9
    have hb9 := List.mem_cons_of_mem ((q5, .inr (0, [.ref t, .int (nI s5.1), .int (nI s5.2)])) : Nat × va_E) hb9
    have hb9 := List.mem_cons_of_mem ((q4, .inr (0, [.ref t, .int (nI s4.1), .int (nI s4.2)])) : Nat × va_E) hb9
    have hb9 := List.mem_cons_of_mem ((q3, .inr (0, [.ref t, .int (nI s3.1), .int (nI s3.2)])) : Nat × va_E) hb9
    have hb9 := List.mem_cons_of_mem ((q2, .inr (0, [.ref t, .int (nI s2.1), .int (nI s2.2)])) : Nat × va_E) hb9
    have hb9 := List.mem_cons_of_mem ((q1, .inr (0, [.ref t, .int (nI s1.1), .int (nI s1.2)])) : Nat × va_E) hb9
    have hb9 := List.mem_cons_of_mem ((si, .inl (γ.2.1, 16, .inl f16)) : Nat × va_E) hb9
    have hb9 := List.mem_cons_of_mem ((ha, .inl (γ.2.1, 8, .inl f8)) : Nat × va_E) hb9
    have hb9 := List.mem_cons_of_mem ((en, .inr (11, [.ref (alO sb none), .int (nI 0), .int me])) : Nat × va_E) hb9
    have hb9 := List.mem_cons_of_mem ((l6, .inr (11, [.ref (alO sb o6), .int (nI D6.length), .int m6])) : Nat × va_E) hb9
    have hb9 := List.mem_cons_of_mem ((l5, .inr (11, [.ref (alO sb o5), .int (nI D5.length), .int m5])) : Nat × va_E) hb9
    have hb9 := List.mem_cons_of_mem ((l4, .inr (11, [.ref (alO sb o4), .int (nI D4.length), .int m4])) : Nat × va_E) hb9
    have hb9 := List.mem_cons_of_mem ((l3, .inr (11, [.ref (alO sb o3), .int (nI D3.length), .int m3])) : Nat × va_E) hb9
    have hb9 := List.mem_cons_of_mem ((l2, .inr (11, [.ref (alO sb o2), .int (nI D2.length), .int m2])) : Nat × va_E) hb9
    have hb9 := List.mem_cons_of_mem ((l1, .inr (11, [.ref (alO sb o1), .int (nI D1.length), .int m1])) : Nat × va_E) hb9
    have hb9 := List.mem_cons_of_mem ((ns3, .inr (1, [.ref l5, .ref l6])) : Nat × va_E) hb9
    have hb9 := List.mem_cons_of_mem ((ns2, .inr (1, [.ref l3, .ref l4])) : Nat × va_E) hb9
    have hb9 := List.mem_cons_of_mem ((ns1, .inr (1, [.ref l1, .ref l2])) : Nat × va_E) hb9
    exact nw_ne hd0 hb9)
  have hTy := h.nuX hres
  have hTy := TY.blkN (B := alC γ.2.2.2 o7) hTy hd29
  have hTy := hTy.consN hd28
  have hTy := hTy.consN hd27
  have hha : nuR ν res (i8, i9, i10, ca, pn, us, i14, i15, k16, g25, g26, i27, k17) ha = ν ha := if_neg (nw_ne hd0 (show ((ha, .inl (γ.2.1, 8, .inl f8)) : Nat × va_E) ∈ _ from List.mem_of_getElem? (i := 10) rfl))
  have x0 := KX9.rf κ Ad ((rd, cr) :: ((ki, ck) :: (alC γ.2.2.2 o7 ++ Gb)))
  have hm0 : ∀ q : Nat × va_E, q ∈ ((rd, cr) :: ((ki, ck) :: (alC γ.2.2.2 o7 ++ Gb))) → q ∈ ((rd, cr) :: ((ki, ck) :: (alC γ.2.2.2 o7 ++ Gb))) := fun _ h => h
  obtain ⟨κ1, Ad1, y1, hTy, kt⟩ := hTy.textX hn hu hωt hd26
  have x1 := x0.tr y1 hm0
  have hm1 := fun q hq => List.mem_cons_of_mem ((t, .inl (γ.1, n, .inl (tx u))) : Nat × va_E) (hm0 q hq)
  obtain ⟨κ2, Ad2, y2, hTy, kp⟩ := TY.pool hn hTy kt hωp hd25
  have x2 := x1.tr y2 hm1
  have hm2 := fun q hq => List.mem_append_right pl (hm1 q hq)
  have kt := y2.up kt
  obtain ⟨κ3, Ad3, y3, hTy, a6⟩ := TY.arrS (sb := sb) hTy hE6 kp hωa6 hd24
  have x3 := x2.tr y3 hm2
  have hm3 := fun q hq => List.mem_append_right (alC γ.2.2.2 o6) (hm2 q hq)
  have kt := y3.up kt
  have kp := fun q a b h1 h2 h3 => y3.up (kp q a b h1 h2 h3)
  obtain ⟨κ4, Ad4, y4, hTy, a5⟩ := TY.arrS (sb := sb) hTy hE5 kp hωa5 hd23
  have x4 := x3.tr y4 hm3
  have hm4 := fun q hq => List.mem_append_right (alC γ.2.2.2 o5) (hm3 q hq)
  have kt := y4.up kt
  have kp := fun q a b h1 h2 h3 => y4.up (kp q a b h1 h2 h3)
  have a6 := fun z => y4.up (a6 z)
  obtain ⟨κ5, Ad5, y5, hTy, a4⟩ := TY.arrS (sb := sb) hTy hE4 kp hωa4 hd22
  have x5 := x4.tr y5 hm4
  have hm5 := fun q hq => List.mem_append_right (alC γ.2.2.2 o4) (hm4 q hq)
  have kt := y5.up kt
  have kp := fun q a b h1 h2 h3 => y5.up (kp q a b h1 h2 h3)
  have a6 := fun z => y5.up (a6 z)
  have a5 := fun z => y5.up (a5 z)
  obtain ⟨κ6, Ad6, y6, hTy, a3⟩ := TY.arrS (sb := sb) hTy hE3 kp hωa3 hd21
  have x6 := x5.tr y6 hm5
  have hm6 := fun q hq => List.mem_append_right (alC γ.2.2.2 o3) (hm5 q hq)
  have kt := y6.up kt
  have kp := fun q a b h1 h2 h3 => y6.up (kp q a b h1 h2 h3)
  have a6 := fun z => y6.up (a6 z)
  have a5 := fun z => y6.up (a5 z)
  have a4 := fun z => y6.up (a4 z)
  obtain ⟨κ7, Ad7, y7, hTy, a2⟩ := TY.arrS (sb := sb) hTy hE2 kp hωa2 hd20
  have x7 := x6.tr y7 hm6
  have hm7 := fun q hq => List.mem_append_right (alC γ.2.2.2 o2) (hm6 q hq)
  have kt := y7.up kt
  have kp := fun q a b h1 h2 h3 => y7.up (kp q a b h1 h2 h3)
  have a6 := fun z => y7.up (a6 z)
  have a5 := fun z => y7.up (a5 z)
  have a4 := fun z => y7.up (a4 z)
  have a3 := fun z => y7.up (a3 z)
  obtain ⟨κ8, Ad8, y8, hTy, a1⟩ := TY.arrS (sb := sb) hTy hE1 kp hωa1 hd19
  have x8 := x7.tr y8 hm7
  have hm8 := fun q hq => List.mem_append_right (alC γ.2.2.2 o1) (hm7 q hq)
  have kt := y8.up kt
  have kp := fun q a b h1 h2 h3 => y8.up (kp q a b h1 h2 h3)
  have a6 := fun z => y8.up (a6 z)
  have a5 := fun z => y8.up (a5 z)
  have a4 := fun z => y8.up (a4 z)
  have a3 := fun z => y8.up (a3 z)
  have a2 := fun z => y8.up (a2 z)
  obtain ⟨κ9, Ad9, y9, hTy, kq6⟩ := hTy.sliceX kt hq6.1 hq6.2 hn hω6 hd18
  have x9 := x8.tr y9 hm8
  have hm9 := fun q hq => List.mem_cons_of_mem ((q6, .inr (0, [.ref t, .int (nI s6.1), .int (nI s6.2)])) : Nat × va_E) (hm8 q hq)
  have kt := y9.up kt
  have kp := fun q a b h1 h2 h3 => y9.up (kp q a b h1 h2 h3)
  have a6 := fun z => y9.up (a6 z)
  have a5 := fun z => y9.up (a5 z)
  have a4 := fun z => y9.up (a4 z)
  have a3 := fun z => y9.up (a3 z)
  have a2 := fun z => y9.up (a2 z)
  have a1 := fun z => y9.up (a1 z)
  obtain ⟨κ10, Ad10, y10, hTy, kq5⟩ := hTy.slice kt hq5.1 hq5.2 hn hd17
  have x10 := x9.tr y10 hm9
  have hm10 := fun q hq => List.mem_cons_of_mem ((q5, .inr (0, [.ref t, .int (nI s5.1), .int (nI s5.2)])) : Nat × va_E) (hm9 q hq)
  have kt := y10.up kt
  have kp := fun q a b h1 h2 h3 => y10.up (kp q a b h1 h2 h3)
  have a6 := fun z => y10.up (a6 z)
  have a5 := fun z => y10.up (a5 z)
  have a4 := fun z => y10.up (a4 z)
  have a3 := fun z => y10.up (a3 z)
  have a2 := fun z => y10.up (a2 z)
  have a1 := fun z => y10.up (a1 z)
  have kq6 := y10.up kq6
  obtain ⟨κ11, Ad11, y11, hTy, kq4⟩ := hTy.sliceX kt hq4.1 hq4.2 hn hω4 hd16
  have x11 := x10.tr y11 hm10
  have hm11 := fun q hq => List.mem_cons_of_mem ((q4, .inr (0, [.ref t, .int (nI s4.1), .int (nI s4.2)])) : Nat × va_E) (hm10 q hq)
  have kt := y11.up kt
  have kp := fun q a b h1 h2 h3 => y11.up (kp q a b h1 h2 h3)
  have a6 := fun z => y11.up (a6 z)
  have a5 := fun z => y11.up (a5 z)
  have a4 := fun z => y11.up (a4 z)
  have a3 := fun z => y11.up (a3 z)
  have a2 := fun z => y11.up (a2 z)
  have a1 := fun z => y11.up (a1 z)
  have kq6 := y11.up kq6
  have kq5 := y11.up kq5
  obtain ⟨κ12, Ad12, y12, hTy, kq3⟩ := hTy.sliceX kt hq3.1 hq3.2 hn hω3 hd15
  have x12 := x11.tr y12 hm11
  have hm12 := fun q hq => List.mem_cons_of_mem ((q3, .inr (0, [.ref t, .int (nI s3.1), .int (nI s3.2)])) : Nat × va_E) (hm11 q hq)
  have kt := y12.up kt
  have kp := fun q a b h1 h2 h3 => y12.up (kp q a b h1 h2 h3)
  have a6 := fun z => y12.up (a6 z)
  have a5 := fun z => y12.up (a5 z)
  have a4 := fun z => y12.up (a4 z)
  have a3 := fun z => y12.up (a3 z)
  have a2 := fun z => y12.up (a2 z)
  have a1 := fun z => y12.up (a1 z)
  have kq6 := y12.up kq6
  have kq5 := y12.up kq5
  have kq4 := y12.up kq4
  obtain ⟨κ13, Ad13, y13, hTy, kq2⟩ := hTy.sliceX kt hq2.1 hq2.2 hn hω2 hd14
  have x13 := x12.tr y13 hm12
  have hm13 := fun q hq => List.mem_cons_of_mem ((q2, .inr (0, [.ref t, .int (nI s2.1), .int (nI s2.2)])) : Nat × va_E) (hm12 q hq)
  have kt := y13.up kt
  have kp := fun q a b h1 h2 h3 => y13.up (kp q a b h1 h2 h3)
  have a6 := fun z => y13.up (a6 z)
  have a5 := fun z => y13.up (a5 z)
  have a4 := fun z => y13.up (a4 z)
  have a3 := fun z => y13.up (a3 z)
  have a2 := fun z => y13.up (a2 z)
  have a1 := fun z => y13.up (a1 z)
  have kq6 := y13.up kq6
  have kq5 := y13.up kq5
  have kq4 := y13.up kq4
  have kq3 := y13.up kq3
  obtain ⟨κ14, Ad14, y14, hTy, kq1⟩ := hTy.sliceX kt hq1.1 hq1.2 hn hω1 hd13
  have x14 := x13.tr y14 hm13
  have hm14 := fun q hq => List.mem_cons_of_mem ((q1, .inr (0, [.ref t, .int (nI s1.1), .int (nI s1.2)])) : Nat × va_E) (hm13 q hq)
  have kt := y14.up kt
  have kp := fun q a b h1 h2 h3 => y14.up (kp q a b h1 h2 h3)
  have a6 := fun z => y14.up (a6 z)
  have a5 := fun z => y14.up (a5 z)
  have a4 := fun z => y14.up (a4 z)
  have a3 := fun z => y14.up (a3 z)
  have a2 := fun z => y14.up (a2 z)
  have a1 := fun z => y14.up (a1 z)
  have kq6 := y14.up kq6
  have kq5 := y14.up kq5
  have kq4 := y14.up kq4
  have kq3 := y14.up kq3
  have kq2 := y14.up kq2
  obtain ⟨κ15, Ad15, y15, hTy, ksi⟩ := TY.intsS (r := res) hTy hωs hd12
  have x15 := x14.tr y15 hm14
  have hm15 := fun q hq => List.mem_cons_of_mem ((si, .inl (γ.2.1, 16, .inl f16)) : Nat × va_E) (hm14 q hq)
  have kt := y15.up kt
  have kp := fun q a b h1 h2 h3 => y15.up (kp q a b h1 h2 h3)
  have a6 := fun z => y15.up (a6 z)
  have a5 := fun z => y15.up (a5 z)
  have a4 := fun z => y15.up (a4 z)
  have a3 := fun z => y15.up (a3 z)
  have a2 := fun z => y15.up (a2 z)
  have a1 := fun z => y15.up (a1 z)
  have kq6 := y15.up kq6
  have kq5 := y15.up kq5
  have kq4 := y15.up kq4
  have kq3 := y15.up kq3
  have kq2 := y15.up kq2
  have kq1 := y15.up kq1
  obtain ⟨κ16, Ad16, y16, hTy, kha⟩ := hTy.ints (by decide) (fun _ j9 hj9 => by rw [hha]; exact hh j9 hj9) (fun e => absurd e (by decide)) hd11
  have x16 := x15.tr y16 hm15
  have hm16 := fun q hq => List.mem_cons_of_mem ((ha, .inl (γ.2.1, 8, .inl f8)) : Nat × va_E) (hm15 q hq)
  have kt := y16.up kt
  have kp := fun q a b h1 h2 h3 => y16.up (kp q a b h1 h2 h3)
  have a6 := fun z => y16.up (a6 z)
  have a5 := fun z => y16.up (a5 z)
  have a4 := fun z => y16.up (a4 z)
  have a3 := fun z => y16.up (a3 z)
  have a2 := fun z => y16.up (a2 z)
  have a1 := fun z => y16.up (a1 z)
  have kq6 := y16.up kq6
  have kq5 := y16.up kq5
  have kq4 := y16.up kq4
  have kq3 := y16.up kq3
  have kq2 := y16.up kq2
  have kq1 := y16.up kq1
  have ksi := y16.up ksi
  obtain ⟨κ17, Ad17, y17, hTy, ken⟩ := TY.lst (sb := sb) (g := res + 1) (o := none) (K := 0) hTy hωe (by decide) (fun z => absurd z (Nat.lt_irrefl _)) hd10
  have x17 := x16.tr y17 hm16
  have hm17 := fun q hq => List.mem_cons_of_mem ((en, .inr (11, [.ref (alO sb none), .int (nI 0), .int me])) : Nat × va_E) (hm16 q hq)
  have kt := y17.up kt
  have kp := fun q a b h1 h2 h3 => y17.up (kp q a b h1 h2 h3)
  have a6 := fun z => y17.up (a6 z)
  have a5 := fun z => y17.up (a5 z)
  have a4 := fun z => y17.up (a4 z)
  have a3 := fun z => y17.up (a3 z)
  have a2 := fun z => y17.up (a2 z)
  have a1 := fun z => y17.up (a1 z)
  have kq6 := y17.up kq6
  have kq5 := y17.up kq5
  have kq4 := y17.up kq4
  have kq3 := y17.up kq3
  have kq2 := y17.up kq2
  have kq1 := y17.up kq1
  have ksi := y17.up ksi
  have kha := y17.up kha
  obtain ⟨κ18, Ad18, y18, hTy, kl6⟩ := TY.lst (sb := sb) (g := 0) hTy hωl6 hL6 a6 hd9
  have x18 := x17.tr y18 hm17
  have hm18 := fun q hq => List.mem_cons_of_mem ((l6, .inr (11, [.ref (alO sb o6), .int (nI D6.length), .int m6])) : Nat × va_E) (hm17 q hq)
  have kt := y18.up kt
  have kp := fun q a b h1 h2 h3 => y18.up (kp q a b h1 h2 h3)
  have a6 := fun z => y18.up (a6 z)
  have a5 := fun z => y18.up (a5 z)
  have a4 := fun z => y18.up (a4 z)
  have a3 := fun z => y18.up (a3 z)
  have a2 := fun z => y18.up (a2 z)
  have a1 := fun z => y18.up (a1 z)
  have kq6 := y18.up kq6
  have kq5 := y18.up kq5
  have kq4 := y18.up kq4
  have kq3 := y18.up kq3
  have kq2 := y18.up kq2
  have kq1 := y18.up kq1
  have ksi := y18.up ksi
  have kha := y18.up kha
  have ken := y18.up ken
  obtain ⟨κ19, Ad19, y19, hTy, kl5⟩ := TY.lst (sb := sb) (g := 0) hTy hωl5 hL5 a5 hd8
  have x19 := x18.tr y19 hm18
  have hm19 := fun q hq => List.mem_cons_of_mem ((l5, .inr (11, [.ref (alO sb o5), .int (nI D5.length), .int m5])) : Nat × va_E) (hm18 q hq)
  have kt := y19.up kt
  have kp := fun q a b h1 h2 h3 => y19.up (kp q a b h1 h2 h3)
  have a6 := fun z => y19.up (a6 z)
  have a5 := fun z => y19.up (a5 z)
  have a4 := fun z => y19.up (a4 z)
  have a3 := fun z => y19.up (a3 z)
  have a2 := fun z => y19.up (a2 z)
  have a1 := fun z => y19.up (a1 z)
  have kq6 := y19.up kq6
  have kq5 := y19.up kq5
  have kq4 := y19.up kq4
  have kq3 := y19.up kq3
  have kq2 := y19.up kq2
  have kq1 := y19.up kq1
  have ksi := y19.up ksi
  have kha := y19.up kha
  have ken := y19.up ken
  have kl6 := y19.up kl6
  obtain ⟨κ20, Ad20, y20, hTy, kl4⟩ := TY.lst (sb := sb) (g := 0) hTy hωl4 hL4 a4 hd7
  have x20 := x19.tr y20 hm19
  have hm20 := fun q hq => List.mem_cons_of_mem ((l4, .inr (11, [.ref (alO sb o4), .int (nI D4.length), .int m4])) : Nat × va_E) (hm19 q hq)
  have kt := y20.up kt
  have kp := fun q a b h1 h2 h3 => y20.up (kp q a b h1 h2 h3)
  have a6 := fun z => y20.up (a6 z)
  have a5 := fun z => y20.up (a5 z)
  have a4 := fun z => y20.up (a4 z)
  have a3 := fun z => y20.up (a3 z)
  have a2 := fun z => y20.up (a2 z)
  have a1 := fun z => y20.up (a1 z)
  have kq6 := y20.up kq6
  have kq5 := y20.up kq5
  have kq4 := y20.up kq4
  have kq3 := y20.up kq3
  have kq2 := y20.up kq2
  have kq1 := y20.up kq1
  have ksi := y20.up ksi
  have kha := y20.up kha
  have ken := y20.up ken
  have kl6 := y20.up kl6
  have kl5 := y20.up kl5
  obtain ⟨κ21, Ad21, y21, hTy, kl3⟩ := TY.lst (sb := sb) (g := 0) hTy hωl3 hL3 a3 hd6
  have x21 := x20.tr y21 hm20
  have hm21 := fun q hq => List.mem_cons_of_mem ((l3, .inr (11, [.ref (alO sb o3), .int (nI D3.length), .int m3])) : Nat × va_E) (hm20 q hq)
  have kt := y21.up kt
  have kp := fun q a b h1 h2 h3 => y21.up (kp q a b h1 h2 h3)
  have a6 := fun z => y21.up (a6 z)
  have a5 := fun z => y21.up (a5 z)
  have a4 := fun z => y21.up (a4 z)
  have a3 := fun z => y21.up (a3 z)
  have a2 := fun z => y21.up (a2 z)
  have a1 := fun z => y21.up (a1 z)
  have kq6 := y21.up kq6
  have kq5 := y21.up kq5
  have kq4 := y21.up kq4
  have kq3 := y21.up kq3
  have kq2 := y21.up kq2
  have kq1 := y21.up kq1
  have ksi := y21.up ksi
  have kha := y21.up kha
  have ken := y21.up ken
  have kl6 := y21.up kl6
  have kl5 := y21.up kl5
  have kl4 := y21.up kl4
  obtain ⟨κ22, Ad22, y22, hTy, kl2⟩ := TY.lst (sb := sb) (g := 0) hTy hωl2 hL2 a2 hd5
  have x22 := x21.tr y22 hm21
  have hm22 := fun q hq => List.mem_cons_of_mem ((l2, .inr (11, [.ref (alO sb o2), .int (nI D2.length), .int m2])) : Nat × va_E) (hm21 q hq)
  have kt := y22.up kt
  have kp := fun q a b h1 h2 h3 => y22.up (kp q a b h1 h2 h3)
  have a6 := fun z => y22.up (a6 z)
  have a5 := fun z => y22.up (a5 z)
  have a4 := fun z => y22.up (a4 z)
  have a3 := fun z => y22.up (a3 z)
  have a2 := fun z => y22.up (a2 z)
  have a1 := fun z => y22.up (a1 z)
  have kq6 := y22.up kq6
  have kq5 := y22.up kq5
  have kq4 := y22.up kq4
  have kq3 := y22.up kq3
  have kq2 := y22.up kq2
  have kq1 := y22.up kq1
  have ksi := y22.up ksi
  have kha := y22.up kha
  have ken := y22.up ken
  have kl6 := y22.up kl6
  have kl5 := y22.up kl5
  have kl4 := y22.up kl4
  have kl3 := y22.up kl3
  obtain ⟨κ23, Ad23, y23, hTy, kl1⟩ := TY.lst (sb := sb) (g := 0) hTy hωl1 hL1 a1 hd4
  have x23 := x22.tr y23 hm22
  have hm23 := fun q hq => List.mem_cons_of_mem ((l1, .inr (11, [.ref (alO sb o1), .int (nI D1.length), .int m1])) : Nat × va_E) (hm22 q hq)
  have kt := y23.up kt
  have kp := fun q a b h1 h2 h3 => y23.up (kp q a b h1 h2 h3)
  have a6 := fun z => y23.up (a6 z)
  have a5 := fun z => y23.up (a5 z)
  have a4 := fun z => y23.up (a4 z)
  have a3 := fun z => y23.up (a3 z)
  have a2 := fun z => y23.up (a2 z)
  have a1 := fun z => y23.up (a1 z)
  have kq6 := y23.up kq6
  have kq5 := y23.up kq5
  have kq4 := y23.up kq4
  have kq3 := y23.up kq3
  have kq2 := y23.up kq2
  have kq1 := y23.up kq1
  have ksi := y23.up ksi
  have kha := y23.up kha
  have ken := y23.up ken
  have kl6 := y23.up kl6
  have kl5 := y23.up kl5
  have kl4 := y23.up kl4
  have kl3 := y23.up kl3
  have kl2 := y23.up kl2
  obtain ⟨κ24, Ad24, y24, hTy, kn3⟩ := TY.nset hTy hωn3 kl5 kl6 hd3
  have x24 := x23.tr y24 hm23
  have hm24 := fun q hq => List.mem_cons_of_mem ((ns3, .inr (1, [.ref l5, .ref l6])) : Nat × va_E) (hm23 q hq)
  have kt := y24.up kt
  have kp := fun q a b h1 h2 h3 => y24.up (kp q a b h1 h2 h3)
  have a6 := fun z => y24.up (a6 z)
  have a5 := fun z => y24.up (a5 z)
  have a4 := fun z => y24.up (a4 z)
  have a3 := fun z => y24.up (a3 z)
  have a2 := fun z => y24.up (a2 z)
  have a1 := fun z => y24.up (a1 z)
  have kq6 := y24.up kq6
  have kq5 := y24.up kq5
  have kq4 := y24.up kq4
  have kq3 := y24.up kq3
  have kq2 := y24.up kq2
  have kq1 := y24.up kq1
  have ksi := y24.up ksi
  have kha := y24.up kha
  have ken := y24.up ken
  have kl6 := y24.up kl6
  have kl5 := y24.up kl5
  have kl4 := y24.up kl4
  have kl3 := y24.up kl3
  have kl2 := y24.up kl2
  have kl1 := y24.up kl1
  obtain ⟨κ25, Ad25, y25, hTy, kn2⟩ := TY.nset hTy hωn2 kl3 kl4 hd2
  have x25 := x24.tr y25 hm24
  have hm25 := fun q hq => List.mem_cons_of_mem ((ns2, .inr (1, [.ref l3, .ref l4])) : Nat × va_E) (hm24 q hq)
  have kt := y25.up kt
  have kp := fun q a b h1 h2 h3 => y25.up (kp q a b h1 h2 h3)
  have a6 := fun z => y25.up (a6 z)
  have a5 := fun z => y25.up (a5 z)
  have a4 := fun z => y25.up (a4 z)
  have a3 := fun z => y25.up (a3 z)
  have a2 := fun z => y25.up (a2 z)
  have a1 := fun z => y25.up (a1 z)
  have kq6 := y25.up kq6
  have kq5 := y25.up kq5
  have kq4 := y25.up kq4
  have kq3 := y25.up kq3
  have kq2 := y25.up kq2
  have kq1 := y25.up kq1
  have ksi := y25.up ksi
  have kha := y25.up kha
  have ken := y25.up ken
  have kl6 := y25.up kl6
  have kl5 := y25.up kl5
  have kl4 := y25.up kl4
  have kl3 := y25.up kl3
  have kl2 := y25.up kl2
  have kl1 := y25.up kl1
  have kn3 := y25.up kn3
  obtain ⟨κ26, Ad26, y26, hTy, kn1⟩ := TY.nset hTy hωn1 kl1 kl2 hd1
  have x26 := x25.tr y26 hm25
  have hm26 := fun q hq => List.mem_cons_of_mem ((ns1, .inr (1, [.ref l1, .ref l2])) : Nat × va_E) (hm25 q hq)
  have kt := y26.up kt
  have kp := fun q a b h1 h2 h3 => y26.up (kp q a b h1 h2 h3)
  have a6 := fun z => y26.up (a6 z)
  have a5 := fun z => y26.up (a5 z)
  have a4 := fun z => y26.up (a4 z)
  have a3 := fun z => y26.up (a3 z)
  have a2 := fun z => y26.up (a2 z)
  have a1 := fun z => y26.up (a1 z)
  have kq6 := y26.up kq6
  have kq5 := y26.up kq5
  have kq4 := y26.up kq4
  have kq3 := y26.up kq3
  have kq2 := y26.up kq2
  have kq1 := y26.up kq1
  have ksi := y26.up ksi
  have kha := y26.up kha
  have ken := y26.up ken
  have kl6 := y26.up kl6
  have kl5 := y26.up kl5
  have kl4 := y26.up kl4
  have kl3 := y26.up kl3
  have kl2 := y26.up kl2
  have kl1 := y26.up kl1
  have kn3 := y26.up kn3
  have kn2 := y26.up kn2
  have kok := kp okA ok.1 ok.2 hok.1 hok.2.1 hok.2.2
  have kik := kp ikA ik.1 ik.2 hik.1 hik.2.1 hik.2.2
  have e9 : nuR ν res (i8, i9, i10, ca, pn, us, i14, i15, k16, g25, g26, i27, k17) res = (i8, i9, i10, ca, pn, us, i14, i15, k16, g25, g26, i27, k17) := if_pos rfl
  obtain ⟨κ', Ad', y9, hTy, kr, h8n⟩ := hTy.consE8 (k := (8, D1.length, s1.2 - s1.1)) hd0 (by simp) (fun κ' Ad' hX hK => by
    have ok9 := ok_8 (γ := γ) (ω := ω) (L := L) (ν := nuR ν res (i8, i9, i10, ca, pn, us, i14, i15, k16, g25, g26, i27, k17)) hK ⟨⟨_, hX.up kn1⟩, ⟨_, _, hX.up kn2⟩, ⟨_, _, hX.up kn3⟩, hX.up kq1, ⟨_, hX.up kq3⟩, ⟨_, hX.up kq4⟩, ⟨_, hX.up kok⟩, ⟨_, hX.up kik⟩, hX.up kha, hX.up ksi, hX.up ken, ⟨_, hX.up kq5⟩, ⟨_, hX.up kq6⟩, ⟨_, hX.up kq2⟩⟩ (by rw [e9]; exact ⟨hb1, hb2, hb3, hω, hiu⟩) (iu := k18)
    rw [e9] at ok9
    exact ok9)
  refine ⟨κ', Ad', x26.1.tr y9 hm26, hTy, kr, y9.up kq5, y9.up kt, y9.up kha, y9.up kq6, y9.up kq4, ?_, fun b hb hb8 => ?_⟩
  · unfold cO
    rw [hω]
    show (sO κ' ω q2, sO κ' ω q3, sO κ' ω q1, sO κ' ω okA, sO κ' ω ikA, lO κ' ω ((ω ns1).getD 0 0), lO κ' ω ((ω ns1).getD 1 0), lO κ' ω ((ω ns2).getD 0 0), lO κ' ω ((ω ns2).getD 1 0), lO κ' ω ((ω ns3).getD 0 0), lO κ' ω ((ω ns3).getD 1 0), (nuR ν res (i8, i9, i10, ca, pn, us, i14, i15, k16, g25, g26, i27, k17) res).2.2.2.2.2.2.2.2.2.1, (nuR ν res (i8, i9, i10, ca, pn, us, i14, i15, k16, g25, g26, i27, k17) res).2.2.2.2.2.2.2.2.2.2.1, (nuR ν res (i8, i9, i10, ca, pn, us, i14, i15, k16, g25, g26, i27, k17) res).2.2.2.2.2.2.2.2.2.2.2.1, (nuR ν res (i8, i9, i10, ca, pn, us, i14, i15, k16, g25, g26, i27, k17) res).2.2.2.1, (nuR ν res (i8, i9, i10, ca, pn, us, i14, i15, k16, g25, g26, i27, k17) res).2.2.2.2.1, (nuR ν res (i8, i9, i10, ca, pn, us, i14, i15, k16, g25, g26, i27, k17) res).2.2.2.2.2.1, (nuR ν res (i8, i9, i10, ca, pn, us, i14, i15, k16, g25, g26, i27, k17) res).1, sO κ' ω q3) = _
    rw [e9, ← hωn1.1, ← hωn1.2, ← hωn2.1, ← hωn2.2, ← hωn3.1, ← hωn3.2, sO_u (y9.up kq2) hω2 hωt (by omega), sO_u (y9.up kq3) hω3 hωt (by omega), sO_u (y9.up kq1) hω1 hωt (by omega), sO_u (y9.up kok) (hωp okA ok.1 ok.2 hok.1 hok.2.1 hok.2.2) hωt (by have := hok.2; omega), sO_u (y9.up kik) (hωp ikA ik.1 ik.2 hik.1 hik.2.1 hik.2.2) hωt (by have := hik.2; omega), lO_of (sb := sb) (y9.up kl1) hωl1.symm hE1 (fun q a b h1 h2 h3 => ⟨y9.up (kp q a b h1 h2 h3), hωp q a b h1 h2 h3⟩) hωa1 hωt, lO_of (sb := sb) (y9.up kl2) hωl2.symm hE2 (fun q a b h1 h2 h3 => ⟨y9.up (kp q a b h1 h2 h3), hωp q a b h1 h2 h3⟩) hωa2 hωt, lO_of (sb := sb) (y9.up kl3) hωl3.symm hE3 (fun q a b h1 h2 h3 => ⟨y9.up (kp q a b h1 h2 h3), hωp q a b h1 h2 h3⟩) hωa3 hωt, lO_of (sb := sb) (y9.up kl4) hωl4.symm hE4 (fun q a b h1 h2 h3 => ⟨y9.up (kp q a b h1 h2 h3), hωp q a b h1 h2 h3⟩) hωa4 hωt, lO_of (sb := sb) (y9.up kl5) hωl5.symm hE5 (fun q a b h1 h2 h3 => ⟨y9.up (kp q a b h1 h2 h3), hωp q a b h1 h2 h3⟩) hωa5 hωt, lO_of (sb := sb) (y9.up kl6) hωl6.symm hE6 (fun q a b h1 h2 h3 => ⟨y9.up (kp q a b h1 h2 h3), hωp q a b h1 h2 h3⟩) hωa6 hωt]
    rfl
  rcases h8n b hb with e | e
  · exact Or.inr e
  · have hb9 := x26.2 b e (by rw [← y9.1 b e]; exact hb8)
    exact Or.inl ⟨hb9, (y9.1 b e).trans (x26.1.1 b hb9)⟩
set_option maxHeartbeats 4000000 in
theorem list_ty {γ : cG} {sb : sB} {κ : kE} {Ad : List Nat} {ν : Nat → cN} {ω : Nat → List Nat} {L : Nat} {A : Nat → Prop} {Gb : va_W} (res en ha si q2 q5 q6 t rd ki n : Nat) (s2 s5 s6 : Nat × Nat) (D1 : List (Nat × Nat)) (o1 o7 : alD) (m1 : Int32) (i27 : Int32) (g25 g26 : Int64) (cr ck : va_E) (f8 f16 : Nat → Int32) (u : Nat → Nat) (pl : va_W) (N : cN) (h : TY γ κ Ad ν ω L Gb) (hn : n < 2 ^ 18) (hu : ∀ j, u j < 256) (hE1 : elS t n pl o1 D1) (hL1 : D1.length < 2 ^ 30) (hq2 : s2.1 ≤ s2.2 ∧ s2.2 ≤ n) (hq5 : s5.1 ≤ s5.2 ∧ s5.2 ≤ n) (hq6 : s6.1 ≤ s6.2 ∧ s6.2 ≤ n) (hN9 : N.2.2.2.2.2.2.2.2.2.1 = g25) (hN10 : N.2.2.2.2.2.2.2.2.2.2.1 = g26) (hN11 : N.2.2.2.2.2.2.2.2.2.2.2.1 = i27) (hh : ∀ j, j < 8 → f8 j = wN (ν ha) j) (hω : ω res = [ha, si, 0, q6, en, q2]) (hω2 : ω q2 = [t, s2.1]) (hω6 : ω q6 = [t, s6.1]) (hωp : ∀ q a b, slc t q a b ∈ pl → a ≤ b → b ≤ n → ω q = [t, a]) (hωa1 : ∀ d, o1 = some d → ∀ i q, i < d.2.1 → d.2.2 i = some q → q = (ω d.1).getD i 0) (hωe : alO sb o1 = (ω en).getD 0 0) (hωt : ∀ j, j < n → u j = (ω t).getD j 0) (hωs : sgR (ω si) f16) (hD : va_D A ((res, .inr (2, [.ref ha, .ref si, .ref en, .ref q5, .ref q6, .ref q2, .long g25, .long g26, .int i27])) :: ((en, .inr (11, [.ref (alO sb o1), .int (nI D1.length), .int m1])) :: ((ha, .inl (γ.2.1, 8, .inl f8)) :: ((si, .inl (γ.2.1, 16, .inl f16)) :: ((q2, .inr (0, [.ref t, .int (nI s2.1), .int (nI s2.2)])) :: ((q5, .inr (0, [.ref t, .int (nI s5.1), .int (nI s5.2)])) :: ((q6, .inr (0, [.ref t, .int (nI s6.1), .int (nI s6.2)])) :: (alC γ.2.2.2 o1 ++ (pl ++ ((t, .inl (γ.1, n, .inl (tx u))) :: ((rd, cr) :: ((ki, ck) :: (alC γ.2.2.2 o7 ++ Gb)))))))))))))) : ∃ κ' Ad', KX κ Ad κ' Ad' ((rd, cr) :: ((ki, ck) :: (alC γ.2.2.2 o7 ++ Gb))) ∧ TY γ κ' Ad' (nuR ν res N) ω L ((res, .inr (2, [.ref ha, .ref si, .ref en, .ref q5, .ref q6, .ref q2, .long g25, .long g26, .int i27])) :: ((en, .inr (11, [.ref (alO sb o1), .int (nI D1.length), .int m1])) :: ((ha, .inl (γ.2.1, 8, .inl f8)) :: ((si, .inl (γ.2.1, 16, .inl f16)) :: ((q2, .inr (0, [.ref t, .int (nI s2.1), .int (nI s2.2)])) :: ((q5, .inr (0, [.ref t, .int (nI s5.1), .int (nI s5.2)])) :: ((q6, .inr (0, [.ref t, .int (nI s6.1), .int (nI s6.2)])) :: (alC γ.2.2.2 o1 ++ (pl ++ ((t, .inl (γ.1, n, .inl (tx u))) :: ((rd, cr) :: ((ki, ck) :: (alC γ.2.2.2 o7 ++ Gb))))))))))))) ∧ tK κ' Ad' res (9, D1.length, 0) ∧ tK κ' Ad' q5 (2, s5.2 - s5.1, 0) ∧ tK κ' Ad' t (1, n, 1) ∧ tK κ' Ad' ha (6, 8, 0) ∧ tK κ' Ad' q6 (2, s6.2 - s6.1, 1) ∧ qO κ' (nuR ν res N) ω res = lQm u s2 D1 g25 g26 i27 ∧ ∀ b, b ∈ Ad' → (κ' b).1 = 8 ∨ (κ' b).1 = 9 → (b ∈ Ad ∧ κ' b = κ b) ∨ b = res := by
  have hd0 := hD
  have hd1 := hd0.tl
  have hd2 := hd1.tl
  have hd3 := hd2.tl
  have hd4 := hd3.tl
  have hd5 := hd4.tl
  have hd6 := hd5.tl
  have hd7 := hd6.tl
  have hd8 := hd7.bk (W1 := alC γ.2.2.2 o1)
  have hd9 := hd8.bk (W1 := pl)
  have hd10 := hd9.tl
  have hd11 := hd10.tl
  have hd12 := hd11.tl
  have hres : ∀ b, b ∈ Ad → nuR ν res N b = ν b := fun b hb => if_neg (by
    obtain ⟨c9, hb9⟩ := h.1 b hb
    have hb9 : (b, c9) ∈ ((rd, cr) :: ((ki, ck) :: (alC γ.2.2.2 o7 ++ Gb))) := List.mem_cons_of_mem _ (List.mem_cons_of_mem _ (List.mem_append_right _ hb9))
    have hb9 := List.mem_cons_of_mem (t, (.inl (γ.1, n, .inl (tx u)) : va_E)) hb9
    have hb9 := List.mem_append_right pl hb9
    have hb9 := List.mem_append_right (alC γ.2.2.2 o1) hb9
    have hb9 := List.mem_cons_of_mem ((q6, .inr (0, [.ref t, .int (nI s6.1), .int (nI s6.2)])) : Nat × va_E) hb9
    have hb9 := List.mem_cons_of_mem ((q5, .inr (0, [.ref t, .int (nI s5.1), .int (nI s5.2)])) : Nat × va_E) hb9
    have hb9 := List.mem_cons_of_mem ((q2, .inr (0, [.ref t, .int (nI s2.1), .int (nI s2.2)])) : Nat × va_E) hb9
    have hb9 := List.mem_cons_of_mem ((si, .inl (γ.2.1, 16, .inl f16)) : Nat × va_E) hb9
    have hb9 := List.mem_cons_of_mem ((ha, .inl (γ.2.1, 8, .inl f8)) : Nat × va_E) hb9
    have hb9 := List.mem_cons_of_mem ((en, .inr (11, [.ref (alO sb o1), .int (nI D1.length), .int m1])) : Nat × va_E) hb9
    exact nw_ne hd0 hb9)
  have hTy := h.nuX hres
  have hTy := TY.blkN (B := alC γ.2.2.2 o7) hTy hd12
  have hTy := hTy.consN hd11
  have hTy := hTy.consN hd10
  have hha : nuR ν res N ha = ν ha := if_neg (nw_ne hd0 (show ((ha, .inl (γ.2.1, 8, .inl f8)) : Nat × va_E) ∈ _ from List.mem_of_getElem? (i := 1) rfl))
  have x0 := KX9.rf κ Ad ((rd, cr) :: ((ki, ck) :: (alC γ.2.2.2 o7 ++ Gb)))
  have hm0 : ∀ q : Nat × va_E, q ∈ ((rd, cr) :: ((ki, ck) :: (alC γ.2.2.2 o7 ++ Gb))) → q ∈ ((rd, cr) :: ((ki, ck) :: (alC γ.2.2.2 o7 ++ Gb))) := fun _ h => h
  obtain ⟨κ1, Ad1, y1, hTy, kt⟩ := hTy.textX hn hu hωt hd9
  have x1 := x0.tr y1 hm0
  have hm1 := fun q hq => List.mem_cons_of_mem ((t, .inl (γ.1, n, .inl (tx u))) : Nat × va_E) (hm0 q hq)
  obtain ⟨κ2, Ad2, y2, hTy, kp⟩ := TY.pool hn hTy kt hωp hd8
  have x2 := x1.tr y2 hm1
  have hm2 := fun q hq => List.mem_append_right pl (hm1 q hq)
  have kt := y2.up kt
  obtain ⟨κ3, Ad3, y3, hTy, a1⟩ := TY.arrS (sb := sb) hTy hE1 kp hωa1 hd7
  have x3 := x2.tr y3 hm2
  have hm3 := fun q hq => List.mem_append_right (alC γ.2.2.2 o1) (hm2 q hq)
  have kt := y3.up kt
  have kp := fun q a b h1 h2 h3 => y3.up (kp q a b h1 h2 h3)
  obtain ⟨κ4, Ad4, y4, hTy, kq6⟩ := hTy.sliceX kt hq6.1 hq6.2 hn hω6 hd6
  have x4 := x3.tr y4 hm3
  have hm4 := fun q hq => List.mem_cons_of_mem ((q6, .inr (0, [.ref t, .int (nI s6.1), .int (nI s6.2)])) : Nat × va_E) (hm3 q hq)
  have kt := y4.up kt
  have kp := fun q a b h1 h2 h3 => y4.up (kp q a b h1 h2 h3)
  have a1 := fun z => y4.up (a1 z)
  obtain ⟨κ5, Ad5, y5, hTy, kq5⟩ := hTy.slice kt hq5.1 hq5.2 hn hd5
  have x5 := x4.tr y5 hm4
  have hm5 := fun q hq => List.mem_cons_of_mem ((q5, .inr (0, [.ref t, .int (nI s5.1), .int (nI s5.2)])) : Nat × va_E) (hm4 q hq)
  have kt := y5.up kt
  have kp := fun q a b h1 h2 h3 => y5.up (kp q a b h1 h2 h3)
  have a1 := fun z => y5.up (a1 z)
  have kq6 := y5.up kq6
  obtain ⟨κ6, Ad6, y6, hTy, kq2⟩ := hTy.sliceX kt hq2.1 hq2.2 hn hω2 hd4
  have x6 := x5.tr y6 hm5
  have hm6 := fun q hq => List.mem_cons_of_mem ((q2, .inr (0, [.ref t, .int (nI s2.1), .int (nI s2.2)])) : Nat × va_E) (hm5 q hq)
  have kt := y6.up kt
  have kp := fun q a b h1 h2 h3 => y6.up (kp q a b h1 h2 h3)
  have a1 := fun z => y6.up (a1 z)
  have kq6 := y6.up kq6
  have kq5 := y6.up kq5
  obtain ⟨κ7, Ad7, y7, hTy, ksi⟩ := TY.intsS (r := res) hTy hωs hd3
  have x7 := x6.tr y7 hm6
  have hm7 := fun q hq => List.mem_cons_of_mem ((si, .inl (γ.2.1, 16, .inl f16)) : Nat × va_E) (hm6 q hq)
  have kt := y7.up kt
  have kp := fun q a b h1 h2 h3 => y7.up (kp q a b h1 h2 h3)
  have a1 := fun z => y7.up (a1 z)
  have kq6 := y7.up kq6
  have kq5 := y7.up kq5
  have kq2 := y7.up kq2
  obtain ⟨κ8, Ad8, y8, hTy, kha⟩ := hTy.ints (by decide) (fun _ j9 hj9 => by rw [hha]; exact hh j9 hj9) (fun e => absurd e (by decide)) hd2
  have x8 := x7.tr y8 hm7
  have hm8 := fun q hq => List.mem_cons_of_mem ((ha, .inl (γ.2.1, 8, .inl f8)) : Nat × va_E) (hm7 q hq)
  have kt := y8.up kt
  have kp := fun q a b h1 h2 h3 => y8.up (kp q a b h1 h2 h3)
  have a1 := fun z => y8.up (a1 z)
  have kq6 := y8.up kq6
  have kq5 := y8.up kq5
  have kq2 := y8.up kq2
  have ksi := y8.up ksi
  obtain ⟨κ9, Ad9, y9, hTy, ken⟩ := TY.lst (sb := sb) (g := 0) hTy hωe hL1 a1 hd1
  have x9 := x8.tr y9 hm8
  have hm9 := fun q hq => List.mem_cons_of_mem ((en, .inr (11, [.ref (alO sb o1), .int (nI D1.length), .int m1])) : Nat × va_E) (hm8 q hq)
  have kt := y9.up kt
  have kp := fun q a b h1 h2 h3 => y9.up (kp q a b h1 h2 h3)
  have a1 := fun z => y9.up (a1 z)
  have kq6 := y9.up kq6
  have kq5 := y9.up kq5
  have kq2 := y9.up kq2
  have ksi := y9.up ksi
  have kha := y9.up kha
  have e9 : nuR ν res N res = N := if_pos rfl
  obtain ⟨κ', Ad', y9, hTy, kr, h8n⟩ := hTy.consE8 (k := (9, D1.length, 0)) hd0 (by simp) (fun κ' Ad' hX hK => by
    unfold tOK
    rw [hK.2, e9]
    exact ⟨ha, si, en, q5, q6, q2, ⟨hX.up kha, hX.up ksi, hX.up ken, ⟨_, hX.up kq5⟩, ⟨_, hX.up kq6⟩, ⟨_, hX.up kq2⟩, hω⟩, by rw [hN9, hN10, hN11]⟩)
  refine ⟨κ', Ad', x9.1.tr y9 hm9, hTy, kr, y9.up kq5, y9.up kt, y9.up kha, y9.up kq6, ?_, fun b hb hb8 => ?_⟩
  · unfold qO
    rw [hω]
    show (sO κ' ω q2, lO κ' ω en, (nuR ν res N res).2.2.2.2.2.2.2.2.2.1, (nuR ν res N res).2.2.2.2.2.2.2.2.2.2.1, (nuR ν res N res).2.2.2.2.2.2.2.2.2.2.2.1) = _
    rw [e9, hN9, hN10, hN11, sO_u (y9.up kq2) hω2 hωt (by omega), lO_of (sb := sb) (y9.up ken) hωe.symm hE1 (fun q a b h1 h2 h3 => ⟨y9.up (kp q a b h1 h2 h3), hωp q a b h1 h2 h3⟩) hωa1 hωt]
    rfl
  rcases h8n b hb with e | e
  · exact Or.inr e
  · have hb9 := x9.2 b e (by rw [← y9.1 b e]; exact hb8)
    exact Or.inl ⟨hb9, (y9.1 b e).trans (x9.1.1 b hb9)⟩
