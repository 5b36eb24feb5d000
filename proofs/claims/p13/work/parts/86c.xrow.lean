/-! The rows of verdicts, second half. -/
section XIE
variable {γ : cG} {κ : kE} {Ad : List Nat} {ν : Nat → cN} {ω ω2 : Nat → List Nat} {L : Nat} {G : va_W}
theorem vdX_v {κ : kE} {ν : Nat → cN} {ω : Nat → List Nat} {g c k : Nat} (h : vdX κ ν ω g c k) {x : Nat} (hx : (x = 1 ∧ SGX κ ν ω g c) ∨ (x = 2 ∧ ¬ SGX κ ν ω g c)) : x = (ω ((ω g).getD 1 0)).getD k 0 := by
  rcases h with ⟨h1, h2⟩ | ⟨h1, h2⟩ <;> rcases hx with ⟨h3, h4⟩ | ⟨h3, h4⟩
  · rw [h1, h3]
  · exact absurd h2 h4
  · exact absurd h4 h2
  · rw [h1, h3]
theorem XI_ext {ce : Nat} (hT : TY γ κ Ad ν ω L G) (hce : (κ ce).1 ≠ 6) (hl : ∀ b, b ∈ Ad → (κ b).1 = 14 ∨ (κ b).1 = 16 → (κ (κ b).2.2).1 ≠ 6) (hin : ∀ k, k < (ω ce).length → (ω ce).getD k 0 ∈ Ad ∧ (κ ((ω ce).getD k 0)).1 = 8)
    (h1 : ∀ a, a ∈ Ad → (κ a).1 = 8 → ∃ k, k < (ω ce).length ∧ a = (ω ce).getD k 0)
    (h2 : ∀ k, k < (ω ce).length → (ν ((ω ce).getD k 0)).2.2.2.2.2.2.2.2.2.2.2.2 = nI k ∧ kFx (ν ((ω ce).getD k 0)) (slO ω ((ω ((ω ce).getD k 0)).getD 2 0) (κ ((ω ((ω ce).getD k 0)).getD 2 0)).2.1) (κ ((ω ((ω ce).getD k 0)).getD 2 0)).2.1)
    (h3 : ∀ g, g ∈ Ad → (κ g).1 = 8 ∨ (κ g).1 = 9 → (ω ((ω g).getD 1 0)).length ≤ (ω ce).length ∧ ∀ k, k < (ω ((ω g).getD 1 0)).length → vdX κ ν ω g ((ω ce).getD k 0) k) :
    ∃ ω2 : Nat → List Nat, (∀ a, (κ a).1 ≠ 6 → ω2 a = ω a) ∧ (∀ a, κ a = (6, 16, 0) → ω2 a = ω a) ∧ TY γ κ Ad ν ω2 L G ∧ XI κ Ad ν ω2 ce := by
  classical
  obtain ⟨ω2, hω2⟩ : ∃ z : Nat → List Nat, z = fun a => if (∃ g, g ∈ Ad ∧ ((κ g).1 = 8 ∨ (κ g).1 = 9) ∧ (ω g).getD 1 0 = a) then (List.range (ω ce).length).map (fun k => if SGX κ ν ω ((κ a).2.2 - 1) ((ω ce).getD k 0) then 1 else 2) else ω a := ⟨_, rfl⟩
  have hd : ∀ a, ω2 a = if (∃ g, g ∈ Ad ∧ ((κ g).1 = 8 ∨ (κ g).1 = 9) ∧ (ω g).getD 1 0 = a) then (List.range (ω ce).length).map (fun k => if SGX κ ν ω ((κ a).2.2 - 1) ((ω ce).getD k 0) then 1 else 2) else ω a := fun a => congrFun hω2 a
  have hno : ∀ a, (κ a).1 ≠ 6 → ω2 a = ω a := fun a ha => by
    rw [hd]
    refine if_neg ?_
    rintro ⟨g, hg, hk, rfl⟩
    exact ha (by rw [(pa_en hT hg hk).2.1.2])
  have hn0 : ∀ a, κ a = (6, 16, 0) → ω2 a = ω a := fun a ha => by
    rw [hd]
    refine if_neg ?_
    rintro ⟨g, hg, hk, rfl⟩
    rw [(pa_en hT hg hk).2.1.2] at ha
    exact Nat.succ_ne_zero g (congrArg (fun z : Nat × Nat × Nat => z.2.2) ha)
  have hro : ∀ g, g ∈ Ad → ((κ g).1 = 8 ∨ (κ g).1 = 9) → ω2 ((ω g).getD 1 0) = (List.range (ω ce).length).map (fun k => if SGX κ ν ω g ((ω ce).getD k 0) then 1 else 2) := fun g hg hk => by
    rw [hd, if_pos ⟨g, hg, hk, rfl⟩, (pa_en hT hg hk).2.1.2]
    all_goals rfl
  have hge : ∀ g, g ∈ Ad → ((κ g).1 = 8 ∨ (κ g).1 = 9) → ∀ k, k < (ω ce).length → (ω2 ((ω g).getD 1 0)).getD k 0 = if SGX κ ν ω g ((ω ce).getD k 0) then 1 else 2 := fun g hg hk k hk9 => by
    rw [hro g hg hk, List.getD_eq_getElem?_getD, List.getElem?_map, List.getElem?_range hk9]
    rfl
  have hcE : ω2 ce = ω ce := hno ce hce
  refine ⟨ω2, hno, hn0, ⟨hT.1, fun q hq hqa => ?_⟩, ?_, ?_, ?_⟩
  · have ho := hT.2 q hq hqa
    by_cases h6 : (κ q.1).1 = 6
    · by_cases hr : ∃ g, g ∈ Ad ∧ ((κ g).1 = 8 ∨ (κ g).1 = 9) ∧ (ω g).getD 1 0 = q.1
      · obtain ⟨g, hg, hk, e⟩ := hr
        have kr := (pa_en hT hg hk).2.1
        rw [e] at kr
        unfold tOK at ho ⊢
        rw [kr.2] at ho ⊢
        obtain ⟨a1, f, ⟨a2, a3, -⟩, a4⟩ := ho
        refine ⟨a1, f, ⟨fun e9 => absurd e9 (by decide), fun _ j hj => ?_, fun _ e9 => absurd e9 (Nat.succ_ne_zero g)⟩, a4⟩
        rcases a3 (Nat.succ_ne_zero g) j hj with z | ⟨z1, z2⟩
        · exact Or.inl z
        · have g3 := h3 g hg hk
          rw [e] at g3
          have hjm : j < (ω ce).length := Nat.lt_of_lt_of_le z1 g3.1
          refine Or.inr ⟨by rw [← e, hro g hg hk, List.length_map, List.length_range]; exact hjm, ?_⟩
          rw [z2]
          have hv := g3.2 j z1
          have hx := hge g hg hk j hjm
          rw [e] at hx
          have hv2 := vdX_v hv (x := (ω2 q.1).getD j 0) (by
            rw [hx]
            by_cases hS : SGX κ ν ω g ((ω ce).getD j 0)
            · rw [if_pos hS]; exact Or.inl ⟨rfl, hS⟩
            · rw [if_neg hS]; exact Or.inr ⟨rfl, hS⟩)
          rw [e] at hv2
          rw [hv2]
      · have e2 : ω2 q.1 = ω q.1 := by rw [hd]; exact if_neg hr
        exact ho.mono (fun _ _ => rfl) (fun _ h => h) hqa rfl e2 (fun h9 => by rcases h9 with h9 | h9 <;> (rw [h6] at h9; exact absurd h9 (by decide))) (fun h9 => by rw [h6] at h9; exact absurd h9 (by decide))
    · exact ho.mono (fun _ _ => rfl) (fun _ h => h) hqa rfl (hno _ h6) (fun h9 => hno _ (hl _ hqa h9)) (fun h9 => by rw [hno _ (by rw [(en_k hT hqa h9).2]; exact (by decide : (4 : Nat) ≠ 6))])
  · intro a ha h8
    rw [hcE]
    exact h1 a ha h8
  · intro k hk
    rw [hcE] at hk ⊢
    have hc8 := hin k hk
    rw [hno ((ω ce).getD k 0) (by rw [hc8.2]; decide), slO_k hT ((pa_en hT hc8.1 (Or.inl hc8.2)).2.2.2 hc8.2) (wK_6 hno)]
    exact h2 k hk
  · intro g hg hk
    have eg : ω2 g = ω g := hno g (by rcases hk with e | e <;> rw [e] <;> decide)
    rw [hcE, eg]
    refine ⟨by rw [hro g hg hk, List.length_map, List.length_range], fun k hk9 => ?_⟩
    have hc8 := hin k hk9
    have hs := SGX_k (κ' := κ) (ν' := ν) (ω2 := ω2) hT hg hk hc8.1 hc8.2 (wK_6 hno) (fun _ _ _ => rfl) (fun _ _ _ => rfl)
    unfold vdX
    rw [eg, hs, hge g hg hk k hk9]
    by_cases hS : SGX κ ν ω g ((ω ce).getD k 0)
    · rw [if_pos hS]; exact Or.inl ⟨rfl, hS⟩
    · rw [if_neg hS]; exact Or.inr ⟨rfl, hS⟩
end XIE
/-- trust leaves it -/
theorem nuT_w (ν : Nat → cN) (c : Nat) (j : Int32) (b : Nat) : wN (nuT ν c j b) = wN (ν b) ∧ (nuT ν c j b).2.1 = (ν b).2.1 ∧ (nuT ν c j b).2.2.1 = (ν b).2.2.1 ∧ (nuT ν c j b).2.2.2.2.2.2.2.2.2.2.2.2 = (ν b).2.2.2.2.2.2.2.2.2.2.2.2 := by
  by_cases h : b = c
  · subst h
    have e : nuT ν b j b = _ := if_pos rfl
    rw [e]
    refine ⟨?_, rfl, rfl, rfl⟩
    funext z
    match z with
    | 0 => rfl
    | 1 => rfl
    | 2 => rfl
    | 3 => rfl
    | 4 => rfl
    | 5 => rfl
    | 6 => rfl
    | 7 => rfl
    | _ + 8 => rfl
  · have e : nuT ν c j b = ν b := if_neg h
    rw [e]
    exact ⟨rfl, rfl, rfl, rfl⟩
theorem SGX_nuT {κ : kE} {ν : Nat → cN} {ω : Nat → List Nat} {c9 g c : Nat} {j : Int32} : SGX κ (nuT ν c9 j) ω g c ↔ SGX κ ν ω g c := by
  unfold SGX
  rw [(nuT_w ν c9 j _).1, (nuT_w ν c9 j c).2.2.1]
theorem XI.nuT {κ : kE} {Ad : List Nat} {ν : Nat → cN} {ω : Nat → List Nat} {ce c9 : Nat} {j : Int32} (h : XI κ Ad ν ω ce) : XI κ Ad (nuT ν c9 j) ω ce := by
  refine ⟨h.1, fun k hk => ?_, fun g hg hk => ⟨(h.2.2 g hg hk).1, fun k hk9 => ?_⟩⟩
  · have h2 := h.2.1 k hk
    have w := nuT_w ν c9 j ((ω ce).getD k 0)
    refine ⟨by rw [w.2.2.2]; exact h2.1, ?_⟩
    unfold kFx
    rw [w.2.1, w.2.2.1]
    exact h2.2
  · have h2 := (h.2.2 g hg hk).2 k hk9
    unfold vdX at h2 ⊢
    rw [SGX_nuT]
    exact h2
/-- other contents of rows: the law's world stays -/
theorem LWx.om {γ : cG} {sb : sB} {κ : kE} {Ad : List Nat} {ν : Nat → cN} {ω ω2 : Nat → List Nat} {fe ho ce li sh rs se ch fo q0 pl ou : Nat} {fu : Nat → Nat} {ov : Nat → Int64} {u : cU} (h : LWx γ sb κ Ad ν ω fe ho ce li sh rs se ch fo q0 pl ou fu ov u) (hw : ∀ a, (κ a).1 ≠ 6 → ω2 a = ω a) (hT : TY γ κ Ad ν ω2 u.2.1 u.1) : LWx γ sb κ Ad ν ω2 fe ho ce li sh rs se ch fo q0 pl ou fu ov u := by
  obtain ⟨⟨hk, h1, h2, h3, h4, h5, h6⟩, ⟨hTy, hL, kq0, kpl, h16⟩, hr⟩ := h
  have e1 : ω2 ce = ω ce := hw ce (by rw [hk.2.1.2]; exact (by decide : (15 : Nat) ≠ 6))
  have e2 : ω2 li = ω li := hw li (by rw [hk.2.2.1.2]; exact (by decide : (17 : Nat) ≠ 6))
  exact ⟨⟨hk, h1, by rw [e1]; exact h2, by rw [e2]; exact h3, h4, h5.om e1, h6.om e2⟩, ⟨hT, hL, kq0, kpl, h16⟩, hr⟩
theorem LWx.hl {γ : cG} {sb : sB} {κ : kE} {Ad : List Nat} {ν : Nat → cN} {ω : Nat → List Nat} {fe ho ce li sh rs se ch fo q0 pl ou : Nat} {fu : Nat → Nat} {ov : Nat → Int64} {u : cU} (h : LWx γ sb κ Ad ν ω fe ho ce li sh rs se ch fo q0 pl ou fu ov u) : ∀ b, b ∈ Ad → (κ b).1 = 14 ∨ (κ b).1 = 16 → (κ (κ b).2.2).1 ≠ 6 := by
  obtain ⟨⟨hk, h1, h2, h3, h4, h5, h6⟩, -, -⟩ := h
  intro b hb hk9
  rcases hk9 with e | e
  · rw [(h5 b hb e).1, hk.2.1.2]; exact (by decide : (15 : Nat) ≠ 6)
  · rw [(h6 b hb e).1, hk.2.2.1.2]; exact (by decide : (17 : Nat) ≠ 6)
/-- what the law says of a stored certificate, of a stored list -/
abbrev vC : Type := cN × Nat × Nat × (Nat → Int32) × (Nat → Nat) × Nat × (Nat → Nat) × Nat
abbrev vL : Type := cN × Nat × (Nat → Int32) × (Nat → Nat) × Nat
def vcO (κ : kE) (ν : Nat → cN) (ω : Nat → List Nat) (c : Nat) : vC := (ν c, (κ c).2.1, (κ c).2.2, wN (ν ((ω c).getD 0 0)), slO ω ((ω c).getD 2 0) (κ ((ω c).getD 2 0)).2.1, (κ ((ω c).getD 2 0)).2.1, slO ω ((ω c).getD 3 0) (κ ((ω c).getD 3 0)).2.1, (κ ((ω c).getD 3 0)).2.1)
def vlO (κ : kE) (ν : Nat → cN) (ω : Nat → List Nat) (g : Nat) : vL := (ν g, (κ g).2.1, wN (ν ((ω g).getD 0 0)), slO ω ((ω g).getD 3 0) (κ ((ω g).getD 3 0)).2.1, (κ ((ω g).getD 3 0)).2.1)
section VCO
variable {γ : cG} {κ κ' : kE} {Ad Ad' : List Nat} {ν ν' : Nat → cN} {ω Ω : Nat → List Nat} {L L' : Nat} {G G' : va_W}
theorem vcO_k {c : Nat} (h : TY γ κ Ad ν ω L G) (hc : c ∈ Ad) (hck : (κ c).1 = 8) (hw : wK κ Ad ω Ω) (hk : ∀ a, a ∈ Ad → (κ a).1 = 2 ∨ (κ a).1 = 8 ∨ (κ a).1 = 9 → κ' a = κ a) (hn : ∀ a, a ∈ Ad → ν' a = ν a) : vcO κ' ν' Ω c = vcO κ ν ω c := by
  have pc := pa_en h hc (Or.inl hck)
  obtain ⟨zm, km⟩ := pc.2.2.2 hck
  obtain ⟨zs, ks⟩ := pc.2.2.1
  unfold vcO
  rw [hw c hc (Or.inr (Or.inr (Or.inl hck))), hn c hc, hk c hc (Or.inr (Or.inl hck)), hn _ pc.1.1, hk _ km.1 (Or.inl (by rw [km.2])), hk _ ks.1 (Or.inl (by rw [ks.2])), slO_k h ⟨zm, km⟩ hw, slO_k h ⟨zs, ks⟩ hw]
theorem vlO_k {g : Nat} (h : TY γ κ Ad ν ω L G) (hg : g ∈ Ad) (hgk : (κ g).1 = 9) (hw : wK κ Ad ω Ω) (hk : ∀ a, a ∈ Ad → (κ a).1 = 2 ∨ (κ a).1 = 8 ∨ (κ a).1 = 9 → κ' a = κ a) (hn : ∀ a, a ∈ Ad → ν' a = ν a) : vlO κ' ν' Ω g = vlO κ ν ω g := by
  have pg := pa_en h hg (Or.inr hgk)
  obtain ⟨zs, ks⟩ := pg.2.2.1
  unfold vlO
  rw [hw g hg (Or.inr (Or.inr (Or.inr hgk))), hn g hg, hk g hg (Or.inr (Or.inr hgk)), hn _ pg.1.1, hk _ ks.1 (Or.inl (by rw [ks.2])), slO_k h ⟨zs, ks⟩ hw]
theorem gD_app {l : List Nat} {v k : Nat} (h : k < l.length) : (l ++ [v]).getD k 0 = l.getD k 0 := by
  rw [List.getD_eq_getElem?_getD, List.getD_eq_getElem?_getD, List.getElem?_append_left h]
theorem gD_end {l : List Nat} {v : Nat} : (l ++ [v]).getD l.length 0 = v := by
  rw [List.getD_eq_getElem?_getD, List.getElem?_append_right (Nat.le_refl _)]
  simp
/-- one paper more -/
theorem XI_step {ce res : Nat} (T : TY γ κ Ad ν ω L G) (T' : TY γ κ' Ad' ν' Ω L' G') (X : XI κ Ad ν ω ce) (hce' : (κ' ce).1 ≠ 6) (hl : ∀ b, b ∈ Ad' → (κ' b).1 = 14 ∨ (κ' b).1 = 16 → (κ' (κ' b).2.2).1 ≠ 6) (hin0 : ∀ k, k < (ω ce).length → (ω ce).getD k 0 ∈ Ad ∧ (κ ((ω ce).getD k 0)).1 = 8) (hin : ∀ k, k < (Ω ce).length → (Ω ce).getD k 0 ∈ Ad' ∧ (κ' ((Ω ce).getD k 0)).1 = 8)
    (hw : ∀ a, a ∈ Ad → ((κ a).1 = 1 ∨ (κ a).1 = 2 ∨ (κ a).1 = 8 ∨ (κ a).1 = 9) ∨ (κ a).1 = 6 → Ω a = ω a) (hk : ∀ a, a ∈ Ad → (κ a).1 ≠ 14 → (κ a).1 ≠ 16 → κ' a = κ a) (hn : ∀ a, a ∈ Ad → ν' a = ν a)
    (h89 : ∀ b, b ∈ Ad' → (κ' b).1 = 8 ∨ (κ' b).1 = 9 → (b ∈ Ad ∧ κ' b = κ b) ∨ b = res) (hsi : Ω ((Ω res).getD 1 0) = [])
    (hg : (Ω ce = ω ce ∧ (κ' res).1 = 9) ∨ (Ω ce = ω ce ++ [res] ∧ (ν' res).2.2.2.2.2.2.2.2.2.2.2.2 = nI (ω ce).length ∧ kFx (ν' res) (slO Ω ((Ω res).getD 2 0) (κ' ((Ω res).getD 2 0)).2.1) (κ' ((Ω res).getD 2 0)).2.1)) :
    ∃ ω2 : Nat → List Nat, (∀ a, (κ' a).1 ≠ 6 → ω2 a = Ω a) ∧ (∀ a, κ' a = (6, 16, 0) → ω2 a = Ω a) ∧ TY γ κ' Ad' ν' ω2 L' G' ∧ XI κ' Ad' ν' ω2 ce := by
  have hwK : wK κ Ad ω Ω := fun a ha hk9 => hw a ha (Or.inl hk9)
  have hk2 : ∀ a, a ∈ Ad → (κ a).1 = 2 ∨ (κ a).1 = 8 ∨ (κ a).1 = 9 → κ' a = κ a := fun a ha hk9 => hk a ha (by rcases hk9 with e | e | e <;> rw [e] <;> decide) (by rcases hk9 with e | e | e <;> rw [e] <;> decide)
  have hcl : ∀ k, k < (ω ce).length → k < (Ω ce).length ∧ (Ω ce).getD k 0 = (ω ce).getD k 0 := fun k hk9 => by
    rcases hg with ⟨e, -⟩ | ⟨e, -⟩
    · rw [e]; exact ⟨hk9, rfl⟩
    · rw [e, List.length_append]
      exact ⟨Nat.lt_add_right _ hk9, gD_app hk9⟩
  have hE : ∀ k, k < (ω ce).length → vcO κ' ν' Ω ((ω ce).getD k 0) = vcO κ ν ω ((ω ce).getD k 0) := fun k hk9 => vcO_k T (hin0 k hk9).1 (hin0 k hk9).2 hwK hk2 hn
  refine XI_ext T' hce' hl hin (fun a ha h8 => ?_) (fun k hk9 => ?_) (fun g hg9 hgk => ?_)
  · rcases h89 a ha (Or.inl h8) with ⟨e1, e2⟩ | e
    · obtain ⟨k, hk9, rfl⟩ := X.1 a e1 (by rw [← e2]; exact h8)
      exact ⟨k, (hcl k hk9).1, (hcl k hk9).2.symm⟩
    · rcases hg with ⟨-, e9⟩ | ⟨e9, -⟩
      · rw [e, e9] at h8
        exact absurd h8 (by decide)
      · exact ⟨(ω ce).length, by rw [e9, List.length_append]; exact Nat.lt_succ_self _, by rw [e9, e, gD_end]⟩
  · by_cases hlt : k < (ω ce).length
    · rw [(hcl k hlt).2]
      show (vcO κ' ν' Ω ((ω ce).getD k 0)).1.2.2.2.2.2.2.2.2.2.2.2.2 = nI k ∧ kFx (vcO κ' ν' Ω ((ω ce).getD k 0)).1 (vcO κ' ν' Ω ((ω ce).getD k 0)).2.2.2.2.1 (vcO κ' ν' Ω ((ω ce).getD k 0)).2.2.2.2.2.1
      rw [hE k hlt]
      exact X.2.1 k hlt
    · rcases hg with ⟨e9, -⟩ | ⟨e9, h1, h2⟩
      · rw [e9] at hk9
        exact absurd hk9 hlt
      · have hke : k = (ω ce).length := by
          rw [e9, List.length_append] at hk9
          have : k < (ω ce).length + 1 := hk9
          omega
        subst hke
        rw [e9, gD_end]
        exact ⟨h1, h2⟩
  · rcases h89 g hg9 hgk with ⟨e1, e2⟩ | e
    · rw [e2] at hgk
      have pg := pa_en T e1 hgk
      have eg : Ω g = ω g := hwK g e1 (by rcases hgk with e | e <;> rw [e] <;> decide)
      have er : Ω ((ω g).getD 1 0) = ω ((ω g).getD 1 0) := hw _ pg.2.1.1 (Or.inr (by rw [pg.2.1.2]))
      have x := X.2.2 g e1 hgk
      rw [eg, er, x.1]
      refine ⟨?_, fun k hk9 => ?_⟩
      · rcases hg with ⟨e, -⟩ | ⟨e, -⟩
        · rw [e]; exact Nat.le_refl _
        · rw [e, List.length_append]; exact Nat.le_add_right _ _
      · have xk := x.2 k hk9
        unfold vdX at xk ⊢
        rw [eg, er, (hcl k hk9).2, SGX_k (κ' := κ') (ν' := ν') (ω2 := Ω) T e1 hgk (hin0 k hk9).1 (hin0 k hk9).2 hwK (fun a ha h2 => hk2 a ha (Or.inl h2)) (fun a ha _ => hn a ha)]
        exact xk
    · rw [e, hsi]
      exact ⟨Nat.zero_le _, fun k hk9 => absurd hk9 (Nat.not_lt_zero k)⟩
end VCO
