/-! The class' side of the law: one invariant, and what each of the law's own methods does to it. -/
abbrev ty4 (γ : cG) : List (ClassId × FieldType) := [(γ.1, .byte), (γ.2.1, .int), (γ.2.2.1, .long), (γ.2.2.2, .object "java/lang/Object")]
abbrev ty5 (γ : cG) (gT : ClassId) : List (ClassId × FieldType) := [(γ.1, .byte), (γ.2.1, .int), (γ.2.2.1, .long), (γ.2.2.2, .object "java/lang/Object"), (gT, .object "TrustChainModel$Text")]
theorem pr5 {α β δ ε ζ : Type} {a a' : α} {b b' : β} {c c' : δ} {d d' : ε} {e e' : ζ} (h : (a, b, c, d, e) = (a', b', c', d', e')) : a = a' ∧ b = b' ∧ c = c' ∧ d = d' ∧ e = e' := by
  cases h
  exact ⟨rfl, rfl, rfl, rfl, rfl⟩
def vU {α : Type} (vc : Nat → α) (k : Nat) (x : α) : Nat → α := fun i => if i = k then x else vc i
/-! What the law keeps of the contents and of the search (p11 to p13; draft; within 89c). -/
abbrev sgVC (a b : vC) : Prop := sgV a.2.2.2.1 b.2.2.2.2.1 b.2.2.2.2.2.1 a.2.2.2.2.2.2.1 a.2.2.2.2.2.2.2 b.1.2.2.1.toNatClampNeg
abbrev sgVL (a : vL) (b : vC) : Prop := sgV a.2.2.1 b.2.2.2.2.1 b.2.2.2.2.2.1 a.2.2.2.1 a.2.2.2.2 b.1.2.2.1.toNatClampNeg
/-- what validate leaves, said of what is stored -/
noncomputable def valV (nc nl : Nat) (vc : Nat → vC) (vl : Nat → vL) (cc : Nat → cQ) (cl : Nat → lQ) (tm : Int64) (kn : Int32) (k D : Nat) : sS := valQ cc cl nl (fun a b => sgVC (vc a) (vc b)) (fun l b => sgVL (vl l) (vc b)) tm (kn = 1) nc (fun c => ¬ (vc c).1.2.2.2.2.2.2.2.2.1 = 0) k D
def ZI (κ : kE) (Ad : List Nat) (ν : Nat → cN) (ω : Nat → List Nat) (ce li se fo nc nl : Nat) (cc : Nat → cQ) (cl : Nat → lQ) (vs : sS) (foS chS faP : Int32) : Prop :=
  (∀ k, k < nc → cc k = cO κ ν ω ((ω ce).getD k 0)) ∧ (∀ k, k < nl → cl k = qO κ ν ω ((ω li).getD k 0)) ∧ YC κ Ad ν ω ∧ (∀ d, d < nc → ∀ k, k < 16 → (bJ (nI ((ω ((ω ((ω ce).getD d 0)).getD 12 0)).getD 1 0)) k = true ↔ k < nc ∧ folQ (cc k) (cc d))) ∧ fo ≠ (ω se).getD 0 0 ∧ (foS = nI vs.2.2.1.length ∧ chS = nI vs.2.1 ∧ faP = vs.2.2.2.2) ∧ vs.2.2.1.length ≤ 16 ∧ ∀ j, j < vs.2.2.1.length → nI ((ω fo).getD j 0) = nI (vs.2.2.1.reverse.getD j 0)
section ZIS
variable {γ : cG} {sb : sB} {κ κ' : kE} {Ad Ad' : List Nat} {ν ν' ν2 : Nat → cN} {ω ω' ω1 ω2 Ω : Nat → List Nat} {L L' : Nat} {G G' : va_W} {ho ce li sh rs se ch fo q0 pl nc nl : Nat} {vc : Nat → vC} {vl : Nat → vL} {cc : Nat → cQ} {cl : Nat → lQ} {vs : sS} {foS chS faP : Int32}
theorem ZI.val (Z : ZI κ Ad ν ω ce li se fo nc nl cc cl vs foS chS faP) (h2 : (ω ce).length = nc) (h3 : (ω li).length = nl) (h4 : ∀ k, k < nc → vc k = vcO κ ν ω ((ω ce).getD k 0)) (h5 : ∀ k, k < nl → vl k = vlO κ ν ω ((ω li).getD k 0)) {tm : Int64} {kn : Int32} {k D : Nat} (hk : k < nc) : vVQ κ ν ω ce li tm kn k D = valV nc nl vc vl cc cl tm kn k D := by
  show valQ (fun k9 => cO κ ν ω ((ω ce).getD k9 0)) (fun l9 => qO κ ν ω ((ω li).getD l9 0)) (ω li).length (fun a9 b9 => SGX κ ν ω ((ω ce).getD a9 0) ((ω ce).getD b9 0)) (fun l9 s9 => SGX κ ν ω ((ω li).getD l9 0) ((ω ce).getD s9 0)) tm (kn = 1) (ω ce).length (vTR ν ω ce) k D = _
  rw [h2, h3]
  refine valQ_c (fun k9 h9 => (Z.1 k9 h9).symm) (fun l9 h9 => (Z.2.1 l9 h9).symm) (fun a b ha hb => ?_) (fun a b ha hb => ?_) (fun c hc => ?_) hk
  · show SGX κ ν ω ((ω ce).getD a 0) ((ω ce).getD b 0) ↔ sgVC (vc a) (vc b)
    rw [h4 a ha, h4 b hb]
    exact Iff.rfl
  · show SGX κ ν ω ((ω li).getD a 0) ((ω ce).getD b 0) ↔ sgVL (vl a) (vc b)
    rw [h5 a ha, h4 b hb]
    exact Iff.rfl
  · show ¬ (ν ((ω ce).getD c 0)).2.2.2.2.2.2.2.2.1 = 0 ↔ ¬ (vc c).1.2.2.2.2.2.2.2.2.1 = 0
    rw [h4 c hc]
    exact Iff.rfl
theorem ZI.bi (Z : ZI κ Ad ν ω ce li se fo nc nl cc cl vs foS chS faP) (h2 : (ω ce).length = nc) : ∀ d9, d9 < (ω ce).length → ∀ k9, k9 < 16 → (bJ (nI ((ω ((ω ((ω ce).getD d9 0)).getD 12 0)).getD 1 0)) k9 = true ↔ k9 < (ω ce).length ∧ vFO κ ν ω ce d9 k9) := fun d hd k hk => by
  rw [h2] at hd ⊢
  refine (Z.2.2.2.1 d hd k hk).trans ⟨fun ⟨a, b⟩ => ⟨a, ?_⟩, fun ⟨a, b⟩ => ⟨a, ?_⟩⟩
  · rw [Z.1 k a, Z.1 d hd] at b
    exact b
  · rw [Z.1 k a, Z.1 d hd]
    exact b
/-- trust -/
theorem cO_nuT {c9 c : Nat} {j : Int32} : cO κ (nuT ν c9 j) ω c = cO κ ν ω c := by
  by_cases h : c = c9
  · subst h
    have e : nuT ν c j c = _ := if_pos rfl
    simp only [cO, e]
    rfl
  · have e : nuT ν c9 j c = ν c := if_neg h
    simp only [cO, e]
    rfl
theorem qO_nuT {c9 c : Nat} {j : Int32} : qO κ (nuT ν c9 j) ω c = qO κ ν ω c := by
  by_cases h : c = c9
  · subst h
    have e : nuT ν c j c = _ := if_pos rfl
    simp only [qO, e]
    rfl
  · have e : nuT ν c9 j c = ν c := if_neg h
    simp only [qO, e]
    rfl
theorem YC.nT {c9 : Nat} {j : Int32} (h : YC κ Ad ν ω) : YC κ Ad (nuT ν c9 j) ω := fun c K l hc => by
  have e : (nuT ν c9 j c).2.2.2.2.2.2.2.1 = (ν c).2.2.2.2.2.2.2.1 := by
    by_cases h9 : c = c9
    · subst h9
      have e : nuT ν c j c = _ := if_pos rfl
      rw [e]
    · have e : nuT ν c9 j c = ν c := if_neg h9
      rw [e]
  rw [e, cO_nuT]
  exact h c K l hc
theorem ZI.nuT {c9 : Nat} {j : Int32} (Z : ZI κ Ad ν ω ce li se fo nc nl cc cl vs foS chS faP) : ZI κ Ad (nuT ν c9 j) ω ce li se fo nc nl cc cl vs foS chS faP := ⟨fun k hk => by rw [cO_nuT]; exact Z.1 k hk, fun k hk => by rw [qO_nuT]; exact Z.2.1 k hk, Z.2.2.1.nT, Z.2.2.2⟩
/-- validate -/
theorem ZI.ve (Z : ZI κ Ad ν ω ce li se fo nc nl cc cl vs foS chS faP) (T : TY γ κ Ad ν ω L G) (hC : CKx sb κ Ad ω ho ce li sh rs se ch fo q0 pl) (h2 : (ω ce).length = nc) (h3 : (ω li).length = nl) (hV : VE ν ν' ω ω' se ch ((ω se).getD 0 0) fo) {vs' : sS} {foS' chS' faP' : Int32} (e : foS' = nI vs'.2.2.1.length ∧ chS' = nI vs'.2.1 ∧ faP' = vs'.2.2.2.2) (hr : vs'.2.2.1.length ≤ 16 ∧ ∀ j, j < vs'.2.2.1.length → nI ((ω' fo).getD j 0) = nI (vs'.2.2.1.reverse.getD j 0)) : ZI κ Ad ν' ω' ce li se fo nc nl cc cl vs' foS' chS' faP' := by
  have hk := CK_vk hC T
  obtain ⟨⟨-, kce, kli, -, -, kse, -, -⟩, -⟩ := id hC
  have e1 : ω' ce = ω ce := hV.om1 hk (by rw [kce.2]; exact (by decide : (15 : Nat) ≠ 6))
  have e2 : ω' li = ω li := hV.om1 hk (by rw [kli.2]; exact (by decide : (17 : Nat) ≠ 6))
  have e3 : ω' se = ω se := hV.om1 hk (by rw [kse.2]; exact (by decide : (13 : Nat) ≠ 6))
  obtain ⟨z1, z2, z3, z4, z5, -, -, -⟩ := Z
  refine ⟨fun k hk9 => ?_, fun k hk9 => ?_, hV.yc hk T z3, fun d hd k hk9 => ?_, by rw [e3]; exact z5, e, hr⟩
  · obtain ⟨p, q, kc⟩ := ce9_en T kce (k := k) (by omega)
    rw [e1, hV.c8 hk T kc]
    exact z1 k hk9
  · obtain ⟨p, kc⟩ := li9_en T kli (k := k) (by omega)
    rw [e2, hV.q9 hk T kc]
    exact z2 k hk9
  · obtain ⟨p, q, kc⟩ := ce9_en T kce (k := d) (by omega)
    have ken := en_k T kc.1 (by rw [kc.2])
    rw [e1, hV.om1 hk (b := (ω ce).getD d 0) (by rw [kc.2]; exact (by decide : (8 : Nat) ≠ 6)), hV.om1 hk (b := (ω ((ω ce).getD d 0)).getD 12 0) (by rw [ken.2]; exact (by decide : (4 : Nat) ≠ 6))]
    exact z4 d hd k hk9
theorem VE.vcK {nx c : Nat} (hV : VE ν ν' ω ω' se ch nx fo) (hk : VK κ se ch nx fo) (T : TY γ κ Ad ν ω L G) (hc : c ∈ Ad) (hck : (κ c).1 = 8) : vcO κ ν' ω' c = vcO κ ν ω c := by
  have pc := pa_en T hc (Or.inl hck)
  obtain ⟨zm, km⟩ := pc.2.2.2 hck
  obtain ⟨zs, ks⟩ := pc.2.2.1
  unfold vcO
  rw [hV.wk (Ad := Ad) hk c hc (Or.inr (Or.inr (Or.inl hck))), hV.n8 hk (Or.inl hck), hV.nu hk (b := (ω c).getD 0 0) (by rw [pc.1.2]; exact (by decide : (6 : Nat) ≠ 13)) (by rw [pc.1.2]; exact (by decide : (6 : Nat) ≠ 12)), slO_k T ⟨zm, km⟩ (hV.wk hk), slO_k T ⟨zs, ks⟩ (hV.wk hk)]
theorem VE.vlK {nx g : Nat} (hV : VE ν ν' ω ω' se ch nx fo) (hk : VK κ se ch nx fo) (T : TY γ κ Ad ν ω L G) (hg : g ∈ Ad) (hgk : (κ g).1 = 9) : vlO κ ν' ω' g = vlO κ ν ω g := by
  have pg := pa_en T hg (Or.inr hgk)
  obtain ⟨zs, ks⟩ := pg.2.2.1
  unfold vlO
  rw [hV.wk (Ad := Ad) hk g hg (Or.inr (Or.inr (Or.inr hgk))), hV.n8 hk (Or.inr hgk), hV.nu hk (b := (ω g).getD 0 0) (by rw [pg.1.2]; exact (by decide : (6 : Nat) ≠ 13)) (by rw [pg.1.2]; exact (by decide : (6 : Nat) ≠ 12)), slO_k T ⟨zs, ks⟩ (hV.wk hk)]
theorem XI.ve (X : XI κ Ad ν ω ce) (T : TY γ κ Ad ν ω L G) (hC : CKx sb κ Ad ω ho ce li sh rs se ch fo q0 pl) (hV : VE ν ν' ω ω' se ch ((ω se).getD 0 0) fo) : XI κ Ad ν' ω' ce := by
  have hk := CK_vk hC T
  obtain ⟨⟨-, kce, -, -, -, -, -, -⟩, -⟩ := id hC
  have e1 : ω' ce = ω ce := hV.om1 hk (by rw [kce.2]; exact (by decide : (15 : Nat) ≠ 6))
  refine ⟨fun a ha h8 => by rw [e1]; exact X.1 a ha h8, fun k hk9 => ?_, fun g hg hgk => ?_⟩
  · rw [e1] at hk9 ⊢
    obtain ⟨p, q, kc⟩ := ce9_en T kce (k := k) hk9
    show (vcO κ ν' ω' ((ω ce).getD k 0)).1.2.2.2.2.2.2.2.2.2.2.2.2 = nI k ∧ kFx (vcO κ ν' ω' ((ω ce).getD k 0)).1 (vcO κ ν' ω' ((ω ce).getD k 0)).2.2.2.2.1 (vcO κ ν' ω' ((ω ce).getD k 0)).2.2.2.2.2.1
    rw [hV.vcK hk T kc.1 (by rw [kc.2])]
    exact X.2.1 k hk9
  · have pg := pa_en T hg hgk
    have eg : ω' g = ω g := hV.om1 hk (by rcases hgk with e | e <;> rw [e] <;> decide)
    have er : ω' ((ω g).getD 1 0) = ω ((ω g).getD 1 0) := hV.om hk (fun e => by
      rw [pg.2.1.2] at e
      exact Nat.succ_ne_zero g (congrArg (fun z : Nat × Nat × Nat => z.2.2) e))
    have x := X.2.2 g hg hgk
    rw [eg, er, e1]
    refine ⟨x.1, fun k hk9 => ?_⟩
    obtain ⟨p, q, kc⟩ := ce9_en T kce (k := k) hk9
    have xk := x.2 k hk9
    unfold vdX at xk ⊢
    rw [eg, er, hV.SG hk T hg hgk kc.1 (by rw [kc.2])]
    exact xk
/-- one certificate more -/
theorem lk_fin {B fo : Nat → Nat → Prop} {n d k : Nat} (hd : d < n + 1) (hB : ∀ d, d < n → (B d k ↔ k < n ∧ fo k d)) (hn : ¬ B n k) : lkP B fo n (n + 1) d k ↔ k < n + 1 ∧ fo k d := by
  unfold lkP
  constructor
  · rintro (h | ⟨-, h2, h3⟩ | ⟨h1, h2, h3⟩)
    · by_cases e : d = n
      · rw [e] at h
        exact absurd h hn
      · have h9 := (hB d (by omega)).mp h
        exact ⟨by omega, h9.2⟩
    · rw [h2]
      exact ⟨Nat.lt_succ_self _, h3⟩
    · rw [h1]
      exact ⟨h2, h3⟩
  · rintro ⟨h1, h2⟩
    by_cases e : k = n
    · rw [e] at h2
      exact Or.inr (Or.inl ⟨hd, e, h2⟩)
    · by_cases e2 : d = n
      · rw [e2] at h2
        exact Or.inr (Or.inr ⟨e2, h1, h2⟩)
      · exact Or.inl ((hB d (by omega)).mpr ⟨by omega, h2⟩)
theorem ZI.cert {res : Nat} {NN : cN} {cn : cQ} (Z : ZI κ Ad ν ω ce li se fo nc nl cc cl vs foS chS faP) (X : XI κ Ad ν ω ce) (T : TY γ κ Ad ν ω L G) (T' : TY γ κ' Ad' (nuR ν2 res NN) Ω L' G') (hC : CKx sb κ Ad ω ho ce li sh rs se ch fo q0 pl) (hC' : CKx sb κ' Ad' Ω ho ce li sh rs se ch fo q0 pl) (h2 : (ω ce).length = nc) (h3 : (ω li).length = nl)
    (hres : res ∉ Ad) (hK : ∃ p q, tK κ' Ad' res (8, p, q)) (hkk : ∀ b, b ∈ Ad → (κ b).1 ≠ 14 → κ' b = κ b ∧ b ∈ Ad') (hω1 : ∀ b, b ∈ Ad → ω1 b = ω b) (hν2 : ∀ b, b ∈ Ad → ν2 b = ν b) (hΩ : (∀ b, (κ' b).1 ≠ 4 → Ω b = wU ω1 ce res b) ∧ (∀ b, (Ω b).getD 0 0 = (wU ω1 ce res b).getD 0 0))
    (hB : ∀ d9, d9 < (wU ω1 ce res ce).length → ∀ k9, k9 < 16 → (bJ (nI ((Ω ((wU ω1 ce res ((wU ω1 ce res ce).getD d9 0)).getD 12 0)).getD 1 0)) k9 = true ↔ lkP (fun d8 k8 => bJ (nI ((wU ω1 ce res ((wU ω1 ce res ((wU ω1 ce res ce).getD d8 0)).getD 12 0)).getD 1 0)) k8 = true) (fun k8 d8 => folQ (cO κ' (nuR ν2 res NN) (wU ω1 ce res) ((wU ω1 ce res ce).getD k8 0)) (cO κ' (nuR ν2 res NN) (wU ω1 ce res) ((wU ω1 ce res ce).getD d8 0))) (ω ce).length (wU ω1 ce res ce).length d9 k9))
    (hcq : cO κ' (nuR ν2 res NN) (wU ω1 ce res) res = cn) (hen : (wU ω1 ce res ((wU ω1 ce res res).getD 12 0)).getD 1 0 = 0) (h89 : ∀ b, b ∈ Ad' → (κ' b).1 = 8 ∨ (κ' b).1 = 9 → (b ∈ Ad ∧ κ' b = κ b) ∨ b = res) (hw2 : ∀ a, (κ' a).1 ≠ 6 → ω2 a = Ω a) (hw20 : ∀ a, κ' a = (6, 16, 0) → ω2 a = Ω a) (hown : NN.2.2.2.2.2.2.2.1 = zP (ownQ cn)) :
    ZI κ' Ad' (nuR ν2 res NN) ω2 ce li se fo (nc + 1) nl (vU cc nc cn) cl vs foS chS faP := by
  obtain ⟨⟨-, kce, kli, -, -, kse, -, kfo⟩, -⟩ := id hC
  obtain ⟨⟨-, kce', kli', -, -, kse', -, kfo'⟩, -⟩ := id hC'
  obtain ⟨z1, z2, z3, z4, z5, z6, z7, z8⟩ := Z
  have hwN : ∀ a, a ∈ Ad → a ≠ ce → wU ω1 ce res a = ω a := fun a ha hne => (if_neg hne).trans (hω1 a ha)
  have hNo : ∀ a, a ∈ Ad → nuR ν2 res NN a = ν a := fun a ha => (if_neg (fun e => hres (by rw [← e]; exact ha))).trans (hν2 a ha)
  have hk' : ∀ a, a ∈ Ad → (κ a).1 ≠ 14 → κ' a = κ a := fun a ha h => (hkk a ha h).1
  have hWce : wU ω1 ce res ce = ω ce ++ [res] := (if_pos rfl).trans (by rw [hω1 ce kce.1])
  have hΩce : Ω ce = ω ce ++ [res] := (hΩ.1 ce (by rw [kce'.2]; exact (by decide : (15 : Nat) ≠ 4))).trans hWce
  have hce2 : ω2 ce = ω ce ++ [res] := (hw2 ce (by rw [kce'.2]; exact (by decide : (15 : Nat) ≠ 6))).trans hΩce
  have hWl : (wU ω1 ce res ce).length = nc + 1 := by rw [hWce, List.length_append, h2]; rfl
  have hne : ∀ a, a ∈ Ad → (κ a).1 ≠ 15 → a ≠ ce := fun a _ h e => h (by rw [e, kce.2])
  have hkeep : ∀ a, a ∈ Ad → (κ a).1 ≠ 15 → (κ a).1 ≠ 14 → (κ a).1 ≠ 6 → (κ a).1 ≠ 4 → ω2 a = ω a := fun a ha h1 h2 h3 h4 => by
    rw [hw2 a (by rw [hk' a ha h2]; exact h3), hΩ.1 a (by rw [hk' a ha h2]; exact h4)]
    exact hwN a ha (hne a ha h1)
  have w4 : wK4 κ Ad ω ω2 := ⟨fun a ha hk => hkeep a ha (by rcases hk with e | e | e | e | e | e <;> rw [e] <;> decide) (by rcases hk with e | e | e | e | e | e <;> rw [e] <;> decide) (by rcases hk with e | e | e | e | e | e <;> rw [e] <;> decide) (by rcases hk with e | e | e | e | e | e <;> rw [e] <;> decide), fun a ha hk => by
    rw [hw2 a (by rw [hk' a ha (by rw [hk]; decide), hk]; decide), hΩ.2 a, hwN a ha (hne a ha (by rw [hk]; decide))]⟩
  have wW : wK4 κ Ad ω (wU ω1 ce res) := ⟨fun a ha hk => hwN a ha (hne a ha (by rcases hk with e | e | e | e | e | e <;> rw [e] <;> decide)), fun a ha hk => by rw [hwN a ha (hne a ha (by rw [hk]; decide))]⟩
  have k4 : kK4 κ Ad κ' := fun a ha hk => hk' a ha (by rcases hk with e | e | e | e <;> rw [e] <;> decide)
  have hold : ∀ k, k < nc → cO κ' (nuR ν2 res NN) ω2 ((ω ce).getD k 0) = cc k := fun k hk9 => by
    obtain ⟨p, q, kc⟩ := ce9_en T kce (k := k) (by omega)
    rw [cO_k T kc w4 k4 (hNo _ kc.1)]
    exact (z1 k hk9).symm
  have holdW : ∀ k, k < nc → cO κ' (nuR ν2 res NN) (wU ω1 ce res) ((ω ce).getD k 0) = cc k := fun k hk9 => by
    obtain ⟨p, q, kc⟩ := ce9_en T kce (k := k) (by omega)
    rw [cO_k T kc wW k4 (hNo _ kc.1)]
    exact (z1 k hk9).symm
  have hnew : cO κ' (nuR ν2 res NN) ω2 res = cn := by
    obtain ⟨p, q, kr⟩ := hK
    have a1 := cO_k (κ' := κ') (ν' := nuR ν2 res NN) (Ω := ω2) T' kr ⟨fun a _ hk => hw2 a (by rcases hk with e | e | e | e | e | e <;> rw [e] <;> decide), fun a _ hk => by rw [hw2 a (by rw [hk]; decide)]⟩ (kK4.rf κ' Ad') rfl
    have a2 := cO_k (κ' := κ') (ν' := nuR ν2 res NN) (Ω := wU ω1 ce res) T' kr ⟨fun a _ hk => (hΩ.1 a (by rcases hk with e | e | e | e | e | e <;> rw [e] <;> decide)).symm, fun a _ _ => (hΩ.2 a).symm⟩ (kK4.rf κ' Ad') rfl
    rw [a1, ← a2]
    exact hcq
  have hend : (ω ce ++ [res]).getD nc 0 = res := by rw [← h2]; exact gD_end
  have hcW : ∀ k, k < nc + 1 → cO κ' (nuR ν2 res NN) (wU ω1 ce res) ((wU ω1 ce res ce).getD k 0) = vU cc nc cn k := fun k hk9 => by
    rw [hWce]
    by_cases e : k = nc
    · rw [e, hend, hcq]
      exact (if_pos rfl).symm
    · rw [gD_app (by omega), holdW k (by omega)]
      exact (if_neg e).symm
  have e2 : ω2 li = ω li := hkeep li kli.1 (by rw [kli.2]; exact (by decide : (17 : Nat) ≠ 15)) (by rw [kli.2]; exact (by decide : (17 : Nat) ≠ 14)) (by rw [kli.2]; exact (by decide : (17 : Nat) ≠ 6)) (by rw [kli.2]; exact (by decide : (17 : Nat) ≠ 4))
  have e3 : ω2 se = ω se := hkeep se kse.1 (by rw [kse.2]; exact (by decide : (13 : Nat) ≠ 15)) (by rw [kse.2]; exact (by decide : (13 : Nat) ≠ 14)) (by rw [kse.2]; exact (by decide : (13 : Nat) ≠ 6)) (by rw [kse.2]; exact (by decide : (13 : Nat) ≠ 4))
  have e4 : ω2 fo = ω fo := (hw20 fo kfo'.2).trans ((hΩ.1 fo (by rw [kfo'.2]; exact (by decide : (6 : Nat) ≠ 4))).trans (hwN fo kfo.1 (hne fo kfo.1 (by rw [kfo.2]; exact (by decide : (6 : Nat) ≠ 15)))))
  refine ⟨fun k hk9 => ?_, fun k hk9 => ?_, fun c K l hc => ?_, fun d hd k hk9 => ?_, by rw [e3]; exact z5, z6, z7, fun j hj => by rw [e4]; exact z8 j hj⟩
  · rw [hce2]
    by_cases e : k = nc
    · rw [e, hend, hnew]
      exact if_pos rfl
    · rw [gD_app (by omega), hold k (by omega)]
      exact if_neg e
  · obtain ⟨p, kg⟩ := li9_en T kli (k := k) (by omega)
    rw [e2, qO_k T kg w4 k4 (hNo _ kg.1)]
    exact z2 k hk9
  · rcases h89 c hc.1 (Or.inl (by rw [hc.2])) with ⟨e8, e9⟩ | e
    · obtain ⟨k, hk9, ek⟩ := X.1 c e8 (by rw [← e9, hc.2])
      have hcc : cO κ' (nuR ν2 res NN) ω2 c = cO κ ν ω c := by rw [ek, hold k (by omega)]; exact z1 k (by omega)
      rw [hNo _ e8, hcc]
      exact z3 c K l ⟨e8, by rw [← e9]; exact hc.2⟩
    · rw [e, hnew, show nuR ν2 res NN res = NN from if_pos rfl]
      exact hown
  · have hcd : (wU ω1 ce res ce).getD d 0 = (ω2 ce).getD d 0 := by rw [hWce, hce2]
    obtain ⟨p, q, kc⟩ := ce9_en T' kce' (k := d) (by rw [hΩce, List.length_append, h2]; exact hd)
    rw [hΩce, ← hce2] at kc
    have a1 : ω2 ((ω2 ce).getD d 0) = wU ω1 ce res ((ω2 ce).getD d 0) := (hw2 _ (by rw [kc.2]; exact (by decide : (8 : Nat) ≠ 6))).trans (hΩ.1 _ (by rw [kc.2]; exact (by decide : (8 : Nat) ≠ 4)))
    have ken := en_k T' kc.1 (by rw [kc.2])
    rw [hΩ.1 _ (by rw [kc.2]; exact (by decide : (8 : Nat) ≠ 4))] at ken
    have e9 : (ω2 ((ω2 ((ω2 ce).getD d 0)).getD 12 0)).getD 1 0 = (Ω ((wU ω1 ce res ((wU ω1 ce res ce).getD d 0)).getD 12 0)).getD 1 0 := by
      rw [a1, hcd, hw2 _ (by rw [ken.2]; exact (by decide : (4 : Nat) ≠ 6))]
    have hb := hB d (by rw [hWl]; exact hd) k hk9
    rw [hWl, h2] at hb
    rw [e9]
    refine hb.trans ((lk_fin hd (fun d8 h8 => ?_) ?_).trans ⟨fun ⟨a, b⟩ => ⟨a, ?_⟩, fun ⟨a, b⟩ => ⟨a, ?_⟩⟩)
    · obtain ⟨p8, q8, kc8⟩ := ce9_en T kce (k := d8) (by omega)
      have ken8 := en_k T kc8.1 (by rw [kc8.2])
      have b1 : (wU ω1 ce res ce).getD d8 0 = (ω ce).getD d8 0 := by rw [hWce]; exact gD_app (by omega)
      show bJ (nI ((wU ω1 ce res ((wU ω1 ce res ((wU ω1 ce res ce).getD d8 0)).getD 12 0)).getD 1 0)) k = true ↔ k < nc ∧ folQ (cO κ' (nuR ν2 res NN) (wU ω1 ce res) ((wU ω1 ce res ce).getD k 0)) (cO κ' (nuR ν2 res NN) (wU ω1 ce res) ((wU ω1 ce res ce).getD d8 0))
      rw [hcW d8 (by omega), b1, hwN _ kc8.1 (hne _ kc8.1 (by rw [kc8.2]; exact (by decide : (8 : Nat) ≠ 15))), hwN _ ken8.1 (hne _ ken8.1 (by rw [ken8.2]; exact (by decide : (4 : Nat) ≠ 15)))]
      refine (z4 d8 h8 k hk9).trans ⟨fun ⟨a, b⟩ => ⟨a, ?_⟩, fun ⟨a, b⟩ => ⟨a, ?_⟩⟩
      · rw [hcW k (by omega), show vU cc nc cn k = cc k from if_neg (by omega), show vU cc nc cn d8 = cc d8 from if_neg (by omega)]
        exact b
      · rw [hcW k (by omega), show vU cc nc cn k = cc k from if_neg (by omega), show vU cc nc cn d8 = cc d8 from if_neg (by omega)] at b
        exact b
    · show ¬ bJ (nI ((wU ω1 ce res ((wU ω1 ce res ((wU ω1 ce res ce).getD nc 0)).getD 12 0)).getD 1 0)) k = true
      rw [show (wU ω1 ce res ce).getD nc 0 = res by rw [hWce]; exact hend, hen, show nI 0 = 0 from rfl, bJ_0]
      exact Bool.false_ne_true
    · have b : folQ (cO κ' (nuR ν2 res NN) (wU ω1 ce res) ((wU ω1 ce res ce).getD k 0)) (cO κ' (nuR ν2 res NN) (wU ω1 ce res) ((wU ω1 ce res ce).getD d 0)) := b
      rw [hcW k a, hcW d hd] at b
      exact b
    · show folQ (cO κ' (nuR ν2 res NN) (wU ω1 ce res) ((wU ω1 ce res ce).getD k 0)) (cO κ' (nuR ν2 res NN) (wU ω1 ce res) ((wU ω1 ce res ce).getD d 0))
      rw [hcW k a, hcW d hd]
      exact b
/-- one list more -/
theorem ZI.list {res : Nat} {NN : cN} {cn : lQ} (Z : ZI κ Ad ν ω ce li se fo nc nl cc cl vs foS chS faP) (X : XI κ Ad ν ω ce) (T : TY γ κ Ad ν ω L G) (T' : TY γ κ' Ad' (nuR ν2 res NN) (wU ω1 li res) L' G') (hC : CKx sb κ Ad ω ho ce li sh rs se ch fo q0 pl) (hC' : CKx sb κ' Ad' (wU ω1 li res) ho ce li sh rs se ch fo q0 pl) (h2 : (ω ce).length = nc) (h3 : (ω li).length = nl)
    (hres : res ∉ Ad) (hK : ∃ p, tK κ' Ad' res (9, p, 0)) (hkk : ∀ b, b ∈ Ad → (κ b).1 ≠ 16 → κ' b = κ b ∧ b ∈ Ad') (hω1 : ∀ b, b ∈ Ad → ω1 b = ω b) (hν2 : ∀ b, b ∈ Ad → ν2 b = ν b) (hcq : qO κ' (nuR ν2 res NN) (wU ω1 li res) res = cn) (h89 : ∀ b, b ∈ Ad' → (κ' b).1 = 8 ∨ (κ' b).1 = 9 → (b ∈ Ad ∧ κ' b = κ b) ∨ b = res) (hw2 : ∀ a, (κ' a).1 ≠ 6 → ω2 a = wU ω1 li res a) (hw20 : ∀ a, κ' a = (6, 16, 0) → ω2 a = wU ω1 li res a) :
    ZI κ' Ad' (nuR ν2 res NN) ω2 ce li se fo nc (nl + 1) cc (vU cl nl cn) vs foS chS faP := by
  obtain ⟨⟨-, kce, kli, -, -, kse, -, kfo⟩, -⟩ := id hC
  obtain ⟨⟨-, kce', kli', -, -, kse', -, kfo'⟩, -⟩ := id hC'
  obtain ⟨z1, z2, z3, z4, z5, z6, z7, z8⟩ := Z
  have hwN : ∀ a, a ∈ Ad → (κ a).1 ≠ 17 → wU ω1 li res a = ω a := fun a ha h => (if_neg (fun e => h (by rw [e, kli.2]))).trans (hω1 a ha)
  have hNo : ∀ a, a ∈ Ad → nuR ν2 res NN a = ν a := fun a ha => (if_neg (fun e => hres (by rw [← e]; exact ha))).trans (hν2 a ha)
  have hk' : ∀ a, a ∈ Ad → (κ a).1 ≠ 16 → κ' a = κ a := fun a ha h => (hkk a ha h).1
  have hli2 : ω2 li = ω li ++ [res] := (hw2 li (by rw [kli'.2]; exact (by decide : (17 : Nat) ≠ 6))).trans ((if_pos rfl).trans (by rw [hω1 li kli.1]))
  have hkeep : ∀ a, a ∈ Ad → (κ a).1 ≠ 17 → (κ a).1 ≠ 16 → (κ a).1 ≠ 6 → ω2 a = ω a := fun a ha h1 h2 h3 => (hw2 a (by rw [hk' a ha h2]; exact h3)).trans (hwN a ha h1)
  have w4 : wK4 κ Ad ω ω2 := ⟨fun a ha hk => hkeep a ha (by rcases hk with e | e | e | e | e | e <;> rw [e] <;> decide) (by rcases hk with e | e | e | e | e | e <;> rw [e] <;> decide) (by rcases hk with e | e | e | e | e | e <;> rw [e] <;> decide), fun a ha hk => by rw [hkeep a ha (by rw [hk]; decide) (by rw [hk]; decide) (by rw [hk]; decide)]⟩
  have k4 : kK4 κ Ad κ' := fun a ha hk => hk' a ha (by rcases hk with e | e | e | e <;> rw [e] <;> decide)
  have hold : ∀ k, k < nc → cO κ' (nuR ν2 res NN) ω2 ((ω ce).getD k 0) = cc k := fun k hk9 => by
    obtain ⟨p, q, kc⟩ := ce9_en T kce (k := k) (by omega)
    rw [cO_k T kc w4 k4 (hNo _ kc.1)]
    exact (z1 k hk9).symm
  have e1 : ω2 ce = ω ce := hkeep ce kce.1 (by rw [kce.2]; exact (by decide : (15 : Nat) ≠ 17)) (by rw [kce.2]; exact (by decide : (15 : Nat) ≠ 16)) (by rw [kce.2]; exact (by decide : (15 : Nat) ≠ 6))
  have e3 : ω2 se = ω se := hkeep se kse.1 (by rw [kse.2]; exact (by decide : (13 : Nat) ≠ 17)) (by rw [kse.2]; exact (by decide : (13 : Nat) ≠ 16)) (by rw [kse.2]; exact (by decide : (13 : Nat) ≠ 6))
  have e4 : ω2 fo = ω fo := (hw20 fo kfo'.2).trans (hwN fo kfo.1 (by rw [kfo.2]; exact (by decide : (6 : Nat) ≠ 17)))
  refine ⟨fun k hk9 => by rw [e1, hold k hk9], fun k hk9 => ?_, fun c K l hc => ?_, fun d hd k hk9 => ?_, by rw [e3]; exact z5, z6, z7, fun j hj => by rw [e4]; exact z8 j hj⟩
  · rw [hli2]
    by_cases e : k = nl
    · obtain ⟨p, kr⟩ := hK
      have a1 := qO_k (κ' := κ') (ν' := nuR ν2 res NN) (Ω := ω2) T' kr ⟨fun a _ hk => hw2 a (by rcases hk with e | e | e | e | e | e <;> rw [e] <;> decide), fun a _ hk => by rw [hw2 a (by rw [hk]; decide)]⟩ (kK4.rf κ' Ad') rfl
      rw [e, show (ω li ++ [res]).getD nl 0 = res by rw [← h3]; exact gD_end, a1, hcq]
      exact if_pos rfl
    · obtain ⟨p, kg⟩ := li9_en T kli (k := k) (by omega)
      rw [gD_app (by omega), qO_k T kg w4 k4 (hNo _ kg.1)]
      exact (if_neg e).trans (z2 k (by omega))
  · rcases h89 c hc.1 (Or.inl (by rw [hc.2])) with ⟨e8, e9⟩ | e
    · obtain ⟨k, hk9, ek⟩ := X.1 c e8 (by rw [← e9, hc.2])
      have hcc : cO κ' (nuR ν2 res NN) ω2 c = cO κ ν ω c := by rw [ek, hold k (by omega)]; exact z1 k (by omega)
      rw [hNo _ e8, hcc]
      exact z3 c K l ⟨e8, by rw [← e9]; exact hc.2⟩
    · obtain ⟨p, kr⟩ := hK
      have a := hc.2
      rw [e, kr.2] at a
      exact absurd (congrArg Prod.fst a) (by simp)
  · obtain ⟨p, q, kc⟩ := ce9_en T kce (k := d) (by omega)
    have ken := en_k T kc.1 (by rw [kc.2])
    rw [e1, hkeep _ kc.1 (by rw [kc.2]; exact (by decide : (8 : Nat) ≠ 17)) (by rw [kc.2]; exact (by decide : (8 : Nat) ≠ 16)) (by rw [kc.2]; exact (by decide : (8 : Nat) ≠ 6)), hkeep _ ken.1 (by rw [ken.2]; exact (by decide : (4 : Nat) ≠ 17)) (by rw [ken.2]; exact (by decide : (4 : Nat) ≠ 16)) (by rw [ken.2]; exact (by decide : (4 : Nat) ≠ 6))]
    exact z4 d hd k hk9
end ZIS
def CI (γ : cG) (sb : sB) (q0 ou : Nat) (fu : Nat → Nat) (fd : Nat) (wr : Int32) (nc nl : Nat) (vc : Nat → vC) (vl : Nat → vL) (cc : Nat → cQ) (cl : Nat → lQ) (vs : sS) (ov : Nat → Int64) (G : va_W) : Prop :=
  ∃ (κ : kE) (Ad : List Nat) (ν : Nat → cN) (ω : Nat → List Nat) (fe ho ce li sh rs se ch fo pl L : Nat) (o : alD) (as : List Nat) (foS chS faP : Int32), LWx γ sb κ Ad ν ω fe ho ce li sh rs se ch fo q0 pl ou fu ov (G, L, o, as, foS, chS, faP, nI fd, wr) ∧ (ω ce).length = nc ∧ (ω li).length = nl ∧
    (∀ k, k < nc → vc k = vcO κ ν ω ((ω ce).getD k 0) ∧ (vc k).1.2.2.2.2.2.2.2.2.2.2.2.2 = nI k) ∧ (∀ k, k < nl → vl k = vlO κ ν ω ((ω li).getD k 0)) ∧ fd ≤ 2060 ∧ (∀ j, fu j < 256) ∧ XI κ Ad ν ω ce ∧ ZI κ Ad ν ω ce li se fo nc nl cc cl vs foS chS faP
section CIS
variable {γ : cG} {κ κ' : kE} {Ad Ad' : List Nat} {ν : Nat → cN} {ω : Nat → List Nat} {L : Nat} {G : va_W}
theorem ce_en {ce ed : Nat} (h : TY γ κ Ad ν ω L G) (ha : tK κ Ad ce (15, ed, 0)) {k : Nat} (hk : k < (ω ce).length) : ∃ p q, tK κ Ad ((ω ce).getD k 0) (8, p, q) := by
  obtain ⟨i, q, m, -, h2, -⟩ := ty_15 h ha
  obtain ⟨cap, hc⟩ := h2 (by omega)
  obtain ⟨_, f, -, -, h3, -⟩ := ty_14 h hc
  exact (h3 k hk).2
theorem li_en {li ed : Nat} (h : TY γ κ Ad ν ω L G) (ha : tK κ Ad li (17, ed, 0)) {k : Nat} (hk : k < (ω li).length) : ∃ p, tK κ Ad ((ω li).getD k 0) (9, p, 0) := by
  obtain ⟨i, q, m, -, h2, -⟩ := ty_17 h ha
  obtain ⟨cap, hc⟩ := h2 (by omega)
  obtain ⟨_, f, -, -, h3, -⟩ := ty_16 h hc
  exact (h3 k hk).2
theorem nuR_ne {res b : Nat} {x : cN} (h : b ≠ res) : nuR ν res x b = ν b := if_neg h
theorem nuR_at {res : Nat} {x : cN} : nuR ν res x res = x := if_pos rfl
theorem wU_at {l v : Nat} : wU ω l v l = ω l ++ [v] := if_pos rfl
theorem wU_ne {l v b : Nat} (h : b ≠ l) : wU ω l v b = ω b := if_neg h
theorem getD_app {l : List Nat} {v k : Nat} (h : k < l.length) : (l ++ [v]).getD k 0 = l.getD k 0 := by
  rw [List.getD_eq_getElem?_getD, List.getD_eq_getElem?_getD, List.getElem?_append_left h]
theorem getD_end {l : List Nat} {v : Nat} : (l ++ [v]).getD l.length 0 = v := by
  rw [List.getD_eq_getElem?_getD, List.getElem?_append_right (Nat.le_refl _)]
  simp
end CIS
def vT (vc : Nat → vC) (k : Nat) (j : Int32) : Nat → vC := fun i => if i = k then (((vc k).1.1, (vc k).1.2.1, (vc k).1.2.2.1, (vc k).1.2.2.2.1, (vc k).1.2.2.2.2.1, (vc k).1.2.2.2.2.2.1, (vc k).1.2.2.2.2.2.2.1, (vc k).1.2.2.2.2.2.2.2.1, j, (vc k).1.2.2.2.2.2.2.2.2.2), (vc k).2) else vc i
def hw8 (f : Nat → Int32) : Nat → Int32 := fun j => if j < 8 then f j else 0
theorem hw8_of {n : cN} {f : Nat → Int32} (h : ∀ j, j < 8 → wN n j = f j) : wN n = hw8 f := by
  funext j
  by_cases hj : j < 8
  · rw [show hw8 f j = f j from if_pos hj]
    exact h j hj
  · rw [show hw8 f j = 0 from if_neg hj]
    obtain ⟨k, rfl⟩ : ∃ k, j = k + 8 := ⟨j - 8, by omega⟩
    rfl

set_option maxHeartbeats 4000000 in
theorem ci_digest (l : Launch) (hl0 : l.stackTraces = false) (dC : Nat → ClassId) (dI : Nat → Nat → Nat) (sb : sB) (γ : cG) (q0 ou : Nat) (fu : Nat → Nat) (fd : Nat) (wr : Int32) (nc nl : Nat) (vc : Nat → vC) (vl : Nat → vL) (cc : Nat → cQ) (cl : Nat → lQ) (vs : sS) (ov : Nat → Int64) (G : va_W) (i j : Int32) (sz : Nat) (h : CI γ sb q0 ou fu fd wr nc nl vc vl cc cl vs ov G)  : CCi l y_TrustChainLaw_digest w_TrustChainLaw_digest ({ frames := 8, cells := 1, slots := 6, locals := 150 }) [.ref q0, .int i, .int j, .ref ou] (dC, dI) sb (ty4 γ) G sz (fun r G' => ∃ ov', CI γ sb q0 ou fu fd wr nc nl vc vl cc cl vs ov' G' ∧ ((r = 0 ∧ ∃ k m, k < nc ∧ i = nI k ∧ m < 8 ∧ j = nI m ∧ ov' = vp_updL ov 0 ((vc k).2.2.2.1 m).toInt64) ∨ (r = 1 ∧ ¬ ((¬ i < 0 ∧ i < nI nc) ∧ ¬ j < 0 ∧ j < 8) ∧ ov' = ov))) := by
  obtain ⟨κ, Ad, ν, ω, fe, ho, ce, li, sh, rs, se, ch, fo, pl, L, o, as, foS, chS, faP, hLW, h2, h3, h4, h5, h6, h7⟩ := h
  refine cci_of (zl_digest l hl0 dC dI sb γ κ Ad ν ω L G fe ho ce li sh rs se ch fo q0 pl o as foS chS faP (nI fd) wr ou fu ov i j sz hLW) rfl rfl (fun r u _ hw => ?_)
  obtain ⟨⟨G', L', o', as', f', c', p', d', w'⟩, ov'⟩ := u
  obtain ⟨hW', ⟨hr, r9, ⟨hu, -, -, -, k, m, hk, hi, hm, hj, h9⟩, ho9⟩ | ⟨E, ⟨hu, -, hn⟩, hr, ho9⟩⟩ := hw
  · obtain ⟨rfl, rfl, rfl, rfl, rfl⟩ := pr5 (show (f', c', p', d', w') = (_, _, _, _, _) from hu)
    exact ⟨ov', ⟨κ, Ad, ν, ω, fe, ho, ce, li, sh, rs, se, ch, fo, pl, L', o', as', f', c', p', hW', h2, h3, h4, h5, h6, h7⟩, Or.inl ⟨hr, k, m, by omega, hi, hm, hj, by rw [(h4 k (by omega)).1]; rw [h9] at ho9; exact ho9⟩⟩
  · obtain ⟨rfl, rfl, rfl, rfl, rfl⟩ := pr5 (show (f', c', p', d', w') = (_, _, _, _, _) from hu)
    exact ⟨ov', ⟨κ, Ad, ν, ω, fe, ho, ce, li, sh, rs, se, ch, fo, pl, L', o', as', f', c', p', hW', h2, h3, h4, h5, h6, h7⟩, Or.inr ⟨by rw [hr]; split <;> rfl, by rw [h2] at hn; exact hn, ho9⟩⟩
set_option maxHeartbeats 4000000 in
theorem ci_signed (l : Launch) (hl0 : l.stackTraces = false) (dC : Nat → ClassId) (dI : Nat → Nat → Nat) (sb : sB) (γ : cG) (q0 ou : Nat) (fu : Nat → Nat) (fd : Nat) (wr : Int32) (nc nl : Nat) (vc : Nat → vC) (vl : Nat → vL) (cc : Nat → cQ) (cl : Nat → lQ) (vs : sS) (ov : Nat → Int64) (G : va_W) (b i j : Int32) (sz : Nat) (h : CI γ sb q0 ou fu fd wr nc nl vc vl cc cl vs ov G)  : CCi l y_TrustChainLaw_signed w_TrustChainLaw_signed ({ frames := 8, cells := 1, slots := 6, locals := 150 }) [.ref q0, .int b, .int i, .int j, .ref ou] (dC, dI) sb (ty4 γ) G sz (fun r G' => ∃ ov', CI γ sb q0 ou fu fd wr nc nl vc vl cc cl vs ov' G' ∧ ((r = 0 ∧ ∃ (r9 : Int32) (k k2 : Nat), i = nI k ∧ j = nI k2 ∧ k2 < nc ∧ ((b = 0 ∧ k < nc ∧ bz r9 (sgV (vc k).2.2.2.1 (vc k2).2.2.2.2.1 (vc k2).2.2.2.2.2.1 (vc k).2.2.2.2.2.2.1 (vc k).2.2.2.2.2.2.2 (vc k2).1.2.2.1.toNatClampNeg)) ∨ (¬ b = 0 ∧ k < nl ∧ bz r9 (sgV (vl k).2.2.1 (vc k2).2.2.2.2.1 (vc k2).2.2.2.2.2.1 (vl k).2.2.2.1 (vl k).2.2.2.2 (vc k2).1.2.2.1.toNatClampNeg))) ∧ ov' = vp_updL ov 0 (if r9 = 0 then 0 else 1)) ∨ (r = 1 ∧ ¬ ((¬ j < 0 ∧ j < nI nc) ∧ (¬ b = 0 → (¬ i < 0 ∧ i < nI nl)) ∧ (b = 0 → (¬ i < 0 ∧ i < nI nc))) ∧ ov' = ov))) := by
  obtain ⟨κ, Ad, ν, ω, fe, ho, ce, li, sh, rs, se, ch, fo, pl, L, o, as, foS, chS, faP, hLW, h2, h3, h4, h5, h6, h7⟩ := h
  refine cci_of (zl_signed l hl0 dC dI sb γ κ Ad ν ω L G fe ho ce li sh rs se ch fo q0 pl o as foS chS faP (nI fd) wr ou fu ov b i j sz hLW (h7.2.1.xc hLW.1.2.2.1)) rfl rfl (fun r u _ hw => ?_)
  obtain ⟨⟨G', L', o', as', f', c', p', d', w'⟩, ov'⟩ := u
  obtain ⟨hW', ⟨hr, r9, ⟨hu, k, k2, hi, hj, hk2, hs⟩, ho9⟩ | ⟨E, ⟨hu, -, hn⟩, hr, ho9⟩⟩ := hw
  · obtain ⟨rfl, rfl, rfl, rfl, rfl⟩ := pr5 (show (f', c', p', d', w') = (_, _, _, _, _) from hu)
    refine ⟨ov', ⟨κ, Ad, ν, ω, fe, ho, ce, li, sh, rs, se, ch, fo, pl, L', o', as', f', c', p', hW', h2, h3, h4, h5, h6, h7⟩, Or.inl ⟨hr, r9, k, k2, hi, hj, by omega, ?_, ho9⟩⟩
    have e2 := (h4 k2 (by omega)).1
    rcases hs with ⟨hb, hk, hs⟩ | ⟨hb, hk, hs⟩
    · have e1 := (h4 k (by omega)).1
      refine Or.inl ⟨hb, by omega, ?_⟩
      rw [e1, e2]
      exact hs
    · have e1 := h5 k (by omega)
      refine Or.inr ⟨hb, by omega, ?_⟩
      rw [e1, e2]
      exact hs
  · obtain ⟨rfl, rfl, rfl, rfl, rfl⟩ := pr5 (show (f', c', p', d', w') = (_, _, _, _, _) from hu)
    exact ⟨ov', ⟨κ, Ad, ν, ω, fe, ho, ce, li, sh, rs, se, ch, fo, pl, L', o', as', f', c', p', hW', h2, h3, h4, h5, h6, h7⟩, Or.inr ⟨by rw [hr]; split <;> rfl, by rw [h2, h3] at hn; exact hn, ho9⟩⟩
set_option maxHeartbeats 4000000 in
theorem ci_covers (l : Launch) (hl0 : l.stackTraces = false) (dC : Nat → ClassId) (dI : Nat → Nat → Nat) (sb : sB) (γ : cG) (q0 ou : Nat) (fu : Nat → Nat) (fd : Nat) (wr : Int32) (nc nl : Nat) (vc : Nat → vC) (vl : Nat → vL) (cc : Nat → cQ) (cl : Nat → lQ) (vs : sS) (ov : Nat → Int64) (G : va_W) (i : Int32) (x0 x1 x2 x3 : Int64) (sz : Nat) (h : CI γ sb q0 ou fu fd wr nc nl vc vl cc cl vs ov G)  : CCi l y_TrustChainLaw_covers w_TrustChainLaw_covers ({ frames := 8, cells := 1, slots := 6, locals := 150 }) [.ref q0, .int i, .long x0, .long x1, .long x2, .long x3, .ref ou] (dC, dI) sb (ty4 γ) G sz (fun r G' => ∃ ov', CI γ sb q0 ou fu fd wr nc nl vc vl cc cl vs ov' G') := by
  obtain ⟨κ, Ad, ν, ω, fe, ho, ce, li, sh, rs, se, ch, fo, pl, L, o, as, foS, chS, faP, hLW, h2, h3, h4, h5, h6, h7⟩ := h
  refine cci_of (zl_covers l hl0 dC dI sb γ κ Ad ν ω L G fe ho ce li sh rs se ch fo q0 pl o as foS chS faP (nI fd) wr ou fu ov i x0 x1 x2 x3 sz hLW) rfl rfl (fun r u _ hw => ?_)
  obtain ⟨⟨G', L', o', as', f', c', p', d', w'⟩, ov'⟩ := u
  obtain ⟨hW', ⟨-, r9, ⟨hu, -⟩, -⟩ | ⟨E, ⟨hu, -⟩, -⟩⟩ := hw
  · obtain ⟨rfl, rfl, rfl, rfl, rfl⟩ := pr5 (show (f', c', p', d', w') = (_, _, _, _, _) from hu)
    exact ⟨ov', κ, Ad, ν, ω, fe, ho, ce, li, sh, rs, se, ch, fo, pl, L', o', as', f', c', p', hW', h2, h3, h4, h5, h6, h7⟩
  · obtain ⟨rfl, rfl, rfl, rfl, rfl⟩ := pr5 (show (f', c', p', d', w') = (_, _, _, _, _) from hu)
    exact ⟨ov', κ, Ad, ν, ω, fe, ho, ce, li, sh, rs, se, ch, fo, pl, L', o', as', f', c', p', hW', h2, h3, h4, h5, h6, h7⟩
set_option maxHeartbeats 4000000 in
theorem ci_chain (l : Launch) (hl0 : l.stackTraces = false) (dC : Nat → ClassId) (dI : Nat → Nat → Nat) (sb : sB) (γ : cG) (q0 ou : Nat) (fu : Nat → Nat) (fd : Nat) (wr : Int32) (nc nl : Nat) (vc : Nat → vC) (vl : Nat → vL) (cc : Nat → cQ) (cl : Nat → lQ) (vs : sS) (ov : Nat → Int64) (G : va_W) (i : Int32) (sz : Nat) (h : CI γ sb q0 ou fu fd wr nc nl vc vl cc cl vs ov G)  : CCi l y_TrustChainLaw_chain w_TrustChainLaw_chain ({ frames := 8, cells := 1, slots := 6, locals := 150 }) [.ref q0, .int i, .ref ou] (dC, dI) sb (ty4 γ) G sz (fun r G' => ∃ ov', CI γ sb q0 ou fu fd wr nc nl vc vl cc cl vs ov' G' ∧ ((r = 0 ∧ ∃ k, k < vs.2.2.1.length ∧ i = nI k ∧ ov' = vp_updL ov 0 (nI (vs.2.2.1.reverse.getD k 0)).toInt64) ∨ (r = 1 ∧ ¬ (¬ i < 0 ∧ i < nI vs.2.2.1.length) ∧ ov' = ov))) := by
  obtain ⟨κ, Ad, ν, ω, fe, ho, ce, li, sh, rs, se, ch, fo, pl, L, o, as, foS, chS, faP, hLW, h2, h3, h4, h5, h6, h7⟩ := h
  refine cci_of (zl_chain l hl0 dC dI sb γ κ Ad ν ω L G fe ho ce li sh rs se ch fo q0 pl o as foS chS faP (nI fd) wr ou fu ov i sz hLW) rfl rfl (fun r u _ hw => ?_)
  obtain ⟨⟨G', L', o', as', f', c', p', d', w'⟩, ov'⟩ := u
  obtain ⟨hW', ⟨hr, r9, ⟨hu, ⟨hi0, hi1, -⟩, k9, hk9, ek9, er9⟩, ho9⟩ | ⟨E, ⟨hu, -, hn⟩, hr, ho9⟩⟩ := hw
  · obtain ⟨rfl, rfl, rfl, rfl, rfl⟩ := pr5 (show (f', c', p', d', w') = (_, _, _, _, _) from hu)
    obtain ⟨-, -, -, -, -, ⟨f1, f2, f3⟩, z7, z8⟩ := h7.2.2
    have hkl : k9 < vs.2.2.1.length := by rw [f1, ek9] at hi1; exact (nI_ltI (a := k9) (b := vs.2.2.1.length) (by omega) (by omega)).mp hi1
    exact ⟨ov', ⟨κ, Ad, ν, ω, fe, ho, ce, li, sh, rs, se, ch, fo, pl, L', o', as', f', c', p', hW', h2, h3, h4, h5, h6, h7⟩, Or.inl ⟨hr, k9, hkl, ek9, by rw [er9, z8 k9 hkl] at ho9; exact ho9⟩⟩
  · obtain ⟨rfl, rfl, rfl, rfl, rfl⟩ := pr5 (show (f', c', p', d', w') = (_, _, _, _, _) from hu)
    obtain ⟨-, -, -, -, -, ⟨f1, f2, f3⟩, z7, z8⟩ := h7.2.2
    refine ⟨ov', ⟨κ, Ad, ν, ω, fe, ho, ce, li, sh, rs, se, ch, fo, pl, L', o', as', f', c', p', hW', h2, h3, h4, h5, h6, h7⟩, Or.inr ⟨by rw [hr]; split <;> rfl, fun q => hn ⟨q.1, by rw [f1]; exact q.2, ?_⟩, ho9⟩⟩
    obtain ⟨k8, hk8, e8⟩ := nI_at9 q.1 q.2 (by omega)
    rw [e8]
    exact (nI_ltI (a := k8) (b := 16) (by omega) (by omega)).mpr (by omega)
set_option maxHeartbeats 4000000 in
theorem ci_count (l : Launch) (hl0 : l.stackTraces = false) (dC : Nat → ClassId) (dI : Nat → Nat → Nat) (sb : sB) (γ : cG) (q0 ou : Nat) (fu : Nat → Nat) (fd : Nat) (wr : Int32) (nc nl : Nat) (vc : Nat → vC) (vl : Nat → vL) (cc : Nat → cQ) (cl : Nat → lQ) (vs : sS) (ov : Nat → Int64) (G : va_W) (i : Int32) (sz : Nat) (h : CI γ sb q0 ou fu fd wr nc nl vc vl cc cl vs ov G)  : CCi l y_TrustChainLaw_count w_TrustChainLaw_count ({ frames := 8, cells := 1, slots := 6, locals := 150 }) [.ref q0, .int i, .ref ou] (dC, dI) sb (ty4 γ) G sz (fun r G' => ∃ ov', CI γ sb q0 ou fu fd wr nc nl vc vl cc cl vs ov' G' ∧ ((r = 0 ∧ ∃ r9 : Int32, cntI nc nl (nI vs.2.1) vs.2.2.2.2 (nI fd) i = some r9 ∧ ov' = vp_updL ov 0 r9.toInt64) ∨ (r = 1 ∧ cntI nc nl (nI vs.2.1) vs.2.2.2.2 (nI fd) i = none ∧ ov' = ov))) := by
  obtain ⟨κ, Ad, ν, ω, fe, ho, ce, li, sh, rs, se, ch, fo, pl, L, o, as, foS, chS, faP, hLW, h2, h3, h4, h5, h6, h7⟩ := h
  refine cci_of (zl_count l hl0 dC dI sb γ κ Ad ν ω L G fe ho ce li sh rs se ch fo q0 pl o as foS chS faP (nI fd) wr ou fu ov i sz hLW) rfl rfl (fun r u _ hw => ?_)
  obtain ⟨⟨G', L', o', as', f', c', p', d', w'⟩, ov'⟩ := u
  obtain ⟨hW', ⟨hr, r9, ⟨hu, hc9⟩, ho9⟩ | ⟨E, ⟨hu, -, hn⟩, hr, ho9⟩⟩ := hw
  · obtain ⟨rfl, rfl, rfl, rfl, rfl⟩ := pr5 (show (f', c', p', d', w') = (_, _, _, _, _) from hu)
    obtain ⟨-, -, -, -, -, ⟨f1, f2, f3⟩, z7, z8⟩ := h7.2.2
    exact ⟨ov', ⟨κ, Ad, ν, ω, fe, ho, ce, li, sh, rs, se, ch, fo, pl, L', o', as', f', c', p', hW', h2, h3, h4, h5, h6, h7⟩, Or.inl ⟨hr, r9, by rw [h2, h3, f2, f3] at hc9; exact hc9, ho9⟩⟩
  · obtain ⟨rfl, rfl, rfl, rfl, rfl⟩ := pr5 (show (f', c', p', d', w') = (_, _, _, _, _) from hu)
    obtain ⟨-, -, -, -, -, ⟨f1, f2, f3⟩, z7, z8⟩ := h7.2.2
    exact ⟨ov', ⟨κ, Ad, ν, ω, fe, ho, ce, li, sh, rs, se, ch, fo, pl, L', o', as', f', c', p', hW', h2, h3, h4, h5, h6, h7⟩, Or.inr ⟨by rw [hr]; split <;> rfl, by rw [h2, h3, f2, f3] at hn; exact hn, ho9⟩⟩
set_option maxHeartbeats 4000000 in
theorem ci_validate (l : Launch) (hl0 : l.stackTraces = false) (dC : Nat → ClassId) (dI : Nat → Nat → Nat) (sb : sB) (γ : cG) (q0 ou : Nat) (fu : Nat → Nat) (fd : Nat) (wr : Int32) (nc nl : Nat) (vc : Nat → vC) (vl : Nat → vL) (cc : Nat → cQ) (cl : Nat → lQ) (vs : sS) (ov : Nat → Int64) (G : va_W) (i j kn : Int32) (tm : Int64) (sz : Nat) (h : CI γ sb q0 ou fu fd wr nc nl vc vl cc cl vs ov G) (hkn : bz kn (kn = 1)) : CCi l y_TrustChainLaw_validate w_TrustChainLaw_validate ({ frames := 13, cells := 3, slots := 47, locals := 392 }) [.ref q0, .int i, .long tm, .int j, .int kn, .ref ou] (dC, dI) sb (ty4 γ) G sz (fun r G' => (r = 0 ∧ ∃ k D, k < nc ∧ i = nI k ∧ j = nI D ∧ 1 ≤ D ∧ D ≤ 16 ∧ CI γ sb q0 ou fu fd wr nc nl vc vl cc cl (valV nc nl vc vl cc cl tm kn k D) (vp_updL ov 0 (valV nc nl vc vl cc cl tm kn k D).2.2.2.1.toInt64) G') ∨ (r = 1 ∧ (j < 1 ∨ 16 < j) ∧ CI γ sb q0 ou fu fd wr nc nl vc vl cc cl vs ov G') ∨ (r = 2 ∧ ¬ (j < 1 ∨ 16 < j) ∧ ¬ (¬ i < 0 ∧ i < nI nc) ∧ CI γ sb q0 ou fu fd wr nc nl vc vl cc cl vs ov G')) := by
  obtain ⟨κ, Ad, ν, ω, fe, ho, ce, li, sh, rs, se, ch, fo, pl, L, o, as, foS, chS, faP, hLW, h2, h3, h4, h5, h6, h7⟩ := h
  refine cci_of (zl_validate l hl0 dC dI sb γ κ Ad ν ω L G fe ho ce li sh rs se ch fo q0 pl o as foS chS faP (nI fd) wr ou fu ov i j kn tm sz hLW hkn (h7.2.1.xc hLW.1.2.2.1) h7.2.2.2.2.1 (fun k9 h9 => (h7.2.1.2.1 k9 h9).1) (h7.2.2.bi h2) h7.2.2.2.2.2.2.1) rfl rfl (fun r u _ hw => ?_)
  obtain ⟨⟨G', L', o', as', f', c', p', d', w'⟩, ov'⟩ := u
  rcases hw with ⟨hr, ν', ω', k, D, r9, hVE, hW', ⟨ei, hk, ej, hD1, hD2⟩, hu, hrow, er9, ho9⟩ | ⟨hW', E, ⟨hu, hE⟩, hr, ho9⟩
  · obtain ⟨q1, q2, q3, rfl, rfl⟩ := pr5 (show (f', c', p', d', w') = (_, _, _, _, _) from hu)
    have ho9 : ov' = _ := ho9
    have T := hLW.2.1.1
    have hC := hLW.1
    dsimp only at T
    have hVv : vVQ κ ν ω ce li tm kn k D = (valV nc nl vc vl cc cl tm kn k D) := h7.2.2.val h2 h3 (fun z hz => (h4 z hz).1) h5 (by omega)
    rw [hVv] at q1 q2 q3 hrow er9
    have Z' := h7.2.2.ve T hC h2 h3 hVE ⟨q1, q2, q3⟩ hrow
    have X' := h7.2.1.ve T hC hVE
    have hVK := CK_vk hC T
    have kce := hLW.1.1.2.1
    have kli := hLW.1.1.2.2.1
    have e1 : ω' ce = ω ce := hVE.om1 hVK (by rw [kce.2]; exact (by decide : (15 : Nat) ≠ 6))
    have e2 : ω' li = ω li := hVE.om1 hVK (by rw [kli.2]; exact (by decide : (17 : Nat) ≠ 6))
    refine Or.inl ⟨hr, k, D, by omega, ei, ej, hD1, hD2, ?_⟩
    rw [er9] at ho9
    rw [← ho9]
    refine ⟨κ, Ad, ν', ω', fe, ho, ce, li, sh, rs, se, ch, fo, pl, L', o', as', f', c', p', hW', by rw [e1]; exact h2, by rw [e2]; exact h3, fun z hz => ?_, fun z hz => ?_, h6, h7.1, X', Z'⟩
    · obtain ⟨p1, p2, t1⟩ := ce_en T kce (k := z) (by omega)
      rw [e1, hVE.vcK hVK T t1.1 (by rw [t1.2])]
      exact h4 z hz
    · obtain ⟨p1, t1⟩ := li_en T kli (k := z) (by omega)
      rw [e2, hVE.vlK hVK T t1.1 (by rw [t1.2])]
      exact h5 z hz
  · obtain ⟨rfl, rfl, rfl, rfl, rfl⟩ := pr5 (show (f', c', p', d', w') = (_, _, _, _, _) from hu)
    have ho9 : ov' = ov := ho9
    subst ho9
    rcases hE with ⟨rfl, hj⟩ | ⟨rfl, hj, hi⟩
    · exact Or.inr (Or.inl ⟨by rw [hr, if_pos rfl], hj, κ, Ad, ν, ω, fe, ho, ce, li, sh, rs, se, ch, fo, pl, L', o', as', f', c', p', hW', h2, h3, h4, h5, h6, h7⟩)
    · exact Or.inr (Or.inr ⟨by rw [hr, if_neg (by decide)], hj, by rw [h2] at hi; exact hi, κ, Ad, ν, ω, fe, ho, ce, li, sh, rs, se, ch, fo, pl, L', o', as', f', c', p', hW', h2, h3, h4, h5, h6, h7⟩)
set_option maxHeartbeats 4000000 in
theorem ci_part (l : Launch) (hl0 : l.stackTraces = false) (dC : Nat → ClassId) (dI : Nat → Nat → Nat) (sb : sB) (γ : cG) (q0 ou : Nat) (fu : Nat → Nat) (fd : Nat) (wr : Int32) (nc nl : Nat) (vc : Nat → vC) (vl : Nat → vL) (cc : Nat → cQ) (cl : Nat → lQ) (vs : sS) (ov : Nat → Int64) (G : va_W) (i j : Int32) (sz : Nat) (h : CI γ sb q0 ou fu fd wr nc nl vc vl cc cl vs ov G)  : CCi l y_TrustChainLaw_part w_TrustChainLaw_part ({ frames := 8, cells := 1, slots := 6, locals := 150 }) [.ref q0, .int i, .int j, .ref ou] (dC, dI) sb (ty4 γ) G sz (fun r G' => ∃ ov', CI γ sb q0 ou fu fd wr nc nl vc vl cc cl vs ov' G' ∧ ((r = 0 ∧ ¬ (j < 0 ∨ 11 < j) ∧ ∃ k, k < nc ∧ i = nI k ∧ ov' = vp_updL ov 0 (tellV (vc k).1 (vc k).2.1 (vc k).2.2.1 j)) ∨ (r = 1 ∧ (j < 0 ∨ 11 < j) ∧ ov' = ov) ∨ (r = 2 ∧ ¬ (j < 0 ∨ 11 < j) ∧ ¬ (¬ i < 0 ∧ i < nI nc) ∧ ov' = ov))) := by
  obtain ⟨κ, Ad, ν, ω, fe, ho, ce, li, sh, rs, se, ch, fo, pl, L, o, as, foS, chS, faP, hLW, h2, h3, h4, h5, h6, h7⟩ := h
  refine cci_of (zl_part l hl0 dC dI sb γ κ Ad ν ω L G fe ho ce li sh rs se ch fo q0 pl o as foS chS faP (nI fd) wr ou fu ov i j sz hLW) rfl rfl (fun r u _ hw => ?_)
  obtain ⟨⟨G', L', o', as', f', c', p', d', w'⟩, ov'⟩ := u
  obtain ⟨hW', ⟨hr, r9, ⟨hu, hj, k, hk, hi, K, len, hK, h9⟩, ho9⟩ | ⟨E, ⟨hu, hE⟩, hr, ho9⟩⟩ := hw
  · obtain ⟨rfl, rfl, rfl, rfl, rfl⟩ := pr5 (show (f', c', p', d', w') = (_, _, _, _, _) from hu)
    have hv := (h4 k (by omega)).1
    unfold vcO at hv
    rw [hK] at hv
    exact ⟨ov', ⟨κ, Ad, ν, ω, fe, ho, ce, li, sh, rs, se, ch, fo, pl, L', o', as', f', c', p', hW', h2, h3, h4, h5, h6, h7⟩, Or.inl ⟨hr, hj, k, by omega, hi, by rw [hv]; rw [h9] at ho9; exact ho9⟩⟩
  · obtain ⟨rfl, rfl, rfl, rfl, rfl⟩ := pr5 (show (f', c', p', d', w') = (_, _, _, _, _) from hu)
    refine ⟨ov', ⟨κ, Ad, ν, ω, fe, ho, ce, li, sh, rs, se, ch, fo, pl, L', o', as', f', c', p', hW', h2, h3, h4, h5, h6, h7⟩, Or.inr ?_⟩
    rcases hE with ⟨rfl, hj⟩ | ⟨rfl, hj, hi⟩
    · exact Or.inl ⟨by rw [hr, if_pos rfl], hj, ho9⟩
    · exact Or.inr ⟨by rw [hr, if_neg (by decide)], hj, by rw [h2] at hi; exact hi, ho9⟩
set_option maxHeartbeats 4000000 in
theorem ci_listPart (l : Launch) (hl0 : l.stackTraces = false) (dC : Nat → ClassId) (dI : Nat → Nat → Nat) (sb : sB) (γ : cG) (q0 ou : Nat) (fu : Nat → Nat) (fd : Nat) (wr : Int32) (nc nl : Nat) (vc : Nat → vC) (vl : Nat → vL) (cc : Nat → cQ) (cl : Nat → lQ) (vs : sS) (ov : Nat → Int64) (G : va_W) (i j : Int32) (sz : Nat) (h : CI γ sb q0 ou fu fd wr nc nl vc vl cc cl vs ov G)  : CCi l y_TrustChainLaw_listPart w_TrustChainLaw_listPart ({ frames := 8, cells := 1, slots := 6, locals := 150 }) [.ref q0, .int i, .int j, .ref ou] (dC, dI) sb (ty4 γ) G sz (fun r G' => ∃ ov', CI γ sb q0 ou fu fd wr nc nl vc vl cc cl vs ov' G' ∧ ((r = 0 ∧ ¬ (j < 0 ∨ 3 < j) ∧ ∃ k, k < nl ∧ i = nI k ∧ ov' = vp_updL ov 0 (ltellV (vl k).1 (vl k).2.1 j)) ∨ (r = 1 ∧ (j < 0 ∨ 3 < j) ∧ ov' = ov) ∨ (r = 2 ∧ ¬ (j < 0 ∨ 3 < j) ∧ ¬ (¬ i < 0 ∧ i < nI nl) ∧ ov' = ov))) := by
  obtain ⟨κ, Ad, ν, ω, fe, ho, ce, li, sh, rs, se, ch, fo, pl, L, o, as, foS, chS, faP, hLW, h2, h3, h4, h5, h6, h7⟩ := h
  refine cci_of (zl_listPart l hl0 dC dI sb γ κ Ad ν ω L G fe ho ce li sh rs se ch fo q0 pl o as foS chS faP (nI fd) wr ou fu ov i j sz hLW) rfl rfl (fun r u _ hw => ?_)
  obtain ⟨⟨G', L', o', as', f', c', p', d', w'⟩, ov'⟩ := u
  obtain ⟨hW', ⟨hr, r9, ⟨hu, hj, k, hk, hi, K, hK, h9⟩, ho9⟩ | ⟨E, ⟨hu, hE⟩, hr, ho9⟩⟩ := hw
  · obtain ⟨rfl, rfl, rfl, rfl, rfl⟩ := pr5 (show (f', c', p', d', w') = (_, _, _, _, _) from hu)
    have hv := h5 k (by omega)
    unfold vlO at hv
    rw [hK] at hv
    exact ⟨ov', ⟨κ, Ad, ν, ω, fe, ho, ce, li, sh, rs, se, ch, fo, pl, L', o', as', f', c', p', hW', h2, h3, h4, h5, h6, h7⟩, Or.inl ⟨hr, hj, k, by omega, hi, by rw [hv]; rw [h9] at ho9; exact ho9⟩⟩
  · obtain ⟨rfl, rfl, rfl, rfl, rfl⟩ := pr5 (show (f', c', p', d', w') = (_, _, _, _, _) from hu)
    refine ⟨ov', ⟨κ, Ad, ν, ω, fe, ho, ce, li, sh, rs, se, ch, fo, pl, L', o', as', f', c', p', hW', h2, h3, h4, h5, h6, h7⟩, Or.inr ?_⟩
    rcases hE with ⟨rfl, hj⟩ | ⟨rfl, hj, hi⟩
    · exact Or.inl ⟨by rw [hr, if_pos rfl], hj, ho9⟩
    · exact Or.inr ⟨by rw [hr, if_neg (by decide)], hj, by rw [h3] at hi; exact hi, ho9⟩
set_option maxHeartbeats 4000000 in
theorem ci_trust (l : Launch) (hl0 : l.stackTraces = false) (dC : Nat → ClassId) (dI : Nat → Nat → Nat) (sb : sB) (γ : cG) (q0 ou : Nat) (fu : Nat → Nat) (fd : Nat) (wr : Int32) (nc nl : Nat) (vc : Nat → vC) (vl : Nat → vL) (cc : Nat → cQ) (cl : Nat → lQ) (vs : sS) (ov : Nat → Int64) (G : va_W) (i j : Int32) (sz : Nat) (h : CI γ sb q0 ou fu fd wr nc nl vc vl cc cl vs ov G) (hj : b01 j) : CCi l y_TrustChainLaw_trust w_TrustChainLaw_trust ({ frames := 8, cells := 1, slots := 6, locals := 150 }) [.ref q0, .int i, .int j, .ref ou] (dC, dI) sb (ty4 γ) G sz (fun r G' => (r = 0 ∧ ∃ k, k < nc ∧ i = nI k ∧ CI γ sb q0 ou fu fd wr nc nl (vT vc k j) vl cc cl vs (vp_updL ov 0 (if (vc k).1.2.2.2.2.2.2.2.2.1 = 0 then 0 else 1)) G') ∨ (r = 1 ∧ ¬ (¬ i < 0 ∧ i < nI nc) ∧ CI γ sb q0 ou fu fd wr nc nl vc vl cc cl vs ov G')) := by
  obtain ⟨κ, Ad, ν, ω, fe, ho, ce, li, sh, rs, se, ch, fo, pl, L, o, as, foS, chS, faP, hLW, h2, h3, h4, h5, h6, h7⟩ := h
  refine cci_of (zl_trust l hl0 dC dI sb γ κ Ad ν ω L G fe ho ce li sh rs se ch fo q0 pl o as foS chS faP (nI fd) wr ou fu ov i j sz hLW hj) rfl rfl (fun r u _ hw => ?_)
  obtain ⟨⟨G', L', o', as', f', c', p', d', w'⟩, ov'⟩ := u
  rcases hw with ⟨hr, k, hk, hi, hW', hu, ho9⟩ | ⟨hW', E, ⟨hu, hE, hn⟩, hr, ho9⟩
  · obtain ⟨rfl, rfl, rfl, rfl, rfl⟩ := pr5 (show (f', c', p', d', w') = (_, _, _, _, _) from hu)
    have ho9 : ov' = _ := ho9
    have hv := (h4 k (by omega)).1
    refine Or.inl ⟨hr, k, by omega, hi, ?_⟩
    rw [show (if (vc k).1.2.2.2.2.2.2.2.2.1 = 0 then (0 : Int64) else 1) = (if (ν ((ω ce).getD k 0)).2.2.2.2.2.2.2.2.1 = 0 then 0 else 1) by rw [hv]; rfl, ← ho9]
    refine ⟨κ, Ad, (nuT ν ((ω ce).getD k 0) j), ω, fe, ho, ce, li, sh, rs, se, ch, fo, pl, L', o', as', f', c', p', hW', h2, h3, fun z hz => ?_, fun z hz => ?_, h6, h7.1, h7.2.1.nuT, h7.2.2.nuT⟩
    · have hz2 := h4 z hz
      by_cases hzk : z = k
      · subst hzk
        have e1 : vT vc z j z = _ := if_pos rfl
        have e2 : nuT ν ((ω ce).getD z 0) j ((ω ce).getD z 0) = _ := if_pos rfl
        rw [e1]
        refine ⟨?_, by have h9 := hz2.2; exact h9⟩
        unfold vcO
        rw [e2, (nuT_w ν ((ω ce).getD z 0) j ((ω ((ω ce).getD z 0)).getD 0 0)).1, hv]
        rfl
      · have e1 : vT vc k j z = vc z := if_neg hzk
        have hne : ¬ (ω ce).getD z 0 = (ω ce).getD k 0 := fun e => by
          have a1 := hz2.2
          have a2 := (h4 k (by omega)).2
          rw [hz2.1, e] at a1
          rw [hv] at a2
          have a3 : nI z = nI k := a1.symm.trans a2
          have b1 : nc ≤ 16 := by have h9 := hLW.1.2.2.1; omega
          exact hzk (nI_inj9 (by omega) (by omega) a3)
        have e2 : nuT ν ((ω ce).getD k 0) j ((ω ce).getD z 0) = ν ((ω ce).getD z 0) := if_neg hne
        rw [e1]
        refine ⟨?_, hz2.2⟩
        unfold vcO
        rw [e2, (nuT_w ν ((ω ce).getD k 0) j ((ω ((ω ce).getD z 0)).getD 0 0)).1]
        exact hz2.1
    · have hz2 := h5 z hz
      obtain ⟨p1, q1, t1⟩ := ce_en hLW.2.1.1 hLW.1.1.2.1 (k := k) hk
      obtain ⟨p2, t2⟩ := li_en hLW.2.1.1 hLW.1.1.2.2.1 (k := z) (by omega)
      have hne : ¬ (ω li).getD z 0 = (ω ce).getD k 0 := fun e => by
        have a1 := t1.2
        rw [← e, t2.2] at a1
        exact absurd (congrArg Prod.fst a1) (by simp)
      have e2 : nuT ν ((ω ce).getD k 0) j ((ω li).getD z 0) = ν ((ω li).getD z 0) := if_neg hne
      unfold vlO
      rw [e2, (nuT_w ν ((ω ce).getD k 0) j ((ω ((ω li).getD z 0)).getD 0 0)).1]
      exact hz2
  · obtain ⟨rfl, rfl, rfl, rfl, rfl⟩ := pr5 (show (f', c', p', d', w') = (_, _, _, _, _) from hu)
    have ho9 : ov' = ov := ho9
    subst ho9
    exact Or.inr ⟨hr, by rw [h2] at hn; exact hn, κ, Ad, ν, ω, fe, ho, ce, li, sh, rs, se, ch, fo, pl, L', o', as', f', c', p', hW', h2, h3, h4, h5, h6, h7⟩
theorem cert_own (u : Nat → Nat) (n s : Nat) (ok ik : Nat × Nat) (D2 D3 D4 D5 D6 D7 : List (Nat × Nat)) : (rd_cert u n (0, s, none) 0 0 ok ik 0 (-1) (-1) [] D2 D3 D4 D5 D6 D7).2.2.2.2.2.2.2.2.2.2.2.2.2.2.2.2.1 = zP ((rd_cert u n (0, s, none) 0 0 ok ik 0 (-1) (-1) [] D2 D3 D4 D5 D6 D7).2.2.2.1.2 - (rd_cert u n (0, s, none) 0 0 ok ik 0 (-1) (-1) [] D2 D3 D4 D5 D6 D7).2.2.2.1.1 = (rd_cert u n (0, s, none) 0 0 ok ik 0 (-1) (-1) [] D2 D3 D4 D5 D6 D7).2.2.1.2 - (rd_cert u n (0, s, none) 0 0 ok ik 0 (-1) (-1) [] D2 D3 D4 D5 D6 D7).2.2.1.1 ∧ eqN u u (rd_cert u n (0, s, none) 0 0 ok ik 0 (-1) (-1) [] D2 D3 D4 D5 D6 D7).2.2.2.1.1 (rd_cert u n (0, s, none) 0 0 ok ik 0 (-1) (-1) [] D2 D3 D4 D5 D6 D7).2.2.1.1 ((rd_cert u n (0, s, none) 0 0 ok ik 0 (-1) (-1) [] D2 D3 D4 D5 D6 D7).2.2.2.1.2 - (rd_cert u n (0, s, none) 0 0 ok ik 0 (-1) (-1) [] D2 D3 D4 D5 D6 D7).2.2.2.1.1)) := by
  have eP : ∀ (o8 o21 : rS × Nat) H K, rd_opn u n (0, s, none) 48 n = o8 → rd_opn u n o8.1 48 o8.2 = o21 → rd_hdC u n o21.1 o21.2 = H → rd_key u n H.1 o21.2 = K → ((K.1.2.2 = none ∧ K.1.1 < o21.2 ∧ u K.1.1 = 163) → rd_cert u n (0, s, none) 0 0 ok ik 0 (-1) (-1) [] D2 D3 D4 D5 D6 D7 = (let z27 := H; let z32 := K; let z51 := rd_opn u n z32.1 163 o21.2; (let z59 := rd_extC u n z51.1 z51.2 0 0 ok ik 0 (-1) (-1) [] D2 D3 D4 D5 D6; (let z65 := rd_fin z59.1 z51.2; (let z70 := rd_fin z65 o21.2; (let zb121 := (rd_bits u n (rd_alg u n z70 11 o8.2) o8.2); (let z121 := rd_sig u n z70 o8.2; (z121, (z27.2.1, z27.2.2.1), (z27.2.2.2.1, z27.2.2.2.2.1), (z27.2.2.2.2.2.1, z27.2.2.2.2.2.2.1), (z32.2.1, z32.2.2.1), (o8.1.1, o21.2), (zb121.1.1, zb121.2), z59.2.2.2.2.1, z59.2.2.2.2.2.1, z27.2.2.2.2.2.2.2.2.1, z32.2.2.2.1, z32.2.2.2.2, z59.2.2.2.2.2.2.1, z59.2.2.2.2.2.2.2.1, z59.2.2.2.2.2.2.2.2.1, z59.2.2.1, z27.2.2.2.2.2.2.2.2.2.1, z59.2.1, z27.2.2.2.2.2.2.2.2.2.2.1, z27.2.2.2.2.2.2.2.2.2.2.2, z59.2.2.2.2.2.2.2.2.2.1, z59.2.2.2.2.2.2.2.2.2.2.1, z59.2.2.2.2.2.2.2.2.2.2.2.1, z59.2.2.2.2.2.2.2.2.2.2.2.2.1, z59.2.2.2.2.2.2.2.2.2.2.2.2.2.1, z59.2.2.2.2.2.2.2.2.2.2.2.2.2.2, z59.2.2.2.1, z59.2.1, z59.2.2.1)))))))) ∧ (¬ (K.1.2.2 = none ∧ K.1.1 < o21.2 ∧ u K.1.1 = 163) → rd_cert u n (0, s, none) 0 0 ok ik 0 (-1) (-1) [] D2 D3 D4 D5 D6 D7 = (let z27 := H; let z32 := K; (let z70 := rd_fin z32.1 o21.2; (let zb121 := (rd_bits u n (rd_alg u n z70 11 o8.2) o8.2); (let z121 := rd_sig u n z70 o8.2; (z121, (z27.2.1, z27.2.2.1), (z27.2.2.2.1, z27.2.2.2.2.1), (z27.2.2.2.2.2.1, z27.2.2.2.2.2.2.1), (z32.2.1, z32.2.2.1), (o8.1.1, o21.2), (zb121.1.1, zb121.2), ok, ik, z27.2.2.2.2.2.2.2.2.1, z32.2.2.2.1, z32.2.2.2.2, 0, -1, -1, 0, z27.2.2.2.2.2.2.2.2.2.1, 0, z27.2.2.2.2.2.2.2.2.2.2.1, z27.2.2.2.2.2.2.2.2.2.2.2, [], D2, D3, D4, D5, D6, D7, 0, 0)))))) := by
    rintro o8 o21 H K rfl rfl rfl rfl
    exact ⟨fun c => if_pos c, fun c => if_neg c⟩
  obtain ⟨o8, h8⟩ : ∃ z, rd_opn u n (0, s, none) 48 n = z := ⟨_, rfl⟩
  obtain ⟨o21, h21⟩ : ∃ z, rd_opn u n o8.1 48 o8.2 = z := ⟨_, rfl⟩
  obtain ⟨H, hH⟩ : ∃ z, rd_hdC u n o21.1 o21.2 = z := ⟨_, rfl⟩
  obtain ⟨K, hK⟩ : ∃ z, rd_key u n H.1 o21.2 = z := ⟨_, rfl⟩
  have e := eP o8 o21 H K h8 h21 hH hK
  have hs : H.2.2.2.2.2.2.2.2.2.1 = zP (H.2.2.2.2.2.2.1 - H.2.2.2.2.2.1 = H.2.2.2.2.1 - H.2.2.2.1 ∧ eqN u u H.2.2.2.2.2.1 H.2.2.2.1 (H.2.2.2.2.2.2.1 - H.2.2.2.2.2.1)) := by
    obtain ⟨zi, zs, za, zb, zc, zd, hd⟩ : ∃ (zi zs : rS × Nat × Nat × Nat) (za zb : Nat) (zc zd : Int64), rd_hdC u n o21.1 o21.2 = (zs.1, za, zb, zi.2.2.1, zi.2.2.2, zs.2.2.1, zs.2.2.2, zs.2.1, nI zs.2.1, zP (zs.2.2.2 - zs.2.2.1 = zi.2.2.2 - zi.2.2.1 ∧ eqN u u zs.2.2.1 zi.2.2.1 (zs.2.2.2 - zs.2.2.1)), zc, zd) := ⟨_, _, _, _, _, _, rfl⟩
    rw [← hH, hd]
  clear eP h8 h21 hH hK
  by_cases c : (K.1.2.2 = none ∧ K.1.1 < o21.2 ∧ u K.1.1 = 163)
  · rw [e.1 c]
    exact hs
  · rw [e.2 c]
    exact hs
noncomputable def cNw (v : Nat → Nat) (i tr : Int32) (nc : Nat) : vC := (((rd_cert v i.toNatClampNeg (0, 0, none) 0 0 (0, 0) (0, 0) 0 (-1) (-1) [] [] [] [] [] [] []).2.2.2.2.2.2.2.2.2.1, (rd_cert v i.toNatClampNeg (0, 0, none) 0 0 (0, 0) (0, 0) 0 (-1) (-1) [] [] [] [] [] [] []).2.2.2.2.2.2.2.2.2.2.1, (rd_cert v i.toNatClampNeg (0, 0, none) 0 0 (0, 0) (0, 0) 0 (-1) (-1) [] [] [] [] [] [] []).2.2.2.2.2.2.2.2.2.2.2.1, (rd_cert v i.toNatClampNeg (0, 0, none) 0 0 (0, 0) (0, 0) 0 (-1) (-1) [] [] [] [] [] [] []).2.2.2.2.2.2.2.2.2.2.2.2.1, (rd_cert v i.toNatClampNeg (0, 0, none) 0 0 (0, 0) (0, 0) 0 (-1) (-1) [] [] [] [] [] [] []).2.2.2.2.2.2.2.2.2.2.2.2.2.1, (rd_cert v i.toNatClampNeg (0, 0, none) 0 0 (0, 0) (0, 0) 0 (-1) (-1) [] [] [] [] [] [] []).2.2.2.2.2.2.2.2.2.2.2.2.2.2.1, (rd_cert v i.toNatClampNeg (0, 0, none) 0 0 (0, 0) (0, 0) 0 (-1) (-1) [] [] [] [] [] [] []).2.2.2.2.2.2.2.2.2.2.2.2.2.2.2.1, (rd_cert v i.toNatClampNeg (0, 0, none) 0 0 (0, 0) (0, 0) 0 (-1) (-1) [] [] [] [] [] [] []).2.2.2.2.2.2.2.2.2.2.2.2.2.2.2.2.1, tr, (rd_cert v i.toNatClampNeg (0, 0, none) 0 0 (0, 0) (0, 0) 0 (-1) (-1) [] [] [] [] [] [] []).2.2.2.2.2.2.2.2.2.2.2.2.2.2.2.2.2.2.1, (rd_cert v i.toNatClampNeg (0, 0, none) 0 0 (0, 0) (0, 0) 0 (-1) (-1) [] [] [] [] [] [] []).2.2.2.2.2.2.2.2.2.2.2.2.2.2.2.2.2.2.2.1, (rd_cert v i.toNatClampNeg (0, 0, none) 0 0 (0, 0) (0, 0) 0 (-1) (-1) [] [] [] [] [] [] []).2.2.2.2.2.2.2.2.2.2.2.2.2.2.2.2.2.1, nI nc), (rd_cert v i.toNatClampNeg (0, 0, none) 0 0 (0, 0) (0, 0) 0 (-1) (-1) [] [] [] [] [] [] []).2.2.2.2.2.2.2.2.2.2.2.2.2.2.2.2.2.2.2.2.1.length, (rd_cert v i.toNatClampNeg (0, 0, none) 0 0 (0, 0) (0, 0) 0 (-1) (-1) [] [] [] [] [] [] []).2.1.2 - (rd_cert v i.toNatClampNeg (0, 0, none) 0 0 (0, 0) (0, 0) 0 (-1) (-1) [] [] [] [] [] [] []).2.1.1, hw8 (hsV v (rd_cert v i.toNatClampNeg (0, 0, none) 0 0 (0, 0) (0, 0) 0 (-1) (-1) [] [] [] [] [] [] []).2.2.2.2.2.1.1 (rd_cert v i.toNatClampNeg (0, 0, none) 0 0 (0, 0) (0, 0) 0 (-1) (-1) [] [] [] [] [] [] []).2.2.2.2.2.1.2), ocE v (rd_cert v i.toNatClampNeg (0, 0, none) 0 0 (0, 0) (0, 0) 0 (-1) (-1) [] [] [] [] [] [] []).2.2.2.2.1, (rd_cert v i.toNatClampNeg (0, 0, none) 0 0 (0, 0) (0, 0) 0 (-1) (-1) [] [] [] [] [] [] []).2.2.2.2.1.2 - (rd_cert v i.toNatClampNeg (0, 0, none) 0 0 (0, 0) (0, 0) 0 (-1) (-1) [] [] [] [] [] [] []).2.2.2.2.1.1, ocE v (rd_cert v i.toNatClampNeg (0, 0, none) 0 0 (0, 0) (0, 0) 0 (-1) (-1) [] [] [] [] [] [] []).2.2.2.2.2.2.1, (rd_cert v i.toNatClampNeg (0, 0, none) 0 0 (0, 0) (0, 0) 0 (-1) (-1) [] [] [] [] [] [] []).2.2.2.2.2.2.1.2 - (rd_cert v i.toNatClampNeg (0, 0, none) 0 0 (0, 0) (0, 0) 0 (-1) (-1) [] [] [] [] [] [] []).2.2.2.2.2.2.1.1)
noncomputable def cqN (v : Nat → Nat) (i : Int32) : cQ := cQm v (rd_cert v i.toNatClampNeg (0, 0, none) 0 0 (0, 0) (0, 0) 0 (-1) (-1) [] [] [] [] [] [] []).2.2.1 (rd_cert v i.toNatClampNeg (0, 0, none) 0 0 (0, 0) (0, 0) 0 (-1) (-1) [] [] [] [] [] [] []).2.2.2.1 (rd_cert v i.toNatClampNeg (0, 0, none) 0 0 (0, 0) (0, 0) 0 (-1) (-1) [] [] [] [] [] [] []).2.1 (rd_cert v i.toNatClampNeg (0, 0, none) 0 0 (0, 0) (0, 0) 0 (-1) (-1) [] [] [] [] [] [] []).2.2.2.2.2.2.2.1 (rd_cert v i.toNatClampNeg (0, 0, none) 0 0 (0, 0) (0, 0) 0 (-1) (-1) [] [] [] [] [] [] []).2.2.2.2.2.2.2.2.1 (rd_cert v i.toNatClampNeg (0, 0, none) 0 0 (0, 0) (0, 0) 0 (-1) (-1) [] [] [] [] [] [] []).2.2.2.2.2.2.2.2.2.2.2.2.2.2.2.2.2.2.2.2.1 (rd_cert v i.toNatClampNeg (0, 0, none) 0 0 (0, 0) (0, 0) 0 (-1) (-1) [] [] [] [] [] [] []).2.2.2.2.2.2.2.2.2.2.2.2.2.2.2.2.2.2.2.2.2.1 (rd_cert v i.toNatClampNeg (0, 0, none) 0 0 (0, 0) (0, 0) 0 (-1) (-1) [] [] [] [] [] [] []).2.2.2.2.2.2.2.2.2.2.2.2.2.2.2.2.2.2.2.2.2.2.1 (rd_cert v i.toNatClampNeg (0, 0, none) 0 0 (0, 0) (0, 0) 0 (-1) (-1) [] [] [] [] [] [] []).2.2.2.2.2.2.2.2.2.2.2.2.2.2.2.2.2.2.2.2.2.2.2.1 (rd_cert v i.toNatClampNeg (0, 0, none) 0 0 (0, 0) (0, 0) 0 (-1) (-1) [] [] [] [] [] [] []).2.2.2.2.2.2.2.2.2.2.2.2.2.2.2.2.2.2.2.2.2.2.2.2.1 (rd_cert v i.toNatClampNeg (0, 0, none) 0 0 (0, 0) (0, 0) 0 (-1) (-1) [] [] [] [] [] [] []).2.2.2.2.2.2.2.2.2.2.2.2.2.2.2.2.2.2.2.2.2.2.2.2.2.1 (rd_cert v i.toNatClampNeg (0, 0, none) 0 0 (0, 0) (0, 0) 0 (-1) (-1) [] [] [] [] [] [] []).2.2.2.2.2.2.2.2.2.2.2.2.2.2.2.2.2.2.1 (rd_cert v i.toNatClampNeg (0, 0, none) 0 0 (0, 0) (0, 0) 0 (-1) (-1) [] [] [] [] [] [] []).2.2.2.2.2.2.2.2.2.2.2.2.2.2.2.2.2.2.2.1 (rd_cert v i.toNatClampNeg (0, 0, none) 0 0 (0, 0) (0, 0) 0 (-1) (-1) [] [] [] [] [] [] []).2.2.2.2.2.2.2.2.2.2.2.2.2.2.2.2.2.1 (rd_cert v i.toNatClampNeg (0, 0, none) 0 0 (0, 0) (0, 0) 0 (-1) (-1) [] [] [] [] [] [] []).2.2.2.2.2.2.2.2.2.2.2.2.1 (rd_cert v i.toNatClampNeg (0, 0, none) 0 0 (0, 0) (0, 0) 0 (-1) (-1) [] [] [] [] [] [] []).2.2.2.2.2.2.2.2.2.2.2.2.2.1 (rd_cert v i.toNatClampNeg (0, 0, none) 0 0 (0, 0) (0, 0) 0 (-1) (-1) [] [] [] [] [] [] []).2.2.2.2.2.2.2.2.2.2.2.2.2.2.1 (rd_cert v i.toNatClampNeg (0, 0, none) 0 0 (0, 0) (0, 0) 0 (-1) (-1) [] [] [] [] [] [] []).2.2.2.2.2.2.2.2.2.1
set_option maxHeartbeats 4000000 in
theorem ci_certificate (l : Launch) (hl0 : l.stackTraces = false) (dC : Nat → ClassId) (dI : Nat → Nat → Nat) (sb : sB) (γ : cG) (q0 ou : Nat) (fu : Nat → Nat) (fd : Nat) (wr : Int32) (nc nl : Nat) (vc : Nat → vC) (vl : Nat → vL) (cc : Nat → cQ) (cl : Nat → lQ) (vs : sS) (ov : Nat → Int64) (G : va_W) (i tr : Int32) (v : Nat → Nat) (sz : Nat) (h : CI γ sb q0 ou fu fd wr nc nl vc vl cc cl vs ov G) (hj : b01 tr) (hvb : ∀ j, v j < 256) (hv : ∀ j, j < i.toNatClampNeg → v j = fu j) : CCi l y_TrustChainLaw_certificate w_TrustChainLaw_certificate ({ frames := 14, cells := (8 * fd + 100), slots := (405 * fd + 2700), locals := 444 }) [.ref q0, .int i, .int tr, .ref ou] (dC, dI) sb (ty4 γ) G sz (fun r G' => (r = 0 ∧ ((¬ i < 0 ∧ i ≤ 2048 ∧ i ≤ nI fd) ∧ nc < 16) ∧ (rd_cert v i.toNatClampNeg (0, 0, none) 0 0 (0, 0) (0, 0) 0 (-1) (-1) [] [] [] [] [] [] []).1.2.2 = none ∧ CI γ sb q0 ou fu 0 (-1) (nc + 1) nl (vU vc nc (cNw v i tr nc)) vl (vU cc nc (cqN v i)) cl vs (vp_updL ov 0 (nI nc).toInt64) G') ∨ (r = 1 ∧ ¬ ((¬ i < 0 ∧ i ≤ 2048 ∧ i ≤ nI fd) ∧ nc < 16) ∧ CI γ sb q0 ou fu fd wr nc nl vc vl cc cl vs ov G') ∨ (r = 2 ∧ ((¬ i < 0 ∧ i ≤ 2048 ∧ i ≤ nI fd) ∧ nc < 16) ∧ ∃ w, (rd_cert v i.toNatClampNeg (0, 0, none) 0 0 (0, 0) (0, 0) 0 (-1) (-1) [] [] [] [] [] [] []).1.2.2 = some w ∧ CI γ sb q0 ou fu 0 (nI w) nc nl vc vl cc cl vs ov G')) := by
  obtain ⟨κ, Ad, ν, ω, fe, ho, ce, li, sh, rs, se, ch, fo, pl, L, o, as, foS, chS, faP, hLW, h2, h3, h4, h5, h6, h7⟩ := h
  refine cci_of (zl_certificate l hl0 dC dI sb γ κ Ad ν ω L G fe ho ce li sh rs se ch fo q0 pl o as foS chS faP (nI fd) wr ou fu ov i tr v fd sz hLW hj hvb hv rfl h6 (fun k9 h9 => (h7.2.1.2.1 k9 h9).1)) rfl rfl (fun r u _ hw => ?_)
  obtain ⟨⟨G', L', o', as', f', c', p', d', w'⟩, ov'⟩ := u
  rcases hw with ⟨hr, κ', Ad', res, ω1, ν2, Ω, hres, hkk, hW', hK, hu, hi, hcap, hno, ho9, hω1, hν2, hΩ9, hB9, hcq9, hhs, ha9, si9, mo9, sg9, rs9, w9, hen9, ws9, km9, ks9, om9, os9, h89⟩ | ⟨hW', E, hE, hr, ho9⟩
  · obtain ⟨rfl, rfl, rfl, rfl, rfl⟩ := pr5 (show (f', c', p', d', w') = (_, _, _, _, _) from hu)
    have ho9 : ov' = _ := ho9
    rw [h2] at hcap ho9
    refine Or.inl ⟨hr, ⟨hi, hcap⟩, hno, ?_⟩
    rw [← ho9]
    have kce := hLW.1.1.2.1
    have kli := hLW.1.1.2.2.1
    have hne : ce ≠ li := fun e => by
      have a1 := kce.2
      rw [e, kli.2] at a1
      exact absurd (congrArg Prod.fst a1) (by simp)
    have o1 : wU ω1 ce res ce = ω ce ++ [res] := by rw [wU_at, hω1 _ kce.1]
    have o2 : wU ω1 ce res li = ω li := (wU_ne hne.symm).trans (hω1 _ kli.1)
    have hwO : ∀ a, a ∈ Ad → (κ a).1 ≠ 15 → (κ a).1 ≠ 17 → wU ω1 ce res a = ω a := fun a ha h15 h17 => (wU_ne (fun e => h15 (by rw [e, kce.2]))).trans (hω1 a ha)
    have hkO : ∀ a, a ∈ Ad → (κ a).1 ≠ 14 → (κ a).1 ≠ 16 → κ' a = κ a := fun a ha h14 h16 => (hkk a ha h14).1
    have hnO : ∀ (N9 : cN) a, a ∈ Ad → nuR ν2 res N9 a = ν a := fun N9 a ha => (nuR_ne (fun e => hres (by rw [← e]; exact ha))).trans (hν2 a ha)
    have hwS : ∀ a, a ∈ Ad → ((κ a).1 = 1 ∨ (κ a).1 = 2 ∨ (κ a).1 = 8 ∨ (κ a).1 = 9) ∨ (κ a).1 = 6 → Ω a = ω a := fun a ha hk9 => (hΩ9.1 a (by rw [hkO a ha (by rcases hk9 with (e | e | e | e) | e <;> rw [e] <;> decide) (by rcases hk9 with (e | e | e | e) | e <;> rw [e] <;> decide)]; exact (by rcases hk9 with (e | e | e | e) | e <;> rw [e] <;> decide))).trans (hwO a ha (by rcases hk9 with (e | e | e | e) | e <;> rw [e] <;> decide) (by rcases hk9 with (e | e | e | e) | e <;> rw [e] <;> decide))
    have hwK : wK κ Ad ω Ω := fun a ha hk9 => hwS a ha (Or.inl hk9)
    have hk2 : ∀ a, a ∈ Ad → (κ a).1 = 2 ∨ (κ a).1 = 8 ∨ (κ a).1 = 9 → κ' a = κ a := fun a ha hk9 => hkO a ha (by rcases hk9 with e | e | e <;> rw [e] <;> decide) (by rcases hk9 with e | e | e <;> rw [e] <;> decide)
    have T := hLW.2.1.1
    have T' := hW'.2.1.1
    dsimp only at T T'
    have kce' := hW'.1.1.2.1
    have kli' := hW'.1.1.2.2.1
    have o1 : Ω ce = ω ce ++ [res] := (hΩ9.1 ce (by rw [kce'.2]; exact (by decide : (15 : Nat) ≠ 4))).trans o1
    have o2 : Ω li = ω li := (hΩ9.1 li (by rw [kli'.2]; exact (by decide : (17 : Nat) ≠ 4))).trans o2
    have eR : Ω res = ha9 :: si9 :: mo9 :: sg9 :: rs9 := (hΩ9.1 res (by rw [hK.2]; exact (by decide : (8 : Nat) ≠ 4))).trans w9
    have kS9 : tK κ' Ad' si9 (6, 16, res + 1) := by have h := (pa_en T' hK.1 (Or.inl (by rw [hK.2]))).2.1; rw [eR] at h; exact h
    have ws9 : Ω si9 = [] := (hΩ9.1 si9 (by rw [kS9.2]; exact (by decide : (6 : Nat) ≠ 4))).trans ws9
    have hWW : wK κ' Ad' Ω (wU ω1 ce res) := fun a _ hk9 => (hΩ9.1 a (by rcases hk9 with e | e | e | e <;> rw [e] <;> decide)).symm
    have om9 := (slO_k T' ⟨_, km9⟩ hWW).symm.trans om9
    have os9 := (slO_k T' ⟨_, ks9⟩ hWW).symm.trans os9
    have hhs : ∀ j, j < 8 → wN (nuR ν2 res ((rd_cert v i.toNatClampNeg (0, 0, none) 0 0 (0, 0) (0, 0) 0 (-1) (-1) [] [] [] [] [] [] []).2.2.2.2.2.2.2.2.2.1, (rd_cert v i.toNatClampNeg (0, 0, none) 0 0 (0, 0) (0, 0) 0 (-1) (-1) [] [] [] [] [] [] []).2.2.2.2.2.2.2.2.2.2.1, (rd_cert v i.toNatClampNeg (0, 0, none) 0 0 (0, 0) (0, 0) 0 (-1) (-1) [] [] [] [] [] [] []).2.2.2.2.2.2.2.2.2.2.2.1, (rd_cert v i.toNatClampNeg (0, 0, none) 0 0 (0, 0) (0, 0) 0 (-1) (-1) [] [] [] [] [] [] []).2.2.2.2.2.2.2.2.2.2.2.2.1, (rd_cert v i.toNatClampNeg (0, 0, none) 0 0 (0, 0) (0, 0) 0 (-1) (-1) [] [] [] [] [] [] []).2.2.2.2.2.2.2.2.2.2.2.2.2.1, (rd_cert v i.toNatClampNeg (0, 0, none) 0 0 (0, 0) (0, 0) 0 (-1) (-1) [] [] [] [] [] [] []).2.2.2.2.2.2.2.2.2.2.2.2.2.2.1, (rd_cert v i.toNatClampNeg (0, 0, none) 0 0 (0, 0) (0, 0) 0 (-1) (-1) [] [] [] [] [] [] []).2.2.2.2.2.2.2.2.2.2.2.2.2.2.2.1, (rd_cert v i.toNatClampNeg (0, 0, none) 0 0 (0, 0) (0, 0) 0 (-1) (-1) [] [] [] [] [] [] []).2.2.2.2.2.2.2.2.2.2.2.2.2.2.2.2.1, tr, (rd_cert v i.toNatClampNeg (0, 0, none) 0 0 (0, 0) (0, 0) 0 (-1) (-1) [] [] [] [] [] [] []).2.2.2.2.2.2.2.2.2.2.2.2.2.2.2.2.2.2.1, (rd_cert v i.toNatClampNeg (0, 0, none) 0 0 (0, 0) (0, 0) 0 (-1) (-1) [] [] [] [] [] [] []).2.2.2.2.2.2.2.2.2.2.2.2.2.2.2.2.2.2.2.1, (rd_cert v i.toNatClampNeg (0, 0, none) 0 0 (0, 0) (0, 0) 0 (-1) (-1) [] [] [] [] [] [] []).2.2.2.2.2.2.2.2.2.2.2.2.2.2.2.2.2.1, (nI (ω ce).length)) ((Ω res).getD 0 0)) j = hsV v (rd_cert v i.toNatClampNeg (0, 0, none) 0 0 (0, 0) (0, 0) 0 (-1) (-1) [] [] [] [] [] [] []).2.2.2.2.2.1.1 (rd_cert v i.toNatClampNeg (0, 0, none) 0 0 (0, 0) (0, 0) 0 (-1) (-1) [] [] [] [] [] [] []).2.2.2.2.2.1.2 j := by rw [eR, ← w9]; exact hhs
    have w9 := eR
    obtain ⟨ω2, hw2, hw20, T2, X2⟩ := XI_step (ce := ce) (res := res) T T' h7.2.1 (by rw [hW'.1.1.2.1.2]; exact (by decide : (15 : Nat) ≠ 6)) (LWx.hl hW') (fun k hk => (ce_en T kce hk).elim (fun p h => h.elim (fun q h => ⟨h.1, by rw [h.2]⟩))) (fun k hk => (ce_en T' hW'.1.1.2.1 hk).elim (fun p h => h.elim (fun q h => ⟨h.1, by rw [h.2]⟩))) hwS hkO (hnO _) h89 (by rw [w9]; exact ws9) (Or.inr ⟨o1, by rw [nuR_at], by rw [nuR_at, w9]; show kFx _ (slO _ mo9 (κ' mo9).2.1) (κ' mo9).2.1; rw [km9.2]; show kFx _ (slO _ mo9 ((rd_cert v i.toNatClampNeg (0, 0, none) 0 0 (0, 0) (0, 0) 0 (-1) (-1) [] [] [] [] [] [] []).2.2.2.2.1.2 - (rd_cert v i.toNatClampNeg (0, 0, none) 0 0 (0, 0) (0, 0) 0 (-1) (-1) [] [] [] [] [] [] []).2.2.2.2.1.1)) ((rd_cert v i.toNatClampNeg (0, 0, none) 0 0 (0, 0) (0, 0) 0 (-1) (-1) [] [] [] [] [] [] []).2.2.2.2.1.2 - (rd_cert v i.toNatClampNeg (0, 0, none) 0 0 (0, 0) (0, 0) 0 (-1) (-1) [] [] [] [] [] [] []).2.2.2.2.1.1); rw [om9]; exact cert_kF hvb (show i.toNatClampNeg ≤ 2048 from by obtain ⟨n9, h31, en9⟩ := nI_of hi.1; have hle : n9 ≤ 2048 := (nI_leI (a := n9) (b := 2048) (by omega) (by omega)).mp (by rw [← en9]; exact hi.2.1); rw [en9, nI_clamp (by omega)]; exact hle) rfl hno _ rfl rfl⟩)
    have hw6 := wK_6 (Ad := Ad') hw2
    have z1 : ω2 ce = ω ce ++ [res] := (hw2 ce (by rw [hW'.1.1.2.1.2]; exact (by decide : (15 : Nat) ≠ 6))).trans o1
    have z2 : ω2 li = ω li := (hw2 li (by rw [hW'.1.1.2.2.1.2]; exact (by decide : (17 : Nat) ≠ 6))).trans o2
    refine ⟨κ', Ad', _, ω2, fe, ho, ce, li, sh, rs, se, ch, fo, pl, L', o', as', f', c', p', LWx.om hW' hw2 T2, ?_, ?_, fun k hk => ?_, fun k hk => ?_, Nat.zero_le _, h7.1, X2, (ZI.cert h7.2.2 h7.2.1 T T' hLW.1 hW'.1 h2 h3 hres ⟨_, _, hK⟩ hkk hω1 hν2 hΩ9 hB9 hcq9 hen9 h89 hw2 hw20 (show (rd_cert v i.toNatClampNeg (0, 0, none) 0 0 (0, 0) (0, 0) 0 (-1) (-1) [] [] [] [] [] [] []).2.2.2.2.2.2.2.2.2.2.2.2.2.2.2.2.1 = zP (rgS v (rd_cert v i.toNatClampNeg (0, 0, none) 0 0 (0, 0) (0, 0) 0 (-1) (-1) [] [] [] [] [] [] []).2.2.2.1 = rgS v (rd_cert v i.toNatClampNeg (0, 0, none) 0 0 (0, 0) (0, 0) 0 (-1) (-1) [] [] [] [] [] [] []).2.2.1) from (cert_own v i.toNatClampNeg 0 (0, 0) (0, 0) [] [] [] [] [] []).trans (zP_g rgM_eq.symm)))⟩
    · rw [z1, List.length_append, h2]
      rfl
    · rw [z2]
      exact h3
    · by_cases hkn : k = nc
      · subst hkn
        have e1 : vU vc k (cNw v i tr k) k = cNw v i tr k := if_pos rfl
        have e3 : (ω ce ++ [res]).getD k 0 = res := by rw [← h2]; exact getD_end
        rw [e1, z1, e3]
        have e8 := vcO_k T' hK.1 (by rw [hK.2]) hw6 (fun _ _ _ => rfl) (fun _ _ => rfl)
        refine ⟨?_, rfl⟩
        rw [e8]
        unfold vcO cNw
        rw [hw8_of hhs, nuR_at, hK.2, w9]
        show _ = (_, _, _, _, slO _ mo9 (κ' mo9).2.1, (κ' mo9).2.1, slO _ sg9 (κ' sg9).2.1, (κ' sg9).2.1)
        rw [km9.2, ks9.2]
        show _ = (_, _, _, _, slO _ mo9 ((rd_cert v i.toNatClampNeg (0, 0, none) 0 0 (0, 0) (0, 0) 0 (-1) (-1) [] [] [] [] [] [] []).2.2.2.2.1.2 - (rd_cert v i.toNatClampNeg (0, 0, none) 0 0 (0, 0) (0, 0) 0 (-1) (-1) [] [] [] [] [] [] []).2.2.2.2.1.1), (rd_cert v i.toNatClampNeg (0, 0, none) 0 0 (0, 0) (0, 0) 0 (-1) (-1) [] [] [] [] [] [] []).2.2.2.2.1.2 - (rd_cert v i.toNatClampNeg (0, 0, none) 0 0 (0, 0) (0, 0) 0 (-1) (-1) [] [] [] [] [] [] []).2.2.2.2.1.1, slO _ sg9 ((rd_cert v i.toNatClampNeg (0, 0, none) 0 0 (0, 0) (0, 0) 0 (-1) (-1) [] [] [] [] [] [] []).2.2.2.2.2.2.1.2 - (rd_cert v i.toNatClampNeg (0, 0, none) 0 0 (0, 0) (0, 0) 0 (-1) (-1) [] [] [] [] [] [] []).2.2.2.2.2.2.1.1), (rd_cert v i.toNatClampNeg (0, 0, none) 0 0 (0, 0) (0, 0) 0 (-1) (-1) [] [] [] [] [] [] []).2.2.2.2.2.2.1.2 - (rd_cert v i.toNatClampNeg (0, 0, none) 0 0 (0, 0) (0, 0) 0 (-1) (-1) [] [] [] [] [] [] []).2.2.2.2.2.2.1.1)
        rw [om9, os9, h2]
      · have hk2' : k < nc := by omega
        have e1 : vU vc nc (cNw v i tr nc) k = vc k := if_neg hkn
        obtain ⟨p1, q1, t1⟩ := ce_en T kce (k := k) (by omega)
        have e9 := vcO_k T t1.1 (by rw [t1.2]) hwK hk2 (hnO ((rd_cert v i.toNatClampNeg (0, 0, none) 0 0 (0, 0) (0, 0) 0 (-1) (-1) [] [] [] [] [] [] []).2.2.2.2.2.2.2.2.2.1, (rd_cert v i.toNatClampNeg (0, 0, none) 0 0 (0, 0) (0, 0) 0 (-1) (-1) [] [] [] [] [] [] []).2.2.2.2.2.2.2.2.2.2.1, (rd_cert v i.toNatClampNeg (0, 0, none) 0 0 (0, 0) (0, 0) 0 (-1) (-1) [] [] [] [] [] [] []).2.2.2.2.2.2.2.2.2.2.2.1, (rd_cert v i.toNatClampNeg (0, 0, none) 0 0 (0, 0) (0, 0) 0 (-1) (-1) [] [] [] [] [] [] []).2.2.2.2.2.2.2.2.2.2.2.2.1, (rd_cert v i.toNatClampNeg (0, 0, none) 0 0 (0, 0) (0, 0) 0 (-1) (-1) [] [] [] [] [] [] []).2.2.2.2.2.2.2.2.2.2.2.2.2.1, (rd_cert v i.toNatClampNeg (0, 0, none) 0 0 (0, 0) (0, 0) 0 (-1) (-1) [] [] [] [] [] [] []).2.2.2.2.2.2.2.2.2.2.2.2.2.2.1, (rd_cert v i.toNatClampNeg (0, 0, none) 0 0 (0, 0) (0, 0) 0 (-1) (-1) [] [] [] [] [] [] []).2.2.2.2.2.2.2.2.2.2.2.2.2.2.2.1, (rd_cert v i.toNatClampNeg (0, 0, none) 0 0 (0, 0) (0, 0) 0 (-1) (-1) [] [] [] [] [] [] []).2.2.2.2.2.2.2.2.2.2.2.2.2.2.2.2.1, tr, (rd_cert v i.toNatClampNeg (0, 0, none) 0 0 (0, 0) (0, 0) 0 (-1) (-1) [] [] [] [] [] [] []).2.2.2.2.2.2.2.2.2.2.2.2.2.2.2.2.2.2.1, (rd_cert v i.toNatClampNeg (0, 0, none) 0 0 (0, 0) (0, 0) 0 (-1) (-1) [] [] [] [] [] [] []).2.2.2.2.2.2.2.2.2.2.2.2.2.2.2.2.2.2.2.1, (rd_cert v i.toNatClampNeg (0, 0, none) 0 0 (0, 0) (0, 0) 0 (-1) (-1) [] [] [] [] [] [] []).2.2.2.2.2.2.2.2.2.2.2.2.2.2.2.2.2.1, (nI (ω ce).length)))
        have t2 := (hkk _ t1.1 (by rw [t1.2]; exact (by decide : (8 : Nat) ≠ 14)))
        have e8 := vcO_k T' t2.2 (by rw [t2.1, t1.2]) hw6 (fun _ _ _ => rfl) (fun _ _ => rfl)
        rw [e1, z1, getD_app (by omega), e8, e9]
        exact h4 k hk2'
    · obtain ⟨p1, t1⟩ := li_en T kli (k := k) (by omega)
      have e9 := vlO_k T t1.1 (by rw [t1.2]) hwK hk2 (hnO ((rd_cert v i.toNatClampNeg (0, 0, none) 0 0 (0, 0) (0, 0) 0 (-1) (-1) [] [] [] [] [] [] []).2.2.2.2.2.2.2.2.2.1, (rd_cert v i.toNatClampNeg (0, 0, none) 0 0 (0, 0) (0, 0) 0 (-1) (-1) [] [] [] [] [] [] []).2.2.2.2.2.2.2.2.2.2.1, (rd_cert v i.toNatClampNeg (0, 0, none) 0 0 (0, 0) (0, 0) 0 (-1) (-1) [] [] [] [] [] [] []).2.2.2.2.2.2.2.2.2.2.2.1, (rd_cert v i.toNatClampNeg (0, 0, none) 0 0 (0, 0) (0, 0) 0 (-1) (-1) [] [] [] [] [] [] []).2.2.2.2.2.2.2.2.2.2.2.2.1, (rd_cert v i.toNatClampNeg (0, 0, none) 0 0 (0, 0) (0, 0) 0 (-1) (-1) [] [] [] [] [] [] []).2.2.2.2.2.2.2.2.2.2.2.2.2.1, (rd_cert v i.toNatClampNeg (0, 0, none) 0 0 (0, 0) (0, 0) 0 (-1) (-1) [] [] [] [] [] [] []).2.2.2.2.2.2.2.2.2.2.2.2.2.2.1, (rd_cert v i.toNatClampNeg (0, 0, none) 0 0 (0, 0) (0, 0) 0 (-1) (-1) [] [] [] [] [] [] []).2.2.2.2.2.2.2.2.2.2.2.2.2.2.2.1, (rd_cert v i.toNatClampNeg (0, 0, none) 0 0 (0, 0) (0, 0) 0 (-1) (-1) [] [] [] [] [] [] []).2.2.2.2.2.2.2.2.2.2.2.2.2.2.2.2.1, tr, (rd_cert v i.toNatClampNeg (0, 0, none) 0 0 (0, 0) (0, 0) 0 (-1) (-1) [] [] [] [] [] [] []).2.2.2.2.2.2.2.2.2.2.2.2.2.2.2.2.2.2.1, (rd_cert v i.toNatClampNeg (0, 0, none) 0 0 (0, 0) (0, 0) 0 (-1) (-1) [] [] [] [] [] [] []).2.2.2.2.2.2.2.2.2.2.2.2.2.2.2.2.2.2.2.1, (rd_cert v i.toNatClampNeg (0, 0, none) 0 0 (0, 0) (0, 0) 0 (-1) (-1) [] [] [] [] [] [] []).2.2.2.2.2.2.2.2.2.2.2.2.2.2.2.2.2.1, (nI (ω ce).length)))
      have t2 := (hkk _ t1.1 (by rw [t1.2]; exact (by decide : (9 : Nat) ≠ 14)))
      have e8 := vlO_k T' t2.2 (by rw [t2.1, t1.2]) hw6 (fun _ _ _ => rfl) (fun _ _ => rfl)
      rw [z2, e8, e9]
      exact h5 k hk
  · have ho9 : ov' = ov := ho9
    subst ho9
    rcases hE with ⟨hu, rfl, hn⟩ | ⟨rfl, hi, hcap, w, hw9, hu⟩
    · obtain ⟨rfl, rfl, rfl, rfl, rfl⟩ := pr5 (show (f', c', p', d', w') = (_, _, _, _, _) from hu)
      exact Or.inr (Or.inl ⟨by rw [hr, if_neg (by decide)], by rw [h2] at hn; exact hn, κ, Ad, ν, ω, fe, ho, ce, li, sh, rs, se, ch, fo, pl, L', o', as', f', c', p', hW', h2, h3, h4, h5, h6, h7⟩)
    · obtain ⟨rfl, rfl, rfl, rfl, rfl⟩ := pr5 (show (f', c', p', d', w') = (_, _, _, _, _) from hu)
      exact Or.inr (Or.inr ⟨by rw [hr, if_pos rfl], ⟨hi, by rw [h2] at hcap; exact hcap⟩, w, hw9, κ, Ad, ν, ω, fe, ho, ce, li, sh, rs, se, ch, fo, pl, L', o', as', f', c', p', hW', h2, h3, h4, h5, Nat.zero_le _, h7⟩)
noncomputable def lNw (v : Nat → Nat) (i : Int32) : vL := ((0, 0, 0, 0, 0, 0, 0, 0, 0, (rd_lst v i.toNatClampNeg (0, 0, none) 0 0 0 [] []).2.2.2.2.2.1, (rd_lst v i.toNatClampNeg (0, 0, none) 0 0 0 [] []).2.2.2.2.2.2.1, (rd_lst v i.toNatClampNeg (0, 0, none) 0 0 0 [] []).2.2.2.2.1, 0), (rd_lst v i.toNatClampNeg (0, 0, none) 0 0 0 [] []).2.2.2.2.2.2.2.1.length, hw8 (hsV v (rd_lst v i.toNatClampNeg (0, 0, none) 0 0 0 [] []).2.2.1.1 (rd_lst v i.toNatClampNeg (0, 0, none) 0 0 0 [] []).2.2.1.2), ocE v (rd_lst v i.toNatClampNeg (0, 0, none) 0 0 0 [] []).2.2.2.1, (rd_lst v i.toNatClampNeg (0, 0, none) 0 0 0 [] []).2.2.2.1.2 - (rd_lst v i.toNatClampNeg (0, 0, none) 0 0 0 [] []).2.2.2.1.1)
noncomputable def lqN (v : Nat → Nat) (i : Int32) : lQ := lQm v (rd_lst v i.toNatClampNeg (0, 0, none) 0 0 0 [] []).2.1 (rd_lst v i.toNatClampNeg (0, 0, none) 0 0 0 [] []).2.2.2.2.2.2.2.1 (rd_lst v i.toNatClampNeg (0, 0, none) 0 0 0 [] []).2.2.2.2.2.1 (rd_lst v i.toNatClampNeg (0, 0, none) 0 0 0 [] []).2.2.2.2.2.2.1 (rd_lst v i.toNatClampNeg (0, 0, none) 0 0 0 [] []).2.2.2.2.1
set_option maxHeartbeats 4000000 in
theorem ci_list (l : Launch) (hl0 : l.stackTraces = false) (dC : Nat → ClassId) (dI : Nat → Nat → Nat) (sb : sB) (γ : cG) (q0 ou : Nat) (fu : Nat → Nat) (fd : Nat) (wr : Int32) (nc nl : Nat) (vc : Nat → vC) (vl : Nat → vL) (cc : Nat → cQ) (cl : Nat → lQ) (vs : sS) (ov : Nat → Int64) (G : va_W) (i : Int32) (v : Nat → Nat) (sz : Nat) (h : CI γ sb q0 ou fu fd wr nc nl vc vl cc cl vs ov G) (hvb : ∀ j, v j < 256) (hv : ∀ j, j < i.toNatClampNeg → v j = fu j) : CCi l y_TrustChainLaw_list w_TrustChainLaw_list ({ frames := 13, cells := (8 * fd + 100), slots := (405 * fd + 2700), locals := 402 }) [.ref q0, .int i, .ref ou] (dC, dI) sb (ty4 γ) G sz (fun r G' => (r = 0 ∧ ((¬ i < 0 ∧ i ≤ 2048 ∧ i ≤ nI fd) ∧ nl < 8) ∧ (rd_lst v i.toNatClampNeg (0, 0, none) 0 0 0 [] []).1.2.2 = none ∧ CI γ sb q0 ou fu 0 (-1) nc (nl + 1) vc (vU vl nl (lNw v i)) cc (vU cl nl (lqN v i)) vs (vp_updL ov 0 (nI nl).toInt64) G') ∨ (r = 1 ∧ ¬ ((¬ i < 0 ∧ i ≤ 2048 ∧ i ≤ nI fd) ∧ nl < 8) ∧ CI γ sb q0 ou fu fd wr nc nl vc vl cc cl vs ov G') ∨ (r = 2 ∧ ((¬ i < 0 ∧ i ≤ 2048 ∧ i ≤ nI fd) ∧ nl < 8) ∧ ∃ w, (rd_lst v i.toNatClampNeg (0, 0, none) 0 0 0 [] []).1.2.2 = some w ∧ CI γ sb q0 ou fu 0 (nI w) nc nl vc vl cc cl vs ov G')) := by
  obtain ⟨κ, Ad, ν, ω, fe, ho, ce, li, sh, rs, se, ch, fo, pl, L, o, as, foS, chS, faP, hLW, h2, h3, h4, h5, h6, h7⟩ := h
  refine cci_of (zl_list l hl0 dC dI sb γ κ Ad ν ω L G fe ho ce li sh rs se ch fo q0 pl o as foS chS faP (nI fd) wr ou fu ov i v fd sz hLW hvb hv rfl h6) rfl rfl (fun r u _ hw => ?_)
  obtain ⟨⟨G', L', o', as', f', c', p', d', w'⟩, ov'⟩ := u
  rcases hw with ⟨hr, κ', Ad', res, ω1, ν2, hres, hkk, hW', hK, hu, hi, hcap, hno, ho9, hω1, hν2, hcq9, hhs, ha9, si9, sg9, rs9, w9, ws9, ks9, os9, h89⟩ | ⟨hW', E, hE, hr, ho9⟩
  · obtain ⟨rfl, rfl, rfl, rfl, rfl⟩ := pr5 (show (f', c', p', d', w') = (_, _, _, _, _) from hu)
    have ho9 : ov' = _ := ho9
    rw [h3] at hcap ho9
    refine Or.inl ⟨hr, ⟨hi, hcap⟩, hno, ?_⟩
    rw [← ho9]
    have kce := hLW.1.1.2.1
    have kli := hLW.1.1.2.2.1
    have hne : ce ≠ li := fun e => by
      have a1 := kce.2
      rw [e, kli.2] at a1
      exact absurd (congrArg Prod.fst a1) (by simp)
    have o1 : wU ω1 li res li = ω li ++ [res] := by rw [wU_at, hω1 _ kli.1]
    have o2 : wU ω1 li res ce = ω ce := (wU_ne hne).trans (hω1 _ kce.1)
    have hwO : ∀ a, a ∈ Ad → (κ a).1 ≠ 15 → (κ a).1 ≠ 17 → wU ω1 li res a = ω a := fun a ha h15 h17 => (wU_ne (fun e => h17 (by rw [e, kli.2]))).trans (hω1 a ha)
    have hkO : ∀ a, a ∈ Ad → (κ a).1 ≠ 14 → (κ a).1 ≠ 16 → κ' a = κ a := fun a ha h14 h16 => (hkk a ha h16).1
    have hnO : ∀ (N9 : cN) a, a ∈ Ad → nuR ν2 res N9 a = ν a := fun N9 a ha => (nuR_ne (fun e => hres (by rw [← e]; exact ha))).trans (hν2 a ha)
    have hwS : ∀ a, a ∈ Ad → ((κ a).1 = 1 ∨ (κ a).1 = 2 ∨ (κ a).1 = 8 ∨ (κ a).1 = 9) ∨ (κ a).1 = 6 → (wU ω1 li res) a = ω a := fun a ha hk9 => hwO a ha (by rcases hk9 with (e | e | e | e) | e <;> rw [e] <;> decide) (by rcases hk9 with (e | e | e | e) | e <;> rw [e] <;> decide)
    have hwK : wK κ Ad ω (wU ω1 li res) := fun a ha hk9 => hwS a ha (Or.inl hk9)
    have hk2 : ∀ a, a ∈ Ad → (κ a).1 = 2 ∨ (κ a).1 = 8 ∨ (κ a).1 = 9 → κ' a = κ a := fun a ha hk9 => hkO a ha (by rcases hk9 with e | e | e <;> rw [e] <;> decide) (by rcases hk9 with e | e | e <;> rw [e] <;> decide)
    have T := hLW.2.1.1
    have T' := hW'.2.1.1
    dsimp only at T T'
    obtain ⟨ω2, hw2, hw20, T2, X2⟩ := XI_step (ce := ce) (res := res) T T' h7.2.1 (by rw [hW'.1.1.2.1.2]; exact (by decide : (15 : Nat) ≠ 6)) (LWx.hl hW') (fun k hk => (ce_en T kce hk).elim (fun p h => h.elim (fun q h => ⟨h.1, by rw [h.2]⟩))) (fun k hk => (ce_en T' hW'.1.1.2.1 hk).elim (fun p h => h.elim (fun q h => ⟨h.1, by rw [h.2]⟩))) hwS hkO (hnO _) h89 (by rw [w9]; exact ws9) (Or.inl ⟨o2, by rw [hK.2]⟩)
    have hw6 := wK_6 (Ad := Ad') hw2
    have z1 : ω2 li = ω li ++ [res] := (hw2 li (by rw [hW'.1.1.2.2.1.2]; exact (by decide : (17 : Nat) ≠ 6))).trans o1
    have z2 : ω2 ce = ω ce := (hw2 ce (by rw [hW'.1.1.2.1.2]; exact (by decide : (15 : Nat) ≠ 6))).trans o2
    refine ⟨κ', Ad', _, ω2, fe, ho, ce, li, sh, rs, se, ch, fo, pl, L', o', as', f', c', p', LWx.om hW' hw2 T2, ?_, ?_, fun k hk => ?_, fun k hk => ?_, Nat.zero_le _, h7.1, X2, (ZI.list h7.2.2 h7.2.1 T T' hLW.1 hW'.1 h2 h3 hres ⟨_, hK⟩ hkk hω1 hν2 hcq9 h89 hw2 hw20)⟩
    · rw [z2]
      exact h2
    · rw [z1, List.length_append, h3]
      rfl
    · obtain ⟨p1, q1, t1⟩ := ce_en T kce (k := k) (by omega)
      have e9 := vcO_k T t1.1 (by rw [t1.2]) hwK hk2 (hnO (0, 0, 0, 0, 0, 0, 0, 0, 0, (rd_lst v i.toNatClampNeg (0, 0, none) 0 0 0 [] []).2.2.2.2.2.1, (rd_lst v i.toNatClampNeg (0, 0, none) 0 0 0 [] []).2.2.2.2.2.2.1, (rd_lst v i.toNatClampNeg (0, 0, none) 0 0 0 [] []).2.2.2.2.1, 0))
      have t2 := (hkk _ t1.1 (by rw [t1.2]; exact (by decide : (8 : Nat) ≠ 16)))
      have e8 := vcO_k T' t2.2 (by rw [t2.1, t1.2]) hw6 (fun _ _ _ => rfl) (fun _ _ => rfl)
      rw [z2, e8, e9]
      exact h4 k hk
    · by_cases hkn : k = nl
      · subst hkn
        have e1 : vU vl k (lNw v i) k = lNw v i := if_pos rfl
        have e3 : (ω li ++ [res]).getD k 0 = res := by rw [← h3]; exact getD_end
        rw [e1, z1, e3]
        have e8 := vlO_k T' hK.1 (by rw [hK.2]) hw6 (fun _ _ _ => rfl) (fun _ _ => rfl)
        rw [e8]
        unfold vlO lNw
        rw [hw8_of hhs, nuR_at, hK.2, w9]
        show _ = (_, _, _, slO _ sg9 (κ' sg9).2.1, (κ' sg9).2.1)
        rw [ks9.2]
        show _ = (_, _, _, slO _ sg9 ((rd_lst v i.toNatClampNeg (0, 0, none) 0 0 0 [] []).2.2.2.1.2 - (rd_lst v i.toNatClampNeg (0, 0, none) 0 0 0 [] []).2.2.2.1.1), (rd_lst v i.toNatClampNeg (0, 0, none) 0 0 0 [] []).2.2.2.1.2 - (rd_lst v i.toNatClampNeg (0, 0, none) 0 0 0 [] []).2.2.2.1.1)
        rw [os9]
      · have hk2' : k < nl := by omega
        have e1 : vU vl nl (lNw v i) k = vl k := if_neg hkn
        obtain ⟨p1, t1⟩ := li_en T kli (k := k) (by omega)
        have e9 := vlO_k T t1.1 (by rw [t1.2]) hwK hk2 (hnO (0, 0, 0, 0, 0, 0, 0, 0, 0, (rd_lst v i.toNatClampNeg (0, 0, none) 0 0 0 [] []).2.2.2.2.2.1, (rd_lst v i.toNatClampNeg (0, 0, none) 0 0 0 [] []).2.2.2.2.2.2.1, (rd_lst v i.toNatClampNeg (0, 0, none) 0 0 0 [] []).2.2.2.2.1, 0))
        have t2 := (hkk _ t1.1 (by rw [t1.2]; exact (by decide : (9 : Nat) ≠ 16)))
        have e8 := vlO_k T' t2.2 (by rw [t2.1, t1.2]) hw6 (fun _ _ _ => rfl) (fun _ _ => rfl)
        rw [e1, z1, getD_app (by omega), e8, e9]
        exact h5 k hk2'
  · have ho9 : ov' = ov := ho9
    subst ho9
    rcases hE with ⟨hu, rfl, hn⟩ | ⟨rfl, hi, hcap, w, hw9, hu⟩
    · obtain ⟨rfl, rfl, rfl, rfl, rfl⟩ := pr5 (show (f', c', p', d', w') = (_, _, _, _, _) from hu)
      exact Or.inr (Or.inl ⟨by rw [hr, if_neg (by decide)], by rw [h3] at hn; exact hn, κ, Ad, ν, ω, fe, ho, ce, li, sh, rs, se, ch, fo, pl, L', o', as', f', c', p', hW', h2, h3, h4, h5, h6, h7⟩)
    · obtain ⟨rfl, rfl, rfl, rfl, rfl⟩ := pr5 (show (f', c', p', d', w') = (_, _, _, _, _) from hu)
      exact Or.inr (Or.inr ⟨by rw [hr, if_pos rfl], ⟨hi, by rw [h3] at hcap; exact hcap⟩, w, hw9, κ, Ad, ν, ω, fe, ho, ce, li, sh, rs, se, ch, fo, pl, L', o', as', f', c', p', hW', h2, h3, h4, h5, Nat.zero_le _, h7⟩)
set_option maxHeartbeats 4000000 in
theorem ci_certificate_b (l : Launch) (hl0 : l.stackTraces = false) (dC : Nat → ClassId) (dI : Nat → Nat → Nat) (sb : sB) (γ : cG) (q0 ou : Nat) (fu : Nat → Nat) (fd : Nat) (wr : Int32) (nc nl : Nat) (vc : Nat → vC) (vl : Nat → vL) (cc : Nat → cQ) (cl : Nat → lQ) (vs : sS) (ov : Nat → Int64) (G : va_W) (i tr : Int32) (sz : Nat) (h : CI γ sb q0 ou fu fd wr nc nl vc vl cc cl vs ov G) (hbad : ¬ ((¬ i < 0 ∧ i ≤ 2048 ∧ i ≤ nI fd) ∧ nc < 16)) : CCi l y_TrustChainLaw_certificate w_TrustChainLaw_certificate ({ frames := 14, cells := 1, slots := 6, locals := 444 }) [.ref q0, .int i, .int tr, .ref ou] (dC, dI) sb (ty4 γ) G sz (fun r G' => r = 1 ∧ CI γ sb q0 ou fu fd wr nc nl vc vl cc cl vs ov G') := by
  obtain ⟨κ, Ad, ν, ω, fe, ho, ce, li, sh, rs, se, ch, fo, pl, L, o, as, foS, chS, faP, hLW, h2, h3, h4, h5, h6, h7⟩ := h
  refine cci_of (zl_certificate_b l hl0 dC dI sb γ κ Ad ν ω L G fe ho ce li sh rs se ch fo q0 pl o as foS chS faP (nI fd) wr ou fu ov i tr sz hLW (by rw [h2]; exact hbad)) rfl rfl (fun r u _ hw => ?_)
  obtain ⟨⟨G', L', o', as', f', c', p', d', w'⟩, ov'⟩ := u
  obtain ⟨hW', ⟨-, r9, hf, -⟩ | ⟨E, ⟨hu, hE⟩, hr, ho9⟩⟩ := hw
  · exact hf.elim
  · obtain ⟨rfl, rfl, rfl, rfl, rfl⟩ := pr5 (show (f', c', p', d', w') = (_, _, _, _, _) from hu)
    have ho9 : ov' = ov := ho9
    subst ho9
    exact ⟨by rw [hr]; split <;> rfl, κ, Ad, ν, ω, fe, ho, ce, li, sh, rs, se, ch, fo, pl, L', o', as', f', c', p', hW', h2, h3, h4, h5, h6, h7⟩
set_option maxHeartbeats 4000000 in
theorem ci_list_b (l : Launch) (hl0 : l.stackTraces = false) (dC : Nat → ClassId) (dI : Nat → Nat → Nat) (sb : sB) (γ : cG) (q0 ou : Nat) (fu : Nat → Nat) (fd : Nat) (wr : Int32) (nc nl : Nat) (vc : Nat → vC) (vl : Nat → vL) (cc : Nat → cQ) (cl : Nat → lQ) (vs : sS) (ov : Nat → Int64) (G : va_W) (i : Int32) (sz : Nat) (h : CI γ sb q0 ou fu fd wr nc nl vc vl cc cl vs ov G) (hbad : ¬ ((¬ i < 0 ∧ i ≤ 2048 ∧ i ≤ nI fd) ∧ nl < 8)) : CCi l y_TrustChainLaw_list w_TrustChainLaw_list ({ frames := 13, cells := 1, slots := 6, locals := 402 }) [.ref q0, .int i, .ref ou] (dC, dI) sb (ty4 γ) G sz (fun r G' => r = 1 ∧ CI γ sb q0 ou fu fd wr nc nl vc vl cc cl vs ov G') := by
  obtain ⟨κ, Ad, ν, ω, fe, ho, ce, li, sh, rs, se, ch, fo, pl, L, o, as, foS, chS, faP, hLW, h2, h3, h4, h5, h6, h7⟩ := h
  refine cci_of (zl_list_b l hl0 dC dI sb γ κ Ad ν ω L G fe ho ce li sh rs se ch fo q0 pl o as foS chS faP (nI fd) wr ou fu ov i sz hLW (by rw [h3]; exact hbad)) rfl rfl (fun r u _ hw => ?_)
  obtain ⟨⟨G', L', o', as', f', c', p', d', w'⟩, ov'⟩ := u
  obtain ⟨hW', ⟨-, r9, hf, -⟩ | ⟨E, ⟨hu, hE⟩, hr, ho9⟩⟩ := hw
  · exact hf.elim
  · obtain ⟨rfl, rfl, rfl, rfl, rfl⟩ := pr5 (show (f', c', p', d', w') = (_, _, _, _, _) from hu)
    have ho9 : ov' = ov := ho9
    subst ho9
    exact ⟨by rw [hr]; split <;> rfl, κ, Ad, ν, ω, fe, ho, ce, li, sh, rs, se, ch, fo, pl, L', o', as', f', c', p', hW', h2, h3, h4, h5, h6, h7⟩
theorem in3 {G R9 : va_W} {x y z q : Nat × va_E} (hp : G.Perm ([x, y, z] ++ R9)) (h : q ∈ G) (h1 : q ≠ x) (h2 : q ≠ y) (h3 : q ≠ z) : q ∈ R9 := by
  rcases List.mem_append.mp (hp.subset h) with e | e
  · rcases List.mem_cons.mp e with e | e
    · exact absurd e h1
    · rcases List.mem_cons.mp e with e | e
      · exact absurd e h2
      · exact absurd (List.mem_singleton.mp e) h3
  · exact e
/-- the class' own three cells anew -/
theorem LWx.cells {γ : cG} {sb : sB} {κ : kE} {Ad : List Nat} {ν : Nat → cN} {ω : Nat → List Nat} {fe ho ce li sh rs se ch fo q0 pl ou L : Nat} {fu fu' : Nat → Nat} {ov ov' : Nat → Int64} {o : alD} {as : List Nat} {foS chS faP feS wr feS' wr' : Int32} {G R9 : va_W} {A : Nat → Prop}
    (h : LWx γ sb κ Ad ν ω fe ho ce li sh rs se ch fo q0 pl ou fu ov (G, L, o, as, foS, chS, faP, feS, wr))
    (hp : G.Perm (([(q0, .inr (10, [.ref fe, .ref ho, .ref ce, .ref li, .ref sh, .ref rs, .ref se, .ref ch, .ref fo, .int foS, .int chS, .int faP, .int feS, .int wr])), (fe, .inl (γ.1, 2060, .inl (tx fu))), (ou, .inl (γ.2.2.1, 1, .inr (.inl ov)))] : va_W) ++ R9))
    (hD : va_D A (([(q0, .inr (10, [.ref fe, .ref ho, .ref ce, .ref li, .ref sh, .ref rs, .ref se, .ref ch, .ref fo, .int foS, .int chS, .int faP, .int feS', .int wr'])), (fe, .inl (γ.1, 2060, .inl (tx fu'))), (ou, .inl (γ.2.2.1, 1, .inr (.inl ov')))] : va_W) ++ R9)) :
    LWx γ sb κ Ad ν ω fe ho ce li sh rs se ch fo q0 pl ou fu' ov' (([(q0, .inr (10, [.ref fe, .ref ho, .ref ce, .ref li, .ref sh, .ref rs, .ref se, .ref ch, .ref fo, .int foS, .int chS, .int faP, .int feS', .int wr'])), (fe, .inl (γ.1, 2060, .inl (tx fu'))), (ou, .inl (γ.2.2.1, 1, .inr (.inl ov')))] : va_W) ++ R9, L, o, as, foS, chS, faP, feS', wr') := by
  obtain ⟨hC, ⟨hTy, hL, kq0, kpl, h16⟩, kfe, kou, hfq, hfp, hoq, hop⟩ := h
  dsimp only at hTy hL kq0 kpl h16 kfe kou
  have hin : ∀ q : Nat × va_E, q.1 ∈ Ad → q ∈ G → q ∈ R9 := fun q ha hq => in3 hp hq (fun e => kq0.1 (by rw [e] at ha; exact ha)) (fun e => kfe.1 (by rw [e] at ha; exact ha)) (fun e => kou.1 (by rw [e] at ha; exact ha))
  refine ⟨hC, ⟨TY.keep hTy hD (fun q ha hq => List.mem_append_right _ (hin q ha hq)), hL, ⟨kq0.1, List.mem_append_left _ List.mem_cons_self⟩, ?_, h16⟩, ⟨kfe.1, List.mem_append_left _ (List.mem_cons_of_mem _ List.mem_cons_self)⟩, ⟨kou.1, List.mem_append_left _ (List.mem_cons_of_mem _ (List.mem_cons_of_mem _ List.mem_cons_self))⟩, hfq, hfp, hoq, hop⟩
  obtain ⟨g1, ⟨m, g2⟩, g3, g4⟩ := kpl
  have hqp := hC.2.2.2.2.1
  refine ⟨g1, ⟨m, List.mem_append_right _ (in3 hp g2 (fun e => hqp (congrArg Prod.fst e).symm) (fun e => hfp (congrArg Prod.fst e).symm) (fun e => hop (congrArg Prod.fst e).symm))⟩, fun q hq => ⟨List.mem_append_right _ (in3 hp (g3 q hq).1 (fun e => ?_) (fun e => ?_) (fun e => ?_)), (g3 q hq).2⟩, g4⟩
  · cases o with
    | none => cases hq
    | some d => rw [List.mem_singleton.mp hq] at e; cases e
  · cases o with
    | none => cases hq
    | some d => rw [List.mem_singleton.mp hq] at e; exact arI_ne (congrArg Prod.snd e).symm
  · cases o with
    | none => cases hq
    | some d => rw [List.mem_singleton.mp hq] at e; exact arJ_ne (congrArg Prod.snd e).symm
set_option maxHeartbeats 4000000 in
theorem ci_feed (l : Launch) (hl0 : l.stackTraces = false) (dC : Nat → ClassId) (dI : Nat → Nat → Nat) (sb : sB) (γ : cG) (q0 ou : Nat) (fu : Nat → Nat) (fd : Nat) (wr : Int32) (nc nl : Nat) (vc : Nat → vC) (vl : Nat → vL) (cc : Nat → cQ) (cl : Nat → lQ) (vs : sS) (ov : Nat → Int64) (G : va_W) (x0 x1 x2 x3 x4 : Int32) (sz : Nat) (h : CI γ sb q0 ou fu fd wr nc nl vc vl cc cl vs ov G) : CCi l y_TrustChainLaw_feed w_TrustChainLaw_feed ({ frames := 7, cells := 1, slots := 6, locals := 140 }) [.ref q0, .int x0, .int x1, .int x2, .int x3, .int x4, .ref ou] (dC, dI) sb (ty4 γ) G sz (fun r G' => (r = 0 ∧ fd ≤ 2040 ∧ CI γ sb q0 ou (fw20 fu fd x0 x1 x2 x3 x4) (fd + 20) wr nc nl vc vl cc cl vs (vp_updL ov 0 (nI (fd + 20)).toInt64) G') ∨ (r = 1 ∧ 2040 < fd ∧ CI γ sb q0 ou fu fd wr nc nl vc vl cc cl vs ov G')) := by
  obtain ⟨κ, Ad, ν, ω, fe, ho, ce, li, sh, rs, se, ch, fo, pl, L, o, as, foS, chS, faP, hLW, h2, h3, h4, h5, h6, h7⟩ := h
  refine cci_D (fun A9 hD9 => ?_)
  have kq := hLW.2.1.2.2.1
  have kf := hLW.2.2.1
  have ko := hLW.2.2.2.1
  dsimp only at kq kf ko
  have hfo : fe ≠ ou := fun e => by
    rw [← e] at ko
    exact arI_ne (hD9.un kf.2 ko.2)
  obtain ⟨R9, hp⟩ := pickL (l := ([(q0, .inr (10, [.ref fe, .ref ho, .ref ce, .ref li, .ref sh, .ref rs, .ref se, .ref ch, .ref fo, .int foS, .int chS, .int faP, .int (nI fd), .int wr])), (fe, .inl (γ.1, 2060, .inl (tx fu))), (ou, .inl (γ.2.2.1, 1, .inr (.inl ov)))] : va_W)) (G := G) (fun c hc => by
    rcases List.mem_cons.mp hc with e | e
    · rw [e]; exact kq.2
    · rcases List.mem_cons.mp e with e | e
      · rw [e]; exact kf.2
      · rw [List.mem_singleton.mp e]; exact ko.2) (by
    have a1 := hLW.2.2.2.2.1
    have a2 := hLW.2.2.2.2.2.2.1
    show [q0, fe, ou].Nodup
    refine List.nodup_cons.mpr ⟨fun hm => ?_, List.nodup_cons.mpr ⟨fun hm => hfo (List.mem_singleton.mp hm), List.nodup_cons.mpr ⟨fun hm => (by cases hm), List.nodup_nil⟩⟩⟩
    rcases List.mem_cons.mp hm with e | e
    · exact a1 e.symm
    · exact a2 (List.mem_singleton.mp e).symm)
  refine cci_sub (c_TrustChainLaw_feed l hl0 dC dI sb q0 fe ho ce li sh rs se ch fo foS chS faP wr γ.1 (tx fu) fd x0 x1 x2 x3 x4 ou γ.2.2.1 ov sz h6) rfl rfl hp [0, 2] rfl (fun r u hD' hw => ?_)
  rcases hw with ⟨rfl, hr, hk⟩ | ⟨rfl, hr, hk⟩
  · refine Or.inl ⟨hr, hk, ?_⟩
    have hD' := hD'
    dsimp only [cond] at hD' ⊢
    rw [fed_tx] at hD' ⊢
    exact ⟨κ, Ad, ν, ω, fe, ho, ce, li, sh, rs, se, ch, fo, pl, L, o, as, foS, chS, faP, LWx.cells hLW hp hD', h2, h3, h4, h5, by omega, fw20_lt h7.1 _ _ _ _ _ _, h7.2⟩
  · refine Or.inr ⟨hr, hk, ?_⟩
    exact ⟨κ, Ad, ν, ω, fe, ho, ce, li, sh, rs, se, ch, fo, pl, L, o, as, foS, chS, faP, LWx.cells hLW hp hD', h2, h3, h4, h5, h6, h7⟩
