theorem SGX_nu {κ : kE} {ν ν' : Nat → cN} {ω : Nat → List Nat} {g c : Nat} (h1 : ν' ((ω g).getD 0 0) = ν ((ω g).getD 0 0)) (h2 : ν' c = ν c) : SGX κ ν' ω g c ↔ SGX κ ν ω g c := by
  unfold SGX
  rw [h1, h2]
/-- the premises of Rsa's and PathCheck's, with other numbers of an address that is no paper's and no hash -/
theorem XC_nu {γ : cG} {κ : kE} {Ad : List Nat} {ν ν' : Nat → cN} {ω : Nat → List Nat} {L : Nat} {G : va_W} {h : Nat} (hT : TY γ κ Ad ν ω L G) (hk : (κ h).1 = 12 ∨ (κ h).1 = 13) (hn : ∀ b, b ≠ h → ν' b = ν b) (hX : XC κ Ad ν ω) : XC κ Ad ν' ω := by
  have ne : ∀ {a c p q : Nat}, tK κ Ad a (c, p, q) → c ≠ 12 → c ≠ 13 → a ≠ h := fun ha h1 h2 e => by
    rw [← e, ha.2] at hk
    exact hk.elim h1 h2
  intro c K2 l2 hc
  have ec : ν' c = ν c := hn c (ne hc (by decide) (by decide))
  obtain ⟨ex, bt, wn, lm, e1, e2, e3, e4, e5, e6, e7, e8, e9, e10, e11⟩ := hX c K2 l2 hc
  refine ⟨ex, bt, wn, lm, by rw [ec]; exact e1, by rw [ec]; exact e2, by rw [ec]; exact e3, e4, e5, e6, e7, e8, e9, e10, fun g hg hk8 => ?_⟩
  obtain ⟨f1, f2⟩ := e11 g hg hk8
  have eg : ν' ((ω g).getD 0 0) = ν ((ω g).getD 0 0) := by
    obtain ⟨⟨c9, p9, q9⟩, hkg⟩ : ∃ z, z = κ g := ⟨_, rfl⟩
    rw [← hkg] at hk8
    rcases hk8 with e | e
    · have e : c9 = 8 := e
      subst e
      obtain ⟨i, bo, k1, -⟩ := ty_8x hT ⟨hg, hkg.symm⟩
      exact hn _ (ne k1.2.2.2.2.2.2.2.2.1 (by decide) (by decide))
    · have e : c9 = 9 := e
      subst e
      obtain ⟨d, hd⟩ := hT.1 g hg
      have ho := hT.2 _ hd hg
      unfold tOK at ho
      dsimp only at ho
      rw [← hkg] at ho
      obtain ⟨ha, si, en, bo, sg, is, ⟨k1, -, -, -, -, -, k8⟩, -⟩ := ho
      rw [k8]
      exact hn _ (ne k1 (by decide) (by decide))
  exact ⟨f1, by rw [SGX_nu eg ec]; exact f2⟩
theorem YC_nu {κ : kE} {Ad : List Nat} {ν ν' : Nat → cN} {ω : Nat → List Nat} {h : Nat} (hk : (κ h).1 = 12 ∨ (κ h).1 = 13) (hn : ∀ b, b ≠ h → ν' b = ν b) (hY : YC κ Ad ν ω) : YC κ Ad ν' ω := fun c K l hc => by
  have ec : ν' c = ν c := hn c (fun e => by rw [← e, hc.2] at hk; exact hk.elim (fun q => absurd (show (8 : Nat) = 12 from q) (by decide)) (fun q => absurd (show (8 : Nat) = 13 from q) (by decide)))
  rw [cO_nu ec, ec]
  exact hY c K l hc
theorem own_n {c : cQ} {s : Int32} (h : s = zP (ownQ c)) (p : s = 0) : ¬ ownQ c := zP_0.mp (h.symm.trans p)
theorem own_y {c : cQ} {s : Int32} (h : s = zP (ownQ c)) (p : ¬ s = 0) : ownQ c := Classical.byContradiction (fun q => p (h.trans (zP_0.mpr q)))
section PLN
variable {γ : cG} {sb : sB} {κ : kE} {Ad : List Nat} {ν ν' : Nat → cN} {ω : Nat → List Nat} {L : Nat} {G : va_W} {p9 h qs : Nat} {o1 : alD} {as : List Nat}
theorem pl_k8 (hp : PLx γ sb κ Ad 8 p9 o1 as G) {x : Nat} (hx : x ∈ as) : ∃ p q, tK κ Ad x (8, p, q) := by
  obtain ⟨i, hi⟩ := List.getElem?_of_mem hx
  have hl := (List.getElem?_eq_some_iff.mp hi).1
  obtain ⟨j, cap, f, p, q, -, -, -, ks, -, -⟩ := pl_get hp (j := i) hl
  rw [List.getD_eq_getElem?_getD, hi] at ks
  exact ⟨p, q, ks⟩
theorem pl_ne (hp : PLx γ sb κ Ad 8 p9 o1 as G) {x a b c : Nat} (hx : x ∈ as) (kh : tK κ Ad h (12 + a, b, c)) : x ≠ h := fun e => by
  obtain ⟨p, q, ks⟩ := pl_k8 hp hx
  have h1 := ks.2
  rw [e, kh.2] at h1
  have h2 : 12 + a = 8 := congrArg Prod.fst h1
  omega
/-- PathCheck's own numbers don't matter for the fault, but for the time and what is wanted -/
theorem flt_nu (hT : TY γ κ Ad ν ω L G) (hk : (κ h).1 = 12 ∨ (κ h).1 = 13) (hp : PLx γ sb κ Ad 8 p9 o1 as G) {ed z9 : Nat} (kqs : tK κ Ad qs (17, ed, z9)) (hn : ∀ b, b ≠ h → ν' b = ν b) {fp ik : Int32} (eh : ν' h = mkP (ν h) fp (ν h).2.1 ik (ν h).2.2.2.2.2.2.2.2.2.1) {i : Nat} (hi : i + 1 < as.length) : fltQ (cO κ ν' ω) (fun l9 => qO κ ν' ω ((ω qs).getD l9 0)) (ω qs).length (SGX κ ν' ω) (fun l9 s9 => SGX κ ν' ω ((ω qs).getD l9 0) s9) (ν' h).2.2.2.2.2.2.2.2.2.1 ((ν' h).2.1 = 1) as i = fltQ (cO κ ν ω) (fun l9 => qO κ ν ω ((ω qs).getD l9 0)) (ω qs).length (SGX κ ν ω) (fun l9 s9 => SGX κ ν ω ((ω qs).getD l9 0) s9) (ν h).2.2.2.2.2.2.2.2.2.1 ((ν h).2.1 = 1) as i := by
  have ne : ∀ {a c p q : Nat}, tK κ Ad a (c, p, q) → c ≠ 12 → c ≠ 13 → ν' a = ν a := fun ha h1 h2 => hn _ (fun e => by
    rw [← e, ha.2] at hk
    exact hk.elim h1 h2)
  have n8 : ∀ x, x ∈ as → ν' x = ν x ∧ ν' ((ω x).getD 0 0) = ν ((ω x).getD 0 0) := fun x hx => by
    obtain ⟨p, q, ks⟩ := pl_k8 hp hx
    obtain ⟨j, bo, k1, -⟩ := ty_8x hT ks
    exact ⟨ne ks (by decide) (by decide), ne k1.2.2.2.2.2.2.2.2.1 (by decide) (by decide)⟩
  have n9 : ∀ l, l < (ω qs).length → ν' ((ω qs).getD l 0) = ν ((ω qs).getD l 0) ∧ ν' ((ω ((ω qs).getD l 0)).getD 0 0) = ν ((ω ((ω qs).getD l 0)).getD 0 0) := fun l hl => by
    obtain ⟨j, q, m, -, h2, -⟩ := ty_17 hT kqs
    obtain ⟨cap, kq⟩ := h2 (by omega)
    obtain ⟨j2, f, -, -, h3, -⟩ := ty_16 hT kq
    obtain ⟨-, p, ks⟩ := h3 l hl
    obtain ⟨j3, bo, k1, -⟩ := ty_9x hT ks
    exact ⟨ne ks (by decide) (by decide), ne k1.1 (by decide) (by decide)⟩
  rw [eh]
  show fltQ (cO κ ν' ω) (fun l9 => qO κ ν' ω ((ω qs).getD l9 0)) (ω qs).length (SGX κ ν' ω) (fun l9 s9 => SGX κ ν' ω ((ω qs).getD l9 0) s9) (ν h).2.2.2.2.2.2.2.2.2.1 ((ν h).2.1 = 1) as i = _
  exact fltQ_c (fun x hx => cO_nu (n8 x hx).1) (fun l hl => qO_nu (n9 l hl).1) (fun a b ha hb => SGX_nu (n8 a ha).2 (n8 b hb).1) (fun l b hl hb => SGX_nu (n9 l hl).2 (n8 b hb).1) hi
end PLN
