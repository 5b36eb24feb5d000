/-! TrustChain's own object: cells that have no kind and are known exactly. -/
def Xc (Ad : List Nat) (a : Nat) (c : va_E) (G : va_W) : Prop := a ∉ Ad ∧ (a, c) ∈ G
/-- what has no kind stays, but for one address -/
def FX (Ad : List Nat) (x : Nat) (G G' : va_W) : Prop := ∀ q : Nat × va_E, q.1 ∉ Ad → q.1 ≠ x → q ∈ G → q ∈ G'
theorem FX.rf (Ad : List Nat) (x : Nat) (G : va_W) : FX Ad x G G := fun _ _ _ h => h
theorem FX.tr {Ad : List Nat} {x : Nat} {G1 G2 G3 : va_W} (h : FX Ad x G1 G2) (g : FX Ad x G2 G3) : FX Ad x G1 G3 := fun q a b z => g q a b (h q a b z)
theorem FR.x {Ad : List Nat} {x : Nat} {G G' : va_W} (h : FR Ad G G') : FX Ad x G G' := fun q a _ z => h q a z
theorem mem_setX {G : va_W} {i a : Nat} {c c' : va_E} {q : Nat × va_E} (hg : G[i]? = some (a, c)) (hq : q ∈ G) (hne : q ≠ (a, c)) : q ∈ G.set i (a, c') := by
  obtain ⟨j, hj⟩ := List.getElem?_of_mem hq
  by_cases e : i = j
  · subst e
    rw [hg] at hj
    exact absurd (Option.some.inj hj).symm hne
  · exact List.mem_of_getElem? (by rw [List.getElem?_set_ne e]; exact hj)
section XCS
variable {γ : cG} {sb : sB} {κ : kE} {Ad : List Nat} {ν : Nat → cN} {ω : Nat → List Nat} {L : Nat} {G G' : va_W} {a x l : Nat} {c c' : va_E} {o : alD} {as : List Nat}
theorem Xc.fr (h : Xc Ad a c G) (hf : FR Ad G G') : Xc Ad a c G' := ⟨h.1, hf _ h.1 h.2⟩
theorem Xc.frs (h : Xc Ad a c G) (hf : FRs γ Ad l G G') (hl : a ≠ l) (hc : ∀ z f, c ≠ .inl (γ.2.2.2, z, .inr (.inr (.inr (.inr f))))) : Xc Ad a c G' := ⟨h.1, hf (a, c) h.1 hl hc h.2⟩
theorem FX.set {i : Nat} (hg : G[i]? = some (x, c)) : FX Ad x G (G.set i (x, c')) := fun q _ hne hq => mem_setX hg hq (fun e => hne (by rw [e]))
theorem FX.of {i : Nat} {a : Nat} (hg : G[i]? = some (a, c)) (ha : a ∈ Ad) : FX Ad x G (G.set i (a, c')) := (FR.set hg ha).x
theorem TY.setX {i : Nat} (h : TY γ κ Ad ν ω L G) (hg : G[i]? = some (a, c)) (ha : a ∉ Ad) : TY γ κ Ad ν ω L (G.set i (a, c')) := by
  refine ⟨fun b hb => ?_, fun q hq hqa => ?_⟩
  · obtain ⟨d, hd⟩ := h.1 b hb
    exact ⟨d, mem_setX hg hd (fun e => ha ((show b = a from congrArg Prod.fst e) ▸ hb))⟩
  · rcases mem_set hg hq with h1 | h1
    · exact h.2 q h1 hqa
    · exact absurd hqa (by rw [h1]; exact ha)
theorem PLx.setX {i ci : Nat} {fs : List Value} (h : PLx γ sb κ Ad 8 l o as G) (hg : G[i]? = some (a, .inr (ci, fs))) (hci : ci ≠ 11) : PLx γ sb κ Ad 8 l o as (G.set i (a, c')) := by
  obtain ⟨h1, ⟨m, h2⟩, h3, h4⟩ := h
  refine ⟨h1, ⟨m, mem_setX hg h2 (fun e => hci (by cases e; rfl))⟩, fun q hq => ⟨mem_setX hg (h3 q hq).1 (fun e => ?_), (h3 q hq).2⟩, h4⟩
  cases o with
  | none => cases hq
  | some d =>
    rw [List.mem_singleton.mp hq] at e
    cases e
/-- other numbers of one certificate -/
theorem tOK.nu {ν' : Nat → cN} {b : Nat} {e : va_E} (h : tOK γ κ Ad ν ω L b e) (hn : ν' b = ν b) : tOK γ κ Ad ν' ω L b e := by
  unfold tOK at h ⊢
  rw [hn]
  exact h
theorem TY.setnu {A : Nat → Prop} {i p q : Nat} {ν' : Nat → cN} (h : TY γ κ Ad ν ω L G) (hD : va_D A G) (hg : G[i]? = some (a, c)) (ha : tK κ Ad a (8, p, q)) (hn : ∀ b, b ≠ a → ν' b = ν b) (ho : tOK γ κ Ad ν' ω L a c') : TY γ κ Ad ν' ω L (G.set i (a, c')) := by
  refine ⟨fun b hb => ?_, fun q hq hqa => ?_⟩
  · by_cases hab : a = b
    · subst hab
      exact ⟨c', List.mem_of_getElem? (set_here hg)⟩
    · obtain ⟨d, hd⟩ := h.1 b hb
      obtain ⟨j, hj⟩ := List.getElem?_of_mem hd
      exact ⟨d, List.mem_of_getElem? (set_keep hg hj hab)⟩
  · obtain ⟨j, hj⟩ := List.getElem?_of_mem hq
    by_cases hij : i = j
    · subst hij
      rw [set_here hg] at hj
      cases hj
      exact ho
    · rw [List.getElem?_set_ne hij] at hj
      have hne : q.1 ≠ a := fun e => hij (hD.1 i j _ _ hg hj e.symm)
      exact (h.2 q (List.mem_of_getElem? hj) hqa).nu (hn _ hne)
theorem TY.setnuX {A : Nat → Prop} {i : Nat} {ν' : Nat → cN} (h : TY γ κ Ad ν ω L G) (hD : va_D A G) (hg : G[i]? = some (a, c)) (hn : ∀ b, b ≠ a → ν' b = ν b) (ho : tOK γ κ Ad ν' ω L a c') : TY γ κ Ad ν' ω L (G.set i (a, c')) := by
  refine ⟨fun b hb => ?_, fun q hq hqa => ?_⟩
  · by_cases hab : a = b
    · subst hab
      exact ⟨c', List.mem_of_getElem? (set_here hg)⟩
    · obtain ⟨d, hd⟩ := h.1 b hb
      obtain ⟨j, hj⟩ := List.getElem?_of_mem hd
      exact ⟨d, List.mem_of_getElem? (set_keep hg hj hab)⟩
  · obtain ⟨j, hj⟩ := List.getElem?_of_mem hq
    by_cases hij : i = j
    · subst hij
      rw [set_here hg] at hj
      cases hj
      exact ho
    · rw [List.getElem?_set_ne hij] at hj
      have hne : q.1 ≠ a := fun e => hij (hD.1 i j _ _ hg hj e.symm)
      exact (h.2 q (List.mem_of_getElem? hj) hqa).nu (hn _ hne)
end XCS
/-- a byte, whatever it comes from -/
theorem by_sb (y : Int32) : ∃ w, w < 256 ∧ y.toInt8.toInt32 = sb_b w := by
  refine ⟨y.toBitVec.toNat % 256, Nat.mod_lt _ (by decide), ?_⟩
  unfold sb_b
  congr 1
  apply Int8.toBitVec_inj.mp
  show y.toBitVec.signExtend 8 = (BitVec.ofNat 32 (y.toBitVec.toNat % 256)).signExtend 8
  rw [BitVec.signExtend_eq_setWidth_of_le _ (by decide), BitVec.signExtend_eq_setWidth_of_le _ (by decide)]
  apply BitVec.eq_of_toNat_eq
  rw [BitVec.toNat_setWidth, BitVec.toNat_setWidth, BitVec.toNat_ofNat]
  have := y.toBitVec.isLt
  omega
theorem nar_byte (x : Int32) : vp_nar .byte x = x.toInt8.toInt32 := rfl
theorem tx_upd {u : Nat → Nat} (hu : ∀ j, u j < 256) (k : Nat) (y : Int32) : ∃ u', (∀ j, u' j < 256) ∧ upd (tx u) k (y.toInt8.toInt32) = tx u' := by
  obtain ⟨w, hw, e⟩ := by_sb y
  refine ⟨fun j => if j = k then w else u j, fun j => ?_, ?_⟩
  · show (if j = k then w else u j) < 256
    split
    · exact hw
    · exact hu j
  · funext j
    rw [e]
    unfold tx upd
    by_cases h : j = k
    · simp [h]
    · simp [h]
