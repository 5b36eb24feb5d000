/-! The law's world is two lists: a call with one of them leaves the other. -/
theorem rg_l (G R : va_W) : (List.range G.length).map (fun i => (G ++ R)[i]?) = G.map some := by
  apply List.ext_getElem?
  intro k
  rw [List.getElem?_map, List.getElem?_map]
  by_cases h : k < G.length
  · rw [List.getElem?_range h]
    show some ((G ++ R)[k]?) = (G[k]?).map some
    rw [List.getElem?_append_left h, List.getElem?_eq_getElem h]
    rfl
  · rw [List.getElem?_eq_none (by rw [List.length_range]; omega), List.getElem?_eq_none (by omega)]
    rfl
theorem join_l {A : Nat → Prop} {D : va_G} {G R G' : va_W} {H H1 : Heap} (hP : va_P D classes (G ++ R) H) (hD : va_D A (G ++ R)) (hk : ∀ q : Nat, q < H.size → ¬ va_A G H.size q → H1[q]? = H[q]?) (hF : ∀ q, va_A G H.size q → A q) (hP1 : va_P D classes G' H1) (hD1 : va_D (va_A G H.size) G') : va_P D classes (G' ++ R) H1 ∧ va_D A (G' ++ R) := va_joinF (wc := G) hP hD (List.range G.length) (rg_is G) hk hF hP1 hD1
/-- the other list first -/
theorem two_swap {A : Nat → Prop} {D : va_G} {G R : va_W} {H : Heap} (hP : va_P D classes (G ++ R) H) (hD : va_D A (G ++ R)) : va_P D classes (R ++ G) H ∧ va_D A (R ++ G) := ⟨hP.perm List.perm_append_comm, hD.perm List.perm_append_comm⟩
