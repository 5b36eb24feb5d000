/-! One entry more of a list: contents stay (p11 to p13; behind 85b). -/
theorem wU_w4 {κ : kE} {Ad : List Nat} {ω : Nat → List Nat} {ce v ed z : Nat} (h : κ ce = (15, ed, z)) : wK4 κ Ad ω (wU ω ce v) := ⟨fun a _ ha => if_neg (fun e => by
  rw [e, h] at ha
  rcases ha with e | e | e | e | e | e <;> simp at e), fun a _ ha => by
  rw [show wU ω ce v a = ω a from if_neg (fun e => by
    rw [e, h] at ha
    exact absurd ha (by decide : ¬ (15 : Nat) = 4))]⟩
theorem wU_w4l {κ : kE} {Ad : List Nat} {ω : Nat → List Nat} {li v ed z : Nat} (h : κ li = (17, ed, z)) : wK4 κ Ad ω (wU ω li v) := ⟨fun a _ ha => if_neg (fun e => by
  rw [e, h] at ha
  rcases ha with e | e | e | e | e | e <;> simp at e), fun a _ ha => by
  rw [show wU ω li v a = ω a from if_neg (fun e => by
    rw [e, h] at ha
    exact absurd ha (by decide : ¬ (17 : Nat) = 4))]⟩
