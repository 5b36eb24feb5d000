/-! TrustChain.Reader.open: the head of an element. -/
section JOA
variable {p : Program} {l : Launch} {e : Env} {R : Room} {s : State} {m : MethodId} {args : Array Value} {below : List Frame} {meth : Method} {c : Code} {H : Heap} {locs : List Loc} {cells slots : Nat} {Q : State → Prop}
/-- a join over locals, the heap as it is -/
theorem w_joinA {α : Type} (J : α → Prop) (lv : α → List (Nat × Value)) (st : α → List Value) (nL pc : Nat) {g : JFrame}
    (k : ∀ (a : α) (ls : Array Slot), J a → lv_has ls nL (lv a) → W p l e R s m args below meth c H locs cells slots Q (F0 m pc ls (st a)))
    (b : (∀ (a : α) (ls : Array Slot), J a → lv_has ls nL (lv a) → W p l e R s m args below meth c H locs cells slots Q (F0 m pc ls (st a))) → W p l e R s m args below meth c H locs cells slots Q g) : W p l e R s m args below meth c H locs cells slots Q g := b k
end JOA
/-- an octet of a text, -1 behind it -/
def oc (u : Nat → Nat) (n k : Nat) : Int32 := if k < n then nI (u k) else -1
theorem oc_eq {u : Nat → Nat} {n k : Nat} (hk : k < 2 ^ 31) : sl_at u 0 n (nI k) = oc u n k := by
  rw [sl_at_nI hk, oc, Nat.zero_add]
/-- how long the head of the element at p is, and what is in it: as the text has it -/
def hx (u : Nat → Nat) (n p : Nat) : Option (Nat × Nat) :=
  if p + 1 < n then
    (if u (p + 1) = 129 then (if p + 2 < n ∧ 128 ≤ u (p + 2) then some (3, u (p + 2)) else none)
     else if u (p + 1) = 130 then (if p + 3 < n ∧ 1 ≤ u (p + 2) then some (4, u (p + 2) * 256 + u (p + 3)) else none)
     else if u (p + 1) < 128 then some (2, u (p + 1)) else none)
  else none
def rd_opn (u : Nat → Nat) (n : Nat) (x : rS) (tg en : Nat) : rS × Nat := match x with
  | (p, _, some j) => ((p, p, some j), p)
  | (p, _, none) => if en ≤ p then ((p, p, some en), p) else match hx u n p with
    | none => ((p, p, some p), p)
    | some (h, m) => if u p = tg ∧ p + h + m ≤ en then ((p + h, p, none), p + h + m) else ((p, p, some p), p)
/-- the three locals where the head has been looked at -/
def hxJ (u : Nat → Nat) (n p : Nat) (a : Int32 × Int32 × Int32) : Prop :=
  (a.1 < a.2.2 ∧ hx u n p = none) ∨ ∃ h m : Nat, a.1 = nI m ∧ a.2.1 = nI h ∧ ¬ a.1 < a.2.2 ∧ m < 2 ^ 17 ∧ h ≤ 4 ∧ (hx u n p = some (h, m) ∨ (hx u n p = none ∧ n < p + h + m))
section HXP
variable {u : Nat → Nat} {n p s tg en : Nat} {w : Option Nat}
theorem oc_129 (hu : ∀ j, u j < 256) {k v : Nat} (hv : v < 256) (h : oc u n k = nI v) : k < n ∧ u k = v := by
  unfold oc at h
  by_cases hk : k < n
  · rw [if_pos hk, nI_eq (by have := hu k; omega) (by omega)] at h
    exact ⟨hk, h⟩
  · rw [if_neg hk] at h
    have h2 := congrArg Int32.toInt h
    rw [nI_toInt (by omega)] at h2
    exact absurd h2 (by have e : ((-1 : Int32)).toInt = -1 := by decide
                        rw [e]; omega)
theorem hxJ_A (hu : ∀ j, u j < 256) (h1 : oc u n (p + 1) = nI 129) : hxJ u n p (oc u n (p + 2), 3, 128) := by
  obtain ⟨h2, h3⟩ := oc_129 hu (by omega) h1
  have hq := hu (p + 2)
  by_cases h4 : p + 2 < n
  · by_cases h5 : 128 ≤ u (p + 2)
    · refine Or.inr ⟨3, u (p + 2), by simp [oc, h4], rfl, ?_, by omega, by omega, Or.inl (by simp [hx, h2, h3, h4, h5])⟩
      simp only [oc, if_pos h4]
      rw [show (128 : Int32) = nI 128 from rfl, nI_ltI (by omega) (by omega)]; omega
    · refine Or.inl ⟨?_, by simp [hx, h2, h3, h5]⟩
      simp only [oc, if_pos h4]
      rw [show (128 : Int32) = nI 128 from rfl, nI_ltI (by omega) (by omega)]; omega
  · refine Or.inl ⟨?_, by simp [hx, h2, h3, h4]⟩
    simp only [oc, if_neg h4]; decide
theorem hxJ_B (hu : ∀ j, u j < 256) (h1 : oc u n (p + 1) = nI 130) : hxJ u n p (oc u n (p + 2) * 256 + oc u n (p + 3), 4, 256) := by
  obtain ⟨h2, h3⟩ := oc_129 hu (by omega) h1
  have hq := hu (p + 2)
  have hq3 := hu (p + 3)
  by_cases h4 : p + 3 < n
  · have h5 : p + 2 < n := by omega
    have e : oc u n (p + 2) * 256 + oc u n (p + 3) = nI (u (p + 2) * 256 + u (p + 3)) := by
      simp only [oc, if_pos h4, if_pos h5]
      rw [show (256 : Int32) = nI 256 from rfl, pk_mul, nI_add]
    rw [e]
    by_cases h6 : 1 ≤ u (p + 2)
    · refine Or.inr ⟨4, _, rfl, rfl, ?_, by omega, by omega, Or.inl (by simp [hx, h2, h3, h4, h6])⟩
      show ¬ nI _ < (256 : Int32)
      rw [show (256 : Int32) = nI 256 from rfl, nI_ltI (by omega) (by omega)]; omega
    · refine Or.inl ⟨?_, by simp [hx, h2, h3, h6]⟩
      show nI _ < (256 : Int32)
      rw [show (256 : Int32) = nI 256 from rfl, nI_ltI (by omega) (by omega)]; omega
  · by_cases h5 : p + 2 < n
    · by_cases h6 : 1 ≤ u (p + 2)
      · have e : oc u n (p + 2) * 256 + oc u n (p + 3) = nI (u (p + 2) * 256 - 1) := by
          simp only [oc, if_neg h4, if_pos h5]
          rw [show (256 : Int32) = nI 256 from rfl, pk_mul]
          obtain ⟨z, hz⟩ : ∃ z, u (p + 2) * 256 = z + 1 := ⟨u (p + 2) * 256 - 1, by omega⟩
          rw [hz, pk_m1, Nat.add_sub_cancel]
        rw [e]
        by_cases h7 : u (p + 2) * 256 - 1 < 256
        · refine Or.inl ⟨?_, by simp [hx, h2, h3, h4]⟩
          show nI _ < (256 : Int32)
          rw [show (256 : Int32) = nI 256 from rfl, nI_ltI (by omega) (by omega)]; omega
        · refine Or.inr ⟨4, _, rfl, rfl, ?_, by omega, by omega, Or.inr ⟨by simp [hx, h2, h3, h4], by omega⟩⟩
          show ¬ nI _ < (256 : Int32)
          rw [show (256 : Int32) = nI 256 from rfl, nI_ltI (by omega) (by omega)]; omega
      · have e : u (p + 2) = 0 := by omega
        refine Or.inl ⟨?_, by simp [hx, h2, h3, h4]⟩
        simp only [oc, if_neg h4, if_pos h5, e]
        decide
    · refine Or.inl ⟨?_, by simp [hx, h2, h3, h4]⟩
      simp only [oc, if_neg h4, if_neg h5]
      decide
theorem hxJ_C (hu : ∀ j, u j < 256) (h1 : ¬ oc u n (p + 1) = nI 129) (h2 : ¬ oc u n (p + 1) = nI 130) (h3 : ¬ oc u n (p + 1) < 128) : hxJ u n p (-1, 2, 0) := by
  refine Or.inl ⟨by decide, ?_⟩
  unfold hx
  by_cases h4 : p + 1 < n
  · simp only [oc, if_pos h4] at h1 h2 h3
    have hq := hu (p + 1)
    rw [if_pos h4, if_neg (fun q => h1 (by rw [q])), if_neg (fun q => h2 (by rw [q])), if_neg (fun q => h3 ?_)]
    rw [show (128 : Int32) = nI 128 from rfl, nI_ltI (by omega) (by omega)]; exact q
  · rw [if_neg h4]
theorem hxJ_D (hu : ∀ j, u j < 256) (h1 : ¬ oc u n (p + 1) = nI 129) (h2 : ¬ oc u n (p + 1) = nI 130) (h3 : oc u n (p + 1) < 128) : hxJ u n p (oc u n (p + 1), 2, 0) := by
  have hq := hu (p + 1)
  by_cases h4 : p + 1 < n
  · simp only [oc, if_pos h4] at h1 h2 h3 ⊢
    rw [show (128 : Int32) = nI 128 from rfl, nI_ltI (by omega) (by omega)] at h3
    refine Or.inr ⟨2, u (p + 1), rfl, rfl, ?_, by omega, by omega, Or.inl ?_⟩
    · show ¬ nI _ < (0 : Int32)
      exact nI_pos (by omega)
    · unfold hx
      rw [if_pos h4, if_neg (fun q => h1 (by rw [q])), if_neg (fun q => h2 (by rw [q])), if_pos h3]
  · simp only [oc, if_neg h4]
    exact Or.inl ⟨by decide, by simp [hx, h4]⟩
theorem hxJ_b {a : Int32 × Int32 × Int32} (hJ : hxJ u n p a) (h : a.1 < a.2.2) : hx u n p = none := by
  rcases hJ with hJ | ⟨_, _, _, _, h2, _⟩
  · exact hJ.2
  · exact absurd h h2
theorem hxJ_c {a : Int32 × Int32 × Int32} (hJ : hxJ u n p a) (hn : n < 2 ^ 30) (hp : p < en) (he : en ≤ n) (h1 : ¬ a.1 < a.2.2) (h : ¬ nI p + a.2.1 + a.1 ≤ nI en) : ∀ k m, hx u n p = some (k, m) → ¬ p + k + m ≤ en := by
  rcases hJ with hJ | ⟨k, m, e1, e2, _, hm, hk, hJ⟩
  · exact absurd hJ.1 h1
  · intro k' m' e3
    rcases hJ with hJ | hJ
    · rw [hJ] at e3
      cases e3
      rw [e1, e2, nI_add, nI_add, nI_leI (by omega) (by omega)] at h
      exact h
    · rw [hJ.1] at e3
      cases e3
theorem hxJ_d {a : Int32 × Int32 × Int32} (hJ : hxJ u n p a) (hn : n < 2 ^ 30) (hp : p < en) (he : en ≤ n) (h1 : ¬ a.1 < a.2.2) (h : nI p + a.2.1 + a.1 ≤ nI en) : ∃ k m, hx u n p = some (k, m) ∧ a.1 = nI m ∧ a.2.1 = nI k ∧ p + k + m ≤ en := by
  rcases hJ with hJ | ⟨k, m, e1, e2, _, hm, hk, hJ⟩
  · exact absurd hJ.1 h1
  · rw [e1, e2, nI_add, nI_add, nI_leI (by omega) (by omega)] at h
    rcases hJ with hJ | hJ
    · exact ⟨k, m, hJ, e1, e2, h⟩
    · exact absurd hJ.2 (by omega)
theorem opn_1 (h : ¬ w = none) : rd_opn u n (p, s, w) tg en = ((p, p, w), p) := by
  cases w with
  | none => exact absurd rfl h
  | some j => rfl
theorem opn_2 (h : w = none) (h2 : en ≤ p) : rd_opn u n (p, s, w) tg en = ((p, p, some en), p) := by
  subst h; simp [rd_opn, h2]
theorem opn_3 (h : w = none) (h2 : ¬ en ≤ p) (h3 : ∀ k m, hx u n p = some (k, m) → ¬ (u p = tg ∧ p + k + m ≤ en)) : rd_opn u n (p, s, w) tg en = ((p, p, some p), p) := by
  subst h
  simp only [rd_opn, if_neg h2]
  cases hq : hx u n p with
  | none => rfl
  | some z =>
    obtain ⟨k, m⟩ := z
    simp only [if_neg (h3 k m hq)]
theorem opn_4 {k m : Nat} (h : w = none) (h2 : ¬ en ≤ p) (h3 : hx u n p = some (k, m)) (h4 : u p = tg) (h5 : p + k + m ≤ en) : rd_opn u n (p, s, w) tg en = ((p + k, p, none), p + k + m) := by
  subst h
  simp only [rd_opn, if_neg h2, h3, if_pos (And.intro h4 h5)]
end HXP

def y_Reader_open : MethodName := ⟨"TrustChain$Reader", "open", "(II)I"⟩
abbrev b_Reader_open : ByteArray := prog_8_method_8_code
def w_Reader_open : List Cond := Cond.code y_Reader_open b_Reader_open 6 ((some FieldType.int)) :: tb
theorem d_Reader_open_0 : decode b_Reader_open 0 = .ok (.aload_n 0, 1) := by decide +kernel
theorem d_Reader_open_1 : decode b_Reader_open 1 = .ok (.aload_n 0, 1) := by decide +kernel
theorem d_Reader_open_2 : decode b_Reader_open 2 = .ok (.getfield 9, 3) := by decide +kernel
theorem d_Reader_open_5 : decode b_Reader_open 5 = .ok (.putfield 15, 3) := by decide +kernel
theorem d_Reader_open_8 : decode b_Reader_open 8 = .ok (.aload_n 0, 1) := by decide +kernel
theorem d_Reader_open_9 : decode b_Reader_open 9 = .ok (.getfield 18, 3) := by decide +kernel
theorem d_Reader_open_12 : decode b_Reader_open 12 = .ok (.ifCond .lt 8, 3) := by decide +kernel
theorem d_Reader_open_15 : decode b_Reader_open 15 = .ok (.aload_n 0, 1) := by decide +kernel
theorem d_Reader_open_16 : decode b_Reader_open 16 = .ok (.getfield 9, 3) := by decide +kernel
theorem d_Reader_open_19 : decode b_Reader_open 19 = .ok (.ireturn, 1) := by decide +kernel
theorem d_Reader_open_20 : decode b_Reader_open 20 = .ok (.aload_n 0, 1) := by decide +kernel
theorem d_Reader_open_21 : decode b_Reader_open 21 = .ok (.getfield 9, 3) := by decide +kernel
theorem d_Reader_open_24 : decode b_Reader_open 24 = .ok (.iload_n 2, 1) := by decide +kernel
theorem d_Reader_open_25 : decode b_Reader_open 25 = .ok (.if_icmp .lt 13, 3) := by decide +kernel
theorem d_Reader_open_28 : decode b_Reader_open 28 = .ok (.aload_n 0, 1) := by decide +kernel
theorem d_Reader_open_29 : decode b_Reader_open 29 = .ok (.iload_n 2, 1) := by decide +kernel
theorem d_Reader_open_30 : decode b_Reader_open 30 = .ok (.putfield 18, 3) := by decide +kernel
theorem d_Reader_open_33 : decode b_Reader_open 33 = .ok (.aload_n 0, 1) := by decide +kernel
theorem d_Reader_open_34 : decode b_Reader_open 34 = .ok (.getfield 9, 3) := by decide +kernel
theorem d_Reader_open_37 : decode b_Reader_open 37 = .ok (.ireturn, 1) := by decide +kernel
theorem d_Reader_open_38 : decode b_Reader_open 38 = .ok (.aload_n 0, 1) := by decide +kernel
theorem d_Reader_open_39 : decode b_Reader_open 39 = .ok (.aload_n 0, 1) := by decide +kernel
theorem d_Reader_open_40 : decode b_Reader_open 40 = .ok (.getfield 9, 3) := by decide +kernel
theorem d_Reader_open_43 : decode b_Reader_open 43 = .ok (.iconst 1, 1) := by decide +kernel
theorem d_Reader_open_44 : decode b_Reader_open 44 = .ok (.iadd, 1) := by decide +kernel
theorem d_Reader_open_45 : decode b_Reader_open 45 = .ok (.invokevirtual 45, 3) := by decide +kernel
theorem d_Reader_open_48 : decode b_Reader_open 48 = .ok (.istore_n 3, 1) := by decide +kernel
theorem d_Reader_open_49 : decode b_Reader_open 49 = .ok (.iconst 2, 1) := by decide +kernel
theorem d_Reader_open_50 : decode b_Reader_open 50 = .ok (.istore 4, 2) := by decide +kernel
theorem d_Reader_open_52 : decode b_Reader_open 52 = .ok (.iconst 0, 1) := by decide +kernel
theorem d_Reader_open_53 : decode b_Reader_open 53 = .ok (.istore 5, 2) := by decide +kernel
theorem d_Reader_open_55 : decode b_Reader_open 55 = .ok (.iload_n 3, 1) := by decide +kernel
theorem d_Reader_open_56 : decode b_Reader_open 56 = .ok (.sipush 129, 3) := by decide +kernel
theorem d_Reader_open_59 : decode b_Reader_open 59 = .ok (.if_icmp .ne 25, 3) := by decide +kernel
theorem d_Reader_open_62 : decode b_Reader_open 62 = .ok (.aload_n 0, 1) := by decide +kernel
theorem d_Reader_open_63 : decode b_Reader_open 63 = .ok (.aload_n 0, 1) := by decide +kernel
theorem d_Reader_open_64 : decode b_Reader_open 64 = .ok (.getfield 9, 3) := by decide +kernel
theorem d_Reader_open_67 : decode b_Reader_open 67 = .ok (.iconst 2, 1) := by decide +kernel
theorem d_Reader_open_68 : decode b_Reader_open 68 = .ok (.iadd, 1) := by decide +kernel
theorem d_Reader_open_69 : decode b_Reader_open 69 = .ok (.invokevirtual 45, 3) := by decide +kernel
theorem d_Reader_open_72 : decode b_Reader_open 72 = .ok (.istore_n 3, 1) := by decide +kernel
theorem d_Reader_open_73 : decode b_Reader_open 73 = .ok (.iconst 3, 1) := by decide +kernel
theorem d_Reader_open_74 : decode b_Reader_open 74 = .ok (.istore 4, 2) := by decide +kernel
theorem d_Reader_open_76 : decode b_Reader_open 76 = .ok (.sipush 128, 3) := by decide +kernel
theorem d_Reader_open_79 : decode b_Reader_open 79 = .ok (.istore 5, 2) := by decide +kernel
theorem d_Reader_open_81 : decode b_Reader_open 81 = .ok (.goto 56, 3) := by decide +kernel
theorem d_Reader_open_84 : decode b_Reader_open 84 = .ok (.iload_n 3, 1) := by decide +kernel
theorem d_Reader_open_85 : decode b_Reader_open 85 = .ok (.sipush 130, 3) := by decide +kernel
theorem d_Reader_open_88 : decode b_Reader_open 88 = .ok (.if_icmp .ne 40, 3) := by decide +kernel
theorem d_Reader_open_91 : decode b_Reader_open 91 = .ok (.aload_n 0, 1) := by decide +kernel
theorem d_Reader_open_92 : decode b_Reader_open 92 = .ok (.aload_n 0, 1) := by decide +kernel
theorem d_Reader_open_93 : decode b_Reader_open 93 = .ok (.getfield 9, 3) := by decide +kernel
theorem d_Reader_open_96 : decode b_Reader_open 96 = .ok (.iconst 2, 1) := by decide +kernel
theorem d_Reader_open_97 : decode b_Reader_open 97 = .ok (.iadd, 1) := by decide +kernel
theorem d_Reader_open_98 : decode b_Reader_open 98 = .ok (.invokevirtual 45, 3) := by decide +kernel
theorem d_Reader_open_101 : decode b_Reader_open 101 = .ok (.sipush 256, 3) := by decide +kernel
theorem d_Reader_open_104 : decode b_Reader_open 104 = .ok (.imul, 1) := by decide +kernel
theorem d_Reader_open_105 : decode b_Reader_open 105 = .ok (.aload_n 0, 1) := by decide +kernel
theorem d_Reader_open_106 : decode b_Reader_open 106 = .ok (.aload_n 0, 1) := by decide +kernel
theorem d_Reader_open_107 : decode b_Reader_open 107 = .ok (.getfield 9, 3) := by decide +kernel
theorem d_Reader_open_110 : decode b_Reader_open 110 = .ok (.iconst 3, 1) := by decide +kernel
theorem d_Reader_open_111 : decode b_Reader_open 111 = .ok (.iadd, 1) := by decide +kernel
theorem d_Reader_open_112 : decode b_Reader_open 112 = .ok (.invokevirtual 45, 3) := by decide +kernel
theorem d_Reader_open_115 : decode b_Reader_open 115 = .ok (.iadd, 1) := by decide +kernel
theorem d_Reader_open_116 : decode b_Reader_open 116 = .ok (.istore_n 3, 1) := by decide +kernel
theorem d_Reader_open_117 : decode b_Reader_open 117 = .ok (.iconst 4, 1) := by decide +kernel
theorem d_Reader_open_118 : decode b_Reader_open 118 = .ok (.istore 4, 2) := by decide +kernel
theorem d_Reader_open_120 : decode b_Reader_open 120 = .ok (.sipush 256, 3) := by decide +kernel
theorem d_Reader_open_123 : decode b_Reader_open 123 = .ok (.istore 5, 2) := by decide +kernel
theorem d_Reader_open_125 : decode b_Reader_open 125 = .ok (.goto 12, 3) := by decide +kernel
theorem d_Reader_open_128 : decode b_Reader_open 128 = .ok (.iload_n 3, 1) := by decide +kernel
theorem d_Reader_open_129 : decode b_Reader_open 129 = .ok (.sipush 128, 3) := by decide +kernel
theorem d_Reader_open_132 : decode b_Reader_open 132 = .ok (.if_icmp .lt 5, 3) := by decide +kernel
theorem d_Reader_open_135 : decode b_Reader_open 135 = .ok (.iconst (-1), 1) := by decide +kernel
theorem d_Reader_open_136 : decode b_Reader_open 136 = .ok (.istore_n 3, 1) := by decide +kernel
theorem d_Reader_open_137 : decode b_Reader_open 137 = .ok (.aload_n 0, 1) := by decide +kernel
theorem d_Reader_open_138 : decode b_Reader_open 138 = .ok (.aload_n 0, 1) := by decide +kernel
theorem d_Reader_open_139 : decode b_Reader_open 139 = .ok (.getfield 9, 3) := by decide +kernel
theorem d_Reader_open_142 : decode b_Reader_open 142 = .ok (.invokevirtual 45, 3) := by decide +kernel
theorem d_Reader_open_145 : decode b_Reader_open 145 = .ok (.iload_n 1, 1) := by decide +kernel
theorem d_Reader_open_146 : decode b_Reader_open 146 = .ok (.if_icmp .ne 22, 3) := by decide +kernel
theorem d_Reader_open_149 : decode b_Reader_open 149 = .ok (.iload_n 3, 1) := by decide +kernel
theorem d_Reader_open_150 : decode b_Reader_open 150 = .ok (.iload 5, 2) := by decide +kernel
theorem d_Reader_open_152 : decode b_Reader_open 152 = .ok (.if_icmp .lt 16, 3) := by decide +kernel
theorem d_Reader_open_155 : decode b_Reader_open 155 = .ok (.aload_n 0, 1) := by decide +kernel
theorem d_Reader_open_156 : decode b_Reader_open 156 = .ok (.getfield 9, 3) := by decide +kernel
theorem d_Reader_open_159 : decode b_Reader_open 159 = .ok (.iload 4, 2) := by decide +kernel
theorem d_Reader_open_161 : decode b_Reader_open 161 = .ok (.iadd, 1) := by decide +kernel
theorem d_Reader_open_162 : decode b_Reader_open 162 = .ok (.iload_n 3, 1) := by decide +kernel
theorem d_Reader_open_163 : decode b_Reader_open 163 = .ok (.iadd, 1) := by decide +kernel
theorem d_Reader_open_164 : decode b_Reader_open 164 = .ok (.iload_n 2, 1) := by decide +kernel
theorem d_Reader_open_165 : decode b_Reader_open 165 = .ok (.if_icmp .le 16, 3) := by decide +kernel
theorem d_Reader_open_168 : decode b_Reader_open 168 = .ok (.aload_n 0, 1) := by decide +kernel
theorem d_Reader_open_169 : decode b_Reader_open 169 = .ok (.aload_n 0, 1) := by decide +kernel
theorem d_Reader_open_170 : decode b_Reader_open 170 = .ok (.getfield 9, 3) := by decide +kernel
theorem d_Reader_open_173 : decode b_Reader_open 173 = .ok (.putfield 18, 3) := by decide +kernel
theorem d_Reader_open_176 : decode b_Reader_open 176 = .ok (.aload_n 0, 1) := by decide +kernel
theorem d_Reader_open_177 : decode b_Reader_open 177 = .ok (.getfield 9, 3) := by decide +kernel
theorem d_Reader_open_180 : decode b_Reader_open 180 = .ok (.ireturn, 1) := by decide +kernel
theorem d_Reader_open_181 : decode b_Reader_open 181 = .ok (.aload_n 0, 1) := by decide +kernel
theorem d_Reader_open_182 : decode b_Reader_open 182 = .ok (.dup, 1) := by decide +kernel
theorem d_Reader_open_183 : decode b_Reader_open 183 = .ok (.getfield 9, 3) := by decide +kernel
theorem d_Reader_open_186 : decode b_Reader_open 186 = .ok (.iload 4, 2) := by decide +kernel
theorem d_Reader_open_188 : decode b_Reader_open 188 = .ok (.iadd, 1) := by decide +kernel
theorem d_Reader_open_189 : decode b_Reader_open 189 = .ok (.putfield 9, 3) := by decide +kernel
theorem d_Reader_open_192 : decode b_Reader_open 192 = .ok (.aload_n 0, 1) := by decide +kernel
theorem d_Reader_open_193 : decode b_Reader_open 193 = .ok (.getfield 9, 3) := by decide +kernel
theorem d_Reader_open_196 : decode b_Reader_open 196 = .ok (.iload_n 3, 1) := by decide +kernel
theorem d_Reader_open_197 : decode b_Reader_open 197 = .ok (.iadd, 1) := by decide +kernel
theorem d_Reader_open_198 : decode b_Reader_open 198 = .ok (.ireturn, 1) := by decide +kernel
set_option maxHeartbeats 4000000 in
set_option maxRecDepth 100000 in
theorem cC_open (l : Launch) (dC : Nat → ClassId) (dI : Nat → Nat → Nat) (sb : sB) (h res t ki : Nat) (pp s0 n : Nat) (w : Option Nat) (pa ma ex ie : Int32) (cB : ClassId) (u : Nat → Nat) (tg en : Nat) (sz : Nat) (hu : ∀ j, u j < 256) (hn : n < 2 ^ 30) (hw : ∀ k, w = some k → k < 2 ^ 31) (he : en ≤ n) (hp : pp ≤ n) (hg : tg < 256) : Met l y_Reader_open w_Reader_open ({ frames := 1, cells := 0, slots := 0, locals := 21 }) (mu_P [.ref h, .int (nI tg), .int (nI en)] (dC, dI) sb [(h, .inr (4, [.ref res, .ref t, .int (nI pp), .int (nI s0), .int (wI w), .int pa, .int ma, .int ex, .ref ki])), (t, .inl (cB, n, .inl (tx u)))] [(cB, .byte)] sz) (va_Qi (fun r (u' : rS) => u' = (rd_opn u n (pp, s0, w) tg en).1 ∧ r = nI (rd_opn u n (pp, s0, w) tg en).2) (mu_B (dC, dI) [(cB, .byte)] (va_A [(h, .inr (4, [.ref res, .ref t, .int (nI pp), .int (nI s0), .int (wI w), .int pa, .int ma, .int ex, .ref ki])), (t, .inl (cB, n, .inl (tx u)))] sz) (fun u' : rS => [(h, .inr (4, [.ref res, .ref t, .int (nI u'.1), .int (nI u'.2.1), .int (wI u'.2.2), .int pa, .int ma, .int ex, .ref ki])), (t, .inl (cB, n, .inl (tx u)))])) (va_A [(h, .inr (4, [.ref res, .ref t, .int (nI pp), .int (nI s0), .int (wI w), .int pa, .int ma, .int ex, .ref ki])), (t, .inl (cB, n, .inl (tx u)))] sz)) 0 0 (va_A [(h, .inr (4, [.ref res, .ref t, .int (nI pp), .int (nI s0), .int (wI w), .int pa, .int ma, .int ex, .ref ki])), (t, .inl (cB, n, .inl (tx u)))] sz) := by
  refine Met.ofW (cc := b_Reader_open) (maxL := 6) (ret := (some FieldType.int)) (by decide) rfl ?_
  intro p e s m args below meth c s₁ B hml hv
  obtain ⟨rfl, hsz, hB0, hP, hK, hD0, hN, hT0⟩ := hv
  have hx := B.exec
  have hb := B.bytes
  have hr := B.returns
  have hts := atoms_spec (ws := w_Reader_open) B.pre
  have tbin : ∀ w ∈ tb, w ∈ w_Reader_open := fun w h => List.mem_cons_of_mem _ h
  have htb : ∀ w ∈ tb, w.before _ s = true := fun w h => hts w (tbin w h)
  have hown : s.vm.findClass "TrustChain$Reader" = some m.cls := findClass_of_methodNamed B.named
  have hlocks := B.notSynchronized
  subst hsz
  have hD := hD0.self (sz := s.heap.size)
  generalize hAe : va_A [(h, .inr (4, [.ref res, .ref t, .int (nI pp), .int (nI s0), .int (wI w), .int pa, .int ma, .int ex, .ref ki])), (t, .inl (cB, n, .inl (tx u)))] s.heap.size = A at hD ⊢
  have hA : ∀ q : Nat, s.heap.size ≤ q → A q := fun q h => by rw [← hAe]; exact Or.inr h
  have hAs : ∀ q : Nat, A q → sb.1 ≤ q := fun q h => by
    rw [← hAe] at h
    rcases h with ⟨k, e, h⟩ | h
    · exact hD0.2 k _ h
    · exact Nat.le_trans hB0 h
  have hS : va_S A s.heap s.heap [] := va_S.rf
  have hcs : 0 ≤ (headSpec w_Reader_open ({ frames := 1, cells := 0, slots := 0, locals := 21 })).room.cells ∧ 0 ≤ (headSpec w_Reader_open ({ frames := 1, cells := 0, slots := 0, locals := 21 })).room.slots := ⟨Nat.le_refl _, Nat.le_refl _⟩
  have hP : va_P (dC, dI) classes [(h, .inr (4, [.ref res, .ref t, .int (nI pp), .int (nI s0), .int (wI w), .int pa, .int ma, .int ex, .ref ki])), (t, .inl (cB, n, .inl (tx u)))] s.heap := hP
  have hl := lv_entry ([.ref h, .int (nI tg), .int (nI en)]) (n := 6) (Nat.le_of_ble_eq_true rfl)
  rw [lg_entry_eq]
  generalize (lg_sl ([.ref h, .int (nI tg), .int (nI en)]) ++ List.replicate (6 - (lg_sl ([.ref h, .int (nI tg), .int (nI en)])).length) Slot.unset).toArray = ls at hl ⊢
  have hl : lv_has ls 6 [(0, .ref h), (1, .int (nI tg)), (2, .int (nI en))] := hl
  refine lv_aload_n hx hb d_Reader_open_0 rfl (lv_at hl 0 rfl) ?_
  refine lv_aload_n hx hb d_Reader_open_1 rfl (lv_at hl 0 rfl) ?_
  refine va_get (v := .int (nI pp)) hx hb htb i_CertificateReader hown hK hP 0 rfl rfl 2 (by decide) (htb _ q3_62) (fun _ h9 => h9) rfl d_Reader_open_2 ?_
  refine va_put (v := .int (nI pp)) (ty := .int) hx hb htb i_CertificateReader t_CertificateReader t_CertificateReader_ok n_CertificateReader hown hK hP hD hS 0 rfl rfl 3 (by decide) (htb _ q3_67) (fun _ h9 => h9) rfl (by decide +kernel) rfl rfl (Nat.le_of_ble_eq_true rfl) d_Reader_open_5 (fun H5 locs hP hD hS => ?_)
  have hP : va_P (dC, dI) classes [(h, .inr (4, [.ref res, .ref t, .int (nI pp), .int (nI pp), .int (wI w), .int pa, .int ma, .int ex, .ref ki])), (t, .inl (cB, n, .inl (tx u)))] H5 := hP
  have hD : va_D A [(h, .inr (4, [.ref res, .ref t, .int (nI pp), .int (nI pp), .int (wI w), .int pa, .int ma, .int ex, .ref ki])), (t, .inl (cB, n, .inl (tx u)))] := hD
  refine lv_aload_n hx hb d_Reader_open_8 rfl (lv_at hl 0 rfl) ?_
  refine va_get (v := .int (wI w)) hx hb htb i_CertificateReader hown hK hP 0 rfl rfl 4 (by decide) (htb _ q3_68) (fun _ h9 => h9) rfl d_Reader_open_9 ?_
  refine lv_if_lt (tgt := 20) hx hb d_Reader_open_12 (by decide) (fun c12 => ?_) (fun c12 => ?_)
  · have hwn := wI_n' hw c12
    refine lv_aload_n hx hb d_Reader_open_20 rfl (lv_at hl 0 rfl) ?_
    refine va_get (v := .int (nI pp)) hx hb htb i_CertificateReader hown hK hP 0 rfl rfl 2 (by decide) (htb _ q3_62) (fun _ h9 => h9) rfl d_Reader_open_21 ?_
    refine lv_iload_n hx hb d_Reader_open_24 rfl (lv_at hl 2 rfl) ?_
    refine lv_icmp_lt (tgt := 38) hx hb d_Reader_open_25 (by decide) (fun c25 => ?_) (fun c25 => ?_)
    · have hlt : pp < en := by rw [nI_ltI (by omega) (by omega)] at c25; exact c25
      refine w_joinA (α := Int32 × Int32 × Int32) (fun a => hxJ u n pp a) (fun a => [(0, .ref h), (1, .int (nI tg)), (2, .int (nI en)), (3, .int a.1), (4, .int a.2.1), (5, .int a.2.2)]) (fun _ => []) 6 137 (fun a ls hJ hl => ?_) (fun k137 => ?_)
      · skip
        refine lv_aload_n hx hb d_Reader_open_137 rfl (lv_at hl 0 rfl) ?_
        refine lv_aload_n hx hb d_Reader_open_138 rfl (lv_at hl 0 rfl) ?_
        refine va_get (v := .int (nI pp)) hx hb htb i_CertificateReader hown hK hP 0 rfl rfl 2 (by decide) (htb _ q3_62) (fun _ h9 => h9) rfl d_Reader_open_139 ?_
        refine vp_callSi (pu_callU (As := [.int (nI pp)]) (rest := []) ⟨hx, hb, hml, hown, hts⟩ (cC_octet l dC dI sb h res t ki pp pp n w pa ma ex ie cB u (nI pp) hu hn) (cu_of (n := 1) hts tbin q3_114 q3_116 q3_115 q3_117 q1_15 q3_119 rfl (by decide +kernel) ⟨rfl, rfl⟩ ⟨Nat.le_of_ble_eq_true rfl, Nat.le_of_ble_eq_true rfl⟩) rfl ⟨Nat.le_of_ble_eq_true rfl, Nat.le_of_ble_eq_true rfl⟩ hN (hT0.keep hS hAs) hK hP [0, 1] rfl [0] rfl 0 4 rfl rfl rfl hl.1 rfl (Nat.le_of_ble_eq_true rfl) d_Reader_open_142) (fun r142 hr142 => ?_)
        rw [oc_eq (by omega), oc, if_pos (by omega)] at hr142
        refine lv_iload_n hx hb d_Reader_open_145 rfl (lv_at hl 1 rfl) ?_
        refine lv_icmp_ne (tgt := 168) hx hb d_Reader_open_146 (by decide) (fun c146 => ?_) (fun c146 => ?_)
        · refine lv_aload_n hx hb d_Reader_open_168 rfl (lv_at hl 0 rfl) ?_
          refine lv_aload_n hx hb d_Reader_open_169 rfl (lv_at hl 0 rfl) ?_
          refine va_get (v := .int (nI pp)) hx hb htb i_CertificateReader hown hK hP 0 rfl rfl 2 (by decide) (htb _ q3_62) (fun _ h9 => h9) rfl d_Reader_open_170 ?_
          refine va_put (v := .int (nI pp)) (ty := .int) hx hb htb i_CertificateReader t_CertificateReader t_CertificateReader_ok n_CertificateReader hown hK hP hD hS 0 rfl rfl 4 (by decide) (htb _ q3_68) (fun _ h9 => h9) rfl (by decide +kernel) rfl rfl (Nat.le_of_ble_eq_true rfl) d_Reader_open_173 (fun H173 locs hP hD hS => ?_)
          have hP : va_P (dC, dI) classes [(h, .inr (4, [.ref res, .ref t, .int (nI pp), .int (nI pp), .int (nI pp), .int pa, .int ma, .int ex, .ref ki])), (t, .inl (cB, n, .inl (tx u)))] H173 := hP
          have hD : va_D A [(h, .inr (4, [.ref res, .ref t, .int (nI pp), .int (nI pp), .int (nI pp), .int pa, .int ma, .int ex, .ref ki])), (t, .inl (cB, n, .inl (tx u)))] := hD
          refine lv_aload_n hx hb d_Reader_open_176 rfl (lv_at hl 0 rfl) ?_
          refine va_get (v := .int (nI pp)) hx hb htb i_CertificateReader hown hK hP 0 rfl rfl 2 (by decide) (htb _ q3_62) (fun _ h9 => h9) rfl d_Reader_open_177 ?_
          exact W.iret (v := nI pp) hx hb hr (fun t ht hW => ⟨⟨_, (pp, pp, some pp), rfl, ⟨by rw [opn_3 hwn (by omega) (fun k m hq z => c146 (by rw [hr142, z.1]))], by rw [opn_3 hwn (by omega) (fun k m hq z => c146 (by rw [hr142, z.1]))]⟩, by rw [ht]; exact hP, va_K.moved hW.alike hK, hD⟩, hS.F ht⟩) hS.2.2 d_Reader_open_180
        · refine lv_iload_n hx hb d_Reader_open_149 rfl (lv_at hl 3 rfl) ?_
          refine lv_iload hx hb d_Reader_open_150 (lv_at hl 5 rfl) ?_
          refine lv_icmp_lt (tgt := 168) hx hb d_Reader_open_152 (by decide) (fun c152 => ?_) (fun c152 => ?_)
          · refine lv_aload_n hx hb d_Reader_open_168 rfl (lv_at hl 0 rfl) ?_
            refine lv_aload_n hx hb d_Reader_open_169 rfl (lv_at hl 0 rfl) ?_
            refine va_get (v := .int (nI pp)) hx hb htb i_CertificateReader hown hK hP 0 rfl rfl 2 (by decide) (htb _ q3_62) (fun _ h9 => h9) rfl d_Reader_open_170 ?_
            refine va_put (v := .int (nI pp)) (ty := .int) hx hb htb i_CertificateReader t_CertificateReader t_CertificateReader_ok n_CertificateReader hown hK hP hD hS 0 rfl rfl 4 (by decide) (htb _ q3_68) (fun _ h9 => h9) rfl (by decide +kernel) rfl rfl (Nat.le_of_ble_eq_true rfl) d_Reader_open_173 (fun H173 locs hP hD hS => ?_)
            have hP : va_P (dC, dI) classes [(h, .inr (4, [.ref res, .ref t, .int (nI pp), .int (nI pp), .int (nI pp), .int pa, .int ma, .int ex, .ref ki])), (t, .inl (cB, n, .inl (tx u)))] H173 := hP
            have hD : va_D A [(h, .inr (4, [.ref res, .ref t, .int (nI pp), .int (nI pp), .int (nI pp), .int pa, .int ma, .int ex, .ref ki])), (t, .inl (cB, n, .inl (tx u)))] := hD
            refine lv_aload_n hx hb d_Reader_open_176 rfl (lv_at hl 0 rfl) ?_
            refine va_get (v := .int (nI pp)) hx hb htb i_CertificateReader hown hK hP 0 rfl rfl 2 (by decide) (htb _ q3_62) (fun _ h9 => h9) rfl d_Reader_open_177 ?_
            exact W.iret (v := nI pp) hx hb hr (fun t ht hW => ⟨⟨_, (pp, pp, some pp), rfl, ⟨by rw [opn_3 hwn (by omega) (fun k m hq => absurd (hq.symm.trans (hxJ_b hJ c152)) (by simp))], by rw [opn_3 hwn (by omega) (fun k m hq => absurd (hq.symm.trans (hxJ_b hJ c152)) (by simp))]⟩, by rw [ht]; exact hP, va_K.moved hW.alike hK, hD⟩, hS.F ht⟩) hS.2.2 d_Reader_open_180
          · refine lv_aload_n hx hb d_Reader_open_155 rfl (lv_at hl 0 rfl) ?_
            refine va_get (v := .int (nI pp)) hx hb htb i_CertificateReader hown hK hP 0 rfl rfl 2 (by decide) (htb _ q3_62) (fun _ h9 => h9) rfl d_Reader_open_156 ?_
            refine lv_iload hx hb d_Reader_open_159 (lv_at hl 4 rfl) ?_
            refine lv_iadd hx hb d_Reader_open_161 ?_
            refine lv_iload_n hx hb d_Reader_open_162 rfl (lv_at hl 3 rfl) ?_
            refine lv_iadd hx hb d_Reader_open_163 ?_
            refine lv_iload_n hx hb d_Reader_open_164 rfl (lv_at hl 2 rfl) ?_
            refine lv_icmp_le (tgt := 181) hx hb d_Reader_open_165 (by decide) (fun c165 => ?_) (fun c165 => ?_)
            · obtain ⟨k1, m1, hhx, e1, e2, hle⟩ := hxJ_d hJ hn hlt he c152 c165
              refine lv_aload_n hx hb d_Reader_open_181 rfl (lv_at hl 0 rfl) ?_
              refine lv_dup hx hb d_Reader_open_182 rfl ?_
              refine va_get (v := .int (nI pp)) hx hb htb i_CertificateReader hown hK hP 0 rfl rfl 2 (by decide) (htb _ q3_62) (fun _ h9 => h9) rfl d_Reader_open_183 ?_
              refine lv_iload hx hb d_Reader_open_186 (lv_at hl 4 rfl) ?_
              refine lv_iadd hx hb d_Reader_open_188 ?_
              rw [show ((nI pp) + a.2.1 : Int32) = nI (pp + k1) from by rw [e2]; exact nI_add pp k1]
              refine va_put (v := .int (nI (pp + k1))) (ty := .int) hx hb htb i_CertificateReader t_CertificateReader t_CertificateReader_ok n_CertificateReader hown hK hP hD hS 0 rfl rfl 2 (by decide) (htb _ q3_62) (fun _ h9 => h9) rfl (by decide +kernel) rfl rfl (Nat.le_of_ble_eq_true rfl) d_Reader_open_189 (fun H189 locs hP hD hS => ?_)
              have hP : va_P (dC, dI) classes [(h, .inr (4, [.ref res, .ref t, .int (nI (pp + k1)), .int (nI pp), .int (wI w), .int pa, .int ma, .int ex, .ref ki])), (t, .inl (cB, n, .inl (tx u)))] H189 := hP
              have hD : va_D A [(h, .inr (4, [.ref res, .ref t, .int (nI (pp + k1)), .int (nI pp), .int (wI w), .int pa, .int ma, .int ex, .ref ki])), (t, .inl (cB, n, .inl (tx u)))] := hD
              subst hwn
              refine lv_aload_n hx hb d_Reader_open_192 rfl (lv_at hl 0 rfl) ?_
              refine va_get (v := .int (nI (pp + k1))) hx hb htb i_CertificateReader hown hK hP 0 rfl rfl 2 (by decide) (htb _ q3_62) (fun _ h9 => h9) rfl d_Reader_open_193 ?_
              refine lv_iload_n hx hb d_Reader_open_196 rfl (lv_at hl 3 rfl) ?_
              refine lv_iadd hx hb d_Reader_open_197 ?_
              rw [show ((nI (pp + k1)) + a.1 : Int32) = nI (pp + k1 + m1) from by rw [e1]; exact nI_add (pp + k1) m1]
              exact W.iret (v := nI (pp + k1 + m1)) hx hb hr (fun t ht hW => ⟨⟨_, (pp + k1, pp, none), rfl, ⟨by rw [opn_4 rfl (by omega) hhx (by rw [hr142, nI_eq (by have := hu pp; omega) (by omega)] at c146; exact c146) hle], by rw [opn_4 rfl (by omega) hhx (by rw [hr142, nI_eq (by have := hu pp; omega) (by omega)] at c146; exact c146) hle]⟩, by rw [ht]; exact hP, va_K.moved hW.alike hK, hD⟩, hS.F ht⟩) hS.2.2 d_Reader_open_198
            · refine lv_aload_n hx hb d_Reader_open_168 rfl (lv_at hl 0 rfl) ?_
              refine lv_aload_n hx hb d_Reader_open_169 rfl (lv_at hl 0 rfl) ?_
              refine va_get (v := .int (nI pp)) hx hb htb i_CertificateReader hown hK hP 0 rfl rfl 2 (by decide) (htb _ q3_62) (fun _ h9 => h9) rfl d_Reader_open_170 ?_
              refine va_put (v := .int (nI pp)) (ty := .int) hx hb htb i_CertificateReader t_CertificateReader t_CertificateReader_ok n_CertificateReader hown hK hP hD hS 0 rfl rfl 4 (by decide) (htb _ q3_68) (fun _ h9 => h9) rfl (by decide +kernel) rfl rfl (Nat.le_of_ble_eq_true rfl) d_Reader_open_173 (fun H173 locs hP hD hS => ?_)
              have hP : va_P (dC, dI) classes [(h, .inr (4, [.ref res, .ref t, .int (nI pp), .int (nI pp), .int (nI pp), .int pa, .int ma, .int ex, .ref ki])), (t, .inl (cB, n, .inl (tx u)))] H173 := hP
              have hD : va_D A [(h, .inr (4, [.ref res, .ref t, .int (nI pp), .int (nI pp), .int (nI pp), .int pa, .int ma, .int ex, .ref ki])), (t, .inl (cB, n, .inl (tx u)))] := hD
              refine lv_aload_n hx hb d_Reader_open_176 rfl (lv_at hl 0 rfl) ?_
              refine va_get (v := .int (nI pp)) hx hb htb i_CertificateReader hown hK hP 0 rfl rfl 2 (by decide) (htb _ q3_62) (fun _ h9 => h9) rfl d_Reader_open_177 ?_
              exact W.iret (v := nI pp) hx hb hr (fun t ht hW => ⟨⟨_, (pp, pp, some pp), rfl, ⟨by rw [opn_3 hwn (by omega) (fun k m hq z => hxJ_c hJ hn hlt he c152 c165 k m hq z.2)], by rw [opn_3 hwn (by omega) (fun k m hq z => hxJ_c hJ hn hlt he c152 c165 k m hq z.2)]⟩, by rw [ht]; exact hP, va_K.moved hW.alike hK, hD⟩, hS.F ht⟩) hS.2.2 d_Reader_open_180
      · skip
        refine lv_aload_n hx hb d_Reader_open_38 rfl (lv_at hl 0 rfl) ?_
        refine lv_aload_n hx hb d_Reader_open_39 rfl (lv_at hl 0 rfl) ?_
        refine va_get (v := .int (nI pp)) hx hb htb i_CertificateReader hown hK hP 0 rfl rfl 2 (by decide) (htb _ q3_62) (fun _ h9 => h9) rfl d_Reader_open_40 ?_
        refine lv_iconst (v := 1) hx hb d_Reader_open_43 (by decide) ?_
        refine lv_iadd hx hb d_Reader_open_44 ?_
        rw [show ((nI pp) + 1 : Int32) = nI (pp + 1) from nI_add pp 1]
        refine vp_callSi (pu_callU (As := [.int (nI (pp + 1))]) (rest := []) ⟨hx, hb, hml, hown, hts⟩ (cC_octet l dC dI sb h res t ki pp pp n w pa ma ex ie cB u (nI (pp + 1)) hu hn) (cu_of (n := 1) hts tbin q3_114 q3_116 q3_115 q3_117 q1_15 q3_119 rfl (by decide +kernel) ⟨rfl, rfl⟩ ⟨Nat.le_of_ble_eq_true rfl, Nat.le_of_ble_eq_true rfl⟩) rfl ⟨Nat.le_of_ble_eq_true rfl, Nat.le_of_ble_eq_true rfl⟩ hN (hT0.keep hS hAs) hK hP [0, 1] rfl [0] rfl 0 4 rfl rfl rfl hl.1 rfl (Nat.le_of_ble_eq_true rfl) d_Reader_open_45) (fun r45 hr45 => ?_)
        rw [oc_eq (by omega)] at hr45
        refine lv_istore_n (lv' := [(3, .int r45), (0, .ref h), (1, .int (nI tg)), (2, .int (nI en))]) hx hb d_Reader_open_48 rfl hl (by decide) rfl (fun ls hl => ?_)
        refine lv_iconst (v := 2) hx hb d_Reader_open_49 (by decide) ?_
        refine lv_istore (lv' := [(4, .int 2), (3, .int r45), (0, .ref h), (1, .int (nI tg)), (2, .int (nI en))]) hx hb d_Reader_open_50 hl (by decide) rfl (fun ls hl => ?_)
        refine lv_iconst (v := 0) hx hb d_Reader_open_52 (by decide) ?_
        refine lv_istore (lv' := [(5, .int 0), (4, .int 2), (3, .int r45), (0, .ref h), (1, .int (nI tg)), (2, .int (nI en))]) hx hb d_Reader_open_53 hl (by decide) rfl (fun ls hl => ?_)
        refine lv_iload_n hx hb d_Reader_open_55 rfl (lv_at hl 2 rfl) ?_
        refine lv_sipush (v := 129) hx hb d_Reader_open_56 (by decide) ?_
        refine lv_icmp_ne (tgt := 84) hx hb d_Reader_open_59 (by decide) (fun c59 => ?_) (fun c59 => ?_)
        · refine lv_iload_n hx hb d_Reader_open_84 rfl (lv_at hl 2 rfl) ?_
          refine lv_sipush (v := 130) hx hb d_Reader_open_85 (by decide) ?_
          refine lv_icmp_ne (tgt := 128) hx hb d_Reader_open_88 (by decide) (fun c88 => ?_) (fun c88 => ?_)
          · refine lv_iload_n hx hb d_Reader_open_128 rfl (lv_at hl 2 rfl) ?_
            refine lv_sipush (v := 128) hx hb d_Reader_open_129 (by decide) ?_
            refine lv_icmp_lt (tgt := 137) hx hb d_Reader_open_132 (by decide) (fun c132 => ?_) (fun c132 => ?_)
            · exact k137 (r45, 2, 0) ls (by rw [hr45]; exact hxJ_D hu (by rw [← hr45]; exact c59) (by rw [← hr45]; exact c88) (by rw [← hr45]; exact c132)) (lv_sub hl [3, 4, 5, 2, 1, 0] rfl)
            · refine lv_iconst (v := -1) hx hb d_Reader_open_135 (by decide) ?_
              refine lv_istore_n (lv' := [(3, .int (-1)), (5, .int 0), (4, .int 2), (0, .ref h), (1, .int (nI tg)), (2, .int (nI en))]) hx hb d_Reader_open_136 rfl hl (by decide) rfl (fun ls hl => ?_)
              exact k137 (-1, 2, 0) ls (hxJ_C hu (by rw [← hr45]; exact c59) (by rw [← hr45]; exact c88) (by rw [← hr45]; exact c132)) (lv_sub hl [3, 4, 5, 0, 2, 1] rfl)
          · refine lv_aload_n hx hb d_Reader_open_91 rfl (lv_at hl 3 rfl) ?_
            refine lv_aload_n hx hb d_Reader_open_92 rfl (lv_at hl 3 rfl) ?_
            refine va_get (v := .int (nI pp)) hx hb htb i_CertificateReader hown hK hP 0 rfl rfl 2 (by decide) (htb _ q3_62) (fun _ h9 => h9) rfl d_Reader_open_93 ?_
            refine lv_iconst (v := 2) hx hb d_Reader_open_96 (by decide) ?_
            refine lv_iadd hx hb d_Reader_open_97 ?_
            rw [show ((nI pp) + 2 : Int32) = nI (pp + 2) from nI_add pp 2]
            refine vp_callSi (pu_callU (As := [.int (nI (pp + 2))]) (rest := []) ⟨hx, hb, hml, hown, hts⟩ (cC_octet l dC dI sb h res t ki pp pp n w pa ma ex ie cB u (nI (pp + 2)) hu hn) (cu_of (n := 1) hts tbin q3_114 q3_116 q3_115 q3_117 q1_15 q3_119 rfl (by decide +kernel) ⟨rfl, rfl⟩ ⟨Nat.le_of_ble_eq_true rfl, Nat.le_of_ble_eq_true rfl⟩) rfl ⟨Nat.le_of_ble_eq_true rfl, Nat.le_of_ble_eq_true rfl⟩ hN (hT0.keep hS hAs) hK hP [0, 1] rfl [0] rfl 0 4 rfl rfl rfl hl.1 rfl (Nat.le_of_ble_eq_true rfl) d_Reader_open_98) (fun r98 hr98 => ?_)
            rw [oc_eq (by omega)] at hr98
            refine lv_sipush (v := 256) hx hb d_Reader_open_101 (by decide) ?_
            refine lv_imul hx hb d_Reader_open_104 ?_
            refine lv_aload_n hx hb d_Reader_open_105 rfl (lv_at hl 3 rfl) ?_
            refine lv_aload_n hx hb d_Reader_open_106 rfl (lv_at hl 3 rfl) ?_
            refine va_get (v := .int (nI pp)) hx hb htb i_CertificateReader hown hK hP 0 rfl rfl 2 (by decide) (htb _ q3_62) (fun _ h9 => h9) rfl d_Reader_open_107 ?_
            refine lv_iconst (v := 3) hx hb d_Reader_open_110 (by decide) ?_
            refine lv_iadd hx hb d_Reader_open_111 ?_
            rw [show ((nI pp) + 3 : Int32) = nI (pp + 3) from nI_add pp 3]
            refine vp_callSi (pu_callU (As := [.int (nI (pp + 3))]) (rest := [.int (r98 * 256)]) ⟨hx, hb, hml, hown, hts⟩ (cC_octet l dC dI sb h res t ki pp pp n w pa ma ex ie cB u (nI (pp + 3)) hu hn) (cu_of (n := 1) hts tbin q3_114 q3_116 q3_115 q3_117 q1_15 q3_119 rfl (by decide +kernel) ⟨rfl, rfl⟩ ⟨Nat.le_of_ble_eq_true rfl, Nat.le_of_ble_eq_true rfl⟩) rfl ⟨Nat.le_of_ble_eq_true rfl, Nat.le_of_ble_eq_true rfl⟩ hN (hT0.keep hS hAs) hK hP [0, 1] rfl [0] rfl 0 4 rfl rfl rfl hl.1 rfl (Nat.le_of_ble_eq_true rfl) d_Reader_open_112) (fun r112 hr112 => ?_)
            rw [oc_eq (by omega)] at hr112
            refine lv_iadd hx hb d_Reader_open_115 ?_
            refine lv_istore_n (lv' := [(3, .int ((r98 * 256) + r112)), (5, .int 0), (4, .int 2), (0, .ref h), (1, .int (nI tg)), (2, .int (nI en))]) hx hb d_Reader_open_116 rfl hl (by decide) rfl (fun ls hl => ?_)
            refine lv_iconst (v := 4) hx hb d_Reader_open_117 (by decide) ?_
            refine lv_istore (lv' := [(4, .int 4), (3, .int ((r98 * 256) + r112)), (5, .int 0), (0, .ref h), (1, .int (nI tg)), (2, .int (nI en))]) hx hb d_Reader_open_118 hl (by decide) rfl (fun ls hl => ?_)
            refine lv_sipush (v := 256) hx hb d_Reader_open_120 (by decide) ?_
            refine lv_istore (lv' := [(5, .int 256), (4, .int 4), (3, .int ((r98 * 256) + r112)), (0, .ref h), (1, .int (nI tg)), (2, .int (nI en))]) hx hb d_Reader_open_123 hl (by decide) rfl (fun ls hl => ?_)
            refine lv_goto (tgt := 137) hx hb d_Reader_open_125 (by decide) ?_
            exact k137 ((r98 * 256) + r112, 4, 256) ls (by rw [hr98, hr112]; exact hxJ_B hu (by rw [← hr45]; exact c88)) (lv_sub hl [3, 4, 5, 2, 1, 0] rfl)
        · refine lv_aload_n hx hb d_Reader_open_62 rfl (lv_at hl 3 rfl) ?_
          refine lv_aload_n hx hb d_Reader_open_63 rfl (lv_at hl 3 rfl) ?_
          refine va_get (v := .int (nI pp)) hx hb htb i_CertificateReader hown hK hP 0 rfl rfl 2 (by decide) (htb _ q3_62) (fun _ h9 => h9) rfl d_Reader_open_64 ?_
          refine lv_iconst (v := 2) hx hb d_Reader_open_67 (by decide) ?_
          refine lv_iadd hx hb d_Reader_open_68 ?_
          rw [show ((nI pp) + 2 : Int32) = nI (pp + 2) from nI_add pp 2]
          refine vp_callSi (pu_callU (As := [.int (nI (pp + 2))]) (rest := []) ⟨hx, hb, hml, hown, hts⟩ (cC_octet l dC dI sb h res t ki pp pp n w pa ma ex ie cB u (nI (pp + 2)) hu hn) (cu_of (n := 1) hts tbin q3_114 q3_116 q3_115 q3_117 q1_15 q3_119 rfl (by decide +kernel) ⟨rfl, rfl⟩ ⟨Nat.le_of_ble_eq_true rfl, Nat.le_of_ble_eq_true rfl⟩) rfl ⟨Nat.le_of_ble_eq_true rfl, Nat.le_of_ble_eq_true rfl⟩ hN (hT0.keep hS hAs) hK hP [0, 1] rfl [0] rfl 0 4 rfl rfl rfl hl.1 rfl (Nat.le_of_ble_eq_true rfl) d_Reader_open_69) (fun r69 hr69 => ?_)
          rw [oc_eq (by omega)] at hr69
          refine lv_istore_n (lv' := [(3, .int r69), (5, .int 0), (4, .int 2), (0, .ref h), (1, .int (nI tg)), (2, .int (nI en))]) hx hb d_Reader_open_72 rfl hl (by decide) rfl (fun ls hl => ?_)
          refine lv_iconst (v := 3) hx hb d_Reader_open_73 (by decide) ?_
          refine lv_istore (lv' := [(4, .int 3), (3, .int r69), (5, .int 0), (0, .ref h), (1, .int (nI tg)), (2, .int (nI en))]) hx hb d_Reader_open_74 hl (by decide) rfl (fun ls hl => ?_)
          refine lv_sipush (v := 128) hx hb d_Reader_open_76 (by decide) ?_
          refine lv_istore (lv' := [(5, .int 128), (4, .int 3), (3, .int r69), (0, .ref h), (1, .int (nI tg)), (2, .int (nI en))]) hx hb d_Reader_open_79 hl (by decide) rfl (fun ls hl => ?_)
          refine lv_goto (tgt := 137) hx hb d_Reader_open_81 (by decide) ?_
          exact k137 (r69, 3, 128) ls (by rw [hr69]; exact hxJ_A hu (by rw [← hr45]; exact c59)) (lv_sub hl [3, 4, 5, 2, 1, 0] rfl)
    · have hge : en ≤ pp := by rw [nI_ltI (by omega) (by omega)] at c25; omega
      refine lv_aload_n hx hb d_Reader_open_28 rfl (lv_at hl 0 rfl) ?_
      refine lv_iload_n hx hb d_Reader_open_29 rfl (lv_at hl 2 rfl) ?_
      refine va_put (v := .int (nI en)) (ty := .int) hx hb htb i_CertificateReader t_CertificateReader t_CertificateReader_ok n_CertificateReader hown hK hP hD hS 0 rfl rfl 4 (by decide) (htb _ q3_68) (fun _ h9 => h9) rfl (by decide +kernel) rfl rfl (Nat.le_of_ble_eq_true rfl) d_Reader_open_30 (fun H30 locs hP hD hS => ?_)
      have hP : va_P (dC, dI) classes [(h, .inr (4, [.ref res, .ref t, .int (nI pp), .int (nI pp), .int (nI en), .int pa, .int ma, .int ex, .ref ki])), (t, .inl (cB, n, .inl (tx u)))] H30 := hP
      have hD : va_D A [(h, .inr (4, [.ref res, .ref t, .int (nI pp), .int (nI pp), .int (nI en), .int pa, .int ma, .int ex, .ref ki])), (t, .inl (cB, n, .inl (tx u)))] := hD
      refine lv_aload_n hx hb d_Reader_open_33 rfl (lv_at hl 0 rfl) ?_
      refine va_get (v := .int (nI pp)) hx hb htb i_CertificateReader hown hK hP 0 rfl rfl 2 (by decide) (htb _ q3_62) (fun _ h9 => h9) rfl d_Reader_open_34 ?_
      exact W.iret (v := nI pp) hx hb hr (fun t ht hW => ⟨⟨_, (pp, pp, some en), rfl, ⟨by rw [opn_2 hwn hge], by rw [opn_2 hwn hge]⟩, by rw [ht]; exact hP, va_K.moved hW.alike hK, hD⟩, hS.F ht⟩) hS.2.2 d_Reader_open_37
  · refine lv_aload_n hx hb d_Reader_open_15 rfl (lv_at hl 0 rfl) ?_
    refine va_get (v := .int (nI pp)) hx hb htb i_CertificateReader hown hK hP 0 rfl rfl 2 (by decide) (htb _ q3_62) (fun _ h9 => h9) rfl d_Reader_open_16 ?_
    exact W.iret (v := nI pp) hx hb hr (fun t ht hW => ⟨⟨_, (pp, pp, w), rfl, ⟨by rw [opn_1 (wI_s' c12)], by rw [opn_1 (wI_s' c12)]⟩, by rw [ht]; exact hP, va_K.moved hW.alike hK, hD⟩, hS.F ht⟩) hS.2.2 d_Reader_open_19
set_option maxHeartbeats 4000000 in
set_option maxRecDepth 100000 in
theorem cL_open (l : Launch) (dC : Nat → ClassId) (dI : Nat → Nat → Nat) (sb : sB) (h res t ki : Nat) (pp s0 n : Nat) (w : Option Nat) (pa ma ex ie : Int32) (cB : ClassId) (u : Nat → Nat) (tg en : Nat) (sz : Nat) (hu : ∀ j, u j < 256) (hn : n < 2 ^ 30) (hw : ∀ k, w = some k → k < 2 ^ 31) (he : en ≤ n) (hp : pp ≤ n) (hg : tg < 256) : Met l y_Reader_open w_Reader_open ({ frames := 1, cells := 0, slots := 0, locals := 21 }) (mu_P [.ref h, .int (nI tg), .int (nI en)] (dC, dI) sb [(h, .inr (5, [.ref res, .int ie, .ref t, .int (nI pp), .int (nI s0), .int (wI w), .int pa, .int ma, .int ex, .ref ki])), (t, .inl (cB, n, .inl (tx u)))] [(cB, .byte)] sz) (va_Qi (fun r (u' : rS) => u' = (rd_opn u n (pp, s0, w) tg en).1 ∧ r = nI (rd_opn u n (pp, s0, w) tg en).2) (mu_B (dC, dI) [(cB, .byte)] (va_A [(h, .inr (5, [.ref res, .int ie, .ref t, .int (nI pp), .int (nI s0), .int (wI w), .int pa, .int ma, .int ex, .ref ki])), (t, .inl (cB, n, .inl (tx u)))] sz) (fun u' : rS => [(h, .inr (5, [.ref res, .int ie, .ref t, .int (nI u'.1), .int (nI u'.2.1), .int (wI u'.2.2), .int pa, .int ma, .int ex, .ref ki])), (t, .inl (cB, n, .inl (tx u)))])) (va_A [(h, .inr (5, [.ref res, .int ie, .ref t, .int (nI pp), .int (nI s0), .int (wI w), .int pa, .int ma, .int ex, .ref ki])), (t, .inl (cB, n, .inl (tx u)))] sz)) 0 0 (va_A [(h, .inr (5, [.ref res, .int ie, .ref t, .int (nI pp), .int (nI s0), .int (wI w), .int pa, .int ma, .int ex, .ref ki])), (t, .inl (cB, n, .inl (tx u)))] sz) := by
  refine Met.ofW (cc := b_Reader_open) (maxL := 6) (ret := (some FieldType.int)) (by decide) rfl ?_
  intro p e s m args below meth c s₁ B hml hv
  obtain ⟨rfl, hsz, hB0, hP, hK, hD0, hN, hT0⟩ := hv
  have hx := B.exec
  have hb := B.bytes
  have hr := B.returns
  have hts := atoms_spec (ws := w_Reader_open) B.pre
  have tbin : ∀ w ∈ tb, w ∈ w_Reader_open := fun w h => List.mem_cons_of_mem _ h
  have htb : ∀ w ∈ tb, w.before _ s = true := fun w h => hts w (tbin w h)
  have hown : s.vm.findClass "TrustChain$Reader" = some m.cls := findClass_of_methodNamed B.named
  have hlocks := B.notSynchronized
  subst hsz
  have hD := hD0.self (sz := s.heap.size)
  generalize hAe : va_A [(h, .inr (5, [.ref res, .int ie, .ref t, .int (nI pp), .int (nI s0), .int (wI w), .int pa, .int ma, .int ex, .ref ki])), (t, .inl (cB, n, .inl (tx u)))] s.heap.size = A at hD ⊢
  have hA : ∀ q : Nat, s.heap.size ≤ q → A q := fun q h => by rw [← hAe]; exact Or.inr h
  have hAs : ∀ q : Nat, A q → sb.1 ≤ q := fun q h => by
    rw [← hAe] at h
    rcases h with ⟨k, e, h⟩ | h
    · exact hD0.2 k _ h
    · exact Nat.le_trans hB0 h
  have hS : va_S A s.heap s.heap [] := va_S.rf
  have hcs : 0 ≤ (headSpec w_Reader_open ({ frames := 1, cells := 0, slots := 0, locals := 21 })).room.cells ∧ 0 ≤ (headSpec w_Reader_open ({ frames := 1, cells := 0, slots := 0, locals := 21 })).room.slots := ⟨Nat.le_refl _, Nat.le_refl _⟩
  have hP : va_P (dC, dI) classes [(h, .inr (5, [.ref res, .int ie, .ref t, .int (nI pp), .int (nI s0), .int (wI w), .int pa, .int ma, .int ex, .ref ki])), (t, .inl (cB, n, .inl (tx u)))] s.heap := hP
  have hl := lv_entry ([.ref h, .int (nI tg), .int (nI en)]) (n := 6) (Nat.le_of_ble_eq_true rfl)
  rw [lg_entry_eq]
  generalize (lg_sl ([.ref h, .int (nI tg), .int (nI en)]) ++ List.replicate (6 - (lg_sl ([.ref h, .int (nI tg), .int (nI en)])).length) Slot.unset).toArray = ls at hl ⊢
  have hl : lv_has ls 6 [(0, .ref h), (1, .int (nI tg)), (2, .int (nI en))] := hl
  refine lv_aload_n hx hb d_Reader_open_0 rfl (lv_at hl 0 rfl) ?_
  refine lv_aload_n hx hb d_Reader_open_1 rfl (lv_at hl 0 rfl) ?_
  refine va_get (v := .int (nI pp)) hx hb htb i_ListReader hown hK hP 0 rfl rfl 3 (by decide) (htb _ q3_62) (fun _ h9 => h9) rfl d_Reader_open_2 ?_
  refine va_put (v := .int (nI pp)) (ty := .int) hx hb htb i_ListReader t_ListReader t_ListReader_ok n_ListReader hown hK hP hD hS 0 rfl rfl 4 (by decide) (htb _ q3_67) (fun _ h9 => h9) rfl (by decide +kernel) rfl rfl (Nat.le_of_ble_eq_true rfl) d_Reader_open_5 (fun H5 locs hP hD hS => ?_)
  have hP : va_P (dC, dI) classes [(h, .inr (5, [.ref res, .int ie, .ref t, .int (nI pp), .int (nI pp), .int (wI w), .int pa, .int ma, .int ex, .ref ki])), (t, .inl (cB, n, .inl (tx u)))] H5 := hP
  have hD : va_D A [(h, .inr (5, [.ref res, .int ie, .ref t, .int (nI pp), .int (nI pp), .int (wI w), .int pa, .int ma, .int ex, .ref ki])), (t, .inl (cB, n, .inl (tx u)))] := hD
  refine lv_aload_n hx hb d_Reader_open_8 rfl (lv_at hl 0 rfl) ?_
  refine va_get (v := .int (wI w)) hx hb htb i_ListReader hown hK hP 0 rfl rfl 5 (by decide) (htb _ q3_68) (fun _ h9 => h9) rfl d_Reader_open_9 ?_
  refine lv_if_lt (tgt := 20) hx hb d_Reader_open_12 (by decide) (fun c12 => ?_) (fun c12 => ?_)
  · have hwn := wI_n' hw c12
    refine lv_aload_n hx hb d_Reader_open_20 rfl (lv_at hl 0 rfl) ?_
    refine va_get (v := .int (nI pp)) hx hb htb i_ListReader hown hK hP 0 rfl rfl 3 (by decide) (htb _ q3_62) (fun _ h9 => h9) rfl d_Reader_open_21 ?_
    refine lv_iload_n hx hb d_Reader_open_24 rfl (lv_at hl 2 rfl) ?_
    refine lv_icmp_lt (tgt := 38) hx hb d_Reader_open_25 (by decide) (fun c25 => ?_) (fun c25 => ?_)
    · have hlt : pp < en := by rw [nI_ltI (by omega) (by omega)] at c25; exact c25
      refine w_joinA (α := Int32 × Int32 × Int32) (fun a => hxJ u n pp a) (fun a => [(0, .ref h), (1, .int (nI tg)), (2, .int (nI en)), (3, .int a.1), (4, .int a.2.1), (5, .int a.2.2)]) (fun _ => []) 6 137 (fun a ls hJ hl => ?_) (fun k137 => ?_)
      · skip
        refine lv_aload_n hx hb d_Reader_open_137 rfl (lv_at hl 0 rfl) ?_
        refine lv_aload_n hx hb d_Reader_open_138 rfl (lv_at hl 0 rfl) ?_
        refine va_get (v := .int (nI pp)) hx hb htb i_ListReader hown hK hP 0 rfl rfl 3 (by decide) (htb _ q3_62) (fun _ h9 => h9) rfl d_Reader_open_139 ?_
        refine vp_callSi (pu_callU (As := [.int (nI pp)]) (rest := []) ⟨hx, hb, hml, hown, hts⟩ (cL_octet l dC dI sb h res t ki pp pp n w pa ma ex ie cB u (nI pp) hu hn) (cu_of (n := 1) hts tbin q3_114 q3_116 q3_115 q3_118 q1_15 q3_119 rfl (by decide +kernel) ⟨rfl, rfl⟩ ⟨Nat.le_of_ble_eq_true rfl, Nat.le_of_ble_eq_true rfl⟩) rfl ⟨Nat.le_of_ble_eq_true rfl, Nat.le_of_ble_eq_true rfl⟩ hN (hT0.keep hS hAs) hK hP [0, 1] rfl [0] rfl 0 5 rfl rfl rfl hl.1 rfl (Nat.le_of_ble_eq_true rfl) d_Reader_open_142) (fun r142 hr142 => ?_)
        rw [oc_eq (by omega), oc, if_pos (by omega)] at hr142
        refine lv_iload_n hx hb d_Reader_open_145 rfl (lv_at hl 1 rfl) ?_
        refine lv_icmp_ne (tgt := 168) hx hb d_Reader_open_146 (by decide) (fun c146 => ?_) (fun c146 => ?_)
        · refine lv_aload_n hx hb d_Reader_open_168 rfl (lv_at hl 0 rfl) ?_
          refine lv_aload_n hx hb d_Reader_open_169 rfl (lv_at hl 0 rfl) ?_
          refine va_get (v := .int (nI pp)) hx hb htb i_ListReader hown hK hP 0 rfl rfl 3 (by decide) (htb _ q3_62) (fun _ h9 => h9) rfl d_Reader_open_170 ?_
          refine va_put (v := .int (nI pp)) (ty := .int) hx hb htb i_ListReader t_ListReader t_ListReader_ok n_ListReader hown hK hP hD hS 0 rfl rfl 5 (by decide) (htb _ q3_68) (fun _ h9 => h9) rfl (by decide +kernel) rfl rfl (Nat.le_of_ble_eq_true rfl) d_Reader_open_173 (fun H173 locs hP hD hS => ?_)
          have hP : va_P (dC, dI) classes [(h, .inr (5, [.ref res, .int ie, .ref t, .int (nI pp), .int (nI pp), .int (nI pp), .int pa, .int ma, .int ex, .ref ki])), (t, .inl (cB, n, .inl (tx u)))] H173 := hP
          have hD : va_D A [(h, .inr (5, [.ref res, .int ie, .ref t, .int (nI pp), .int (nI pp), .int (nI pp), .int pa, .int ma, .int ex, .ref ki])), (t, .inl (cB, n, .inl (tx u)))] := hD
          refine lv_aload_n hx hb d_Reader_open_176 rfl (lv_at hl 0 rfl) ?_
          refine va_get (v := .int (nI pp)) hx hb htb i_ListReader hown hK hP 0 rfl rfl 3 (by decide) (htb _ q3_62) (fun _ h9 => h9) rfl d_Reader_open_177 ?_
          exact W.iret (v := nI pp) hx hb hr (fun t ht hW => ⟨⟨_, (pp, pp, some pp), rfl, ⟨by rw [opn_3 hwn (by omega) (fun k m hq z => c146 (by rw [hr142, z.1]))], by rw [opn_3 hwn (by omega) (fun k m hq z => c146 (by rw [hr142, z.1]))]⟩, by rw [ht]; exact hP, va_K.moved hW.alike hK, hD⟩, hS.F ht⟩) hS.2.2 d_Reader_open_180
        · refine lv_iload_n hx hb d_Reader_open_149 rfl (lv_at hl 3 rfl) ?_
          refine lv_iload hx hb d_Reader_open_150 (lv_at hl 5 rfl) ?_
          refine lv_icmp_lt (tgt := 168) hx hb d_Reader_open_152 (by decide) (fun c152 => ?_) (fun c152 => ?_)
          · refine lv_aload_n hx hb d_Reader_open_168 rfl (lv_at hl 0 rfl) ?_
            refine lv_aload_n hx hb d_Reader_open_169 rfl (lv_at hl 0 rfl) ?_
            refine va_get (v := .int (nI pp)) hx hb htb i_ListReader hown hK hP 0 rfl rfl 3 (by decide) (htb _ q3_62) (fun _ h9 => h9) rfl d_Reader_open_170 ?_
            refine va_put (v := .int (nI pp)) (ty := .int) hx hb htb i_ListReader t_ListReader t_ListReader_ok n_ListReader hown hK hP hD hS 0 rfl rfl 5 (by decide) (htb _ q3_68) (fun _ h9 => h9) rfl (by decide +kernel) rfl rfl (Nat.le_of_ble_eq_true rfl) d_Reader_open_173 (fun H173 locs hP hD hS => ?_)
            have hP : va_P (dC, dI) classes [(h, .inr (5, [.ref res, .int ie, .ref t, .int (nI pp), .int (nI pp), .int (nI pp), .int pa, .int ma, .int ex, .ref ki])), (t, .inl (cB, n, .inl (tx u)))] H173 := hP
            have hD : va_D A [(h, .inr (5, [.ref res, .int ie, .ref t, .int (nI pp), .int (nI pp), .int (nI pp), .int pa, .int ma, .int ex, .ref ki])), (t, .inl (cB, n, .inl (tx u)))] := hD
            refine lv_aload_n hx hb d_Reader_open_176 rfl (lv_at hl 0 rfl) ?_
            refine va_get (v := .int (nI pp)) hx hb htb i_ListReader hown hK hP 0 rfl rfl 3 (by decide) (htb _ q3_62) (fun _ h9 => h9) rfl d_Reader_open_177 ?_
            exact W.iret (v := nI pp) hx hb hr (fun t ht hW => ⟨⟨_, (pp, pp, some pp), rfl, ⟨by rw [opn_3 hwn (by omega) (fun k m hq => absurd (hq.symm.trans (hxJ_b hJ c152)) (by simp))], by rw [opn_3 hwn (by omega) (fun k m hq => absurd (hq.symm.trans (hxJ_b hJ c152)) (by simp))]⟩, by rw [ht]; exact hP, va_K.moved hW.alike hK, hD⟩, hS.F ht⟩) hS.2.2 d_Reader_open_180
          · refine lv_aload_n hx hb d_Reader_open_155 rfl (lv_at hl 0 rfl) ?_
            refine va_get (v := .int (nI pp)) hx hb htb i_ListReader hown hK hP 0 rfl rfl 3 (by decide) (htb _ q3_62) (fun _ h9 => h9) rfl d_Reader_open_156 ?_
            refine lv_iload hx hb d_Reader_open_159 (lv_at hl 4 rfl) ?_
            refine lv_iadd hx hb d_Reader_open_161 ?_
            refine lv_iload_n hx hb d_Reader_open_162 rfl (lv_at hl 3 rfl) ?_
            refine lv_iadd hx hb d_Reader_open_163 ?_
            refine lv_iload_n hx hb d_Reader_open_164 rfl (lv_at hl 2 rfl) ?_
            refine lv_icmp_le (tgt := 181) hx hb d_Reader_open_165 (by decide) (fun c165 => ?_) (fun c165 => ?_)
            · obtain ⟨k1, m1, hhx, e1, e2, hle⟩ := hxJ_d hJ hn hlt he c152 c165
              refine lv_aload_n hx hb d_Reader_open_181 rfl (lv_at hl 0 rfl) ?_
              refine lv_dup hx hb d_Reader_open_182 rfl ?_
              refine va_get (v := .int (nI pp)) hx hb htb i_ListReader hown hK hP 0 rfl rfl 3 (by decide) (htb _ q3_62) (fun _ h9 => h9) rfl d_Reader_open_183 ?_
              refine lv_iload hx hb d_Reader_open_186 (lv_at hl 4 rfl) ?_
              refine lv_iadd hx hb d_Reader_open_188 ?_
              rw [show ((nI pp) + a.2.1 : Int32) = nI (pp + k1) from by rw [e2]; exact nI_add pp k1]
              refine va_put (v := .int (nI (pp + k1))) (ty := .int) hx hb htb i_ListReader t_ListReader t_ListReader_ok n_ListReader hown hK hP hD hS 0 rfl rfl 3 (by decide) (htb _ q3_62) (fun _ h9 => h9) rfl (by decide +kernel) rfl rfl (Nat.le_of_ble_eq_true rfl) d_Reader_open_189 (fun H189 locs hP hD hS => ?_)
              have hP : va_P (dC, dI) classes [(h, .inr (5, [.ref res, .int ie, .ref t, .int (nI (pp + k1)), .int (nI pp), .int (wI w), .int pa, .int ma, .int ex, .ref ki])), (t, .inl (cB, n, .inl (tx u)))] H189 := hP
              have hD : va_D A [(h, .inr (5, [.ref res, .int ie, .ref t, .int (nI (pp + k1)), .int (nI pp), .int (wI w), .int pa, .int ma, .int ex, .ref ki])), (t, .inl (cB, n, .inl (tx u)))] := hD
              subst hwn
              refine lv_aload_n hx hb d_Reader_open_192 rfl (lv_at hl 0 rfl) ?_
              refine va_get (v := .int (nI (pp + k1))) hx hb htb i_ListReader hown hK hP 0 rfl rfl 3 (by decide) (htb _ q3_62) (fun _ h9 => h9) rfl d_Reader_open_193 ?_
              refine lv_iload_n hx hb d_Reader_open_196 rfl (lv_at hl 3 rfl) ?_
              refine lv_iadd hx hb d_Reader_open_197 ?_
              rw [show ((nI (pp + k1)) + a.1 : Int32) = nI (pp + k1 + m1) from by rw [e1]; exact nI_add (pp + k1) m1]
              exact W.iret (v := nI (pp + k1 + m1)) hx hb hr (fun t ht hW => ⟨⟨_, (pp + k1, pp, none), rfl, ⟨by rw [opn_4 rfl (by omega) hhx (by rw [hr142, nI_eq (by have := hu pp; omega) (by omega)] at c146; exact c146) hle], by rw [opn_4 rfl (by omega) hhx (by rw [hr142, nI_eq (by have := hu pp; omega) (by omega)] at c146; exact c146) hle]⟩, by rw [ht]; exact hP, va_K.moved hW.alike hK, hD⟩, hS.F ht⟩) hS.2.2 d_Reader_open_198
            · refine lv_aload_n hx hb d_Reader_open_168 rfl (lv_at hl 0 rfl) ?_
              refine lv_aload_n hx hb d_Reader_open_169 rfl (lv_at hl 0 rfl) ?_
              refine va_get (v := .int (nI pp)) hx hb htb i_ListReader hown hK hP 0 rfl rfl 3 (by decide) (htb _ q3_62) (fun _ h9 => h9) rfl d_Reader_open_170 ?_
              refine va_put (v := .int (nI pp)) (ty := .int) hx hb htb i_ListReader t_ListReader t_ListReader_ok n_ListReader hown hK hP hD hS 0 rfl rfl 5 (by decide) (htb _ q3_68) (fun _ h9 => h9) rfl (by decide +kernel) rfl rfl (Nat.le_of_ble_eq_true rfl) d_Reader_open_173 (fun H173 locs hP hD hS => ?_)
              have hP : va_P (dC, dI) classes [(h, .inr (5, [.ref res, .int ie, .ref t, .int (nI pp), .int (nI pp), .int (nI pp), .int pa, .int ma, .int ex, .ref ki])), (t, .inl (cB, n, .inl (tx u)))] H173 := hP
              have hD : va_D A [(h, .inr (5, [.ref res, .int ie, .ref t, .int (nI pp), .int (nI pp), .int (nI pp), .int pa, .int ma, .int ex, .ref ki])), (t, .inl (cB, n, .inl (tx u)))] := hD
              refine lv_aload_n hx hb d_Reader_open_176 rfl (lv_at hl 0 rfl) ?_
              refine va_get (v := .int (nI pp)) hx hb htb i_ListReader hown hK hP 0 rfl rfl 3 (by decide) (htb _ q3_62) (fun _ h9 => h9) rfl d_Reader_open_177 ?_
              exact W.iret (v := nI pp) hx hb hr (fun t ht hW => ⟨⟨_, (pp, pp, some pp), rfl, ⟨by rw [opn_3 hwn (by omega) (fun k m hq z => hxJ_c hJ hn hlt he c152 c165 k m hq z.2)], by rw [opn_3 hwn (by omega) (fun k m hq z => hxJ_c hJ hn hlt he c152 c165 k m hq z.2)]⟩, by rw [ht]; exact hP, va_K.moved hW.alike hK, hD⟩, hS.F ht⟩) hS.2.2 d_Reader_open_180
      · skip
        refine lv_aload_n hx hb d_Reader_open_38 rfl (lv_at hl 0 rfl) ?_
        refine lv_aload_n hx hb d_Reader_open_39 rfl (lv_at hl 0 rfl) ?_
        refine va_get (v := .int (nI pp)) hx hb htb i_ListReader hown hK hP 0 rfl rfl 3 (by decide) (htb _ q3_62) (fun _ h9 => h9) rfl d_Reader_open_40 ?_
        refine lv_iconst (v := 1) hx hb d_Reader_open_43 (by decide) ?_
        refine lv_iadd hx hb d_Reader_open_44 ?_
        rw [show ((nI pp) + 1 : Int32) = nI (pp + 1) from nI_add pp 1]
        refine vp_callSi (pu_callU (As := [.int (nI (pp + 1))]) (rest := []) ⟨hx, hb, hml, hown, hts⟩ (cL_octet l dC dI sb h res t ki pp pp n w pa ma ex ie cB u (nI (pp + 1)) hu hn) (cu_of (n := 1) hts tbin q3_114 q3_116 q3_115 q3_118 q1_15 q3_119 rfl (by decide +kernel) ⟨rfl, rfl⟩ ⟨Nat.le_of_ble_eq_true rfl, Nat.le_of_ble_eq_true rfl⟩) rfl ⟨Nat.le_of_ble_eq_true rfl, Nat.le_of_ble_eq_true rfl⟩ hN (hT0.keep hS hAs) hK hP [0, 1] rfl [0] rfl 0 5 rfl rfl rfl hl.1 rfl (Nat.le_of_ble_eq_true rfl) d_Reader_open_45) (fun r45 hr45 => ?_)
        rw [oc_eq (by omega)] at hr45
        refine lv_istore_n (lv' := [(3, .int r45), (0, .ref h), (1, .int (nI tg)), (2, .int (nI en))]) hx hb d_Reader_open_48 rfl hl (by decide) rfl (fun ls hl => ?_)
        refine lv_iconst (v := 2) hx hb d_Reader_open_49 (by decide) ?_
        refine lv_istore (lv' := [(4, .int 2), (3, .int r45), (0, .ref h), (1, .int (nI tg)), (2, .int (nI en))]) hx hb d_Reader_open_50 hl (by decide) rfl (fun ls hl => ?_)
        refine lv_iconst (v := 0) hx hb d_Reader_open_52 (by decide) ?_
        refine lv_istore (lv' := [(5, .int 0), (4, .int 2), (3, .int r45), (0, .ref h), (1, .int (nI tg)), (2, .int (nI en))]) hx hb d_Reader_open_53 hl (by decide) rfl (fun ls hl => ?_)
        refine lv_iload_n hx hb d_Reader_open_55 rfl (lv_at hl 2 rfl) ?_
        refine lv_sipush (v := 129) hx hb d_Reader_open_56 (by decide) ?_
        refine lv_icmp_ne (tgt := 84) hx hb d_Reader_open_59 (by decide) (fun c59 => ?_) (fun c59 => ?_)
        · refine lv_iload_n hx hb d_Reader_open_84 rfl (lv_at hl 2 rfl) ?_
          refine lv_sipush (v := 130) hx hb d_Reader_open_85 (by decide) ?_
          refine lv_icmp_ne (tgt := 128) hx hb d_Reader_open_88 (by decide) (fun c88 => ?_) (fun c88 => ?_)
          · refine lv_iload_n hx hb d_Reader_open_128 rfl (lv_at hl 2 rfl) ?_
            refine lv_sipush (v := 128) hx hb d_Reader_open_129 (by decide) ?_
            refine lv_icmp_lt (tgt := 137) hx hb d_Reader_open_132 (by decide) (fun c132 => ?_) (fun c132 => ?_)
            · exact k137 (r45, 2, 0) ls (by rw [hr45]; exact hxJ_D hu (by rw [← hr45]; exact c59) (by rw [← hr45]; exact c88) (by rw [← hr45]; exact c132)) (lv_sub hl [3, 4, 5, 2, 1, 0] rfl)
            · refine lv_iconst (v := -1) hx hb d_Reader_open_135 (by decide) ?_
              refine lv_istore_n (lv' := [(3, .int (-1)), (5, .int 0), (4, .int 2), (0, .ref h), (1, .int (nI tg)), (2, .int (nI en))]) hx hb d_Reader_open_136 rfl hl (by decide) rfl (fun ls hl => ?_)
              exact k137 (-1, 2, 0) ls (hxJ_C hu (by rw [← hr45]; exact c59) (by rw [← hr45]; exact c88) (by rw [← hr45]; exact c132)) (lv_sub hl [3, 4, 5, 0, 2, 1] rfl)
          · refine lv_aload_n hx hb d_Reader_open_91 rfl (lv_at hl 3 rfl) ?_
            refine lv_aload_n hx hb d_Reader_open_92 rfl (lv_at hl 3 rfl) ?_
            refine va_get (v := .int (nI pp)) hx hb htb i_ListReader hown hK hP 0 rfl rfl 3 (by decide) (htb _ q3_62) (fun _ h9 => h9) rfl d_Reader_open_93 ?_
            refine lv_iconst (v := 2) hx hb d_Reader_open_96 (by decide) ?_
            refine lv_iadd hx hb d_Reader_open_97 ?_
            rw [show ((nI pp) + 2 : Int32) = nI (pp + 2) from nI_add pp 2]
            refine vp_callSi (pu_callU (As := [.int (nI (pp + 2))]) (rest := []) ⟨hx, hb, hml, hown, hts⟩ (cL_octet l dC dI sb h res t ki pp pp n w pa ma ex ie cB u (nI (pp + 2)) hu hn) (cu_of (n := 1) hts tbin q3_114 q3_116 q3_115 q3_118 q1_15 q3_119 rfl (by decide +kernel) ⟨rfl, rfl⟩ ⟨Nat.le_of_ble_eq_true rfl, Nat.le_of_ble_eq_true rfl⟩) rfl ⟨Nat.le_of_ble_eq_true rfl, Nat.le_of_ble_eq_true rfl⟩ hN (hT0.keep hS hAs) hK hP [0, 1] rfl [0] rfl 0 5 rfl rfl rfl hl.1 rfl (Nat.le_of_ble_eq_true rfl) d_Reader_open_98) (fun r98 hr98 => ?_)
            rw [oc_eq (by omega)] at hr98
            refine lv_sipush (v := 256) hx hb d_Reader_open_101 (by decide) ?_
            refine lv_imul hx hb d_Reader_open_104 ?_
            refine lv_aload_n hx hb d_Reader_open_105 rfl (lv_at hl 3 rfl) ?_
            refine lv_aload_n hx hb d_Reader_open_106 rfl (lv_at hl 3 rfl) ?_
            refine va_get (v := .int (nI pp)) hx hb htb i_ListReader hown hK hP 0 rfl rfl 3 (by decide) (htb _ q3_62) (fun _ h9 => h9) rfl d_Reader_open_107 ?_
            refine lv_iconst (v := 3) hx hb d_Reader_open_110 (by decide) ?_
            refine lv_iadd hx hb d_Reader_open_111 ?_
            rw [show ((nI pp) + 3 : Int32) = nI (pp + 3) from nI_add pp 3]
            refine vp_callSi (pu_callU (As := [.int (nI (pp + 3))]) (rest := [.int (r98 * 256)]) ⟨hx, hb, hml, hown, hts⟩ (cL_octet l dC dI sb h res t ki pp pp n w pa ma ex ie cB u (nI (pp + 3)) hu hn) (cu_of (n := 1) hts tbin q3_114 q3_116 q3_115 q3_118 q1_15 q3_119 rfl (by decide +kernel) ⟨rfl, rfl⟩ ⟨Nat.le_of_ble_eq_true rfl, Nat.le_of_ble_eq_true rfl⟩) rfl ⟨Nat.le_of_ble_eq_true rfl, Nat.le_of_ble_eq_true rfl⟩ hN (hT0.keep hS hAs) hK hP [0, 1] rfl [0] rfl 0 5 rfl rfl rfl hl.1 rfl (Nat.le_of_ble_eq_true rfl) d_Reader_open_112) (fun r112 hr112 => ?_)
            rw [oc_eq (by omega)] at hr112
            refine lv_iadd hx hb d_Reader_open_115 ?_
            refine lv_istore_n (lv' := [(3, .int ((r98 * 256) + r112)), (5, .int 0), (4, .int 2), (0, .ref h), (1, .int (nI tg)), (2, .int (nI en))]) hx hb d_Reader_open_116 rfl hl (by decide) rfl (fun ls hl => ?_)
            refine lv_iconst (v := 4) hx hb d_Reader_open_117 (by decide) ?_
            refine lv_istore (lv' := [(4, .int 4), (3, .int ((r98 * 256) + r112)), (5, .int 0), (0, .ref h), (1, .int (nI tg)), (2, .int (nI en))]) hx hb d_Reader_open_118 hl (by decide) rfl (fun ls hl => ?_)
            refine lv_sipush (v := 256) hx hb d_Reader_open_120 (by decide) ?_
            refine lv_istore (lv' := [(5, .int 256), (4, .int 4), (3, .int ((r98 * 256) + r112)), (0, .ref h), (1, .int (nI tg)), (2, .int (nI en))]) hx hb d_Reader_open_123 hl (by decide) rfl (fun ls hl => ?_)
            refine lv_goto (tgt := 137) hx hb d_Reader_open_125 (by decide) ?_
            exact k137 ((r98 * 256) + r112, 4, 256) ls (by rw [hr98, hr112]; exact hxJ_B hu (by rw [← hr45]; exact c88)) (lv_sub hl [3, 4, 5, 2, 1, 0] rfl)
        · refine lv_aload_n hx hb d_Reader_open_62 rfl (lv_at hl 3 rfl) ?_
          refine lv_aload_n hx hb d_Reader_open_63 rfl (lv_at hl 3 rfl) ?_
          refine va_get (v := .int (nI pp)) hx hb htb i_ListReader hown hK hP 0 rfl rfl 3 (by decide) (htb _ q3_62) (fun _ h9 => h9) rfl d_Reader_open_64 ?_
          refine lv_iconst (v := 2) hx hb d_Reader_open_67 (by decide) ?_
          refine lv_iadd hx hb d_Reader_open_68 ?_
          rw [show ((nI pp) + 2 : Int32) = nI (pp + 2) from nI_add pp 2]
          refine vp_callSi (pu_callU (As := [.int (nI (pp + 2))]) (rest := []) ⟨hx, hb, hml, hown, hts⟩ (cL_octet l dC dI sb h res t ki pp pp n w pa ma ex ie cB u (nI (pp + 2)) hu hn) (cu_of (n := 1) hts tbin q3_114 q3_116 q3_115 q3_118 q1_15 q3_119 rfl (by decide +kernel) ⟨rfl, rfl⟩ ⟨Nat.le_of_ble_eq_true rfl, Nat.le_of_ble_eq_true rfl⟩) rfl ⟨Nat.le_of_ble_eq_true rfl, Nat.le_of_ble_eq_true rfl⟩ hN (hT0.keep hS hAs) hK hP [0, 1] rfl [0] rfl 0 5 rfl rfl rfl hl.1 rfl (Nat.le_of_ble_eq_true rfl) d_Reader_open_69) (fun r69 hr69 => ?_)
          rw [oc_eq (by omega)] at hr69
          refine lv_istore_n (lv' := [(3, .int r69), (5, .int 0), (4, .int 2), (0, .ref h), (1, .int (nI tg)), (2, .int (nI en))]) hx hb d_Reader_open_72 rfl hl (by decide) rfl (fun ls hl => ?_)
          refine lv_iconst (v := 3) hx hb d_Reader_open_73 (by decide) ?_
          refine lv_istore (lv' := [(4, .int 3), (3, .int r69), (5, .int 0), (0, .ref h), (1, .int (nI tg)), (2, .int (nI en))]) hx hb d_Reader_open_74 hl (by decide) rfl (fun ls hl => ?_)
          refine lv_sipush (v := 128) hx hb d_Reader_open_76 (by decide) ?_
          refine lv_istore (lv' := [(5, .int 128), (4, .int 3), (3, .int r69), (0, .ref h), (1, .int (nI tg)), (2, .int (nI en))]) hx hb d_Reader_open_79 hl (by decide) rfl (fun ls hl => ?_)
          refine lv_goto (tgt := 137) hx hb d_Reader_open_81 (by decide) ?_
          exact k137 (r69, 3, 128) ls (by rw [hr69]; exact hxJ_A hu (by rw [← hr45]; exact c59)) (lv_sub hl [3, 4, 5, 2, 1, 0] rfl)
    · have hge : en ≤ pp := by rw [nI_ltI (by omega) (by omega)] at c25; omega
      refine lv_aload_n hx hb d_Reader_open_28 rfl (lv_at hl 0 rfl) ?_
      refine lv_iload_n hx hb d_Reader_open_29 rfl (lv_at hl 2 rfl) ?_
      refine va_put (v := .int (nI en)) (ty := .int) hx hb htb i_ListReader t_ListReader t_ListReader_ok n_ListReader hown hK hP hD hS 0 rfl rfl 5 (by decide) (htb _ q3_68) (fun _ h9 => h9) rfl (by decide +kernel) rfl rfl (Nat.le_of_ble_eq_true rfl) d_Reader_open_30 (fun H30 locs hP hD hS => ?_)
      have hP : va_P (dC, dI) classes [(h, .inr (5, [.ref res, .int ie, .ref t, .int (nI pp), .int (nI pp), .int (nI en), .int pa, .int ma, .int ex, .ref ki])), (t, .inl (cB, n, .inl (tx u)))] H30 := hP
      have hD : va_D A [(h, .inr (5, [.ref res, .int ie, .ref t, .int (nI pp), .int (nI pp), .int (nI en), .int pa, .int ma, .int ex, .ref ki])), (t, .inl (cB, n, .inl (tx u)))] := hD
      refine lv_aload_n hx hb d_Reader_open_33 rfl (lv_at hl 0 rfl) ?_
      refine va_get (v := .int (nI pp)) hx hb htb i_ListReader hown hK hP 0 rfl rfl 3 (by decide) (htb _ q3_62) (fun _ h9 => h9) rfl d_Reader_open_34 ?_
      exact W.iret (v := nI pp) hx hb hr (fun t ht hW => ⟨⟨_, (pp, pp, some en), rfl, ⟨by rw [opn_2 hwn hge], by rw [opn_2 hwn hge]⟩, by rw [ht]; exact hP, va_K.moved hW.alike hK, hD⟩, hS.F ht⟩) hS.2.2 d_Reader_open_37
  · refine lv_aload_n hx hb d_Reader_open_15 rfl (lv_at hl 0 rfl) ?_
    refine va_get (v := .int (nI pp)) hx hb htb i_ListReader hown hK hP 0 rfl rfl 3 (by decide) (htb _ q3_62) (fun _ h9 => h9) rfl d_Reader_open_16 ?_
    exact W.iret (v := nI pp) hx hb hr (fun t ht hW => ⟨⟨_, (pp, pp, w), rfl, ⟨by rw [opn_1 (wI_s' c12)], by rw [opn_1 (wI_s' c12)]⟩, by rw [ht]; exact hP, va_K.moved hW.alike hK, hD⟩, hS.F ht⟩) hS.2.2 d_Reader_open_19
