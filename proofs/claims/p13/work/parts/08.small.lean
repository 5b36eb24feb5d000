/-! TrustChain.Reader: small methods that change nothing. -/
def dg (u : Nat → Nat) (n k : Nat) : Int32 := (oc u n k - 48) * 10 + oc u n (k + 1) - 48
def digsN (u : Nat → Nat) (n a b : Nat) : Prop := ∀ j, a ≤ j → j < b → j < n ∧ 48 ≤ u j ∧ u j ≤ 57
theorem digsN_s {u : Nat → Nat} {n a k : Nat} (h : digsN u n a k) (h2 : k < n ∧ 48 ≤ u k ∧ u k ≤ 57) : digsN u n a (k + 1) := fun j h1 h3 => by
  rcases Nat.lt_succ_iff_lt_or_eq.mp h3 with q | q
  · exact h j h1 q
  · rw [q]; exact h2
theorem oc_dig {u : Nat → Nat} {n j : Nat} (hu : ∀ j, u j < 256) (h1 : ¬ oc u n j < 48) (h2 : oc u n j ≤ 57) : j < n ∧ 48 ≤ u j ∧ u j ≤ 57 := by
  unfold oc at h1 h2
  by_cases h : j < n
  · have hq := hu j
    rw [if_pos h, show (48 : Int32) = nI 48 from rfl, nI_ltI (by omega) (by omega)] at h1
    rw [if_pos h, show (57 : Int32) = nI 57 from rfl, nI_leI (by omega) (by omega)] at h2
    exact ⟨h, by omega, by omega⟩
  · rw [if_neg h] at h1
    exact absurd (by decide) h1
theorem oc_nod {u : Nat → Nat} {n j : Nat} (h : oc u n j < 48 ∨ ¬ oc u n j ≤ 57) : ¬ (j < n ∧ 48 ≤ u j ∧ u j ≤ 57) := fun q => by
  have e : oc u n j = nI (u j) := by rw [oc, if_pos q.1]
  rw [e, show (48 : Int32) = nI 48 from rfl, nI_ltI (by omega) (by omega), show (57 : Int32) = nI 57 from rfl, nI_leI (by omega) (by omega)] at h
  omega
/-- a leap year, as Java asks for it -/
def lpI (y : Int32) : Prop := y - y / 4 * 4 = 0 ∧ (¬ y - y / 100 * 100 = 0 ∨ y - y / 400 * 400 = 0)
/-- an OID's octets: what stands behind k of them: none if a number began with 80; else whether the next begins a number -/
def oidG (u : Nat → Nat) (a : Nat) : Nat → Option Bool
  | 0 => some true
  | k + 1 => match oidG u a k with
    | none => none
    | some f => if f = true ∧ u (a + k) = 128 then none else some (decide (u (a + k) < 128))
def bI (f : Bool) : Int32 := if f = true then 1 else 0
theorem oidG_n {u : Nat → Nat} {a k : Nat} (h : oidG u a k = none) : ∀ z, k ≤ z → oidG u a z = none := by
  intro z hz
  induction z with
  | zero => have : k = 0 := by omega
            rw [this] at h; exact h
  | succ z ih =>
    rcases Nat.lt_or_eq_of_le hz with q | q
    · simp [oidG, ih (by omega)]
    · rw [← q]; exact h
theorem oidG_s {u : Nat → Nat} {a k : Nat} {f : Bool} (h : oidG u a k = some f) (h2 : ¬ (f = true ∧ u (a + k) = 128)) : oidG u a (k + 1) = some (decide (u (a + k) < 128)) := by
  simp only [oidG, h, if_neg h2]
theorem oidG_0 {u : Nat → Nat} {a k : Nat} {f : Bool} (h : oidG u a k = some f) (h2 : f = true ∧ u (a + k) = 128) : oidG u a (k + 1) = none := by
  simp only [oidG, h, if_pos h2]
theorem bI_0 {f : Bool} (h : bI f = 0) : f = false := by cases f with | false => rfl | true => exact absurd h (by decide)
theorem bI_1 {f : Bool} (h : ¬ bI f = 0) : f = true := by cases f with | true => rfl | false => exact absurd rfl h
def oidOK (u : Nat → Nat) (a b : Nat) : Prop := a < b ∧ oidG u a (b - a) = some true
theorem oc_128 {u : Nat → Nat} {n j : Nat} (hu : ∀ j, u j < 256) (hj : j < n) : (oc u n j = 128 ↔ u j = 128) ∧ (128 ≤ oc u n j ↔ 128 ≤ u j) := by
  have hq := hu j
  rw [oc, if_pos hj, show (128 : Int32) = nI 128 from rfl, nI_eq (by omega) (by omega), nI_leI (by omega) (by omega)]
  exact ⟨Iff.rfl, Iff.rfl⟩
/-- 2.5.29.x -/
def kdN (u : Nat → Nat) (a b : Nat) : Int32 := if b - a = 3 ∧ u a = 85 ∧ u (a + 1) = 29 then nI (u (a + 2)) else -1
theorem inc_m1 (x : Int32) : x + Int32.ofInt (-1) = x + (-1) := by rw [show Int32.ofInt (-1) = -1 from by decide]
/-- UTF-8: how many octets are wanted, the least number, the number as far -/
def utL (x : Int32) : Int32 := if 224 ≤ x then (if 240 ≤ x then 3 else 2) else 1
def utM (z : Int32) : Int32 := if z = 1 then 128 else if z = 2 then 2048 else 65536
def utP (x q : Int32) : Int32 := (q <<< ((6 : Int32) &&& 31)) ||| (x &&& 63)
def utBad (z least q : Int32) : Prop := z = 0 ∧ (q < least ∨ 1114111 < q ∨ (¬ q < 55296 ∧ ¬ 57343 < q))
noncomputable def utS (x : Int32) (a : Int32 × Int32 × Int32) : Option (Int32 × Int32 × Int32) := by
  classical
  exact if a.1 ≤ 0 then (if x < 128 then some a else if x < 192 ∨ ¬ x < 248 then none else some (utL x, utM (utL x), x &&& ((63 : Int32) >>> (utL x &&& 31))))
    else if ¬ x &&& 192 = 128 ∨ utBad (a.1 + (-1)) a.2.1 (utP x a.2.2) then none else some (a.1 + (-1), a.2.1, utP x a.2.2)
noncomputable def utG (u : Nat → Nat) (a : Nat) : Nat → Option (Int32 × Int32 × Int32)
  | 0 => some (0, 0, 0)
  | k + 1 => match utG u a k with
    | none => none
    | some z => utS (nI (u (a + k))) z
def utOK (u : Nat → Nat) (a b : Nat) : Prop := ∃ z, utG u a (b - a) = some z ∧ z.1 = 0
theorem utG_s {u : Nat → Nat} {a k : Nat} {z z' : Int32 × Int32 × Int32} (h : utG u a k = some z) (h2 : utS (nI (u (a + k))) z = some z') : utG u a (k + 1) = some z' := by
  simp only [utG, h, h2]
theorem utG_n {u : Nat → Nat} {a k : Nat} {z : Int32 × Int32 × Int32} (h : utG u a k = some z) (h2 : utS (nI (u (a + k))) z = none) : ∀ y, k < y → utG u a y = none := by
  intro y hy
  induction y with
  | zero => omega
  | succ y ih =>
    rcases Nat.lt_or_eq_of_le (Nat.le_of_lt_succ hy) with q | q
    · simp only [utG, ih q]
    · subst q; simp only [utG, h, h2]
section UTS
variable {x z1 z2 z3 : Int32}
theorem utS_1 (h : ¬ z1 ≤ 0) (h1 : x &&& 192 = 128) (h2 : ¬ utBad (z1 + (-1)) z2 (utP x z3)) : utS x (z1, z2, z3) = some (z1 + (-1), z2, utP x z3) := by
  unfold utS; simp only [if_neg h]; rw [if_neg (fun q => q.elim (fun z => z h1) h2)]
theorem utS_2 (h : ¬ z1 ≤ 0) (h1 : ¬ x &&& 192 = 128 ∨ utBad (z1 + (-1)) z2 (utP x z3)) : utS x (z1, z2, z3) = none := by
  unfold utS; simp only [if_neg h]; rw [if_pos h1]
theorem utS_3 (h : z1 ≤ 0) (h1 : x < 128) : utS x (z1, z2, z3) = some (z1, z2, z3) := by
  unfold utS; simp only [if_pos h, if_pos h1]
theorem utS_4 (h : z1 ≤ 0) (h1 : ¬ x < 128) (h2 : x < 192 ∨ ¬ x < 248) : utS x (z1, z2, z3) = none := by
  unfold utS; simp only [if_pos h, if_neg h1, if_pos h2]
theorem utS_5 (h : z1 ≤ 0) (h1 : ¬ x < 128) (h2 : ¬ x < 192) (h3 : x < 248) : utS x (z1, z2, z3) = some (utL x, utM (utL x), x &&& ((63 : Int32) >>> (utL x &&& 31))) := by
  unfold utS; simp only [if_pos h, if_neg h1]; rw [if_neg (fun q => q.elim h2 (fun z => z h3))]
end UTS
theorem ut_no {u : Nat → Nat} {a b k : Nat} {z : Int32 × Int32 × Int32} (h : utG u a k = some z) (h2 : utS (nI (u (a + k))) z = none) (hk : k < b - a) : ¬ utOK u a b := fun q => by
  obtain ⟨y, h1, -⟩ := q
  rw [utG_n h h2 (b - a) hk] at h1
  cases h1

def y_Reader_digits : MethodName := ⟨"TrustChain$Reader", "digits", "(I)I"⟩
abbrev b_Reader_digits : ByteArray := prog_8_method_23_code
def w_Reader_digits : List Cond := Cond.code y_Reader_digits b_Reader_digits 2 ((some FieldType.int)) :: tb
theorem d_Reader_digits_0 : decode b_Reader_digits 0 = .ok (.aload_n 0, 1) := by decide +kernel
theorem d_Reader_digits_1 : decode b_Reader_digits 1 = .ok (.iload_n 1, 1) := by decide +kernel
theorem d_Reader_digits_2 : decode b_Reader_digits 2 = .ok (.invokevirtual 45, 3) := by decide +kernel
theorem d_Reader_digits_5 : decode b_Reader_digits 5 = .ok (.bipush 48, 2) := by decide +kernel
theorem d_Reader_digits_7 : decode b_Reader_digits 7 = .ok (.isub, 1) := by decide +kernel
theorem d_Reader_digits_8 : decode b_Reader_digits 8 = .ok (.bipush 10, 2) := by decide +kernel
theorem d_Reader_digits_10 : decode b_Reader_digits 10 = .ok (.imul, 1) := by decide +kernel
theorem d_Reader_digits_11 : decode b_Reader_digits 11 = .ok (.aload_n 0, 1) := by decide +kernel
theorem d_Reader_digits_12 : decode b_Reader_digits 12 = .ok (.iload_n 1, 1) := by decide +kernel
theorem d_Reader_digits_13 : decode b_Reader_digits 13 = .ok (.iconst 1, 1) := by decide +kernel
theorem d_Reader_digits_14 : decode b_Reader_digits 14 = .ok (.iadd, 1) := by decide +kernel
theorem d_Reader_digits_15 : decode b_Reader_digits 15 = .ok (.invokevirtual 45, 3) := by decide +kernel
theorem d_Reader_digits_18 : decode b_Reader_digits 18 = .ok (.iadd, 1) := by decide +kernel
theorem d_Reader_digits_19 : decode b_Reader_digits 19 = .ok (.bipush 48, 2) := by decide +kernel
theorem d_Reader_digits_21 : decode b_Reader_digits 21 = .ok (.isub, 1) := by decide +kernel
theorem d_Reader_digits_22 : decode b_Reader_digits 22 = .ok (.ireturn, 1) := by decide +kernel
def y_Reader_areDigits : MethodName := ⟨"TrustChain$Reader", "areDigits", "(II)Z"⟩
abbrev b_Reader_areDigits : ByteArray := prog_8_method_24_code
def w_Reader_areDigits : List Cond := Cond.code y_Reader_areDigits b_Reader_areDigits 4 ((some FieldType.boolean)) :: tb
theorem d_Reader_areDigits_0 : decode b_Reader_areDigits 0 = .ok (.iload_n 1, 1) := by decide +kernel
theorem d_Reader_areDigits_1 : decode b_Reader_areDigits 1 = .ok (.istore_n 3, 1) := by decide +kernel
theorem d_Reader_areDigits_2 : decode b_Reader_areDigits 2 = .ok (.iload_n 3, 1) := by decide +kernel
theorem d_Reader_areDigits_3 : decode b_Reader_areDigits 3 = .ok (.iload_n 2, 1) := by decide +kernel
theorem d_Reader_areDigits_4 : decode b_Reader_areDigits 4 = .ok (.if_icmp .ge 31, 3) := by decide +kernel
theorem d_Reader_areDigits_7 : decode b_Reader_areDigits 7 = .ok (.aload_n 0, 1) := by decide +kernel
theorem d_Reader_areDigits_8 : decode b_Reader_areDigits 8 = .ok (.iload_n 3, 1) := by decide +kernel
theorem d_Reader_areDigits_9 : decode b_Reader_areDigits 9 = .ok (.invokevirtual 45, 3) := by decide +kernel
theorem d_Reader_areDigits_12 : decode b_Reader_areDigits 12 = .ok (.bipush 48, 2) := by decide +kernel
theorem d_Reader_areDigits_14 : decode b_Reader_areDigits 14 = .ok (.if_icmp .lt 13, 3) := by decide +kernel
theorem d_Reader_areDigits_17 : decode b_Reader_areDigits 17 = .ok (.aload_n 0, 1) := by decide +kernel
theorem d_Reader_areDigits_18 : decode b_Reader_areDigits 18 = .ok (.iload_n 3, 1) := by decide +kernel
theorem d_Reader_areDigits_19 : decode b_Reader_areDigits 19 = .ok (.invokevirtual 45, 3) := by decide +kernel
theorem d_Reader_areDigits_22 : decode b_Reader_areDigits 22 = .ok (.bipush 57, 2) := by decide +kernel
theorem d_Reader_areDigits_24 : decode b_Reader_areDigits 24 = .ok (.if_icmp .le 5, 3) := by decide +kernel
theorem d_Reader_areDigits_27 : decode b_Reader_areDigits 27 = .ok (.iconst 0, 1) := by decide +kernel
theorem d_Reader_areDigits_28 : decode b_Reader_areDigits 28 = .ok (.ireturn, 1) := by decide +kernel
theorem d_Reader_areDigits_29 : decode b_Reader_areDigits 29 = .ok (.iinc 3 1, 3) := by decide +kernel
theorem d_Reader_areDigits_32 : decode b_Reader_areDigits 32 = .ok (.goto (-30), 3) := by decide +kernel
theorem d_Reader_areDigits_35 : decode b_Reader_areDigits 35 = .ok (.iconst 1, 1) := by decide +kernel
theorem d_Reader_areDigits_36 : decode b_Reader_areDigits 36 = .ok (.ireturn, 1) := by decide +kernel
def y_Reader_isLeap : MethodName := ⟨"TrustChain$Reader", "isLeap", "(I)Z"⟩
abbrev b_Reader_isLeap : ByteArray := prog_8_method_25_code
def w_Reader_isLeap : List Cond := Cond.code y_Reader_isLeap b_Reader_isLeap 1 ((some FieldType.boolean)) :: tb
theorem d_Reader_isLeap_0 : decode b_Reader_isLeap 0 = .ok (.iload_n 0, 1) := by decide +kernel
theorem d_Reader_isLeap_1 : decode b_Reader_isLeap 1 = .ok (.iconst 4, 1) := by decide +kernel
theorem d_Reader_isLeap_2 : decode b_Reader_isLeap 2 = .ok (.irem, 1) := by decide +kernel
theorem d_Reader_isLeap_3 : decode b_Reader_isLeap 3 = .ok (.ifCond .ne 22, 3) := by decide +kernel
theorem d_Reader_isLeap_6 : decode b_Reader_isLeap 6 = .ok (.iload_n 0, 1) := by decide +kernel
theorem d_Reader_isLeap_7 : decode b_Reader_isLeap 7 = .ok (.bipush 100, 2) := by decide +kernel
theorem d_Reader_isLeap_9 : decode b_Reader_isLeap 9 = .ok (.irem, 1) := by decide +kernel
theorem d_Reader_isLeap_10 : decode b_Reader_isLeap 10 = .ok (.ifCond .ne 11, 3) := by decide +kernel
theorem d_Reader_isLeap_13 : decode b_Reader_isLeap 13 = .ok (.iload_n 0, 1) := by decide +kernel
theorem d_Reader_isLeap_14 : decode b_Reader_isLeap 14 = .ok (.sipush 400, 3) := by decide +kernel
theorem d_Reader_isLeap_17 : decode b_Reader_isLeap 17 = .ok (.irem, 1) := by decide +kernel
theorem d_Reader_isLeap_18 : decode b_Reader_isLeap 18 = .ok (.ifCond .ne 7, 3) := by decide +kernel
theorem d_Reader_isLeap_21 : decode b_Reader_isLeap 21 = .ok (.iconst 1, 1) := by decide +kernel
theorem d_Reader_isLeap_22 : decode b_Reader_isLeap 22 = .ok (.goto 4, 3) := by decide +kernel
theorem d_Reader_isLeap_25 : decode b_Reader_isLeap 25 = .ok (.iconst 0, 1) := by decide +kernel
theorem d_Reader_isLeap_26 : decode b_Reader_isLeap 26 = .ok (.ireturn, 1) := by decide +kernel
def y_Reader_isOid : MethodName := ⟨"TrustChain$Reader", "isOid", "(II)Z"⟩
abbrev b_Reader_isOid : ByteArray := prog_8_method_28_code
def w_Reader_isOid : List Cond := Cond.code y_Reader_isOid b_Reader_isOid 5 ((some FieldType.boolean)) :: tb
theorem d_Reader_isOid_0 : decode b_Reader_isOid 0 = .ok (.iconst 1, 1) := by decide +kernel
theorem d_Reader_isOid_1 : decode b_Reader_isOid 1 = .ok (.istore_n 3, 1) := by decide +kernel
theorem d_Reader_isOid_2 : decode b_Reader_isOid 2 = .ok (.iload_n 1, 1) := by decide +kernel
theorem d_Reader_isOid_3 : decode b_Reader_isOid 3 = .ok (.istore 4, 2) := by decide +kernel
theorem d_Reader_isOid_5 : decode b_Reader_isOid 5 = .ok (.iload 4, 2) := by decide +kernel
theorem d_Reader_isOid_7 : decode b_Reader_isOid 7 = .ok (.iload_n 2, 1) := by decide +kernel
theorem d_Reader_isOid_8 : decode b_Reader_isOid 8 = .ok (.if_icmp .ge 45, 3) := by decide +kernel
theorem d_Reader_isOid_11 : decode b_Reader_isOid 11 = .ok (.iload_n 3, 1) := by decide +kernel
theorem d_Reader_isOid_12 : decode b_Reader_isOid 12 = .ok (.ifCond .eq 17, 3) := by decide +kernel
theorem d_Reader_isOid_15 : decode b_Reader_isOid 15 = .ok (.aload_n 0, 1) := by decide +kernel
theorem d_Reader_isOid_16 : decode b_Reader_isOid 16 = .ok (.iload 4, 2) := by decide +kernel
theorem d_Reader_isOid_18 : decode b_Reader_isOid 18 = .ok (.invokevirtual 45, 3) := by decide +kernel
theorem d_Reader_isOid_21 : decode b_Reader_isOid 21 = .ok (.sipush 128, 3) := by decide +kernel
theorem d_Reader_isOid_24 : decode b_Reader_isOid 24 = .ok (.if_icmp .ne 5, 3) := by decide +kernel
theorem d_Reader_isOid_27 : decode b_Reader_isOid 27 = .ok (.iconst 0, 1) := by decide +kernel
theorem d_Reader_isOid_28 : decode b_Reader_isOid 28 = .ok (.ireturn, 1) := by decide +kernel
theorem d_Reader_isOid_29 : decode b_Reader_isOid 29 = .ok (.aload_n 0, 1) := by decide +kernel
theorem d_Reader_isOid_30 : decode b_Reader_isOid 30 = .ok (.iload 4, 2) := by decide +kernel
theorem d_Reader_isOid_32 : decode b_Reader_isOid 32 = .ok (.invokevirtual 45, 3) := by decide +kernel
theorem d_Reader_isOid_35 : decode b_Reader_isOid 35 = .ok (.sipush 128, 3) := by decide +kernel
theorem d_Reader_isOid_38 : decode b_Reader_isOid 38 = .ok (.if_icmp .ge 7, 3) := by decide +kernel
theorem d_Reader_isOid_41 : decode b_Reader_isOid 41 = .ok (.iconst 1, 1) := by decide +kernel
theorem d_Reader_isOid_42 : decode b_Reader_isOid 42 = .ok (.goto 4, 3) := by decide +kernel
theorem d_Reader_isOid_45 : decode b_Reader_isOid 45 = .ok (.iconst 0, 1) := by decide +kernel
theorem d_Reader_isOid_46 : decode b_Reader_isOid 46 = .ok (.istore_n 3, 1) := by decide +kernel
theorem d_Reader_isOid_47 : decode b_Reader_isOid 47 = .ok (.iinc 4 1, 3) := by decide +kernel
theorem d_Reader_isOid_50 : decode b_Reader_isOid 50 = .ok (.goto (-45), 3) := by decide +kernel
theorem d_Reader_isOid_53 : decode b_Reader_isOid 53 = .ok (.iload_n 2, 1) := by decide +kernel
theorem d_Reader_isOid_54 : decode b_Reader_isOid 54 = .ok (.iload_n 1, 1) := by decide +kernel
theorem d_Reader_isOid_55 : decode b_Reader_isOid 55 = .ok (.if_icmp .le 11, 3) := by decide +kernel
theorem d_Reader_isOid_58 : decode b_Reader_isOid 58 = .ok (.iload_n 3, 1) := by decide +kernel
theorem d_Reader_isOid_59 : decode b_Reader_isOid 59 = .ok (.ifCond .eq 7, 3) := by decide +kernel
theorem d_Reader_isOid_62 : decode b_Reader_isOid 62 = .ok (.iconst 1, 1) := by decide +kernel
theorem d_Reader_isOid_63 : decode b_Reader_isOid 63 = .ok (.goto 4, 3) := by decide +kernel
theorem d_Reader_isOid_66 : decode b_Reader_isOid 66 = .ok (.iconst 0, 1) := by decide +kernel
theorem d_Reader_isOid_67 : decode b_Reader_isOid 67 = .ok (.ireturn, 1) := by decide +kernel
def y_Reader_kindNumber : MethodName := ⟨"TrustChain$Reader", "kindNumber", "(LTrustChain$Slice;)I"⟩
abbrev b_Reader_kindNumber : ByteArray := prog_8_method_33_code
def w_Reader_kindNumber : List Cond := Cond.code y_Reader_kindNumber b_Reader_kindNumber 1 ((some FieldType.int)) :: tb
theorem d_Reader_kindNumber_0 : decode b_Reader_kindNumber 0 = .ok (.aload_n 0, 1) := by decide +kernel
theorem d_Reader_kindNumber_1 : decode b_Reader_kindNumber 1 = .ok (.invokevirtual 69, 3) := by decide +kernel
theorem d_Reader_kindNumber_4 : decode b_Reader_kindNumber 4 = .ok (.iconst 3, 1) := by decide +kernel
theorem d_Reader_kindNumber_5 : decode b_Reader_kindNumber 5 = .ok (.if_icmp .ne 31, 3) := by decide +kernel
theorem d_Reader_kindNumber_8 : decode b_Reader_kindNumber 8 = .ok (.aload_n 0, 1) := by decide +kernel
theorem d_Reader_kindNumber_9 : decode b_Reader_kindNumber 9 = .ok (.iconst 0, 1) := by decide +kernel
theorem d_Reader_kindNumber_10 : decode b_Reader_kindNumber 10 = .ok (.invokevirtual 66, 3) := by decide +kernel
theorem d_Reader_kindNumber_13 : decode b_Reader_kindNumber 13 = .ok (.bipush 85, 2) := by decide +kernel
theorem d_Reader_kindNumber_15 : decode b_Reader_kindNumber 15 = .ok (.if_icmp .ne 21, 3) := by decide +kernel
theorem d_Reader_kindNumber_18 : decode b_Reader_kindNumber 18 = .ok (.aload_n 0, 1) := by decide +kernel
theorem d_Reader_kindNumber_19 : decode b_Reader_kindNumber 19 = .ok (.iconst 1, 1) := by decide +kernel
theorem d_Reader_kindNumber_20 : decode b_Reader_kindNumber 20 = .ok (.invokevirtual 66, 3) := by decide +kernel
theorem d_Reader_kindNumber_23 : decode b_Reader_kindNumber 23 = .ok (.bipush 29, 2) := by decide +kernel
theorem d_Reader_kindNumber_25 : decode b_Reader_kindNumber 25 = .ok (.if_icmp .ne 11, 3) := by decide +kernel
theorem d_Reader_kindNumber_28 : decode b_Reader_kindNumber 28 = .ok (.aload_n 0, 1) := by decide +kernel
theorem d_Reader_kindNumber_29 : decode b_Reader_kindNumber 29 = .ok (.iconst 2, 1) := by decide +kernel
theorem d_Reader_kindNumber_30 : decode b_Reader_kindNumber 30 = .ok (.invokevirtual 66, 3) := by decide +kernel
theorem d_Reader_kindNumber_33 : decode b_Reader_kindNumber 33 = .ok (.goto 4, 3) := by decide +kernel
theorem d_Reader_kindNumber_36 : decode b_Reader_kindNumber 36 = .ok (.iconst (-1), 1) := by decide +kernel
theorem d_Reader_kindNumber_37 : decode b_Reader_kindNumber 37 = .ok (.ireturn, 1) := by decide +kernel
set_option maxHeartbeats 4000000 in
set_option maxRecDepth 100000 in
theorem c_isLeap (l : Launch) (dC : Nat → ClassId) (dI : Nat → Nat → Nat) (sb : sB) (y : Int32) : Met l y_Reader_isLeap w_Reader_isLeap ({ frames := 0, cells := 0, slots := 0, locals := 0 }) (pu_P [.int y] (dC, dI) sb [] []) (vp_Si (fun r => bz r (lpI y))) 0 0 (fun _ => False) := by
  refine Met.ofW (cc := b_Reader_isLeap) (maxL := 1) (ret := (some FieldType.boolean)) (by decide) rfl ?_
  intro p e s m args below meth c s₁ B hml hv
  obtain ⟨rfl, hP, hK, hN, hT0⟩ := hv
  have hx := B.exec
  have hb := B.bytes
  have hr := B.returns
  have hts := atoms_spec (ws := w_Reader_isLeap) B.pre
  have tbin : ∀ w ∈ tb, w ∈ w_Reader_isLeap := fun w h => List.mem_cons_of_mem _ h
  have htb : ∀ w ∈ tb, w.before _ s = true := fun w h => hts w (tbin w h)
  have hown : s.vm.findClass "TrustChain$Reader" = some m.cls := findClass_of_methodNamed B.named
  have hlocks := B.notSynchronized
  have hcs : 0 ≤ (headSpec w_Reader_isLeap ({ frames := 0, cells := 0, slots := 0, locals := 0 })).room.cells ∧ 0 ≤ (headSpec w_Reader_isLeap ({ frames := 0, cells := 0, slots := 0, locals := 0 })).room.slots := ⟨Nat.zero_le _, Nat.zero_le _⟩
  have hP : va_P (dC, dI) classes [] s.heap := hP
  have hl := lv_entry ([.int y]) (n := 1) (Nat.le_of_ble_eq_true rfl)
  rw [lg_entry_eq]
  generalize (lg_sl ([.int y]) ++ List.replicate (1 - (lg_sl ([.int y])).length) Slot.unset).toArray = ls at hl ⊢
  have hl : lv_has ls 1 [(0, .int y)] := hl
  refine w_join (J := fun v => bz v (lpI y)) (pc := 26) (ls := ls) (rest := []) (fun v hv => ?_) (fun k26 => ?_)
  · skip
    exact W.zret (v := v) hx hb hr (bz_n hv) (fun t ht hW => ⟨_, rfl, hv, ht⟩) (fun q h => by cases h) d_Reader_isLeap_26
  · skip
    refine lv_iload_n hx hb d_Reader_isLeap_0 rfl (lv_at hl 0 rfl) ?_
    refine lv_iconst (v := 4) hx hb d_Reader_isLeap_1 (by decide) ?_
    refine lv_irem hx hb d_Reader_isLeap_2 (by decide) ?_
    refine lv_if_ne (tgt := 25) hx hb d_Reader_isLeap_3 (by decide) (fun c3 => ?_) (fun c3 => ?_)
    · refine lv_iconst (v := 0) hx hb d_Reader_isLeap_25 (by decide) ?_
      exact k26 _ (bz_f (fun q => c3 q.1))
    · refine lv_iload_n hx hb d_Reader_isLeap_6 rfl (lv_at hl 0 rfl) ?_
      refine lv_bipush (v := 100) hx hb d_Reader_isLeap_7 (by decide) ?_
      refine lv_irem hx hb d_Reader_isLeap_9 (by decide) ?_
      refine lv_if_ne (tgt := 21) hx hb d_Reader_isLeap_10 (by decide) (fun c10 => ?_) (fun c10 => ?_)
      · refine lv_iconst (v := 1) hx hb d_Reader_isLeap_21 (by decide) ?_
        refine lv_goto (tgt := 26) hx hb d_Reader_isLeap_22 (by decide) ?_
        exact k26 _ (bz_t ⟨c3, Or.inl c10⟩)
      · refine lv_iload_n hx hb d_Reader_isLeap_13 rfl (lv_at hl 0 rfl) ?_
        refine lv_sipush (v := 400) hx hb d_Reader_isLeap_14 (by decide) ?_
        refine lv_irem hx hb d_Reader_isLeap_17 (by decide) ?_
        refine lv_if_ne (tgt := 25) hx hb d_Reader_isLeap_18 (by decide) (fun c18 => ?_) (fun c18 => ?_)
        · refine lv_iconst (v := 0) hx hb d_Reader_isLeap_25 (by decide) ?_
          exact k26 _ (bz_f (fun q => q.2.elim (fun z => z c10) (fun z => c18 z)))
        · refine lv_iconst (v := 1) hx hb d_Reader_isLeap_21 (by decide) ?_
          refine lv_goto (tgt := 26) hx hb d_Reader_isLeap_22 (by decide) ?_
          exact k26 _ (bz_t ⟨c3, Or.inr c18⟩)
theorem kd_1 {u : Nat → Nat} {a b : Nat} {r : Int32} (hu : ∀ j, u j < 256) (h : a + 0 < b) (hz : a + 1 < b) (hr : r = sl_at u a b 0) (c : r = 85) : u a = 85 := by
  have e := (sl_oct (u := u) (k := 0) (by omega) h)
  rw [hr] at c
  have e2 : nI (u (a + 0)) = nI 85 := e.symm.trans c
  rw [nI_eq (by have := hu (a + 0); omega) (by omega)] at e2
  exact e2
theorem kd_2 {u : Nat → Nat} {a b : Nat} {r : Int32} (hu : ∀ j, u j < 256) (h : a + 1 < b) (hz : a + 1 < b) (hr : r = sl_at u a b 1) (c : r = 29) : u (a + 1) = 29 := by
  have e := (sl_oct (u := u) (k := 1) (by omega) h)
  rw [hr] at c
  have e2 : nI (u (a + 1)) = nI 29 := e.symm.trans c
  rw [nI_eq (by have := hu (a + 1); omega) (by omega)] at e2
  exact e2
set_option maxHeartbeats 4000000 in
set_option maxRecDepth 100000 in
theorem c_kindNumber (l : Launch) (dC : Nat → ClassId) (dI : Nat → Nat → Nat) (sb : sB) (h t a b n : Nat) (cA : ClassId) (u : Nat → Nat) (hu : ∀ j, u j < 256) (hab : a ≤ b) (hbn : b ≤ n) (hn : n < 2 ^ 31) : Met l y_Reader_kindNumber w_Reader_kindNumber ({ frames := 1, cells := 0, slots := 0, locals := 22 }) (pu_P [.ref h] (dC, dI) sb [(h, .inr (0, [.ref t, .int (nI a), .int (nI b)])), (t, .inl (cA, n, .inl (tx u)))] [(cA, .byte)]) (vp_Si (fun r => r = kdN u a b)) 0 0 (fun _ => False) := by
  refine Met.ofW (cc := b_Reader_kindNumber) (maxL := 1) (ret := (some FieldType.int)) (by decide) rfl ?_
  intro p e s m args below meth c s₁ B hml hv
  obtain ⟨rfl, hP, hK, hN, hT0⟩ := hv
  have hx := B.exec
  have hb := B.bytes
  have hr := B.returns
  have hts := atoms_spec (ws := w_Reader_kindNumber) B.pre
  have tbin : ∀ w ∈ tb, w ∈ w_Reader_kindNumber := fun w h => List.mem_cons_of_mem _ h
  have htb : ∀ w ∈ tb, w.before _ s = true := fun w h => hts w (tbin w h)
  have hown : s.vm.findClass "TrustChain$Reader" = some m.cls := findClass_of_methodNamed B.named
  have hlocks := B.notSynchronized
  have hcs : 0 ≤ (headSpec w_Reader_kindNumber ({ frames := 1, cells := 0, slots := 0, locals := 22 })).room.cells ∧ 0 ≤ (headSpec w_Reader_kindNumber ({ frames := 1, cells := 0, slots := 0, locals := 22 })).room.slots := ⟨Nat.zero_le _, Nat.zero_le _⟩
  have hP : va_P (dC, dI) classes [(h, .inr (0, [.ref t, .int (nI a), .int (nI b)])), (t, .inl (cA, n, .inl (tx u)))] s.heap := hP
  have hl := lv_entry ([.ref h]) (n := 1) (Nat.le_of_ble_eq_true rfl)
  rw [lg_entry_eq]
  generalize (lg_sl ([.ref h]) ++ List.replicate (1 - (lg_sl ([.ref h])).length) Slot.unset).toArray = ls at hl ⊢
  have hl : lv_has ls 1 [(0, .ref h)] := hl
  refine w_join (J := fun v => v = kdN u a b) (pc := 37) (ls := ls) (rest := []) (fun v hv => ?_) (fun k37 => ?_)
  · skip
    exact W.iret (v := v) hx hb hr (fun t ht hW => ⟨_, rfl, hv, ht⟩) (fun q h => by cases h) d_Reader_kindNumber_37
  · skip
    refine lv_aload_n hx hb d_Reader_kindNumber_0 rfl (lv_at hl 0 rfl) ?_
    refine vp_callSi (pu_callV (As := []) (rest := []) ⟨hx, hb, hml, hown, hts⟩ tbin (c_Slice_length l dC dI sb h t a b hab) q3_173 q3_144 q3_145 q1_22 q3_146 (n := 0) (by decide +kernel) rfl ⟨rfl, rfl⟩ ⟨Nat.le_of_ble_eq_true rfl, Nat.le_of_ble_eq_true rfl⟩ ⟨Nat.le_of_ble_eq_true rfl, Nat.le_of_ble_eq_true rfl⟩ hN hT0 hK hP [0] rfl [] rfl 0 0 rfl rfl rfl hl.1 rfl (Nat.le_of_ble_eq_true rfl) d_Reader_kindNumber_1) (fun r1 hr1 => ?_)
    refine lv_iconst (v := 3) hx hb d_Reader_kindNumber_4 (by decide) ?_
    refine lv_icmp_ne (tgt := 36) hx hb d_Reader_kindNumber_5 (by decide) (fun c5 => ?_) (fun c5 => ?_)
    · refine lv_iconst (v := -1) hx hb d_Reader_kindNumber_36 (by decide) ?_
      exact k37 _ (by rw [kdN, if_neg (fun q => c5 (by rw [hr1, q.1]; rfl))])
    · refine lv_aload_n hx hb d_Reader_kindNumber_8 rfl (lv_at hl 0 rfl) ?_
      refine lv_iconst (v := 0) hx hb d_Reader_kindNumber_9 (by decide) ?_
      refine vp_callSi (pu_callV (As := [.int 0]) (rest := []) ⟨hx, hb, hml, hown, hts⟩ tbin (c_Slice_at l dC dI sb h t a b n cA u 0 hu hab hbn hn) q3_172 q3_149 q3_150 q1_22 q3_151 (n := 1) (by decide +kernel) rfl ⟨rfl, rfl⟩ ⟨Nat.le_of_ble_eq_true rfl, Nat.le_of_ble_eq_true rfl⟩ ⟨Nat.le_of_ble_eq_true rfl, Nat.le_of_ble_eq_true rfl⟩ hN hT0 hK hP [0, 1] rfl [0] rfl 0 0 rfl rfl rfl hl.1 rfl (Nat.le_of_ble_eq_true rfl) d_Reader_kindNumber_10) (fun r10 hr10 => ?_)
      refine lv_bipush (v := 85) hx hb d_Reader_kindNumber_13 (by decide) ?_
      refine lv_icmp_ne (tgt := 36) hx hb d_Reader_kindNumber_15 (by decide) (fun c15 => ?_) (fun c15 => ?_)
      · refine lv_iconst (v := -1) hx hb d_Reader_kindNumber_36 (by decide) ?_
        exact k37 _ (by rw [kdN, if_neg (fun q => c15 (by rw [hr10]; exact (sl_oct (k := 0) (by omega) (by omega)).trans (by rw [Nat.add_zero, q.2.1]; rfl)))])
      · refine lv_aload_n hx hb d_Reader_kindNumber_18 rfl (lv_at hl 0 rfl) ?_
        refine lv_iconst (v := 1) hx hb d_Reader_kindNumber_19 (by decide) ?_
        refine vp_callSi (pu_callV (As := [.int 1]) (rest := []) ⟨hx, hb, hml, hown, hts⟩ tbin (c_Slice_at l dC dI sb h t a b n cA u 1 hu hab hbn hn) q3_172 q3_149 q3_150 q1_22 q3_151 (n := 1) (by decide +kernel) rfl ⟨rfl, rfl⟩ ⟨Nat.le_of_ble_eq_true rfl, Nat.le_of_ble_eq_true rfl⟩ ⟨Nat.le_of_ble_eq_true rfl, Nat.le_of_ble_eq_true rfl⟩ hN hT0 hK hP [0, 1] rfl [0] rfl 0 0 rfl rfl rfl hl.1 rfl (Nat.le_of_ble_eq_true rfl) d_Reader_kindNumber_20) (fun r20 hr20 => ?_)
        refine lv_bipush (v := 29) hx hb d_Reader_kindNumber_23 (by decide) ?_
        refine lv_icmp_ne (tgt := 36) hx hb d_Reader_kindNumber_25 (by decide) (fun c25 => ?_) (fun c25 => ?_)
        · refine lv_iconst (v := -1) hx hb d_Reader_kindNumber_36 (by decide) ?_
          exact k37 _ (by rw [kdN, if_neg (fun q => c25 (by rw [hr20]; exact (sl_oct (k := 1) (by omega) (by omega)).trans (by rw [q.2.2]; rfl)))])
        · refine lv_aload_n hx hb d_Reader_kindNumber_28 rfl (lv_at hl 0 rfl) ?_
          refine lv_iconst (v := 2) hx hb d_Reader_kindNumber_29 (by decide) ?_
          refine vp_callSi (pu_callV (As := [.int 2]) (rest := []) ⟨hx, hb, hml, hown, hts⟩ tbin (c_Slice_at l dC dI sb h t a b n cA u 2 hu hab hbn hn) q3_172 q3_149 q3_150 q1_22 q3_151 (n := 1) (by decide +kernel) rfl ⟨rfl, rfl⟩ ⟨Nat.le_of_ble_eq_true rfl, Nat.le_of_ble_eq_true rfl⟩ ⟨Nat.le_of_ble_eq_true rfl, Nat.le_of_ble_eq_true rfl⟩ hN hT0 hK hP [0, 1] rfl [0] rfl 0 0 rfl rfl rfl hl.1 rfl (Nat.le_of_ble_eq_true rfl) d_Reader_kindNumber_30) (fun r30 hr30 => ?_)
          refine lv_goto (tgt := 37) hx hb d_Reader_kindNumber_33 (by decide) ?_
          exact k37 _ (by have h3 : b - a = 3 := (by rw [hr1, show (3 : Int32) = nI 3 from rfl, nI_eq (by omega) (by omega)] at c5; exact c5); rw [kdN, if_pos ⟨h3, kd_1 hu (by omega) (by omega) hr10 c15, kd_2 hu (by omega) (by omega) hr20 c25⟩, hr30]; exact sl_oct (k := 2) (by omega) (by omega))
set_option maxHeartbeats 4000000 in
set_option maxRecDepth 100000 in
theorem cC_digits (l : Launch) (dC : Nat → ClassId) (dI : Nat → Nat → Nat) (sb : sB) (h res t ki : Nat) (pp s0 n : Nat) (w : Option Nat) (pa ma ex ie : Int32) (cB : ClassId) (u : Nat → Nat) (k : Nat) (hu : ∀ j, u j < 256) (hn : n < 2 ^ 30) (hk : k < 2 ^ 30 + 100) : Met l y_Reader_digits w_Reader_digits ({ frames := 1, cells := 0, slots := 0, locals := 21 }) (pu_P [.ref h, .int (nI k)] (dC, dI) sb [(h, .inr (4, [.ref res, .ref t, .int (nI pp), .int (nI s0), .int (wI w), .int pa, .int ma, .int ex, .ref ki])), (t, .inl (cB, n, .inl (tx u)))] [(cB, .byte)]) (vp_Si (fun r => r = dg u n k)) 0 0 (fun _ => False) := by
  refine Met.ofW (cc := b_Reader_digits) (maxL := 2) (ret := (some FieldType.int)) (by decide) rfl ?_
  intro p e s m args below meth c s₁ B hml hv
  obtain ⟨rfl, hP, hK, hN, hT0⟩ := hv
  have hx := B.exec
  have hb := B.bytes
  have hr := B.returns
  have hts := atoms_spec (ws := w_Reader_digits) B.pre
  have tbin : ∀ w ∈ tb, w ∈ w_Reader_digits := fun w h => List.mem_cons_of_mem _ h
  have htb : ∀ w ∈ tb, w.before _ s = true := fun w h => hts w (tbin w h)
  have hown : s.vm.findClass "TrustChain$Reader" = some m.cls := findClass_of_methodNamed B.named
  have hlocks := B.notSynchronized
  have hcs : 0 ≤ (headSpec w_Reader_digits ({ frames := 1, cells := 0, slots := 0, locals := 21 })).room.cells ∧ 0 ≤ (headSpec w_Reader_digits ({ frames := 1, cells := 0, slots := 0, locals := 21 })).room.slots := ⟨Nat.zero_le _, Nat.zero_le _⟩
  have hP : va_P (dC, dI) classes [(h, .inr (4, [.ref res, .ref t, .int (nI pp), .int (nI s0), .int (wI w), .int pa, .int ma, .int ex, .ref ki])), (t, .inl (cB, n, .inl (tx u)))] s.heap := hP
  have hl := lv_entry ([.ref h, .int (nI k)]) (n := 2) (Nat.le_of_ble_eq_true rfl)
  rw [lg_entry_eq]
  generalize (lg_sl ([.ref h, .int (nI k)]) ++ List.replicate (2 - (lg_sl ([.ref h, .int (nI k)])).length) Slot.unset).toArray = ls at hl ⊢
  have hl : lv_has ls 2 [(0, .ref h), (1, .int (nI k))] := hl
  refine lv_aload_n hx hb d_Reader_digits_0 rfl (lv_at hl 0 rfl) ?_
  refine lv_iload_n hx hb d_Reader_digits_1 rfl (lv_at hl 1 rfl) ?_
  refine vp_callSi (pu_callU (As := [.int (nI k)]) (rest := []) ⟨hx, hb, hml, hown, hts⟩ (cC_octet l dC dI sb h res t ki pp s0 n w pa ma ex ie cB u (nI k) hu hn) (cu_of (n := 1) hts tbin q3_114 q3_116 q3_115 q3_117 q1_15 q3_119 rfl (by decide +kernel) ⟨rfl, rfl⟩ ⟨Nat.le_of_ble_eq_true rfl, Nat.le_of_ble_eq_true rfl⟩) rfl ⟨Nat.le_of_ble_eq_true rfl, Nat.le_of_ble_eq_true rfl⟩ hN hT0 hK hP [0, 1] rfl [0] rfl 0 4 rfl rfl rfl hl.1 rfl (Nat.le_of_ble_eq_true rfl) d_Reader_digits_2) (fun r2 hr2 => ?_)
  refine lv_bipush (v := 48) hx hb d_Reader_digits_5 (by decide) ?_
  refine lv_isub hx hb d_Reader_digits_7 ?_
  refine lv_bipush (v := 10) hx hb d_Reader_digits_8 (by decide) ?_
  refine lv_imul hx hb d_Reader_digits_10 ?_
  refine lv_aload_n hx hb d_Reader_digits_11 rfl (lv_at hl 0 rfl) ?_
  refine lv_iload_n hx hb d_Reader_digits_12 rfl (lv_at hl 1 rfl) ?_
  refine lv_iconst (v := 1) hx hb d_Reader_digits_13 (by decide) ?_
  refine lv_iadd hx hb d_Reader_digits_14 ?_
  rw [show ((nI k) + 1 : Int32) = nI (k + 1) from nI_add k 1]
  refine vp_callSi (pu_callU (As := [.int (nI (k + 1))]) (rest := [.int ((r2 - 48) * 10)]) ⟨hx, hb, hml, hown, hts⟩ (cC_octet l dC dI sb h res t ki pp s0 n w pa ma ex ie cB u (nI (k + 1)) hu hn) (cu_of (n := 1) hts tbin q3_114 q3_116 q3_115 q3_117 q1_15 q3_119 rfl (by decide +kernel) ⟨rfl, rfl⟩ ⟨Nat.le_of_ble_eq_true rfl, Nat.le_of_ble_eq_true rfl⟩) rfl ⟨Nat.le_of_ble_eq_true rfl, Nat.le_of_ble_eq_true rfl⟩ hN hT0 hK hP [0, 1] rfl [0] rfl 0 4 rfl rfl rfl hl.1 rfl (Nat.le_of_ble_eq_true rfl) d_Reader_digits_15) (fun r15 hr15 => ?_)
  refine lv_iadd hx hb d_Reader_digits_18 ?_
  refine lv_bipush (v := 48) hx hb d_Reader_digits_19 (by decide) ?_
  refine lv_isub hx hb d_Reader_digits_21 ?_
  exact W.iret (v := (((r2 - 48) * 10) + r15) - 48) hx hb hr (fun t ht hW => ⟨_, rfl, by rw [hr2, hr15, oc_eq (by omega), oc_eq (by omega)]; rfl, ht⟩) (fun q h => by cases h) d_Reader_digits_22
set_option maxHeartbeats 4000000 in
set_option maxRecDepth 100000 in
theorem cC_areDigits (l : Launch) (dC : Nat → ClassId) (dI : Nat → Nat → Nat) (sb : sB) (h res t ki : Nat) (pp s0 n : Nat) (w : Option Nat) (pa ma ex ie : Int32) (cB : ClassId) (u : Nat → Nat) (a b : Nat) (hu : ∀ j, u j < 256) (hn : n < 2 ^ 30) (hab : a ≤ b) (hb2 : b < 2 ^ 30) : Met l y_Reader_areDigits w_Reader_areDigits ({ frames := 1, cells := 0, slots := 0, locals := 21 }) (pu_P [.ref h, .int (nI a), .int (nI b)] (dC, dI) sb [(h, .inr (4, [.ref res, .ref t, .int (nI pp), .int (nI s0), .int (wI w), .int pa, .int ma, .int ex, .ref ki])), (t, .inl (cB, n, .inl (tx u)))] [(cB, .byte)]) (vp_Si (fun r => bz r (digsN u n a b))) 0 0 (fun _ => False) := by
  refine Met.ofW (cc := b_Reader_areDigits) (maxL := 4) (ret := (some FieldType.boolean)) (by decide) rfl ?_
  intro p e s m args below meth c s₁ B hml hv
  obtain ⟨rfl, hP, hK, hN, hT0⟩ := hv
  have hx := B.exec
  have hb := B.bytes
  have hr := B.returns
  have hts := atoms_spec (ws := w_Reader_areDigits) B.pre
  have tbin : ∀ w ∈ tb, w ∈ w_Reader_areDigits := fun w h => List.mem_cons_of_mem _ h
  have htb : ∀ w ∈ tb, w.before _ s = true := fun w h => hts w (tbin w h)
  have hown : s.vm.findClass "TrustChain$Reader" = some m.cls := findClass_of_methodNamed B.named
  have hlocks := B.notSynchronized
  have hcs : 0 ≤ (headSpec w_Reader_areDigits ({ frames := 1, cells := 0, slots := 0, locals := 21 })).room.cells ∧ 0 ≤ (headSpec w_Reader_areDigits ({ frames := 1, cells := 0, slots := 0, locals := 21 })).room.slots := ⟨Nat.zero_le _, Nat.zero_le _⟩
  have hP : va_P (dC, dI) classes [(h, .inr (4, [.ref res, .ref t, .int (nI pp), .int (nI s0), .int (wI w), .int pa, .int ma, .int ex, .ref ki])), (t, .inl (cB, n, .inl (tx u)))] s.heap := hP
  have hl := lv_entry ([.ref h, .int (nI a), .int (nI b)]) (n := 4) (Nat.le_of_ble_eq_true rfl)
  rw [lg_entry_eq]
  generalize (lg_sl ([.ref h, .int (nI a), .int (nI b)]) ++ List.replicate (4 - (lg_sl ([.ref h, .int (nI a), .int (nI b)])).length) Slot.unset).toArray = ls at hl ⊢
  have hl : lv_has ls 4 [(0, .ref h), (1, .int (nI a)), (2, .int (nI b))] := hl
  refine lv_iload_n hx hb d_Reader_areDigits_0 rfl (lv_at hl 1 rfl) ?_
  refine lv_istore_n (lv' := [(3, .int (nI a)), (0, .ref h), (1, .int (nI a)), (2, .int (nI b))]) hx hb d_Reader_areDigits_1 rfl hl (by decide) rfl (fun ls hl => ?_)
  refine w_loop (α := Nat) (fun k => a ≤ k ∧ k ≤ b ∧ digsN u n a k) (fun k => b - k) (fun k => [(0, .ref h), (1, .int (nI a)), (2, .int (nI b)), (3, .int (nI k))]) (fun _ => []) 4 2 (fun k ls hJ hl ih => ?_) a ls (⟨Nat.le_refl _, hab, fun j h1 h2 => absurd h2 (by omega)⟩) (lv_sub hl [1, 2, 3, 0] rfl)
  refine lv_iload_n hx hb d_Reader_areDigits_2 rfl (lv_at hl 3 rfl) ?_
  refine lv_iload_n hx hb d_Reader_areDigits_3 rfl (lv_at hl 2 rfl) ?_
  refine lv_icmp_ge (tgt := 35) hx hb d_Reader_areDigits_4 (by decide) (fun c4 => ?_) (fun c4 => ?_)
  · have hke : k = b := by rw [nI_leI (by omega) (by omega)] at c4; omega
    refine lv_iconst (v := 1) hx hb d_Reader_areDigits_35 (by decide) ?_
    exact W.zret (v := 1) hx hb hr (by decide) (fun t ht hW => ⟨_, rfl, bz_t (hke ▸ hJ.2.2), ht⟩) (fun q h => by cases h) d_Reader_areDigits_36
  · have hlt : k < b := by rw [nI_leI (by omega) (by omega)] at c4; omega
    refine lv_aload_n hx hb d_Reader_areDigits_7 rfl (lv_at hl 0 rfl) ?_
    refine lv_iload_n hx hb d_Reader_areDigits_8 rfl (lv_at hl 3 rfl) ?_
    refine vp_callSi (pu_callU (As := [.int (nI k)]) (rest := []) ⟨hx, hb, hml, hown, hts⟩ (cC_octet l dC dI sb h res t ki pp s0 n w pa ma ex ie cB u (nI k) hu hn) (cu_of (n := 1) hts tbin q3_114 q3_116 q3_115 q3_117 q1_15 q3_119 rfl (by decide +kernel) ⟨rfl, rfl⟩ ⟨Nat.le_of_ble_eq_true rfl, Nat.le_of_ble_eq_true rfl⟩) rfl ⟨Nat.le_of_ble_eq_true rfl, Nat.le_of_ble_eq_true rfl⟩ hN hT0 hK hP [0, 1] rfl [0] rfl 0 4 rfl rfl rfl hl.1 rfl (Nat.le_of_ble_eq_true rfl) d_Reader_areDigits_9) (fun r9 hr9 => ?_)
    rw [oc_eq (by omega)] at hr9
    refine lv_bipush (v := 48) hx hb d_Reader_areDigits_12 (by decide) ?_
    refine lv_icmp_lt (tgt := 27) hx hb d_Reader_areDigits_14 (by decide) (fun c14 => ?_) (fun c14 => ?_)
    · refine lv_iconst (v := 0) hx hb d_Reader_areDigits_27 (by decide) ?_
      exact W.zret (v := 0) hx hb hr (by decide) (fun t ht hW => ⟨_, rfl, bz_f (fun q => oc_nod (Or.inl (by rw [← hr9]; exact c14)) (q k hJ.1 hlt)), ht⟩) (fun q h => by cases h) d_Reader_areDigits_28
    · refine lv_aload_n hx hb d_Reader_areDigits_17 rfl (lv_at hl 0 rfl) ?_
      refine lv_iload_n hx hb d_Reader_areDigits_18 rfl (lv_at hl 3 rfl) ?_
      refine vp_callSi (pu_callU (As := [.int (nI k)]) (rest := []) ⟨hx, hb, hml, hown, hts⟩ (cC_octet l dC dI sb h res t ki pp s0 n w pa ma ex ie cB u (nI k) hu hn) (cu_of (n := 1) hts tbin q3_114 q3_116 q3_115 q3_117 q1_15 q3_119 rfl (by decide +kernel) ⟨rfl, rfl⟩ ⟨Nat.le_of_ble_eq_true rfl, Nat.le_of_ble_eq_true rfl⟩) rfl ⟨Nat.le_of_ble_eq_true rfl, Nat.le_of_ble_eq_true rfl⟩ hN hT0 hK hP [0, 1] rfl [0] rfl 0 4 rfl rfl rfl hl.1 rfl (Nat.le_of_ble_eq_true rfl) d_Reader_areDigits_19) (fun r19 hr19 => ?_)
      rw [oc_eq (by omega)] at hr19
      refine lv_bipush (v := 57) hx hb d_Reader_areDigits_22 (by decide) ?_
      refine lv_icmp_le (tgt := 29) hx hb d_Reader_areDigits_24 (by decide) (fun c24 => ?_) (fun c24 => ?_)
      · refine lv_iinc (v := nI (k + 1)) (lv' := [(3, .int (nI (k + 1))), (0, .ref h), (1, .int (nI a)), (2, .int (nI b))]) hx hb d_Reader_areDigits_29 hl (k := 3) rfl (nI_1 _) (by decide) rfl (fun ls hl => ?_)
        refine lv_goto (tgt := 2) hx hb d_Reader_areDigits_32 (by decide) ?_
        exact ih (k + 1) ls (by omega) (⟨by omega, by omega, digsN_s hJ.2.2 (oc_dig hu (by rw [← hr9]; exact c14) (by rw [← hr19]; exact c24))⟩) (lv_sub hl [1, 2, 3, 0] rfl)
      · refine lv_iconst (v := 0) hx hb d_Reader_areDigits_27 (by decide) ?_
        exact W.zret (v := 0) hx hb hr (by decide) (fun t ht hW => ⟨_, rfl, bz_f (fun q => oc_nod (Or.inr (by rw [← hr19]; exact c24)) (q k hJ.1 hlt)), ht⟩) (fun q h => by cases h) d_Reader_areDigits_28
set_option maxHeartbeats 4000000 in
set_option maxRecDepth 100000 in
theorem cC_isOid (l : Launch) (dC : Nat → ClassId) (dI : Nat → Nat → Nat) (sb : sB) (h res t ki : Nat) (pp s0 n : Nat) (w : Option Nat) (pa ma ex ie : Int32) (cB : ClassId) (u : Nat → Nat) (a b : Nat) (hu : ∀ j, u j < 256) (hn : n < 2 ^ 30) (hab : a ≤ b) (hb2 : b ≤ n) : Met l y_Reader_isOid w_Reader_isOid ({ frames := 1, cells := 0, slots := 0, locals := 21 }) (pu_P [.ref h, .int (nI a), .int (nI b)] (dC, dI) sb [(h, .inr (4, [.ref res, .ref t, .int (nI pp), .int (nI s0), .int (wI w), .int pa, .int ma, .int ex, .ref ki])), (t, .inl (cB, n, .inl (tx u)))] [(cB, .byte)]) (vp_Si (fun r => bz r (oidOK u a b))) 0 0 (fun _ => False) := by
  refine Met.ofW (cc := b_Reader_isOid) (maxL := 5) (ret := (some FieldType.boolean)) (by decide) rfl ?_
  intro p e s m args below meth c s₁ B hml hv
  obtain ⟨rfl, hP, hK, hN, hT0⟩ := hv
  have hx := B.exec
  have hb := B.bytes
  have hr := B.returns
  have hts := atoms_spec (ws := w_Reader_isOid) B.pre
  have tbin : ∀ w ∈ tb, w ∈ w_Reader_isOid := fun w h => List.mem_cons_of_mem _ h
  have htb : ∀ w ∈ tb, w.before _ s = true := fun w h => hts w (tbin w h)
  have hown : s.vm.findClass "TrustChain$Reader" = some m.cls := findClass_of_methodNamed B.named
  have hlocks := B.notSynchronized
  have hcs : 0 ≤ (headSpec w_Reader_isOid ({ frames := 1, cells := 0, slots := 0, locals := 21 })).room.cells ∧ 0 ≤ (headSpec w_Reader_isOid ({ frames := 1, cells := 0, slots := 0, locals := 21 })).room.slots := ⟨Nat.zero_le _, Nat.zero_le _⟩
  have hP : va_P (dC, dI) classes [(h, .inr (4, [.ref res, .ref t, .int (nI pp), .int (nI s0), .int (wI w), .int pa, .int ma, .int ex, .ref ki])), (t, .inl (cB, n, .inl (tx u)))] s.heap := hP
  have hl := lv_entry ([.ref h, .int (nI a), .int (nI b)]) (n := 5) (Nat.le_of_ble_eq_true rfl)
  rw [lg_entry_eq]
  generalize (lg_sl ([.ref h, .int (nI a), .int (nI b)]) ++ List.replicate (5 - (lg_sl ([.ref h, .int (nI a), .int (nI b)])).length) Slot.unset).toArray = ls at hl ⊢
  have hl : lv_has ls 5 [(0, .ref h), (1, .int (nI a)), (2, .int (nI b))] := hl
  refine lv_iconst (v := 1) hx hb d_Reader_isOid_0 (by decide) ?_
  refine lv_istore_n (lv' := [(3, .int 1), (0, .ref h), (1, .int (nI a)), (2, .int (nI b))]) hx hb d_Reader_isOid_1 rfl hl (by decide) rfl (fun ls hl => ?_)
  refine lv_iload_n hx hb d_Reader_isOid_2 rfl (lv_at hl 2 rfl) ?_
  refine lv_istore (lv' := [(4, .int (nI a)), (3, .int 1), (0, .ref h), (1, .int (nI a)), (2, .int (nI b))]) hx hb d_Reader_isOid_3 hl (by decide) rfl (fun ls hl => ?_)
  refine w_loop (α := Nat × Bool) (fun z => z.1 ≤ b - a ∧ oidG u a z.1 = some z.2) (fun z => b - a - z.1) (fun z => [(0, .ref h), (1, .int (nI a)), (2, .int (nI b)), (3, .int (bI z.2)), (4, .int (nI (a + z.1)))]) (fun _ => []) 5 5 (fun z ls hJ hl ih => ?_) (0, true) ls (⟨Nat.zero_le _, rfl⟩) (lv_sub hl [2, 3, 4, 1, 0] rfl)
  refine lv_iload hx hb d_Reader_isOid_5 (lv_at hl 4 rfl) ?_
  refine lv_iload_n hx hb d_Reader_isOid_7 rfl (lv_at hl 2 rfl) ?_
  refine lv_icmp_ge (tgt := 53) hx hb d_Reader_isOid_8 (by decide) (fun c8 => ?_) (fun c8 => ?_)
  · have hke : z.1 = b - a := by rw [nI_leI (by omega) (by omega)] at c8; omega
    refine lv_iload_n hx hb d_Reader_isOid_53 rfl (lv_at hl 2 rfl) ?_
    refine lv_iload_n hx hb d_Reader_isOid_54 rfl (lv_at hl 1 rfl) ?_
    refine lv_icmp_le (tgt := 66) hx hb d_Reader_isOid_55 (by decide) (fun c55 => ?_) (fun c55 => ?_)
    · refine lv_iconst (v := 0) hx hb d_Reader_isOid_66 (by decide) ?_
      exact W.zret (v := 0) hx hb hr (by decide) (fun t ht hW => ⟨_, rfl, bz_f (fun q => absurd q.1 (by rw [nI_leI (by omega) (by omega)] at c55; omega)), ht⟩) (fun q h => by cases h) d_Reader_isOid_67
    · refine lv_iload_n hx hb d_Reader_isOid_58 rfl (lv_at hl 3 rfl) ?_
      refine lv_if_eq (tgt := 66) hx hb d_Reader_isOid_59 (by decide) (fun c59 => ?_) (fun c59 => ?_)
      · refine lv_iconst (v := 0) hx hb d_Reader_isOid_66 (by decide) ?_
        exact W.zret (v := 0) hx hb hr (by decide) (fun t ht hW => ⟨_, rfl, bz_f (fun q => absurd ((hke ▸ hJ.2).symm.trans q.2) (by rw [bI_0 c59]; simp)), ht⟩) (fun q h => by cases h) d_Reader_isOid_67
      · refine lv_iconst (v := 1) hx hb d_Reader_isOid_62 (by decide) ?_
        refine lv_goto (tgt := 67) hx hb d_Reader_isOid_63 (by decide) ?_
        exact W.zret (v := 1) hx hb hr (by decide) (fun t ht hW => ⟨_, rfl, bz_t ⟨by rw [nI_leI (by omega) (by omega)] at c55; omega, by rw [← hke, hJ.2, bI_1 c59]⟩, ht⟩) (fun q h => by cases h) d_Reader_isOid_67
  · have hlt : a + z.1 < b := by rw [nI_leI (by omega) (by omega)] at c8; omega
    refine lv_iload_n hx hb d_Reader_isOid_11 rfl (lv_at hl 3 rfl) ?_
    refine lv_if_eq (tgt := 29) hx hb d_Reader_isOid_12 (by decide) (fun c12 => ?_) (fun c12 => ?_)
    · have hno : ¬ (z.2 = true ∧ u (a + z.1) = 128) := fun q => absurd ((bI_0 c12).symm.trans q.1) (by decide)
      refine w_join (J := fun v => v = bI (decide (u (a + z.1) < 128))) (pc := 46) (ls := ls) (rest := []) (fun v hv => ?_) (fun k46 => ?_)
      · skip
        subst hv
        refine lv_istore_n (lv' := [(3, .int (bI (decide (u (a + z.1) < 128)))), (0, .ref h), (1, .int (nI a)), (2, .int (nI b)), (4, .int (nI (a + z.1)))]) hx hb d_Reader_isOid_46 rfl hl (by decide) rfl (fun ls hl => ?_)
        refine lv_iinc (v := nI (a + z.1 + 1)) (lv' := [(4, .int (nI (a + z.1 + 1))), (3, .int (bI (decide (u (a + z.1) < 128)))), (0, .ref h), (1, .int (nI a)), (2, .int (nI b))]) hx hb d_Reader_isOid_47 hl (k := 4) rfl (nI_1 _) (by decide) rfl (fun ls hl => ?_)
        refine lv_goto (tgt := 5) hx hb d_Reader_isOid_50 (by decide) ?_
        exact ih (z.1 + 1, decide (u (a + z.1) < 128)) ls (by show b - a - (z.1 + 1) < b - a - z.1; omega) (⟨by show z.1 + 1 ≤ b - a; omega, oidG_s hJ.2 hno⟩) (lv_sub hl [2, 3, 4, 1, 0] rfl)
      · skip
        refine lv_aload_n hx hb d_Reader_isOid_29 rfl (lv_at hl 0 rfl) ?_
        refine lv_iload hx hb d_Reader_isOid_30 (lv_at hl 4 rfl) ?_
        refine vp_callSi (pu_callU (As := [.int (nI (a + z.1))]) (rest := []) ⟨hx, hb, hml, hown, hts⟩ (cC_octet l dC dI sb h res t ki pp s0 n w pa ma ex ie cB u (nI (a + z.1)) hu hn) (cu_of (n := 1) hts tbin q3_114 q3_116 q3_115 q3_117 q1_15 q3_119 rfl (by decide +kernel) ⟨rfl, rfl⟩ ⟨Nat.le_of_ble_eq_true rfl, Nat.le_of_ble_eq_true rfl⟩) rfl ⟨Nat.le_of_ble_eq_true rfl, Nat.le_of_ble_eq_true rfl⟩ hN hT0 hK hP [0, 1] rfl [0] rfl 0 4 rfl rfl rfl hl.1 rfl (Nat.le_of_ble_eq_true rfl) d_Reader_isOid_32) (fun r32 hr32 => ?_)
        rw [oc_eq (by omega)] at hr32
        refine lv_sipush (v := 128) hx hb d_Reader_isOid_35 (by decide) ?_
        have h128 := (oc_128 (n := n) hu (show a + z.1 < n by omega)).2
        rw [← hr32] at h128
        refine lv_icmp_ge (tgt := 45) hx hb d_Reader_isOid_38 (by decide) (fun c38 => ?_) (fun c38 => ?_)
        · refine lv_iconst (v := 0) hx hb d_Reader_isOid_45 (by decide) ?_
          exact k46 _ (by rw [bI, if_neg (by rw [decide_eq_true_eq]; exact Nat.not_lt.mpr (h128.mp c38))])
        · refine lv_iconst (v := 1) hx hb d_Reader_isOid_41 (by decide) ?_
          refine lv_goto (tgt := 46) hx hb d_Reader_isOid_42 (by decide) ?_
          exact k46 _ (by rw [bI, if_pos (by rw [decide_eq_true_eq]; exact Nat.not_le.mp (fun q => c38 (h128.mpr q)))])
    · refine lv_aload_n hx hb d_Reader_isOid_15 rfl (lv_at hl 0 rfl) ?_
      refine lv_iload hx hb d_Reader_isOid_16 (lv_at hl 4 rfl) ?_
      refine vp_callSi (pu_callU (As := [.int (nI (a + z.1))]) (rest := []) ⟨hx, hb, hml, hown, hts⟩ (cC_octet l dC dI sb h res t ki pp s0 n w pa ma ex ie cB u (nI (a + z.1)) hu hn) (cu_of (n := 1) hts tbin q3_114 q3_116 q3_115 q3_117 q1_15 q3_119 rfl (by decide +kernel) ⟨rfl, rfl⟩ ⟨Nat.le_of_ble_eq_true rfl, Nat.le_of_ble_eq_true rfl⟩) rfl ⟨Nat.le_of_ble_eq_true rfl, Nat.le_of_ble_eq_true rfl⟩ hN hT0 hK hP [0, 1] rfl [0] rfl 0 4 rfl rfl rfl hl.1 rfl (Nat.le_of_ble_eq_true rfl) d_Reader_isOid_18) (fun r18 hr18 => ?_)
      rw [oc_eq (by omega)] at hr18
      refine lv_sipush (v := 128) hx hb d_Reader_isOid_21 (by decide) ?_
      refine lv_icmp_ne (tgt := 29) hx hb d_Reader_isOid_24 (by decide) (fun c24 => ?_) (fun c24 => ?_)
      · have hno : ¬ (z.2 = true ∧ u (a + z.1) = 128) := fun q => c24 (by rw [hr18]; exact (oc_128 hu (by omega)).1.mpr q.2)
        refine w_join (J := fun v => v = bI (decide (u (a + z.1) < 128))) (pc := 46) (ls := ls) (rest := []) (fun v hv => ?_) (fun k46 => ?_)
        · skip
          subst hv
          refine lv_istore_n (lv' := [(3, .int (bI (decide (u (a + z.1) < 128)))), (0, .ref h), (1, .int (nI a)), (2, .int (nI b)), (4, .int (nI (a + z.1)))]) hx hb d_Reader_isOid_46 rfl hl (by decide) rfl (fun ls hl => ?_)
          refine lv_iinc (v := nI (a + z.1 + 1)) (lv' := [(4, .int (nI (a + z.1 + 1))), (3, .int (bI (decide (u (a + z.1) < 128)))), (0, .ref h), (1, .int (nI a)), (2, .int (nI b))]) hx hb d_Reader_isOid_47 hl (k := 4) rfl (nI_1 _) (by decide) rfl (fun ls hl => ?_)
          refine lv_goto (tgt := 5) hx hb d_Reader_isOid_50 (by decide) ?_
          exact ih (z.1 + 1, decide (u (a + z.1) < 128)) ls (by show b - a - (z.1 + 1) < b - a - z.1; omega) (⟨by show z.1 + 1 ≤ b - a; omega, oidG_s hJ.2 hno⟩) (lv_sub hl [2, 3, 4, 1, 0] rfl)
        · skip
          refine lv_aload_n hx hb d_Reader_isOid_29 rfl (lv_at hl 0 rfl) ?_
          refine lv_iload hx hb d_Reader_isOid_30 (lv_at hl 4 rfl) ?_
          refine vp_callSi (pu_callU (As := [.int (nI (a + z.1))]) (rest := []) ⟨hx, hb, hml, hown, hts⟩ (cC_octet l dC dI sb h res t ki pp s0 n w pa ma ex ie cB u (nI (a + z.1)) hu hn) (cu_of (n := 1) hts tbin q3_114 q3_116 q3_115 q3_117 q1_15 q3_119 rfl (by decide +kernel) ⟨rfl, rfl⟩ ⟨Nat.le_of_ble_eq_true rfl, Nat.le_of_ble_eq_true rfl⟩) rfl ⟨Nat.le_of_ble_eq_true rfl, Nat.le_of_ble_eq_true rfl⟩ hN hT0 hK hP [0, 1] rfl [0] rfl 0 4 rfl rfl rfl hl.1 rfl (Nat.le_of_ble_eq_true rfl) d_Reader_isOid_32) (fun r32 hr32 => ?_)
          rw [oc_eq (by omega)] at hr32
          refine lv_sipush (v := 128) hx hb d_Reader_isOid_35 (by decide) ?_
          have h128 := (oc_128 (n := n) hu (show a + z.1 < n by omega)).2
          rw [← hr32] at h128
          refine lv_icmp_ge (tgt := 45) hx hb d_Reader_isOid_38 (by decide) (fun c38 => ?_) (fun c38 => ?_)
          · refine lv_iconst (v := 0) hx hb d_Reader_isOid_45 (by decide) ?_
            exact k46 _ (by rw [bI, if_neg (by rw [decide_eq_true_eq]; exact Nat.not_lt.mpr (h128.mp c38))])
          · refine lv_iconst (v := 1) hx hb d_Reader_isOid_41 (by decide) ?_
            refine lv_goto (tgt := 46) hx hb d_Reader_isOid_42 (by decide) ?_
            exact k46 _ (by rw [bI, if_pos (by rw [decide_eq_true_eq]; exact Nat.not_le.mp (fun q => c38 (h128.mpr q)))])
      · refine lv_iconst (v := 0) hx hb d_Reader_isOid_27 (by decide) ?_
        exact W.zret (v := 0) hx hb hr (by decide) (fun t ht hW => ⟨_, rfl, bz_f (fun q => absurd ((oidG_n (oidG_0 hJ.2 ⟨bI_1 c12, (oc_128 (n := n) hu (by omega)).1.mp (by rw [← hr18]; exact c24)⟩) (b - a) (by omega)).symm.trans q.2) (by simp)), ht⟩) (fun q h => by cases h) d_Reader_isOid_28
set_option maxHeartbeats 4000000 in
set_option maxRecDepth 100000 in
theorem cL_digits (l : Launch) (dC : Nat → ClassId) (dI : Nat → Nat → Nat) (sb : sB) (h res t ki : Nat) (pp s0 n : Nat) (w : Option Nat) (pa ma ex ie : Int32) (cB : ClassId) (u : Nat → Nat) (k : Nat) (hu : ∀ j, u j < 256) (hn : n < 2 ^ 30) (hk : k < 2 ^ 30 + 100) : Met l y_Reader_digits w_Reader_digits ({ frames := 1, cells := 0, slots := 0, locals := 21 }) (pu_P [.ref h, .int (nI k)] (dC, dI) sb [(h, .inr (5, [.ref res, .int ie, .ref t, .int (nI pp), .int (nI s0), .int (wI w), .int pa, .int ma, .int ex, .ref ki])), (t, .inl (cB, n, .inl (tx u)))] [(cB, .byte)]) (vp_Si (fun r => r = dg u n k)) 0 0 (fun _ => False) := by
  refine Met.ofW (cc := b_Reader_digits) (maxL := 2) (ret := (some FieldType.int)) (by decide) rfl ?_
  intro p e s m args below meth c s₁ B hml hv
  obtain ⟨rfl, hP, hK, hN, hT0⟩ := hv
  have hx := B.exec
  have hb := B.bytes
  have hr := B.returns
  have hts := atoms_spec (ws := w_Reader_digits) B.pre
  have tbin : ∀ w ∈ tb, w ∈ w_Reader_digits := fun w h => List.mem_cons_of_mem _ h
  have htb : ∀ w ∈ tb, w.before _ s = true := fun w h => hts w (tbin w h)
  have hown : s.vm.findClass "TrustChain$Reader" = some m.cls := findClass_of_methodNamed B.named
  have hlocks := B.notSynchronized
  have hcs : 0 ≤ (headSpec w_Reader_digits ({ frames := 1, cells := 0, slots := 0, locals := 21 })).room.cells ∧ 0 ≤ (headSpec w_Reader_digits ({ frames := 1, cells := 0, slots := 0, locals := 21 })).room.slots := ⟨Nat.zero_le _, Nat.zero_le _⟩
  have hP : va_P (dC, dI) classes [(h, .inr (5, [.ref res, .int ie, .ref t, .int (nI pp), .int (nI s0), .int (wI w), .int pa, .int ma, .int ex, .ref ki])), (t, .inl (cB, n, .inl (tx u)))] s.heap := hP
  have hl := lv_entry ([.ref h, .int (nI k)]) (n := 2) (Nat.le_of_ble_eq_true rfl)
  rw [lg_entry_eq]
  generalize (lg_sl ([.ref h, .int (nI k)]) ++ List.replicate (2 - (lg_sl ([.ref h, .int (nI k)])).length) Slot.unset).toArray = ls at hl ⊢
  have hl : lv_has ls 2 [(0, .ref h), (1, .int (nI k))] := hl
  refine lv_aload_n hx hb d_Reader_digits_0 rfl (lv_at hl 0 rfl) ?_
  refine lv_iload_n hx hb d_Reader_digits_1 rfl (lv_at hl 1 rfl) ?_
  refine vp_callSi (pu_callU (As := [.int (nI k)]) (rest := []) ⟨hx, hb, hml, hown, hts⟩ (cL_octet l dC dI sb h res t ki pp s0 n w pa ma ex ie cB u (nI k) hu hn) (cu_of (n := 1) hts tbin q3_114 q3_116 q3_115 q3_118 q1_15 q3_119 rfl (by decide +kernel) ⟨rfl, rfl⟩ ⟨Nat.le_of_ble_eq_true rfl, Nat.le_of_ble_eq_true rfl⟩) rfl ⟨Nat.le_of_ble_eq_true rfl, Nat.le_of_ble_eq_true rfl⟩ hN hT0 hK hP [0, 1] rfl [0] rfl 0 5 rfl rfl rfl hl.1 rfl (Nat.le_of_ble_eq_true rfl) d_Reader_digits_2) (fun r2 hr2 => ?_)
  refine lv_bipush (v := 48) hx hb d_Reader_digits_5 (by decide) ?_
  refine lv_isub hx hb d_Reader_digits_7 ?_
  refine lv_bipush (v := 10) hx hb d_Reader_digits_8 (by decide) ?_
  refine lv_imul hx hb d_Reader_digits_10 ?_
  refine lv_aload_n hx hb d_Reader_digits_11 rfl (lv_at hl 0 rfl) ?_
  refine lv_iload_n hx hb d_Reader_digits_12 rfl (lv_at hl 1 rfl) ?_
  refine lv_iconst (v := 1) hx hb d_Reader_digits_13 (by decide) ?_
  refine lv_iadd hx hb d_Reader_digits_14 ?_
  rw [show ((nI k) + 1 : Int32) = nI (k + 1) from nI_add k 1]
  refine vp_callSi (pu_callU (As := [.int (nI (k + 1))]) (rest := [.int ((r2 - 48) * 10)]) ⟨hx, hb, hml, hown, hts⟩ (cL_octet l dC dI sb h res t ki pp s0 n w pa ma ex ie cB u (nI (k + 1)) hu hn) (cu_of (n := 1) hts tbin q3_114 q3_116 q3_115 q3_118 q1_15 q3_119 rfl (by decide +kernel) ⟨rfl, rfl⟩ ⟨Nat.le_of_ble_eq_true rfl, Nat.le_of_ble_eq_true rfl⟩) rfl ⟨Nat.le_of_ble_eq_true rfl, Nat.le_of_ble_eq_true rfl⟩ hN hT0 hK hP [0, 1] rfl [0] rfl 0 5 rfl rfl rfl hl.1 rfl (Nat.le_of_ble_eq_true rfl) d_Reader_digits_15) (fun r15 hr15 => ?_)
  refine lv_iadd hx hb d_Reader_digits_18 ?_
  refine lv_bipush (v := 48) hx hb d_Reader_digits_19 (by decide) ?_
  refine lv_isub hx hb d_Reader_digits_21 ?_
  exact W.iret (v := (((r2 - 48) * 10) + r15) - 48) hx hb hr (fun t ht hW => ⟨_, rfl, by rw [hr2, hr15, oc_eq (by omega), oc_eq (by omega)]; rfl, ht⟩) (fun q h => by cases h) d_Reader_digits_22
set_option maxHeartbeats 4000000 in
set_option maxRecDepth 100000 in
theorem cL_areDigits (l : Launch) (dC : Nat → ClassId) (dI : Nat → Nat → Nat) (sb : sB) (h res t ki : Nat) (pp s0 n : Nat) (w : Option Nat) (pa ma ex ie : Int32) (cB : ClassId) (u : Nat → Nat) (a b : Nat) (hu : ∀ j, u j < 256) (hn : n < 2 ^ 30) (hab : a ≤ b) (hb2 : b < 2 ^ 30) : Met l y_Reader_areDigits w_Reader_areDigits ({ frames := 1, cells := 0, slots := 0, locals := 21 }) (pu_P [.ref h, .int (nI a), .int (nI b)] (dC, dI) sb [(h, .inr (5, [.ref res, .int ie, .ref t, .int (nI pp), .int (nI s0), .int (wI w), .int pa, .int ma, .int ex, .ref ki])), (t, .inl (cB, n, .inl (tx u)))] [(cB, .byte)]) (vp_Si (fun r => bz r (digsN u n a b))) 0 0 (fun _ => False) := by
  refine Met.ofW (cc := b_Reader_areDigits) (maxL := 4) (ret := (some FieldType.boolean)) (by decide) rfl ?_
  intro p e s m args below meth c s₁ B hml hv
  obtain ⟨rfl, hP, hK, hN, hT0⟩ := hv
  have hx := B.exec
  have hb := B.bytes
  have hr := B.returns
  have hts := atoms_spec (ws := w_Reader_areDigits) B.pre
  have tbin : ∀ w ∈ tb, w ∈ w_Reader_areDigits := fun w h => List.mem_cons_of_mem _ h
  have htb : ∀ w ∈ tb, w.before _ s = true := fun w h => hts w (tbin w h)
  have hown : s.vm.findClass "TrustChain$Reader" = some m.cls := findClass_of_methodNamed B.named
  have hlocks := B.notSynchronized
  have hcs : 0 ≤ (headSpec w_Reader_areDigits ({ frames := 1, cells := 0, slots := 0, locals := 21 })).room.cells ∧ 0 ≤ (headSpec w_Reader_areDigits ({ frames := 1, cells := 0, slots := 0, locals := 21 })).room.slots := ⟨Nat.zero_le _, Nat.zero_le _⟩
  have hP : va_P (dC, dI) classes [(h, .inr (5, [.ref res, .int ie, .ref t, .int (nI pp), .int (nI s0), .int (wI w), .int pa, .int ma, .int ex, .ref ki])), (t, .inl (cB, n, .inl (tx u)))] s.heap := hP
  have hl := lv_entry ([.ref h, .int (nI a), .int (nI b)]) (n := 4) (Nat.le_of_ble_eq_true rfl)
  rw [lg_entry_eq]
  generalize (lg_sl ([.ref h, .int (nI a), .int (nI b)]) ++ List.replicate (4 - (lg_sl ([.ref h, .int (nI a), .int (nI b)])).length) Slot.unset).toArray = ls at hl ⊢
  have hl : lv_has ls 4 [(0, .ref h), (1, .int (nI a)), (2, .int (nI b))] := hl
  refine lv_iload_n hx hb d_Reader_areDigits_0 rfl (lv_at hl 1 rfl) ?_
  refine lv_istore_n (lv' := [(3, .int (nI a)), (0, .ref h), (1, .int (nI a)), (2, .int (nI b))]) hx hb d_Reader_areDigits_1 rfl hl (by decide) rfl (fun ls hl => ?_)
  refine w_loop (α := Nat) (fun k => a ≤ k ∧ k ≤ b ∧ digsN u n a k) (fun k => b - k) (fun k => [(0, .ref h), (1, .int (nI a)), (2, .int (nI b)), (3, .int (nI k))]) (fun _ => []) 4 2 (fun k ls hJ hl ih => ?_) a ls (⟨Nat.le_refl _, hab, fun j h1 h2 => absurd h2 (by omega)⟩) (lv_sub hl [1, 2, 3, 0] rfl)
  refine lv_iload_n hx hb d_Reader_areDigits_2 rfl (lv_at hl 3 rfl) ?_
  refine lv_iload_n hx hb d_Reader_areDigits_3 rfl (lv_at hl 2 rfl) ?_
  refine lv_icmp_ge (tgt := 35) hx hb d_Reader_areDigits_4 (by decide) (fun c4 => ?_) (fun c4 => ?_)
  · have hke : k = b := by rw [nI_leI (by omega) (by omega)] at c4; omega
    refine lv_iconst (v := 1) hx hb d_Reader_areDigits_35 (by decide) ?_
    exact W.zret (v := 1) hx hb hr (by decide) (fun t ht hW => ⟨_, rfl, bz_t (hke ▸ hJ.2.2), ht⟩) (fun q h => by cases h) d_Reader_areDigits_36
  · have hlt : k < b := by rw [nI_leI (by omega) (by omega)] at c4; omega
    refine lv_aload_n hx hb d_Reader_areDigits_7 rfl (lv_at hl 0 rfl) ?_
    refine lv_iload_n hx hb d_Reader_areDigits_8 rfl (lv_at hl 3 rfl) ?_
    refine vp_callSi (pu_callU (As := [.int (nI k)]) (rest := []) ⟨hx, hb, hml, hown, hts⟩ (cL_octet l dC dI sb h res t ki pp s0 n w pa ma ex ie cB u (nI k) hu hn) (cu_of (n := 1) hts tbin q3_114 q3_116 q3_115 q3_118 q1_15 q3_119 rfl (by decide +kernel) ⟨rfl, rfl⟩ ⟨Nat.le_of_ble_eq_true rfl, Nat.le_of_ble_eq_true rfl⟩) rfl ⟨Nat.le_of_ble_eq_true rfl, Nat.le_of_ble_eq_true rfl⟩ hN hT0 hK hP [0, 1] rfl [0] rfl 0 5 rfl rfl rfl hl.1 rfl (Nat.le_of_ble_eq_true rfl) d_Reader_areDigits_9) (fun r9 hr9 => ?_)
    rw [oc_eq (by omega)] at hr9
    refine lv_bipush (v := 48) hx hb d_Reader_areDigits_12 (by decide) ?_
    refine lv_icmp_lt (tgt := 27) hx hb d_Reader_areDigits_14 (by decide) (fun c14 => ?_) (fun c14 => ?_)
    · refine lv_iconst (v := 0) hx hb d_Reader_areDigits_27 (by decide) ?_
      exact W.zret (v := 0) hx hb hr (by decide) (fun t ht hW => ⟨_, rfl, bz_f (fun q => oc_nod (Or.inl (by rw [← hr9]; exact c14)) (q k hJ.1 hlt)), ht⟩) (fun q h => by cases h) d_Reader_areDigits_28
    · refine lv_aload_n hx hb d_Reader_areDigits_17 rfl (lv_at hl 0 rfl) ?_
      refine lv_iload_n hx hb d_Reader_areDigits_18 rfl (lv_at hl 3 rfl) ?_
      refine vp_callSi (pu_callU (As := [.int (nI k)]) (rest := []) ⟨hx, hb, hml, hown, hts⟩ (cL_octet l dC dI sb h res t ki pp s0 n w pa ma ex ie cB u (nI k) hu hn) (cu_of (n := 1) hts tbin q3_114 q3_116 q3_115 q3_118 q1_15 q3_119 rfl (by decide +kernel) ⟨rfl, rfl⟩ ⟨Nat.le_of_ble_eq_true rfl, Nat.le_of_ble_eq_true rfl⟩) rfl ⟨Nat.le_of_ble_eq_true rfl, Nat.le_of_ble_eq_true rfl⟩ hN hT0 hK hP [0, 1] rfl [0] rfl 0 5 rfl rfl rfl hl.1 rfl (Nat.le_of_ble_eq_true rfl) d_Reader_areDigits_19) (fun r19 hr19 => ?_)
      rw [oc_eq (by omega)] at hr19
      refine lv_bipush (v := 57) hx hb d_Reader_areDigits_22 (by decide) ?_
      refine lv_icmp_le (tgt := 29) hx hb d_Reader_areDigits_24 (by decide) (fun c24 => ?_) (fun c24 => ?_)
      · refine lv_iinc (v := nI (k + 1)) (lv' := [(3, .int (nI (k + 1))), (0, .ref h), (1, .int (nI a)), (2, .int (nI b))]) hx hb d_Reader_areDigits_29 hl (k := 3) rfl (nI_1 _) (by decide) rfl (fun ls hl => ?_)
        refine lv_goto (tgt := 2) hx hb d_Reader_areDigits_32 (by decide) ?_
        exact ih (k + 1) ls (by omega) (⟨by omega, by omega, digsN_s hJ.2.2 (oc_dig hu (by rw [← hr9]; exact c14) (by rw [← hr19]; exact c24))⟩) (lv_sub hl [1, 2, 3, 0] rfl)
      · refine lv_iconst (v := 0) hx hb d_Reader_areDigits_27 (by decide) ?_
        exact W.zret (v := 0) hx hb hr (by decide) (fun t ht hW => ⟨_, rfl, bz_f (fun q => oc_nod (Or.inr (by rw [← hr19]; exact c24)) (q k hJ.1 hlt)), ht⟩) (fun q h => by cases h) d_Reader_areDigits_28
set_option maxHeartbeats 4000000 in
set_option maxRecDepth 100000 in
theorem cL_isOid (l : Launch) (dC : Nat → ClassId) (dI : Nat → Nat → Nat) (sb : sB) (h res t ki : Nat) (pp s0 n : Nat) (w : Option Nat) (pa ma ex ie : Int32) (cB : ClassId) (u : Nat → Nat) (a b : Nat) (hu : ∀ j, u j < 256) (hn : n < 2 ^ 30) (hab : a ≤ b) (hb2 : b ≤ n) : Met l y_Reader_isOid w_Reader_isOid ({ frames := 1, cells := 0, slots := 0, locals := 21 }) (pu_P [.ref h, .int (nI a), .int (nI b)] (dC, dI) sb [(h, .inr (5, [.ref res, .int ie, .ref t, .int (nI pp), .int (nI s0), .int (wI w), .int pa, .int ma, .int ex, .ref ki])), (t, .inl (cB, n, .inl (tx u)))] [(cB, .byte)]) (vp_Si (fun r => bz r (oidOK u a b))) 0 0 (fun _ => False) := by
  refine Met.ofW (cc := b_Reader_isOid) (maxL := 5) (ret := (some FieldType.boolean)) (by decide) rfl ?_
  intro p e s m args below meth c s₁ B hml hv
  obtain ⟨rfl, hP, hK, hN, hT0⟩ := hv
  have hx := B.exec
  have hb := B.bytes
  have hr := B.returns
  have hts := atoms_spec (ws := w_Reader_isOid) B.pre
  have tbin : ∀ w ∈ tb, w ∈ w_Reader_isOid := fun w h => List.mem_cons_of_mem _ h
  have htb : ∀ w ∈ tb, w.before _ s = true := fun w h => hts w (tbin w h)
  have hown : s.vm.findClass "TrustChain$Reader" = some m.cls := findClass_of_methodNamed B.named
  have hlocks := B.notSynchronized
  have hcs : 0 ≤ (headSpec w_Reader_isOid ({ frames := 1, cells := 0, slots := 0, locals := 21 })).room.cells ∧ 0 ≤ (headSpec w_Reader_isOid ({ frames := 1, cells := 0, slots := 0, locals := 21 })).room.slots := ⟨Nat.zero_le _, Nat.zero_le _⟩
  have hP : va_P (dC, dI) classes [(h, .inr (5, [.ref res, .int ie, .ref t, .int (nI pp), .int (nI s0), .int (wI w), .int pa, .int ma, .int ex, .ref ki])), (t, .inl (cB, n, .inl (tx u)))] s.heap := hP
  have hl := lv_entry ([.ref h, .int (nI a), .int (nI b)]) (n := 5) (Nat.le_of_ble_eq_true rfl)
  rw [lg_entry_eq]
  generalize (lg_sl ([.ref h, .int (nI a), .int (nI b)]) ++ List.replicate (5 - (lg_sl ([.ref h, .int (nI a), .int (nI b)])).length) Slot.unset).toArray = ls at hl ⊢
  have hl : lv_has ls 5 [(0, .ref h), (1, .int (nI a)), (2, .int (nI b))] := hl
  refine lv_iconst (v := 1) hx hb d_Reader_isOid_0 (by decide) ?_
  refine lv_istore_n (lv' := [(3, .int 1), (0, .ref h), (1, .int (nI a)), (2, .int (nI b))]) hx hb d_Reader_isOid_1 rfl hl (by decide) rfl (fun ls hl => ?_)
  refine lv_iload_n hx hb d_Reader_isOid_2 rfl (lv_at hl 2 rfl) ?_
  refine lv_istore (lv' := [(4, .int (nI a)), (3, .int 1), (0, .ref h), (1, .int (nI a)), (2, .int (nI b))]) hx hb d_Reader_isOid_3 hl (by decide) rfl (fun ls hl => ?_)
  refine w_loop (α := Nat × Bool) (fun z => z.1 ≤ b - a ∧ oidG u a z.1 = some z.2) (fun z => b - a - z.1) (fun z => [(0, .ref h), (1, .int (nI a)), (2, .int (nI b)), (3, .int (bI z.2)), (4, .int (nI (a + z.1)))]) (fun _ => []) 5 5 (fun z ls hJ hl ih => ?_) (0, true) ls (⟨Nat.zero_le _, rfl⟩) (lv_sub hl [2, 3, 4, 1, 0] rfl)
  refine lv_iload hx hb d_Reader_isOid_5 (lv_at hl 4 rfl) ?_
  refine lv_iload_n hx hb d_Reader_isOid_7 rfl (lv_at hl 2 rfl) ?_
  refine lv_icmp_ge (tgt := 53) hx hb d_Reader_isOid_8 (by decide) (fun c8 => ?_) (fun c8 => ?_)
  · have hke : z.1 = b - a := by rw [nI_leI (by omega) (by omega)] at c8; omega
    refine lv_iload_n hx hb d_Reader_isOid_53 rfl (lv_at hl 2 rfl) ?_
    refine lv_iload_n hx hb d_Reader_isOid_54 rfl (lv_at hl 1 rfl) ?_
    refine lv_icmp_le (tgt := 66) hx hb d_Reader_isOid_55 (by decide) (fun c55 => ?_) (fun c55 => ?_)
    · refine lv_iconst (v := 0) hx hb d_Reader_isOid_66 (by decide) ?_
      exact W.zret (v := 0) hx hb hr (by decide) (fun t ht hW => ⟨_, rfl, bz_f (fun q => absurd q.1 (by rw [nI_leI (by omega) (by omega)] at c55; omega)), ht⟩) (fun q h => by cases h) d_Reader_isOid_67
    · refine lv_iload_n hx hb d_Reader_isOid_58 rfl (lv_at hl 3 rfl) ?_
      refine lv_if_eq (tgt := 66) hx hb d_Reader_isOid_59 (by decide) (fun c59 => ?_) (fun c59 => ?_)
      · refine lv_iconst (v := 0) hx hb d_Reader_isOid_66 (by decide) ?_
        exact W.zret (v := 0) hx hb hr (by decide) (fun t ht hW => ⟨_, rfl, bz_f (fun q => absurd ((hke ▸ hJ.2).symm.trans q.2) (by rw [bI_0 c59]; simp)), ht⟩) (fun q h => by cases h) d_Reader_isOid_67
      · refine lv_iconst (v := 1) hx hb d_Reader_isOid_62 (by decide) ?_
        refine lv_goto (tgt := 67) hx hb d_Reader_isOid_63 (by decide) ?_
        exact W.zret (v := 1) hx hb hr (by decide) (fun t ht hW => ⟨_, rfl, bz_t ⟨by rw [nI_leI (by omega) (by omega)] at c55; omega, by rw [← hke, hJ.2, bI_1 c59]⟩, ht⟩) (fun q h => by cases h) d_Reader_isOid_67
  · have hlt : a + z.1 < b := by rw [nI_leI (by omega) (by omega)] at c8; omega
    refine lv_iload_n hx hb d_Reader_isOid_11 rfl (lv_at hl 3 rfl) ?_
    refine lv_if_eq (tgt := 29) hx hb d_Reader_isOid_12 (by decide) (fun c12 => ?_) (fun c12 => ?_)
    · have hno : ¬ (z.2 = true ∧ u (a + z.1) = 128) := fun q => absurd ((bI_0 c12).symm.trans q.1) (by decide)
      refine w_join (J := fun v => v = bI (decide (u (a + z.1) < 128))) (pc := 46) (ls := ls) (rest := []) (fun v hv => ?_) (fun k46 => ?_)
      · skip
        subst hv
        refine lv_istore_n (lv' := [(3, .int (bI (decide (u (a + z.1) < 128)))), (0, .ref h), (1, .int (nI a)), (2, .int (nI b)), (4, .int (nI (a + z.1)))]) hx hb d_Reader_isOid_46 rfl hl (by decide) rfl (fun ls hl => ?_)
        refine lv_iinc (v := nI (a + z.1 + 1)) (lv' := [(4, .int (nI (a + z.1 + 1))), (3, .int (bI (decide (u (a + z.1) < 128)))), (0, .ref h), (1, .int (nI a)), (2, .int (nI b))]) hx hb d_Reader_isOid_47 hl (k := 4) rfl (nI_1 _) (by decide) rfl (fun ls hl => ?_)
        refine lv_goto (tgt := 5) hx hb d_Reader_isOid_50 (by decide) ?_
        exact ih (z.1 + 1, decide (u (a + z.1) < 128)) ls (by show b - a - (z.1 + 1) < b - a - z.1; omega) (⟨by show z.1 + 1 ≤ b - a; omega, oidG_s hJ.2 hno⟩) (lv_sub hl [2, 3, 4, 1, 0] rfl)
      · skip
        refine lv_aload_n hx hb d_Reader_isOid_29 rfl (lv_at hl 0 rfl) ?_
        refine lv_iload hx hb d_Reader_isOid_30 (lv_at hl 4 rfl) ?_
        refine vp_callSi (pu_callU (As := [.int (nI (a + z.1))]) (rest := []) ⟨hx, hb, hml, hown, hts⟩ (cL_octet l dC dI sb h res t ki pp s0 n w pa ma ex ie cB u (nI (a + z.1)) hu hn) (cu_of (n := 1) hts tbin q3_114 q3_116 q3_115 q3_118 q1_15 q3_119 rfl (by decide +kernel) ⟨rfl, rfl⟩ ⟨Nat.le_of_ble_eq_true rfl, Nat.le_of_ble_eq_true rfl⟩) rfl ⟨Nat.le_of_ble_eq_true rfl, Nat.le_of_ble_eq_true rfl⟩ hN hT0 hK hP [0, 1] rfl [0] rfl 0 5 rfl rfl rfl hl.1 rfl (Nat.le_of_ble_eq_true rfl) d_Reader_isOid_32) (fun r32 hr32 => ?_)
        rw [oc_eq (by omega)] at hr32
        refine lv_sipush (v := 128) hx hb d_Reader_isOid_35 (by decide) ?_
        have h128 := (oc_128 (n := n) hu (show a + z.1 < n by omega)).2
        rw [← hr32] at h128
        refine lv_icmp_ge (tgt := 45) hx hb d_Reader_isOid_38 (by decide) (fun c38 => ?_) (fun c38 => ?_)
        · refine lv_iconst (v := 0) hx hb d_Reader_isOid_45 (by decide) ?_
          exact k46 _ (by rw [bI, if_neg (by rw [decide_eq_true_eq]; exact Nat.not_lt.mpr (h128.mp c38))])
        · refine lv_iconst (v := 1) hx hb d_Reader_isOid_41 (by decide) ?_
          refine lv_goto (tgt := 46) hx hb d_Reader_isOid_42 (by decide) ?_
          exact k46 _ (by rw [bI, if_pos (by rw [decide_eq_true_eq]; exact Nat.not_le.mp (fun q => c38 (h128.mpr q)))])
    · refine lv_aload_n hx hb d_Reader_isOid_15 rfl (lv_at hl 0 rfl) ?_
      refine lv_iload hx hb d_Reader_isOid_16 (lv_at hl 4 rfl) ?_
      refine vp_callSi (pu_callU (As := [.int (nI (a + z.1))]) (rest := []) ⟨hx, hb, hml, hown, hts⟩ (cL_octet l dC dI sb h res t ki pp s0 n w pa ma ex ie cB u (nI (a + z.1)) hu hn) (cu_of (n := 1) hts tbin q3_114 q3_116 q3_115 q3_118 q1_15 q3_119 rfl (by decide +kernel) ⟨rfl, rfl⟩ ⟨Nat.le_of_ble_eq_true rfl, Nat.le_of_ble_eq_true rfl⟩) rfl ⟨Nat.le_of_ble_eq_true rfl, Nat.le_of_ble_eq_true rfl⟩ hN hT0 hK hP [0, 1] rfl [0] rfl 0 5 rfl rfl rfl hl.1 rfl (Nat.le_of_ble_eq_true rfl) d_Reader_isOid_18) (fun r18 hr18 => ?_)
      rw [oc_eq (by omega)] at hr18
      refine lv_sipush (v := 128) hx hb d_Reader_isOid_21 (by decide) ?_
      refine lv_icmp_ne (tgt := 29) hx hb d_Reader_isOid_24 (by decide) (fun c24 => ?_) (fun c24 => ?_)
      · have hno : ¬ (z.2 = true ∧ u (a + z.1) = 128) := fun q => c24 (by rw [hr18]; exact (oc_128 hu (by omega)).1.mpr q.2)
        refine w_join (J := fun v => v = bI (decide (u (a + z.1) < 128))) (pc := 46) (ls := ls) (rest := []) (fun v hv => ?_) (fun k46 => ?_)
        · skip
          subst hv
          refine lv_istore_n (lv' := [(3, .int (bI (decide (u (a + z.1) < 128)))), (0, .ref h), (1, .int (nI a)), (2, .int (nI b)), (4, .int (nI (a + z.1)))]) hx hb d_Reader_isOid_46 rfl hl (by decide) rfl (fun ls hl => ?_)
          refine lv_iinc (v := nI (a + z.1 + 1)) (lv' := [(4, .int (nI (a + z.1 + 1))), (3, .int (bI (decide (u (a + z.1) < 128)))), (0, .ref h), (1, .int (nI a)), (2, .int (nI b))]) hx hb d_Reader_isOid_47 hl (k := 4) rfl (nI_1 _) (by decide) rfl (fun ls hl => ?_)
          refine lv_goto (tgt := 5) hx hb d_Reader_isOid_50 (by decide) ?_
          exact ih (z.1 + 1, decide (u (a + z.1) < 128)) ls (by show b - a - (z.1 + 1) < b - a - z.1; omega) (⟨by show z.1 + 1 ≤ b - a; omega, oidG_s hJ.2 hno⟩) (lv_sub hl [2, 3, 4, 1, 0] rfl)
        · skip
          refine lv_aload_n hx hb d_Reader_isOid_29 rfl (lv_at hl 0 rfl) ?_
          refine lv_iload hx hb d_Reader_isOid_30 (lv_at hl 4 rfl) ?_
          refine vp_callSi (pu_callU (As := [.int (nI (a + z.1))]) (rest := []) ⟨hx, hb, hml, hown, hts⟩ (cL_octet l dC dI sb h res t ki pp s0 n w pa ma ex ie cB u (nI (a + z.1)) hu hn) (cu_of (n := 1) hts tbin q3_114 q3_116 q3_115 q3_118 q1_15 q3_119 rfl (by decide +kernel) ⟨rfl, rfl⟩ ⟨Nat.le_of_ble_eq_true rfl, Nat.le_of_ble_eq_true rfl⟩) rfl ⟨Nat.le_of_ble_eq_true rfl, Nat.le_of_ble_eq_true rfl⟩ hN hT0 hK hP [0, 1] rfl [0] rfl 0 5 rfl rfl rfl hl.1 rfl (Nat.le_of_ble_eq_true rfl) d_Reader_isOid_32) (fun r32 hr32 => ?_)
          rw [oc_eq (by omega)] at hr32
          refine lv_sipush (v := 128) hx hb d_Reader_isOid_35 (by decide) ?_
          have h128 := (oc_128 (n := n) hu (show a + z.1 < n by omega)).2
          rw [← hr32] at h128
          refine lv_icmp_ge (tgt := 45) hx hb d_Reader_isOid_38 (by decide) (fun c38 => ?_) (fun c38 => ?_)
          · refine lv_iconst (v := 0) hx hb d_Reader_isOid_45 (by decide) ?_
            exact k46 _ (by rw [bI, if_neg (by rw [decide_eq_true_eq]; exact Nat.not_lt.mpr (h128.mp c38))])
          · refine lv_iconst (v := 1) hx hb d_Reader_isOid_41 (by decide) ?_
            refine lv_goto (tgt := 46) hx hb d_Reader_isOid_42 (by decide) ?_
            exact k46 _ (by rw [bI, if_pos (by rw [decide_eq_true_eq]; exact Nat.not_le.mp (fun q => c38 (h128.mpr q)))])
      · refine lv_iconst (v := 0) hx hb d_Reader_isOid_27 (by decide) ?_
        exact W.zret (v := 0) hx hb hr (by decide) (fun t ht hW => ⟨_, rfl, bz_f (fun q => absurd ((oidG_n (oidG_0 hJ.2 ⟨bI_1 c12, (oc_128 (n := n) hu (by omega)).1.mp (by rw [← hr18]; exact c24)⟩) (b - a) (by omega)).symm.trans q.2) (by simp)), ht⟩) (fun q h => by cases h) d_Reader_isOid_28
