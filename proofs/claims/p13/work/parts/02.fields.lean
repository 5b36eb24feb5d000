def F_Slice : u_T := fun k => match k with
  | 0 => ("TrustChain$Slice", "text", "[B", true)
  | 1 => ("TrustChain$Slice", "from", "I", true)
  | _ => ("TrustChain$Slice", "to", "I", true)
def t_Slice : Nat → FieldType := fun k => match k with
  | 0 => (.array .byte)
  | 1 => .int
  | _ => .int
theorem n_Slice : ∀ a, a < 3 → ∀ b, b < 3 → a ≠ b → (F_Slice a).2.1 ≠ (F_Slice b).2.1 := by decide +kernel
theorem t_Slice_ok : ∀ k, k < 3 → parseFieldDescriptor (F_Slice k).2.2.1 = some (t_Slice k) := by decide +kernel
theorem i_Slice : ∀ w ∈ u_ws "TrustChain$Slice" F_Slice 3, w ∈ tb := by
  intro w hw
  obtain ⟨k, hk, rfl⟩ := List.mem_map.mp hw
  have hk := List.mem_range.mp hk
  match k, hk with
  | 0, _ => exact q2_102
  | 1, _ => exact q2_104
  | 2, _ => exact q2_106
  | k + 3, h => exact absurd h (by omega)
def F_NameSet : u_T := fun k => match k with
  | 0 => ("TrustChain$NameSet", "dns", "Ljava/util/ArrayList;", true)
  | _ => ("TrustChain$NameSet", "directories", "Ljava/util/ArrayList;", true)
def t_NameSet : Nat → FieldType := fun k => match k with
  | 0 => (.object "java/util/ArrayList")
  | _ => (.object "java/util/ArrayList")
theorem n_NameSet : ∀ a, a < 2 → ∀ b, b < 2 → a ≠ b → (F_NameSet a).2.1 ≠ (F_NameSet b).2.1 := by decide +kernel
theorem t_NameSet_ok : ∀ k, k < 2 → parseFieldDescriptor (F_NameSet k).2.2.1 = some (t_NameSet k) := by decide +kernel
theorem i_NameSet : ∀ w ∈ u_ws "TrustChain$NameSet" F_NameSet 2, w ∈ tb := by
  intro w hw
  obtain ⟨k, hk, rfl⟩ := List.mem_map.mp hw
  have hk := List.mem_range.mp hk
  match k, hk with
  | 0, _ => exact q2_134
  | 1, _ => exact q2_136
  | k + 2, h => exact absurd h (by omega)
def F_Paper : u_T := fun k => match k with
  | 0 => ("TrustChain$Paper", "hash", "[I", true)
  | 1 => ("TrustChain$Paper", "signers", "[I", true)
  | 2 => ("TrustChain$Paper", "entries", "Ljava/util/ArrayList;", true)
  | 3 => ("TrustChain$Paper", "body", "LTrustChain$Slice;", false)
  | 4 => ("TrustChain$Paper", "signature", "LTrustChain$Slice;", false)
  | 5 => ("TrustChain$Paper", "issuer", "LTrustChain$Slice;", false)
  | 6 => ("TrustChain$Paper", "first", "J", false)
  | 7 => ("TrustChain$Paper", "last", "J", false)
  | _ => ("TrustChain$Paper", "matters", "I", false)
def t_Paper : Nat → FieldType := fun k => match k with
  | 0 => (.array .int)
  | 1 => (.array .int)
  | 2 => (.object "java/util/ArrayList")
  | 3 => (.object "TrustChain$Slice")
  | 4 => (.object "TrustChain$Slice")
  | 5 => (.object "TrustChain$Slice")
  | 6 => .long
  | 7 => .long
  | _ => .int
theorem n_Paper : ∀ a, a < 9 → ∀ b, b < 9 → a ≠ b → (F_Paper a).2.1 ≠ (F_Paper b).2.1 := by decide +kernel
theorem t_Paper_ok : ∀ k, k < 9 → parseFieldDescriptor (F_Paper k).2.2.1 = some (t_Paper k) := by decide +kernel
theorem i_Paper : ∀ w ∈ u_ws "TrustChain$Paper" F_Paper 9, w ∈ tb := by
  intro w hw
  obtain ⟨k, hk, rfl⟩ := List.mem_map.mp hw
  have hk := List.mem_range.mp hk
  match k, hk with
  | 0, _ => exact q5_65
  | 1, _ => exact q5_66
  | 2, _ => exact q5_67
  | 3, _ => exact q5_68
  | 4, _ => exact q5_69
  | 5, _ => exact q5_70
  | 6, _ => exact q5_71
  | 7, _ => exact q5_72
  | 8, _ => exact q5_73
  | k + 9, h => exact absurd h (by omega)
def F_Certificate : u_T := fun k => match k with
  | 0 => ("TrustChain$Certificate", "names", "LTrustChain$NameSet;", true)
  | 1 => ("TrustChain$Certificate", "permitted", "LTrustChain$NameSet;", true)
  | 2 => ("TrustChain$Certificate", "excluded", "LTrustChain$NameSet;", true)
  | 3 => ("TrustChain$Certificate", "serial", "LTrustChain$Slice;", false)
  | 4 => ("TrustChain$Certificate", "subject", "LTrustChain$Slice;", false)
  | 5 => ("TrustChain$Certificate", "modulus", "LTrustChain$Slice;", false)
  | 6 => ("TrustChain$Certificate", "ownKey", "LTrustChain$Slice;", false)
  | 7 => ("TrustChain$Certificate", "issuerKey", "LTrustChain$Slice;", false)
  | 8 => ("TrustChain$Certificate", "subjectParts", "I", false)
  | 9 => ("TrustChain$Certificate", "modulusBits", "I", false)
  | 10 => ("TrustChain$Certificate", "exponent", "I", false)
  | 11 => ("TrustChain$Certificate", "ca", "Z", false)
  | 12 => ("TrustChain$Certificate", "pathLength", "I", false)
  | 13 => ("TrustChain$Certificate", "usage", "I", false)
  | 14 => ("TrustChain$Certificate", "extensions", "I", false)
  | 15 => ("TrustChain$Certificate", "selfIssued", "Z", false)
  | 16 => ("TrustChain$Certificate", "trusted", "Z", false)
  | 17 => ("TrustChain$Certificate", "number", "I", false)
  | 18 => ("TrustChain$Certificate", "issuers", "I", false)
  | 19 => ("TrustChain$Paper", "hash", "[I", true)
  | 20 => ("TrustChain$Paper", "signers", "[I", true)
  | 21 => ("TrustChain$Paper", "entries", "Ljava/util/ArrayList;", true)
  | 22 => ("TrustChain$Paper", "body", "LTrustChain$Slice;", false)
  | 23 => ("TrustChain$Paper", "signature", "LTrustChain$Slice;", false)
  | 24 => ("TrustChain$Paper", "issuer", "LTrustChain$Slice;", false)
  | 25 => ("TrustChain$Paper", "first", "J", false)
  | 26 => ("TrustChain$Paper", "last", "J", false)
  | _ => ("TrustChain$Paper", "matters", "I", false)
def t_Certificate : Nat → FieldType := fun k => match k with
  | 0 => (.object "TrustChain$NameSet")
  | 1 => (.object "TrustChain$NameSet")
  | 2 => (.object "TrustChain$NameSet")
  | 3 => (.object "TrustChain$Slice")
  | 4 => (.object "TrustChain$Slice")
  | 5 => (.object "TrustChain$Slice")
  | 6 => (.object "TrustChain$Slice")
  | 7 => (.object "TrustChain$Slice")
  | 8 => .int
  | 9 => .int
  | 10 => .int
  | 11 => .boolean
  | 12 => .int
  | 13 => .int
  | 14 => .int
  | 15 => .boolean
  | 16 => .boolean
  | 17 => .int
  | 18 => .int
  | 19 => (.array .int)
  | 20 => (.array .int)
  | 21 => (.object "java/util/ArrayList")
  | 22 => (.object "TrustChain$Slice")
  | 23 => (.object "TrustChain$Slice")
  | 24 => (.object "TrustChain$Slice")
  | 25 => .long
  | 26 => .long
  | _ => .int
theorem n_Certificate : ∀ a, a < 28 → ∀ b, b < 28 → a ≠ b → (F_Certificate a).2.1 ≠ (F_Certificate b).2.1 := by decide +kernel
theorem t_Certificate_ok : ∀ k, k < 28 → parseFieldDescriptor (F_Certificate k).2.2.1 = some (t_Certificate k) := by decide +kernel
theorem i_Certificate : ∀ w ∈ u_ws "TrustChain$Certificate" F_Certificate 28, w ∈ tb := by
  intro w hw
  obtain ⟨k, hk, rfl⟩ := List.mem_map.mp hw
  have hk := List.mem_range.mp hk
  match k, hk with
  | 0, _ => exact q2_238
  | 1, _ => exact q3_0
  | 2, _ => exact q3_2
  | 3, _ => exact q3_4
  | 4, _ => exact q3_6
  | 5, _ => exact q3_8
  | 6, _ => exact q3_10
  | 7, _ => exact q3_12
  | 8, _ => exact q3_14
  | 9, _ => exact q3_16
  | 10, _ => exact q3_18
  | 11, _ => exact q3_20
  | 12, _ => exact q3_22
  | 13, _ => exact q3_24
  | 14, _ => exact q3_26
  | 15, _ => exact q3_28
  | 16, _ => exact q3_30
  | 17, _ => exact q3_32
  | 18, _ => exact q3_34
  | 19, _ => exact q3_36
  | 20, _ => exact q3_38
  | 21, _ => exact q3_40
  | 22, _ => exact q3_42
  | 23, _ => exact q3_44
  | 24, _ => exact q3_46
  | 25, _ => exact q3_48
  | 26, _ => exact q3_50
  | 27, _ => exact q3_52
  | k + 28, h => exact absurd h (by omega)
def F_CertificateReader : u_T := fun k => match k with
  | 0 => ("TrustChain$CertificateReader", "result", "LTrustChain$Certificate;", true)
  | 1 => ("TrustChain$Reader", "text", "[B", true)
  | 2 => ("TrustChain$Reader", "place", "I", false)
  | 3 => ("TrustChain$Reader", "start", "I", false)
  | 4 => ("TrustChain$Reader", "wrongAt", "I", false)
  | 5 => ("TrustChain$Reader", "parts", "I", false)
  | 6 => ("TrustChain$Reader", "matters", "I", false)
  | 7 => ("TrustChain$Reader", "extensions", "I", false)
  | _ => ("TrustChain$Reader", "kinds", "Ljava/util/ArrayList;", true)
def t_CertificateReader : Nat → FieldType := fun k => match k with
  | 0 => (.object "TrustChain$Certificate")
  | 1 => (.array .byte)
  | 2 => .int
  | 3 => .int
  | 4 => .int
  | 5 => .int
  | 6 => .int
  | 7 => .int
  | _ => (.object "java/util/ArrayList")
theorem n_CertificateReader : ∀ a, a < 9 → ∀ b, b < 9 → a ≠ b → (F_CertificateReader a).2.1 ≠ (F_CertificateReader b).2.1 := by decide +kernel
theorem t_CertificateReader_ok : ∀ k, k < 9 → parseFieldDescriptor (F_CertificateReader k).2.2.1 = some (t_CertificateReader k) := by decide +kernel
theorem i_CertificateReader : ∀ w ∈ u_ws "TrustChain$CertificateReader" F_CertificateReader 9, w ∈ tb := by
  intro w hw
  obtain ⟨k, hk, rfl⟩ := List.mem_map.mp hw
  have hk := List.mem_range.mp hk
  match k, hk with
  | 0, _ => exact q3_85
  | 1, _ => exact q3_87
  | 2, _ => exact q3_89
  | 3, _ => exact q3_91
  | 4, _ => exact q3_93
  | 5, _ => exact q3_95
  | 6, _ => exact q3_97
  | 7, _ => exact q3_99
  | 8, _ => exact q3_101
  | k + 9, h => exact absurd h (by omega)
def F_ListReader : u_T := fun k => match k with
  | 0 => ("TrustChain$ListReader", "result", "LTrustChain$Paper;", true)
  | 1 => ("TrustChain$ListReader", "inEntry", "Z", false)
  | 2 => ("TrustChain$Reader", "text", "[B", true)
  | 3 => ("TrustChain$Reader", "place", "I", false)
  | 4 => ("TrustChain$Reader", "start", "I", false)
  | 5 => ("TrustChain$Reader", "wrongAt", "I", false)
  | 6 => ("TrustChain$Reader", "parts", "I", false)
  | 7 => ("TrustChain$Reader", "matters", "I", false)
  | 8 => ("TrustChain$Reader", "extensions", "I", false)
  | _ => ("TrustChain$Reader", "kinds", "Ljava/util/ArrayList;", true)
def t_ListReader : Nat → FieldType := fun k => match k with
  | 0 => (.object "TrustChain$Paper")
  | 1 => .boolean
  | 2 => (.array .byte)
  | 3 => .int
  | 4 => .int
  | 5 => .int
  | 6 => .int
  | 7 => .int
  | 8 => .int
  | _ => (.object "java/util/ArrayList")
theorem n_ListReader : ∀ a, a < 10 → ∀ b, b < 10 → a ≠ b → (F_ListReader a).2.1 ≠ (F_ListReader b).2.1 := by decide +kernel
theorem t_ListReader_ok : ∀ k, k < 10 → parseFieldDescriptor (F_ListReader k).2.2.1 = some (t_ListReader k) := by decide +kernel
theorem i_ListReader : ∀ w ∈ u_ws "TrustChain$ListReader" F_ListReader 10, w ∈ tb := by
  intro w hw
  obtain ⟨k, hk, rfl⟩ := List.mem_map.mp hw
  have hk := List.mem_range.mp hk
  match k, hk with
  | 0, _ => exact q5_78
  | 1, _ => exact q5_80
  | 2, _ => exact q5_82
  | 3, _ => exact q5_83
  | 4, _ => exact q5_84
  | 5, _ => exact q5_85
  | 6, _ => exact q5_86
  | 7, _ => exact q5_87
  | 8, _ => exact q5_88
  | 9, _ => exact q5_89
  | k + 10, h => exact absurd h (by omega)
def F_Sha256 : u_T := fun k => match k with
  | _ => ("TrustChain$Sha256", "schedule", "[I", true)
def t_Sha256 : Nat → FieldType := fun k => match k with
  | _ => (.array .int)
theorem n_Sha256 : ∀ a, a < 1 → ∀ b, b < 1 → a ≠ b → (F_Sha256 a).2.1 ≠ (F_Sha256 b).2.1 := by decide +kernel
theorem t_Sha256_ok : ∀ k, k < 1 → parseFieldDescriptor (F_Sha256 k).2.2.1 = some (t_Sha256 k) := by decide +kernel
theorem i_Sha256 : ∀ w ∈ u_ws "TrustChain$Sha256" F_Sha256 1, w ∈ tb := by
  intro w hw
  obtain ⟨k, hk, rfl⟩ := List.mem_map.mp hw
  have hk := List.mem_range.mp hk
  match k, hk with
  | 0, _ => exact q1_75
  | k + 1, h => exact absurd h (by omega)
def F_Rsa : u_T := fun k => match k with
  | 0 => ("TrustChain$Rsa", "modulus", "[J", true)
  | 1 => ("TrustChain$Rsa", "square", "[J", true)
  | 2 => ("TrustChain$Rsa", "base", "[J", true)
  | 3 => ("TrustChain$Rsa", "power", "[J", true)
  | 4 => ("TrustChain$Rsa", "unit", "[J", true)
  | 5 => ("TrustChain$Rsa", "sum", "[J", true)
  | 6 => ("TrustChain$Rsa", "limbs", "I", false)
  | _ => ("TrustChain$Rsa", "inverse", "J", false)
def t_Rsa : Nat → FieldType := fun k => match k with
  | 0 => (.array .long)
  | 1 => (.array .long)
  | 2 => (.array .long)
  | 3 => (.array .long)
  | 4 => (.array .long)
  | 5 => (.array .long)
  | 6 => .int
  | _ => .long
theorem n_Rsa : ∀ a, a < 8 → ∀ b, b < 8 → a ≠ b → (F_Rsa a).2.1 ≠ (F_Rsa b).2.1 := by decide +kernel
theorem t_Rsa_ok : ∀ k, k < 8 → parseFieldDescriptor (F_Rsa k).2.2.1 = some (t_Rsa k) := by decide +kernel
theorem i_Rsa : ∀ w ∈ u_ws "TrustChain$Rsa" F_Rsa 8, w ∈ tb := by
  intro w hw
  obtain ⟨k, hk, rfl⟩ := List.mem_map.mp hw
  have hk := List.mem_range.mp hk
  match k, hk with
  | 0, _ => exact q1_93
  | 1, _ => exact q1_95
  | 2, _ => exact q1_97
  | 3, _ => exact q1_99
  | 4, _ => exact q1_101
  | 5, _ => exact q1_103
  | 6, _ => exact q1_105
  | 7, _ => exact q1_107
  | k + 8, h => exact absurd h (by omega)
def F_Search : u_T := fun k => match k with
  | 0 => ("TrustChain$Search", "path", "Ljava/util/ArrayList;", true)
  | 1 => ("TrustChain$Search", "next", "[I", true)
  | 2 => ("TrustChain$Search", "depth", "I", false)
  | 3 => ("TrustChain$Search", "puts", "I", false)
  | _ => ("TrustChain$Search", "onPath", "I", false)
def t_Search : Nat → FieldType := fun k => match k with
  | 0 => (.object "java/util/ArrayList")
  | 1 => (.array .int)
  | 2 => .int
  | 3 => .int
  | _ => .int
theorem n_Search : ∀ a, a < 5 → ∀ b, b < 5 → a ≠ b → (F_Search a).2.1 ≠ (F_Search b).2.1 := by decide +kernel
theorem t_Search_ok : ∀ k, k < 5 → parseFieldDescriptor (F_Search k).2.2.1 = some (t_Search k) := by decide +kernel
theorem i_Search : ∀ w ∈ u_ws "TrustChain$Search" F_Search 5, w ∈ tb := by
  intro w hw
  obtain ⟨k, hk, rfl⟩ := List.mem_map.mp hw
  have hk := List.mem_range.mp hk
  match k, hk with
  | 0, _ => exact q1_125
  | 1, _ => exact q1_127
  | 2, _ => exact q1_129
  | 3, _ => exact q1_131
  | 4, _ => exact q1_133
  | k + 5, h => exact absurd h (by omega)
def F_PathCheck : u_T := fun k => match k with
  | 0 => ("TrustChain$PathCheck", "faultPlace", "I", false)
  | 1 => ("TrustChain$PathCheck", "time", "J", false)
  | 2 => ("TrustChain$PathCheck", "knownWanted", "Z", false)
  | _ => ("TrustChain$PathCheck", "isKnown", "Z", false)
def t_PathCheck : Nat → FieldType := fun k => match k with
  | 0 => .int
  | 1 => .long
  | 2 => .boolean
  | _ => .boolean
theorem n_PathCheck : ∀ a, a < 4 → ∀ b, b < 4 → a ≠ b → (F_PathCheck a).2.1 ≠ (F_PathCheck b).2.1 := by decide +kernel
theorem t_PathCheck_ok : ∀ k, k < 4 → parseFieldDescriptor (F_PathCheck k).2.2.1 = some (t_PathCheck k) := by decide +kernel
theorem i_PathCheck : ∀ w ∈ u_ws "TrustChain$PathCheck" F_PathCheck 4, w ∈ tb := by
  intro w hw
  obtain ⟨k, hk, rfl⟩ := List.mem_map.mp hw
  have hk := List.mem_range.mp hk
  match k, hk with
  | 0, _ => exact q1_147
  | 1, _ => exact q1_149
  | 2, _ => exact q1_151
  | 3, _ => exact q1_153
  | k + 4, h => exact absurd h (by omega)
def F_Trust : u_T := fun k => match k with
  | 0 => ("TrustChain", "fed", "[B", true)
  | 1 => ("TrustChain", "host", "[B", true)
  | 2 => ("TrustChain", "certificates", "Ljava/util/ArrayList;", true)
  | 3 => ("TrustChain", "lists", "Ljava/util/ArrayList;", true)
  | 4 => ("TrustChain", "sha", "LTrustChain$Sha256;", true)
  | 5 => ("TrustChain", "rsa", "LTrustChain$Rsa;", true)
  | 6 => ("TrustChain", "search", "LTrustChain$Search;", true)
  | 7 => ("TrustChain", "check", "LTrustChain$PathCheck;", true)
  | 8 => ("TrustChain", "found", "[I", true)
  | 9 => ("TrustChain", "foundSize", "I", false)
  | 10 => ("TrustChain", "chainsSeen", "I", false)
  | 11 => ("TrustChain", "faultPlace", "I", false)
  | 12 => ("TrustChain", "fedSize", "I", false)
  | _ => ("TrustChain", "wrongPlace", "I", false)
def t_Trust : Nat → FieldType := fun k => match k with
  | 0 => (.array .byte)
  | 1 => (.array .byte)
  | 2 => (.object "java/util/ArrayList")
  | 3 => (.object "java/util/ArrayList")
  | 4 => (.object "TrustChain$Sha256")
  | 5 => (.object "TrustChain$Rsa")
  | 6 => (.object "TrustChain$Search")
  | 7 => (.object "TrustChain$PathCheck")
  | 8 => (.array .int)
  | 9 => .int
  | 10 => .int
  | 11 => .int
  | 12 => .int
  | _ => .int
theorem n_Trust : ∀ a, a < 14 → ∀ b, b < 14 → a ≠ b → (F_Trust a).2.1 ≠ (F_Trust b).2.1 := by decide +kernel
theorem t_Trust_ok : ∀ k, k < 14 → parseFieldDescriptor (F_Trust k).2.2.1 = some (t_Trust k) := by decide +kernel
theorem i_Trust : ∀ w ∈ u_ws "TrustChain" F_Trust 14, w ∈ tb := by
  intro w hw
  obtain ⟨k, hk, rfl⟩ := List.mem_map.mp hw
  have hk := List.mem_range.mp hk
  match k, hk with
  | 0, _ => exact q1_170
  | 1, _ => exact q1_172
  | 2, _ => exact q1_174
  | 3, _ => exact q1_176
  | 4, _ => exact q1_178
  | 5, _ => exact q1_180
  | 6, _ => exact q1_182
  | 7, _ => exact q1_184
  | 8, _ => exact q1_186
  | 9, _ => exact q1_188
  | 10, _ => exact q1_190
  | 11, _ => exact q1_192
  | 12, _ => exact q1_194
  | 13, _ => exact q1_196
  | k + 14, h => exact absurd h (by omega)
def F_AL : u_T := fun k => match k with
  | 0 => ("java/util/ArrayList", "elementData", "[Ljava/lang/Object;", false)
  | 1 => ("java/util/ArrayList", "size", "I", false)
  | _ => ("java/util/AbstractList", "modCount", "I", false)
def t_AL : Nat → FieldType := fun k => match k with
  | 0 => (.array (.object "java/lang/Object"))
  | 1 => .int
  | _ => .int
theorem n_AL : ∀ a, a < 3 → ∀ b, b < 3 → a ≠ b → (F_AL a).2.1 ≠ (F_AL b).2.1 := by decide +kernel
theorem t_AL_ok : ∀ k, k < 3 → parseFieldDescriptor (F_AL k).2.2.1 = some (t_AL k) := by decide +kernel
theorem i_AL : ∀ w ∈ u_ws "java/util/ArrayList" F_AL 3, w ∈ tb := by
  intro w hw
  obtain ⟨k, hk, rfl⟩ := List.mem_map.mp hw
  have hk := List.mem_range.mp hk
  match k, hk with
  | 0, _ => exact q1_60
  | 1, _ => exact q1_62
  | 2, _ => exact q1_64
  | k + 3, h => exact absurd h (by omega)
def F_Model : u_T := fun k => match k with
  | 0 => ("TrustChainModel", "err", "I", false)
  | 1 => ("TrustChainModel", "fed", "I", false)
  | 2 => ("TrustChainModel", "wrong", "I", false)
  | 3 => ("TrustChainModel", "certificates", "I", false)
  | 4 => ("TrustChainModel", "lists", "I", false)
  | 5 => ("TrustChainModel", "octets", "[I", true)
  | 6 => ("TrustChainModel", "stored", "[LTrustChainModel$Text;", true)
  | 7 => ("TrustChainModel", "revoked", "[LTrustChainModel$Text;", true)
  | 8 => ("TrustChainModel", "spare", "LTrustChainModel$Text;", false)
  | 9 => ("TrustChainModel", "quotientSize", "I", false)
  | 10 => ("TrustChainModel", "rs", "[I", true)
  | 11 => ("TrustChainModel", "block", "[I", true)
  | 12 => ("TrustChainModel", "w", "[I", true)
  | 13 => ("TrustChainModel", "h", "[I", true)
  | 14 => ("TrustChainModel", "first", "[I", true)
  | 15 => ("TrustChainModel", "primes", "[I", true)
  | 16 => ("TrustChainModel", "x", "[I", true)
  | 17 => ("TrustChainModel", "y", "[I", true)
  | 18 => ("TrustChainModel", "m", "[I", true)
  | 19 => ("TrustChainModel", "q", "[I", true)
  | 20 => ("TrustChainModel", "z", "[I", true)
  | 21 => ("TrustChainModel", "way", "[I", true)
  | 22 => ("TrustChainModel", "found", "[I", true)
  | 23 => ("TrustChainModel", "size", "I", false)
  | 24 => ("TrustChainModel", "chainSize", "I", false)
  | 25 => ("TrustChainModel", "chains", "I", false)
  | 26 => ("TrustChainModel", "faultAt", "I", false)
  | 27 => ("TrustChainModel", "put", "I", false)
  | 28 => ("TrustChainModel", "depth", "I", false)
  | 29 => ("TrustChainModel", "verdict", "I", false)
  | 30 => ("TrustChainModel", "now", "J", false)
  | _ => ("TrustChainModel", "mustKnow", "Z", false)
def t_Model : Nat → FieldType := fun k => match k with
  | 0 => .int
  | 1 => .int
  | 2 => .int
  | 3 => .int
  | 4 => .int
  | 5 => (.array .int)
  | 6 => (.array (.object "TrustChainModel$Text"))
  | 7 => (.array (.object "TrustChainModel$Text"))
  | 8 => (.object "TrustChainModel$Text")
  | 9 => .int
  | 10 => (.array .int)
  | 11 => (.array .int)
  | 12 => (.array .int)
  | 13 => (.array .int)
  | 14 => (.array .int)
  | 15 => (.array .int)
  | 16 => (.array .int)
  | 17 => (.array .int)
  | 18 => (.array .int)
  | 19 => (.array .int)
  | 20 => (.array .int)
  | 21 => (.array .int)
  | 22 => (.array .int)
  | 23 => .int
  | 24 => .int
  | 25 => .int
  | 26 => .int
  | 27 => .int
  | 28 => .int
  | 29 => .int
  | 30 => .long
  | _ => .boolean
theorem n_Model : ∀ a, a < 32 → ∀ b, b < 32 → a ≠ b → (F_Model a).2.1 ≠ (F_Model b).2.1 := by decide +kernel
theorem t_Model_ok : ∀ k, k < 32 → parseFieldDescriptor (F_Model k).2.2.1 = some (t_Model k) := by decide +kernel
theorem i_Model : ∀ w ∈ u_ws "TrustChainModel" F_Model 32, w ∈ tb := by
  intro w hw
  obtain ⟨k, hk, rfl⟩ := List.mem_map.mp hw
  have hk := List.mem_range.mp hk
  match k, hk with
  | 0, _ => exact q8_6
  | 1, _ => exact q8_8
  | 2, _ => exact q8_10
  | 3, _ => exact q8_12
  | 4, _ => exact q8_14
  | 5, _ => exact q8_16
  | 6, _ => exact q8_18
  | 7, _ => exact q8_20
  | 8, _ => exact q8_22
  | 9, _ => exact q8_24
  | 10, _ => exact q8_26
  | 11, _ => exact q8_28
  | 12, _ => exact q8_30
  | 13, _ => exact q8_32
  | 14, _ => exact q8_34
  | 15, _ => exact q8_36
  | 16, _ => exact q8_38
  | 17, _ => exact q8_40
  | 18, _ => exact q8_42
  | 19, _ => exact q8_44
  | 20, _ => exact q8_46
  | 21, _ => exact q8_48
  | 22, _ => exact q8_50
  | 23, _ => exact q8_52
  | 24, _ => exact q8_54
  | 25, _ => exact q8_56
  | 26, _ => exact q8_58
  | 27, _ => exact q8_60
  | 28, _ => exact q8_62
  | 29, _ => exact q8_64
  | 30, _ => exact q8_66
  | 31, _ => exact q8_68
  | k + 32, h => exact absurd h (by omega)
def F_Text : u_T := fun k => match k with
  | 0 => ("TrustChainModel$Text", "d", "[I", true)
  | 1 => ("TrustChainModel$Text", "n", "I", false)
  | 2 => ("TrustChainModel$Text", "p", "I", false)
  | 3 => ("TrustChainModel$Text", "wrong", "I", false)
  | 4 => ("TrustChainModel$Text", "from", "I", false)
  | 5 => ("TrustChainModel$Text", "to", "I", false)
  | 6 => ("TrustChainModel$Text", "place", "I", false)
  | 7 => ("TrustChainModel$Text", "time0", "J", false)
  | 8 => ("TrustChainModel$Text", "time1", "J", false)
  | 9 => ("TrustChainModel$Text", "latest", "J", false)
  | 10 => ("TrustChainModel$Text", "serial", "I", false)
  | 11 => ("TrustChainModel$Text", "serialEnd", "I", false)
  | 12 => ("TrustChainModel$Text", "issuer", "I", false)
  | 13 => ("TrustChainModel$Text", "issuerEnd", "I", false)
  | 14 => ("TrustChainModel$Text", "subject", "I", false)
  | 15 => ("TrustChainModel$Text", "subjectEnd", "I", false)
  | 16 => ("TrustChainModel$Text", "subjectParts", "I", false)
  | 17 => ("TrustChainModel$Text", "parts", "I", false)
  | 18 => ("TrustChainModel$Text", "modulus", "I", false)
  | 19 => ("TrustChainModel$Text", "modulusEnd", "I", false)
  | 20 => ("TrustChainModel$Text", "exponent", "I", false)
  | 21 => ("TrustChainModel$Text", "tbs", "I", false)
  | 22 => ("TrustChainModel$Text", "tbsEnd", "I", false)
  | 23 => ("TrustChainModel$Text", "signature", "I", false)
  | 24 => ("TrustChainModel$Text", "signatureEnd", "I", false)
  | 25 => ("TrustChainModel$Text", "length", "I", false)
  | 26 => ("TrustChainModel$Text", "usage", "I", false)
  | 27 => ("TrustChainModel$Text", "dns", "I", false)
  | 28 => ("TrustChainModel$Text", "dirs", "I", false)
  | 29 => ("TrustChainModel$Text", "extensions", "I", false)
  | 30 => ("TrustChainModel$Text", "matters", "I", false)
  | 31 => ("TrustChainModel$Text", "ownKey", "I", false)
  | 32 => ("TrustChainModel$Text", "ownKeyEnd", "I", false)
  | 33 => ("TrustChainModel$Text", "issuerKey", "I", false)
  | 34 => ("TrustChainModel$Text", "issuerKeyEnd", "I", false)
  | 35 => ("TrustChainModel$Text", "trees", "I", false)
  | 36 => ("TrustChainModel$Text", "entries", "I", false)
  | 37 => ("TrustChainModel$Text", "oids", "I", false)
  | 38 => ("TrustChainModel$Text", "nameAt", "I", false)
  | 39 => ("TrustChainModel$Text", "nameEnd", "I", false)
  | 40 => ("TrustChainModel$Text", "ca", "Z", false)
  | 41 => ("TrustChainModel$Text", "basic", "Z", false)
  | 42 => ("TrustChainModel$Text", "trusted", "Z", false)
  | 43 => ("TrustChainModel$Text", "dnsAt", "[I", true)
  | 44 => ("TrustChainModel$Text", "dnsEnd", "[I", true)
  | 45 => ("TrustChainModel$Text", "dirAt", "[I", true)
  | 46 => ("TrustChainModel$Text", "dirEnd", "[I", true)
  | 47 => ("TrustChainModel$Text", "treeAt", "[I", true)
  | 48 => ("TrustChainModel$Text", "treeEnd", "[I", true)
  | 49 => ("TrustChainModel$Text", "treeKind", "[I", true)
  | 50 => ("TrustChainModel$Text", "entryAt", "[I", true)
  | 51 => ("TrustChainModel$Text", "entryEnd", "[I", true)
  | 52 => ("TrustChainModel$Text", "oidAt", "[I", true)
  | _ => ("TrustChainModel$Text", "oidEnd", "[I", true)
def t_Text : Nat → FieldType := fun k => match k with
  | 0 => (.array .int)
  | 1 => .int
  | 2 => .int
  | 3 => .int
  | 4 => .int
  | 5 => .int
  | 6 => .int
  | 7 => .long
  | 8 => .long
  | 9 => .long
  | 10 => .int
  | 11 => .int
  | 12 => .int
  | 13 => .int
  | 14 => .int
  | 15 => .int
  | 16 => .int
  | 17 => .int
  | 18 => .int
  | 19 => .int
  | 20 => .int
  | 21 => .int
  | 22 => .int
  | 23 => .int
  | 24 => .int
  | 25 => .int
  | 26 => .int
  | 27 => .int
  | 28 => .int
  | 29 => .int
  | 30 => .int
  | 31 => .int
  | 32 => .int
  | 33 => .int
  | 34 => .int
  | 35 => .int
  | 36 => .int
  | 37 => .int
  | 38 => .int
  | 39 => .int
  | 40 => .boolean
  | 41 => .boolean
  | 42 => .boolean
  | 43 => (.array .int)
  | 44 => (.array .int)
  | 45 => (.array .int)
  | 46 => (.array .int)
  | 47 => (.array .int)
  | 48 => (.array .int)
  | 49 => (.array .int)
  | 50 => (.array .int)
  | 51 => (.array .int)
  | 52 => (.array .int)
  | _ => (.array .int)
theorem n_Text : ∀ a, a < 54 → ∀ b, b < 54 → a ≠ b → (F_Text a).2.1 ≠ (F_Text b).2.1 := by decide +kernel
theorem t_Text_ok : ∀ k, k < 54 → parseFieldDescriptor (F_Text k).2.2.1 = some (t_Text k) := by decide +kernel
theorem i_Text : ∀ w ∈ u_ws "TrustChainModel$Text" F_Text 54, w ∈ tb := by
  intro w hw
  obtain ⟨k, hk, rfl⟩ := List.mem_map.mp hw
  have hk := List.mem_range.mp hk
  match k, hk with
  | 0, _ => exact q7_33
  | 1, _ => exact q7_35
  | 2, _ => exact q7_37
  | 3, _ => exact q7_39
  | 4, _ => exact q7_41
  | 5, _ => exact q7_43
  | 6, _ => exact q7_45
  | 7, _ => exact q7_47
  | 8, _ => exact q7_49
  | 9, _ => exact q7_51
  | 10, _ => exact q7_53
  | 11, _ => exact q7_55
  | 12, _ => exact q7_57
  | 13, _ => exact q7_59
  | 14, _ => exact q7_61
  | 15, _ => exact q7_63
  | 16, _ => exact q7_65
  | 17, _ => exact q7_67
  | 18, _ => exact q7_69
  | 19, _ => exact q7_71
  | 20, _ => exact q7_73
  | 21, _ => exact q7_75
  | 22, _ => exact q7_77
  | 23, _ => exact q7_79
  | 24, _ => exact q7_81
  | 25, _ => exact q7_83
  | 26, _ => exact q7_85
  | 27, _ => exact q7_87
  | 28, _ => exact q7_89
  | 29, _ => exact q7_91
  | 30, _ => exact q7_93
  | 31, _ => exact q7_95
  | 32, _ => exact q7_97
  | 33, _ => exact q7_99
  | 34, _ => exact q7_101
  | 35, _ => exact q7_103
  | 36, _ => exact q7_105
  | 37, _ => exact q7_107
  | 38, _ => exact q7_109
  | 39, _ => exact q7_111
  | 40, _ => exact q7_113
  | 41, _ => exact q7_115
  | 42, _ => exact q7_117
  | 43, _ => exact q7_119
  | 44, _ => exact q7_121
  | 45, _ => exact q7_123
  | 46, _ => exact q7_125
  | 47, _ => exact q7_127
  | 48, _ => exact q7_129
  | 49, _ => exact q7_131
  | 50, _ => exact q7_133
  | 51, _ => exact q7_135
  | 52, _ => exact q7_137
  | 53, _ => exact q7_139
  | k + 54, h => exact absurd h (by omega)
abbrev classes : List vw_C := [("TrustChain$Slice", F_Slice, 3), ("TrustChain$NameSet", F_NameSet, 2), ("TrustChain$Paper", F_Paper, 9), ("TrustChain$Certificate", F_Certificate, 28), ("TrustChain$CertificateReader", F_CertificateReader, 9), ("TrustChain$ListReader", F_ListReader, 10), ("TrustChain$Sha256", F_Sha256, 1), ("TrustChain$Rsa", F_Rsa, 8), ("TrustChain$Search", F_Search, 5), ("TrustChain$PathCheck", F_PathCheck, 4), ("TrustChain", F_Trust, 14), ("java/util/ArrayList", F_AL, 3), ("TrustChainModel", F_Model, 32), ("TrustChainModel$Text", F_Text, 54)]
