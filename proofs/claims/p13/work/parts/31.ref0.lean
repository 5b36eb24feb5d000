/-! The reference's methods where nothing is stored. -/
theorem fl_0 (cd : Int32) : flI 0 0 cd = 0 := if_pos rfl
def y_Model_noCertificate : MethodName := ⟨"TrustChainModel", "noCertificate", "(II)Z"⟩
abbrev b_Model_noCertificate : ByteArray := prog_14_method_19_code
def w_Model_noCertificate : List Cond := Cond.code y_Model_noCertificate b_Model_noCertificate 3 ((some FieldType.boolean)) :: tb
theorem d_Model_noCertificate_0 : decode b_Model_noCertificate 0 = .ok (.aload_n 0, 1) := by decide +kernel
theorem d_Model_noCertificate_1 : decode b_Model_noCertificate 1 = .ok (.iload_n 1, 1) := by decide +kernel
theorem d_Model_noCertificate_2 : decode b_Model_noCertificate 2 = .ok (.iconst 0, 1) := by decide +kernel
theorem d_Model_noCertificate_3 : decode b_Model_noCertificate 3 = .ok (.aload_n 0, 1) := by decide +kernel
theorem d_Model_noCertificate_4 : decode b_Model_noCertificate 4 = .ok (.getfield 183, 3) := by decide +kernel
theorem d_Model_noCertificate_7 : decode b_Model_noCertificate 7 = .ok (.iconst 1, 1) := by decide +kernel
theorem d_Model_noCertificate_8 : decode b_Model_noCertificate 8 = .ok (.isub, 1) := by decide +kernel
theorem d_Model_noCertificate_9 : decode b_Model_noCertificate 9 = .ok (.invokestatic 205, 3) := by decide +kernel
theorem d_Model_noCertificate_12 : decode b_Model_noCertificate 12 = .ok (.ifCond .ne 7, 3) := by decide +kernel
theorem d_Model_noCertificate_15 : decode b_Model_noCertificate 15 = .ok (.iconst 1, 1) := by decide +kernel
theorem d_Model_noCertificate_16 : decode b_Model_noCertificate 16 = .ok (.goto 4, 3) := by decide +kernel
theorem d_Model_noCertificate_19 : decode b_Model_noCertificate 19 = .ok (.iconst 0, 1) := by decide +kernel
theorem d_Model_noCertificate_20 : decode b_Model_noCertificate 20 = .ok (.iload_n 2, 1) := by decide +kernel
theorem d_Model_noCertificate_21 : decode b_Model_noCertificate 21 = .ok (.invokevirtual 176, 3) := by decide +kernel
theorem d_Model_noCertificate_24 : decode b_Model_noCertificate 24 = .ok (.ireturn, 1) := by decide +kernel
def y_Model_trust : MethodName := ⟨"TrustChainModel", "trust", "(IZ)Z"⟩
abbrev b_Model_trust : ByteArray := prog_14_method_20_code
def w_Model_trust : List Cond := Cond.code y_Model_trust b_Model_trust 4 ((some FieldType.boolean)) :: tb
theorem d_Model_trust_0 : decode b_Model_trust 0 = .ok (.aload_n 0, 1) := by decide +kernel
theorem d_Model_trust_1 : decode b_Model_trust 1 = .ok (.iconst 0, 1) := by decide +kernel
theorem d_Model_trust_2 : decode b_Model_trust 2 = .ok (.putfield 145, 3) := by decide +kernel
theorem d_Model_trust_5 : decode b_Model_trust 5 = .ok (.aload_n 0, 1) := by decide +kernel
theorem d_Model_trust_6 : decode b_Model_trust 6 = .ok (.iload_n 1, 1) := by decide +kernel
theorem d_Model_trust_7 : decode b_Model_trust 7 = .ok (.iconst 1, 1) := by decide +kernel
theorem d_Model_trust_8 : decode b_Model_trust 8 = .ok (.invokevirtual 209, 3) := by decide +kernel
theorem d_Model_trust_11 : decode b_Model_trust 11 = .ok (.ifCond .eq 5, 3) := by decide +kernel
theorem d_Model_trust_14 : decode b_Model_trust 14 = .ok (.iconst 0, 1) := by decide +kernel
theorem d_Model_trust_15 : decode b_Model_trust 15 = .ok (.ireturn, 1) := by decide +kernel
theorem d_Model_trust_16 : decode b_Model_trust 16 = .ok (.aload_n 0, 1) := by decide +kernel
def y_Model_covers : MethodName := ⟨"TrustChainModel", "covers", "(IJJJJ)Z"⟩
abbrev b_Model_covers : ByteArray := prog_14_method_44_code
def w_Model_covers : List Cond := Cond.code y_Model_covers b_Model_covers 16 ((some FieldType.boolean)) :: tb
theorem d_Model_covers_0 : decode b_Model_covers 0 = .ok (.aload_n 0, 1) := by decide +kernel
theorem d_Model_covers_1 : decode b_Model_covers 1 = .ok (.iconst 0, 1) := by decide +kernel
theorem d_Model_covers_2 : decode b_Model_covers 2 = .ok (.putfield 145, 3) := by decide +kernel
theorem d_Model_covers_5 : decode b_Model_covers 5 = .ok (.aload_n 0, 1) := by decide +kernel
theorem d_Model_covers_6 : decode b_Model_covers 6 = .ok (.iload_n 1, 1) := by decide +kernel
theorem d_Model_covers_7 : decode b_Model_covers 7 = .ok (.iconst 1, 1) := by decide +kernel
theorem d_Model_covers_8 : decode b_Model_covers 8 = .ok (.invokevirtual 209, 3) := by decide +kernel
theorem d_Model_covers_11 : decode b_Model_covers 11 = .ok (.ifCond .eq 5, 3) := by decide +kernel
theorem d_Model_covers_14 : decode b_Model_covers 14 = .ok (.iconst 0, 1) := by decide +kernel
theorem d_Model_covers_15 : decode b_Model_covers 15 = .ok (.ireturn, 1) := by decide +kernel
theorem d_Model_covers_16 : decode b_Model_covers 16 = .ok (.iconst 0, 1) := by decide +kernel
