/-! The reference's small methods. -/
def y_Model_wrong : MethodName := ⟨"TrustChainModel", "wrong", "()I"⟩
abbrev b_Model_wrong : ByteArray := prog_14_method_18_code
def w_Model_wrong : List Cond := Cond.code y_Model_wrong b_Model_wrong 1 ((some FieldType.int)) :: tb
theorem d_Model_wrong_0 : decode b_Model_wrong 0 = .ok (.aload_n 0, 1) := by decide +kernel
theorem d_Model_wrong_1 : decode b_Model_wrong 1 = .ok (.iconst 0, 1) := by decide +kernel
theorem d_Model_wrong_2 : decode b_Model_wrong 2 = .ok (.putfield 145, 3) := by decide +kernel
theorem d_Model_wrong_5 : decode b_Model_wrong 5 = .ok (.aload_n 0, 1) := by decide +kernel
theorem d_Model_wrong_6 : decode b_Model_wrong 6 = .ok (.getfield 7, 3) := by decide +kernel
theorem d_Model_wrong_9 : decode b_Model_wrong 9 = .ok (.ireturn, 1) := by decide +kernel
def y_Model_fails : MethodName := ⟨"TrustChainModel", "fails", "(ZI)Z"⟩
abbrev b_Model_fails : ByteArray := prog_14_method_13_code
def w_Model_fails : List Cond := Cond.code y_Model_fails b_Model_fails 3 ((some FieldType.boolean)) :: tb
theorem d_Model_fails_0 : decode b_Model_fails 0 = .ok (.iload_n 1, 1) := by decide +kernel
theorem d_Model_fails_1 : decode b_Model_fails 1 = .ok (.ifCond .eq 15, 3) := by decide +kernel
theorem d_Model_fails_4 : decode b_Model_fails 4 = .ok (.aload_n 0, 1) := by decide +kernel
theorem d_Model_fails_5 : decode b_Model_fails 5 = .ok (.getfield 145, 3) := by decide +kernel
theorem d_Model_fails_8 : decode b_Model_fails 8 = .ok (.ifCond .ne 8, 3) := by decide +kernel
theorem d_Model_fails_11 : decode b_Model_fails 11 = .ok (.aload_n 0, 1) := by decide +kernel
theorem d_Model_fails_12 : decode b_Model_fails 12 = .ok (.iload_n 2, 1) := by decide +kernel
theorem d_Model_fails_13 : decode b_Model_fails 13 = .ok (.putfield 145, 3) := by decide +kernel
theorem d_Model_fails_16 : decode b_Model_fails 16 = .ok (.aload_n 0, 1) := by decide +kernel
theorem d_Model_fails_17 : decode b_Model_fails 17 = .ok (.getfield 145, 3) := by decide +kernel
theorem d_Model_fails_20 : decode b_Model_fails 20 = .ok (.ifCond .eq 7, 3) := by decide +kernel
theorem d_Model_fails_23 : decode b_Model_fails 23 = .ok (.iconst 1, 1) := by decide +kernel
theorem d_Model_fails_24 : decode b_Model_fails 24 = .ok (.goto 4, 3) := by decide +kernel
theorem d_Model_fails_27 : decode b_Model_fails 27 = .ok (.iconst 0, 1) := by decide +kernel
theorem d_Model_fails_28 : decode b_Model_fails 28 = .ok (.ireturn, 1) := by decide +kernel
