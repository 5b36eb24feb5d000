/-! The reference's part and validate where nothing is stored. -/
def y_Model_part : MethodName := ⟨"TrustChainModel", "part", "(II)J"⟩
abbrev b_Model_part : ByteArray := prog_14_method_21_code
def w_Model_part : List Cond := Cond.code y_Model_part b_Model_part 6 ((some FieldType.long)) :: tb
theorem d_Model_part_0 : decode b_Model_part 0 = .ok (.aload_n 0, 1) := by decide +kernel
theorem d_Model_part_1 : decode b_Model_part 1 = .ok (.iconst 0, 1) := by decide +kernel
theorem d_Model_part_2 : decode b_Model_part 2 = .ok (.putfield 145, 3) := by decide +kernel
theorem d_Model_part_5 : decode b_Model_part 5 = .ok (.aload_n 0, 1) := by decide +kernel
theorem d_Model_part_6 : decode b_Model_part 6 = .ok (.iload_n 2, 1) := by decide +kernel
theorem d_Model_part_7 : decode b_Model_part 7 = .ok (.iconst 0, 1) := by decide +kernel
theorem d_Model_part_8 : decode b_Model_part 8 = .ok (.bipush 11, 2) := by decide +kernel
theorem d_Model_part_10 : decode b_Model_part 10 = .ok (.invokestatic 205, 3) := by decide +kernel
theorem d_Model_part_13 : decode b_Model_part 13 = .ok (.ifCond .ne 7, 3) := by decide +kernel
theorem d_Model_part_16 : decode b_Model_part 16 = .ok (.iconst 1, 1) := by decide +kernel
theorem d_Model_part_17 : decode b_Model_part 17 = .ok (.goto 4, 3) := by decide +kernel
theorem d_Model_part_20 : decode b_Model_part 20 = .ok (.iconst 0, 1) := by decide +kernel
theorem d_Model_part_21 : decode b_Model_part 21 = .ok (.iconst 1, 1) := by decide +kernel
theorem d_Model_part_22 : decode b_Model_part 22 = .ok (.invokevirtual 176, 3) := by decide +kernel
theorem d_Model_part_25 : decode b_Model_part 25 = .ok (.ifCond .ne 12, 3) := by decide +kernel
theorem d_Model_part_28 : decode b_Model_part 28 = .ok (.aload_n 0, 1) := by decide +kernel
theorem d_Model_part_29 : decode b_Model_part 29 = .ok (.iload_n 1, 1) := by decide +kernel
theorem d_Model_part_30 : decode b_Model_part 30 = .ok (.iconst 2, 1) := by decide +kernel
theorem d_Model_part_31 : decode b_Model_part 31 = .ok (.invokevirtual 209, 3) := by decide +kernel
theorem d_Model_part_34 : decode b_Model_part 34 = .ok (.ifCond .eq 5, 3) := by decide +kernel
theorem d_Model_part_37 : decode b_Model_part 37 = .ok (.lconst 0, 1) := by decide +kernel
theorem d_Model_part_38 : decode b_Model_part 38 = .ok (.lreturn, 1) := by decide +kernel
theorem d_Model_part_39 : decode b_Model_part 39 = .ok (.aload_n 0, 1) := by decide +kernel
def y_Model_validate : MethodName := ⟨"TrustChainModel", "validate", "(IJIZ)I"⟩
abbrev b_Model_validate : ByteArray := prog_14_method_31_code
def w_Model_validate : List Cond := Cond.code y_Model_validate b_Model_validate 6 ((some FieldType.int)) :: tb
theorem d_Model_validate_0 : decode b_Model_validate 0 = .ok (.aload_n 0, 1) := by decide +kernel
theorem d_Model_validate_1 : decode b_Model_validate 1 = .ok (.iconst 0, 1) := by decide +kernel
theorem d_Model_validate_2 : decode b_Model_validate 2 = .ok (.putfield 145, 3) := by decide +kernel
theorem d_Model_validate_5 : decode b_Model_validate 5 = .ok (.aload_n 0, 1) := by decide +kernel
theorem d_Model_validate_6 : decode b_Model_validate 6 = .ok (.iload 4, 2) := by decide +kernel
theorem d_Model_validate_8 : decode b_Model_validate 8 = .ok (.iconst 1, 1) := by decide +kernel
theorem d_Model_validate_9 : decode b_Model_validate 9 = .ok (.bipush 16, 2) := by decide +kernel
theorem d_Model_validate_11 : decode b_Model_validate 11 = .ok (.invokestatic 205, 3) := by decide +kernel
theorem d_Model_validate_14 : decode b_Model_validate 14 = .ok (.ifCond .ne 7, 3) := by decide +kernel
theorem d_Model_validate_17 : decode b_Model_validate 17 = .ok (.iconst 1, 1) := by decide +kernel
theorem d_Model_validate_18 : decode b_Model_validate 18 = .ok (.goto 4, 3) := by decide +kernel
theorem d_Model_validate_21 : decode b_Model_validate 21 = .ok (.iconst 0, 1) := by decide +kernel
theorem d_Model_validate_22 : decode b_Model_validate 22 = .ok (.iconst 1, 1) := by decide +kernel
theorem d_Model_validate_23 : decode b_Model_validate 23 = .ok (.invokevirtual 176, 3) := by decide +kernel
theorem d_Model_validate_26 : decode b_Model_validate 26 = .ok (.ifCond .ne 12, 3) := by decide +kernel
theorem d_Model_validate_29 : decode b_Model_validate 29 = .ok (.aload_n 0, 1) := by decide +kernel
theorem d_Model_validate_30 : decode b_Model_validate 30 = .ok (.iload_n 1, 1) := by decide +kernel
theorem d_Model_validate_31 : decode b_Model_validate 31 = .ok (.iconst 2, 1) := by decide +kernel
theorem d_Model_validate_32 : decode b_Model_validate 32 = .ok (.invokevirtual 209, 3) := by decide +kernel
theorem d_Model_validate_35 : decode b_Model_validate 35 = .ok (.ifCond .eq 5, 3) := by decide +kernel
theorem d_Model_validate_38 : decode b_Model_validate 38 = .ok (.iconst 0, 1) := by decide +kernel
theorem d_Model_validate_39 : decode b_Model_validate 39 = .ok (.ireturn, 1) := by decide +kernel
theorem d_Model_validate_40 : decode b_Model_validate 40 = .ok (.aload_n 0, 1) := by decide +kernel
