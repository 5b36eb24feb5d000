/-! TrustChain.Slice: octets of a text from one place up to another. u: the text's octets (below 256), n of them; a slice a..b. -/
/-- the cells of a text: bytes, as Java holds them -/
def tx (u : Nat → Nat) : Nat → Int32 := fun j => sb_b (u j)
theorem tx_at {u : Nat → Nat} (hu : ∀ j, u j < 256) (j : Nat) : tx u j &&& 255 = nI (u j) := (sb_byte (u j) (hu j)).1
/-- Slice.at: the octet, -1 outside -/
def sl_at (u : Nat → Nat) (a b : Nat) (i : Int32) : Int32 := if 0 ≤ i.toInt ∧ a + i.toInt.toNat < b then nI (u (a + i.toInt.toNat)) else -1
def y_Slice_length : MethodName := ⟨"TrustChain$Slice", "length", "()I"⟩
abbrev b_Slice_length : ByteArray := prog_12_method_2_code
def w_Slice_length : List Cond := Cond.code y_Slice_length b_Slice_length 1 ((some FieldType.int)) :: tb
theorem d_Slice_length_0 : decode b_Slice_length 0 = .ok (.aload_n 0, 1) := by decide +kernel
theorem d_Slice_length_1 : decode b_Slice_length 1 = .ok (.getfield 19, 3) := by decide +kernel
theorem d_Slice_length_4 : decode b_Slice_length 4 = .ok (.aload_n 0, 1) := by decide +kernel
theorem d_Slice_length_5 : decode b_Slice_length 5 = .ok (.getfield 15, 3) := by decide +kernel
theorem d_Slice_length_8 : decode b_Slice_length 8 = .ok (.isub, 1) := by decide +kernel
theorem d_Slice_length_9 : decode b_Slice_length 9 = .ok (.ireturn, 1) := by decide +kernel
def y_Slice_at : MethodName := ⟨"TrustChain$Slice", "at", "(I)I"⟩
abbrev b_Slice_at : ByteArray := prog_12_method_3_code
def w_Slice_at : List Cond := Cond.code y_Slice_at b_Slice_at 3 ((some FieldType.int)) :: tb
theorem d_Slice_at_0 : decode b_Slice_at 0 = .ok (.aload_n 0, 1) := by decide +kernel
theorem d_Slice_at_1 : decode b_Slice_at 1 = .ok (.getfield 15, 3) := by decide +kernel
theorem d_Slice_at_4 : decode b_Slice_at 4 = .ok (.iload_n 1, 1) := by decide +kernel
theorem d_Slice_at_5 : decode b_Slice_at 5 = .ok (.iadd, 1) := by decide +kernel
theorem d_Slice_at_6 : decode b_Slice_at 6 = .ok (.istore_n 2, 1) := by decide +kernel
theorem d_Slice_at_7 : decode b_Slice_at 7 = .ok (.iload_n 1, 1) := by decide +kernel
theorem d_Slice_at_8 : decode b_Slice_at 8 = .ok (.ifCond .lt 37, 3) := by decide +kernel
theorem d_Slice_at_11 : decode b_Slice_at 11 = .ok (.iload_n 2, 1) := by decide +kernel
theorem d_Slice_at_12 : decode b_Slice_at 12 = .ok (.ifCond .lt 33, 3) := by decide +kernel
theorem d_Slice_at_15 : decode b_Slice_at 15 = .ok (.iload_n 2, 1) := by decide +kernel
theorem d_Slice_at_16 : decode b_Slice_at 16 = .ok (.aload_n 0, 1) := by decide +kernel
theorem d_Slice_at_17 : decode b_Slice_at 17 = .ok (.getfield 19, 3) := by decide +kernel
theorem d_Slice_at_20 : decode b_Slice_at 20 = .ok (.if_icmp .ge 25, 3) := by decide +kernel
theorem d_Slice_at_23 : decode b_Slice_at 23 = .ok (.iload_n 2, 1) := by decide +kernel
theorem d_Slice_at_24 : decode b_Slice_at 24 = .ok (.aload_n 0, 1) := by decide +kernel
theorem d_Slice_at_25 : decode b_Slice_at 25 = .ok (.getfield 9, 3) := by decide +kernel
theorem d_Slice_at_28 : decode b_Slice_at 28 = .ok (.arraylength, 1) := by decide +kernel
theorem d_Slice_at_29 : decode b_Slice_at 29 = .ok (.if_icmp .ge 16, 3) := by decide +kernel
theorem d_Slice_at_32 : decode b_Slice_at 32 = .ok (.aload_n 0, 1) := by decide +kernel
theorem d_Slice_at_33 : decode b_Slice_at 33 = .ok (.getfield 9, 3) := by decide +kernel
theorem d_Slice_at_36 : decode b_Slice_at 36 = .ok (.iload_n 2, 1) := by decide +kernel
theorem d_Slice_at_37 : decode b_Slice_at 37 = .ok (.baload, 1) := by decide +kernel
theorem d_Slice_at_38 : decode b_Slice_at 38 = .ok (.sipush 255, 3) := by decide +kernel
theorem d_Slice_at_41 : decode b_Slice_at 41 = .ok (.iand, 1) := by decide +kernel
theorem d_Slice_at_42 : decode b_Slice_at 42 = .ok (.goto 4, 3) := by decide +kernel
theorem d_Slice_at_45 : decode b_Slice_at 45 = .ok (.iconst (-1), 1) := by decide +kernel
theorem d_Slice_at_46 : decode b_Slice_at 46 = .ok (.ireturn, 1) := by decide +kernel
def y_Slice_same : MethodName := ⟨"TrustChain$Slice", "same", "(LTrustChain$Slice;)Z"⟩
abbrev b_Slice_same : ByteArray := prog_12_method_4_code
def w_Slice_same : List Cond := Cond.code y_Slice_same b_Slice_same 2 ((some FieldType.boolean)) :: tb
theorem d_Slice_same_0 : decode b_Slice_same 0 = .ok (.aload_n 0, 1) := by decide +kernel
theorem d_Slice_same_1 : decode b_Slice_same 1 = .ok (.invokevirtual 22, 3) := by decide +kernel
theorem d_Slice_same_4 : decode b_Slice_same 4 = .ok (.aload_n 1, 1) := by decide +kernel
theorem d_Slice_same_5 : decode b_Slice_same 5 = .ok (.invokevirtual 22, 3) := by decide +kernel
theorem d_Slice_same_8 : decode b_Slice_same 8 = .ok (.if_icmp .ne 15, 3) := by decide +kernel
theorem d_Slice_same_11 : decode b_Slice_same 11 = .ok (.aload_n 1, 1) := by decide +kernel
theorem d_Slice_same_12 : decode b_Slice_same 12 = .ok (.aload_n 0, 1) := by decide +kernel
theorem d_Slice_same_13 : decode b_Slice_same 13 = .ok (.invokevirtual 26, 3) := by decide +kernel
theorem d_Slice_same_16 : decode b_Slice_same 16 = .ok (.ifCond .eq 7, 3) := by decide +kernel
theorem d_Slice_same_19 : decode b_Slice_same 19 = .ok (.iconst 1, 1) := by decide +kernel
theorem d_Slice_same_20 : decode b_Slice_same 20 = .ok (.goto 4, 3) := by decide +kernel
theorem d_Slice_same_23 : decode b_Slice_same 23 = .ok (.iconst 0, 1) := by decide +kernel
theorem d_Slice_same_24 : decode b_Slice_same 24 = .ok (.ireturn, 1) := by decide +kernel
def y_Slice_beginsWith : MethodName := ⟨"TrustChain$Slice", "beginsWith", "(LTrustChain$Slice;)Z"⟩
abbrev b_Slice_beginsWith : ByteArray := prog_12_method_5_code
def w_Slice_beginsWith : List Cond := Cond.code y_Slice_beginsWith b_Slice_beginsWith 3 ((some FieldType.boolean)) :: tb
theorem d_Slice_beginsWith_0 : decode b_Slice_beginsWith 0 = .ok (.aload_n 1, 1) := by decide +kernel
theorem d_Slice_beginsWith_1 : decode b_Slice_beginsWith 1 = .ok (.invokevirtual 22, 3) := by decide +kernel
theorem d_Slice_beginsWith_4 : decode b_Slice_beginsWith 4 = .ok (.aload_n 0, 1) := by decide +kernel
theorem d_Slice_beginsWith_5 : decode b_Slice_beginsWith 5 = .ok (.invokevirtual 22, 3) := by decide +kernel
theorem d_Slice_beginsWith_8 : decode b_Slice_beginsWith 8 = .ok (.if_icmp .le 5, 3) := by decide +kernel
theorem d_Slice_beginsWith_11 : decode b_Slice_beginsWith 11 = .ok (.iconst 0, 1) := by decide +kernel
theorem d_Slice_beginsWith_12 : decode b_Slice_beginsWith 12 = .ok (.ireturn, 1) := by decide +kernel
theorem d_Slice_beginsWith_13 : decode b_Slice_beginsWith 13 = .ok (.iconst 0, 1) := by decide +kernel
theorem d_Slice_beginsWith_14 : decode b_Slice_beginsWith 14 = .ok (.istore_n 2, 1) := by decide +kernel
theorem d_Slice_beginsWith_15 : decode b_Slice_beginsWith 15 = .ok (.iload_n 2, 1) := by decide +kernel
theorem d_Slice_beginsWith_16 : decode b_Slice_beginsWith 16 = .ok (.aload_n 1, 1) := by decide +kernel
theorem d_Slice_beginsWith_17 : decode b_Slice_beginsWith 17 = .ok (.invokevirtual 22, 3) := by decide +kernel
theorem d_Slice_beginsWith_20 : decode b_Slice_beginsWith 20 = .ok (.if_icmp .ge 24, 3) := by decide +kernel
theorem d_Slice_beginsWith_23 : decode b_Slice_beginsWith 23 = .ok (.aload_n 0, 1) := by decide +kernel
theorem d_Slice_beginsWith_24 : decode b_Slice_beginsWith 24 = .ok (.iload_n 2, 1) := by decide +kernel
theorem d_Slice_beginsWith_25 : decode b_Slice_beginsWith 25 = .ok (.invokevirtual 30, 3) := by decide +kernel
theorem d_Slice_beginsWith_28 : decode b_Slice_beginsWith 28 = .ok (.aload_n 1, 1) := by decide +kernel
theorem d_Slice_beginsWith_29 : decode b_Slice_beginsWith 29 = .ok (.iload_n 2, 1) := by decide +kernel
theorem d_Slice_beginsWith_30 : decode b_Slice_beginsWith 30 = .ok (.invokevirtual 30, 3) := by decide +kernel
theorem d_Slice_beginsWith_33 : decode b_Slice_beginsWith 33 = .ok (.if_icmp .eq 5, 3) := by decide +kernel
theorem d_Slice_beginsWith_36 : decode b_Slice_beginsWith 36 = .ok (.iconst 0, 1) := by decide +kernel
theorem d_Slice_beginsWith_37 : decode b_Slice_beginsWith 37 = .ok (.ireturn, 1) := by decide +kernel
theorem d_Slice_beginsWith_38 : decode b_Slice_beginsWith 38 = .ok (.iinc 2 1, 3) := by decide +kernel
theorem d_Slice_beginsWith_41 : decode b_Slice_beginsWith 41 = .ok (.goto (-26), 3) := by decide +kernel
theorem d_Slice_beginsWith_44 : decode b_Slice_beginsWith 44 = .ok (.iconst 1, 1) := by decide +kernel
theorem d_Slice_beginsWith_45 : decode b_Slice_beginsWith 45 = .ok (.ireturn, 1) := by decide +kernel
def y_Slice_sharesTail : MethodName := ⟨"TrustChain$Slice", "sharesTail", "(LTrustChain$Slice;I)Z"⟩
abbrev b_Slice_sharesTail : ByteArray := prog_12_method_6_code
def w_Slice_sharesTail : List Cond := Cond.code y_Slice_sharesTail b_Slice_sharesTail 4 ((some FieldType.boolean)) :: tb
theorem d_Slice_sharesTail_0 : decode b_Slice_sharesTail 0 = .ok (.iload_n 2, 1) := by decide +kernel
theorem d_Slice_sharesTail_1 : decode b_Slice_sharesTail 1 = .ok (.aload_n 0, 1) := by decide +kernel
theorem d_Slice_sharesTail_2 : decode b_Slice_sharesTail 2 = .ok (.invokevirtual 22, 3) := by decide +kernel
theorem d_Slice_sharesTail_5 : decode b_Slice_sharesTail 5 = .ok (.if_icmp .gt 11, 3) := by decide +kernel
theorem d_Slice_sharesTail_8 : decode b_Slice_sharesTail 8 = .ok (.iload_n 2, 1) := by decide +kernel
theorem d_Slice_sharesTail_9 : decode b_Slice_sharesTail 9 = .ok (.aload_n 1, 1) := by decide +kernel
theorem d_Slice_sharesTail_10 : decode b_Slice_sharesTail 10 = .ok (.invokevirtual 22, 3) := by decide +kernel
theorem d_Slice_sharesTail_13 : decode b_Slice_sharesTail 13 = .ok (.if_icmp .le 5, 3) := by decide +kernel
theorem d_Slice_sharesTail_16 : decode b_Slice_sharesTail 16 = .ok (.iconst 0, 1) := by decide +kernel
theorem d_Slice_sharesTail_17 : decode b_Slice_sharesTail 17 = .ok (.ireturn, 1) := by decide +kernel
theorem d_Slice_sharesTail_18 : decode b_Slice_sharesTail 18 = .ok (.iconst 1, 1) := by decide +kernel
theorem d_Slice_sharesTail_19 : decode b_Slice_sharesTail 19 = .ok (.istore_n 3, 1) := by decide +kernel
theorem d_Slice_sharesTail_20 : decode b_Slice_sharesTail 20 = .ok (.iload_n 3, 1) := by decide +kernel
theorem d_Slice_sharesTail_21 : decode b_Slice_sharesTail 21 = .ok (.iload_n 2, 1) := by decide +kernel
theorem d_Slice_sharesTail_22 : decode b_Slice_sharesTail 22 = .ok (.if_icmp .gt 40, 3) := by decide +kernel
theorem d_Slice_sharesTail_25 : decode b_Slice_sharesTail 25 = .ok (.aload_n 0, 1) := by decide +kernel
theorem d_Slice_sharesTail_26 : decode b_Slice_sharesTail 26 = .ok (.aload_n 0, 1) := by decide +kernel
theorem d_Slice_sharesTail_27 : decode b_Slice_sharesTail 27 = .ok (.invokevirtual 22, 3) := by decide +kernel
theorem d_Slice_sharesTail_30 : decode b_Slice_sharesTail 30 = .ok (.iload_n 3, 1) := by decide +kernel
theorem d_Slice_sharesTail_31 : decode b_Slice_sharesTail 31 = .ok (.isub, 1) := by decide +kernel
theorem d_Slice_sharesTail_32 : decode b_Slice_sharesTail 32 = .ok (.invokevirtual 30, 3) := by decide +kernel
theorem d_Slice_sharesTail_35 : decode b_Slice_sharesTail 35 = .ok (.invokestatic 34, 3) := by decide +kernel
theorem d_Slice_sharesTail_38 : decode b_Slice_sharesTail 38 = .ok (.aload_n 1, 1) := by decide +kernel
theorem d_Slice_sharesTail_39 : decode b_Slice_sharesTail 39 = .ok (.aload_n 1, 1) := by decide +kernel
theorem d_Slice_sharesTail_40 : decode b_Slice_sharesTail 40 = .ok (.invokevirtual 22, 3) := by decide +kernel
theorem d_Slice_sharesTail_43 : decode b_Slice_sharesTail 43 = .ok (.iload_n 3, 1) := by decide +kernel
theorem d_Slice_sharesTail_44 : decode b_Slice_sharesTail 44 = .ok (.isub, 1) := by decide +kernel
theorem d_Slice_sharesTail_45 : decode b_Slice_sharesTail 45 = .ok (.invokevirtual 30, 3) := by decide +kernel
theorem d_Slice_sharesTail_48 : decode b_Slice_sharesTail 48 = .ok (.invokestatic 34, 3) := by decide +kernel
theorem d_Slice_sharesTail_51 : decode b_Slice_sharesTail 51 = .ok (.if_icmp .eq 5, 3) := by decide +kernel
theorem d_Slice_sharesTail_54 : decode b_Slice_sharesTail 54 = .ok (.iconst 0, 1) := by decide +kernel
theorem d_Slice_sharesTail_55 : decode b_Slice_sharesTail 55 = .ok (.ireturn, 1) := by decide +kernel
theorem d_Slice_sharesTail_56 : decode b_Slice_sharesTail 56 = .ok (.iinc 3 1, 3) := by decide +kernel
theorem d_Slice_sharesTail_59 : decode b_Slice_sharesTail 59 = .ok (.goto (-39), 3) := by decide +kernel
theorem d_Slice_sharesTail_62 : decode b_Slice_sharesTail 62 = .ok (.iconst 1, 1) := by decide +kernel
theorem d_Slice_sharesTail_63 : decode b_Slice_sharesTail 63 = .ok (.ireturn, 1) := by decide +kernel
def y_Slice_find : MethodName := ⟨"TrustChain$Slice", "find", "(C)I"⟩
abbrev b_Slice_find : ByteArray := prog_12_method_7_code
def w_Slice_find : List Cond := Cond.code y_Slice_find b_Slice_find 3 ((some FieldType.int)) :: tb
theorem d_Slice_find_0 : decode b_Slice_find 0 = .ok (.iconst 0, 1) := by decide +kernel
theorem d_Slice_find_1 : decode b_Slice_find 1 = .ok (.istore_n 2, 1) := by decide +kernel
theorem d_Slice_find_2 : decode b_Slice_find 2 = .ok (.iload_n 2, 1) := by decide +kernel
theorem d_Slice_find_3 : decode b_Slice_find 3 = .ok (.aload_n 0, 1) := by decide +kernel
theorem d_Slice_find_4 : decode b_Slice_find 4 = .ok (.invokevirtual 22, 3) := by decide +kernel
theorem d_Slice_find_7 : decode b_Slice_find 7 = .ok (.if_icmp .ge 20, 3) := by decide +kernel
theorem d_Slice_find_10 : decode b_Slice_find 10 = .ok (.aload_n 0, 1) := by decide +kernel
theorem d_Slice_find_11 : decode b_Slice_find 11 = .ok (.iload_n 2, 1) := by decide +kernel
theorem d_Slice_find_12 : decode b_Slice_find 12 = .ok (.invokevirtual 30, 3) := by decide +kernel
theorem d_Slice_find_15 : decode b_Slice_find 15 = .ok (.iload_n 1, 1) := by decide +kernel
theorem d_Slice_find_16 : decode b_Slice_find 16 = .ok (.if_icmp .ne 5, 3) := by decide +kernel
theorem d_Slice_find_19 : decode b_Slice_find 19 = .ok (.iload_n 2, 1) := by decide +kernel
theorem d_Slice_find_20 : decode b_Slice_find 20 = .ok (.ireturn, 1) := by decide +kernel
theorem d_Slice_find_21 : decode b_Slice_find 21 = .ok (.iinc 2 1, 3) := by decide +kernel
theorem d_Slice_find_24 : decode b_Slice_find 24 = .ok (.goto (-22), 3) := by decide +kernel
theorem d_Slice_find_27 : decode b_Slice_find 27 = .ok (.iconst (-1), 1) := by decide +kernel
theorem d_Slice_find_28 : decode b_Slice_find 28 = .ok (.ireturn, 1) := by decide +kernel
def y_Slice_number : MethodName := ⟨"TrustChain$Slice", "number", "()J"⟩
abbrev b_Slice_number : ByteArray := prog_12_method_8_code
def w_Slice_number : List Cond := Cond.code y_Slice_number b_Slice_number 4 ((some FieldType.long)) :: tb
theorem d_Slice_number_0 : decode b_Slice_number 0 = .ok (.aload_n 0, 1) := by decide +kernel
theorem d_Slice_number_1 : decode b_Slice_number 1 = .ok (.invokevirtual 22, 3) := by decide +kernel
theorem d_Slice_number_4 : decode b_Slice_number 4 = .ok (.bipush 8, 2) := by decide +kernel
theorem d_Slice_number_6 : decode b_Slice_number 6 = .ok (.if_icmp .le 7, 3) := by decide +kernel
theorem d_Slice_number_9 : decode b_Slice_number 9 = .ok (.ldc2_w 37, 3) := by decide +kernel
theorem d_Slice_number_12 : decode b_Slice_number 12 = .ok (.lreturn, 1) := by decide +kernel
theorem d_Slice_number_13 : decode b_Slice_number 13 = .ok (.aload_n 0, 1) := by decide +kernel
theorem d_Slice_number_14 : decode b_Slice_number 14 = .ok (.iconst 0, 1) := by decide +kernel
theorem d_Slice_number_15 : decode b_Slice_number 15 = .ok (.invokevirtual 30, 3) := by decide +kernel
theorem d_Slice_number_18 : decode b_Slice_number 18 = .ok (.sipush 128, 3) := by decide +kernel
theorem d_Slice_number_21 : decode b_Slice_number 21 = .ok (.if_icmp .lt 9, 3) := by decide +kernel
theorem d_Slice_number_24 : decode b_Slice_number 24 = .ok (.ldc2_w 37, 3) := by decide +kernel
theorem d_Slice_number_27 : decode b_Slice_number 27 = .ok (.goto 4, 3) := by decide +kernel
theorem d_Slice_number_30 : decode b_Slice_number 30 = .ok (.lconst 0, 1) := by decide +kernel
theorem d_Slice_number_31 : decode b_Slice_number 31 = .ok (.lstore_n 1, 1) := by decide +kernel
theorem d_Slice_number_32 : decode b_Slice_number 32 = .ok (.iconst 0, 1) := by decide +kernel
theorem d_Slice_number_33 : decode b_Slice_number 33 = .ok (.istore_n 3, 1) := by decide +kernel
theorem d_Slice_number_34 : decode b_Slice_number 34 = .ok (.iload_n 3, 1) := by decide +kernel
theorem d_Slice_number_35 : decode b_Slice_number 35 = .ok (.aload_n 0, 1) := by decide +kernel
theorem d_Slice_number_36 : decode b_Slice_number 36 = .ok (.invokevirtual 22, 3) := by decide +kernel
theorem d_Slice_number_39 : decode b_Slice_number 39 = .ok (.if_icmp .ge 21, 3) := by decide +kernel
theorem d_Slice_number_42 : decode b_Slice_number 42 = .ok (.lload_n 1, 1) := by decide +kernel
theorem d_Slice_number_43 : decode b_Slice_number 43 = .ok (.bipush 8, 2) := by decide +kernel
theorem d_Slice_number_45 : decode b_Slice_number 45 = .ok (.lshl, 1) := by decide +kernel
theorem d_Slice_number_46 : decode b_Slice_number 46 = .ok (.aload_n 0, 1) := by decide +kernel
theorem d_Slice_number_47 : decode b_Slice_number 47 = .ok (.iload_n 3, 1) := by decide +kernel
theorem d_Slice_number_48 : decode b_Slice_number 48 = .ok (.invokevirtual 30, 3) := by decide +kernel
theorem d_Slice_number_51 : decode b_Slice_number 51 = .ok (.i2l, 1) := by decide +kernel
theorem d_Slice_number_52 : decode b_Slice_number 52 = .ok (.lor, 1) := by decide +kernel
theorem d_Slice_number_53 : decode b_Slice_number 53 = .ok (.lstore_n 1, 1) := by decide +kernel
theorem d_Slice_number_54 : decode b_Slice_number 54 = .ok (.iinc 3 1, 3) := by decide +kernel
theorem d_Slice_number_57 : decode b_Slice_number 57 = .ok (.goto (-23), 3) := by decide +kernel
theorem d_Slice_number_60 : decode b_Slice_number 60 = .ok (.lload_n 1, 1) := by decide +kernel
theorem d_Slice_number_61 : decode b_Slice_number 61 = .ok (.lreturn, 1) := by decide +kernel
def y_Slice_lower : MethodName := ⟨"TrustChain$Slice", "lower", "(I)I"⟩
abbrev b_Slice_lower : ByteArray := prog_12_method_9_code
def w_Slice_lower : List Cond := Cond.code y_Slice_lower b_Slice_lower 1 ((some FieldType.int)) :: tb
theorem d_Slice_lower_0 : decode b_Slice_lower 0 = .ok (.iload_n 0, 1) := by decide +kernel
theorem d_Slice_lower_1 : decode b_Slice_lower 1 = .ok (.bipush 65, 2) := by decide +kernel
theorem d_Slice_lower_3 : decode b_Slice_lower 3 = .ok (.if_icmp .lt 16, 3) := by decide +kernel
theorem d_Slice_lower_6 : decode b_Slice_lower 6 = .ok (.iload_n 0, 1) := by decide +kernel
theorem d_Slice_lower_7 : decode b_Slice_lower 7 = .ok (.bipush 90, 2) := by decide +kernel
theorem d_Slice_lower_9 : decode b_Slice_lower 9 = .ok (.if_icmp .gt 10, 3) := by decide +kernel
theorem d_Slice_lower_12 : decode b_Slice_lower 12 = .ok (.iload_n 0, 1) := by decide +kernel
theorem d_Slice_lower_13 : decode b_Slice_lower 13 = .ok (.bipush 32, 2) := by decide +kernel
theorem d_Slice_lower_15 : decode b_Slice_lower 15 = .ok (.iadd, 1) := by decide +kernel
theorem d_Slice_lower_16 : decode b_Slice_lower 16 = .ok (.goto 4, 3) := by decide +kernel
theorem d_Slice_lower_19 : decode b_Slice_lower 19 = .ok (.iload_n 0, 1) := by decide +kernel
theorem d_Slice_lower_20 : decode b_Slice_lower 20 = .ok (.ireturn, 1) := by decide +kernel
def sl_low (x : Int32) : Int32 := if x < 65 ∨ 90 < x then x else x + 32
set_option maxHeartbeats 4000000 in
set_option maxRecDepth 100000 in
theorem c_Slice_lower (l : Launch) (dC : Nat → ClassId) (dI : Nat → Nat → Nat) (x : Int32) : Met l y_Slice_lower w_Slice_lower ({ frames := 0, cells := 0, slots := 0, locals := 0 }) (pu_P [.int x] (dC, dI) [] []) (vp_Si (fun r => r = sl_low x)) 0 0 (fun _ => False) := by
  refine Met.ofW (cc := b_Slice_lower) (maxL := 1) (ret := (some FieldType.int)) (by decide) rfl ?_
  intro p e s m args below meth c s₁ B hml hv
  obtain ⟨rfl, hP, hK⟩ := hv
  have hx := B.exec
  have hb := B.bytes
  have hr := B.returns
  have hts := atoms_spec (ws := w_Slice_lower) B.pre
  have tbin : ∀ w ∈ tb, w ∈ w_Slice_lower := fun w h => List.mem_cons_of_mem _ h
  have htb : ∀ w ∈ tb, w.before _ s = true := fun w h => hts w (tbin w h)
  have hown : s.vm.findClass "TrustChain$Slice" = some m.cls := findClass_of_methodNamed B.named
  have hlocks := B.notSynchronized
  have hcs : 0 ≤ (headSpec w_Slice_lower ({ frames := 0, cells := 0, slots := 0, locals := 0 })).room.cells ∧ 0 ≤ (headSpec w_Slice_lower ({ frames := 0, cells := 0, slots := 0, locals := 0 })).room.slots := ⟨Nat.zero_le _, Nat.zero_le _⟩
  have hP : va_P (dC, dI) classes [] s.heap := hP
  have hl := lv_entry ([.int x]) (n := 1) (Nat.le_of_ble_eq_true rfl)
  rw [lg_entry_eq]
  generalize (lg_sl ([.int x]) ++ List.replicate (1 - (lg_sl ([.int x])).length) Slot.unset).toArray = ls at hl ⊢
  have hl : lv_has ls 1 [(0, .int x)] := hl
  refine w_join (J := fun v => v = sl_low x) (pc := 20) (ls := ls) (rest := []) (fun v hv => ?_) (fun k20 => ?_)
  · -- joined
    exact W.iret (v := v) hx hb hr (fun t ht hW => ⟨_, rfl, hv, ht⟩) (fun q h => by cases h) d_Slice_lower_20
  · -- the branches
    refine lv_iload_n hx hb d_Slice_lower_0 rfl (lv_at hl 0 rfl) ?_
    refine lv_bipush (v := 65) hx hb d_Slice_lower_1 (by decide) ?_
    refine lv_icmp_lt (tgt := 19) hx hb d_Slice_lower_3 (by decide) (fun c1 => ?_) (fun c1 => ?_)
    · refine lv_iload_n hx hb d_Slice_lower_19 rfl (lv_at hl 0 rfl) ?_
      exact k20 _ (by simp [sl_low, c1])
    · refine lv_iload_n hx hb d_Slice_lower_6 rfl (lv_at hl 0 rfl) ?_
      refine lv_bipush (v := 90) hx hb d_Slice_lower_7 (by decide) ?_
      refine lv_icmp_gt (tgt := 19) hx hb d_Slice_lower_9 (by decide) (fun c2 => ?_) (fun c2 => ?_)
      · refine lv_iload_n hx hb d_Slice_lower_19 rfl (lv_at hl 0 rfl) ?_
        exact k20 _ (by simp [sl_low, c1, c2])
      · refine lv_iload_n hx hb d_Slice_lower_12 rfl (lv_at hl 0 rfl) ?_
        refine lv_bipush (v := 32) hx hb d_Slice_lower_13 (by decide) ?_
        refine lv_iadd hx hb d_Slice_lower_15 ?_
        refine lv_goto (tgt := 20) hx hb d_Slice_lower_16 (by decide) ?_
        exact k20 _ (by simp [sl_low, c1, c2])
set_option maxHeartbeats 4000000 in
set_option maxRecDepth 100000 in
theorem c_Slice_length (l : Launch) (dC : Nat → ClassId) (dI : Nat → Nat → Nat) (h t a b : Nat) (hab : a ≤ b) : Met l y_Slice_length w_Slice_length ({ frames := 0, cells := 0, slots := 0, locals := 0 }) (pu_P [.ref h] (dC, dI) [(h, .inr (0, [.ref t, .int (nI a), .int (nI b)]))] []) (vp_Si (fun r => r = nI (b - a))) 0 0 (fun _ => False) := by
  refine Met.ofW (cc := b_Slice_length) (maxL := 1) (ret := (some FieldType.int)) (by decide) rfl ?_
  intro p e s m args below meth c s₁ B hml hv
  obtain ⟨rfl, hP, hK⟩ := hv
  have hx := B.exec
  have hb := B.bytes
  have hr := B.returns
  have hts := atoms_spec (ws := w_Slice_length) B.pre
  have tbin : ∀ w ∈ tb, w ∈ w_Slice_length := fun w h => List.mem_cons_of_mem _ h
  have htb : ∀ w ∈ tb, w.before _ s = true := fun w h => hts w (tbin w h)
  have hown : s.vm.findClass "TrustChain$Slice" = some m.cls := findClass_of_methodNamed B.named
  have hlocks := B.notSynchronized
  have hcs : 0 ≤ (headSpec w_Slice_length ({ frames := 0, cells := 0, slots := 0, locals := 0 })).room.cells ∧ 0 ≤ (headSpec w_Slice_length ({ frames := 0, cells := 0, slots := 0, locals := 0 })).room.slots := ⟨Nat.zero_le _, Nat.zero_le _⟩
  have hP : va_P (dC, dI) classes [(h, .inr (0, [.ref t, .int (nI a), .int (nI b)]))] s.heap := hP
  have hl := lv_entry ([.ref h]) (n := 1) (Nat.le_of_ble_eq_true rfl)
  rw [lg_entry_eq]
  generalize (lg_sl ([.ref h]) ++ List.replicate (1 - (lg_sl ([.ref h])).length) Slot.unset).toArray = ls at hl ⊢
  have hl : lv_has ls 1 [(0, .ref h)] := hl
  refine lv_aload_n hx hb d_Slice_length_0 rfl (lv_at hl 0 rfl) ?_
  refine va_get (v := .int (nI b)) hx hb htb i_Slice hown hK hP 0 rfl rfl 2 (by decide) (htb _ (tb_in q2_99 gd_fl)) (fun _ h9 => h9) rfl d_Slice_length_1 ?_
  refine lv_aload_n hx hb d_Slice_length_4 rfl (lv_at hl 0 rfl) ?_
  refine va_get (v := .int (nI a)) hx hb htb i_Slice hown hK hP 0 rfl rfl 1 (by decide) (htb _ (tb_in q2_97 gd_fl)) (fun _ h9 => h9) rfl d_Slice_length_5 ?_
  refine lv_isub hx hb d_Slice_length_8 ?_
  exact W.iret (v := (nI b) - (nI a)) hx hb hr (fun t ht hW => ⟨_, rfl, pk_sub hab, ht⟩) (fun q h => by cases h) d_Slice_length_9
