/-! TrustChain.Slice: octets of a text from one place up to another. u: the text's octets (below 256), n of them; a slice a..b. -/
def y_Slice_length : MethodName := ⟨"TrustChain$Slice", "length", "()I"⟩
abbrev b_Slice_length : ByteArray := prog_12_method_2_code
def w_Slice_length : List Cond := Cond.code y_Slice_length b_Slice_length 1 ((some FieldType.int)) :: tb
theorem d_Slice_length_0 : decode b_Slice_length 0 = .ok (.aload_n 0, 1) := by decide +kernel
theorem d_Slice_length_1 : decode b_Slice_length 1 = .ok (.getfield 19, 3) := by decide +kernel
theorem d_Slice_length_4 : decode b_Slice_length 4 = .ok (.aload_n 0, 1) := by decide +kernel
theorem d_Slice_length_5 : decode b_Slice_length 5 = .ok (.getfield 15, 3) := by decide +kernel
theorem d_Slice_length_8 : decode b_Slice_length 8 = .ok (.isub, 1) := by decide +kernel
theorem d_Slice_length_9 : decode b_Slice_length 9 = .ok (.ireturn, 1) := by decide +kernel
def y_Slice_at : MethodName := ⟨"TrustChain$Slice", "at", "(I)I"⟩
abbrev b_Slice_at : ByteArray := prog_12_method_3_code
def w_Slice_at : List Cond := Cond.code y_Slice_at b_Slice_at 3 ((some FieldType.int)) :: tb
theorem d_Slice_at_0 : decode b_Slice_at 0 = .ok (.aload_n 0, 1) := by decide +kernel
theorem d_Slice_at_1 : decode b_Slice_at 1 = .ok (.getfield 15, 3) := by decide +kernel
theorem d_Slice_at_4 : decode b_Slice_at 4 = .ok (.iload_n 1, 1) := by decide +kernel
theorem d_Slice_at_5 : decode b_Slice_at 5 = .ok (.iadd, 1) := by decide +kernel
theorem d_Slice_at_6 : decode b_Slice_at 6 = .ok (.istore_n 2, 1) := by decide +kernel
theorem d_Slice_at_7 : decode b_Slice_at 7 = .ok (.iload_n 1, 1) := by decide +kernel
theorem d_Slice_at_8 : decode b_Slice_at 8 = .ok (.ifCond .lt 37, 3) := by decide +kernel
theorem d_Slice_at_11 : decode b_Slice_at 11 = .ok (.iload_n 2, 1) := by decide +kernel
theorem d_Slice_at_12 : decode b_Slice_at 12 = .ok (.ifCond .lt 33, 3) := by decide +kernel
theorem d_Slice_at_15 : decode b_Slice_at 15 = .ok (.iload_n 2, 1) := by decide +kernel
theorem d_Slice_at_16 : decode b_Slice_at 16 = .ok (.aload_n 0, 1) := by decide +kernel
theorem d_Slice_at_17 : decode b_Slice_at 17 = .ok (.getfield 19, 3) := by decide +kernel
theorem d_Slice_at_20 : decode b_Slice_at 20 = .ok (.if_icmp .ge 25, 3) := by decide +kernel
theorem d_Slice_at_23 : decode b_Slice_at 23 = .ok (.iload_n 2, 1) := by decide +kernel
theorem d_Slice_at_24 : decode b_Slice_at 24 = .ok (.aload_n 0, 1) := by decide +kernel
theorem d_Slice_at_25 : decode b_Slice_at 25 = .ok (.getfield 9, 3) := by decide +kernel
theorem d_Slice_at_28 : decode b_Slice_at 28 = .ok (.arraylength, 1) := by decide +kernel
theorem d_Slice_at_29 : decode b_Slice_at 29 = .ok (.if_icmp .ge 16, 3) := by decide +kernel
theorem d_Slice_at_32 : decode b_Slice_at 32 = .ok (.aload_n 0, 1) := by decide +kernel
theorem d_Slice_at_33 : decode b_Slice_at 33 = .ok (.getfield 9, 3) := by decide +kernel
theorem d_Slice_at_36 : decode b_Slice_at 36 = .ok (.iload_n 2, 1) := by decide +kernel
theorem d_Slice_at_37 : decode b_Slice_at 37 = .ok (.baload, 1) := by decide +kernel
theorem d_Slice_at_38 : decode b_Slice_at 38 = .ok (.sipush 255, 3) := by decide +kernel
theorem d_Slice_at_41 : decode b_Slice_at 41 = .ok (.iand, 1) := by decide +kernel
theorem d_Slice_at_42 : decode b_Slice_at 42 = .ok (.goto 4, 3) := by decide +kernel
theorem d_Slice_at_45 : decode b_Slice_at 45 = .ok (.iconst (-1), 1) := by decide +kernel
theorem d_Slice_at_46 : decode b_Slice_at 46 = .ok (.ireturn, 1) := by decide +kernel
def y_Slice_same : MethodName := ⟨"TrustChain$Slice", "same", "(LTrustChain$Slice;)Z"⟩
abbrev b_Slice_same : ByteArray := prog_12_method_4_code
def w_Slice_same : List Cond := Cond.code y_Slice_same b_Slice_same 2 ((some FieldType.boolean)) :: tb
theorem d_Slice_same_0 : decode b_Slice_same 0 = .ok (.aload_n 0, 1) := by decide +kernel
theorem d_Slice_same_1 : decode b_Slice_same 1 = .ok (.invokevirtual 22, 3) := by decide +kernel
theorem d_Slice_same_4 : decode b_Slice_same 4 = .ok (.aload_n 1, 1) := by decide +kernel
theorem d_Slice_same_5 : decode b_Slice_same 5 = .ok (.invokevirtual 22, 3) := by decide +kernel
theorem d_Slice_same_8 : decode b_Slice_same 8 = .ok (.if_icmp .ne 15, 3) := by decide +kernel
theorem d_Slice_same_11 : decode b_Slice_same 11 = .ok (.aload_n 1, 1) := by decide +kernel
theorem d_Slice_same_12 : decode b_Slice_same 12 = .ok (.aload_n 0, 1) := by decide +kernel
theorem d_Slice_same_13 : decode b_Slice_same 13 = .ok (.invokevirtual 26, 3) := by decide +kernel
theorem d_Slice_same_16 : decode b_Slice_same 16 = .ok (.ifCond .eq 7, 3) := by decide +kernel
theorem d_Slice_same_19 : decode b_Slice_same 19 = .ok (.iconst 1, 1) := by decide +kernel
theorem d_Slice_same_20 : decode b_Slice_same 20 = .ok (.goto 4, 3) := by decide +kernel
theorem d_Slice_same_23 : decode b_Slice_same 23 = .ok (.iconst 0, 1) := by decide +kernel
theorem d_Slice_same_24 : decode b_Slice_same 24 = .ok (.ireturn, 1) := by decide +kernel
def y_Slice_beginsWith : MethodName := ⟨"TrustChain$Slice", "beginsWith", "(LTrustChain$Slice;)Z"⟩
abbrev b_Slice_beginsWith : ByteArray := prog_12_method_5_code
def w_Slice_beginsWith : List Cond := Cond.code y_Slice_beginsWith b_Slice_beginsWith 3 ((some FieldType.boolean)) :: tb
theorem d_Slice_beginsWith_0 : decode b_Slice_beginsWith 0 = .ok (.aload_n 1, 1) := by decide +kernel
theorem d_Slice_beginsWith_1 : decode b_Slice_beginsWith 1 = .ok (.invokevirtual 22, 3) := by decide +kernel
theorem d_Slice_beginsWith_4 : decode b_Slice_beginsWith 4 = .ok (.aload_n 0, 1) := by decide +kernel
theorem d_Slice_beginsWith_5 : decode b_Slice_beginsWith 5 = .ok (.invokevirtual 22, 3) := by decide +kernel
theorem d_Slice_beginsWith_8 : decode b_Slice_beginsWith 8 = .ok (.if_icmp .le 5, 3) := by decide +kernel
theorem d_Slice_beginsWith_11 : decode b_Slice_beginsWith 11 = .ok (.iconst 0, 1) := by decide +kernel
theorem d_Slice_beginsWith_12 : decode b_Slice_beginsWith 12 = .ok (.ireturn, 1) := by decide +kernel
theorem d_Slice_beginsWith_13 : decode b_Slice_beginsWith 13 = .ok (.iconst 0, 1) := by decide +kernel
theorem d_Slice_beginsWith_14 : decode b_Slice_beginsWith 14 = .ok (.istore_n 2, 1) := by decide +kernel
theorem d_Slice_beginsWith_15 : decode b_Slice_beginsWith 15 = .ok (.iload_n 2, 1) := by decide +kernel
theorem d_Slice_beginsWith_16 : decode b_Slice_beginsWith 16 = .ok (.aload_n 1, 1) := by decide +kernel
theorem d_Slice_beginsWith_17 : decode b_Slice_beginsWith 17 = .ok (.invokevirtual 22, 3) := by decide +kernel
theorem d_Slice_beginsWith_20 : decode b_Slice_beginsWith 20 = .ok (.if_icmp .ge 24, 3) := by decide +kernel
theorem d_Slice_beginsWith_23 : decode b_Slice_beginsWith 23 = .ok (.aload_n 0, 1) := by decide +kernel
theorem d_Slice_beginsWith_24 : decode b_Slice_beginsWith 24 = .ok (.iload_n 2, 1) := by decide +kernel
theorem d_Slice_beginsWith_25 : decode b_Slice_beginsWith 25 = .ok (.invokevirtual 30, 3) := by decide +kernel
theorem d_Slice_beginsWith_28 : decode b_Slice_beginsWith 28 = .ok (.aload_n 1, 1) := by decide +kernel
theorem d_Slice_beginsWith_29 : decode b_Slice_beginsWith 29 = .ok (.iload_n 2, 1) := by decide +kernel
theorem d_Slice_beginsWith_30 : decode b_Slice_beginsWith 30 = .ok (.invokevirtual 30, 3) := by decide +kernel
theorem d_Slice_beginsWith_33 : decode b_Slice_beginsWith 33 = .ok (.if_icmp .eq 5, 3) := by decide +kernel
theorem d_Slice_beginsWith_36 : decode b_Slice_beginsWith 36 = .ok (.iconst 0, 1) := by decide +kernel
theorem d_Slice_beginsWith_37 : decode b_Slice_beginsWith 37 = .ok (.ireturn, 1) := by decide +kernel
theorem d_Slice_beginsWith_38 : decode b_Slice_beginsWith 38 = .ok (.iinc 2 1, 3) := by decide +kernel
theorem d_Slice_beginsWith_41 : decode b_Slice_beginsWith 41 = .ok (.goto (-26), 3) := by decide +kernel
theorem d_Slice_beginsWith_44 : decode b_Slice_beginsWith 44 = .ok (.iconst 1, 1) := by decide +kernel
theorem d_Slice_beginsWith_45 : decode b_Slice_beginsWith 45 = .ok (.ireturn, 1) := by decide +kernel
def y_Slice_sharesTail : MethodName := ⟨"TrustChain$Slice", "sharesTail", "(LTrustChain$Slice;I)Z"⟩
abbrev b_Slice_sharesTail : ByteArray := prog_12_method_6_code
def w_Slice_sharesTail : List Cond := Cond.code y_Slice_sharesTail b_Slice_sharesTail 4 ((some FieldType.boolean)) :: tb
theorem d_Slice_sharesTail_0 : decode b_Slice_sharesTail 0 = .ok (.iload_n 2, 1) := by decide +kernel
theorem d_Slice_sharesTail_1 : decode b_Slice_sharesTail 1 = .ok (.aload_n 0, 1) := by decide +kernel
theorem d_Slice_sharesTail_2 : decode b_Slice_sharesTail 2 = .ok (.invokevirtual 22, 3) := by decide +kernel
theorem d_Slice_sharesTail_5 : decode b_Slice_sharesTail 5 = .ok (.if_icmp .gt 11, 3) := by decide +kernel
theorem d_Slice_sharesTail_8 : decode b_Slice_sharesTail 8 = .ok (.iload_n 2, 1) := by decide +kernel
theorem d_Slice_sharesTail_9 : decode b_Slice_sharesTail 9 = .ok (.aload_n 1, 1) := by decide +kernel
theorem d_Slice_sharesTail_10 : decode b_Slice_sharesTail 10 = .ok (.invokevirtual 22, 3) := by decide +kernel
theorem d_Slice_sharesTail_13 : decode b_Slice_sharesTail 13 = .ok (.if_icmp .le 5, 3) := by decide +kernel
theorem d_Slice_sharesTail_16 : decode b_Slice_sharesTail 16 = .ok (.iconst 0, 1) := by decide +kernel
theorem d_Slice_sharesTail_17 : decode b_Slice_sharesTail 17 = .ok (.ireturn, 1) := by decide +kernel
theorem d_Slice_sharesTail_18 : decode b_Slice_sharesTail 18 = .ok (.iconst 1, 1) := by decide +kernel
theorem d_Slice_sharesTail_19 : decode b_Slice_sharesTail 19 = .ok (.istore_n 3, 1) := by decide +kernel
theorem d_Slice_sharesTail_20 : decode b_Slice_sharesTail 20 = .ok (.iload_n 3, 1) := by decide +kernel
theorem d_Slice_sharesTail_21 : decode b_Slice_sharesTail 21 = .ok (.iload_n 2, 1) := by decide +kernel
theorem d_Slice_sharesTail_22 : decode b_Slice_sharesTail 22 = .ok (.if_icmp .gt 40, 3) := by decide +kernel
theorem d_Slice_sharesTail_25 : decode b_Slice_sharesTail 25 = .ok (.aload_n 0, 1) := by decide +kernel
theorem d_Slice_sharesTail_26 : decode b_Slice_sharesTail 26 = .ok (.aload_n 0, 1) := by decide +kernel
theorem d_Slice_sharesTail_27 : decode b_Slice_sharesTail 27 = .ok (.invokevirtual 22, 3) := by decide +kernel
theorem d_Slice_sharesTail_30 : decode b_Slice_sharesTail 30 = .ok (.iload_n 3, 1) := by decide +kernel
theorem d_Slice_sharesTail_31 : decode b_Slice_sharesTail 31 = .ok (.isub, 1) := by decide +kernel
theorem d_Slice_sharesTail_32 : decode b_Slice_sharesTail 32 = .ok (.invokevirtual 30, 3) := by decide +kernel
theorem d_Slice_sharesTail_35 : decode b_Slice_sharesTail 35 = .ok (.invokestatic 34, 3) := by decide +kernel
theorem d_Slice_sharesTail_38 : decode b_Slice_sharesTail 38 = .ok (.aload_n 1, 1) := by decide +kernel
theorem d_Slice_sharesTail_39 : decode b_Slice_sharesTail 39 = .ok (.aload_n 1, 1) := by decide +kernel
theorem d_Slice_sharesTail_40 : decode b_Slice_sharesTail 40 = .ok (.invokevirtual 22, 3) := by decide +kernel
theorem d_Slice_sharesTail_43 : decode b_Slice_sharesTail 43 = .ok (.iload_n 3, 1) := by decide +kernel
theorem d_Slice_sharesTail_44 : decode b_Slice_sharesTail 44 = .ok (.isub, 1) := by decide +kernel
theorem d_Slice_sharesTail_45 : decode b_Slice_sharesTail 45 = .ok (.invokevirtual 30, 3) := by decide +kernel
theorem d_Slice_sharesTail_48 : decode b_Slice_sharesTail 48 = .ok (.invokestatic 34, 3) := by decide +kernel
theorem d_Slice_sharesTail_51 : decode b_Slice_sharesTail 51 = .ok (.if_icmp .eq 5, 3) := by decide +kernel
theorem d_Slice_sharesTail_54 : decode b_Slice_sharesTail 54 = .ok (.iconst 0, 1) := by decide +kernel
theorem d_Slice_sharesTail_55 : decode b_Slice_sharesTail 55 = .ok (.ireturn, 1) := by decide +kernel
theorem d_Slice_sharesTail_56 : decode b_Slice_sharesTail 56 = .ok (.iinc 3 1, 3) := by decide +kernel
theorem d_Slice_sharesTail_59 : decode b_Slice_sharesTail 59 = .ok (.goto (-39), 3) := by decide +kernel
theorem d_Slice_sharesTail_62 : decode b_Slice_sharesTail 62 = .ok (.iconst 1, 1) := by decide +kernel
theorem d_Slice_sharesTail_63 : decode b_Slice_sharesTail 63 = .ok (.ireturn, 1) := by decide +kernel
def y_Slice_find : MethodName := ⟨"TrustChain$Slice", "find", "(C)I"⟩
abbrev b_Slice_find : ByteArray := prog_12_method_7_code
def w_Slice_find : List Cond := Cond.code y_Slice_find b_Slice_find 3 ((some FieldType.int)) :: tb
theorem d_Slice_find_0 : decode b_Slice_find 0 = .ok (.iconst 0, 1) := by decide +kernel
theorem d_Slice_find_1 : decode b_Slice_find 1 = .ok (.istore_n 2, 1) := by decide +kernel
theorem d_Slice_find_2 : decode b_Slice_find 2 = .ok (.iload_n 2, 1) := by decide +kernel
theorem d_Slice_find_3 : decode b_Slice_find 3 = .ok (.aload_n 0, 1) := by decide +kernel
theorem d_Slice_find_4 : decode b_Slice_find 4 = .ok (.invokevirtual 22, 3) := by decide +kernel
theorem d_Slice_find_7 : decode b_Slice_find 7 = .ok (.if_icmp .ge 20, 3) := by decide +kernel
theorem d_Slice_find_10 : decode b_Slice_find 10 = .ok (.aload_n 0, 1) := by decide +kernel
theorem d_Slice_find_11 : decode b_Slice_find 11 = .ok (.iload_n 2, 1) := by decide +kernel
theorem d_Slice_find_12 : decode b_Slice_find 12 = .ok (.invokevirtual 30, 3) := by decide +kernel
theorem d_Slice_find_15 : decode b_Slice_find 15 = .ok (.iload_n 1, 1) := by decide +kernel
theorem d_Slice_find_16 : decode b_Slice_find 16 = .ok (.if_icmp .ne 5, 3) := by decide +kernel
theorem d_Slice_find_19 : decode b_Slice_find 19 = .ok (.iload_n 2, 1) := by decide +kernel
theorem d_Slice_find_20 : decode b_Slice_find 20 = .ok (.ireturn, 1) := by decide +kernel
theorem d_Slice_find_21 : decode b_Slice_find 21 = .ok (.iinc 2 1, 3) := by decide +kernel
theorem d_Slice_find_24 : decode b_Slice_find 24 = .ok (.goto (-22), 3) := by decide +kernel
theorem d_Slice_find_27 : decode b_Slice_find 27 = .ok (.iconst (-1), 1) := by decide +kernel
theorem d_Slice_find_28 : decode b_Slice_find 28 = .ok (.ireturn, 1) := by decide +kernel
def y_Slice_number : MethodName := ⟨"TrustChain$Slice", "number", "()J"⟩
abbrev b_Slice_number : ByteArray := prog_12_method_8_code
def w_Slice_number : List Cond := Cond.code y_Slice_number b_Slice_number 4 ((some FieldType.long)) :: tb
theorem d_Slice_number_0 : decode b_Slice_number 0 = .ok (.aload_n 0, 1) := by decide +kernel
theorem d_Slice_number_1 : decode b_Slice_number 1 = .ok (.invokevirtual 22, 3) := by decide +kernel
theorem d_Slice_number_4 : decode b_Slice_number 4 = .ok (.bipush 8, 2) := by decide +kernel
theorem d_Slice_number_6 : decode b_Slice_number 6 = .ok (.if_icmp .le 7, 3) := by decide +kernel
theorem d_Slice_number_9 : decode b_Slice_number 9 = .ok (.ldc2_w 37, 3) := by decide +kernel
theorem d_Slice_number_12 : decode b_Slice_number 12 = .ok (.lreturn, 1) := by decide +kernel
theorem d_Slice_number_13 : decode b_Slice_number 13 = .ok (.aload_n 0, 1) := by decide +kernel
theorem d_Slice_number_14 : decode b_Slice_number 14 = .ok (.iconst 0, 1) := by decide +kernel
theorem d_Slice_number_15 : decode b_Slice_number 15 = .ok (.invokevirtual 30, 3) := by decide +kernel
theorem d_Slice_number_18 : decode b_Slice_number 18 = .ok (.sipush 128, 3) := by decide +kernel
theorem d_Slice_number_21 : decode b_Slice_number 21 = .ok (.if_icmp .lt 9, 3) := by decide +kernel
theorem d_Slice_number_24 : decode b_Slice_number 24 = .ok (.ldc2_w 37, 3) := by decide +kernel
theorem d_Slice_number_27 : decode b_Slice_number 27 = .ok (.goto 4, 3) := by decide +kernel
theorem d_Slice_number_30 : decode b_Slice_number 30 = .ok (.lconst 0, 1) := by decide +kernel
theorem d_Slice_number_31 : decode b_Slice_number 31 = .ok (.lstore_n 1, 1) := by decide +kernel
theorem d_Slice_number_32 : decode b_Slice_number 32 = .ok (.iconst 0, 1) := by decide +kernel
theorem d_Slice_number_33 : decode b_Slice_number 33 = .ok (.istore_n 3, 1) := by decide +kernel
theorem d_Slice_number_34 : decode b_Slice_number 34 = .ok (.iload_n 3, 1) := by decide +kernel
theorem d_Slice_number_35 : decode b_Slice_number 35 = .ok (.aload_n 0, 1) := by decide +kernel
theorem d_Slice_number_36 : decode b_Slice_number 36 = .ok (.invokevirtual 22, 3) := by decide +kernel
theorem d_Slice_number_39 : decode b_Slice_number 39 = .ok (.if_icmp .ge 21, 3) := by decide +kernel
theorem d_Slice_number_42 : decode b_Slice_number 42 = .ok (.lload_n 1, 1) := by decide +kernel
theorem d_Slice_number_43 : decode b_Slice_number 43 = .ok (.bipush 8, 2) := by decide +kernel
theorem d_Slice_number_45 : decode b_Slice_number 45 = .ok (.lshl, 1) := by decide +kernel
theorem d_Slice_number_46 : decode b_Slice_number 46 = .ok (.aload_n 0, 1) := by decide +kernel
theorem d_Slice_number_47 : decode b_Slice_number 47 = .ok (.iload_n 3, 1) := by decide +kernel
theorem d_Slice_number_48 : decode b_Slice_number 48 = .ok (.invokevirtual 30, 3) := by decide +kernel
theorem d_Slice_number_51 : decode b_Slice_number 51 = .ok (.i2l, 1) := by decide +kernel
theorem d_Slice_number_52 : decode b_Slice_number 52 = .ok (.lor, 1) := by decide +kernel
theorem d_Slice_number_53 : decode b_Slice_number 53 = .ok (.lstore_n 1, 1) := by decide +kernel
theorem d_Slice_number_54 : decode b_Slice_number 54 = .ok (.iinc 3 1, 3) := by decide +kernel
theorem d_Slice_number_57 : decode b_Slice_number 57 = .ok (.goto (-23), 3) := by decide +kernel
theorem d_Slice_number_60 : decode b_Slice_number 60 = .ok (.lload_n 1, 1) := by decide +kernel
theorem d_Slice_number_61 : decode b_Slice_number 61 = .ok (.lreturn, 1) := by decide +kernel
def y_Slice_lower : MethodName := ⟨"TrustChain$Slice", "lower", "(I)I"⟩
abbrev b_Slice_lower : ByteArray := prog_12_method_9_code
def w_Slice_lower : List Cond := Cond.code y_Slice_lower b_Slice_lower 1 ((some FieldType.int)) :: tb
theorem d_Slice_lower_0 : decode b_Slice_lower 0 = .ok (.iload_n 0, 1) := by decide +kernel
theorem d_Slice_lower_1 : decode b_Slice_lower 1 = .ok (.bipush 65, 2) := by decide +kernel
theorem d_Slice_lower_3 : decode b_Slice_lower 3 = .ok (.if_icmp .lt 16, 3) := by decide +kernel
theorem d_Slice_lower_6 : decode b_Slice_lower 6 = .ok (.iload_n 0, 1) := by decide +kernel
theorem d_Slice_lower_7 : decode b_Slice_lower 7 = .ok (.bipush 90, 2) := by decide +kernel
theorem d_Slice_lower_9 : decode b_Slice_lower 9 = .ok (.if_icmp .gt 10, 3) := by decide +kernel
theorem d_Slice_lower_12 : decode b_Slice_lower 12 = .ok (.iload_n 0, 1) := by decide +kernel
theorem d_Slice_lower_13 : decode b_Slice_lower 13 = .ok (.bipush 32, 2) := by decide +kernel
theorem d_Slice_lower_15 : decode b_Slice_lower 15 = .ok (.iadd, 1) := by decide +kernel
theorem d_Slice_lower_16 : decode b_Slice_lower 16 = .ok (.goto 4, 3) := by decide +kernel
theorem d_Slice_lower_19 : decode b_Slice_lower 19 = .ok (.iload_n 0, 1) := by decide +kernel
theorem d_Slice_lower_20 : decode b_Slice_lower 20 = .ok (.ireturn, 1) := by decide +kernel
/-- the cells of a text: bytes, as Java holds them -/
def tx (u : Nat → Nat) : Nat → Int32 := fun j => sb_b (u j)
theorem tx_at {u : Nat → Nat} (hu : ∀ j, u j < 256) (j : Nat) : tx u j &&& 255 = nI (u j) := (sb_byte (u j) (hu j)).1
/-- Slice.at: the octet, -1 outside -/
def sl_at (u : Nat → Nat) (a b : Nat) (i : Int32) : Int32 := if 0 ≤ i.toInt ∧ a + i.toInt.toNat < b then nI (u (a + i.toInt.toNat)) else -1
theorem sl_at_nI {u : Nat → Nat} {a b k : Nat} (hk : k < 2 ^ 31) : sl_at u a b (nI k) = if a + k < b then nI (u (a + k)) else -1 := by
  unfold sl_at
  rw [nI_toInt hk]
  by_cases h : a + k < b
  · rw [if_pos ⟨Int.natCast_nonneg _, by simpa using h⟩, if_pos h]; simp
  · rw [if_neg (fun q => h (by simpa using q.2)), if_neg h]
theorem sl_at_1 {u : Nat → Nat} {a b : Nat} {i : Int32} (h : i < 0) : -1 = sl_at u a b i := by
  unfold sl_at
  rw [Int32.lt_iff_toInt_lt, Int32.toInt_zero] at h
  rw [if_neg (fun q => by omega)]
theorem sl_nn {a b n : Nat} {i : Int32} (hab : a ≤ b) (hbn : b ≤ n) (hn : n < 2 ^ 31) (h : ¬ i < 0) : ∃ k : Nat, k < 2 ^ 31 ∧ i = nI k ∧ (a + k < 2 ^ 31 → ¬ nI a + i < 0) ∧ nI a + i = nI (a + k) := by
  obtain ⟨k, hk, rfl⟩ := nI_of h
  exact ⟨k, hk, rfl, fun q => by rw [nI_add]; exact nI_pos q, nI_add a k⟩
theorem sl_big {k : Nat} (h1 : 2 ^ 31 ≤ k) (h2 : k < 2 ^ 32) : nI k < 0 := by
  rw [Int32.lt_iff_toInt_lt, Int32.toInt_zero]
  show (Int32.ofNat k).toInt < 0
  rw [Int32.toInt_ofNat', Int.bmod_def]
  have e : Int32.size = 4294967296 := rfl
  rw [e]
  omega
theorem sl_at_2 {u : Nat → Nat} {a b n : Nat} {i : Int32} (hab : a ≤ b) (hbn : b ≤ n) (hn : n < 2 ^ 31) (h1 : ¬ i < 0) (h2 : nI a + i < 0) : -1 = sl_at u a b i := by
  obtain ⟨k, hk, rfl, h3, -⟩ := sl_nn hab hbn hn h1
  rw [sl_at_nI hk, if_neg (fun q => h3 (by omega) h2)]
theorem sl_sum {a b n k : Nat} (hab : a ≤ b) (hbn : b ≤ n) (hn : n < 2 ^ 31) (hk : k < 2 ^ 31) (h2 : ¬ nI a + nI k < 0) : a + k < 2 ^ 31 := by
  rcases Nat.lt_or_ge (a + k) (2 ^ 31) with q | q
  · exact q
  · exact absurd (by rw [nI_add]; exact sl_big q (by omega)) h2
theorem sl_at_3 {u : Nat → Nat} {a b n : Nat} {i : Int32} (hab : a ≤ b) (hbn : b ≤ n) (hn : n < 2 ^ 31) (h1 : ¬ i < 0) (h2 : ¬ nI a + i < 0) (h3 : nI b ≤ nI a + i) : -1 = sl_at u a b i := by
  obtain ⟨k, hk, rfl, -, -⟩ := sl_nn hab hbn hn h1
  have hs := sl_sum hab hbn hn hk h2
  rw [nI_add, nI_leI (by omega) hs] at h3
  rw [sl_at_nI hk, if_neg (by omega)]
theorem sl_at_4 {u : Nat → Nat} {a b n : Nat} {i : Int32} (hab : a ≤ b) (hbn : b ≤ n) (hn : n < 2 ^ 31) (h1 : ¬ i < 0) (h2 : ¬ nI a + i < 0) (_ : ¬ nI b ≤ nI a + i) (h4 : nI n ≤ nI a + i) : -1 = sl_at u a b i := by
  obtain ⟨k, hk, rfl, -, -⟩ := sl_nn hab hbn hn h1
  have hs := sl_sum hab hbn hn hk h2
  rw [nI_add, nI_leI (by omega) hs] at h4
  rw [sl_at_nI hk, if_neg (by omega)]
theorem sl_at_5 {u : Nat → Nat} {a b n : Nat} {i : Int32} (hu : ∀ j, u j < 256) (hab : a ≤ b) (hbn : b ≤ n) (hn : n < 2 ^ 31) (h1 : ¬ i < 0) (h2 : ¬ nI a + i < 0) (h3 : ¬ nI b ≤ nI a + i) (_ : ¬ nI n ≤ nI a + i) : tx u (nI a + i).toNatClampNeg &&& 255 = sl_at u a b i := by
  obtain ⟨k, hk, rfl, -, -⟩ := sl_nn hab hbn hn h1
  have hs := sl_sum hab hbn hn hk h2
  rw [nI_add, nI_leI (by omega) hs] at h3
  rw [sl_at_nI hk, if_pos (by omega), nI_add, nI_clamp hs, tx_at hu]
theorem sl_in {a b n : Nat} {i : Int32} (hab : a ≤ b) (hbn : b ≤ n) (hn : n < 2 ^ 31) (h1 : ¬ i < 0) (h2 : ¬ nI a + i < 0) (_ : ¬ nI b ≤ nI a + i) (h4 : ¬ nI n ≤ nI a + i) : vp_in (nI a + i) n := by
  obtain ⟨k, hk, rfl, -, -⟩ := sl_nn hab hbn hn h1
  have hs := sl_sum hab hbn hn hk h2
  rw [nI_add, nI_leI hn hs] at h4
  rw [nI_add]
  exact vp_in_nI (by omega) hn
def sl_low (x : Int32) : Int32 := if x < 65 ∨ 90 < x then x else x + 32
/-- a boolean answer -/
def bz (r : Int32) (P : Prop) : Prop := (r = 1 ∧ P) ∨ (r = 0 ∧ ¬ P)
theorem bz_0 {r : Int32} {P : Prop} (h : bz r P) (hr : r = 0) : ¬ P := h.elim (fun q => absurd (q.1.symm.trans hr) (by decide)) (fun q => q.2)
theorem bz_1 {r : Int32} {P : Prop} (h : bz r P) (hr : ¬ r = 0) : P := h.elim (fun q => q.2) (fun q => absurd q.1 hr)
theorem bz_t {P : Prop} (h : P) : bz 1 P := Or.inl ⟨rfl, h⟩
theorem bz_f {P : Prop} (h : ¬ P) : bz 0 P := Or.inr ⟨rfl, h⟩
theorem bz_n {r : Int32} {P : Prop} (h : bz r P) : narrow .boolean (.int r) = .int r := by
  rcases h with ⟨rfl, -⟩ | ⟨rfl, -⟩ <;> decide
theorem bz_c {r : Int32} {P P' : Prop} (h : bz r P) (e : P ↔ P') : bz r P' := h.elim (fun q => Or.inl ⟨q.1, e.mp q.2⟩) (fun q => Or.inr ⟨q.1, fun z => q.2 (e.mpr z)⟩)
/-- a small letter for a large one -/
def lowN (c : Nat) : Nat := if 65 ≤ c ∧ c ≤ 90 then c + 32 else c
theorem sl_low_nI {c : Nat} (hc : c < 256) : sl_low (nI c) = nI (lowN c) := by
  unfold sl_low lowN
  have e1 : (65 : Int32) = nI 65 := rfl
  have e2 : (90 : Int32) = nI 90 := rfl
  have e3 : (32 : Int32) = nI 32 := rfl
  by_cases h : 65 ≤ c ∧ c ≤ 90
  · rw [if_pos h, if_neg (fun q => ?_), e3, nI_add]
    rcases q with q | q
    · rw [e1, nI_ltI (by omega) (by omega)] at q; omega
    · rw [e2, nI_ltI (by omega) (by omega)] at q; omega
  · rw [if_neg h, if_pos]
    by_cases h2 : c < 65
    · left; rw [e1, nI_ltI (by omega) (by omega)]; exact h2
    · right; rw [e2, nI_ltI (by omega) (by omega)]; omega
theorem lowN_lt {c : Nat} (hc : c < 256) : lowN c < 256 := by unfold lowN; split <;> omega
theorem sl_oct {u : Nat → Nat} {a b k : Nat} (hk : k < 2 ^ 31) (h : a + k < b) : sl_at u a b (nI k) = nI (u (a + k)) := by rw [sl_at_nI hk, if_pos h]
/-- two slices with the same octets at the first z places -/
def eqN (u u2 : Nat → Nat) (a a2 z : Nat) : Prop := ∀ j, j < z → u (a + j) = u2 (a2 + j)
theorem eqN_0 {u u2 : Nat → Nat} {a a2 : Nat} : eqN u u2 a a2 0 := fun j h => absurd h (Nat.not_lt_zero j)
theorem eqN_s {u u2 : Nat → Nat} {a a2 z : Nat} (h : eqN u u2 a a2 z) (e : u (a + z) = u2 (a2 + z)) : eqN u u2 a a2 (z + 1) := fun j hj => by
  rcases Nat.lt_succ_iff_lt_or_eq.mp hj with q | rfl
  · exact h j q
  · exact e
/-- the last z octets, letters in either case -/
def tailN (u u2 : Nat → Nat) (b b2 z : Nat) : Prop := ∀ j, 1 ≤ j → j ≤ z → lowN (u (b - j)) = lowN (u2 (b2 - j))
/-- Slice.number: as a number in two's complement, by its octets -/
def numG (u : Nat → Nat) (a b : Nat) : Nat → Int64
  | 0 => if 128 ≤ sl_at u a b 0 then -1 else 0
  | k + 1 => (numG u a b k <<< ((8 : Int32).toInt64 &&& 63)) ||| (nI (u (a + k))).toInt64
def sl_num (u : Nat → Nat) (a b : Nat) : Int64 := if 8 < b - a then -1 else numG u a b (b - a)
theorem tailN_0 {u u2 : Nat → Nat} {b b2 : Nat} : tailN u u2 b b2 0 := fun j h1 h2 => absurd h2 (by omega)
theorem tailN_s {u u2 : Nat → Nat} {b b2 z : Nat} (h : tailN u u2 b b2 z) (e : lowN (u (b - (z + 1))) = lowN (u2 (b2 - (z + 1)))) : tailN u u2 b b2 (z + 1) := fun j h1 h2 => by
  rcases Nat.lt_or_eq_of_le h2 with q | rfl
  · exact h j h1 (by omega)
  · exact e
theorem sl_back {u : Nat → Nat} {a b k : Nat} (hu : ∀ j, u j < 256) (hk : 1 ≤ k) (hz : k ≤ b - a) (hb : b < 2 ^ 31) : sl_low (sl_at u a b (nI (b - a - k))) = nI (lowN (u (b - k))) := by
  rw [sl_oct (by omega) (by omega), show a + (b - a - k) = b - k by omega, sl_low_nI (hu _)]

set_option maxHeartbeats 4000000 in
set_option maxRecDepth 100000 in
theorem c_Slice_lower (l : Launch) (dC : Nat → ClassId) (dI : Nat → Nat → Nat) (sb : sB) (x : Int32) : Met l y_Slice_lower w_Slice_lower ({ frames := 0, cells := 0, slots := 0, locals := 0 }) (pu_P [.int x] (dC, dI) sb [] []) (vp_Si (fun r => r = sl_low x)) 0 0 (fun _ => False) := by
  refine Met.ofW (cc := b_Slice_lower) (maxL := 1) (ret := (some FieldType.int)) (by decide) rfl ?_
  intro p e s m args below meth c s₁ B hml hv
  obtain ⟨rfl, hP, hK, hN, hT0⟩ := hv
  have hx := B.exec
  have hb := B.bytes
  have hr := B.returns
  have hts := atoms_spec (ws := w_Slice_lower) B.pre
  have tbin : ∀ w ∈ tb, w ∈ w_Slice_lower := fun w h => List.mem_cons_of_mem _ h
  have htb : ∀ w ∈ tb, w.before _ s = true := fun w h => hts w (tbin w h)
  have hown : s.vm.findClass "TrustChain$Slice" = some m.cls := findClass_of_methodNamed B.named
  have hlocks := B.notSynchronized
  have hcs : 0 ≤ (headSpec w_Slice_lower ({ frames := 0, cells := 0, slots := 0, locals := 0 })).room.cells ∧ 0 ≤ (headSpec w_Slice_lower ({ frames := 0, cells := 0, slots := 0, locals := 0 })).room.slots := ⟨Nat.zero_le _, Nat.zero_le _⟩
  have hP : va_P (dC, dI) classes [] s.heap := hP
  have hl := lv_entry ([.int x]) (n := 1) (Nat.le_of_ble_eq_true rfl)
  rw [lg_entry_eq]
  generalize (lg_sl ([.int x]) ++ List.replicate (1 - (lg_sl ([.int x])).length) Slot.unset).toArray = ls at hl ⊢
  have hl : lv_has ls 1 [(0, .int x)] := hl
  refine w_join (J := fun v => v = sl_low x) (pc := 20) (ls := ls) (rest := []) (fun v hv => ?_) (fun k20 => ?_)
  · skip
    exact W.iret (v := v) hx hb hr (fun t ht hW => ⟨_, rfl, hv, ht⟩) (fun q h => by cases h) d_Slice_lower_20
  · skip
    refine lv_iload_n hx hb d_Slice_lower_0 rfl (lv_at hl 0 rfl) ?_
    refine lv_bipush (v := 65) hx hb d_Slice_lower_1 (by decide) ?_
    refine lv_icmp_lt (tgt := 19) hx hb d_Slice_lower_3 (by decide) (fun c3 => ?_) (fun c3 => ?_)
    · refine lv_iload_n hx hb d_Slice_lower_19 rfl (lv_at hl 0 rfl) ?_
      exact k20 _ (by simp [sl_low, c3])
    · refine lv_iload_n hx hb d_Slice_lower_6 rfl (lv_at hl 0 rfl) ?_
      refine lv_bipush (v := 90) hx hb d_Slice_lower_7 (by decide) ?_
      refine lv_icmp_gt (tgt := 19) hx hb d_Slice_lower_9 (by decide) (fun c9 => ?_) (fun c9 => ?_)
      · refine lv_iload_n hx hb d_Slice_lower_19 rfl (lv_at hl 0 rfl) ?_
        exact k20 _ (by simp [sl_low, c3, c9])
      · refine lv_iload_n hx hb d_Slice_lower_12 rfl (lv_at hl 0 rfl) ?_
        refine lv_bipush (v := 32) hx hb d_Slice_lower_13 (by decide) ?_
        refine lv_iadd hx hb d_Slice_lower_15 ?_
        refine lv_goto (tgt := 20) hx hb d_Slice_lower_16 (by decide) ?_
        exact k20 _ (by simp [sl_low, c3, c9])
set_option maxHeartbeats 4000000 in
set_option maxRecDepth 100000 in
theorem c_Slice_length (l : Launch) (dC : Nat → ClassId) (dI : Nat → Nat → Nat) (sb : sB) (h t a b : Nat) (hab : a ≤ b) : Met l y_Slice_length w_Slice_length ({ frames := 0, cells := 0, slots := 0, locals := 0 }) (pu_P [.ref h] (dC, dI) sb [(h, .inr (0, [.ref t, .int (nI a), .int (nI b)]))] []) (vp_Si (fun r => r = nI (b - a))) 0 0 (fun _ => False) := by
  refine Met.ofW (cc := b_Slice_length) (maxL := 1) (ret := (some FieldType.int)) (by decide) rfl ?_
  intro p e s m args below meth c s₁ B hml hv
  obtain ⟨rfl, hP, hK, hN, hT0⟩ := hv
  have hx := B.exec
  have hb := B.bytes
  have hr := B.returns
  have hts := atoms_spec (ws := w_Slice_length) B.pre
  have tbin : ∀ w ∈ tb, w ∈ w_Slice_length := fun w h => List.mem_cons_of_mem _ h
  have htb : ∀ w ∈ tb, w.before _ s = true := fun w h => hts w (tbin w h)
  have hown : s.vm.findClass "TrustChain$Slice" = some m.cls := findClass_of_methodNamed B.named
  have hlocks := B.notSynchronized
  have hcs : 0 ≤ (headSpec w_Slice_length ({ frames := 0, cells := 0, slots := 0, locals := 0 })).room.cells ∧ 0 ≤ (headSpec w_Slice_length ({ frames := 0, cells := 0, slots := 0, locals := 0 })).room.slots := ⟨Nat.zero_le _, Nat.zero_le _⟩
  have hP : va_P (dC, dI) classes [(h, .inr (0, [.ref t, .int (nI a), .int (nI b)]))] s.heap := hP
  have hl := lv_entry ([.ref h]) (n := 1) (Nat.le_of_ble_eq_true rfl)
  rw [lg_entry_eq]
  generalize (lg_sl ([.ref h]) ++ List.replicate (1 - (lg_sl ([.ref h])).length) Slot.unset).toArray = ls at hl ⊢
  have hl : lv_has ls 1 [(0, .ref h)] := hl
  refine lv_aload_n hx hb d_Slice_length_0 rfl (lv_at hl 0 rfl) ?_
  refine va_get (v := .int (nI b)) hx hb htb i_Slice hown hK hP 0 rfl rfl 2 (by decide) (htb _ q2_100) (fun _ h9 => h9) rfl d_Slice_length_1 ?_
  refine lv_aload_n hx hb d_Slice_length_4 rfl (lv_at hl 0 rfl) ?_
  refine va_get (v := .int (nI a)) hx hb htb i_Slice hown hK hP 0 rfl rfl 1 (by decide) (htb _ q2_98) (fun _ h9 => h9) rfl d_Slice_length_5 ?_
  refine lv_isub hx hb d_Slice_length_8 ?_
  exact W.iret (v := (nI b) - (nI a)) hx hb hr (fun t ht hW => ⟨_, rfl, pk_sub hab, ht⟩) (fun q h => by cases h) d_Slice_length_9
set_option maxHeartbeats 4000000 in
set_option maxRecDepth 100000 in
theorem c_Slice_at (l : Launch) (dC : Nat → ClassId) (dI : Nat → Nat → Nat) (sb : sB) (h t a b n : Nat) (cA : ClassId) (u : Nat → Nat) (i : Int32) (hu : ∀ j, u j < 256) (hab : a ≤ b) (hbn : b ≤ n) (hn : n < 2 ^ 31) : Met l y_Slice_at w_Slice_at ({ frames := 0, cells := 0, slots := 0, locals := 0 }) (pu_P [.ref h, .int i] (dC, dI) sb [(h, .inr (0, [.ref t, .int (nI a), .int (nI b)])), (t, .inl (cA, n, .inl (tx u)))] [(cA, .byte)]) (vp_Si (fun r => r = sl_at u a b i)) 0 0 (fun _ => False) := by
  refine Met.ofW (cc := b_Slice_at) (maxL := 3) (ret := (some FieldType.int)) (by decide) rfl ?_
  intro p e s m args below meth c s₁ B hml hv
  obtain ⟨rfl, hP, hK, hN, hT0⟩ := hv
  have hx := B.exec
  have hb := B.bytes
  have hr := B.returns
  have hts := atoms_spec (ws := w_Slice_at) B.pre
  have tbin : ∀ w ∈ tb, w ∈ w_Slice_at := fun w h => List.mem_cons_of_mem _ h
  have htb : ∀ w ∈ tb, w.before _ s = true := fun w h => hts w (tbin w h)
  have hown : s.vm.findClass "TrustChain$Slice" = some m.cls := findClass_of_methodNamed B.named
  have hlocks := B.notSynchronized
  have hcs : 0 ≤ (headSpec w_Slice_at ({ frames := 0, cells := 0, slots := 0, locals := 0 })).room.cells ∧ 0 ≤ (headSpec w_Slice_at ({ frames := 0, cells := 0, slots := 0, locals := 0 })).room.slots := ⟨Nat.zero_le _, Nat.zero_le _⟩
  have hP : va_P (dC, dI) classes [(h, .inr (0, [.ref t, .int (nI a), .int (nI b)])), (t, .inl (cA, n, .inl (tx u)))] s.heap := hP
  have hl := lv_entry ([.ref h, .int i]) (n := 3) (Nat.le_of_ble_eq_true rfl)
  rw [lg_entry_eq]
  generalize (lg_sl ([.ref h, .int i]) ++ List.replicate (3 - (lg_sl ([.ref h, .int i])).length) Slot.unset).toArray = ls at hl ⊢
  have hl : lv_has ls 3 [(0, .ref h), (1, .int i)] := hl
  refine lv_aload_n hx hb d_Slice_at_0 rfl (lv_at hl 0 rfl) ?_
  refine va_get (v := .int (nI a)) hx hb htb i_Slice hown hK hP 0 rfl rfl 1 (by decide) (htb _ q2_98) (fun _ h9 => h9) rfl d_Slice_at_1 ?_
  refine lv_iload_n hx hb d_Slice_at_4 rfl (lv_at hl 1 rfl) ?_
  refine lv_iadd hx hb d_Slice_at_5 ?_
  refine lv_istore_n (lv' := [(2, .int ((nI a) + i)), (0, .ref h), (1, .int i)]) hx hb d_Slice_at_6 rfl hl (by decide) rfl (fun ls hl => ?_)
  refine w_join (J := fun v => v = sl_at u a b i) (pc := 46) (ls := ls) (rest := []) (fun v hv => ?_) (fun k46 => ?_)
  · skip
    exact W.iret (v := v) hx hb hr (fun t ht hW => ⟨_, rfl, hv, ht⟩) (fun q h => by cases h) d_Slice_at_46
  · skip
    refine lv_iload_n hx hb d_Slice_at_7 rfl (lv_at hl 2 rfl) ?_
    refine lv_if_lt (tgt := 45) hx hb d_Slice_at_8 (by decide) (fun c8 => ?_) (fun c8 => ?_)
    · refine lv_iconst (v := -1) hx hb d_Slice_at_45 (by decide) ?_
      exact k46 _ (sl_at_1 c8)
    · refine lv_iload_n hx hb d_Slice_at_11 rfl (lv_at hl 0 rfl) ?_
      refine lv_if_lt (tgt := 45) hx hb d_Slice_at_12 (by decide) (fun c12 => ?_) (fun c12 => ?_)
      · refine lv_iconst (v := -1) hx hb d_Slice_at_45 (by decide) ?_
        exact k46 _ (sl_at_2 hab hbn hn c8 c12)
      · refine lv_iload_n hx hb d_Slice_at_15 rfl (lv_at hl 0 rfl) ?_
        refine lv_aload_n hx hb d_Slice_at_16 rfl (lv_at hl 1 rfl) ?_
        refine va_get (v := .int (nI b)) hx hb htb i_Slice hown hK hP 0 rfl rfl 2 (by decide) (htb _ q2_100) (fun _ h9 => h9) rfl d_Slice_at_17 ?_
        refine lv_icmp_ge (tgt := 45) hx hb d_Slice_at_20 (by decide) (fun c20 => ?_) (fun c20 => ?_)
        · refine lv_iconst (v := -1) hx hb d_Slice_at_45 (by decide) ?_
          exact k46 _ (sl_at_3 hab hbn hn c8 c12 c20)
        · refine lv_iload_n hx hb d_Slice_at_23 rfl (lv_at hl 0 rfl) ?_
          refine lv_aload_n hx hb d_Slice_at_24 rfl (lv_at hl 1 rfl) ?_
          refine va_get (v := .ref t) hx hb htb i_Slice hown hK hP 0 rfl rfl 0 (by decide) (htb _ q2_97) (fun _ h9 => h9) rfl d_Slice_at_25 ?_
          refine va_alen (v := nI n) hx hb hK hP 1 0 rfl rfl rfl d_Slice_at_28 ?_
          refine lv_icmp_ge (tgt := 45) hx hb d_Slice_at_29 (by decide) (fun c29 => ?_) (fun c29 => ?_)
          · refine lv_iconst (v := -1) hx hb d_Slice_at_45 (by decide) ?_
            exact k46 _ (sl_at_4 hab hbn hn c8 c12 c20 c29)
          · refine lv_aload_n hx hb d_Slice_at_32 rfl (lv_at hl 1 rfl) ?_
            refine va_get (v := .ref t) hx hb htb i_Slice hown hK hP 0 rfl rfl 0 (by decide) (htb _ q2_97) (fun _ h9 => h9) rfl d_Slice_at_33 ?_
            refine lv_iload_n hx hb d_Slice_at_36 rfl (lv_at hl 0 rfl) ?_
            have h37 : vp_in ((nI a) + i) n := sl_in hab hbn hn c8 c12 c20 c29
            refine va_bald hx hb hK hP 1 0 rfl rfl h37 d_Slice_at_37 ?_
            refine lv_sipush (v := 255) hx hb d_Slice_at_38 (by decide) ?_
            refine lv_iand hx hb d_Slice_at_41 ?_
            refine lv_goto (tgt := 46) hx hb d_Slice_at_42 (by decide) ?_
            exact k46 _ (sl_at_5 hu hab hbn hn c8 c12 c20 c29)
set_option maxHeartbeats 4000000 in
set_option maxRecDepth 100000 in
theorem c_Slice_beginsWith (l : Launch) (dC : Nat → ClassId) (dI : Nat → Nat → Nat) (sb : sB) (h h2 t t2 a b n a2 b2 n2 : Nat) (cA cB : ClassId) (u u2 : Nat → Nat) (hu : ∀ j, u j < 256) (hab : a ≤ b) (hbn : b ≤ n) (hn : n < 2 ^ 31) (hu2 : ∀ j, u2 j < 256) (hab2 : a2 ≤ b2) (hbn2 : b2 ≤ n2) (hn2 : n2 < 2 ^ 31) : Met l y_Slice_beginsWith w_Slice_beginsWith ({ frames := 1, cells := 0, slots := 0, locals := 22 }) (pu_P [.ref h, .ref h2] (dC, dI) sb [(h, .inr (0, [.ref t, .int (nI a), .int (nI b)])), (t, .inl (cA, n, .inl (tx u))), (h2, .inr (0, [.ref t2, .int (nI a2), .int (nI b2)])), (t2, .inl (cB, n2, .inl (tx u2)))] [(cA, .byte), (cB, .byte)]) (vp_Si (fun r => bz r (b2 - a2 ≤ b - a ∧ eqN u u2 a a2 (b2 - a2)))) 0 0 (fun _ => False) := by
  refine Met.ofW (cc := b_Slice_beginsWith) (maxL := 3) (ret := (some FieldType.boolean)) (by decide) rfl ?_
  intro p e s m args below meth c s₁ B hml hv
  obtain ⟨rfl, hP, hK, hN, hT0⟩ := hv
  have hx := B.exec
  have hb := B.bytes
  have hr := B.returns
  have hts := atoms_spec (ws := w_Slice_beginsWith) B.pre
  have tbin : ∀ w ∈ tb, w ∈ w_Slice_beginsWith := fun w h => List.mem_cons_of_mem _ h
  have htb : ∀ w ∈ tb, w.before _ s = true := fun w h => hts w (tbin w h)
  have hown : s.vm.findClass "TrustChain$Slice" = some m.cls := findClass_of_methodNamed B.named
  have hlocks := B.notSynchronized
  have hcs : 0 ≤ (headSpec w_Slice_beginsWith ({ frames := 1, cells := 0, slots := 0, locals := 22 })).room.cells ∧ 0 ≤ (headSpec w_Slice_beginsWith ({ frames := 1, cells := 0, slots := 0, locals := 22 })).room.slots := ⟨Nat.zero_le _, Nat.zero_le _⟩
  have hP : va_P (dC, dI) classes [(h, .inr (0, [.ref t, .int (nI a), .int (nI b)])), (t, .inl (cA, n, .inl (tx u))), (h2, .inr (0, [.ref t2, .int (nI a2), .int (nI b2)])), (t2, .inl (cB, n2, .inl (tx u2)))] s.heap := hP
  have hl := lv_entry ([.ref h, .ref h2]) (n := 3) (Nat.le_of_ble_eq_true rfl)
  rw [lg_entry_eq]
  generalize (lg_sl ([.ref h, .ref h2]) ++ List.replicate (3 - (lg_sl ([.ref h, .ref h2])).length) Slot.unset).toArray = ls at hl ⊢
  have hl : lv_has ls 3 [(0, .ref h), (1, .ref h2)] := hl
  refine lv_aload_n hx hb d_Slice_beginsWith_0 rfl (lv_at hl 1 rfl) ?_
  refine vp_callSi (pu_callV (As := []) (rest := []) ⟨hx, hb, hml, hown, hts⟩ tbin (c_Slice_length l dC dI sb h2 t2 a2 b2 hab2) q3_143 q3_144 q3_145 q1_22 q3_146 (n := 0) (by decide +kernel) rfl ⟨rfl, rfl⟩ ⟨Nat.le_of_ble_eq_true rfl, Nat.le_of_ble_eq_true rfl⟩ ⟨Nat.le_of_ble_eq_true rfl, Nat.le_of_ble_eq_true rfl⟩ hN hT0 hK hP [2] rfl [] rfl 2 0 rfl rfl rfl hl.1 rfl (Nat.le_of_ble_eq_true rfl) d_Slice_beginsWith_1) (fun r1 hr1 => ?_)
  refine lv_aload_n hx hb d_Slice_beginsWith_4 rfl (lv_at hl 0 rfl) ?_
  refine vp_callSi (pu_callV (As := []) (rest := [.int r1]) ⟨hx, hb, hml, hown, hts⟩ tbin (c_Slice_length l dC dI sb h t a b hab) q3_143 q3_144 q3_145 q1_22 q3_146 (n := 0) (by decide +kernel) rfl ⟨rfl, rfl⟩ ⟨Nat.le_of_ble_eq_true rfl, Nat.le_of_ble_eq_true rfl⟩ ⟨Nat.le_of_ble_eq_true rfl, Nat.le_of_ble_eq_true rfl⟩ hN hT0 hK hP [0] rfl [] rfl 0 0 rfl rfl rfl hl.1 rfl (Nat.le_of_ble_eq_true rfl) d_Slice_beginsWith_5) (fun r5 hr5 => ?_)
  refine lv_icmp_le (tgt := 13) hx hb d_Slice_beginsWith_8 (by decide) (fun c8 => ?_) (fun c8 => ?_)
  · have hle : b2 - a2 ≤ b - a := by rw [hr1, hr5, nI_leI (by omega) (by omega)] at c8; exact c8
    refine lv_iconst (v := 0) hx hb d_Slice_beginsWith_13 (by decide) ?_
    refine lv_istore_n (lv' := [(2, .int 0), (0, .ref h), (1, .ref h2)]) hx hb d_Slice_beginsWith_14 rfl hl (by decide) rfl (fun ls hl => ?_)
    refine w_loop (α := Nat) (fun k => k ≤ b2 - a2 ∧ eqN u u2 a a2 k) (fun k => b2 - a2 - k) (fun k => [(0, .ref h), (1, .ref h2), (2, .int (nI k))]) (fun _ => []) 3 15 (fun k ls hJ hl ih => ?_) 0 ls (⟨Nat.zero_le _, eqN_0⟩) (lv_sub hl [1, 2, 0] rfl)
    refine lv_iload_n hx hb d_Slice_beginsWith_15 rfl (lv_at hl 2 rfl) ?_
    refine lv_aload_n hx hb d_Slice_beginsWith_16 rfl (lv_at hl 1 rfl) ?_
    refine vp_callSi (pu_callV (As := []) (rest := [.int (nI k)]) ⟨hx, hb, hml, hown, hts⟩ tbin (c_Slice_length l dC dI sb h2 t2 a2 b2 hab2) q3_143 q3_144 q3_145 q1_22 q3_146 (n := 0) (by decide +kernel) rfl ⟨rfl, rfl⟩ ⟨Nat.le_of_ble_eq_true rfl, Nat.le_of_ble_eq_true rfl⟩ ⟨Nat.le_of_ble_eq_true rfl, Nat.le_of_ble_eq_true rfl⟩ hN hT0 hK hP [2] rfl [] rfl 2 0 rfl rfl rfl hl.1 rfl (Nat.le_of_ble_eq_true rfl) d_Slice_beginsWith_17) (fun r17 hr17 => ?_)
    refine lv_icmp_ge (tgt := 44) hx hb d_Slice_beginsWith_20 (by decide) (fun c20 => ?_) (fun c20 => ?_)
    · have hke : k = b2 - a2 := by rw [hr17, nI_leI (by omega) (by omega)] at c20; omega
      refine lv_iconst (v := 1) hx hb d_Slice_beginsWith_44 (by decide) ?_
      exact W.zret (v := 1) hx hb hr (by decide) (fun t ht hW => ⟨_, rfl, bz_t ⟨hle, hke ▸ hJ.2⟩, ht⟩) (fun q h => by cases h) d_Slice_beginsWith_45
    · have hlt : k < b2 - a2 := by rw [hr17, nI_leI (by omega) (by omega)] at c20; omega
      refine lv_aload_n hx hb d_Slice_beginsWith_23 rfl (lv_at hl 0 rfl) ?_
      refine lv_iload_n hx hb d_Slice_beginsWith_24 rfl (lv_at hl 2 rfl) ?_
      refine vp_callSi (pu_callV (As := [.int (nI k)]) (rest := []) ⟨hx, hb, hml, hown, hts⟩ tbin (c_Slice_at l dC dI sb h t a b n cA u (nI k) hu hab hbn hn) q3_148 q3_149 q3_150 q1_22 q3_151 (n := 1) (by decide +kernel) rfl ⟨rfl, rfl⟩ ⟨Nat.le_of_ble_eq_true rfl, Nat.le_of_ble_eq_true rfl⟩ ⟨Nat.le_of_ble_eq_true rfl, Nat.le_of_ble_eq_true rfl⟩ hN hT0 hK hP [0, 1] rfl [0] rfl 0 0 rfl rfl rfl hl.1 rfl (Nat.le_of_ble_eq_true rfl) d_Slice_beginsWith_25) (fun r25 hr25 => ?_)
      refine lv_aload_n hx hb d_Slice_beginsWith_28 rfl (lv_at hl 1 rfl) ?_
      refine lv_iload_n hx hb d_Slice_beginsWith_29 rfl (lv_at hl 2 rfl) ?_
      refine vp_callSi (pu_callV (As := [.int (nI k)]) (rest := [.int r25]) ⟨hx, hb, hml, hown, hts⟩ tbin (c_Slice_at l dC dI sb h2 t2 a2 b2 n2 cB u2 (nI k) hu2 hab2 hbn2 hn2) q3_148 q3_149 q3_150 q1_22 q3_151 (n := 1) (by decide +kernel) rfl ⟨rfl, rfl⟩ ⟨Nat.le_of_ble_eq_true rfl, Nat.le_of_ble_eq_true rfl⟩ ⟨Nat.le_of_ble_eq_true rfl, Nat.le_of_ble_eq_true rfl⟩ hN hT0 hK hP [2, 3] rfl [1] rfl 2 0 rfl rfl rfl hl.1 rfl (Nat.le_of_ble_eq_true rfl) d_Slice_beginsWith_30) (fun r30 hr30 => ?_)
      rw [sl_oct (by omega) (by omega)] at hr25 hr30
      refine lv_icmp_eq (tgt := 38) hx hb d_Slice_beginsWith_33 (by decide) (fun c33 => ?_) (fun c33 => ?_)
      · have hq : u (a + k) = u2 (a2 + k) := by rw [hr25, hr30, nI_eq (by have := hu (a + k); omega) (by have := hu2 (a2 + k); omega)] at c33; exact c33
        refine lv_iinc (v := nI (k + 1)) (lv' := [(2, .int (nI (k + 1))), (0, .ref h), (1, .ref h2)]) hx hb d_Slice_beginsWith_38 hl (k := 2) rfl (nI_1 _) (by decide) rfl (fun ls hl => ?_)
        refine lv_goto (tgt := 15) hx hb d_Slice_beginsWith_41 (by decide) ?_
        exact ih (k + 1) ls (by omega) (⟨by omega, eqN_s hJ.2 hq⟩) (lv_sub hl [1, 2, 0] rfl)
      · refine lv_iconst (v := 0) hx hb d_Slice_beginsWith_36 (by decide) ?_
        exact W.zret (v := 0) hx hb hr (by decide) (fun t ht hW => ⟨_, rfl, bz_f (fun q => c33 (by rw [hr25, hr30, q.2 k hlt])), ht⟩) (fun q h => by cases h) d_Slice_beginsWith_37
  · have hgt : ¬ b2 - a2 ≤ b - a := fun q => c8 (by rw [hr1, hr5]; exact nI_le q (by omega))
    refine lv_iconst (v := 0) hx hb d_Slice_beginsWith_11 (by decide) ?_
    exact W.zret (v := 0) hx hb hr (by decide) (fun t ht hW => ⟨_, rfl, bz_f (fun q => hgt q.1), ht⟩) (fun q h => by cases h) d_Slice_beginsWith_12
set_option maxHeartbeats 4000000 in
set_option maxRecDepth 100000 in
theorem c_Slice_same (l : Launch) (dC : Nat → ClassId) (dI : Nat → Nat → Nat) (sb : sB) (h h2 t t2 a b n a2 b2 n2 : Nat) (cA cB : ClassId) (u u2 : Nat → Nat) (hu : ∀ j, u j < 256) (hab : a ≤ b) (hbn : b ≤ n) (hn : n < 2 ^ 31) (hu2 : ∀ j, u2 j < 256) (hab2 : a2 ≤ b2) (hbn2 : b2 ≤ n2) (hn2 : n2 < 2 ^ 31) : Met l y_Slice_same w_Slice_same ({ frames := 2, cells := 0, slots := 0, locals := 44 }) (pu_P [.ref h, .ref h2] (dC, dI) sb [(h, .inr (0, [.ref t, .int (nI a), .int (nI b)])), (t, .inl (cA, n, .inl (tx u))), (h2, .inr (0, [.ref t2, .int (nI a2), .int (nI b2)])), (t2, .inl (cB, n2, .inl (tx u2)))] [(cA, .byte), (cB, .byte)]) (vp_Si (fun r => bz r (b - a = b2 - a2 ∧ eqN u u2 a a2 (b - a)))) 0 0 (fun _ => False) := by
  refine Met.ofW (cc := b_Slice_same) (maxL := 2) (ret := (some FieldType.boolean)) (by decide) rfl ?_
  intro p e s m args below meth c s₁ B hml hv
  obtain ⟨rfl, hP, hK, hN, hT0⟩ := hv
  have hx := B.exec
  have hb := B.bytes
  have hr := B.returns
  have hts := atoms_spec (ws := w_Slice_same) B.pre
  have tbin : ∀ w ∈ tb, w ∈ w_Slice_same := fun w h => List.mem_cons_of_mem _ h
  have htb : ∀ w ∈ tb, w.before _ s = true := fun w h => hts w (tbin w h)
  have hown : s.vm.findClass "TrustChain$Slice" = some m.cls := findClass_of_methodNamed B.named
  have hlocks := B.notSynchronized
  have hcs : 0 ≤ (headSpec w_Slice_same ({ frames := 2, cells := 0, slots := 0, locals := 44 })).room.cells ∧ 0 ≤ (headSpec w_Slice_same ({ frames := 2, cells := 0, slots := 0, locals := 44 })).room.slots := ⟨Nat.zero_le _, Nat.zero_le _⟩
  have hP : va_P (dC, dI) classes [(h, .inr (0, [.ref t, .int (nI a), .int (nI b)])), (t, .inl (cA, n, .inl (tx u))), (h2, .inr (0, [.ref t2, .int (nI a2), .int (nI b2)])), (t2, .inl (cB, n2, .inl (tx u2)))] s.heap := hP
  have hl := lv_entry ([.ref h, .ref h2]) (n := 2) (Nat.le_of_ble_eq_true rfl)
  rw [lg_entry_eq]
  generalize (lg_sl ([.ref h, .ref h2]) ++ List.replicate (2 - (lg_sl ([.ref h, .ref h2])).length) Slot.unset).toArray = ls at hl ⊢
  have hl : lv_has ls 2 [(0, .ref h), (1, .ref h2)] := hl
  refine w_join (J := fun v => bz v (b - a = b2 - a2 ∧ eqN u u2 a a2 (b - a))) (pc := 24) (ls := ls) (rest := []) (fun v hv => ?_) (fun k24 => ?_)
  · skip
    exact W.zret (v := v) hx hb hr (bz_n hv) (fun t ht hW => ⟨_, rfl, hv, ht⟩) (fun q h => by cases h) d_Slice_same_24
  · skip
    refine lv_aload_n hx hb d_Slice_same_0 rfl (lv_at hl 0 rfl) ?_
    refine vp_callSi (pu_callV (As := []) (rest := []) ⟨hx, hb, hml, hown, hts⟩ tbin (c_Slice_length l dC dI sb h t a b hab) q3_143 q3_144 q3_145 q1_22 q3_146 (n := 0) (by decide +kernel) rfl ⟨rfl, rfl⟩ ⟨Nat.le_of_ble_eq_true rfl, Nat.le_of_ble_eq_true rfl⟩ ⟨Nat.le_of_ble_eq_true rfl, Nat.le_of_ble_eq_true rfl⟩ hN hT0 hK hP [0] rfl [] rfl 0 0 rfl rfl rfl hl.1 rfl (Nat.le_of_ble_eq_true rfl) d_Slice_same_1) (fun r1 hr1 => ?_)
    refine lv_aload_n hx hb d_Slice_same_4 rfl (lv_at hl 1 rfl) ?_
    refine vp_callSi (pu_callV (As := []) (rest := [.int r1]) ⟨hx, hb, hml, hown, hts⟩ tbin (c_Slice_length l dC dI sb h2 t2 a2 b2 hab2) q3_143 q3_144 q3_145 q1_22 q3_146 (n := 0) (by decide +kernel) rfl ⟨rfl, rfl⟩ ⟨Nat.le_of_ble_eq_true rfl, Nat.le_of_ble_eq_true rfl⟩ ⟨Nat.le_of_ble_eq_true rfl, Nat.le_of_ble_eq_true rfl⟩ hN hT0 hK hP [2] rfl [] rfl 2 0 rfl rfl rfl hl.1 rfl (Nat.le_of_ble_eq_true rfl) d_Slice_same_5) (fun r5 hr5 => ?_)
    refine lv_icmp_ne (tgt := 23) hx hb d_Slice_same_8 (by decide) (fun c8 => ?_) (fun c8 => ?_)
    · refine lv_iconst (v := 0) hx hb d_Slice_same_23 (by decide) ?_
      exact k24 _ (bz_f (fun q => c8 (by rw [hr1, hr5, q.1])))
    · have hle : b - a = b2 - a2 := by rw [hr1, hr5, nI_eq (by omega) (by omega)] at c8; exact c8
      refine lv_aload_n hx hb d_Slice_same_11 rfl (lv_at hl 1 rfl) ?_
      refine lv_aload_n hx hb d_Slice_same_12 rfl (lv_at hl 0 rfl) ?_
      refine vp_callSi (pu_callV (As := [.ref h]) (rest := []) ⟨hx, hb, hml, hown, hts⟩ tbin (c_Slice_beginsWith l dC dI sb h2 h t2 t a2 b2 n2 a b n cB cA u2 u hu2 hab2 hbn2 hn2 hu hab hbn hn) q4_30 q4_31 q4_32 q1_22 q4_33 (n := 1) (by decide +kernel) rfl ⟨rfl, rfl⟩ ⟨Nat.le_of_ble_eq_true rfl, Nat.le_of_ble_eq_true rfl⟩ ⟨Nat.le_of_ble_eq_true rfl, Nat.le_of_ble_eq_true rfl⟩ hN hT0 hK hP [2, 3, 0, 1] rfl [1, 0] rfl 2 0 rfl rfl rfl hl.1 rfl (Nat.le_of_ble_eq_true rfl) d_Slice_same_13) (fun r13 hr13 => ?_)
      refine lv_if_eq (tgt := 23) hx hb d_Slice_same_16 (by decide) (fun c16 => ?_) (fun c16 => ?_)
      · refine lv_iconst (v := 0) hx hb d_Slice_same_23 (by decide) ?_
        exact k24 _ (bz_f (fun q => bz_0 hr13 c16 ⟨by omega, fun j hj => (q.2 j hj).symm⟩))
      · refine lv_iconst (v := 1) hx hb d_Slice_same_19 (by decide) ?_
        refine lv_goto (tgt := 24) hx hb d_Slice_same_20 (by decide) ?_
        exact k24 _ (bz_t ⟨hle, fun j hj => ((bz_1 hr13 c16).2 j (by omega)).symm⟩)
set_option maxHeartbeats 4000000 in
set_option maxRecDepth 100000 in
theorem c_Slice_sharesTail (l : Launch) (dC : Nat → ClassId) (dI : Nat → Nat → Nat) (sb : sB) (h h2 t t2 a b n a2 b2 n2 : Nat) (cA cB : ClassId) (u u2 : Nat → Nat) (z : Nat) (hu : ∀ j, u j < 256) (hab : a ≤ b) (hbn : b ≤ n) (hn : n < 2 ^ 31) (hu2 : ∀ j, u2 j < 256) (hab2 : a2 ≤ b2) (hbn2 : b2 ≤ n2) (hn2 : n2 < 2 ^ 31) (hz : z < 2 ^ 30) : Met l y_Slice_sharesTail w_Slice_sharesTail ({ frames := 1, cells := 0, slots := 0, locals := 22 }) (pu_P [.ref h, .ref h2, .int (nI z)] (dC, dI) sb [(h, .inr (0, [.ref t, .int (nI a), .int (nI b)])), (t, .inl (cA, n, .inl (tx u))), (h2, .inr (0, [.ref t2, .int (nI a2), .int (nI b2)])), (t2, .inl (cB, n2, .inl (tx u2)))] [(cA, .byte), (cB, .byte)]) (vp_Si (fun r => bz r (z ≤ b - a ∧ z ≤ b2 - a2 ∧ tailN u u2 b b2 z))) 0 0 (fun _ => False) := by
  refine Met.ofW (cc := b_Slice_sharesTail) (maxL := 4) (ret := (some FieldType.boolean)) (by decide) rfl ?_
  intro p e s m args below meth c s₁ B hml hv
  obtain ⟨rfl, hP, hK, hN, hT0⟩ := hv
  have hx := B.exec
  have hb := B.bytes
  have hr := B.returns
  have hts := atoms_spec (ws := w_Slice_sharesTail) B.pre
  have tbin : ∀ w ∈ tb, w ∈ w_Slice_sharesTail := fun w h => List.mem_cons_of_mem _ h
  have htb : ∀ w ∈ tb, w.before _ s = true := fun w h => hts w (tbin w h)
  have hown : s.vm.findClass "TrustChain$Slice" = some m.cls := findClass_of_methodNamed B.named
  have hlocks := B.notSynchronized
  have hcs : 0 ≤ (headSpec w_Slice_sharesTail ({ frames := 1, cells := 0, slots := 0, locals := 22 })).room.cells ∧ 0 ≤ (headSpec w_Slice_sharesTail ({ frames := 1, cells := 0, slots := 0, locals := 22 })).room.slots := ⟨Nat.zero_le _, Nat.zero_le _⟩
  have hP : va_P (dC, dI) classes [(h, .inr (0, [.ref t, .int (nI a), .int (nI b)])), (t, .inl (cA, n, .inl (tx u))), (h2, .inr (0, [.ref t2, .int (nI a2), .int (nI b2)])), (t2, .inl (cB, n2, .inl (tx u2)))] s.heap := hP
  have hl := lv_entry ([.ref h, .ref h2, .int (nI z)]) (n := 4) (Nat.le_of_ble_eq_true rfl)
  rw [lg_entry_eq]
  generalize (lg_sl ([.ref h, .ref h2, .int (nI z)]) ++ List.replicate (4 - (lg_sl ([.ref h, .ref h2, .int (nI z)])).length) Slot.unset).toArray = ls at hl ⊢
  have hl : lv_has ls 4 [(0, .ref h), (1, .ref h2), (2, .int (nI z))] := hl
  refine lv_iload_n hx hb d_Slice_sharesTail_0 rfl (lv_at hl 2 rfl) ?_
  refine lv_aload_n hx hb d_Slice_sharesTail_1 rfl (lv_at hl 0 rfl) ?_
  refine vp_callSi (pu_callV (As := []) (rest := [.int (nI z)]) ⟨hx, hb, hml, hown, hts⟩ tbin (c_Slice_length l dC dI sb h t a b hab) q3_143 q3_144 q3_145 q1_22 q3_146 (n := 0) (by decide +kernel) rfl ⟨rfl, rfl⟩ ⟨Nat.le_of_ble_eq_true rfl, Nat.le_of_ble_eq_true rfl⟩ ⟨Nat.le_of_ble_eq_true rfl, Nat.le_of_ble_eq_true rfl⟩ hN hT0 hK hP [0] rfl [] rfl 0 0 rfl rfl rfl hl.1 rfl (Nat.le_of_ble_eq_true rfl) d_Slice_sharesTail_2) (fun r2 hr2 => ?_)
  refine lv_icmp_gt (tgt := 16) hx hb d_Slice_sharesTail_5 (by decide) (fun c5 => ?_) (fun c5 => ?_)
  · have hno : ¬ (z ≤ b - a ∧ z ≤ b2 - a2) := fun q => (by rw [hr2, nI_ltI (by omega) (by omega)] at c5; omega)
    refine lv_iconst (v := 0) hx hb d_Slice_sharesTail_16 (by decide) ?_
    exact W.zret (v := 0) hx hb hr (by decide) (fun t ht hW => ⟨_, rfl, bz_f (fun q => hno ⟨q.1, q.2.1⟩), ht⟩) (fun q h => by cases h) d_Slice_sharesTail_17
  · refine lv_iload_n hx hb d_Slice_sharesTail_8 rfl (lv_at hl 2 rfl) ?_
    refine lv_aload_n hx hb d_Slice_sharesTail_9 rfl (lv_at hl 1 rfl) ?_
    refine vp_callSi (pu_callV (As := []) (rest := [.int (nI z)]) ⟨hx, hb, hml, hown, hts⟩ tbin (c_Slice_length l dC dI sb h2 t2 a2 b2 hab2) q3_143 q3_144 q3_145 q1_22 q3_146 (n := 0) (by decide +kernel) rfl ⟨rfl, rfl⟩ ⟨Nat.le_of_ble_eq_true rfl, Nat.le_of_ble_eq_true rfl⟩ ⟨Nat.le_of_ble_eq_true rfl, Nat.le_of_ble_eq_true rfl⟩ hN hT0 hK hP [2] rfl [] rfl 2 0 rfl rfl rfl hl.1 rfl (Nat.le_of_ble_eq_true rfl) d_Slice_sharesTail_10) (fun r10 hr10 => ?_)
    refine lv_icmp_le (tgt := 18) hx hb d_Slice_sharesTail_13 (by decide) (fun c13 => ?_) (fun c13 => ?_)
    · have hz1 : z ≤ b - a := by rw [hr2, nI_ltI (by omega) (by omega)] at c5; omega
      have hz2 : z ≤ b2 - a2 := by rw [hr10, nI_leI (by omega) (by omega)] at c13; exact c13
      refine lv_iconst (v := 1) hx hb d_Slice_sharesTail_18 (by decide) ?_
      refine lv_istore_n (lv' := [(3, .int 1), (0, .ref h), (1, .ref h2), (2, .int (nI z))]) hx hb d_Slice_sharesTail_19 rfl hl (by decide) rfl (fun ls hl => ?_)
      refine w_loop (α := Nat) (fun k => k ≤ z ∧ tailN u u2 b b2 k) (fun k => z - k) (fun k => [(0, .ref h), (1, .ref h2), (2, .int (nI z)), (3, .int (nI (k + 1)))]) (fun _ => []) 4 20 (fun k ls hJ hl ih => ?_) 0 ls (⟨Nat.zero_le _, tailN_0⟩) (lv_sub hl [1, 2, 3, 0] rfl)
      refine lv_iload_n hx hb d_Slice_sharesTail_20 rfl (lv_at hl 3 rfl) ?_
      refine lv_iload_n hx hb d_Slice_sharesTail_21 rfl (lv_at hl 2 rfl) ?_
      refine lv_icmp_gt (tgt := 62) hx hb d_Slice_sharesTail_22 (by decide) (fun c22 => ?_) (fun c22 => ?_)
      · have hke : k = z := by rw [nI_ltI (by omega) (by omega)] at c22; omega
        refine lv_iconst (v := 1) hx hb d_Slice_sharesTail_62 (by decide) ?_
        exact W.zret (v := 1) hx hb hr (by decide) (fun t ht hW => ⟨_, rfl, bz_t ⟨hz1, hz2, hke ▸ hJ.2⟩, ht⟩) (fun q h => by cases h) d_Slice_sharesTail_63
      · have hlt : k + 1 ≤ z := by rw [nI_ltI (by omega) (by omega)] at c22; omega
        refine lv_aload_n hx hb d_Slice_sharesTail_25 rfl (lv_at hl 0 rfl) ?_
        refine lv_aload_n hx hb d_Slice_sharesTail_26 rfl (lv_at hl 0 rfl) ?_
        refine vp_callSi (pu_callV (As := []) (rest := [.ref h]) ⟨hx, hb, hml, hown, hts⟩ tbin (c_Slice_length l dC dI sb h t a b hab) q3_143 q3_144 q3_145 q1_22 q3_146 (n := 0) (by decide +kernel) rfl ⟨rfl, rfl⟩ ⟨Nat.le_of_ble_eq_true rfl, Nat.le_of_ble_eq_true rfl⟩ ⟨Nat.le_of_ble_eq_true rfl, Nat.le_of_ble_eq_true rfl⟩ hN hT0 hK hP [0] rfl [] rfl 0 0 rfl rfl rfl hl.1 rfl (Nat.le_of_ble_eq_true rfl) d_Slice_sharesTail_27) (fun r27 hr27 => ?_)
        refine lv_iload_n hx hb d_Slice_sharesTail_30 rfl (lv_at hl 3 rfl) ?_
        refine lv_isub hx hb d_Slice_sharesTail_31 ?_
        rw [show (r27 - (nI (k + 1)) : Int32) = nI (b - a - (k + 1)) from by rw [hr27]; exact pk_sub (by omega)]
        refine vp_callSi (pu_callV (As := [.int (nI (b - a - (k + 1)))]) (rest := []) ⟨hx, hb, hml, hown, hts⟩ tbin (c_Slice_at l dC dI sb h t a b n cA u (nI (b - a - (k + 1))) hu hab hbn hn) q3_148 q3_149 q3_150 q1_22 q3_151 (n := 1) (by decide +kernel) rfl ⟨rfl, rfl⟩ ⟨Nat.le_of_ble_eq_true rfl, Nat.le_of_ble_eq_true rfl⟩ ⟨Nat.le_of_ble_eq_true rfl, Nat.le_of_ble_eq_true rfl⟩ hN hT0 hK hP [0, 1] rfl [0] rfl 0 0 rfl rfl rfl hl.1 rfl (Nat.le_of_ble_eq_true rfl) d_Slice_sharesTail_32) (fun r32 hr32 => ?_)
        refine vp_callSi (pu_callS (As := [.int r32]) (rest := []) ⟨hx, hb, hml, hown, hts⟩ tbin (c_Slice_lower l dC dI sb r32) q6_112 q6_113 q1_22 q6_114 (n := 1) (by decide +kernel) rfl ⟨rfl, rfl⟩ ⟨Nat.le_of_ble_eq_true rfl, Nat.le_of_ble_eq_true rfl⟩ ⟨Nat.le_of_ble_eq_true rfl, Nat.le_of_ble_eq_true rfl⟩ hN hT0 hK hP [] rfl [] rfl hl.1 rfl (Nat.le_of_ble_eq_true rfl) d_Slice_sharesTail_35) (fun r35 hr35 => ?_)
        refine lv_aload_n hx hb d_Slice_sharesTail_38 rfl (lv_at hl 1 rfl) ?_
        refine lv_aload_n hx hb d_Slice_sharesTail_39 rfl (lv_at hl 1 rfl) ?_
        refine vp_callSi (pu_callV (As := []) (rest := [.ref h2, .int r35]) ⟨hx, hb, hml, hown, hts⟩ tbin (c_Slice_length l dC dI sb h2 t2 a2 b2 hab2) q3_143 q3_144 q3_145 q1_22 q3_146 (n := 0) (by decide +kernel) rfl ⟨rfl, rfl⟩ ⟨Nat.le_of_ble_eq_true rfl, Nat.le_of_ble_eq_true rfl⟩ ⟨Nat.le_of_ble_eq_true rfl, Nat.le_of_ble_eq_true rfl⟩ hN hT0 hK hP [2] rfl [] rfl 2 0 rfl rfl rfl hl.1 rfl (Nat.le_of_ble_eq_true rfl) d_Slice_sharesTail_40) (fun r40 hr40 => ?_)
        refine lv_iload_n hx hb d_Slice_sharesTail_43 rfl (lv_at hl 3 rfl) ?_
        refine lv_isub hx hb d_Slice_sharesTail_44 ?_
        rw [show (r40 - (nI (k + 1)) : Int32) = nI (b2 - a2 - (k + 1)) from by rw [hr40]; exact pk_sub (by omega)]
        refine vp_callSi (pu_callV (As := [.int (nI (b2 - a2 - (k + 1)))]) (rest := [.int r35]) ⟨hx, hb, hml, hown, hts⟩ tbin (c_Slice_at l dC dI sb h2 t2 a2 b2 n2 cB u2 (nI (b2 - a2 - (k + 1))) hu2 hab2 hbn2 hn2) q3_148 q3_149 q3_150 q1_22 q3_151 (n := 1) (by decide +kernel) rfl ⟨rfl, rfl⟩ ⟨Nat.le_of_ble_eq_true rfl, Nat.le_of_ble_eq_true rfl⟩ ⟨Nat.le_of_ble_eq_true rfl, Nat.le_of_ble_eq_true rfl⟩ hN hT0 hK hP [2, 3] rfl [1] rfl 2 0 rfl rfl rfl hl.1 rfl (Nat.le_of_ble_eq_true rfl) d_Slice_sharesTail_45) (fun r45 hr45 => ?_)
        refine vp_callSi (pu_callS (As := [.int r45]) (rest := [.int r35]) ⟨hx, hb, hml, hown, hts⟩ tbin (c_Slice_lower l dC dI sb r45) q6_112 q6_113 q1_22 q6_114 (n := 1) (by decide +kernel) rfl ⟨rfl, rfl⟩ ⟨Nat.le_of_ble_eq_true rfl, Nat.le_of_ble_eq_true rfl⟩ ⟨Nat.le_of_ble_eq_true rfl, Nat.le_of_ble_eq_true rfl⟩ hN hT0 hK hP [] rfl [] rfl hl.1 rfl (Nat.le_of_ble_eq_true rfl) d_Slice_sharesTail_48) (fun r48 hr48 => ?_)
        rw [hr32, sl_back hu (by omega) (by omega) (by omega)] at hr35
        rw [hr45, sl_back hu2 (by omega) (by omega) (by omega)] at hr48
        refine lv_icmp_eq (tgt := 56) hx hb d_Slice_sharesTail_51 (by decide) (fun c51 => ?_) (fun c51 => ?_)
        · have hq : lowN (u (b - (k + 1))) = lowN (u2 (b2 - (k + 1))) := by rw [hr35, hr48, nI_eq (by have := lowN_lt (hu (b - (k + 1))); omega) (by have := lowN_lt (hu2 (b2 - (k + 1))); omega)] at c51; exact c51
          refine lv_iinc (v := nI (k + 1 + 1)) (lv' := [(3, .int (nI (k + 1 + 1))), (0, .ref h), (1, .ref h2), (2, .int (nI z))]) hx hb d_Slice_sharesTail_56 hl (k := 3) rfl (nI_1 _) (by decide) rfl (fun ls hl => ?_)
          refine lv_goto (tgt := 20) hx hb d_Slice_sharesTail_59 (by decide) ?_
          exact ih (k + 1) ls (by omega) (⟨by omega, tailN_s hJ.2 hq⟩) (lv_sub hl [1, 2, 3, 0] rfl)
        · refine lv_iconst (v := 0) hx hb d_Slice_sharesTail_54 (by decide) ?_
          exact W.zret (v := 0) hx hb hr (by decide) (fun t ht hW => ⟨_, rfl, bz_f (fun q => c51 (by rw [hr35, hr48, q.2.2 (k + 1) (by omega) hlt])), ht⟩) (fun q h => by cases h) d_Slice_sharesTail_55
    · have hno : ¬ (z ≤ b - a ∧ z ≤ b2 - a2) := fun q => c13 (by rw [hr10]; exact nI_le q.2 (by omega))
      refine lv_iconst (v := 0) hx hb d_Slice_sharesTail_16 (by decide) ?_
      exact W.zret (v := 0) hx hb hr (by decide) (fun t ht hW => ⟨_, rfl, bz_f (fun q => hno ⟨q.1, q.2.1⟩), ht⟩) (fun q h => by cases h) d_Slice_sharesTail_17
set_option maxHeartbeats 4000000 in
set_option maxRecDepth 100000 in
theorem c_Slice_find (l : Launch) (dC : Nat → ClassId) (dI : Nat → Nat → Nat) (sb : sB) (h t a b n : Nat) (cA : ClassId) (u : Nat → Nat) (z : Nat) (hu : ∀ j, u j < 256) (hab : a ≤ b) (hbn : b ≤ n) (hn : n < 2 ^ 31) (hz : z < 65536) : Met l y_Slice_find w_Slice_find ({ frames := 1, cells := 0, slots := 0, locals := 22 }) (pu_P [.ref h, .int (nI z)] (dC, dI) sb [(h, .inr (0, [.ref t, .int (nI a), .int (nI b)])), (t, .inl (cA, n, .inl (tx u)))] [(cA, .byte)]) (vp_Si (fun r => (∃ k, k < b - a ∧ r = nI k ∧ u (a + k) = z ∧ ∀ j, j < k → u (a + j) ≠ z) ∨ (r = -1 ∧ ∀ j, j < b - a → u (a + j) ≠ z))) 0 0 (fun _ => False) := by
  refine Met.ofW (cc := b_Slice_find) (maxL := 3) (ret := (some FieldType.int)) (by decide) rfl ?_
  intro p e s m args below meth c s₁ B hml hv
  obtain ⟨rfl, hP, hK, hN, hT0⟩ := hv
  have hx := B.exec
  have hb := B.bytes
  have hr := B.returns
  have hts := atoms_spec (ws := w_Slice_find) B.pre
  have tbin : ∀ w ∈ tb, w ∈ w_Slice_find := fun w h => List.mem_cons_of_mem _ h
  have htb : ∀ w ∈ tb, w.before _ s = true := fun w h => hts w (tbin w h)
  have hown : s.vm.findClass "TrustChain$Slice" = some m.cls := findClass_of_methodNamed B.named
  have hlocks := B.notSynchronized
  have hcs : 0 ≤ (headSpec w_Slice_find ({ frames := 1, cells := 0, slots := 0, locals := 22 })).room.cells ∧ 0 ≤ (headSpec w_Slice_find ({ frames := 1, cells := 0, slots := 0, locals := 22 })).room.slots := ⟨Nat.zero_le _, Nat.zero_le _⟩
  have hP : va_P (dC, dI) classes [(h, .inr (0, [.ref t, .int (nI a), .int (nI b)])), (t, .inl (cA, n, .inl (tx u)))] s.heap := hP
  have hl := lv_entry ([.ref h, .int (nI z)]) (n := 3) (Nat.le_of_ble_eq_true rfl)
  rw [lg_entry_eq]
  generalize (lg_sl ([.ref h, .int (nI z)]) ++ List.replicate (3 - (lg_sl ([.ref h, .int (nI z)])).length) Slot.unset).toArray = ls at hl ⊢
  have hl : lv_has ls 3 [(0, .ref h), (1, .int (nI z))] := hl
  refine lv_iconst (v := 0) hx hb d_Slice_find_0 (by decide) ?_
  refine lv_istore_n (lv' := [(2, .int 0), (0, .ref h), (1, .int (nI z))]) hx hb d_Slice_find_1 rfl hl (by decide) rfl (fun ls hl => ?_)
  refine w_loop (α := Nat) (fun k => k ≤ b - a ∧ ∀ j, j < k → u (a + j) ≠ z) (fun k => b - a - k) (fun k => [(0, .ref h), (1, .int (nI z)), (2, .int (nI k))]) (fun _ => []) 3 2 (fun k ls hJ hl ih => ?_) 0 ls (⟨Nat.zero_le _, fun j h => absurd h (Nat.not_lt_zero j)⟩) (lv_sub hl [1, 2, 0] rfl)
  refine lv_iload_n hx hb d_Slice_find_2 rfl (lv_at hl 2 rfl) ?_
  refine lv_aload_n hx hb d_Slice_find_3 rfl (lv_at hl 0 rfl) ?_
  refine vp_callSi (pu_callV (As := []) (rest := [.int (nI k)]) ⟨hx, hb, hml, hown, hts⟩ tbin (c_Slice_length l dC dI sb h t a b hab) q3_143 q3_144 q3_145 q1_22 q3_146 (n := 0) (by decide +kernel) rfl ⟨rfl, rfl⟩ ⟨Nat.le_of_ble_eq_true rfl, Nat.le_of_ble_eq_true rfl⟩ ⟨Nat.le_of_ble_eq_true rfl, Nat.le_of_ble_eq_true rfl⟩ hN hT0 hK hP [0] rfl [] rfl 0 0 rfl rfl rfl hl.1 rfl (Nat.le_of_ble_eq_true rfl) d_Slice_find_4) (fun r4 hr4 => ?_)
  refine lv_icmp_ge (tgt := 27) hx hb d_Slice_find_7 (by decide) (fun c7 => ?_) (fun c7 => ?_)
  · have hke : k = b - a := by rw [hr4, nI_leI (by omega) (by omega)] at c7; omega
    refine lv_iconst (v := -1) hx hb d_Slice_find_27 (by decide) ?_
    exact W.iret (v := -1) hx hb hr (fun t ht hW => ⟨_, rfl, Or.inr ⟨rfl, hke ▸ hJ.2⟩, ht⟩) (fun q h => by cases h) d_Slice_find_28
  · have hlt : k < b - a := by rw [hr4, nI_leI (by omega) (by omega)] at c7; omega
    refine lv_aload_n hx hb d_Slice_find_10 rfl (lv_at hl 0 rfl) ?_
    refine lv_iload_n hx hb d_Slice_find_11 rfl (lv_at hl 2 rfl) ?_
    refine vp_callSi (pu_callV (As := [.int (nI k)]) (rest := []) ⟨hx, hb, hml, hown, hts⟩ tbin (c_Slice_at l dC dI sb h t a b n cA u (nI k) hu hab hbn hn) q3_148 q3_149 q3_150 q1_22 q3_151 (n := 1) (by decide +kernel) rfl ⟨rfl, rfl⟩ ⟨Nat.le_of_ble_eq_true rfl, Nat.le_of_ble_eq_true rfl⟩ ⟨Nat.le_of_ble_eq_true rfl, Nat.le_of_ble_eq_true rfl⟩ hN hT0 hK hP [0, 1] rfl [0] rfl 0 0 rfl rfl rfl hl.1 rfl (Nat.le_of_ble_eq_true rfl) d_Slice_find_12) (fun r12 hr12 => ?_)
    rw [sl_oct (by omega) (by omega)] at hr12
    refine lv_iload_n hx hb d_Slice_find_15 rfl (lv_at hl 1 rfl) ?_
    refine lv_icmp_ne (tgt := 21) hx hb d_Slice_find_16 (by decide) (fun c16 => ?_) (fun c16 => ?_)
    · have hq : u (a + k) ≠ z := fun q => c16 (by rw [hr12, q])
      refine lv_iinc (v := nI (k + 1)) (lv' := [(2, .int (nI (k + 1))), (0, .ref h), (1, .int (nI z))]) hx hb d_Slice_find_21 hl (k := 2) rfl (nI_1 _) (by decide) rfl (fun ls hl => ?_)
      refine lv_goto (tgt := 2) hx hb d_Slice_find_24 (by decide) ?_
      exact ih (k + 1) ls (by omega) (⟨by omega, lt_s hJ.2 hq⟩) (lv_sub hl [1, 2, 0] rfl)
    · have hq : u (a + k) = z := by rw [hr12, nI_eq (by have := hu (a + k); omega) (by omega)] at c16; exact c16
      refine lv_iload_n hx hb d_Slice_find_19 rfl (lv_at hl 2 rfl) ?_
      exact W.iret (v := nI k) hx hb hr (fun t ht hW => ⟨_, rfl, Or.inl ⟨k, hlt, rfl, hq, hJ.2⟩, ht⟩) (fun q h => by cases h) d_Slice_find_20
set_option maxHeartbeats 4000000 in
set_option maxRecDepth 100000 in
theorem c_Slice_number (l : Launch) (dC : Nat → ClassId) (dI : Nat → Nat → Nat) (sb : sB) (h t a b n : Nat) (cA : ClassId) (u : Nat → Nat) (hu : ∀ j, u j < 256) (hab : a ≤ b) (hbn : b ≤ n) (hn : n < 2 ^ 31) : Met l y_Slice_number w_Slice_number ({ frames := 1, cells := 0, slots := 0, locals := 22 }) (pu_P [.ref h] (dC, dI) sb [(h, .inr (0, [.ref t, .int (nI a), .int (nI b)])), (t, .inl (cA, n, .inl (tx u)))] [(cA, .byte)]) (vp_Sl (fun r => r = sl_num u a b)) 0 0 (fun _ => False) := by
  refine Met.ofW (cc := b_Slice_number) (maxL := 4) (ret := (some FieldType.long)) (by decide) rfl ?_
  intro p e s m args below meth c s₁ B hml hv
  obtain ⟨rfl, hP, hK, hN, hT0⟩ := hv
  have hx := B.exec
  have hb := B.bytes
  have hr := B.returns
  have hts := atoms_spec (ws := w_Slice_number) B.pre
  have tbin : ∀ w ∈ tb, w ∈ w_Slice_number := fun w h => List.mem_cons_of_mem _ h
  have htb : ∀ w ∈ tb, w.before _ s = true := fun w h => hts w (tbin w h)
  have hown : s.vm.findClass "TrustChain$Slice" = some m.cls := findClass_of_methodNamed B.named
  have hlocks := B.notSynchronized
  have hcs : 0 ≤ (headSpec w_Slice_number ({ frames := 1, cells := 0, slots := 0, locals := 22 })).room.cells ∧ 0 ≤ (headSpec w_Slice_number ({ frames := 1, cells := 0, slots := 0, locals := 22 })).room.slots := ⟨Nat.zero_le _, Nat.zero_le _⟩
  have hP : va_P (dC, dI) classes [(h, .inr (0, [.ref t, .int (nI a), .int (nI b)])), (t, .inl (cA, n, .inl (tx u)))] s.heap := hP
  have hl := lv_entry ([.ref h]) (n := 4) (Nat.le_of_ble_eq_true rfl)
  rw [lg_entry_eq]
  generalize (lg_sl ([.ref h]) ++ List.replicate (4 - (lg_sl ([.ref h])).length) Slot.unset).toArray = ls at hl ⊢
  have hl : lv_has ls 4 [(0, .ref h)] := hl
  refine lv_aload_n hx hb d_Slice_number_0 rfl (lv_at hl 0 rfl) ?_
  refine vp_callSi (pu_callV (As := []) (rest := []) ⟨hx, hb, hml, hown, hts⟩ tbin (c_Slice_length l dC dI sb h t a b hab) q3_143 q3_144 q3_145 q1_22 q3_146 (n := 0) (by decide +kernel) rfl ⟨rfl, rfl⟩ ⟨Nat.le_of_ble_eq_true rfl, Nat.le_of_ble_eq_true rfl⟩ ⟨Nat.le_of_ble_eq_true rfl, Nat.le_of_ble_eq_true rfl⟩ hN hT0 hK hP [0] rfl [] rfl 0 0 rfl rfl rfl hl.1 rfl (Nat.le_of_ble_eq_true rfl) d_Slice_number_1) (fun r1 hr1 => ?_)
  refine lv_bipush (v := 8) hx hb d_Slice_number_4 (by decide) ?_
  refine lv_icmp_le (tgt := 13) hx hb d_Slice_number_6 (by decide) (fun c6 => ?_) (fun c6 => ?_)
  · have hsm : ¬ 8 < b - a := by rw [hr1, show (8 : Int32) = nI 8 from rfl, nI_leI (by omega) (by omega)] at c6; omega
    refine w_joinL (J := fun v => v = numG u a b 0) (pc := 31) (ls := ls) (rest := []) (fun v hv => ?_) (fun k31 => ?_)
    · skip
      subst hv
      refine lv_lstore_n (lv' := [(1, .long (numG u a b 0)), (0, .ref h)]) hx hb d_Slice_number_31 rfl hl (by decide) rfl (fun ls hl => ?_)
      refine lv_iconst (v := 0) hx hb d_Slice_number_32 (by decide) ?_
      refine lv_istore_n (lv' := [(3, .int 0), (1, .long (numG u a b 0)), (0, .ref h)]) hx hb d_Slice_number_33 rfl hl (by decide) rfl (fun ls hl => ?_)
      refine w_loop (α := Nat) (fun k => k ≤ b - a) (fun k => b - a - k) (fun k => [(0, .ref h), (1, .long (numG u a b k)), (3, .int (nI k))]) (fun _ => []) 4 34 (fun k ls hJ hl ih => ?_) 0 ls (Nat.zero_le _) (lv_sub hl [2, 1, 0] rfl)
      refine lv_iload_n hx hb d_Slice_number_34 rfl (lv_at hl 2 rfl) ?_
      refine lv_aload_n hx hb d_Slice_number_35 rfl (lv_at hl 0 rfl) ?_
      refine vp_callSi (pu_callV (As := []) (rest := [.int (nI k)]) ⟨hx, hb, hml, hown, hts⟩ tbin (c_Slice_length l dC dI sb h t a b hab) q3_143 q3_144 q3_145 q1_22 q3_146 (n := 0) (by decide +kernel) rfl ⟨rfl, rfl⟩ ⟨Nat.le_of_ble_eq_true rfl, Nat.le_of_ble_eq_true rfl⟩ ⟨Nat.le_of_ble_eq_true rfl, Nat.le_of_ble_eq_true rfl⟩ hN hT0 hK hP [0] rfl [] rfl 0 0 rfl rfl rfl hl.1 rfl (Nat.le_of_ble_eq_true rfl) d_Slice_number_36) (fun r36 hr36 => ?_)
      refine lv_icmp_ge (tgt := 60) hx hb d_Slice_number_39 (by decide) (fun c39 => ?_) (fun c39 => ?_)
      · have hke : k = b - a := by rw [hr36, nI_leI (by omega) (by omega)] at c39; omega
        refine lv_lload_n hx hb d_Slice_number_60 rfl (lv_at hl 1 rfl) ?_
        exact W.lret (v := numG u a b k) hx hb hr (fun t ht hW => ⟨_, rfl, by rw [hke, sl_num, if_neg hsm], ht⟩) (fun q h => by cases h) d_Slice_number_61
      · have hlt : k < b - a := by rw [hr36, nI_leI (by omega) (by omega)] at c39; omega
        refine lv_lload_n hx hb d_Slice_number_42 rfl (lv_at hl 1 rfl) ?_
        refine lv_bipush (v := 8) hx hb d_Slice_number_43 (by decide) ?_
        refine lv_lshl (v := (numG u a b k) <<< ((8 : Int32).toInt64 &&& 63)) hx hb d_Slice_number_45 rfl ?_
        refine lv_aload_n hx hb d_Slice_number_46 rfl (lv_at hl 0 rfl) ?_
        refine lv_iload_n hx hb d_Slice_number_47 rfl (lv_at hl 2 rfl) ?_
        refine vp_callSi (pu_callV (As := [.int (nI k)]) (rest := [.long ((numG u a b k) <<< ((8 : Int32).toInt64 &&& 63))]) ⟨hx, hb, hml, hown, hts⟩ tbin (c_Slice_at l dC dI sb h t a b n cA u (nI k) hu hab hbn hn) q3_148 q3_149 q3_150 q1_22 q3_151 (n := 1) (by decide +kernel) rfl ⟨rfl, rfl⟩ ⟨Nat.le_of_ble_eq_true rfl, Nat.le_of_ble_eq_true rfl⟩ ⟨Nat.le_of_ble_eq_true rfl, Nat.le_of_ble_eq_true rfl⟩ hN hT0 hK hP [0, 1] rfl [0] rfl 0 0 rfl rfl rfl hl.1 rfl (Nat.le_of_ble_eq_true rfl) d_Slice_number_48) (fun r48 hr48 => ?_)
        rw [show (r48 : Int32) = nI (u (a + k)) from by rw [hr48]; exact sl_oct (by omega) (by omega)]
        refine lv_i2l (v := (nI (u (a + k))).toInt64) hx hb d_Slice_number_51 rfl ?_
        refine lv_lor hx hb d_Slice_number_52 ?_
        rw [show (((numG u a b k) <<< ((8 : Int32).toInt64 &&& 63)) ||| ((nI (u (a + k))).toInt64) : Int64) = numG u a b (k + 1) from rfl]
        refine lv_lstore_n (lv' := [(1, .long (numG u a b (k + 1))), (0, .ref h), (3, .int (nI k))]) hx hb d_Slice_number_53 rfl hl (by decide) rfl (fun ls hl => ?_)
        refine lv_iinc (v := nI (k + 1)) (lv' := [(3, .int (nI (k + 1))), (1, .long (numG u a b (k + 1))), (0, .ref h)]) hx hb d_Slice_number_54 hl (k := 2) rfl (nI_1 _) (by decide) rfl (fun ls hl => ?_)
        refine lv_goto (tgt := 34) hx hb d_Slice_number_57 (by decide) ?_
        exact ih (k + 1) ls (by omega) (by omega) (lv_sub hl [2, 1, 0] rfl)
    · skip
      refine lv_aload_n hx hb d_Slice_number_13 rfl (lv_at hl 0 rfl) ?_
      refine lv_iconst (v := 0) hx hb d_Slice_number_14 (by decide) ?_
      refine vp_callSi (pu_callV (As := [.int 0]) (rest := []) ⟨hx, hb, hml, hown, hts⟩ tbin (c_Slice_at l dC dI sb h t a b n cA u 0 hu hab hbn hn) q3_148 q3_149 q3_150 q1_22 q3_151 (n := 1) (by decide +kernel) rfl ⟨rfl, rfl⟩ ⟨Nat.le_of_ble_eq_true rfl, Nat.le_of_ble_eq_true rfl⟩ ⟨Nat.le_of_ble_eq_true rfl, Nat.le_of_ble_eq_true rfl⟩ hN hT0 hK hP [0, 1] rfl [0] rfl 0 0 rfl rfl rfl hl.1 rfl (Nat.le_of_ble_eq_true rfl) d_Slice_number_15) (fun r15 hr15 => ?_)
      refine lv_sipush (v := 128) hx hb d_Slice_number_18 (by decide) ?_
      refine lv_icmp_lt (tgt := 30) hx hb d_Slice_number_21 (by decide) (fun c21 => ?_) (fun c21 => ?_)
      · refine lv_lconst (v := 0) hx hb d_Slice_number_30 (by decide) ?_
        exact k31 _ (by simp only [numG]; rw [if_neg (by rw [← hr15]; exact Int32.not_le.mpr c21)])
      · refine lv_ldc2 (v := -1) hx hb hown (htb _ q3_147) d_Slice_number_24 ?_
        refine lv_goto (tgt := 31) hx hb d_Slice_number_27 (by decide) ?_
        exact k31 _ (by simp only [numG]; rw [if_pos (by rw [← hr15]; exact Int32.not_lt.mp c21)])
  · have hbig : 8 < b - a := by rw [hr1, show (8 : Int32) = nI 8 from rfl, nI_leI (by omega) (by omega)] at c6; omega
    refine lv_ldc2 (v := -1) hx hb hown (htb _ q3_147) d_Slice_number_9 ?_
    exact W.lret (v := -1) hx hb hr (fun t ht hW => ⟨_, rfl, by simp [sl_num, hbig], ht⟩) (fun q h => by cases h) d_Slice_number_12
