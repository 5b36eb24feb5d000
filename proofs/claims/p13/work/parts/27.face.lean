/-! TrustChain's public methods. -/
def y_Trust_chain : MethodName := ⟨"TrustChain", "chain", "(I)I"⟩
abbrev b_Trust_chain : ByteArray := prog_1_method_12_code
def w_Trust_chain : List Cond := Cond.code y_Trust_chain b_Trust_chain 2 ((some FieldType.int)) :: tb
theorem d_Trust_chain_0 : decode b_Trust_chain 0 = .ok (.iload_n 1, 1) := by decide +kernel
theorem d_Trust_chain_1 : decode b_Trust_chain 1 = .ok (.ifCond .lt 17, 3) := by decide +kernel
theorem d_Trust_chain_4 : decode b_Trust_chain 4 = .ok (.iload_n 1, 1) := by decide +kernel
theorem d_Trust_chain_5 : decode b_Trust_chain 5 = .ok (.aload_n 0, 1) := by decide +kernel
theorem d_Trust_chain_6 : decode b_Trust_chain 6 = .ok (.getfield 58, 3) := by decide +kernel
theorem d_Trust_chain_9 : decode b_Trust_chain 9 = .ok (.if_icmp .ge 9, 3) := by decide +kernel
theorem d_Trust_chain_12 : decode b_Trust_chain 12 = .ok (.iload_n 1, 1) := by decide +kernel
theorem d_Trust_chain_13 : decode b_Trust_chain 13 = .ok (.bipush 16, 2) := by decide +kernel
theorem d_Trust_chain_15 : decode b_Trust_chain 15 = .ok (.if_icmp .lt 13, 3) := by decide +kernel
theorem d_Trust_chain_18 : decode b_Trust_chain 18 = .ok (.new 74, 3) := by decide +kernel
theorem d_Trust_chain_21 : decode b_Trust_chain 21 = .ok (.dup, 1) := by decide +kernel
theorem d_Trust_chain_22 : decode b_Trust_chain 22 = .ok (.ldc 225, 2) := by decide +kernel
theorem d_Trust_chain_24 : decode b_Trust_chain 24 = .ok (.invokespecial 78, 3) := by decide +kernel
theorem d_Trust_chain_27 : decode b_Trust_chain 27 = .ok (.athrow, 1) := by decide +kernel
theorem d_Trust_chain_28 : decode b_Trust_chain 28 = .ok (.aload_n 0, 1) := by decide +kernel
theorem d_Trust_chain_29 : decode b_Trust_chain 29 = .ok (.getfield 54, 3) := by decide +kernel
theorem d_Trust_chain_32 : decode b_Trust_chain 32 = .ok (.iload_n 1, 1) := by decide +kernel
theorem d_Trust_chain_33 : decode b_Trust_chain 33 = .ok (.iaload, 1) := by decide +kernel
theorem d_Trust_chain_34 : decode b_Trust_chain 34 = .ok (.ireturn, 1) := by decide +kernel
def y_Trust_count : MethodName := ⟨"TrustChain", "count", "(I)I"⟩
abbrev b_Trust_count : ByteArray := prog_1_method_13_code
def w_Trust_count : List Cond := Cond.code y_Trust_count b_Trust_count 2 ((some FieldType.int)) :: tb
theorem d_Trust_count_0 : decode b_Trust_count 0 = .ok (.iload_n 1, 1) := by decide +kernel
theorem d_Trust_count_1 : decode b_Trust_count 1 = .ok (.tableswitch 66 0 4 #[35, 43, 51, 56, 61], 35) := by decide +kernel
theorem d_Trust_count_36 : decode b_Trust_count 36 = .ok (.aload_n 0, 1) := by decide +kernel
theorem d_Trust_count_37 : decode b_Trust_count 37 = .ok (.getfield 19, 3) := by decide +kernel
theorem d_Trust_count_40 : decode b_Trust_count 40 = .ok (.invokevirtual 89, 3) := by decide +kernel
theorem d_Trust_count_43 : decode b_Trust_count 43 = .ok (.ireturn, 1) := by decide +kernel
theorem d_Trust_count_44 : decode b_Trust_count 44 = .ok (.aload_n 0, 1) := by decide +kernel
theorem d_Trust_count_45 : decode b_Trust_count 45 = .ok (.getfield 23, 3) := by decide +kernel
theorem d_Trust_count_48 : decode b_Trust_count 48 = .ok (.invokevirtual 89, 3) := by decide +kernel
theorem d_Trust_count_51 : decode b_Trust_count 51 = .ok (.ireturn, 1) := by decide +kernel
theorem d_Trust_count_52 : decode b_Trust_count 52 = .ok (.aload_n 0, 1) := by decide +kernel
theorem d_Trust_count_53 : decode b_Trust_count 53 = .ok (.getfield 62, 3) := by decide +kernel
theorem d_Trust_count_56 : decode b_Trust_count 56 = .ok (.ireturn, 1) := by decide +kernel
theorem d_Trust_count_57 : decode b_Trust_count 57 = .ok (.aload_n 0, 1) := by decide +kernel
theorem d_Trust_count_58 : decode b_Trust_count 58 = .ok (.getfield 65, 3) := by decide +kernel
theorem d_Trust_count_61 : decode b_Trust_count 61 = .ok (.ireturn, 1) := by decide +kernel
theorem d_Trust_count_62 : decode b_Trust_count 62 = .ok (.aload_n 0, 1) := by decide +kernel
theorem d_Trust_count_63 : decode b_Trust_count 63 = .ok (.getfield 68, 3) := by decide +kernel
theorem d_Trust_count_66 : decode b_Trust_count 66 = .ok (.ireturn, 1) := by decide +kernel
theorem d_Trust_count_67 : decode b_Trust_count 67 = .ok (.new 110, 3) := by decide +kernel
theorem d_Trust_count_70 : decode b_Trust_count 70 = .ok (.dup, 1) := by decide +kernel
theorem d_Trust_count_71 : decode b_Trust_count 71 = .ok (.ldc 227, 2) := by decide +kernel
theorem d_Trust_count_73 : decode b_Trust_count 73 = .ok (.invokespecial 114, 3) := by decide +kernel
theorem d_Trust_count_76 : decode b_Trust_count 76 = .ok (.athrow, 1) := by decide +kernel
def cntI (z y : Nat) (chS faP feS i : Int32) : Option Int32 := if i.toInt = 0 then some (nI z) else if i.toInt = 1 then some (nI y) else if i.toInt = 2 then some chS else if i.toInt = 3 then some faP else if i.toInt = 4 then some feS else none
def y_Trust_trust : MethodName := ⟨"TrustChain", "trust", "(IZ)Z"⟩
abbrev b_Trust_trust : ByteArray := prog_1_method_6_code
def w_Trust_trust : List Cond := Cond.code y_Trust_trust b_Trust_trust 5 ((some FieldType.boolean)) :: tb
theorem d_Trust_trust_0 : decode b_Trust_trust 0 = .ok (.aload_n 0, 1) := by decide +kernel
theorem d_Trust_trust_1 : decode b_Trust_trust 1 = .ok (.iload_n 1, 1) := by decide +kernel
theorem d_Trust_trust_2 : decode b_Trust_trust 2 = .ok (.invokevirtual 160, 3) := by decide +kernel
theorem d_Trust_trust_5 : decode b_Trust_trust 5 = .ok (.ifCond .ne 13, 3) := by decide +kernel
theorem d_Trust_trust_8 : decode b_Trust_trust 8 = .ok (.new 74, 3) := by decide +kernel
theorem d_Trust_trust_11 : decode b_Trust_trust 11 = .ok (.dup, 1) := by decide +kernel
theorem d_Trust_trust_12 : decode b_Trust_trust 12 = .ok (.ldc 163, 2) := by decide +kernel
theorem d_Trust_trust_14 : decode b_Trust_trust 14 = .ok (.invokespecial 78, 3) := by decide +kernel
theorem d_Trust_trust_17 : decode b_Trust_trust 17 = .ok (.athrow, 1) := by decide +kernel
def y_Trust_covers : MethodName := ⟨"TrustChain", "covers", "(IJJJJ)Z"⟩
abbrev b_Trust_covers : ByteArray := prog_1_method_14_code
def w_Trust_covers : List Cond := Cond.code y_Trust_covers b_Trust_covers 11 ((some FieldType.boolean)) :: tb
theorem d_Trust_covers_0 : decode b_Trust_covers 0 = .ok (.aload_n 0, 1) := by decide +kernel
theorem d_Trust_covers_1 : decode b_Trust_covers 1 = .ok (.iload_n 1, 1) := by decide +kernel
theorem d_Trust_covers_2 : decode b_Trust_covers 2 = .ok (.invokevirtual 160, 3) := by decide +kernel
theorem d_Trust_covers_5 : decode b_Trust_covers 5 = .ok (.ifCond .ne 13, 3) := by decide +kernel
theorem d_Trust_covers_8 : decode b_Trust_covers 8 = .ok (.new 74, 3) := by decide +kernel
theorem d_Trust_covers_11 : decode b_Trust_covers 11 = .ok (.dup, 1) := by decide +kernel
theorem d_Trust_covers_12 : decode b_Trust_covers 12 = .ok (.ldc 163, 2) := by decide +kernel
theorem d_Trust_covers_14 : decode b_Trust_covers 14 = .ok (.invokespecial 78, 3) := by decide +kernel
theorem d_Trust_covers_17 : decode b_Trust_covers 17 = .ok (.athrow, 1) := by decide +kernel
def y_Trust_signed : MethodName := ⟨"TrustChain", "signed", "(ZII)Z"⟩
abbrev b_Trust_signed : ByteArray := prog_1_method_9_code
def w_Trust_signed : List Cond := Cond.code y_Trust_signed b_Trust_signed 5 ((some FieldType.boolean)) :: tb
theorem d_Trust_signed_0 : decode b_Trust_signed 0 = .ok (.aload_n 0, 1) := by decide +kernel
theorem d_Trust_signed_1 : decode b_Trust_signed 1 = .ok (.iload_n 3, 1) := by decide +kernel
theorem d_Trust_signed_2 : decode b_Trust_signed 2 = .ok (.invokevirtual 160, 3) := by decide +kernel
theorem d_Trust_signed_5 : decode b_Trust_signed 5 = .ok (.ifCond .eq 26, 3) := by decide +kernel
theorem d_Trust_signed_8 : decode b_Trust_signed 8 = .ok (.iload_n 1, 1) := by decide +kernel
theorem d_Trust_signed_9 : decode b_Trust_signed 9 = .ok (.ifCond .eq 14, 3) := by decide +kernel
theorem d_Trust_signed_12 : decode b_Trust_signed 12 = .ok (.aload_n 0, 1) := by decide +kernel
theorem d_Trust_signed_13 : decode b_Trust_signed 13 = .ok (.iload_n 2, 1) := by decide +kernel
theorem d_Trust_signed_14 : decode b_Trust_signed 14 = .ok (.invokevirtual 175, 3) := by decide +kernel
theorem d_Trust_signed_17 : decode b_Trust_signed 17 = .ok (.ifCond .ne 24, 3) := by decide +kernel
theorem d_Trust_signed_20 : decode b_Trust_signed 20 = .ok (.goto 11, 3) := by decide +kernel
theorem d_Trust_signed_23 : decode b_Trust_signed 23 = .ok (.aload_n 0, 1) := by decide +kernel
theorem d_Trust_signed_24 : decode b_Trust_signed 24 = .ok (.iload_n 2, 1) := by decide +kernel
theorem d_Trust_signed_25 : decode b_Trust_signed 25 = .ok (.invokevirtual 160, 3) := by decide +kernel
theorem d_Trust_signed_28 : decode b_Trust_signed 28 = .ok (.ifCond .ne 13, 3) := by decide +kernel
theorem d_Trust_signed_31 : decode b_Trust_signed 31 = .ok (.new 74, 3) := by decide +kernel
theorem d_Trust_signed_34 : decode b_Trust_signed 34 = .ok (.dup, 1) := by decide +kernel
theorem d_Trust_signed_35 : decode b_Trust_signed 35 = .ok (.ldc 193, 2) := by decide +kernel
theorem d_Trust_signed_37 : decode b_Trust_signed 37 = .ok (.invokespecial 78, 3) := by decide +kernel
theorem d_Trust_signed_40 : decode b_Trust_signed 40 = .ok (.athrow, 1) := by decide +kernel
def y_Trust_digest : MethodName := ⟨"TrustChain", "digest", "(II)I"⟩
abbrev b_Trust_digest : ByteArray := prog_1_method_10_code
def w_Trust_digest : List Cond := Cond.code y_Trust_digest b_Trust_digest 3 ((some FieldType.int)) :: tb
theorem d_Trust_digest_0 : decode b_Trust_digest 0 = .ok (.aload_n 0, 1) := by decide +kernel
theorem d_Trust_digest_1 : decode b_Trust_digest 1 = .ok (.iload_n 1, 1) := by decide +kernel
theorem d_Trust_digest_2 : decode b_Trust_digest 2 = .ok (.invokevirtual 160, 3) := by decide +kernel
theorem d_Trust_digest_5 : decode b_Trust_digest 5 = .ok (.ifCond .eq 13, 3) := by decide +kernel
theorem d_Trust_digest_8 : decode b_Trust_digest 8 = .ok (.iload_n 2, 1) := by decide +kernel
theorem d_Trust_digest_9 : decode b_Trust_digest 9 = .ok (.ifCond .lt 9, 3) := by decide +kernel
theorem d_Trust_digest_12 : decode b_Trust_digest 12 = .ok (.iload_n 2, 1) := by decide +kernel
theorem d_Trust_digest_13 : decode b_Trust_digest 13 = .ok (.bipush 8, 2) := by decide +kernel
theorem d_Trust_digest_15 : decode b_Trust_digest 15 = .ok (.if_icmp .lt 13, 3) := by decide +kernel
theorem d_Trust_digest_18 : decode b_Trust_digest 18 = .ok (.new 74, 3) := by decide +kernel
theorem d_Trust_digest_21 : decode b_Trust_digest 21 = .ok (.dup, 1) := by decide +kernel
theorem d_Trust_digest_22 : decode b_Trust_digest 22 = .ok (.ldc 199, 2) := by decide +kernel
theorem d_Trust_digest_24 : decode b_Trust_digest 24 = .ok (.invokespecial 78, 3) := by decide +kernel
theorem d_Trust_digest_27 : decode b_Trust_digest 27 = .ok (.athrow, 1) := by decide +kernel
def y_Trust_part : MethodName := ⟨"TrustChain", "part", "(II)J"⟩
abbrev b_Trust_part : ByteArray := prog_1_method_7_code
def w_Trust_part : List Cond := Cond.code y_Trust_part b_Trust_part 3 ((some FieldType.long)) :: tb
theorem d_Trust_part_0 : decode b_Trust_part 0 = .ok (.iload_n 2, 1) := by decide +kernel
theorem d_Trust_part_1 : decode b_Trust_part 1 = .ok (.ifCond .lt 9, 3) := by decide +kernel
theorem d_Trust_part_4 : decode b_Trust_part 4 = .ok (.iload_n 2, 1) := by decide +kernel
theorem d_Trust_part_5 : decode b_Trust_part 5 = .ok (.bipush 11, 2) := by decide +kernel
theorem d_Trust_part_7 : decode b_Trust_part 7 = .ok (.if_icmp .le 13, 3) := by decide +kernel
theorem d_Trust_part_10 : decode b_Trust_part 10 = .ok (.new 110, 3) := by decide +kernel
theorem d_Trust_part_13 : decode b_Trust_part 13 = .ok (.dup, 1) := by decide +kernel
theorem d_Trust_part_14 : decode b_Trust_part 14 = .ok (.ldc 169, 2) := by decide +kernel
theorem d_Trust_part_16 : decode b_Trust_part 16 = .ok (.invokespecial 114, 3) := by decide +kernel
theorem d_Trust_part_19 : decode b_Trust_part 19 = .ok (.athrow, 1) := by decide +kernel
theorem d_Trust_part_20 : decode b_Trust_part 20 = .ok (.aload_n 0, 1) := by decide +kernel
theorem d_Trust_part_21 : decode b_Trust_part 21 = .ok (.iload_n 1, 1) := by decide +kernel
theorem d_Trust_part_22 : decode b_Trust_part 22 = .ok (.invokevirtual 160, 3) := by decide +kernel
theorem d_Trust_part_25 : decode b_Trust_part 25 = .ok (.ifCond .ne 13, 3) := by decide +kernel
theorem d_Trust_part_28 : decode b_Trust_part 28 = .ok (.new 74, 3) := by decide +kernel
theorem d_Trust_part_31 : decode b_Trust_part 31 = .ok (.dup, 1) := by decide +kernel
theorem d_Trust_part_32 : decode b_Trust_part 32 = .ok (.ldc 163, 2) := by decide +kernel
theorem d_Trust_part_34 : decode b_Trust_part 34 = .ok (.invokespecial 78, 3) := by decide +kernel
theorem d_Trust_part_37 : decode b_Trust_part 37 = .ok (.athrow, 1) := by decide +kernel
def y_Trust_listPart : MethodName := ⟨"TrustChain", "listPart", "(II)J"⟩
abbrev b_Trust_listPart : ByteArray := prog_1_method_8_code
def w_Trust_listPart : List Cond := Cond.code y_Trust_listPart b_Trust_listPart 4 ((some FieldType.long)) :: tb
theorem d_Trust_listPart_0 : decode b_Trust_listPart 0 = .ok (.iload_n 2, 1) := by decide +kernel
theorem d_Trust_listPart_1 : decode b_Trust_listPart 1 = .ok (.ifCond .lt 8, 3) := by decide +kernel
theorem d_Trust_listPart_4 : decode b_Trust_listPart 4 = .ok (.iload_n 2, 1) := by decide +kernel
theorem d_Trust_listPart_5 : decode b_Trust_listPart 5 = .ok (.iconst 3, 1) := by decide +kernel
theorem d_Trust_listPart_6 : decode b_Trust_listPart 6 = .ok (.if_icmp .le 13, 3) := by decide +kernel
theorem d_Trust_listPart_9 : decode b_Trust_listPart 9 = .ok (.new 110, 3) := by decide +kernel
theorem d_Trust_listPart_12 : decode b_Trust_listPart 12 = .ok (.dup, 1) := by decide +kernel
theorem d_Trust_listPart_13 : decode b_Trust_listPart 13 = .ok (.ldc 169, 2) := by decide +kernel
theorem d_Trust_listPart_15 : decode b_Trust_listPart 15 = .ok (.invokespecial 114, 3) := by decide +kernel
theorem d_Trust_listPart_18 : decode b_Trust_listPart 18 = .ok (.athrow, 1) := by decide +kernel
theorem d_Trust_listPart_19 : decode b_Trust_listPart 19 = .ok (.aload_n 0, 1) := by decide +kernel
theorem d_Trust_listPart_20 : decode b_Trust_listPart 20 = .ok (.iload_n 1, 1) := by decide +kernel
theorem d_Trust_listPart_21 : decode b_Trust_listPart 21 = .ok (.invokevirtual 175, 3) := by decide +kernel
theorem d_Trust_listPart_24 : decode b_Trust_listPart 24 = .ok (.ifCond .ne 13, 3) := by decide +kernel
theorem d_Trust_listPart_27 : decode b_Trust_listPart 27 = .ok (.new 74, 3) := by decide +kernel
theorem d_Trust_listPart_30 : decode b_Trust_listPart 30 = .ok (.dup, 1) := by decide +kernel
theorem d_Trust_listPart_31 : decode b_Trust_listPart 31 = .ok (.ldc 178, 2) := by decide +kernel
theorem d_Trust_listPart_33 : decode b_Trust_listPart 33 = .ok (.invokespecial 78, 3) := by decide +kernel
theorem d_Trust_listPart_36 : decode b_Trust_listPart 36 = .ok (.athrow, 1) := by decide +kernel
def y_Trust_validate : MethodName := ⟨"TrustChain", "validate", "(IJIZ)I"⟩
abbrev b_Trust_validate : ByteArray := prog_1_method_11_code
def w_Trust_validate : List Cond := Cond.code y_Trust_validate b_Trust_validate 10 ((some FieldType.int)) :: tb
theorem d_Trust_validate_0 : decode b_Trust_validate 0 = .ok (.iload 4, 2) := by decide +kernel
theorem d_Trust_validate_2 : decode b_Trust_validate 2 = .ok (.iconst 1, 1) := by decide +kernel
theorem d_Trust_validate_3 : decode b_Trust_validate 3 = .ok (.if_icmp .lt 10, 3) := by decide +kernel
theorem d_Trust_validate_6 : decode b_Trust_validate 6 = .ok (.iload 4, 2) := by decide +kernel
theorem d_Trust_validate_8 : decode b_Trust_validate 8 = .ok (.bipush 16, 2) := by decide +kernel
theorem d_Trust_validate_10 : decode b_Trust_validate 10 = .ok (.if_icmp .le 13, 3) := by decide +kernel
theorem d_Trust_validate_13 : decode b_Trust_validate 13 = .ok (.new 110, 3) := by decide +kernel
theorem d_Trust_validate_16 : decode b_Trust_validate 16 = .ok (.dup, 1) := by decide +kernel
theorem d_Trust_validate_17 : decode b_Trust_validate 17 = .ok (.ldc 201, 2) := by decide +kernel
theorem d_Trust_validate_19 : decode b_Trust_validate 19 = .ok (.invokespecial 114, 3) := by decide +kernel
theorem d_Trust_validate_22 : decode b_Trust_validate 22 = .ok (.athrow, 1) := by decide +kernel
theorem d_Trust_validate_23 : decode b_Trust_validate 23 = .ok (.aload_n 0, 1) := by decide +kernel
theorem d_Trust_validate_24 : decode b_Trust_validate 24 = .ok (.iload_n 1, 1) := by decide +kernel
theorem d_Trust_validate_25 : decode b_Trust_validate 25 = .ok (.invokevirtual 160, 3) := by decide +kernel
theorem d_Trust_validate_28 : decode b_Trust_validate 28 = .ok (.ifCond .ne 13, 3) := by decide +kernel
theorem d_Trust_validate_31 : decode b_Trust_validate 31 = .ok (.new 74, 3) := by decide +kernel
theorem d_Trust_validate_34 : decode b_Trust_validate 34 = .ok (.dup, 1) := by decide +kernel
theorem d_Trust_validate_35 : decode b_Trust_validate 35 = .ok (.ldc 163, 2) := by decide +kernel
theorem d_Trust_validate_37 : decode b_Trust_validate 37 = .ok (.invokespecial 78, 3) := by decide +kernel
theorem d_Trust_validate_40 : decode b_Trust_validate 40 = .ok (.athrow, 1) := by decide +kernel
