/-! The reference's listPart, signed, digest, chain, count where nothing is stored. -/
def y_Model_listPart : MethodName := ⟨"TrustChainModel", "listPart", "(II)J"⟩
abbrev b_Model_listPart : ByteArray := prog_14_method_22_code
def w_Model_listPart : List Cond := Cond.code y_Model_listPart b_Model_listPart 4 ((some FieldType.long)) :: tb
theorem d_Model_listPart_0 : decode b_Model_listPart 0 = .ok (.aload_n 0, 1) := by decide +kernel
theorem d_Model_listPart_1 : decode b_Model_listPart 1 = .ok (.iconst 0, 1) := by decide +kernel
theorem d_Model_listPart_2 : decode b_Model_listPart 2 = .ok (.putfield 145, 3) := by decide +kernel
theorem d_Model_listPart_5 : decode b_Model_listPart 5 = .ok (.aload_n 0, 1) := by decide +kernel
theorem d_Model_listPart_6 : decode b_Model_listPart 6 = .ok (.iload_n 2, 1) := by decide +kernel
theorem d_Model_listPart_7 : decode b_Model_listPart 7 = .ok (.iconst 0, 1) := by decide +kernel
theorem d_Model_listPart_8 : decode b_Model_listPart 8 = .ok (.iconst 3, 1) := by decide +kernel
theorem d_Model_listPart_9 : decode b_Model_listPart 9 = .ok (.invokestatic 205, 3) := by decide +kernel
theorem d_Model_listPart_12 : decode b_Model_listPart 12 = .ok (.ifCond .ne 7, 3) := by decide +kernel
theorem d_Model_listPart_15 : decode b_Model_listPart 15 = .ok (.iconst 1, 1) := by decide +kernel
theorem d_Model_listPart_16 : decode b_Model_listPart 16 = .ok (.goto 4, 3) := by decide +kernel
theorem d_Model_listPart_19 : decode b_Model_listPart 19 = .ok (.iconst 0, 1) := by decide +kernel
theorem d_Model_listPart_20 : decode b_Model_listPart 20 = .ok (.iconst 1, 1) := by decide +kernel
theorem d_Model_listPart_21 : decode b_Model_listPart 21 = .ok (.invokevirtual 176, 3) := by decide +kernel
theorem d_Model_listPart_24 : decode b_Model_listPart 24 = .ok (.ifCond .ne 30, 3) := by decide +kernel
theorem d_Model_listPart_27 : decode b_Model_listPart 27 = .ok (.aload_n 0, 1) := by decide +kernel
theorem d_Model_listPart_28 : decode b_Model_listPart 28 = .ok (.iload_n 1, 1) := by decide +kernel
theorem d_Model_listPart_29 : decode b_Model_listPart 29 = .ok (.iconst 0, 1) := by decide +kernel
theorem d_Model_listPart_30 : decode b_Model_listPart 30 = .ok (.aload_n 0, 1) := by decide +kernel
theorem d_Model_listPart_31 : decode b_Model_listPart 31 = .ok (.getfield 180, 3) := by decide +kernel
theorem d_Model_listPart_34 : decode b_Model_listPart 34 = .ok (.iconst 1, 1) := by decide +kernel
theorem d_Model_listPart_35 : decode b_Model_listPart 35 = .ok (.isub, 1) := by decide +kernel
theorem d_Model_listPart_36 : decode b_Model_listPart 36 = .ok (.invokestatic 205, 3) := by decide +kernel
theorem d_Model_listPart_39 : decode b_Model_listPart 39 = .ok (.ifCond .ne 7, 3) := by decide +kernel
theorem d_Model_listPart_42 : decode b_Model_listPart 42 = .ok (.iconst 1, 1) := by decide +kernel
theorem d_Model_listPart_43 : decode b_Model_listPart 43 = .ok (.goto 4, 3) := by decide +kernel
theorem d_Model_listPart_46 : decode b_Model_listPart 46 = .ok (.iconst 0, 1) := by decide +kernel
theorem d_Model_listPart_47 : decode b_Model_listPart 47 = .ok (.iconst 2, 1) := by decide +kernel
theorem d_Model_listPart_48 : decode b_Model_listPart 48 = .ok (.invokevirtual 176, 3) := by decide +kernel
theorem d_Model_listPart_51 : decode b_Model_listPart 51 = .ok (.ifCond .eq 5, 3) := by decide +kernel
theorem d_Model_listPart_54 : decode b_Model_listPart 54 = .ok (.lconst 0, 1) := by decide +kernel
theorem d_Model_listPart_55 : decode b_Model_listPart 55 = .ok (.lreturn, 1) := by decide +kernel
theorem d_Model_listPart_56 : decode b_Model_listPart 56 = .ok (.aload_n 0, 1) := by decide +kernel
theorem d_Model_listPart_57 : decode b_Model_listPart 57 = .ok (.getfield 23, 3) := by decide +kernel
def y_Model_signed : MethodName := ⟨"TrustChainModel", "signed", "(ZII)Z"⟩
abbrev b_Model_signed : ByteArray := prog_14_method_30_code
def w_Model_signed : List Cond := Cond.code y_Model_signed b_Model_signed 4 ((some FieldType.boolean)) :: tb
theorem d_Model_signed_0 : decode b_Model_signed 0 = .ok (.aload_n 0, 1) := by decide +kernel
theorem d_Model_signed_1 : decode b_Model_signed 1 = .ok (.iconst 0, 1) := by decide +kernel
theorem d_Model_signed_2 : decode b_Model_signed 2 = .ok (.putfield 145, 3) := by decide +kernel
theorem d_Model_signed_5 : decode b_Model_signed 5 = .ok (.aload_n 0, 1) := by decide +kernel
theorem d_Model_signed_6 : decode b_Model_signed 6 = .ok (.iload_n 2, 1) := by decide +kernel
theorem d_Model_signed_7 : decode b_Model_signed 7 = .ok (.iconst 0, 1) := by decide +kernel
theorem d_Model_signed_8 : decode b_Model_signed 8 = .ok (.iload_n 1, 1) := by decide +kernel
theorem d_Model_signed_9 : decode b_Model_signed 9 = .ok (.ifCond .eq 10, 3) := by decide +kernel
theorem d_Model_signed_12 : decode b_Model_signed 12 = .ok (.aload_n 0, 1) := by decide +kernel
theorem d_Model_signed_13 : decode b_Model_signed 13 = .ok (.getfield 180, 3) := by decide +kernel
theorem d_Model_signed_16 : decode b_Model_signed 16 = .ok (.goto 7, 3) := by decide +kernel
theorem d_Model_signed_19 : decode b_Model_signed 19 = .ok (.aload_n 0, 1) := by decide +kernel
theorem d_Model_signed_20 : decode b_Model_signed 20 = .ok (.getfield 183, 3) := by decide +kernel
theorem d_Model_signed_23 : decode b_Model_signed 23 = .ok (.iconst 1, 1) := by decide +kernel
theorem d_Model_signed_24 : decode b_Model_signed 24 = .ok (.isub, 1) := by decide +kernel
theorem d_Model_signed_25 : decode b_Model_signed 25 = .ok (.invokestatic 205, 3) := by decide +kernel
theorem d_Model_signed_28 : decode b_Model_signed 28 = .ok (.ifCond .eq 17, 3) := by decide +kernel
theorem d_Model_signed_31 : decode b_Model_signed 31 = .ok (.iload_n 3, 1) := by decide +kernel
theorem d_Model_signed_32 : decode b_Model_signed 32 = .ok (.iconst 0, 1) := by decide +kernel
theorem d_Model_signed_33 : decode b_Model_signed 33 = .ok (.aload_n 0, 1) := by decide +kernel
theorem d_Model_signed_34 : decode b_Model_signed 34 = .ok (.getfield 183, 3) := by decide +kernel
theorem d_Model_signed_37 : decode b_Model_signed 37 = .ok (.iconst 1, 1) := by decide +kernel
theorem d_Model_signed_38 : decode b_Model_signed 38 = .ok (.isub, 1) := by decide +kernel
theorem d_Model_signed_39 : decode b_Model_signed 39 = .ok (.invokestatic 205, 3) := by decide +kernel
theorem d_Model_signed_42 : decode b_Model_signed 42 = .ok (.ifCond .ne 7, 3) := by decide +kernel
theorem d_Model_signed_45 : decode b_Model_signed 45 = .ok (.iconst 1, 1) := by decide +kernel
theorem d_Model_signed_46 : decode b_Model_signed 46 = .ok (.goto 4, 3) := by decide +kernel
theorem d_Model_signed_49 : decode b_Model_signed 49 = .ok (.iconst 0, 1) := by decide +kernel
theorem d_Model_signed_50 : decode b_Model_signed 50 = .ok (.iconst 1, 1) := by decide +kernel
theorem d_Model_signed_51 : decode b_Model_signed 51 = .ok (.invokevirtual 176, 3) := by decide +kernel
theorem d_Model_signed_54 : decode b_Model_signed 54 = .ok (.ifCond .eq 5, 3) := by decide +kernel
theorem d_Model_signed_57 : decode b_Model_signed 57 = .ok (.iconst 0, 1) := by decide +kernel
theorem d_Model_signed_58 : decode b_Model_signed 58 = .ok (.ireturn, 1) := by decide +kernel
theorem d_Model_signed_59 : decode b_Model_signed 59 = .ok (.aload_n 0, 1) := by decide +kernel
theorem d_Model_signed_60 : decode b_Model_signed 60 = .ok (.iload_n 1, 1) := by decide +kernel
theorem d_Model_signed_61 : decode b_Model_signed 61 = .ok (.ifCond .eq 12, 3) := by decide +kernel
def y_Model_digest0 : MethodName := ⟨"TrustChainModel", "digest", "(II)I"⟩
abbrev b_Model_digest0 : ByteArray := prog_14_method_26_code
def w_Model_digest0 : List Cond := Cond.code y_Model_digest0 b_Model_digest0 3 ((some FieldType.int)) :: tb
theorem d_Model_digest0_0 : decode b_Model_digest0 0 = .ok (.aload_n 0, 1) := by decide +kernel
theorem d_Model_digest0_1 : decode b_Model_digest0 1 = .ok (.iconst 0, 1) := by decide +kernel
theorem d_Model_digest0_2 : decode b_Model_digest0 2 = .ok (.putfield 145, 3) := by decide +kernel
theorem d_Model_digest0_5 : decode b_Model_digest0 5 = .ok (.aload_n 0, 1) := by decide +kernel
theorem d_Model_digest0_6 : decode b_Model_digest0 6 = .ok (.iload_n 1, 1) := by decide +kernel
theorem d_Model_digest0_7 : decode b_Model_digest0 7 = .ok (.iconst 0, 1) := by decide +kernel
theorem d_Model_digest0_8 : decode b_Model_digest0 8 = .ok (.aload_n 0, 1) := by decide +kernel
theorem d_Model_digest0_9 : decode b_Model_digest0 9 = .ok (.getfield 183, 3) := by decide +kernel
theorem d_Model_digest0_12 : decode b_Model_digest0 12 = .ok (.iconst 1, 1) := by decide +kernel
theorem d_Model_digest0_13 : decode b_Model_digest0 13 = .ok (.isub, 1) := by decide +kernel
theorem d_Model_digest0_14 : decode b_Model_digest0 14 = .ok (.invokestatic 205, 3) := by decide +kernel
theorem d_Model_digest0_17 : decode b_Model_digest0 17 = .ok (.ifCond .eq 13, 3) := by decide +kernel
theorem d_Model_digest0_20 : decode b_Model_digest0 20 = .ok (.iload_n 2, 1) := by decide +kernel
theorem d_Model_digest0_21 : decode b_Model_digest0 21 = .ok (.iconst 0, 1) := by decide +kernel
theorem d_Model_digest0_22 : decode b_Model_digest0 22 = .ok (.bipush 7, 2) := by decide +kernel
theorem d_Model_digest0_24 : decode b_Model_digest0 24 = .ok (.invokestatic 205, 3) := by decide +kernel
theorem d_Model_digest0_27 : decode b_Model_digest0 27 = .ok (.ifCond .ne 7, 3) := by decide +kernel
theorem d_Model_digest0_30 : decode b_Model_digest0 30 = .ok (.iconst 1, 1) := by decide +kernel
theorem d_Model_digest0_31 : decode b_Model_digest0 31 = .ok (.goto 4, 3) := by decide +kernel
theorem d_Model_digest0_34 : decode b_Model_digest0 34 = .ok (.iconst 0, 1) := by decide +kernel
theorem d_Model_digest0_35 : decode b_Model_digest0 35 = .ok (.iconst 1, 1) := by decide +kernel
theorem d_Model_digest0_36 : decode b_Model_digest0 36 = .ok (.invokevirtual 176, 3) := by decide +kernel
theorem d_Model_digest0_39 : decode b_Model_digest0 39 = .ok (.ifCond .eq 5, 3) := by decide +kernel
theorem d_Model_digest0_42 : decode b_Model_digest0 42 = .ok (.iconst 0, 1) := by decide +kernel
theorem d_Model_digest0_43 : decode b_Model_digest0 43 = .ok (.ireturn, 1) := by decide +kernel
theorem d_Model_digest0_44 : decode b_Model_digest0 44 = .ok (.aload_n 0, 1) := by decide +kernel
theorem d_Model_digest0_45 : decode b_Model_digest0 45 = .ok (.aload_n 0, 1) := by decide +kernel
theorem d_Model_digest0_46 : decode b_Model_digest0 46 = .ok (.getfield 19, 3) := by decide +kernel
def y_Model_chain : MethodName := ⟨"TrustChainModel", "chain", "(I)I"⟩
abbrev b_Model_chain : ByteArray := prog_14_method_42_code
def w_Model_chain : List Cond := Cond.code y_Model_chain b_Model_chain 2 ((some FieldType.int)) :: tb
theorem d_Model_chain_0 : decode b_Model_chain 0 = .ok (.aload_n 0, 1) := by decide +kernel
theorem d_Model_chain_1 : decode b_Model_chain 1 = .ok (.iconst 0, 1) := by decide +kernel
theorem d_Model_chain_2 : decode b_Model_chain 2 = .ok (.putfield 145, 3) := by decide +kernel
theorem d_Model_chain_5 : decode b_Model_chain 5 = .ok (.aload_n 0, 1) := by decide +kernel
theorem d_Model_chain_6 : decode b_Model_chain 6 = .ok (.iload_n 1, 1) := by decide +kernel
theorem d_Model_chain_7 : decode b_Model_chain 7 = .ok (.iconst 0, 1) := by decide +kernel
theorem d_Model_chain_8 : decode b_Model_chain 8 = .ok (.aload_n 0, 1) := by decide +kernel
theorem d_Model_chain_9 : decode b_Model_chain 9 = .ok (.getfield 324, 3) := by decide +kernel
theorem d_Model_chain_12 : decode b_Model_chain 12 = .ok (.iconst 1, 1) := by decide +kernel
theorem d_Model_chain_13 : decode b_Model_chain 13 = .ok (.isub, 1) := by decide +kernel
theorem d_Model_chain_14 : decode b_Model_chain 14 = .ok (.invokestatic 205, 3) := by decide +kernel
theorem d_Model_chain_17 : decode b_Model_chain 17 = .ok (.ifCond .ne 7, 3) := by decide +kernel
theorem d_Model_chain_20 : decode b_Model_chain 20 = .ok (.iconst 1, 1) := by decide +kernel
theorem d_Model_chain_21 : decode b_Model_chain 21 = .ok (.goto 4, 3) := by decide +kernel
theorem d_Model_chain_24 : decode b_Model_chain 24 = .ok (.iconst 0, 1) := by decide +kernel
theorem d_Model_chain_25 : decode b_Model_chain 25 = .ok (.iconst 1, 1) := by decide +kernel
theorem d_Model_chain_26 : decode b_Model_chain 26 = .ok (.invokevirtual 176, 3) := by decide +kernel
theorem d_Model_chain_29 : decode b_Model_chain 29 = .ok (.ifCond .eq 7, 3) := by decide +kernel
theorem d_Model_chain_32 : decode b_Model_chain 32 = .ok (.iconst 0, 1) := by decide +kernel
theorem d_Model_chain_33 : decode b_Model_chain 33 = .ok (.goto 9, 3) := by decide +kernel
theorem d_Model_chain_36 : decode b_Model_chain 36 = .ok (.aload_n 0, 1) := by decide +kernel
theorem d_Model_chain_37 : decode b_Model_chain 37 = .ok (.getfield 139, 3) := by decide +kernel
theorem d_Model_chain_40 : decode b_Model_chain 40 = .ok (.iload_n 1, 1) := by decide +kernel
theorem d_Model_chain_41 : decode b_Model_chain 41 = .ok (.iaload, 1) := by decide +kernel
theorem d_Model_chain_42 : decode b_Model_chain 42 = .ok (.ireturn, 1) := by decide +kernel
def y_Model_count : MethodName := ⟨"TrustChainModel", "count", "(I)I"⟩
abbrev b_Model_count : ByteArray := prog_14_method_43_code
def w_Model_count : List Cond := Cond.code y_Model_count b_Model_count 2 ((some FieldType.int)) :: tb
theorem d_Model_count_0 : decode b_Model_count 0 = .ok (.aload_n 0, 1) := by decide +kernel
theorem d_Model_count_1 : decode b_Model_count 1 = .ok (.iconst 0, 1) := by decide +kernel
theorem d_Model_count_2 : decode b_Model_count 2 = .ok (.putfield 145, 3) := by decide +kernel
theorem d_Model_count_5 : decode b_Model_count 5 = .ok (.aload_n 0, 1) := by decide +kernel
theorem d_Model_count_6 : decode b_Model_count 6 = .ok (.iload_n 1, 1) := by decide +kernel
theorem d_Model_count_7 : decode b_Model_count 7 = .ok (.iconst 0, 1) := by decide +kernel
theorem d_Model_count_8 : decode b_Model_count 8 = .ok (.iconst 4, 1) := by decide +kernel
theorem d_Model_count_9 : decode b_Model_count 9 = .ok (.invokestatic 205, 3) := by decide +kernel
theorem d_Model_count_12 : decode b_Model_count 12 = .ok (.ifCond .ne 7, 3) := by decide +kernel
theorem d_Model_count_15 : decode b_Model_count 15 = .ok (.iconst 1, 1) := by decide +kernel
theorem d_Model_count_16 : decode b_Model_count 16 = .ok (.goto 4, 3) := by decide +kernel
theorem d_Model_count_19 : decode b_Model_count 19 = .ok (.iconst 0, 1) := by decide +kernel
theorem d_Model_count_20 : decode b_Model_count 20 = .ok (.iconst 1, 1) := by decide +kernel
theorem d_Model_count_21 : decode b_Model_count 21 = .ok (.invokevirtual 176, 3) := by decide +kernel
theorem d_Model_count_24 : decode b_Model_count 24 = .ok (.ifCond .eq 5, 3) := by decide +kernel
theorem d_Model_count_27 : decode b_Model_count 27 = .ok (.iconst 0, 1) := by decide +kernel
theorem d_Model_count_28 : decode b_Model_count 28 = .ok (.ireturn, 1) := by decide +kernel
theorem d_Model_count_29 : decode b_Model_count 29 = .ok (.iload_n 1, 1) := by decide +kernel
theorem d_Model_count_30 : decode b_Model_count 30 = .ok (.ifCond .ne 10, 3) := by decide +kernel
theorem d_Model_count_33 : decode b_Model_count 33 = .ok (.aload_n 0, 1) := by decide +kernel
theorem d_Model_count_34 : decode b_Model_count 34 = .ok (.getfield 183, 3) := by decide +kernel
theorem d_Model_count_37 : decode b_Model_count 37 = .ok (.goto 43, 3) := by decide +kernel
theorem d_Model_count_40 : decode b_Model_count 40 = .ok (.iload_n 1, 1) := by decide +kernel
theorem d_Model_count_41 : decode b_Model_count 41 = .ok (.iconst 1, 1) := by decide +kernel
theorem d_Model_count_42 : decode b_Model_count 42 = .ok (.if_icmp .ne 10, 3) := by decide +kernel
theorem d_Model_count_45 : decode b_Model_count 45 = .ok (.aload_n 0, 1) := by decide +kernel
theorem d_Model_count_46 : decode b_Model_count 46 = .ok (.getfield 180, 3) := by decide +kernel
theorem d_Model_count_49 : decode b_Model_count 49 = .ok (.goto 31, 3) := by decide +kernel
theorem d_Model_count_52 : decode b_Model_count 52 = .ok (.iload_n 1, 1) := by decide +kernel
theorem d_Model_count_53 : decode b_Model_count 53 = .ok (.iconst 2, 1) := by decide +kernel
theorem d_Model_count_54 : decode b_Model_count 54 = .ok (.if_icmp .ne 10, 3) := by decide +kernel
theorem d_Model_count_57 : decode b_Model_count 57 = .ok (.aload_n 0, 1) := by decide +kernel
theorem d_Model_count_58 : decode b_Model_count 58 = .ok (.getfield 321, 3) := by decide +kernel
theorem d_Model_count_61 : decode b_Model_count 61 = .ok (.goto 19, 3) := by decide +kernel
theorem d_Model_count_64 : decode b_Model_count 64 = .ok (.iload_n 1, 1) := by decide +kernel
theorem d_Model_count_65 : decode b_Model_count 65 = .ok (.iconst 3, 1) := by decide +kernel
theorem d_Model_count_66 : decode b_Model_count 66 = .ok (.if_icmp .ne 10, 3) := by decide +kernel
theorem d_Model_count_69 : decode b_Model_count 69 = .ok (.aload_n 0, 1) := by decide +kernel
theorem d_Model_count_70 : decode b_Model_count 70 = .ok (.getfield 142, 3) := by decide +kernel
theorem d_Model_count_73 : decode b_Model_count 73 = .ok (.goto 7, 3) := by decide +kernel
theorem d_Model_count_76 : decode b_Model_count 76 = .ok (.aload_n 0, 1) := by decide +kernel
theorem d_Model_count_77 : decode b_Model_count 77 = .ok (.getfield 173, 3) := by decide +kernel
theorem d_Model_count_80 : decode b_Model_count 80 = .ok (.ireturn, 1) := by decide +kernel
