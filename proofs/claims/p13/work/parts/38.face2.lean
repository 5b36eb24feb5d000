/-! TrustChain.certificate and list on an empty text. -/
def y_Arrays_copyOf0 : MethodName := ⟨"java/util/Arrays", "copyOf", "([BI)[B"⟩
abbrev b_Arrays_copyOf0 : ByteArray := prog_33_method_121_code
def w_Arrays_copyOf0 : List Cond := Cond.code y_Arrays_copyOf0 b_Arrays_copyOf0 3 ((some (FieldType.array FieldType.byte))) :: tb
theorem d_Arrays_copyOf0_0 : decode b_Arrays_copyOf0 0 = .ok (.iload_n 1, 1) := by decide +kernel
theorem d_Arrays_copyOf0_1 : decode b_Arrays_copyOf0 1 = .ok (.aload_n 0, 1) := by decide +kernel
theorem d_Arrays_copyOf0_2 : decode b_Arrays_copyOf0 2 = .ok (.arraylength, 1) := by decide +kernel
theorem d_Arrays_copyOf0_3 : decode b_Arrays_copyOf0 3 = .ok (.if_icmp .ne 11, 3) := by decide +kernel
theorem d_Arrays_copyOf0_14 : decode b_Arrays_copyOf0 14 = .ok (.iload_n 1, 1) := by decide +kernel
theorem d_Arrays_copyOf0_15 : decode b_Arrays_copyOf0 15 = .ok (.newarray .byte, 2) := by decide +kernel
theorem d_Arrays_copyOf0_17 : decode b_Arrays_copyOf0 17 = .ok (.astore_n 2, 1) := by decide +kernel
theorem d_Arrays_copyOf0_18 : decode b_Arrays_copyOf0 18 = .ok (.aload_n 0, 1) := by decide +kernel
theorem d_Arrays_copyOf0_19 : decode b_Arrays_copyOf0 19 = .ok (.iconst 0, 1) := by decide +kernel
theorem d_Arrays_copyOf0_20 : decode b_Arrays_copyOf0 20 = .ok (.aload_n 2, 1) := by decide +kernel
theorem d_Arrays_copyOf0_21 : decode b_Arrays_copyOf0 21 = .ok (.iconst 0, 1) := by decide +kernel
theorem d_Arrays_copyOf0_22 : decode b_Arrays_copyOf0 22 = .ok (.aload_n 0, 1) := by decide +kernel
theorem d_Arrays_copyOf0_23 : decode b_Arrays_copyOf0 23 = .ok (.arraylength, 1) := by decide +kernel
theorem d_Arrays_copyOf0_24 : decode b_Arrays_copyOf0 24 = .ok (.iload_n 1, 1) := by decide +kernel
theorem d_Arrays_copyOf0_25 : decode b_Arrays_copyOf0 25 = .ok (.invokestatic 304, 3) := by decide +kernel
theorem d_Arrays_copyOf0_28 : decode b_Arrays_copyOf0 28 = .ok (.invokestatic 150, 3) := by decide +kernel
theorem d_Arrays_copyOf0_31 : decode b_Arrays_copyOf0 31 = .ok (.aload_n 2, 1) := by decide +kernel
theorem d_Arrays_copyOf0_32 : decode b_Arrays_copyOf0 32 = .ok (.areturn, 1) := by decide +kernel
def y_Trust_takeText : MethodName := ⟨"TrustChain", "takeText", "(I)[B"⟩
abbrev b_Trust_takeText : ByteArray := prog_1_method_18_code
def w_Trust_takeText : List Cond := Cond.code y_Trust_takeText b_Trust_takeText 2 ((some (FieldType.array FieldType.byte))) :: tb
theorem d_Trust_takeText_0 : decode b_Trust_takeText 0 = .ok (.aload_n 0, 1) := by decide +kernel
theorem d_Trust_takeText_1 : decode b_Trust_takeText 1 = .ok (.iconst 0, 1) := by decide +kernel
theorem d_Trust_takeText_2 : decode b_Trust_takeText 2 = .ok (.putfield 68, 3) := by decide +kernel
theorem d_Trust_takeText_5 : decode b_Trust_takeText 5 = .ok (.aload_n 0, 1) := by decide +kernel
theorem d_Trust_takeText_6 : decode b_Trust_takeText 6 = .ok (.getfield 9, 3) := by decide +kernel
theorem d_Trust_takeText_9 : decode b_Trust_takeText 9 = .ok (.iload_n 1, 1) := by decide +kernel
theorem d_Trust_takeText_10 : decode b_Trust_takeText 10 = .ok (.ifCond .ge 7, 3) := by decide +kernel
theorem d_Trust_takeText_17 : decode b_Trust_takeText 17 = .ok (.iload_n 1, 1) := by decide +kernel
theorem d_Trust_takeText_18 : decode b_Trust_takeText 18 = .ok (.invokestatic 248, 3) := by decide +kernel
theorem d_Trust_takeText_21 : decode b_Trust_takeText 21 = .ok (.areturn, 1) := by decide +kernel
def y_Trust_certificate : MethodName := ⟨"TrustChain", "certificate", "(IZ)I"⟩
abbrev b_Trust_certificate : ByteArray := prog_1_method_3_code
def w_Trust_certificate : List Cond := Cond.code y_Trust_certificate b_Trust_certificate 5 ((some FieldType.int)) :: tb
theorem d_Trust_certificate_0 : decode b_Trust_certificate 0 = .ok (.aload_n 0, 1) := by decide +kernel
theorem d_Trust_certificate_1 : decode b_Trust_certificate 1 = .ok (.iload_n 1, 1) := by decide +kernel
theorem d_Trust_certificate_2 : decode b_Trust_certificate 2 = .ok (.invokevirtual 85, 3) := by decide +kernel
theorem d_Trust_certificate_5 : decode b_Trust_certificate 5 = .ok (.ifCond .eq 15, 3) := by decide +kernel
theorem d_Trust_certificate_8 : decode b_Trust_certificate 8 = .ok (.aload_n 0, 1) := by decide +kernel
theorem d_Trust_certificate_9 : decode b_Trust_certificate 9 = .ok (.getfield 19, 3) := by decide +kernel
theorem d_Trust_certificate_12 : decode b_Trust_certificate 12 = .ok (.invokevirtual 89, 3) := by decide +kernel
theorem d_Trust_certificate_15 : decode b_Trust_certificate 15 = .ok (.bipush 16, 2) := by decide +kernel
theorem d_Trust_certificate_17 : decode b_Trust_certificate 17 = .ok (.if_icmp .lt 13, 3) := by decide +kernel
theorem d_Trust_certificate_20 : decode b_Trust_certificate 20 = .ok (.new 74, 3) := by decide +kernel
theorem d_Trust_certificate_23 : decode b_Trust_certificate 23 = .ok (.dup, 1) := by decide +kernel
theorem d_Trust_certificate_24 : decode b_Trust_certificate 24 = .ok (.ldc 93, 2) := by decide +kernel
theorem d_Trust_certificate_26 : decode b_Trust_certificate 26 = .ok (.invokespecial 78, 3) := by decide +kernel
theorem d_Trust_certificate_29 : decode b_Trust_certificate 29 = .ok (.athrow, 1) := by decide +kernel
theorem d_Trust_certificate_30 : decode b_Trust_certificate 30 = .ok (.new 95, 3) := by decide +kernel
theorem d_Trust_certificate_33 : decode b_Trust_certificate 33 = .ok (.dup, 1) := by decide +kernel
theorem d_Trust_certificate_34 : decode b_Trust_certificate 34 = .ok (.aload_n 0, 1) := by decide +kernel
theorem d_Trust_certificate_35 : decode b_Trust_certificate 35 = .ok (.iload_n 1, 1) := by decide +kernel
theorem d_Trust_certificate_36 : decode b_Trust_certificate 36 = .ok (.invokevirtual 97, 3) := by decide +kernel
theorem d_Trust_certificate_39 : decode b_Trust_certificate 39 = .ok (.invokespecial 101, 3) := by decide +kernel
theorem d_Trust_certificate_42 : decode b_Trust_certificate 42 = .ok (.astore_n 3, 1) := by decide +kernel
theorem d_Trust_certificate_43 : decode b_Trust_certificate 43 = .ok (.aload_n 3, 1) := by decide +kernel
theorem d_Trust_certificate_44 : decode b_Trust_certificate 44 = .ok (.invokevirtual 104, 3) := by decide +kernel
theorem d_Trust_certificate_47 : decode b_Trust_certificate 47 = .ok (.aload_n 0, 1) := by decide +kernel
theorem d_Trust_certificate_48 : decode b_Trust_certificate 48 = .ok (.aload_n 3, 1) := by decide +kernel
theorem d_Trust_certificate_49 : decode b_Trust_certificate 49 = .ok (.getfield 107, 3) := by decide +kernel
theorem d_Trust_certificate_52 : decode b_Trust_certificate 52 = .ok (.putfield 71, 3) := by decide +kernel
theorem d_Trust_certificate_55 : decode b_Trust_certificate 55 = .ok (.aload_n 0, 1) := by decide +kernel
theorem d_Trust_certificate_56 : decode b_Trust_certificate 56 = .ok (.getfield 71, 3) := by decide +kernel
theorem d_Trust_certificate_59 : decode b_Trust_certificate 59 = .ok (.ifCond .lt 13, 3) := by decide +kernel
theorem d_Trust_certificate_62 : decode b_Trust_certificate 62 = .ok (.new 110, 3) := by decide +kernel
theorem d_Trust_certificate_65 : decode b_Trust_certificate 65 = .ok (.dup, 1) := by decide +kernel
theorem d_Trust_certificate_66 : decode b_Trust_certificate 66 = .ok (.ldc 112, 2) := by decide +kernel
theorem d_Trust_certificate_68 : decode b_Trust_certificate 68 = .ok (.invokespecial 114, 3) := by decide +kernel
theorem d_Trust_certificate_71 : decode b_Trust_certificate 71 = .ok (.athrow, 1) := by decide +kernel
def y_TrustChainLaw_certificate : MethodName := ⟨"TrustChainLaw", "certificate", "(LTrustChain;IZ[J)I"⟩
abbrev b_TrustChainLaw_certificate : ByteArray := method_4_code
def w_TrustChainLaw_certificate : List Cond := Cond.codeWith y_TrustChainLaw_certificate b_TrustChainLaw_certificate 5 (some FieldType.int) [(0, 10, 13, 13), (0, 10, 17, 19)] :: tb
theorem d_TrustChainLaw_certificate_0 : decode b_TrustChainLaw_certificate 0 = .ok (.aload_n 3, 1) := by decide +kernel
theorem d_TrustChainLaw_certificate_1 : decode b_TrustChainLaw_certificate 1 = .ok (.iconst 0, 1) := by decide +kernel
theorem d_TrustChainLaw_certificate_2 : decode b_TrustChainLaw_certificate 2 = .ok (.aload_n 0, 1) := by decide +kernel
theorem d_TrustChainLaw_certificate_3 : decode b_TrustChainLaw_certificate 3 = .ok (.iload_n 1, 1) := by decide +kernel
theorem d_TrustChainLaw_certificate_4 : decode b_TrustChainLaw_certificate 4 = .ok (.iload_n 2, 1) := by decide +kernel
theorem d_TrustChainLaw_certificate_5 : decode b_TrustChainLaw_certificate 5 = .ok (.invokevirtual 15, 3) := by decide +kernel
theorem d_TrustChainLaw_certificate_8 : decode b_TrustChainLaw_certificate 8 = .ok (.i2l, 1) := by decide +kernel
theorem d_TrustChainLaw_certificate_9 : decode b_TrustChainLaw_certificate 9 = .ok (.lastore, 1) := by decide +kernel
theorem d_TrustChainLaw_certificate_10 : decode b_TrustChainLaw_certificate 10 = .ok (.goto 11, 3) := by decide +kernel
theorem d_TrustChainLaw_certificate_13 : decode b_TrustChainLaw_certificate 13 = .ok (.astore 4, 2) := by decide +kernel
theorem d_TrustChainLaw_certificate_15 : decode b_TrustChainLaw_certificate 15 = .ok (.iconst 1, 1) := by decide +kernel
theorem d_TrustChainLaw_certificate_16 : decode b_TrustChainLaw_certificate 16 = .ok (.ireturn, 1) := by decide +kernel
theorem d_TrustChainLaw_certificate_17 : decode b_TrustChainLaw_certificate 17 = .ok (.astore 4, 2) := by decide +kernel
theorem d_TrustChainLaw_certificate_19 : decode b_TrustChainLaw_certificate 19 = .ok (.iconst 2, 1) := by decide +kernel
theorem d_TrustChainLaw_certificate_20 : decode b_TrustChainLaw_certificate 20 = .ok (.ireturn, 1) := by decide +kernel
theorem d_TrustChainLaw_certificate_21 : decode b_TrustChainLaw_certificate 21 = .ok (.iconst 0, 1) := by decide +kernel
theorem d_TrustChainLaw_certificate_22 : decode b_TrustChainLaw_certificate 22 = .ok (.ireturn, 1) := by decide +kernel
def y_Trust_list : MethodName := ⟨"TrustChain", "list", "(I)I"⟩
abbrev b_Trust_list : ByteArray := prog_1_method_4_code
def w_Trust_list : List Cond := Cond.code y_Trust_list b_Trust_list 3 ((some FieldType.int)) :: tb
theorem d_Trust_list_0 : decode b_Trust_list 0 = .ok (.aload_n 0, 1) := by decide +kernel
theorem d_Trust_list_1 : decode b_Trust_list 1 = .ok (.iload_n 1, 1) := by decide +kernel
theorem d_Trust_list_2 : decode b_Trust_list 2 = .ok (.invokevirtual 85, 3) := by decide +kernel
theorem d_Trust_list_5 : decode b_Trust_list 5 = .ok (.ifCond .eq 15, 3) := by decide +kernel
theorem d_Trust_list_8 : decode b_Trust_list 8 = .ok (.aload_n 0, 1) := by decide +kernel
theorem d_Trust_list_9 : decode b_Trust_list 9 = .ok (.getfield 23, 3) := by decide +kernel
theorem d_Trust_list_12 : decode b_Trust_list 12 = .ok (.invokevirtual 89, 3) := by decide +kernel
theorem d_Trust_list_15 : decode b_Trust_list 15 = .ok (.bipush 8, 2) := by decide +kernel
theorem d_Trust_list_17 : decode b_Trust_list 17 = .ok (.if_icmp .lt 13, 3) := by decide +kernel
theorem d_Trust_list_20 : decode b_Trust_list 20 = .ok (.new 74, 3) := by decide +kernel
theorem d_Trust_list_23 : decode b_Trust_list 23 = .ok (.dup, 1) := by decide +kernel
theorem d_Trust_list_24 : decode b_Trust_list 24 = .ok (.ldc 93, 2) := by decide +kernel
theorem d_Trust_list_26 : decode b_Trust_list 26 = .ok (.invokespecial 78, 3) := by decide +kernel
theorem d_Trust_list_29 : decode b_Trust_list 29 = .ok (.athrow, 1) := by decide +kernel
theorem d_Trust_list_30 : decode b_Trust_list 30 = .ok (.new 146, 3) := by decide +kernel
theorem d_Trust_list_33 : decode b_Trust_list 33 = .ok (.dup, 1) := by decide +kernel
theorem d_Trust_list_34 : decode b_Trust_list 34 = .ok (.aload_n 0, 1) := by decide +kernel
theorem d_Trust_list_35 : decode b_Trust_list 35 = .ok (.iload_n 1, 1) := by decide +kernel
theorem d_Trust_list_36 : decode b_Trust_list 36 = .ok (.invokevirtual 97, 3) := by decide +kernel
theorem d_Trust_list_39 : decode b_Trust_list 39 = .ok (.invokespecial 148, 3) := by decide +kernel
theorem d_Trust_list_42 : decode b_Trust_list 42 = .ok (.astore_n 2, 1) := by decide +kernel
theorem d_Trust_list_43 : decode b_Trust_list 43 = .ok (.aload_n 2, 1) := by decide +kernel
theorem d_Trust_list_44 : decode b_Trust_list 44 = .ok (.invokevirtual 149, 3) := by decide +kernel
theorem d_Trust_list_47 : decode b_Trust_list 47 = .ok (.aload_n 0, 1) := by decide +kernel
theorem d_Trust_list_48 : decode b_Trust_list 48 = .ok (.aload_n 2, 1) := by decide +kernel
theorem d_Trust_list_49 : decode b_Trust_list 49 = .ok (.getfield 152, 3) := by decide +kernel
theorem d_Trust_list_52 : decode b_Trust_list 52 = .ok (.putfield 71, 3) := by decide +kernel
theorem d_Trust_list_55 : decode b_Trust_list 55 = .ok (.aload_n 0, 1) := by decide +kernel
theorem d_Trust_list_56 : decode b_Trust_list 56 = .ok (.getfield 71, 3) := by decide +kernel
theorem d_Trust_list_59 : decode b_Trust_list 59 = .ok (.ifCond .lt 13, 3) := by decide +kernel
theorem d_Trust_list_62 : decode b_Trust_list 62 = .ok (.new 110, 3) := by decide +kernel
theorem d_Trust_list_65 : decode b_Trust_list 65 = .ok (.dup, 1) := by decide +kernel
theorem d_Trust_list_66 : decode b_Trust_list 66 = .ok (.ldc 112, 2) := by decide +kernel
theorem d_Trust_list_68 : decode b_Trust_list 68 = .ok (.invokespecial 114, 3) := by decide +kernel
theorem d_Trust_list_71 : decode b_Trust_list 71 = .ok (.athrow, 1) := by decide +kernel
def y_TrustChainLaw_list : MethodName := ⟨"TrustChainLaw", "list", "(LTrustChain;I[J)I"⟩
abbrev b_TrustChainLaw_list : ByteArray := method_5_code
def w_TrustChainLaw_list : List Cond := Cond.codeWith y_TrustChainLaw_list b_TrustChainLaw_list 4 (some FieldType.int) [(0, 9, 12, 13), (0, 9, 15, 19)] :: tb
theorem d_TrustChainLaw_list_0 : decode b_TrustChainLaw_list 0 = .ok (.aload_n 2, 1) := by decide +kernel
theorem d_TrustChainLaw_list_1 : decode b_TrustChainLaw_list 1 = .ok (.iconst 0, 1) := by decide +kernel
theorem d_TrustChainLaw_list_2 : decode b_TrustChainLaw_list 2 = .ok (.aload_n 0, 1) := by decide +kernel
theorem d_TrustChainLaw_list_3 : decode b_TrustChainLaw_list 3 = .ok (.iload_n 1, 1) := by decide +kernel
theorem d_TrustChainLaw_list_4 : decode b_TrustChainLaw_list 4 = .ok (.invokevirtual 21, 3) := by decide +kernel
theorem d_TrustChainLaw_list_7 : decode b_TrustChainLaw_list 7 = .ok (.i2l, 1) := by decide +kernel
theorem d_TrustChainLaw_list_8 : decode b_TrustChainLaw_list 8 = .ok (.lastore, 1) := by decide +kernel
theorem d_TrustChainLaw_list_9 : decode b_TrustChainLaw_list 9 = .ok (.goto 9, 3) := by decide +kernel
theorem d_TrustChainLaw_list_12 : decode b_TrustChainLaw_list 12 = .ok (.astore_n 3, 1) := by decide +kernel
theorem d_TrustChainLaw_list_13 : decode b_TrustChainLaw_list 13 = .ok (.iconst 1, 1) := by decide +kernel
theorem d_TrustChainLaw_list_14 : decode b_TrustChainLaw_list 14 = .ok (.ireturn, 1) := by decide +kernel
theorem d_TrustChainLaw_list_15 : decode b_TrustChainLaw_list 15 = .ok (.astore_n 3, 1) := by decide +kernel
theorem d_TrustChainLaw_list_16 : decode b_TrustChainLaw_list 16 = .ok (.iconst 2, 1) := by decide +kernel
theorem d_TrustChainLaw_list_17 : decode b_TrustChainLaw_list 17 = .ok (.ireturn, 1) := by decide +kernel
theorem d_TrustChainLaw_list_18 : decode b_TrustChainLaw_list 18 = .ok (.iconst 0, 1) := by decide +kernel
theorem d_TrustChainLaw_list_19 : decode b_TrustChainLaw_list 19 = .ok (.ireturn, 1) := by decide +kernel
